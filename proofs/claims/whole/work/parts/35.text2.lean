theorem dX5_order_0 : decode cX5_order 0 = .ok (.aload_n 0, 1) := by decide +kernel
theorem dX5_order_1 : decode cX5_order 1 = .ok (.getfield 130, 3) := by decide +kernel
theorem dX5_order_4 : decode cX5_order 4 = .ok (.aload_n 0, 1) := by decide +kernel
theorem dX5_order_5 : decode cX5_order 5 = .ok (.getfield 127, 3) := by decide +kernel
theorem dX5_order_8 : decode cX5_order 8 = .ok (.if_icmp .ge 15, 3) := by decide +kernel
theorem dX5_order_11 : decode cX5_order 11 = .ok (.aload_n 0, 1) := by decide +kernel
theorem dX5_order_12 : decode cX5_order 12 = .ok (.getfield 19, 3) := by decide +kernel
theorem dX5_order_15 : decode cX5_order 15 = .ok (.aload_n 0, 1) := by decide +kernel
theorem dX5_order_16 : decode cX5_order 16 = .ok (.getfield 130, 3) := by decide +kernel
theorem dX5_order_19 : decode cX5_order 19 = .ok (.iaload, 1) := by decide +kernel
theorem dX5_order_20 : decode cX5_order 20 = .ok (.goto 4, 3) := by decide +kernel
theorem dX5_order_23 : decode cX5_order 23 = .ok (.iconst 0, 1) := by decide +kernel
theorem dX5_order_24 : decode cX5_order 24 = .ok (.istore_n 1, 1) := by decide +kernel
theorem dX5_order_25 : decode cX5_order 25 = .ok (.aload_n 0, 1) := by decide +kernel
theorem dX5_order_26 : decode cX5_order 26 = .ok (.aload_n 0, 1) := by decide +kernel
theorem dX5_order_27 : decode cX5_order 27 = .ok (.getfield 133, 3) := by decide +kernel
theorem dX5_order_30 : decode cX5_order 30 = .ok (.ifCond .ne 33, 3) := by decide +kernel
theorem dX5_order_33 : decode cX5_order 33 = .ok (.iload_n 1, 1) := by decide +kernel
theorem dX5_order_34 : decode cX5_order 34 = .ok (.bipush 122, 2) := by decide +kernel
theorem dX5_order_36 : decode cX5_order 36 = .ok (.if_icmp .eq 31, 3) := by decide +kernel
theorem dX5_order_39 : decode cX5_order 39 = .ok (.iload_n 1, 1) := by decide +kernel
theorem dX5_order_40 : decode cX5_order 40 = .ok (.bipush 110, 2) := by decide +kernel
theorem dX5_order_42 : decode cX5_order 42 = .ok (.if_icmp .eq 25, 3) := by decide +kernel
theorem dX5_order_45 : decode cX5_order 45 = .ok (.iload_n 1, 1) := by decide +kernel
theorem dX5_order_46 : decode cX5_order 46 = .ok (.bipush 116, 2) := by decide +kernel
theorem dX5_order_48 : decode cX5_order 48 = .ok (.if_icmp .eq 19, 3) := by decide +kernel
theorem dX5_order_51 : decode cX5_order 51 = .ok (.iload_n 1, 1) := by decide +kernel
theorem dX5_order_52 : decode cX5_order 52 = .ok (.bipush 98, 2) := by decide +kernel
theorem dX5_order_54 : decode cX5_order 54 = .ok (.if_icmp .eq 13, 3) := by decide +kernel
theorem dX5_order_57 : decode cX5_order 57 = .ok (.iload_n 1, 1) := by decide +kernel
theorem dX5_order_58 : decode cX5_order 58 = .ok (.bipush 104, 2) := by decide +kernel
theorem dX5_order_60 : decode cX5_order 60 = .ok (.if_icmp .eq 7, 3) := by decide +kernel
theorem dX5_order_63 : decode cX5_order 63 = .ok (.iconst 1, 1) := by decide +kernel
theorem dX5_order_64 : decode cX5_order 64 = .ok (.goto 4, 3) := by decide +kernel
theorem dX5_order_67 : decode cX5_order 67 = .ok (.iconst 0, 1) := by decide +kernel
theorem dX5_order_68 : decode cX5_order 68 = .ok (.putfield 133, 3) := by decide +kernel
theorem dX5_order_71 : decode cX5_order 71 = .ok (.aload_n 0, 1) := by decide +kernel
theorem dX5_order_72 : decode cX5_order 72 = .ok (.dup, 1) := by decide +kernel
theorem dX5_order_73 : decode cX5_order 73 = .ok (.getfield 130, 3) := by decide +kernel
theorem dX5_order_76 : decode cX5_order 76 = .ok (.aload_n 0, 1) := by decide +kernel
theorem dX5_order_77 : decode cX5_order 77 = .ok (.getfield 133, 3) := by decide +kernel
theorem dX5_order_80 : decode cX5_order 80 = .ok (.ifCond .eq 7, 3) := by decide +kernel
theorem dX5_order_83 : decode cX5_order 83 = .ok (.iconst 0, 1) := by decide +kernel
theorem dX5_order_84 : decode cX5_order 84 = .ok (.goto 4, 3) := by decide +kernel
theorem dX5_order_87 : decode cX5_order 87 = .ok (.iconst 1, 1) := by decide +kernel
theorem dX5_order_88 : decode cX5_order 88 = .ok (.iadd, 1) := by decide +kernel
theorem dX5_order_89 : decode cX5_order 89 = .ok (.putfield 130, 3) := by decide +kernel
theorem dX5_order_92 : decode cX5_order 92 = .ok (.aload_n 0, 1) := by decide +kernel
theorem dX5_order_93 : decode cX5_order 93 = .ok (.iload_n 1, 1) := by decide +kernel
theorem dX5_order_94 : decode cX5_order 94 = .ok (.putfield 140, 3) := by decide +kernel
theorem dX5_order_97 : decode cX5_order 97 = .ok (.aload_n 0, 1) := by decide +kernel
theorem dX5_order_98 : decode cX5_order 98 = .ok (.iconst 0, 1) := by decide +kernel
theorem dX5_order_99 : decode cX5_order 99 = .ok (.putfield 143, 3) := by decide +kernel
theorem dX5_order_102 : decode cX5_order 102 = .ok (.aload_n 0, 1) := by decide +kernel
theorem dX5_order_103 : decode cX5_order 103 = .ok (.iconst 0, 1) := by decide +kernel
theorem dX5_order_104 : decode cX5_order 104 = .ok (.putfield 146, 3) := by decide +kernel
theorem dX5_order_107 : decode cX5_order 107 = .ok (.iload_n 1, 1) := by decide +kernel
theorem dX5_order_108 : decode cX5_order 108 = .ok (.bipush 122, 2) := by decide +kernel
theorem dX5_order_110 : decode cX5_order 110 = .ok (.if_icmp .ne 37, 3) := by decide +kernel
theorem dX5_order_113 : decode cX5_order 113 = .ok (.aload_n 0, 1) := by decide +kernel
theorem dX5_order_114 : decode cX5_order 114 = .ok (.aload_n 0, 1) := by decide +kernel
theorem dX5_order_115 : decode cX5_order 115 = .ok (.iconst 0, 1) := by decide +kernel
theorem dX5_order_116 : decode cX5_order 116 = .ok (.bipush 24, 2) := by decide +kernel
theorem dX5_order_118 : decode cX5_order 118 = .ok (.invokevirtual 149, 3) := by decide +kernel
theorem dX5_order_121 : decode cX5_order 121 = .ok (.putfield 143, 3) := by decide +kernel
theorem dX5_order_124 : decode cX5_order 124 = .ok (.aload_n 0, 1) := by decide +kernel
theorem dX5_order_125 : decode cX5_order 125 = .ok (.bipush 61, 2) := by decide +kernel
theorem dX5_order_127 : decode cX5_order 127 = .ok (.bipush 61, 2) := by decide +kernel
theorem dX5_order_129 : decode cX5_order 129 = .ok (.invokevirtual 137, 3) := by decide +kernel
theorem dX5_order_132 : decode cX5_order 132 = .ok (.istore_n 2, 1) := by decide +kernel
theorem dX5_order_133 : decode cX5_order 133 = .ok (.aload_n 0, 1) := by decide +kernel
theorem dX5_order_134 : decode cX5_order 134 = .ok (.aload_n 0, 1) := by decide +kernel
theorem dX5_order_135 : decode cX5_order 135 = .ok (.iconst 0, 1) := by decide +kernel
theorem dX5_order_136 : decode cX5_order 136 = .ok (.bipush 10, 2) := by decide +kernel
theorem dX5_order_138 : decode cX5_order 138 = .ok (.invokevirtual 149, 3) := by decide +kernel
theorem dX5_order_141 : decode cX5_order 141 = .ok (.putfield 146, 3) := by decide +kernel
theorem dX5_order_144 : decode cX5_order 144 = .ok (.goto 115, 3) := by decide +kernel
theorem dX5_order_147 : decode cX5_order 147 = .ok (.iload_n 1, 1) := by decide +kernel
theorem dX5_order_148 : decode cX5_order 148 = .ok (.bipush 110, 2) := by decide +kernel
theorem dX5_order_150 : decode cX5_order 150 = .ok (.if_icmp .ne 52, 3) := by decide +kernel
theorem dX5_order_153 : decode cX5_order 153 = .ok (.aload_n 0, 1) := by decide +kernel
theorem dX5_order_154 : decode cX5_order 154 = .ok (.aload_n 0, 1) := by decide +kernel
theorem dX5_order_155 : decode cX5_order 155 = .ok (.bipush 48, 2) := by decide +kernel
theorem dX5_order_157 : decode cX5_order 157 = .ok (.bipush 54, 2) := by decide +kernel
theorem dX5_order_159 : decode cX5_order 159 = .ok (.invokevirtual 137, 3) := by decide +kernel
theorem dX5_order_162 : decode cX5_order 162 = .ok (.bipush 48, 2) := by decide +kernel
theorem dX5_order_164 : decode cX5_order 164 = .ok (.isub, 1) := by decide +kernel
theorem dX5_order_165 : decode cX5_order 165 = .ok (.putfield 143, 3) := by decide +kernel
theorem dX5_order_168 : decode cX5_order 168 = .ok (.aload_n 0, 1) := by decide +kernel
theorem dX5_order_169 : decode cX5_order 169 = .ok (.aload_n 0, 1) := by decide +kernel
theorem dX5_order_170 : decode cX5_order 170 = .ok (.getfield 133, 3) := by decide +kernel
theorem dX5_order_173 : decode cX5_order 173 = .ok (.ifCond .eq 7, 3) := by decide +kernel
theorem dX5_order_176 : decode cX5_order 176 = .ok (.iconst 0, 1) := by decide +kernel
theorem dX5_order_177 : decode cX5_order 177 = .ok (.goto 19, 3) := by decide +kernel
theorem dX5_order_180 : decode cX5_order 180 = .ok (.aload_n 0, 1) := by decide +kernel
theorem dX5_order_181 : decode cX5_order 181 = .ok (.bipush 49, 2) := by decide +kernel
theorem dX5_order_183 : decode cX5_order 183 = .ok (.aload_n 0, 1) := by decide +kernel
theorem dX5_order_184 : decode cX5_order 184 = .ok (.getfield 143, 3) := by decide +kernel
theorem dX5_order_187 : decode cX5_order 187 = .ok (.iadd, 1) := by decide +kernel
theorem dX5_order_188 : decode cX5_order 188 = .ok (.bipush 55, 2) := by decide +kernel
theorem dX5_order_190 : decode cX5_order 190 = .ok (.invokevirtual 137, 3) := by decide +kernel
theorem dX5_order_193 : decode cX5_order 193 = .ok (.bipush 48, 2) := by decide +kernel
theorem dX5_order_195 : decode cX5_order 195 = .ok (.isub, 1) := by decide +kernel
theorem dX5_order_196 : decode cX5_order 196 = .ok (.putfield 146, 3) := by decide +kernel
theorem dX5_order_199 : decode cX5_order 199 = .ok (.goto 60, 3) := by decide +kernel
theorem dX5_order_202 : decode cX5_order 202 = .ok (.iload_n 1, 1) := by decide +kernel
theorem dX5_order_203 : decode cX5_order 203 = .ok (.bipush 116, 2) := by decide +kernel
theorem dX5_order_205 : decode cX5_order 205 = .ok (.if_icmp .ne 18, 3) := by decide +kernel
theorem dX5_order_208 : decode cX5_order 208 = .ok (.aload_n 0, 1) := by decide +kernel
theorem dX5_order_209 : decode cX5_order 209 = .ok (.aload_n 0, 1) := by decide +kernel
theorem dX5_order_210 : decode cX5_order 210 = .ok (.iconst 1, 1) := by decide +kernel
theorem dX5_order_211 : decode cX5_order 211 = .ok (.sipush 2000, 3) := by decide +kernel
theorem dX5_order_214 : decode cX5_order 214 = .ok (.invokevirtual 149, 3) := by decide +kernel
theorem dX5_order_217 : decode cX5_order 217 = .ok (.putfield 143, 3) := by decide +kernel
theorem dX5_order_220 : decode cX5_order 220 = .ok (.goto 39, 3) := by decide +kernel
theorem dX5_order_223 : decode cX5_order 223 = .ok (.aload_n 0, 1) := by decide +kernel
theorem dX5_order_224 : decode cX5_order 224 = .ok (.aload_n 0, 1) := by decide +kernel
theorem dX5_order_225 : decode cX5_order 225 = .ok (.bipush 48, 2) := by decide +kernel
theorem dX5_order_227 : decode cX5_order 227 = .ok (.bipush 55, 2) := by decide +kernel
theorem dX5_order_229 : decode cX5_order 229 = .ok (.invokevirtual 137, 3) := by decide +kernel
theorem dX5_order_232 : decode cX5_order 232 = .ok (.bipush 48, 2) := by decide +kernel
theorem dX5_order_234 : decode cX5_order 234 = .ok (.isub, 1) := by decide +kernel
theorem dX5_order_235 : decode cX5_order 235 = .ok (.putfield 143, 3) := by decide +kernel
theorem dX5_order_238 : decode cX5_order 238 = .ok (.aload_n 0, 1) := by decide +kernel
theorem dX5_order_239 : decode cX5_order 239 = .ok (.bipush 58, 2) := by decide +kernel
theorem dX5_order_241 : decode cX5_order 241 = .ok (.bipush 58, 2) := by decide +kernel
theorem dX5_order_243 : decode cX5_order 243 = .ok (.invokevirtual 137, 3) := by decide +kernel
theorem dX5_order_246 : decode cX5_order 246 = .ok (.istore_n 2, 1) := by decide +kernel
theorem dX5_order_247 : decode cX5_order 247 = .ok (.aload_n 0, 1) := by decide +kernel
theorem dX5_order_248 : decode cX5_order 248 = .ok (.aload_n 0, 1) := by decide +kernel
theorem dX5_order_249 : decode cX5_order 249 = .ok (.iconst 0, 1) := by decide +kernel
theorem dX5_order_250 : decode cX5_order 250 = .ok (.sipush 999, 3) := by decide +kernel
theorem dX5_order_253 : decode cX5_order 253 = .ok (.invokevirtual 149, 3) := by decide +kernel
theorem dX5_order_256 : decode cX5_order 256 = .ok (.putfield 146, 3) := by decide +kernel
theorem dX5_order_259 : decode cX5_order 259 = .ok (.return_, 1) := by decide +kernel
def q_X5_order (S : zM) : zM → Prop := fun S1 => zMo S (pOrd (S 9 0) (S 9 4) (pWo (S 9 0) (S 9 4))) (S 9 1) (S 9 2) (S 9 3) (S 9 4) (S 9 5) (S 9 6) = S1
def r_X5_order : Room := { frames := 3, cells := 0, slots := 0, locals := 68 }
set_option maxHeartbeats 4000000 in
set_option maxRecDepth 100000 in
theorem c_X5_order (l : Launch) (G : zG) (hG : zok G) (S : zM) (hpi : pI (S 9 0) (S 9 4)) : Met l yX5_order (Cond.code yX5_order cX5_order 3 (none : Option FieldType) :: zTbl) r_X5_order (va_Pc [.ref (za G 9 0)] (zB G S)) (va_Qv (q_X5_order S) (zB G) (zA G)) 0 0 (zA G) := by
  refine zMet [(0, .ref (za G 9 0))] hG (by decide) (Nat.le_of_ble_eq_true rfl) rfl (fun p e s m args below meth c ls h hx hb hr hH hl => ?_)
  obtain ⟨p1, p2, p3, p4⟩ := id hpi
  rw [← zM_id S] at hH
  have C107 : ∀ (f1 : Int → Int) (H : Heap) (locs : List Loc) (ls : Array Slot), (f1 = pO0 (S 9 0) (S 9 4) (pWo (S 9 0) (S 9 4))) → zH G (zMo S f1 (S 9 1) (S 9 2) (S 9 3) (S 9 4) (S 9 5) (S 9 6)) s H locs → lv_has ls 3 [(0, .ref (za G 9 0)), (1, .int (zI (pC (S 9 0) (S 9 4))))] → W p l e r_X5_order s m args below meth c H locs 0 0 (MQ below (va_Qv (q_X5_order S) (zB G) (zA G)) args s 0 0 (zA G)) (F0 m 107 ls []) := by
    intro f1 H locs ls hf1 hH hl
    have hp1 : pI f1 (S 9 4) := by rw [hf1]; exact pO0_in hpi (pWo_in _ _)
    have bx := pC_in hpi
    have hp4 := hp1.2.2.1
    refine lv_iload_n hx hb dX5_order_107 rfl (lv_at hl 1 rfl) ?_
    refine zb_bi h dX5_order_108 (by decide) (by decide) ?_
    refine zb_cne (tgt := 147) h (by omega) (by omega) dX5_order_110 (by decide) (fun c_110 => ?_) (fun c_110 => ?_)
    · refine lv_iload_n hx hb dX5_order_147 rfl (lv_at hl 1 rfl) ?_
      refine zb_bi h dX5_order_148 (by decide) (by decide) ?_
      refine zb_cne (tgt := 202) h (by omega) (by omega) dX5_order_150 (by decide) (fun c_150 => ?_) (fun c_150 => ?_)
      · refine lv_iload_n hx hb dX5_order_202 rfl (lv_at hl 1 rfl) ?_
        refine zb_bi h dX5_order_203 (by decide) (by decide) ?_
        refine zb_cne (tgt := 223) h (by omega) (by omega) dX5_order_205 (by decide) (fun c_205 => ?_) (fun c_205 => ?_)
        · refine lv_aload_n hx hb dX5_order_223 rfl (lv_at hl 0 rfl) ?_
          refine lv_aload_n hx hb dX5_order_224 rfl (lv_at hl 0 rfl) ?_
          refine zb_bi h dX5_order_225 (by decide) (by decide) ?_
          refine zb_bi h dX5_order_227 (by decide) (by decide) ?_
          refine zcVi h hH (zr_5 h hH) (As := [.int (zI 48), .int (zI 55)]) (rest := [.ref (za G 9 0)]) (c_X5_sign l G hG (zMo S f1 (S 9 1) (S 9 2) (S 9 3) (S 9 4) (S 9 5) (S 9 6)) 48 55 (by omega) (by omega) (by rw [zM_0, zM_4]; exact hp1)) zce_X5_sign zcv_X5_sign zm_X5_137 hl.1 rfl rfl ⟨rfl, rfl⟩ ⟨Nat.le_of_ble_eq_true rfl, Nat.le_of_ble_eq_true rfl⟩ (Nat.le_of_ble_eq_true rfl) ⟨Nat.zero_le _, Nat.zero_le _⟩ dX5_order_229 (fun r_229 S_229 H locs hq hH => ?_)
          obtain ⟨rfl, rfl⟩ := hq
          simp only [zM_M, zM_0, zM_1, zM_2, zM_3, zM_4, zM_5, zM_6] at hH
          rw [zM_0, zM_4]
          refine zb_bi h dX5_order_232 (by decide) (by decide) ?_
          refine zb_isub h dX5_order_234 ?_
          refine zu_5_12 h hH zf_X5_143 dX5_order_235 (fun H locs hH => ?_)
          rw [zs_M0] at hH
          refine lv_aload_n hx hb dX5_order_238 rfl (lv_at hl 0 rfl) ?_
          refine zb_bi h dX5_order_239 (by decide) (by decide) ?_
          refine zb_bi h dX5_order_241 (by decide) (by decide) ?_
          refine zcVi h hH (zr_5 h hH) (As := [.int (zI 58), .int (zI 58)]) (rest := []) (c_X5_sign l G hG (zMo S (zup (pF f1 (S 9 4) 48 55) 12 ((pC f1 (S 9 4)) - 48)) (S 9 1) (S 9 2) (S 9 3) (S 9 4) (S 9 5) (S 9 6)) 58 58 (by omega) (by omega) (by rw [zM_0, zM_4]; exact (pI_up (pF_in hp1 (by omega)) (by omega) _))) zce_X5_sign zcv_X5_sign zm_X5_137 hl.1 rfl rfl ⟨rfl, rfl⟩ ⟨Nat.le_of_ble_eq_true rfl, Nat.le_of_ble_eq_true rfl⟩ (Nat.le_of_ble_eq_true rfl) ⟨Nat.zero_le _, Nat.zero_le _⟩ dX5_order_243 (fun r_243 S_243 H locs hq hH => ?_)
          obtain ⟨rfl, rfl⟩ := hq
          simp only [zM_M, zM_0, zM_1, zM_2, zM_3, zM_4, zM_5, zM_6] at hH
          rw [zM_0, zM_4]
          refine lv_istore_n (lv' := [(2, .int (zI (pC (zup (pF f1 (S 9 4) 48 55) 12 (pC f1 (S 9 4) - 48)) (S 9 4)))), (0, .ref (za G 9 0)), (1, .int (zI (pC (S 9 0) (S 9 4))))]) hx hb dX5_order_246 rfl hl (by decide) rfl (fun ls hl => ?_)
          refine lv_aload_n hx hb dX5_order_247 rfl (lv_at hl 1 rfl) ?_
          refine lv_aload_n hx hb dX5_order_248 rfl (lv_at hl 1 rfl) ?_
          refine zb_ic h dX5_order_249 ?_
          refine zb_si h dX5_order_250 (by decide) (by decide) ?_
          refine zcVi h hH (zr_5 h hH) (As := [.int (zI 0), .int (zI 999)]) (rest := [.ref (za G 9 0)]) (c_X5_number l G hG (zMo S (pF (zup (pF f1 (S 9 4) 48 55) 12 (pC f1 (S 9 4) - 48)) (S 9 4) 58 58) (S 9 1) (S 9 2) (S 9 3) (S 9 4) (S 9 5) (S 9 6)) 0 999 (by omega) (by omega) (by rw [zM_0, zM_4]; exact (pF_in (pI_up (pF_in hp1 (by omega)) (by omega) _) (by omega)))) zce_X5_number zcv_X5_number zm_X5_149 hl.1 rfl rfl ⟨rfl, rfl⟩ ⟨Nat.le_of_ble_eq_true rfl, Nat.le_of_ble_eq_true rfl⟩ (Nat.le_of_ble_eq_true rfl) ⟨Nat.zero_le _, Nat.zero_le _⟩ dX5_order_253 (fun r_253 S_253 H locs hq hH => ?_)
          obtain ⟨rfl, rfl⟩ := hq
          simp only [zM_M, zM_0, zM_1, zM_2, zM_3, zM_4, zM_5, zM_6] at hH
          rw [zM_0, zM_4]
          refine zu_5_13 h hH zf_X5_146 dX5_order_256 (fun H locs hH => ?_)
          rw [zs_M0] at hH
          refine zrv h hr hH ?_ dX5_order_259
          refine (show zMo S (pOrd (S 9 0) (S 9 4) (pWo (S 9 0) (S 9 4))) (S 9 1) (S 9 2) (S 9 3) (S 9 4) (S 9 5) (S 9 6) = _ from ?_)
          unfold pOrd
          first | (rw [if_pos c_110, ← hf1]; rfl) | (rw [if_neg c_110, if_pos c_150, ← hf1]; unfold pOn; rw [if_pos (show pO1 f1 (S 9 4) 54 10 ≠ 0 by omega)]; rfl) | (rw [if_neg c_110, if_pos c_150, ← hf1]; unfold pOn; rw [if_neg (show ¬ pO1 f1 (S 9 4) 54 10 ≠ 0 by omega), e_12]; rfl) | (rw [if_neg c_110, if_neg c_150, if_pos c_205, ← hf1]; rfl) | (rw [if_neg c_110, if_neg c_150, if_neg c_205, ← hf1]; rfl)
        · refine lv_aload_n hx hb dX5_order_208 rfl (lv_at hl 0 rfl) ?_
          refine lv_aload_n hx hb dX5_order_209 rfl (lv_at hl 0 rfl) ?_
          refine zb_ic h dX5_order_210 ?_
          refine zb_si h dX5_order_211 (by decide) (by decide) ?_
          refine zcVi h hH (zr_5 h hH) (As := [.int (zI 1), .int (zI 2000)]) (rest := [.ref (za G 9 0)]) (c_X5_number l G hG (zMo S f1 (S 9 1) (S 9 2) (S 9 3) (S 9 4) (S 9 5) (S 9 6)) 1 2000 (by omega) (by omega) (by rw [zM_0, zM_4]; exact hp1)) zce_X5_number zcv_X5_number zm_X5_149 hl.1 rfl rfl ⟨rfl, rfl⟩ ⟨Nat.le_of_ble_eq_true rfl, Nat.le_of_ble_eq_true rfl⟩ (Nat.le_of_ble_eq_true rfl) ⟨Nat.zero_le _, Nat.zero_le _⟩ dX5_order_214 (fun r_214 S_214 H locs hq hH => ?_)
          obtain ⟨rfl, rfl⟩ := hq
          simp only [zM_M, zM_0, zM_1, zM_2, zM_3, zM_4, zM_5, zM_6] at hH
          rw [zM_0, zM_4]
          refine zu_5_12 h hH zf_X5_143 dX5_order_217 (fun H locs hH => ?_)
          rw [zs_M0] at hH
          refine lv_goto (tgt := 259) hx hb dX5_order_220 (by decide) ?_
          refine zrv h hr hH ?_ dX5_order_259
          refine (show zMo S (pOrd (S 9 0) (S 9 4) (pWo (S 9 0) (S 9 4))) (S 9 1) (S 9 2) (S 9 3) (S 9 4) (S 9 5) (S 9 6) = _ from ?_)
          unfold pOrd
          first | (rw [if_pos c_110, ← hf1]; rfl) | (rw [if_neg c_110, if_pos c_150, ← hf1]; unfold pOn; rw [if_pos (show pO1 f1 (S 9 4) 54 10 ≠ 0 by omega)]; rfl) | (rw [if_neg c_110, if_pos c_150, ← hf1]; unfold pOn; rw [if_neg (show ¬ pO1 f1 (S 9 4) 54 10 ≠ 0 by omega), e_12]; rfl) | (rw [if_neg c_110, if_neg c_150, if_pos c_205, ← hf1]; rfl) | (rw [if_neg c_110, if_neg c_150, if_neg c_205, ← hf1]; rfl)
      · refine lv_aload_n hx hb dX5_order_153 rfl (lv_at hl 0 rfl) ?_
        refine lv_aload_n hx hb dX5_order_154 rfl (lv_at hl 0 rfl) ?_
        refine zb_bi h dX5_order_155 (by decide) (by decide) ?_
        refine zb_bi h dX5_order_157 (by decide) (by decide) ?_
        refine zcVi h hH (zr_5 h hH) (As := [.int (zI 48), .int (zI 54)]) (rest := [.ref (za G 9 0)]) (c_X5_sign l G hG (zMo S f1 (S 9 1) (S 9 2) (S 9 3) (S 9 4) (S 9 5) (S 9 6)) 48 54 (by omega) (by omega) (by rw [zM_0, zM_4]; exact hp1)) zce_X5_sign zcv_X5_sign zm_X5_137 hl.1 rfl rfl ⟨rfl, rfl⟩ ⟨Nat.le_of_ble_eq_true rfl, Nat.le_of_ble_eq_true rfl⟩ (Nat.le_of_ble_eq_true rfl) ⟨Nat.zero_le _, Nat.zero_le _⟩ dX5_order_159 (fun r_159 S_159 H locs hq hH => ?_)
        obtain ⟨rfl, rfl⟩ := hq
        simp only [zM_M, zM_0, zM_1, zM_2, zM_3, zM_4, zM_5, zM_6] at hH
        rw [zM_0, zM_4]
        refine zb_bi h dX5_order_162 (by decide) (by decide) ?_
        refine zb_isub h dX5_order_164 ?_
        refine zu_5_12 h hH zf_X5_143 dX5_order_165 (fun H locs hH => ?_)
        rw [zs_M0] at hH
        have e_10 : pO1 f1 (S 9 4) 54 10 = pF f1 (S 9 4) 48 54 10 := zup_n (by omega)
        have e_12 : pO1 f1 (S 9 4) 54 12 = pC f1 (S 9 4) - 48 := zup_s _ _ _
        have bq := (pF_in hp1 (lo := 48) (hi := 54) (by omega)).2.2.1
        refine lv_aload_n hx hb dX5_order_168 rfl (lv_at hl 0 rfl) ?_
        refine lv_aload_n hx hb dX5_order_169 rfl (lv_at hl 0 rfl) ?_
        refine zg_5_10 h hH zf_X5_133 dX5_order_170 ?_
        rw [zM_0]
        rw [show (zup (pF f1 (S 9 4) 48 54) 12 ((pC f1 (S 9 4)) - 48) 10 : Int) = pF f1 (S 9 4) 48 54 10 from by (first | rw [zup_s] | rw [zup_n (by omega)])]
        refine zb_ieq (tgt := 180) h (by omega) dX5_order_173 (by decide) (fun c_173 => ?_) (fun c_173 => ?_)
        · refine lv_aload_n hx hb dX5_order_180 rfl (lv_at hl 0 rfl) ?_
          refine zb_bi h dX5_order_181 (by decide) (by decide) ?_
          refine lv_aload_n hx hb dX5_order_183 rfl (lv_at hl 0 rfl) ?_
          refine zg_5_12 h hH zf_X5_143 dX5_order_184 ?_
          rw [zM_0]
          rw [show (zup (pF f1 (S 9 4) 48 54) 12 ((pC f1 (S 9 4)) - 48) 12 : Int) = ((pC f1 (S 9 4)) - 48) from by (first | rw [zup_s] | rw [zup_n (by omega)])]
          refine zb_iadd h dX5_order_187 ?_
          refine zb_bi h dX5_order_188 (by decide) (by decide) ?_
          have b_187 := pC_in hp1
          refine zcVi h hH (zr_5 h hH) (As := [.int (zI (49 + ((pC f1 (S 9 4)) - 48))), .int (zI 55)]) (rest := [.ref (za G 9 0)]) (c_X5_sign l G hG (zMo S (zup (pF f1 (S 9 4) 48 54) 12 ((pC f1 (S 9 4)) - 48)) (S 9 1) (S 9 2) (S 9 3) (S 9 4) (S 9 5) (S 9 6)) (49 + ((pC f1 (S 9 4)) - 48)) 55 (by omega) (by omega) (by rw [zM_0, zM_4]; exact (pI_up (pF_in hp1 (by omega)) (by omega) _))) zce_X5_sign zcv_X5_sign zm_X5_137 hl.1 rfl rfl ⟨rfl, rfl⟩ ⟨Nat.le_of_ble_eq_true rfl, Nat.le_of_ble_eq_true rfl⟩ (Nat.le_of_ble_eq_true rfl) ⟨Nat.zero_le _, Nat.zero_le _⟩ dX5_order_190 (fun r_190 S_190 H locs hq hH => ?_)
          obtain ⟨rfl, rfl⟩ := hq
          simp only [zM_M, zM_0, zM_1, zM_2, zM_3, zM_4, zM_5, zM_6] at hH
          rw [zM_0, zM_4]
          refine zb_bi h dX5_order_193 (by decide) (by decide) ?_
          refine zb_isub h dX5_order_195 ?_
          refine zu_5_13 h hH zf_X5_146 dX5_order_196 (fun H locs hH => ?_)
          rw [zs_M0] at hH
          refine lv_goto (tgt := 259) hx hb dX5_order_199 (by decide) ?_
          refine zrv h hr hH ?_ dX5_order_259
          refine (show zMo S (pOrd (S 9 0) (S 9 4) (pWo (S 9 0) (S 9 4))) (S 9 1) (S 9 2) (S 9 3) (S 9 4) (S 9 5) (S 9 6) = _ from ?_)
          unfold pOrd
          first | (rw [if_pos c_110, ← hf1]; rfl) | (rw [if_neg c_110, if_pos c_150, ← hf1]; unfold pOn; rw [if_pos (show pO1 f1 (S 9 4) 54 10 ≠ 0 by omega)]; rfl) | (rw [if_neg c_110, if_pos c_150, ← hf1]; unfold pOn; rw [if_neg (show ¬ pO1 f1 (S 9 4) 54 10 ≠ 0 by omega), e_12]; rfl) | (rw [if_neg c_110, if_neg c_150, if_pos c_205, ← hf1]; rfl) | (rw [if_neg c_110, if_neg c_150, if_neg c_205, ← hf1]; rfl)
        · refine zb_ic h dX5_order_176 ?_
          refine lv_goto (tgt := 196) hx hb dX5_order_177 (by decide) ?_
          refine zu_5_13 h hH zf_X5_146 dX5_order_196 (fun H locs hH => ?_)
          rw [zs_M0] at hH
          refine lv_goto (tgt := 259) hx hb dX5_order_199 (by decide) ?_
          refine zrv h hr hH ?_ dX5_order_259
          refine (show zMo S (pOrd (S 9 0) (S 9 4) (pWo (S 9 0) (S 9 4))) (S 9 1) (S 9 2) (S 9 3) (S 9 4) (S 9 5) (S 9 6) = _ from ?_)
          unfold pOrd
          first | (rw [if_pos c_110, ← hf1]; rfl) | (rw [if_neg c_110, if_pos c_150, ← hf1]; unfold pOn; rw [if_pos (show pO1 f1 (S 9 4) 54 10 ≠ 0 by omega)]; rfl) | (rw [if_neg c_110, if_pos c_150, ← hf1]; unfold pOn; rw [if_neg (show ¬ pO1 f1 (S 9 4) 54 10 ≠ 0 by omega), e_12]; rfl) | (rw [if_neg c_110, if_neg c_150, if_pos c_205, ← hf1]; rfl) | (rw [if_neg c_110, if_neg c_150, if_neg c_205, ← hf1]; rfl)
    · refine lv_aload_n hx hb dX5_order_113 rfl (lv_at hl 0 rfl) ?_
      refine lv_aload_n hx hb dX5_order_114 rfl (lv_at hl 0 rfl) ?_
      refine zb_ic h dX5_order_115 ?_
      refine zb_bi h dX5_order_116 (by decide) (by decide) ?_
      refine zcVi h hH (zr_5 h hH) (As := [.int (zI 0), .int (zI 24)]) (rest := [.ref (za G 9 0)]) (c_X5_number l G hG (zMo S f1 (S 9 1) (S 9 2) (S 9 3) (S 9 4) (S 9 5) (S 9 6)) 0 24 (by omega) (by omega) (by rw [zM_0, zM_4]; exact hp1)) zce_X5_number zcv_X5_number zm_X5_149 hl.1 rfl rfl ⟨rfl, rfl⟩ ⟨Nat.le_of_ble_eq_true rfl, Nat.le_of_ble_eq_true rfl⟩ (Nat.le_of_ble_eq_true rfl) ⟨Nat.zero_le _, Nat.zero_le _⟩ dX5_order_118 (fun r_118 S_118 H locs hq hH => ?_)
      obtain ⟨rfl, rfl⟩ := hq
      simp only [zM_M, zM_0, zM_1, zM_2, zM_3, zM_4, zM_5, zM_6] at hH
      rw [zM_0, zM_4]
      refine zu_5_12 h hH zf_X5_143 dX5_order_121 (fun H locs hH => ?_)
      rw [zs_M0] at hH
      refine lv_aload_n hx hb dX5_order_124 rfl (lv_at hl 0 rfl) ?_
      refine zb_bi h dX5_order_125 (by decide) (by decide) ?_
      refine zb_bi h dX5_order_127 (by decide) (by decide) ?_
      refine zcVi h hH (zr_5 h hH) (As := [.int (zI 61), .int (zI 61)]) (rest := []) (c_X5_sign l G hG (zMo S (zup ((pNum f1 (S 9 4) 0 24).2) 12 ((pNum f1 (S 9 4) 0 24).1)) (S 9 1) (S 9 2) (S 9 3) (S 9 4) (S 9 5) (S 9 6)) 61 61 (by omega) (by omega) (by rw [zM_0, zM_4]; exact (pI_up (pNum_in hp1 (by omega) (by omega)).1 (by omega) _))) zce_X5_sign zcv_X5_sign zm_X5_137 hl.1 rfl rfl ⟨rfl, rfl⟩ ⟨Nat.le_of_ble_eq_true rfl, Nat.le_of_ble_eq_true rfl⟩ (Nat.le_of_ble_eq_true rfl) ⟨Nat.zero_le _, Nat.zero_le _⟩ dX5_order_129 (fun r_129 S_129 H locs hq hH => ?_)
      obtain ⟨rfl, rfl⟩ := hq
      simp only [zM_M, zM_0, zM_1, zM_2, zM_3, zM_4, zM_5, zM_6] at hH
      rw [zM_0, zM_4]
      refine lv_istore_n (lv' := [(2, .int (zI (pC (zup (pNum f1 (S 9 4) 0 24).2 12 (pNum f1 (S 9 4) 0 24).1) (S 9 4)))), (0, .ref (za G 9 0)), (1, .int (zI (pC (S 9 0) (S 9 4))))]) hx hb dX5_order_132 rfl hl (by decide) rfl (fun ls hl => ?_)
      refine lv_aload_n hx hb dX5_order_133 rfl (lv_at hl 1 rfl) ?_
      refine lv_aload_n hx hb dX5_order_134 rfl (lv_at hl 1 rfl) ?_
      refine zb_ic h dX5_order_135 ?_
      refine zb_bi h dX5_order_136 (by decide) (by decide) ?_
      refine zcVi h hH (zr_5 h hH) (As := [.int (zI 0), .int (zI 10)]) (rest := [.ref (za G 9 0)]) (c_X5_number l G hG (zMo S (pF (zup (pNum f1 (S 9 4) 0 24).2 12 (pNum f1 (S 9 4) 0 24).1) (S 9 4) 61 61) (S 9 1) (S 9 2) (S 9 3) (S 9 4) (S 9 5) (S 9 6)) 0 10 (by omega) (by omega) (by rw [zM_0, zM_4]; exact (pF_in (pI_up (pNum_in hp1 (by omega) (by omega)).1 (by omega) _) (by omega)))) zce_X5_number zcv_X5_number zm_X5_149 hl.1 rfl rfl ⟨rfl, rfl⟩ ⟨Nat.le_of_ble_eq_true rfl, Nat.le_of_ble_eq_true rfl⟩ (Nat.le_of_ble_eq_true rfl) ⟨Nat.zero_le _, Nat.zero_le _⟩ dX5_order_138 (fun r_138 S_138 H locs hq hH => ?_)
      obtain ⟨rfl, rfl⟩ := hq
      simp only [zM_M, zM_0, zM_1, zM_2, zM_3, zM_4, zM_5, zM_6] at hH
      rw [zM_0, zM_4]
      refine zu_5_13 h hH zf_X5_146 dX5_order_141 (fun H locs hH => ?_)
      rw [zs_M0] at hH
      refine lv_goto (tgt := 259) hx hb dX5_order_144 (by decide) ?_
      refine zrv h hr hH ?_ dX5_order_259
      refine (show zMo S (pOrd (S 9 0) (S 9 4) (pWo (S 9 0) (S 9 4))) (S 9 1) (S 9 2) (S 9 3) (S 9 4) (S 9 5) (S 9 6) = _ from ?_)
      unfold pOrd
      first | (rw [if_pos c_110, ← hf1]; rfl) | (rw [if_neg c_110, if_pos c_150, ← hf1]; unfold pOn; rw [if_pos (show pO1 f1 (S 9 4) 54 10 ≠ 0 by omega)]; rfl) | (rw [if_neg c_110, if_pos c_150, ← hf1]; unfold pOn; rw [if_neg (show ¬ pO1 f1 (S 9 4) 54 10 ≠ 0 by omega), e_12]; rfl) | (rw [if_neg c_110, if_neg c_150, if_pos c_205, ← hf1]; rfl) | (rw [if_neg c_110, if_neg c_150, if_neg c_205, ← hf1]; rfl)
  have C68 : ∀ (w0 : Int) (H : Heap) (locs : List Loc) (ls : Array Slot), (w0 = pWo (S 9 0) (S 9 4)) → zH G (zMo S (S 9 0) (S 9 1) (S 9 2) (S 9 3) (S 9 4) (S 9 5) (S 9 6)) s H locs → lv_has ls 3 [(0, .ref (za G 9 0)), (1, .int (zI (pC (S 9 0) (S 9 4))))] → W p l e r_X5_order s m args below meth c H locs 0 0 (MQ below (va_Qv (q_X5_order S) (zB G) (zA G)) args s 0 0 (zA G)) (F0 m 68 ls [.int (zI w0), .ref (za G 9 0)]) := by
    intro w0 H locs ls hw0 hH hl
    have bw := pWo_in (S 9 0) (S 9 4)
    refine zu_5_10 h hH (by omega) zf_X5_133 dX5_order_68 (fun H locs hH => ?_)
    rw [zs_M0] at hH
    refine lv_aload_n hx hb dX5_order_71 rfl (lv_at hl 0 rfl) ?_
    refine lv_dup hx hb dX5_order_72 rfl ?_
    refine zg_5_9 h hH zf_X5_130 dX5_order_73 ?_
    rw [zM_0]
    rw [show (zup (S 9 0) 10 w0 9 : Int) = S 9 0 9 from by (first | rw [zup_s] | rw [zup_n (by omega)])]
    refine lv_aload_n hx hb dX5_order_76 rfl (lv_at hl 0 rfl) ?_
    refine zg_5_10 h hH zf_X5_133 dX5_order_77 ?_
    rw [zM_0]
    rw [show (zup (S 9 0) 10 w0 10 : Int) = w0 from by (first | rw [zup_s] | rw [zup_n (by omega)])]
    refine zb_ieq (tgt := 87) h (by omega) dX5_order_80 (by decide) (fun c_80 => ?_) (fun c_80 => ?_)
    · refine zb_ic h dX5_order_87 ?_
      refine zb_iadd h dX5_order_88 ?_
      refine zu_5_9 h hH zf_X5_130 dX5_order_89 (fun H locs hH => ?_)
      rw [zs_M0] at hH
      refine lv_aload_n hx hb dX5_order_92 rfl (lv_at hl 0 rfl) ?_
      refine lv_iload_n hx hb dX5_order_93 rfl (lv_at hl 1 rfl) ?_
      refine zu_5_11 h hH zf_X5_140 dX5_order_94 (fun H locs hH => ?_)
      rw [zs_M0] at hH
      refine lv_aload_n hx hb dX5_order_97 rfl (lv_at hl 0 rfl) ?_
      refine zb_ic h dX5_order_98 ?_
      refine zu_5_12 h hH zf_X5_143 dX5_order_99 (fun H locs hH => ?_)
      rw [zs_M0] at hH
      refine lv_aload_n hx hb dX5_order_102 rfl (lv_at hl 0 rfl) ?_
      refine zb_ic h dX5_order_103 ?_
      refine zu_5_13 h hH zf_X5_146 dX5_order_104 (fun H locs hH => ?_)
      rw [zs_M0] at hH
      exact C107 (zup (zup (zup (zup (zup (S 9 0) 10 w0) 9 ((S 9 0 9) + 1)) 11 (pC (S 9 0) (S 9 4))) 12 0) 13 0) _ _ _  (by unfold pO0; rw [← hw0]; first | rw [show (1 : Int) - w0 = 0 by omega] | rw [show (1 : Int) - w0 = 1 by omega]) hH (lv_sub hl [0, 1] rfl)
    · refine zb_ic h dX5_order_83 ?_
      refine lv_goto (tgt := 88) hx hb dX5_order_84 (by decide) ?_
      refine zb_iadd h dX5_order_88 ?_
      refine zu_5_9 h hH zf_X5_130 dX5_order_89 (fun H locs hH => ?_)
      rw [zs_M0] at hH
      refine lv_aload_n hx hb dX5_order_92 rfl (lv_at hl 0 rfl) ?_
      refine lv_iload_n hx hb dX5_order_93 rfl (lv_at hl 1 rfl) ?_
      refine zu_5_11 h hH zf_X5_140 dX5_order_94 (fun H locs hH => ?_)
      rw [zs_M0] at hH
      refine lv_aload_n hx hb dX5_order_97 rfl (lv_at hl 0 rfl) ?_
      refine zb_ic h dX5_order_98 ?_
      refine zu_5_12 h hH zf_X5_143 dX5_order_99 (fun H locs hH => ?_)
      rw [zs_M0] at hH
      refine lv_aload_n hx hb dX5_order_102 rfl (lv_at hl 0 rfl) ?_
      refine zb_ic h dX5_order_103 ?_
      refine zu_5_13 h hH zf_X5_146 dX5_order_104 (fun H locs hH => ?_)
      rw [zs_M0] at hH
      exact C107 (zup (zup (zup (zup (zup (S 9 0) 10 w0) 9 ((S 9 0 9) + 0)) 11 (pC (S 9 0) (S 9 4))) 12 0) 13 0) _ _ _  (by unfold pO0; rw [← hw0]; first | rw [show (1 : Int) - w0 = 0 by omega] | rw [show (1 : Int) - w0 = 1 by omega]) hH (lv_sub hl [0, 1] rfl)
  have C24 : ∀ (x : Int) (H : Heap) (locs : List Loc) (ls : Array Slot), (x = pC (S 9 0) (S 9 4)) → zH G (zMo S (S 9 0) (S 9 1) (S 9 2) (S 9 3) (S 9 4) (S 9 5) (S 9 6)) s H locs → lv_has ls 3 [(0, .ref (za G 9 0))] → W p l e r_X5_order s m args below meth c H locs 0 0 (MQ below (va_Qv (q_X5_order S) (zB G) (zA G)) args s 0 0 (zA G)) (F0 m 24 ls [.int (zI x)]) := by
    intro x H locs ls hx0 hH hl
    have bx := pC_in hpi
    subst hx0
    refine lv_istore_n (lv' := [(1, .int (zI (pC (S 9 0) (S 9 4)))), (0, .ref (za G 9 0))]) hx hb dX5_order_24 rfl hl (by decide) rfl (fun ls hl => ?_)
    refine lv_aload_n hx hb dX5_order_25 rfl (lv_at hl 1 rfl) ?_
    refine lv_aload_n hx hb dX5_order_26 rfl (lv_at hl 1 rfl) ?_
    refine zg_5_10 h hH zf_X5_133 dX5_order_27 ?_
    rw [zM_0]
    refine zb_ine (tgt := 63) h (by omega) dX5_order_30 (by decide) (fun c_30 => ?_) (fun c_30 => ?_)
    · refine zb_ic h dX5_order_63 ?_
      refine lv_goto (tgt := 68) hx hb dX5_order_64 (by decide) ?_
      exact C68 1 _ _ _  (by unfold pWo; first | rw [if_pos (by omega)] | rw [if_neg (by omega)]) hH (lv_sub hl [1, 0] rfl)
    · refine lv_iload_n hx hb dX5_order_33 rfl (lv_at hl 0 rfl) ?_
      refine zb_bi h dX5_order_34 (by decide) (by decide) ?_
      refine zb_ceq (tgt := 67) h (by omega) (by omega) dX5_order_36 (by decide) (fun c_36 => ?_) (fun c_36 => ?_)
      · refine zb_ic h dX5_order_67 ?_
        exact C68 0 _ _ _  (by unfold pWo; first | rw [if_pos (by omega)] | rw [if_neg (by omega)]) hH (lv_sub hl [1, 0] rfl)
      · refine lv_iload_n hx hb dX5_order_39 rfl (lv_at hl 0 rfl) ?_
        refine zb_bi h dX5_order_40 (by decide) (by decide) ?_
        refine zb_ceq (tgt := 67) h (by omega) (by omega) dX5_order_42 (by decide) (fun c_42 => ?_) (fun c_42 => ?_)
        · refine zb_ic h dX5_order_67 ?_
          exact C68 0 _ _ _  (by unfold pWo; first | rw [if_pos (by omega)] | rw [if_neg (by omega)]) hH (lv_sub hl [1, 0] rfl)
        · refine lv_iload_n hx hb dX5_order_45 rfl (lv_at hl 0 rfl) ?_
          refine zb_bi h dX5_order_46 (by decide) (by decide) ?_
          refine zb_ceq (tgt := 67) h (by omega) (by omega) dX5_order_48 (by decide) (fun c_48 => ?_) (fun c_48 => ?_)
          · refine zb_ic h dX5_order_67 ?_
            exact C68 0 _ _ _  (by unfold pWo; first | rw [if_pos (by omega)] | rw [if_neg (by omega)]) hH (lv_sub hl [1, 0] rfl)
          · refine lv_iload_n hx hb dX5_order_51 rfl (lv_at hl 0 rfl) ?_
            refine zb_bi h dX5_order_52 (by decide) (by decide) ?_
            refine zb_ceq (tgt := 67) h (by omega) (by omega) dX5_order_54 (by decide) (fun c_54 => ?_) (fun c_54 => ?_)
            · refine zb_ic h dX5_order_67 ?_
              exact C68 0 _ _ _  (by unfold pWo; first | rw [if_pos (by omega)] | rw [if_neg (by omega)]) hH (lv_sub hl [1, 0] rfl)
            · refine lv_iload_n hx hb dX5_order_57 rfl (lv_at hl 0 rfl) ?_
              refine zb_bi h dX5_order_58 (by decide) (by decide) ?_
              refine zb_ceq (tgt := 67) h (by omega) (by omega) dX5_order_60 (by decide) (fun c_60 => ?_) (fun c_60 => ?_)
              · refine zb_ic h dX5_order_67 ?_
                exact C68 0 _ _ _  (by unfold pWo; first | rw [if_pos (by omega)] | rw [if_neg (by omega)]) hH (lv_sub hl [1, 0] rfl)
              · refine zb_ic h dX5_order_63 ?_
                refine lv_goto (tgt := 68) hx hb dX5_order_64 (by decide) ?_
                exact C68 1 _ _ _  (by unfold pWo; first | rw [if_pos (by omega)] | rw [if_neg (by omega)]) hH (lv_sub hl [1, 0] rfl)
  refine lv_aload_n hx hb dX5_order_0 rfl (lv_at hl 0 rfl) ?_
  refine zg_5_9 h hH zf_X5_130 dX5_order_1 ?_
  rw [zM_0]
  refine lv_aload_n hx hb dX5_order_4 rfl (lv_at hl 0 rfl) ?_
  refine zg_5_6 h hH zf_X5_127 dX5_order_5 ?_
  rw [zM_0]
  refine zb_cge (tgt := 23) h (by omega) (by omega) dX5_order_8 (by decide) (fun c_8 => ?_) (fun c_8 => ?_)
  · refine zb_ic h dX5_order_23 ?_
    exact C24 0 _ _ _  (by unfold pC; first | rw [if_pos (by omega)] | rw [if_neg (by omega)]) hH (lv_sub hl [0] rfl)
  · refine lv_aload_n hx hb dX5_order_11 rfl (lv_at hl 0 rfl) ?_
    refine zg_5_5 h hH zf_X5_19 dX5_order_12 ?_
    refine lv_aload_n hx hb dX5_order_15 rfl (lv_at hl 0 rfl) ?_
    refine zg_5_9 h hH zf_X5_130 dX5_order_16 ?_
    rw [zM_0]
    refine zld_ar_tx h hH (by omega) dX5_order_19 ?_
    rw [zM_4]
    refine lv_goto (tgt := 24) hx hb dX5_order_20 (by decide) ?_
    exact C24 (S 9 4 (S 9 0 9)) _ _ _  (by unfold pC; first | rw [if_pos (by omega)] | rw [if_neg (by omega)]) hH (lv_sub hl [0] rfl)
