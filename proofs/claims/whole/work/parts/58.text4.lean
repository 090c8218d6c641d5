theorem dX5_does_0 : decode cX5_does 0 = .ok (.aload_n 0, 1) := by decide +kernel
theorem dX5_does_1 : decode cX5_does 1 = .ok (.getfield 140, 3) := by decide +kernel
theorem dX5_does_4 : decode cX5_does 4 = .ok (.bipush 122, 2) := by decide +kernel
theorem dX5_does_6 : decode cX5_does 6 = .ok (.if_icmp .ne 18, 3) := by decide +kernel
theorem dX5_does_9 : decode cX5_does 9 = .ok (.aload_n 0, 1) := by decide +kernel
theorem dX5_does_10 : decode cX5_does 10 = .ok (.aload_n 0, 1) := by decide +kernel
theorem dX5_does_11 : decode cX5_does 11 = .ok (.getfield 143, 3) := by decide +kernel
theorem dX5_does_14 : decode cX5_does 14 = .ok (.aload_n 0, 1) := by decide +kernel
theorem dX5_does_15 : decode cX5_does 15 = .ok (.getfield 146, 3) := by decide +kernel
theorem dX5_does_18 : decode cX5_does 18 = .ok (.invokevirtual 84, 3) := by decide +kernel
theorem dX5_does_21 : decode cX5_does 21 = .ok (.goto 67, 3) := by decide +kernel
theorem dX5_does_24 : decode cX5_does 24 = .ok (.aload_n 0, 1) := by decide +kernel
theorem dX5_does_25 : decode cX5_does 25 = .ok (.getfield 140, 3) := by decide +kernel
theorem dX5_does_28 : decode cX5_does 28 = .ok (.bipush 116, 2) := by decide +kernel
theorem dX5_does_30 : decode cX5_does 30 = .ok (.if_icmp .ne 7, 3) := by decide +kernel
theorem dX5_does_33 : decode cX5_does 33 = .ok (.iconst 0, 1) := by decide +kernel
theorem dX5_does_34 : decode cX5_does 34 = .ok (.goto 54, 3) := by decide +kernel
theorem dX5_does_37 : decode cX5_does 37 = .ok (.aload_n 0, 1) := by decide +kernel
theorem dX5_does_38 : decode cX5_does 38 = .ok (.getfield 140, 3) := by decide +kernel
theorem dX5_does_41 : decode cX5_does 41 = .ok (.bipush 110, 2) := by decide +kernel
theorem dX5_does_43 : decode cX5_does 43 = .ok (.if_icmp .ne 33, 3) := by decide +kernel
theorem dX5_does_46 : decode cX5_does 46 = .ok (.aload_n 0, 1) := by decide +kernel
theorem dX5_does_47 : decode cX5_does 47 = .ok (.aload_n 0, 1) := by decide +kernel
theorem dX5_does_48 : decode cX5_does 48 = .ok (.getfield 143, 3) := by decide +kernel
theorem dX5_does_51 : decode cX5_does 51 = .ok (.invokevirtual 96, 3) := by decide +kernel
theorem dX5_does_54 : decode cX5_does 54 = .ok (.ifCond .eq 18, 3) := by decide +kernel
theorem dX5_does_57 : decode cX5_does 57 = .ok (.aload_n 0, 1) := by decide +kernel
theorem dX5_does_58 : decode cX5_does 58 = .ok (.aload_n 0, 1) := by decide +kernel
theorem dX5_does_59 : decode cX5_does 59 = .ok (.getfield 146, 3) := by decide +kernel
theorem dX5_does_62 : decode cX5_does 62 = .ok (.invokevirtual 96, 3) := by decide +kernel
theorem dX5_does_65 : decode cX5_does 65 = .ok (.ifCond .eq 7, 3) := by decide +kernel
theorem dX5_does_68 : decode cX5_does 68 = .ok (.iconst 0, 1) := by decide +kernel
theorem dX5_does_69 : decode cX5_does 69 = .ok (.goto 19, 3) := by decide +kernel
theorem dX5_does_72 : decode cX5_does 72 = .ok (.iconst 1, 1) := by decide +kernel
theorem dX5_does_73 : decode cX5_does 73 = .ok (.goto 15, 3) := by decide +kernel
theorem dX5_does_76 : decode cX5_does 76 = .ok (.aload_n 0, 1) := by decide +kernel
theorem dX5_does_77 : decode cX5_does 77 = .ok (.aload_n 0, 1) := by decide +kernel
theorem dX5_does_78 : decode cX5_does 78 = .ok (.getfield 143, 3) := by decide +kernel
theorem dX5_does_81 : decode cX5_does 81 = .ok (.aload_n 0, 1) := by decide +kernel
theorem dX5_does_82 : decode cX5_does 82 = .ok (.getfield 146, 3) := by decide +kernel
theorem dX5_does_85 : decode cX5_does 85 = .ok (.invokevirtual 114, 3) := by decide +kernel
theorem dX5_does_88 : decode cX5_does 88 = .ok (.istore_n 1, 1) := by decide +kernel
theorem dX5_does_89 : decode cX5_does 89 = .ok (.iload_n 1, 1) := by decide +kernel
theorem dX5_does_90 : decode cX5_does 90 = .ok (.ifCond .ne 42, 3) := by decide +kernel
theorem dX5_does_93 : decode cX5_does 93 = .ok (.aload_n 0, 1) := by decide +kernel
theorem dX5_does_94 : decode cX5_does 94 = .ok (.getfield 140, 3) := by decide +kernel
theorem dX5_does_97 : decode cX5_does 97 = .ok (.bipush 110, 2) := by decide +kernel
theorem dX5_does_99 : decode cX5_does 99 = .ok (.if_icmp .ne 33, 3) := by decide +kernel
theorem dX5_does_102 : decode cX5_does 102 = .ok (.aload_n 0, 1) := by decide +kernel
theorem dX5_does_103 : decode cX5_does 103 = .ok (.aload_n 0, 1) := by decide +kernel
theorem dX5_does_104 : decode cX5_does 104 = .ok (.getfield 143, 3) := by decide +kernel
theorem dX5_does_107 : decode cX5_does 107 = .ok (.aload_n 0, 1) := by decide +kernel
theorem dX5_does_108 : decode cX5_does 108 = .ok (.getfield 146, 3) := by decide +kernel
theorem dX5_does_111 : decode cX5_does 111 = .ok (.invokevirtual 103, 3) := by decide +kernel
theorem dX5_does_114 : decode cX5_does 114 = .ok (.ifCond .ne 93, 3) := by decide +kernel
theorem dX5_does_117 : decode cX5_does 117 = .ok (.aload_n 0, 1) := by decide +kernel
theorem dX5_does_118 : decode cX5_does 118 = .ok (.aload_n 0, 1) := by decide +kernel
theorem dX5_does_119 : decode cX5_does 119 = .ok (.getfield 143, 3) := by decide +kernel
theorem dX5_does_122 : decode cX5_does 122 = .ok (.aload_n 0, 1) := by decide +kernel
theorem dX5_does_123 : decode cX5_does 123 = .ok (.getfield 146, 3) := by decide +kernel
theorem dX5_does_126 : decode cX5_does 126 = .ok (.invokevirtual 99, 3) := by decide +kernel
theorem dX5_does_129 : decode cX5_does 129 = .ok (.goto 78, 3) := by decide +kernel
theorem dX5_does_132 : decode cX5_does 132 = .ok (.iload_n 1, 1) := by decide +kernel
theorem dX5_does_133 : decode cX5_does 133 = .ok (.ifCond .ne 74, 3) := by decide +kernel
theorem dX5_does_136 : decode cX5_does 136 = .ok (.aload_n 0, 1) := by decide +kernel
theorem dX5_does_137 : decode cX5_does 137 = .ok (.getfield 140, 3) := by decide +kernel
theorem dX5_does_140 : decode cX5_does 140 = .ok (.bipush 122, 2) := by decide +kernel
theorem dX5_does_142 : decode cX5_does 142 = .ok (.if_icmp .ne 18, 3) := by decide +kernel
theorem dX5_does_145 : decode cX5_does 145 = .ok (.aload_n 0, 1) := by decide +kernel
theorem dX5_does_146 : decode cX5_does 146 = .ok (.aload_n 0, 1) := by decide +kernel
theorem dX5_does_147 : decode cX5_does 147 = .ok (.getfield 143, 3) := by decide +kernel
theorem dX5_does_150 : decode cX5_does 150 = .ok (.aload_n 0, 1) := by decide +kernel
theorem dX5_does_151 : decode cX5_does 151 = .ok (.getfield 146, 3) := by decide +kernel
theorem dX5_does_154 : decode cX5_does 154 = .ok (.invokevirtual 93, 3) := by decide +kernel
theorem dX5_does_157 : decode cX5_does 157 = .ok (.goto 49, 3) := by decide +kernel
theorem dX5_does_160 : decode cX5_does 160 = .ok (.aload_n 0, 1) := by decide +kernel
theorem dX5_does_161 : decode cX5_does 161 = .ok (.getfield 140, 3) := by decide +kernel
theorem dX5_does_164 : decode cX5_does 164 = .ok (.bipush 116, 2) := by decide +kernel
theorem dX5_does_166 : decode cX5_does 166 = .ok (.if_icmp .ne 14, 3) := by decide +kernel
theorem dX5_does_169 : decode cX5_does 169 = .ok (.aload_n 0, 1) := by decide +kernel
theorem dX5_does_170 : decode cX5_does 170 = .ok (.aload_n 0, 1) := by decide +kernel
theorem dX5_does_171 : decode cX5_does 171 = .ok (.getfield 143, 3) := by decide +kernel
theorem dX5_does_174 : decode cX5_does 174 = .ok (.invokevirtual 111, 3) := by decide +kernel
theorem dX5_does_177 : decode cX5_does 177 = .ok (.goto 29, 3) := by decide +kernel
theorem dX5_does_180 : decode cX5_does 180 = .ok (.aload_n 0, 1) := by decide +kernel
theorem dX5_does_181 : decode cX5_does 181 = .ok (.aload_n 0, 1) := by decide +kernel
theorem dX5_does_182 : decode cX5_does 182 = .ok (.getfield 143, 3) := by decide +kernel
theorem dX5_does_185 : decode cX5_does 185 = .ok (.aload_n 0, 1) := by decide +kernel
theorem dX5_does_186 : decode cX5_does 186 = .ok (.getfield 140, 3) := by decide +kernel
theorem dX5_does_189 : decode cX5_does 189 = .ok (.bipush 98, 2) := by decide +kernel
theorem dX5_does_191 : decode cX5_does 191 = .ok (.if_icmp .ne 7, 3) := by decide +kernel
theorem dX5_does_194 : decode cX5_does 194 = .ok (.iconst 2, 1) := by decide +kernel
theorem dX5_does_195 : decode cX5_does 195 = .ok (.goto 4, 3) := by decide +kernel
theorem dX5_does_198 : decode cX5_does 198 = .ok (.iconst 3, 1) := by decide +kernel
theorem dX5_does_199 : decode cX5_does 199 = .ok (.aload_n 0, 1) := by decide +kernel
theorem dX5_does_200 : decode cX5_does 200 = .ok (.getfield 146, 3) := by decide +kernel
theorem dX5_does_203 : decode cX5_does 203 = .ok (.invokevirtual 117, 3) := by decide +kernel
theorem dX5_does_206 : decode cX5_does 206 = .ok (.istore_n 2, 1) := by decide +kernel
theorem dX5_does_207 : decode cX5_does 207 = .ok (.iload_n 1, 1) := by decide +kernel
theorem dX5_does_208 : decode cX5_does 208 = .ok (.ifCond .ne 7, 3) := by decide +kernel
theorem dX5_does_211 : decode cX5_does 211 = .ok (.iconst 1, 1) := by decide +kernel
theorem dX5_does_212 : decode cX5_does 212 = .ok (.goto 4, 3) := by decide +kernel
theorem dX5_does_215 : decode cX5_does 215 = .ok (.iconst 0, 1) := by decide +kernel
theorem dX5_does_216 : decode cX5_does 216 = .ok (.ireturn, 1) := by decide +kernel
def q_X5_does (S : zM) (ρ : Int → Int) : Int32 → zM → Prop := fun r S1 => r = zI (dB ρ (S 9 1)) ∧ ∃ M', zMo S (S 9 0) (dSt ρ (S 9 1)) (S 9 2) (S 9 3) (S 9 4) M' (S 9 6) = S1
def r_X5_does : Room := { frames := 7, cells := 0, slots := 0, locals := 154 }
set_option maxHeartbeats 4000000 in
set_option maxRecDepth 100000 in
theorem c_X5_does (l : Launch) (G : zG) (hG : zok G) (S : zM) (ρ : Int → Int) (hv : zVals (S 9 0) ρ) (hok : zOk (S 9 1)) : Met l yX5_does (Cond.code yX5_does cX5_does 3 (some FieldType.boolean) :: zTbl) r_X5_does (va_Pc [.ref (za G 9 0)] (zB G S)) (va_Qi (q_X5_does S ρ) (zB G) (zA G)) 0 0 (zA G) := by
  refine zMet [(0, .ref (za G 9 0))] hG (by decide) (Nat.le_of_ble_eq_true rfl) rfl (fun p e s m args below meth c ls h hx hb hr hH hl => ?_)
  rw [← zM_id S] at hH
  have hw := hok.1
  have f4 := zW_4 hw
  obtain ⟨hv0, hv1⟩ := id hv
  have C88 : ∀ (w0 : Int) (H : Heap) (locs : List Loc) (ls : Array Slot), (0 ≤ w0 ∧ w0 ≤ 2) → ((w0 = 0 ∧ dB ρ (S 9 1) = 1) ∨ (w0 ≠ 0 ∧ dB ρ (S 9 1) = 0)) → zH G (zMo S (S 9 0) (S 9 1) (S 9 2) (S 9 3) (S 9 4) (S 9 5) (S 9 6)) s H locs → lv_has ls 3 [(0, .ref (za G 9 0))] → W p l e r_X5_does s m args below meth c H locs 0 0 (MQ below (va_Qi (q_X5_does S ρ) (zB G) (zA G)) args s 0 0 (zA G)) (F0 m 88 ls [.int (zI w0)]) := by
    intro w0 H locs ls hwb hw0 hH hl
    refine lv_istore_n (lv' := [(1, .int (zI w0)), (0, .ref (za G 9 0))]) hx hb dX5_does_88 rfl hl (by decide) rfl (fun ls hl => ?_)
    refine lv_iload_n hx hb dX5_does_89 rfl (lv_at hl 0 rfl) ?_
    refine zb_ine (tgt := 132) h (by omega) dX5_does_90 (by decide) (fun c_90 => ?_) (fun c_90 => ?_)
    · refine lv_iload_n hx hb dX5_does_132 rfl (lv_at hl 0 rfl) ?_
      refine zb_ine (tgt := 207) h (by omega) dX5_does_133 (by decide) (fun c_133 => ?_) (fun c_133 => ?_)
      · refine lv_iload_n hx hb dX5_does_207 rfl (lv_at hl 0 rfl) ?_
        refine zb_ine (tgt := 215) h (by omega) dX5_does_208 (by decide) (fun c_208 => ?_) (fun c_208 => ?_)
        · refine zb_ic h dX5_does_215 ?_
          refine zrz h hr hH (by omega) ?_ dX5_does_216
          first
          | (exfalso; omega)
          | skip
            have e0 : dB ρ (S 9 1) = 0 := by omega
            exact ⟨by rw [e0], _, congrArg (fun q => zMo S (S 9 0) q (S 9 2) (S 9 3) (S 9 4) (S 9 5) (S 9 6)) (dSt_0 e0)⟩
        · refine zb_ic h dX5_does_211 ?_
          refine lv_goto (tgt := 216) hx hb dX5_does_212 (by decide) ?_
          refine zrz h hr hH (by omega) ?_ dX5_does_216
          first
          | (exfalso; omega)
          | skip
            have e1 : dB ρ (S 9 1) = 1 := by omega
            exact ⟨by rw [e1], _, congrArg (fun q => zMo S (S 9 0) q (S 9 2) (S 9 3) (S 9 4) (S 9 5) (S 9 6)) (by rw [dSt_1 e1]; rw [dDo_n (by omega), tLk_set hw hok.2.2 (by omega) (by omega) (by omega), if_pos (by unfold tb; rw [show ρ 2 = S 9 0 12 by omega, show ρ 3 = S 9 0 13 by omega]; omega)])⟩
      · refine lv_aload_n hx hb dX5_does_136 rfl (lv_at hl 1 rfl) ?_
        refine zg_5_11 h hH zf_X5_140 dX5_does_137 ?_
        rw [zM_0]
        refine zb_bi h dX5_does_140 (by decide) (by decide) ?_
        refine zb_cne (tgt := 160) h (by omega) (by omega) dX5_does_142 (by decide) (fun c_142 => ?_) (fun c_142 => ?_)
        · refine lv_aload_n hx hb dX5_does_160 rfl (lv_at hl 1 rfl) ?_
          refine zg_5_11 h hH zf_X5_140 dX5_does_161 ?_
          rw [zM_0]
          refine zb_bi h dX5_does_164 (by decide) (by decide) ?_
          refine zb_cne (tgt := 180) h (by omega) (by omega) dX5_does_166 (by decide) (fun c_166 => ?_) (fun c_166 => ?_)
          · refine lv_aload_n hx hb dX5_does_180 rfl (lv_at hl 1 rfl) ?_
            refine lv_aload_n hx hb dX5_does_181 rfl (lv_at hl 1 rfl) ?_
            refine zg_5_12 h hH zf_X5_143 dX5_does_182 ?_
            rw [zM_0]
            refine lv_aload_n hx hb dX5_does_185 rfl (lv_at hl 1 rfl) ?_
            refine zg_5_11 h hH zf_X5_140 dX5_does_186 ?_
            rw [zM_0]
            refine zb_bi h dX5_does_189 (by decide) (by decide) ?_
            refine zb_cne (tgt := 198) h (by omega) (by omega) dX5_does_191 (by decide) (fun c_191 => ?_) (fun c_191 => ?_)
            · refine zb_ic h dX5_does_198 ?_
              refine lv_aload_n hx hb dX5_does_199 rfl (lv_at hl 1 rfl) ?_
              refine zg_5_13 h hH zf_X5_146 dX5_does_200 ?_
              rw [zM_0]
              refine zcVi h hH (zr_5 h hH) (As := [.int (zI (S 9 0 12)), .int (zI 3), .int (zI (S 9 0 13))]) (rest := []) (c_X5_parts_ho l G hG (zMo S (S 9 0) (S 9 1) (S 9 2) (S 9 3) (S 9 4) (S 9 5) (S 9 6)) (S 9 0 12) (S 9 0 13) (by omega) (by omega) (zM_hw hw)) zce_X5_parts zcv_X5_parts zm_X5_117 hl.1 rfl rfl ⟨rfl, rfl⟩ ⟨Nat.le_of_ble_eq_true rfl, Nat.le_of_ble_eq_true rfl⟩ (Nat.le_of_ble_eq_true rfl) ⟨Nat.zero_le _, Nat.zero_le _⟩ dX5_does_203 (fun r_203 S_203 H locs hq hH => ?_)
              obtain ⟨rfl, M_203, rfl⟩ := hq
              simp only [zM_M, zM_0, zM_1, zM_2, zM_3, zM_4, zM_5, zM_6] at hH
              rw [zM_1]
              refine lv_istore_n (lv' := [(2, .int (zI (tTo (zup (S 9 1) (5 + 5 * (S 9 0 12) + 3) (S 9 0 13)) (S 9 0 12)))), (1, .int (zI w0)), (0, .ref (za G 9 0))]) hx hb dX5_does_206 rfl hl (by decide) rfl (fun ls hl => ?_)
              refine lv_iload_n hx hb dX5_does_207 rfl (lv_at hl 1 rfl) ?_
              refine zb_ine (tgt := 215) h (by omega) dX5_does_208 (by decide) (fun c_208 => ?_) (fun c_208 => ?_)
              · refine zb_ic h dX5_does_215 ?_
                refine zrz h hr hH (by omega) ?_ dX5_does_216
                first
                | (exfalso; omega)
                | skip
                  have e0 : dB ρ (S 9 1) = 0 := by omega
                  exact ⟨by rw [e0], _, congrArg (fun q => zMo S (S 9 0) q (S 9 2) (S 9 3) (S 9 4) M_203 (S 9 6)) (dSt_0 e0)⟩
              · refine zb_ic h dX5_does_211 ?_
                refine lv_goto (tgt := 216) hx hb dX5_does_212 (by decide) ?_
                refine zrz h hr hH (by omega) ?_ dX5_does_216
                first
                | (exfalso; omega)
                | skip
                  have e1 : dB ρ (S 9 1) = 1 := by omega
                  exact ⟨by rw [e1], _, congrArg (fun q => zMo S (S 9 0) q (S 9 2) (S 9 3) (S 9 4) M_203 (S 9 6)) (by rw [dSt_1 e1]; rw [dDo_h (by omega), show S 9 0 12 = ρ 2 by omega, show S 9 0 13 = ρ 3 by omega])⟩
            · refine zb_ic h dX5_does_194 ?_
              refine lv_goto (tgt := 199) hx hb dX5_does_195 (by decide) ?_
              refine lv_aload_n hx hb dX5_does_199 rfl (lv_at hl 1 rfl) ?_
              refine zg_5_13 h hH zf_X5_146 dX5_does_200 ?_
              rw [zM_0]
              refine zcVi h hH (zr_5 h hH) (As := [.int (zI (S 9 0 12)), .int (zI 2), .int (zI (S 9 0 13))]) (rest := []) (c_X5_parts_bu l G hG (zMo S (S 9 0) (S 9 1) (S 9 2) (S 9 3) (S 9 4) (S 9 5) (S 9 6)) (S 9 0 12) (S 9 0 13) (by omega) (by omega) (zM_hw hw)) zce_X5_parts zcv_X5_parts zm_X5_117 hl.1 rfl rfl ⟨rfl, rfl⟩ ⟨Nat.le_of_ble_eq_true rfl, Nat.le_of_ble_eq_true rfl⟩ (Nat.le_of_ble_eq_true rfl) ⟨Nat.zero_le _, Nat.zero_le _⟩ dX5_does_203 (fun r_203 S_203 H locs hq hH => ?_)
              obtain ⟨rfl, M_203, rfl⟩ := hq
              simp only [zM_M, zM_0, zM_1, zM_2, zM_3, zM_4, zM_5, zM_6] at hH
              rw [zM_1]
              refine lv_istore_n (lv' := [(2, .int (zI (tTo (zup (S 9 1) (5 + 5 * (S 9 0 12) + 2) (S 9 0 13)) (S 9 0 12)))), (1, .int (zI w0)), (0, .ref (za G 9 0))]) hx hb dX5_does_206 rfl hl (by decide) rfl (fun ls hl => ?_)
              refine lv_iload_n hx hb dX5_does_207 rfl (lv_at hl 1 rfl) ?_
              refine zb_ine (tgt := 215) h (by omega) dX5_does_208 (by decide) (fun c_208 => ?_) (fun c_208 => ?_)
              · refine zb_ic h dX5_does_215 ?_
                refine zrz h hr hH (by omega) ?_ dX5_does_216
                first
                | (exfalso; omega)
                | skip
                  have e0 : dB ρ (S 9 1) = 0 := by omega
                  exact ⟨by rw [e0], _, congrArg (fun q => zMo S (S 9 0) q (S 9 2) (S 9 3) (S 9 4) M_203 (S 9 6)) (dSt_0 e0)⟩
              · refine zb_ic h dX5_does_211 ?_
                refine lv_goto (tgt := 216) hx hb dX5_does_212 (by decide) ?_
                refine zrz h hr hH (by omega) ?_ dX5_does_216
                first
                | (exfalso; omega)
                | skip
                  have e1 : dB ρ (S 9 1) = 1 := by omega
                  exact ⟨by rw [e1], _, congrArg (fun q => zMo S (S 9 0) q (S 9 2) (S 9 3) (S 9 4) M_203 (S 9 6)) (by rw [dSt_1 e1]; rw [dDo_b (by omega), show S 9 0 12 = ρ 2 by omega, show S 9 0 13 = ρ 3 by omega])⟩
          · refine lv_aload_n hx hb dX5_does_169 rfl (lv_at hl 1 rfl) ?_
            refine lv_aload_n hx hb dX5_does_170 rfl (lv_at hl 1 rfl) ?_
            refine zg_5_12 h hH zf_X5_143 dX5_does_171 ?_
            rw [zM_0]
            refine zcVi h hH (zr_5 h hH) (As := [.int (zI (S 9 0 12))]) (rest := []) (c_X5_exposes l G hG (zMo S (S 9 0) (S 9 1) (S 9 2) (S 9 3) (S 9 4) (S 9 5) (S 9 6)) (S 9 0 12) (by omega) (zM_hw hw)) zce_X5_exposes zcv_X5_exposes zm_X5_111 hl.1 rfl rfl ⟨rfl, rfl⟩ ⟨Nat.le_of_ble_eq_true rfl, Nat.le_of_ble_eq_true rfl⟩ (Nat.le_of_ble_eq_true rfl) ⟨Nat.zero_le _, Nat.zero_le _⟩ dX5_does_174 (fun r_174 S_174 H locs hq hH => ?_)
            obtain ⟨rfl, M_174, rfl⟩ := hq
            simp only [zM_M, zM_0, zM_1, zM_2, zM_3, zM_4, zM_5, zM_6] at hH
            rw [zM_1]
            refine lv_goto (tgt := 206) hx hb dX5_does_177 (by decide) ?_
            refine lv_istore_n (lv' := [(2, .int (zI (tCnt (zup (S 9 1) 0 (S 9 0 12)) 0))), (1, .int (zI w0)), (0, .ref (za G 9 0))]) hx hb dX5_does_206 rfl hl (by decide) rfl (fun ls hl => ?_)
            refine lv_iload_n hx hb dX5_does_207 rfl (lv_at hl 1 rfl) ?_
            refine zb_ine (tgt := 215) h (by omega) dX5_does_208 (by decide) (fun c_208 => ?_) (fun c_208 => ?_)
            · refine zb_ic h dX5_does_215 ?_
              refine zrz h hr hH (by omega) ?_ dX5_does_216
              first
              | (exfalso; omega)
              | skip
                have e0 : dB ρ (S 9 1) = 0 := by omega
                exact ⟨by rw [e0], _, congrArg (fun q => zMo S (S 9 0) q (S 9 2) (S 9 3) (S 9 4) M_174 (S 9 6)) (dSt_0 e0)⟩
            · refine zb_ic h dX5_does_211 ?_
              refine lv_goto (tgt := 216) hx hb dX5_does_212 (by decide) ?_
              refine zrz h hr hH (by omega) ?_ dX5_does_216
              first
              | (exfalso; omega)
              | skip
                have e1 : dB ρ (S 9 1) = 1 := by omega
                exact ⟨by rw [e1], _, congrArg (fun q => zMo S (S 9 0) q (S 9 2) (S 9 3) (S 9 4) M_174 (S 9 6)) (by rw [dSt_1 e1]; rw [dDo_t (by omega), show S 9 0 12 = ρ 3 by omega])⟩
        · have q9 := dB_zi (σ := S 9 1) (show ρ 1 = 122 by omega)
          refine lv_aload_n hx hb dX5_does_145 rfl (lv_at hl 1 rfl) ?_
          refine lv_aload_n hx hb dX5_does_146 rfl (lv_at hl 1 rfl) ?_
          refine zg_5_12 h hH zf_X5_143 dX5_does_147 ?_
          rw [zM_0]
          refine lv_aload_n hx hb dX5_does_150 rfl (lv_at hl 1 rfl) ?_
          refine zg_5_13 h hH zf_X5_146 dX5_does_151 ?_
          rw [zM_0]
          refine zcVi h hH (zr_5 h hH) (As := [.int (zI (S 9 0 12)), .int (zI (S 9 0 13))]) (rest := []) (c_X5_zones l G hG (zMo S (S 9 0) (S 9 1) (S 9 2) (S 9 3) (S 9 4) (S 9 5) (S 9 6)) (S 9 0 12) (S 9 0 13) (by rw [zM_1]; omega) (zM_hw hw)) zce_X5_zones zcv_X5_zones zm_X5_93 hl.1 rfl rfl ⟨rfl, rfl⟩ ⟨Nat.le_of_ble_eq_true rfl, Nat.le_of_ble_eq_true rfl⟩ (Nat.le_of_ble_eq_true rfl) ⟨Nat.zero_le _, Nat.zero_le _⟩ dX5_does_154 (fun r_154 S_154 H locs hq hH => ?_)
          obtain ⟨rfl, rfl⟩ := hq
          simp only [zM_M, zM_0, zM_1, zM_2, zM_3, zM_4, zM_5, zM_6] at hH
          rw [zM_1]
          refine lv_goto (tgt := 206) hx hb dX5_does_157 (by decide) ?_
          refine lv_istore_n (lv' := [(2, .int (zI (S 9 1 4))), (1, .int (zI w0)), (0, .ref (za G 9 0))]) hx hb dX5_does_206 rfl hl (by decide) rfl (fun ls hl => ?_)
          refine lv_iload_n hx hb dX5_does_207 rfl (lv_at hl 1 rfl) ?_
          refine zb_ine (tgt := 215) h (by omega) dX5_does_208 (by decide) (fun c_208 => ?_) (fun c_208 => ?_)
          · refine zb_ic h dX5_does_215 ?_
            refine zrz h hr hH (by omega) ?_ dX5_does_216
            first
            | (exfalso; omega)
            | skip
              have e0 : dB ρ (S 9 1) = 0 := by omega
              exact ⟨by rw [e0], _, congrArg (fun q => zMo S (S 9 0) q (S 9 2) (S 9 3) (S 9 4) (S 9 5) (S 9 6)) (dSt_0 e0)⟩
          · refine zb_ic h dX5_does_211 ?_
            refine lv_goto (tgt := 216) hx hb dX5_does_212 (by decide) ?_
            refine zrz h hr hH (by omega) ?_ dX5_does_216
            first
            | (exfalso; omega)
            | skip
              have e1 : dB ρ (S 9 1) = 1 := by omega
              exact ⟨by rw [e1], _, congrArg (fun q => zMo S (S 9 0) q (S 9 2) (S 9 3) (S 9 4) (S 9 5) (S 9 6)) (by rw [dSt_1 e1]; rw [dDo_z (by omega), show S 9 0 12 = ρ 2 by omega, show S 9 0 13 = ρ 3 by omega])⟩
    · refine lv_aload_n hx hb dX5_does_93 rfl (lv_at hl 1 rfl) ?_
      refine zg_5_11 h hH zf_X5_140 dX5_does_94 ?_
      rw [zM_0]
      refine zb_bi h dX5_does_97 (by decide) (by decide) ?_
      refine zb_cne (tgt := 132) h (by omega) (by omega) dX5_does_99 (by decide) (fun c_99 => ?_) (fun c_99 => ?_)
      · refine lv_iload_n hx hb dX5_does_132 rfl (lv_at hl 0 rfl) ?_
        refine zb_ine (tgt := 207) h (by omega) dX5_does_133 (by decide) (fun c_133 => ?_) (fun c_133 => ?_)
        · refine lv_iload_n hx hb dX5_does_207 rfl (lv_at hl 0 rfl) ?_
          refine zb_ine (tgt := 215) h (by omega) dX5_does_208 (by decide) (fun c_208 => ?_) (fun c_208 => ?_)
          · refine zb_ic h dX5_does_215 ?_
            refine zrz h hr hH (by omega) ?_ dX5_does_216
            first
            | (exfalso; omega)
            | skip
              have e0 : dB ρ (S 9 1) = 0 := by omega
              exact ⟨by rw [e0], _, congrArg (fun q => zMo S (S 9 0) q (S 9 2) (S 9 3) (S 9 4) (S 9 5) (S 9 6)) (dSt_0 e0)⟩
          · refine zb_ic h dX5_does_211 ?_
            refine lv_goto (tgt := 216) hx hb dX5_does_212 (by decide) ?_
            refine zrz h hr hH (by omega) ?_ dX5_does_216
            first
            | (exfalso; omega)
            | skip
              have e1 : dB ρ (S 9 1) = 1 := by omega
              exact ⟨by rw [e1], _, congrArg (fun q => zMo S (S 9 0) q (S 9 2) (S 9 3) (S 9 4) (S 9 5) (S 9 6)) (by rw [dSt_1 e1]; rw [dDo_n (by omega), tLk_set hw hok.2.2 (by omega) (by omega) (by omega), if_pos (by unfold tb; rw [show ρ 2 = S 9 0 12 by omega, show ρ 3 = S 9 0 13 by omega]; omega)])⟩
        · refine lv_aload_n hx hb dX5_does_136 rfl (lv_at hl 1 rfl) ?_
          refine zg_5_11 h hH zf_X5_140 dX5_does_137 ?_
          rw [zM_0]
          refine zb_bi h dX5_does_140 (by decide) (by decide) ?_
          refine zb_cne (tgt := 160) h (by omega) (by omega) dX5_does_142 (by decide) (fun c_142 => ?_) (fun c_142 => ?_)
          · refine lv_aload_n hx hb dX5_does_160 rfl (lv_at hl 1 rfl) ?_
            refine zg_5_11 h hH zf_X5_140 dX5_does_161 ?_
            rw [zM_0]
            refine zb_bi h dX5_does_164 (by decide) (by decide) ?_
            refine zb_cne (tgt := 180) h (by omega) (by omega) dX5_does_166 (by decide) (fun c_166 => ?_) (fun c_166 => ?_)
            · refine lv_aload_n hx hb dX5_does_180 rfl (lv_at hl 1 rfl) ?_
              refine lv_aload_n hx hb dX5_does_181 rfl (lv_at hl 1 rfl) ?_
              refine zg_5_12 h hH zf_X5_143 dX5_does_182 ?_
              rw [zM_0]
              refine lv_aload_n hx hb dX5_does_185 rfl (lv_at hl 1 rfl) ?_
              refine zg_5_11 h hH zf_X5_140 dX5_does_186 ?_
              rw [zM_0]
              refine zb_bi h dX5_does_189 (by decide) (by decide) ?_
              refine zb_cne (tgt := 198) h (by omega) (by omega) dX5_does_191 (by decide) (fun c_191 => ?_) (fun c_191 => ?_)
              · refine zb_ic h dX5_does_198 ?_
                refine lv_aload_n hx hb dX5_does_199 rfl (lv_at hl 1 rfl) ?_
                refine zg_5_13 h hH zf_X5_146 dX5_does_200 ?_
                rw [zM_0]
                refine zcVi h hH (zr_5 h hH) (As := [.int (zI (S 9 0 12)), .int (zI 3), .int (zI (S 9 0 13))]) (rest := []) (c_X5_parts_ho l G hG (zMo S (S 9 0) (S 9 1) (S 9 2) (S 9 3) (S 9 4) (S 9 5) (S 9 6)) (S 9 0 12) (S 9 0 13) (by omega) (by omega) (zM_hw hw)) zce_X5_parts zcv_X5_parts zm_X5_117 hl.1 rfl rfl ⟨rfl, rfl⟩ ⟨Nat.le_of_ble_eq_true rfl, Nat.le_of_ble_eq_true rfl⟩ (Nat.le_of_ble_eq_true rfl) ⟨Nat.zero_le _, Nat.zero_le _⟩ dX5_does_203 (fun r_203 S_203 H locs hq hH => ?_)
                obtain ⟨rfl, M_203, rfl⟩ := hq
                simp only [zM_M, zM_0, zM_1, zM_2, zM_3, zM_4, zM_5, zM_6] at hH
                rw [zM_1]
                refine lv_istore_n (lv' := [(2, .int (zI (tTo (zup (S 9 1) (5 + 5 * (S 9 0 12) + 3) (S 9 0 13)) (S 9 0 12)))), (1, .int (zI w0)), (0, .ref (za G 9 0))]) hx hb dX5_does_206 rfl hl (by decide) rfl (fun ls hl => ?_)
                refine lv_iload_n hx hb dX5_does_207 rfl (lv_at hl 1 rfl) ?_
                refine zb_ine (tgt := 215) h (by omega) dX5_does_208 (by decide) (fun c_208 => ?_) (fun c_208 => ?_)
                · refine zb_ic h dX5_does_215 ?_
                  refine zrz h hr hH (by omega) ?_ dX5_does_216
                  first
                  | (exfalso; omega)
                  | skip
                    have e0 : dB ρ (S 9 1) = 0 := by omega
                    exact ⟨by rw [e0], _, congrArg (fun q => zMo S (S 9 0) q (S 9 2) (S 9 3) (S 9 4) M_203 (S 9 6)) (dSt_0 e0)⟩
                · refine zb_ic h dX5_does_211 ?_
                  refine lv_goto (tgt := 216) hx hb dX5_does_212 (by decide) ?_
                  refine zrz h hr hH (by omega) ?_ dX5_does_216
                  first
                  | (exfalso; omega)
                  | skip
                    have e1 : dB ρ (S 9 1) = 1 := by omega
                    exact ⟨by rw [e1], _, congrArg (fun q => zMo S (S 9 0) q (S 9 2) (S 9 3) (S 9 4) M_203 (S 9 6)) (by rw [dSt_1 e1]; rw [dDo_h (by omega), show S 9 0 12 = ρ 2 by omega, show S 9 0 13 = ρ 3 by omega])⟩
              · refine zb_ic h dX5_does_194 ?_
                refine lv_goto (tgt := 199) hx hb dX5_does_195 (by decide) ?_
                refine lv_aload_n hx hb dX5_does_199 rfl (lv_at hl 1 rfl) ?_
                refine zg_5_13 h hH zf_X5_146 dX5_does_200 ?_
                rw [zM_0]
                refine zcVi h hH (zr_5 h hH) (As := [.int (zI (S 9 0 12)), .int (zI 2), .int (zI (S 9 0 13))]) (rest := []) (c_X5_parts_bu l G hG (zMo S (S 9 0) (S 9 1) (S 9 2) (S 9 3) (S 9 4) (S 9 5) (S 9 6)) (S 9 0 12) (S 9 0 13) (by omega) (by omega) (zM_hw hw)) zce_X5_parts zcv_X5_parts zm_X5_117 hl.1 rfl rfl ⟨rfl, rfl⟩ ⟨Nat.le_of_ble_eq_true rfl, Nat.le_of_ble_eq_true rfl⟩ (Nat.le_of_ble_eq_true rfl) ⟨Nat.zero_le _, Nat.zero_le _⟩ dX5_does_203 (fun r_203 S_203 H locs hq hH => ?_)
                obtain ⟨rfl, M_203, rfl⟩ := hq
                simp only [zM_M, zM_0, zM_1, zM_2, zM_3, zM_4, zM_5, zM_6] at hH
                rw [zM_1]
                refine lv_istore_n (lv' := [(2, .int (zI (tTo (zup (S 9 1) (5 + 5 * (S 9 0 12) + 2) (S 9 0 13)) (S 9 0 12)))), (1, .int (zI w0)), (0, .ref (za G 9 0))]) hx hb dX5_does_206 rfl hl (by decide) rfl (fun ls hl => ?_)
                refine lv_iload_n hx hb dX5_does_207 rfl (lv_at hl 1 rfl) ?_
                refine zb_ine (tgt := 215) h (by omega) dX5_does_208 (by decide) (fun c_208 => ?_) (fun c_208 => ?_)
                · refine zb_ic h dX5_does_215 ?_
                  refine zrz h hr hH (by omega) ?_ dX5_does_216
                  first
                  | (exfalso; omega)
                  | skip
                    have e0 : dB ρ (S 9 1) = 0 := by omega
                    exact ⟨by rw [e0], _, congrArg (fun q => zMo S (S 9 0) q (S 9 2) (S 9 3) (S 9 4) M_203 (S 9 6)) (dSt_0 e0)⟩
                · refine zb_ic h dX5_does_211 ?_
                  refine lv_goto (tgt := 216) hx hb dX5_does_212 (by decide) ?_
                  refine zrz h hr hH (by omega) ?_ dX5_does_216
                  first
                  | (exfalso; omega)
                  | skip
                    have e1 : dB ρ (S 9 1) = 1 := by omega
                    exact ⟨by rw [e1], _, congrArg (fun q => zMo S (S 9 0) q (S 9 2) (S 9 3) (S 9 4) M_203 (S 9 6)) (by rw [dSt_1 e1]; rw [dDo_b (by omega), show S 9 0 12 = ρ 2 by omega, show S 9 0 13 = ρ 3 by omega])⟩
            · refine lv_aload_n hx hb dX5_does_169 rfl (lv_at hl 1 rfl) ?_
              refine lv_aload_n hx hb dX5_does_170 rfl (lv_at hl 1 rfl) ?_
              refine zg_5_12 h hH zf_X5_143 dX5_does_171 ?_
              rw [zM_0]
              refine zcVi h hH (zr_5 h hH) (As := [.int (zI (S 9 0 12))]) (rest := []) (c_X5_exposes l G hG (zMo S (S 9 0) (S 9 1) (S 9 2) (S 9 3) (S 9 4) (S 9 5) (S 9 6)) (S 9 0 12) (by omega) (zM_hw hw)) zce_X5_exposes zcv_X5_exposes zm_X5_111 hl.1 rfl rfl ⟨rfl, rfl⟩ ⟨Nat.le_of_ble_eq_true rfl, Nat.le_of_ble_eq_true rfl⟩ (Nat.le_of_ble_eq_true rfl) ⟨Nat.zero_le _, Nat.zero_le _⟩ dX5_does_174 (fun r_174 S_174 H locs hq hH => ?_)
              obtain ⟨rfl, M_174, rfl⟩ := hq
              simp only [zM_M, zM_0, zM_1, zM_2, zM_3, zM_4, zM_5, zM_6] at hH
              rw [zM_1]
              refine lv_goto (tgt := 206) hx hb dX5_does_177 (by decide) ?_
              refine lv_istore_n (lv' := [(2, .int (zI (tCnt (zup (S 9 1) 0 (S 9 0 12)) 0))), (1, .int (zI w0)), (0, .ref (za G 9 0))]) hx hb dX5_does_206 rfl hl (by decide) rfl (fun ls hl => ?_)
              refine lv_iload_n hx hb dX5_does_207 rfl (lv_at hl 1 rfl) ?_
              refine zb_ine (tgt := 215) h (by omega) dX5_does_208 (by decide) (fun c_208 => ?_) (fun c_208 => ?_)
              · refine zb_ic h dX5_does_215 ?_
                refine zrz h hr hH (by omega) ?_ dX5_does_216
                first
                | (exfalso; omega)
                | skip
                  have e0 : dB ρ (S 9 1) = 0 := by omega
                  exact ⟨by rw [e0], _, congrArg (fun q => zMo S (S 9 0) q (S 9 2) (S 9 3) (S 9 4) M_174 (S 9 6)) (dSt_0 e0)⟩
              · refine zb_ic h dX5_does_211 ?_
                refine lv_goto (tgt := 216) hx hb dX5_does_212 (by decide) ?_
                refine zrz h hr hH (by omega) ?_ dX5_does_216
                first
                | (exfalso; omega)
                | skip
                  have e1 : dB ρ (S 9 1) = 1 := by omega
                  exact ⟨by rw [e1], _, congrArg (fun q => zMo S (S 9 0) q (S 9 2) (S 9 3) (S 9 4) M_174 (S 9 6)) (by rw [dSt_1 e1]; rw [dDo_t (by omega), show S 9 0 12 = ρ 3 by omega])⟩
          · have q9 := dB_zi (σ := S 9 1) (show ρ 1 = 122 by omega)
            refine lv_aload_n hx hb dX5_does_145 rfl (lv_at hl 1 rfl) ?_
            refine lv_aload_n hx hb dX5_does_146 rfl (lv_at hl 1 rfl) ?_
            refine zg_5_12 h hH zf_X5_143 dX5_does_147 ?_
            rw [zM_0]
            refine lv_aload_n hx hb dX5_does_150 rfl (lv_at hl 1 rfl) ?_
            refine zg_5_13 h hH zf_X5_146 dX5_does_151 ?_
            rw [zM_0]
            refine zcVi h hH (zr_5 h hH) (As := [.int (zI (S 9 0 12)), .int (zI (S 9 0 13))]) (rest := []) (c_X5_zones l G hG (zMo S (S 9 0) (S 9 1) (S 9 2) (S 9 3) (S 9 4) (S 9 5) (S 9 6)) (S 9 0 12) (S 9 0 13) (by rw [zM_1]; omega) (zM_hw hw)) zce_X5_zones zcv_X5_zones zm_X5_93 hl.1 rfl rfl ⟨rfl, rfl⟩ ⟨Nat.le_of_ble_eq_true rfl, Nat.le_of_ble_eq_true rfl⟩ (Nat.le_of_ble_eq_true rfl) ⟨Nat.zero_le _, Nat.zero_le _⟩ dX5_does_154 (fun r_154 S_154 H locs hq hH => ?_)
            obtain ⟨rfl, rfl⟩ := hq
            simp only [zM_M, zM_0, zM_1, zM_2, zM_3, zM_4, zM_5, zM_6] at hH
            rw [zM_1]
            refine lv_goto (tgt := 206) hx hb dX5_does_157 (by decide) ?_
            refine lv_istore_n (lv' := [(2, .int (zI (S 9 1 4))), (1, .int (zI w0)), (0, .ref (za G 9 0))]) hx hb dX5_does_206 rfl hl (by decide) rfl (fun ls hl => ?_)
            refine lv_iload_n hx hb dX5_does_207 rfl (lv_at hl 1 rfl) ?_
            refine zb_ine (tgt := 215) h (by omega) dX5_does_208 (by decide) (fun c_208 => ?_) (fun c_208 => ?_)
            · refine zb_ic h dX5_does_215 ?_
              refine zrz h hr hH (by omega) ?_ dX5_does_216
              first
              | (exfalso; omega)
              | skip
                have e0 : dB ρ (S 9 1) = 0 := by omega
                exact ⟨by rw [e0], _, congrArg (fun q => zMo S (S 9 0) q (S 9 2) (S 9 3) (S 9 4) (S 9 5) (S 9 6)) (dSt_0 e0)⟩
            · refine zb_ic h dX5_does_211 ?_
              refine lv_goto (tgt := 216) hx hb dX5_does_212 (by decide) ?_
              refine zrz h hr hH (by omega) ?_ dX5_does_216
              first
              | (exfalso; omega)
              | skip
                have e1 : dB ρ (S 9 1) = 1 := by omega
                exact ⟨by rw [e1], _, congrArg (fun q => zMo S (S 9 0) q (S 9 2) (S 9 3) (S 9 4) (S 9 5) (S 9 6)) (by rw [dSt_1 e1]; rw [dDo_z (by omega), show S 9 0 12 = ρ 2 by omega, show S 9 0 13 = ρ 3 by omega])⟩
      · refine lv_aload_n hx hb dX5_does_102 rfl (lv_at hl 1 rfl) ?_
        refine lv_aload_n hx hb dX5_does_103 rfl (lv_at hl 1 rfl) ?_
        refine zg_5_12 h hH zf_X5_143 dX5_does_104 ?_
        rw [zM_0]
        refine lv_aload_n hx hb dX5_does_107 rfl (lv_at hl 1 rfl) ?_
        refine zg_5_13 h hH zf_X5_146 dX5_does_108 ?_
        rw [zM_0]
        refine zcVi h hH (zr_5 h hH) (As := [.int (zI (S 9 0 12)), .int (zI (S 9 0 13))]) (rest := []) (c_X5_areLinked l G hG (zMo S (S 9 0) (S 9 1) (S 9 2) (S 9 3) (S 9 4) (S 9 5) (S 9 6)) (S 9 0 12) (S 9 0 13) (by omega) (by omega) (zM_hw hw)) zce_X5_areLinked zcv_X5_areLinked zm_X5_103 hl.1 rfl rfl ⟨rfl, rfl⟩ ⟨Nat.le_of_ble_eq_true rfl, Nat.le_of_ble_eq_true rfl⟩ (Nat.le_of_ble_eq_true rfl) ⟨Nat.zero_le _, Nat.zero_le _⟩ dX5_does_111 (fun r_111 S_111 H locs hq hH => ?_)
        obtain ⟨b_111, rfl, hb_111, rfl⟩ := hq
        (try rw [zM_1] at hb_111)
        have et : tb (S 9 1) (S 9 0 12) (S 9 0 13) = S 9 1 (5 + 5 * (S 9 0 12) + 4) / 2 ^ (S 9 0 13).toNat % 2 := rfl
        refine zb_ine (tgt := 207) h (by omega) dX5_does_114 (by decide) (fun c_114 => ?_) (fun c_114 => ?_)
        · refine lv_iload_n hx hb dX5_does_207 rfl (lv_at hl 0 rfl) ?_
          refine zb_ine (tgt := 215) h (by omega) dX5_does_208 (by decide) (fun c_208 => ?_) (fun c_208 => ?_)
          · refine zb_ic h dX5_does_215 ?_
            refine zrz h hr hH (by omega) ?_ dX5_does_216
            first
            | (exfalso; omega)
            | skip
              have e0 : dB ρ (S 9 1) = 0 := by omega
              exact ⟨by rw [e0], _, congrArg (fun q => zMo S (S 9 0) q (S 9 2) (S 9 3) (S 9 4) (S 9 5) (S 9 6)) (dSt_0 e0)⟩
          · refine zb_ic h dX5_does_211 ?_
            refine lv_goto (tgt := 216) hx hb dX5_does_212 (by decide) ?_
            refine zrz h hr hH (by omega) ?_ dX5_does_216
            first
            | (exfalso; omega)
            | skip
              have e1 : dB ρ (S 9 1) = 1 := by omega
              exact ⟨by rw [e1], _, congrArg (fun q => zMo S (S 9 0) q (S 9 2) (S 9 3) (S 9 4) (S 9 5) (S 9 6)) (by rw [dSt_1 e1]; rw [dDo_n (by omega), tLk_set hw hok.2.2 (by omega) (by omega) (by omega), if_pos (by unfold tb; rw [show ρ 2 = S 9 0 12 by omega, show ρ 3 = S 9 0 13 by omega]; omega)])⟩
        · refine lv_aload_n hx hb dX5_does_117 rfl (lv_at hl 1 rfl) ?_
          refine lv_aload_n hx hb dX5_does_118 rfl (lv_at hl 1 rfl) ?_
          refine zg_5_12 h hH zf_X5_143 dX5_does_119 ?_
          rw [zM_0]
          refine lv_aload_n hx hb dX5_does_122 rfl (lv_at hl 1 rfl) ?_
          refine zg_5_13 h hH zf_X5_146 dX5_does_123 ?_
          rw [zM_0]
          refine zcVv h hH (zr_5 h hH) (As := [.int (zI (S 9 0 12)), .int (zI (S 9 0 13))]) (rest := []) (c_X5_turnLink l G hG (zMo S (S 9 0) (S 9 1) (S 9 2) (S 9 3) (S 9 4) (S 9 5) (S 9 6)) (S 9 0 12) (S 9 0 13) (by omega) (by omega) (by omega) (zM_hw hw)) zce_X5_turnLink zcv_X5_turnLink zm_X5_99 hl.1 rfl rfl ⟨rfl, rfl⟩ ⟨Nat.le_of_ble_eq_true rfl, Nat.le_of_ble_eq_true rfl⟩ (Nat.le_of_ble_eq_true rfl) ⟨Nat.zero_le _, Nat.zero_le _⟩ dX5_does_126 (fun S_126 H locs hq hH => ?_)
          obtain rfl := hq
          simp only [zM_M, zM_0, zM_1, zM_2, zM_3, zM_4, zM_5, zM_6] at hH
          refine lv_goto (tgt := 207) hx hb dX5_does_129 (by decide) ?_
          refine lv_iload_n hx hb dX5_does_207 rfl (lv_at hl 0 rfl) ?_
          refine zb_ine (tgt := 215) h (by omega) dX5_does_208 (by decide) (fun c_208 => ?_) (fun c_208 => ?_)
          · refine zb_ic h dX5_does_215 ?_
            refine zrz h hr hH (by omega) ?_ dX5_does_216
            first
            | (exfalso; omega)
            | skip
              have e0 : dB ρ (S 9 1) = 0 := by omega
              exact ⟨by rw [e0], _, congrArg (fun q => zMo S (S 9 0) q (S 9 2) (S 9 3) (S 9 4) (S 9 5) (S 9 6)) (dSt_0 e0)⟩
          · refine zb_ic h dX5_does_211 ?_
            refine lv_goto (tgt := 216) hx hb dX5_does_212 (by decide) ?_
            refine zrz h hr hH (by omega) ?_ dX5_does_216
            first
            | (exfalso; omega)
            | skip
              have e1 : dB ρ (S 9 1) = 1 := by omega
              exact ⟨by rw [e1], _, congrArg (fun q => zMo S (S 9 0) q (S 9 2) (S 9 3) (S 9 4) (S 9 5) (S 9 6)) (by rw [dSt_1 e1]; rw [dDo_n (by omega), tLk_set hw hok.2.2 (by omega) (by omega) (by omega), if_neg (by unfold tb; rw [show ρ 2 = S 9 0 12 by omega, show ρ 3 = S 9 0 13 by omega]; omega), show S 9 0 12 = ρ 2 by omega, show S 9 0 13 = ρ 3 by omega])⟩
  refine lv_aload_n hx hb dX5_does_0 rfl (lv_at hl 0 rfl) ?_
  refine zg_5_11 h hH zf_X5_140 dX5_does_1 ?_
  rw [zM_0]
  refine zb_bi h dX5_does_4 (by decide) (by decide) ?_
  refine zb_cne (tgt := 24) h (by omega) (by omega) dX5_does_6 (by decide) (fun c_6 => ?_) (fun c_6 => ?_)
  · refine lv_aload_n hx hb dX5_does_24 rfl (lv_at hl 0 rfl) ?_
    refine zg_5_11 h hH zf_X5_140 dX5_does_25 ?_
    rw [zM_0]
    refine zb_bi h dX5_does_28 (by decide) (by decide) ?_
    refine zb_cne (tgt := 37) h (by omega) (by omega) dX5_does_30 (by decide) (fun c_30 => ?_) (fun c_30 => ?_)
    · refine lv_aload_n hx hb dX5_does_37 rfl (lv_at hl 0 rfl) ?_
      refine zg_5_11 h hH zf_X5_140 dX5_does_38 ?_
      rw [zM_0]
      refine zb_bi h dX5_does_41 (by decide) (by decide) ?_
      refine zb_cne (tgt := 76) h (by omega) (by omega) dX5_does_43 (by decide) (fun c_43 => ?_) (fun c_43 => ?_)
      · refine lv_aload_n hx hb dX5_does_76 rfl (lv_at hl 0 rfl) ?_
        refine lv_aload_n hx hb dX5_does_77 rfl (lv_at hl 0 rfl) ?_
        refine zg_5_12 h hH zf_X5_143 dX5_does_78 ?_
        rw [zM_0]
        refine lv_aload_n hx hb dX5_does_81 rfl (lv_at hl 0 rfl) ?_
        refine zg_5_13 h hH zf_X5_146 dX5_does_82 ?_
        rw [zM_0]
        refine zcVi h hH (zr_5 h hH) (As := [.int (zI (S 9 0 12)), .int (zI (S 9 0 13))]) (rest := []) (c_X5_partFault l G hG (zMo S (S 9 0) (S 9 1) (S 9 2) (S 9 3) (S 9 4) (S 9 5) (S 9 6)) (S 9 0 12) (S 9 0 13) (by omega) (by omega) (zM_hw hw)) zce_X5_partFault zcv_X5_partFault zm_X5_114 hl.1 rfl rfl ⟨rfl, rfl⟩ ⟨Nat.le_of_ble_eq_true rfl, Nat.le_of_ble_eq_true rfl⟩ (Nat.le_of_ble_eq_true rfl) ⟨Nat.zero_le _, Nat.zero_le _⟩ dX5_does_85 (fun r_85 S_85 H locs hq hH => ?_)
        obtain ⟨b_85, rfl, hb_85, rfl⟩ := hq
        (try rw [zM_1] at hb_85)
        have q9 := dB_bi (σ := S 9 1) (show ρ 1 = 98 ∨ ρ 1 = 104 by omega)
        exact C88 b_85 _ _ _  (by omega) (by omega) hH (lv_sub hl [0] rfl)
      · refine lv_aload_n hx hb dX5_does_46 rfl (lv_at hl 0 rfl) ?_
        refine lv_aload_n hx hb dX5_does_47 rfl (lv_at hl 0 rfl) ?_
        refine zg_5_12 h hH zf_X5_143 dX5_does_48 ?_
        rw [zM_0]
        refine zcVi h hH (zr_5 h hH) (As := [.int (zI (S 9 0 12))]) (rest := []) (c_X5_isZone l G hG (zMo S (S 9 0) (S 9 1) (S 9 2) (S 9 3) (S 9 4) (S 9 5) (S 9 6)) (S 9 0 12) (by omega) (zM_hw hw)) zce_X5_isZone zcv_X5_isZone zm_X5_96 hl.1 rfl rfl ⟨rfl, rfl⟩ ⟨Nat.le_of_ble_eq_true rfl, Nat.le_of_ble_eq_true rfl⟩ (Nat.le_of_ble_eq_true rfl) ⟨Nat.zero_le _, Nat.zero_le _⟩ dX5_does_51 (fun r_51 S_51 H locs hq hH => ?_)
        obtain ⟨b_51, rfl, hb_51, rfl⟩ := hq
        (try rw [zM_1] at hb_51)
        refine zb_ieq (tgt := 72) h (by omega) dX5_does_54 (by decide) (fun c_54 => ?_) (fun c_54 => ?_)
        · refine zb_ic h dX5_does_72 ?_
          refine lv_goto (tgt := 88) hx hb dX5_does_73 (by decide) ?_
          have q9 := dB_ni (σ := S 9 1) (show ρ 1 = 110 by omega)
          exact C88 1 _ _ _  (by omega) (by omega) hH (lv_sub hl [0] rfl)
        · refine lv_aload_n hx hb dX5_does_57 rfl (lv_at hl 0 rfl) ?_
          refine lv_aload_n hx hb dX5_does_58 rfl (lv_at hl 0 rfl) ?_
          refine zg_5_13 h hH zf_X5_146 dX5_does_59 ?_
          rw [zM_0]
          refine zcVi h hH (zr_5 h hH) (As := [.int (zI (S 9 0 13))]) (rest := []) (c_X5_isZone l G hG (zMo S (S 9 0) (S 9 1) (S 9 2) (S 9 3) (S 9 4) (S 9 5) (S 9 6)) (S 9 0 13) (by omega) (zM_hw hw)) zce_X5_isZone zcv_X5_isZone zm_X5_96 hl.1 rfl rfl ⟨rfl, rfl⟩ ⟨Nat.le_of_ble_eq_true rfl, Nat.le_of_ble_eq_true rfl⟩ (Nat.le_of_ble_eq_true rfl) ⟨Nat.zero_le _, Nat.zero_le _⟩ dX5_does_62 (fun r_62 S_62 H locs hq hH => ?_)
          obtain ⟨b_62, rfl, hb_62, rfl⟩ := hq
          (try rw [zM_1] at hb_62)
          refine zb_ieq (tgt := 72) h (by omega) dX5_does_65 (by decide) (fun c_65 => ?_) (fun c_65 => ?_)
          · refine zb_ic h dX5_does_72 ?_
            refine lv_goto (tgt := 88) hx hb dX5_does_73 (by decide) ?_
            have q9 := dB_ni (σ := S 9 1) (show ρ 1 = 110 by omega)
            exact C88 1 _ _ _  (by omega) (by omega) hH (lv_sub hl [0] rfl)
          · refine zb_ic h dX5_does_68 ?_
            refine lv_goto (tgt := 88) hx hb dX5_does_69 (by decide) ?_
            have q9 := dB_ni (σ := S 9 1) (show ρ 1 = 110 by omega)
            exact C88 0 _ _ _  (by omega) (by omega) hH (lv_sub hl [0] rfl)
    · refine zb_ic h dX5_does_33 ?_
      refine lv_goto (tgt := 88) hx hb dX5_does_34 (by decide) ?_
      have q9 := dB_t (σ := S 9 1) (show ρ 1 = 116 by omega)
      exact C88 0 _ _ _  (by omega) (by omega) hH (lv_sub hl [0] rfl)
  · refine lv_aload_n hx hb dX5_does_9 rfl (lv_at hl 0 rfl) ?_
    refine lv_aload_n hx hb dX5_does_10 rfl (lv_at hl 0 rfl) ?_
    refine zg_5_12 h hH zf_X5_143 dX5_does_11 ?_
    rw [zM_0]
    refine lv_aload_n hx hb dX5_does_14 rfl (lv_at hl 0 rfl) ?_
    refine zg_5_13 h hH zf_X5_146 dX5_does_15 ?_
    rw [zM_0]
    refine zcVi h hH (zr_5 h hH) (As := [.int (zI (S 9 0 12)), .int (zI (S 9 0 13))]) (rest := []) (c_X5_zoneFault l G hG (zMo S (S 9 0) (S 9 1) (S 9 2) (S 9 3) (S 9 4) (S 9 5) (S 9 6)) (S 9 0 12) (S 9 0 13) (by omega) (by omega) (zM_hw hw)) zce_X5_zoneFault zcv_X5_zoneFault zm_X5_84 hl.1 rfl rfl ⟨rfl, rfl⟩ ⟨Nat.le_of_ble_eq_true rfl, Nat.le_of_ble_eq_true rfl⟩ (Nat.le_of_ble_eq_true rfl) ⟨Nat.zero_le _, Nat.zero_le _⟩ dX5_does_18 (fun r_18 S_18 H locs hq hH => ?_)
    obtain ⟨b_18, rfl, hb_18, rfl⟩ := hq
    (try rw [zM_1] at hb_18)
    refine lv_goto (tgt := 88) hx hb dX5_does_21 (by decide) ?_
    have q9 := dB_zi (σ := S 9 1) (show ρ 1 = 122 by omega)
    exact C88 b_18 _ _ _  (by omega) (by omega) hH (lv_sub hl [0] rfl)
theorem dX5_go_0 : decode cX5_go 0 = .ok (.aload_n 0, 1) := by decide +kernel
theorem dX5_go_1 : decode cX5_go 1 = .ok (.iconst 0, 1) := by decide +kernel
theorem dX5_go_2 : decode cX5_go 2 = .ok (.putfield 130, 3) := by decide +kernel
theorem dX5_go_5 : decode cX5_go 5 = .ok (.aload_n 0, 1) := by decide +kernel
theorem dX5_go_6 : decode cX5_go 6 = .ok (.iconst 0, 1) := by decide +kernel
theorem dX5_go_7 : decode cX5_go 7 = .ok (.putfield 133, 3) := by decide +kernel
theorem dX5_go_10 : decode cX5_go 10 = .ok (.iconst 0, 1) := by decide +kernel
theorem dX5_go_11 : decode cX5_go 11 = .ok (.istore_n 2, 1) := by decide +kernel
theorem dX5_go_12 : decode cX5_go 12 = .ok (.iconst 1, 1) := by decide +kernel
theorem dX5_go_13 : decode cX5_go 13 = .ok (.istore_n 3, 1) := by decide +kernel
theorem dX5_go_14 : decode cX5_go 14 = .ok (.iload_n 3, 1) := by decide +kernel
theorem dX5_go_15 : decode cX5_go 15 = .ok (.ifCond .eq 101, 3) := by decide +kernel
theorem dX5_go_18 : decode cX5_go 18 = .ok (.aload_n 0, 1) := by decide +kernel
theorem dX5_go_19 : decode cX5_go 19 = .ok (.invokevirtual 152, 3) := by decide +kernel
theorem dX5_go_22 : decode cX5_go 22 = .ok (.iload_n 1, 1) := by decide +kernel
theorem dX5_go_23 : decode cX5_go 23 = .ok (.ifCond .eq 14, 3) := by decide +kernel
theorem dX5_go_37 : decode cX5_go 37 = .ok (.iconst 0, 1) := by decide +kernel
theorem dX5_go_38 : decode cX5_go 38 = .ok (.istore 4, 2) := by decide +kernel
theorem dX5_go_40 : decode cX5_go 40 = .ok (.iload_n 2, 1) := by decide +kernel
theorem dX5_go_41 : decode cX5_go 41 = .ok (.iload 4, 2) := by decide +kernel
theorem dX5_go_43 : decode cX5_go 43 = .ok (.ifCond .eq 7, 3) := by decide +kernel
theorem dX5_go_50 : decode cX5_go 50 = .ok (.iconst 0, 1) := by decide +kernel
theorem dX5_go_51 : decode cX5_go 51 = .ok (.iadd, 1) := by decide +kernel
theorem dX5_go_52 : decode cX5_go 52 = .ok (.istore_n 2, 1) := by decide +kernel
theorem dX5_go_53 : decode cX5_go 53 = .ok (.aload_n 0, 1) := by decide +kernel
theorem dX5_go_54 : decode cX5_go 54 = .ok (.getfield 133, 3) := by decide +kernel
theorem dX5_go_57 : decode cX5_go 57 = .ok (.ifCond .ne 27, 3) := by decide +kernel
theorem dX5_go_60 : decode cX5_go 60 = .ok (.iload 4, 2) := by decide +kernel
theorem dX5_go_62 : decode cX5_go 62 = .ok (.ifCond .ne 7, 3) := by decide +kernel
theorem dX5_go_65 : decode cX5_go 65 = .ok (.iload_n 1, 1) := by decide +kernel
theorem dX5_go_66 : decode cX5_go 66 = .ok (.ifCond .ne 18, 3) := by decide +kernel
theorem dX5_go_69 : decode cX5_go 69 = .ok (.aload_n 0, 1) := by decide +kernel
theorem dX5_go_70 : decode cX5_go 70 = .ok (.getfield 130, 3) := by decide +kernel
theorem dX5_go_73 : decode cX5_go 73 = .ok (.aload_n 0, 1) := by decide +kernel
theorem dX5_go_74 : decode cX5_go 74 = .ok (.getfield 127, 3) := by decide +kernel
theorem dX5_go_77 : decode cX5_go 77 = .ok (.if_icmp .ge 7, 3) := by decide +kernel
theorem dX5_go_80 : decode cX5_go 80 = .ok (.iconst 1, 1) := by decide +kernel
theorem dX5_go_81 : decode cX5_go 81 = .ok (.goto 4, 3) := by decide +kernel
theorem dX5_go_84 : decode cX5_go 84 = .ok (.iconst 0, 1) := by decide +kernel
theorem dX5_go_85 : decode cX5_go 85 = .ok (.istore_n 3, 1) := by decide +kernel
theorem dX5_go_86 : decode cX5_go 86 = .ok (.iload_n 3, 1) := by decide +kernel
theorem dX5_go_87 : decode cX5_go 87 = .ok (.ifCond .eq 26, 3) := by decide +kernel
theorem dX5_go_90 : decode cX5_go 90 = .ok (.aload_n 0, 1) := by decide +kernel
theorem dX5_go_91 : decode cX5_go 91 = .ok (.bipush 59, 2) := by decide +kernel
theorem dX5_go_93 : decode cX5_go 93 = .ok (.bipush 59, 2) := by decide +kernel
theorem dX5_go_95 : decode cX5_go 95 = .ok (.invokevirtual 137, 3) := by decide +kernel
theorem dX5_go_98 : decode cX5_go 98 = .ok (.istore 5, 2) := by decide +kernel
theorem dX5_go_100 : decode cX5_go 100 = .ok (.aload_n 0, 1) := by decide +kernel
theorem dX5_go_101 : decode cX5_go 101 = .ok (.getfield 133, 3) := by decide +kernel
theorem dX5_go_104 : decode cX5_go 104 = .ok (.ifCond .ne 7, 3) := by decide +kernel
theorem dX5_go_107 : decode cX5_go 107 = .ok (.iconst 1, 1) := by decide +kernel
theorem dX5_go_108 : decode cX5_go 108 = .ok (.goto 4, 3) := by decide +kernel
theorem dX5_go_111 : decode cX5_go 111 = .ok (.iconst 0, 1) := by decide +kernel
theorem dX5_go_112 : decode cX5_go 112 = .ok (.istore_n 3, 1) := by decide +kernel
theorem dX5_go_113 : decode cX5_go 113 = .ok (.goto (-99), 3) := by decide +kernel
theorem dX5_go_116 : decode cX5_go 116 = .ok (.iload_n 2, 1) := by decide +kernel
theorem dX5_go_117 : decode cX5_go 117 = .ok (.ireturn, 1) := by decide +kernel
def q_X5_go_no (S : zM) (ρ0 : Int → Int) : Int32 → zM → Prop := fun r S1 => ∃ (n : Int) (f : Int → Int), r = zI n ∧ (zBad (S 9 4) ρ0 (S 9 0 6) f ∨ (f 10 = 0 ∧ f 9 = S 9 0 6 ∧ zFull (S 9 4) ρ0 (S 9 0 6))) ∧ (∀ x : Int, x < 9 ∨ 13 < x → f x = S 9 0 x) ∧ zMo S f (S 9 1) (S 9 2) (S 9 3) (S 9 4) (S 9 5) (S 9 6) = S1
def r_X5_go_no : Room := { frames := 4, cells := 0, slots := 0, locals := 90 }
set_option maxHeartbeats 4000000 in
set_option maxRecDepth 100000 in
theorem c_X5_go_no (l : Launch) (G : zG) (hG : zok G) (S : zM) (ρ0 : Int → Int) (h00 : ρ0 0 = 0) (hlen : 0 ≤ S 9 0 6 ∧ S 9 0 6 ≤ 60) (htx : ∀ i : Int, 0 ≤ i → i < 60 → 0 ≤ S 9 4 i ∧ S 9 4 i ≤ 126)  : Met l yX5_go (Cond.code yX5_go cX5_go 6 (some FieldType.int) :: zTbl) r_X5_go_no (va_Pc [.ref (za G 9 0), .int (zI 0)] (zB G S)) (va_Qi (q_X5_go_no S ρ0) (zB G) (zA G)) 0 0 (zA G) := by
  refine zMet [(0, .ref (za G 9 0)), (1, .int (zI 0))] hG (by decide) (Nat.le_of_ble_eq_true rfl) rfl (fun p e s m args below meth c ls h hx hb hr hH hl => ?_)
  rw [← zM_id S] at hH
  have C14 : ∀ (fu : Nat) (mo n : Int) (f : Int → Int) (H : Heap) (locs : List Loc) (ls : Array Slot), (61 * mo + S 9 0 6 - f 9).toNat < fu → ((mo = 0 ∨ mo = 1) ∧ 0 ≤ f 9 ∧ f 9 ≤ S 9 0 6) → ((mo = 1 ∧ zSt (S 9 4) ρ0 (S 9 0 6) f) ∨ (mo = 0 ∧ (zBad (S 9 4) ρ0 (S 9 0 6) f ∨ (f 10 = 0 ∧ f 9 = S 9 0 6 ∧ zFull (S 9 4) ρ0 (S 9 0 6))))) → (∀ x : Int, x < 9 ∨ 13 < x → f x = S 9 0 x) → zH G (zMo S f (S 9 1) (S 9 2) (S 9 3) (S 9 4) (S 9 5) (S 9 6)) s H locs → lv_has ls 6 [(0, .ref (za G 9 0)), (1, .int (zI 0)), (2, .int (zI n)), (3, .int (zI mo))] → W p l e r_X5_go_no s m args below meth c H locs 0 0 (MQ below (va_Qi (q_X5_go_no S ρ0) (zB G) (zA G)) args s 0 0 (zA G)) (F0 m 14 ls []) := by
    intro fu
    induction fu with
    | zero => intro mo n f H locs ls hfu; omega
    | succ fu ih14 =>
      intro mo n f H locs ls hfu hmo hst hfx hH hl
      refine lv_iload_n hx hb dX5_go_14 rfl (lv_at hl 3 rfl) ?_
      refine zb_ieq (tgt := 116) h (by omega) dX5_go_15 (by decide) (fun c_15 => ?_) (fun c_15 => ?_)
      · refine lv_iload_n hx hb dX5_go_116 rfl (lv_at hl 2 rfl) ?_
        refine zri h hr hH ?_ dX5_go_117
        exact ⟨n, f, rfl, (hst.resolve_left (fun q => by have := q.1; omega)).2, hfx, rfl⟩
      · obtain ⟨hm1, hst2⟩ := hst.resolve_right (fun q => by have := q.1; omega)
        obtain ⟨ρ, hA, hA0⟩ := id hst2
        refine lv_aload_n hx hb dX5_go_18 rfl (lv_at hl 0 rfl) ?_
        refine zcVv h hH (zr_5 h hH) (As := []) (rest := []) (c_X5_order l G hG (zMo S f (S 9 1) (S 9 2) (S 9 3) (S 9 4) (S 9 5) (S 9 6)) (by rw [zM_0, zM_4]; exact zAt_pI hlen.2 htx hA)) zce_X5_order zcv_X5_order zm_X5_152 hl.1 rfl rfl ⟨rfl, rfl⟩ ⟨Nat.le_of_ble_eq_true rfl, Nat.le_of_ble_eq_true rfl⟩ (Nat.le_of_ble_eq_true rfl) ⟨Nat.zero_le _, Nat.zero_le _⟩ dX5_go_19 (fun S_19 H locs hq hH => ?_)
        obtain rfl := hq
        simp only [zM_M, zM_0, zM_1, zM_2, zM_3, zM_4, zM_5, zM_6] at hH
        have hty : ∀ i : Int, 0 ≤ i → i < S 9 0 6 → 0 ≤ S 9 4 i ∧ S 9 4 i ≤ 126 := fun i h1 h2 => htx i h1 (by omega)
        have hO := zOrd hty hlen.2 hA hA0
        have hox := fun (x : Int) (h : x < 9 ∨ 13 < x) => pOrd_x f (S 9 4) (pWo f (S 9 4)) h
        generalize pOrd f (S 9 4) (pWo f (S 9 4)) = f1 at hH hO hox
        have hf10 : f1 10 = 0 ∨ f1 10 = 1 := hO.elim (fun q => Or.inr q.1) (fun q => q.elim fun _ z => Or.inl z.1.1)
        have hf9 : 0 ≤ f1 9 ∧ f1 9 ≤ S 9 0 6 := hO.elim (fun q => q.2.2.1) (fun q => q.elim fun _ z => z.1.2.2.1)
        have hf6 : f1 6 = S 9 0 6 := (hox 6 (by omega)).trans (hfx 6 (by omega))
        refine lv_iload_n hx hb dX5_go_22 rfl (lv_at hl 1 rfl) ?_
        refine zb_ieq (tgt := 37) h (by omega) dX5_go_23 (by decide) (fun c_23 => ?_) (fun c_23 => ?_)
        · refine zb_ic h dX5_go_37 ?_
          refine lv_istore (lv' := [(4, .int (zI 0)), (0, .ref (za G 9 0)), (1, .int (zI 0)), (2, .int (zI n)), (3, .int (zI mo))]) hx hb dX5_go_38 hl (by decide) rfl (fun ls hl => ?_)
          refine lv_iload_n hx hb dX5_go_40 rfl (lv_at hl 3 rfl) ?_
          refine lv_iload hx hb dX5_go_41 (lv_at hl 0 rfl) ?_
          refine zb_ieq (tgt := 50) h (by omega) dX5_go_43 (by decide) (fun c_43 => ?_) (fun c_43 => ?_)
          · refine zb_ic h dX5_go_50 ?_
            refine zb_iadd h dX5_go_51 ?_
            refine lv_istore_n (lv' := [(2, .int (zI (n + 0))), (4, .int (zI 0)), (0, .ref (za G 9 0)), (1, .int (zI 0)), (3, .int (zI mo))]) hx hb dX5_go_52 rfl hl (by decide) rfl (fun ls hl => ?_)
            refine lv_aload_n hx hb dX5_go_53 rfl (lv_at hl 2 rfl) ?_
            refine zg_5_10 h hH zf_X5_133 dX5_go_54 ?_
            rw [zM_0]
            refine zb_ine (tgt := 84) h (by omega) dX5_go_57 (by decide) (fun c_57 => ?_) (fun c_57 => ?_)
            · refine zb_ic h dX5_go_84 ?_
              refine lv_istore_n (lv' := [(3, .int (zI 0)), (2, .int (zI (n + 0))), (4, .int (zI 0)), (0, .ref (za G 9 0)), (1, .int (zI 0))]) hx hb dX5_go_85 rfl hl (by decide) rfl (fun ls hl => ?_)
              refine lv_iload_n hx hb dX5_go_86 rfl (lv_at hl 0 rfl) ?_
              refine zb_ieq (tgt := 113) h (by omega) dX5_go_87 (by decide) (fun c_87 => ?_) (fun c_87 => ?_)
              · refine lv_goto (tgt := 14) hx hb dX5_go_113 (by decide) ?_
                exact ih14 0 (n + 0) f1 _ _ _ (by omega) (by omega) (by first | exact Or.inl ⟨rfl, (hS.resolve_right (fun q => by have := q.1; omega)).2.2⟩ | exact Or.inr ⟨rfl, Or.inl (hS.resolve_left (fun q => by have := q.1; omega)).2.2⟩ | exact Or.inr ⟨rfl, Or.inl (hO.resolve_right (fun q => q.elim fun _ z => by have := z.1.1; omega))⟩ | exact Or.inr ⟨rfl, Or.inr (zGood_full hGd (by omega))⟩) (by first | exact fun x h => (hox x h).trans (hfx x h) | exact fun x h => (hox2 x h).trans ((hox x h).trans (hfx x h))) hH (lv_sub hl [3, 4, 1, 0] rfl)
              · exact absurd c_87 (by omega)
            · refine lv_iload hx hb dX5_go_60 (lv_at hl 1 rfl) ?_
              refine zb_ine (tgt := 69) h (by omega) dX5_go_62 (by decide) (fun c_62 => ?_) (fun c_62 => ?_)
              · exact absurd rfl c_62
              · refine lv_iload_n hx hb dX5_go_65 rfl (lv_at hl 3 rfl) ?_
                refine zb_ine (tgt := 84) h (by omega) dX5_go_66 (by decide) (fun c_66 => ?_) (fun c_66 => ?_)
                · exact absurd rfl c_66
                · refine lv_aload_n hx hb dX5_go_69 rfl (lv_at hl 2 rfl) ?_
                  refine zg_5_9 h hH zf_X5_130 dX5_go_70 ?_
                  rw [zM_0]
                  refine lv_aload_n hx hb dX5_go_73 rfl (lv_at hl 2 rfl) ?_
                  refine zg_5_6 h hH zf_X5_127 dX5_go_74 ?_
                  rw [zM_0]
                  refine zb_cge (tgt := 84) h (by omega) (by omega) dX5_go_77 (by decide) (fun c_77 => ?_) (fun c_77 => ?_)
                  · have hGd := hO.resolve_left (fun q => by have := q.1; omega)
                    have hlt : f 9 < f1 9 := hGd.elim fun _ z => z.2.2.2.1
                    refine zb_ic h dX5_go_84 ?_
                    refine lv_istore_n (lv' := [(3, .int (zI 0)), (2, .int (zI (n + 0))), (4, .int (zI 0)), (0, .ref (za G 9 0)), (1, .int (zI 0))]) hx hb dX5_go_85 rfl hl (by decide) rfl (fun ls hl => ?_)
                    refine lv_iload_n hx hb dX5_go_86 rfl (lv_at hl 0 rfl) ?_
                    refine zb_ieq (tgt := 113) h (by omega) dX5_go_87 (by decide) (fun c_87 => ?_) (fun c_87 => ?_)
                    · refine lv_goto (tgt := 14) hx hb dX5_go_113 (by decide) ?_
                      exact ih14 0 (n + 0) f1 _ _ _ (by omega) (by omega) (by first | exact Or.inl ⟨rfl, (hS.resolve_right (fun q => by have := q.1; omega)).2.2⟩ | exact Or.inr ⟨rfl, Or.inl (hS.resolve_left (fun q => by have := q.1; omega)).2.2⟩ | exact Or.inr ⟨rfl, Or.inl (hO.resolve_right (fun q => q.elim fun _ z => by have := z.1.1; omega))⟩ | exact Or.inr ⟨rfl, Or.inr (zGood_full hGd (by omega))⟩) (by first | exact fun x h => (hox x h).trans (hfx x h) | exact fun x h => (hox2 x h).trans ((hox x h).trans (hfx x h))) hH (lv_sub hl [3, 4, 1, 0] rfl)
                    · exact absurd c_87 (by omega)
                  · have hGd := hO.resolve_left (fun q => by have := q.1; omega)
                    have hlt : f 9 < f1 9 := hGd.elim fun _ z => z.2.2.2.1
                    refine zb_ic h dX5_go_80 ?_
                    refine lv_goto (tgt := 85) hx hb dX5_go_81 (by decide) ?_
                    refine lv_istore_n (lv' := [(3, .int (zI 1)), (2, .int (zI (n + 0))), (4, .int (zI 0)), (0, .ref (za G 9 0)), (1, .int (zI 0))]) hx hb dX5_go_85 rfl hl (by decide) rfl (fun ls hl => ?_)
                    refine lv_iload_n hx hb dX5_go_86 rfl (lv_at hl 0 rfl) ?_
                    refine zb_ieq (tgt := 113) h (by omega) dX5_go_87 (by decide) (fun c_87 => ?_) (fun c_87 => ?_)
                    · exact absurd c_87 (by omega)
                    · refine lv_aload_n hx hb dX5_go_90 rfl (lv_at hl 3 rfl) ?_
                      refine zb_bi h dX5_go_91 (by decide) (by decide) ?_
                      refine zb_bi h dX5_go_93 (by decide) (by decide) ?_
                      refine zcVi h hH (zr_5 h hH) (As := [.int (zI 59), .int (zI 59)]) (rest := []) (c_X5_sign l G hG (zMo S f1 (S 9 1) (S 9 2) (S 9 3) (S 9 4) (S 9 5) (S 9 6)) 59 59 (by omega) (by omega) (by rw [zM_0, zM_4]; exact zGood_pI hlen.2 htx hGd)) zce_X5_sign zcv_X5_sign zm_X5_137 hl.1 rfl rfl ⟨rfl, rfl⟩ ⟨Nat.le_of_ble_eq_true rfl, Nat.le_of_ble_eq_true rfl⟩ (Nat.le_of_ble_eq_true rfl) ⟨Nat.zero_le _, Nat.zero_le _⟩ dX5_go_95 (fun r_95 S_95 H locs hq hH => ?_)
                      obtain ⟨rfl, rfl⟩ := hq
                      simp only [zM_M, zM_0, zM_1, zM_2, zM_3, zM_4, zM_5, zM_6] at hH
                      rw [zM_0, zM_4]
                      have hS := zSemi2 hGd (by omega) hty
                      have hox2 := fun (x : Int) (h : x < 9 ∨ 13 < x) => pF_x f1 (S 9 4) 59 59 (x := x) (by omega) (by omega)
                      generalize pF f1 (S 9 4) 59 59 = f2 at hH hS hox2
                      have hf29 : (0 ≤ f2 9 ∧ f2 9 ≤ S 9 0 6 ∧ f1 9 ≤ f2 9) ∧ (f2 10 = 0 ∨ f2 10 = 1) := by
                        rcases hS with q | q
                        · have := q.1; have := q.2.1; omega
                        · have := q.1; have := q.2.1; omega
                      refine lv_istore (lv' := [(5, .int (zI (pC f1 (S 9 4)))), (3, .int (zI 1)), (2, .int (zI (n + 0))), (4, .int (zI 0)), (0, .ref (za G 9 0)), (1, .int (zI 0))]) hx hb dX5_go_98 hl (by decide) rfl (fun ls hl => ?_)
                      refine lv_aload_n hx hb dX5_go_100 rfl (lv_at hl 4 rfl) ?_
                      refine zg_5_10 h hH zf_X5_133 dX5_go_101 ?_
                      rw [zM_0]
                      refine zb_ine (tgt := 111) h (by omega) dX5_go_104 (by decide) (fun c_104 => ?_) (fun c_104 => ?_)
                      · refine zb_ic h dX5_go_111 ?_
                        refine lv_istore_n (lv' := [(3, .int (zI 0)), (5, .int (zI (pC f1 (S 9 4)))), (2, .int (zI (n + 0))), (4, .int (zI 0)), (0, .ref (za G 9 0)), (1, .int (zI 0))]) hx hb dX5_go_112 rfl hl (by decide) rfl (fun ls hl => ?_)
                        refine lv_goto (tgt := 14) hx hb dX5_go_113 (by decide) ?_
                        exact ih14 0 (n + 0) f2 _ _ _ (by omega) (by omega) (by first | exact Or.inl ⟨rfl, (hS.resolve_right (fun q => by have := q.1; omega)).2.2⟩ | exact Or.inr ⟨rfl, Or.inl (hS.resolve_left (fun q => by have := q.1; omega)).2.2⟩ | exact Or.inr ⟨rfl, Or.inl (hO.resolve_right (fun q => q.elim fun _ z => by have := z.1.1; omega))⟩ | exact Or.inr ⟨rfl, Or.inr (zGood_full hGd (by omega))⟩) (by first | exact fun x h => (hox x h).trans (hfx x h) | exact fun x h => (hox2 x h).trans ((hox x h).trans (hfx x h))) hH (lv_sub hl [4, 5, 2, 0] rfl)
                      · refine zb_ic h dX5_go_107 ?_
                        refine lv_goto (tgt := 112) hx hb dX5_go_108 (by decide) ?_
                        refine lv_istore_n (lv' := [(3, .int (zI 1)), (5, .int (zI (pC f1 (S 9 4)))), (2, .int (zI (n + 0))), (4, .int (zI 0)), (0, .ref (za G 9 0)), (1, .int (zI 0))]) hx hb dX5_go_112 rfl hl (by decide) rfl (fun ls hl => ?_)
                        refine lv_goto (tgt := 14) hx hb dX5_go_113 (by decide) ?_
                        exact ih14 1 (n + 0) f2 _ _ _ (by omega) (by omega) (by first | exact Or.inl ⟨rfl, (hS.resolve_right (fun q => by have := q.1; omega)).2.2⟩ | exact Or.inr ⟨rfl, Or.inl (hS.resolve_left (fun q => by have := q.1; omega)).2.2⟩ | exact Or.inr ⟨rfl, Or.inl (hO.resolve_right (fun q => q.elim fun _ z => by have := z.1.1; omega))⟩ | exact Or.inr ⟨rfl, Or.inr (zGood_full hGd (by omega))⟩) (by first | exact fun x h => (hox x h).trans (hfx x h) | exact fun x h => (hox2 x h).trans ((hox x h).trans (hfx x h))) hH (lv_sub hl [4, 5, 2, 0] rfl)
          · exact absurd rfl c_43
        · exact absurd rfl c_23
  refine lv_aload_n hx hb dX5_go_0 rfl (lv_at hl 0 rfl) ?_
  refine zb_ic h dX5_go_1 ?_
  refine zu_5_9 h hH zf_X5_130 dX5_go_2 (fun H locs hH => ?_)
  rw [zs_M0] at hH
  refine lv_aload_n hx hb dX5_go_5 rfl (lv_at hl 0 rfl) ?_
  refine zb_ic h dX5_go_6 ?_
  refine zu_5_10 h hH (by omega) zf_X5_133 dX5_go_7 (fun H locs hH => ?_)
  rw [zs_M0] at hH
  refine zb_ic h dX5_go_10 ?_
  refine lv_istore_n (lv' := [(2, .int (zI 0)), (0, .ref (za G 9 0)), (1, .int (zI 0))]) hx hb dX5_go_11 rfl hl (by decide) rfl (fun ls hl => ?_)
  have e9 : (zup (zup (S 9 0) 9 0) 10 0) 9 = 0 := by rw [zup_n (by omega), zup_s]
  have hA9 : zAt (S 9 4) ρ0 (S 9 0 6) ((zup (zup (S 9 0) 9 0) 10 0) 9) (zup (zup (S 9 0) 9 0) 10 0) ρ0 := by
    unfold zAt
    rw [e9]
    exact ⟨zup_s _ _ _, fun j h1 h2 => by omega, by omega, rfl, by rw [zup_n (by omega), zup_n (by omega)], fun j h1 h2 => by omega⟩
  refine zb_ic h dX5_go_12 ?_
  refine lv_istore_n (lv' := [(3, .int (zI 1)), (2, .int (zI 0)), (0, .ref (za G 9 0)), (1, .int (zI 0))]) hx hb dX5_go_13 rfl hl (by decide) rfl (fun ls hl => ?_)
  exact C14 ((61 * 1 + S 9 0 6 - (zup (zup (S 9 0) 9 0) 10 0) 9 : Int).toNat + 1) 1 0 (zup (zup (S 9 0) 9 0) 10 0) _ _ _ (by omega) (by omega) (Or.inl ⟨rfl, ⟨ρ0, hA9, h00⟩⟩) (fun x h => by rw [zup_n (by omega), zup_n (by omega)]) hH (lv_sub hl [2, 3, 1, 0] rfl)
theorem dX5_go_26 : decode cX5_go 26 = .ok (.aload_n 0, 1) := by decide +kernel
theorem dX5_go_27 : decode cX5_go 27 = .ok (.invokevirtual 155, 3) := by decide +kernel
theorem dX5_go_30 : decode cX5_go 30 = .ok (.ifCond .eq 7, 3) := by decide +kernel
theorem dX5_go_33 : decode cX5_go 33 = .ok (.iconst 1, 1) := by decide +kernel
theorem dX5_go_34 : decode cX5_go 34 = .ok (.goto 4, 3) := by decide +kernel
theorem dX5_go_46 : decode cX5_go 46 = .ok (.iconst 1, 1) := by decide +kernel
theorem dX5_go_47 : decode cX5_go 47 = .ok (.goto 4, 3) := by decide +kernel
def q_X5_go_do (S : zM) (ρ0 : Int → Int) : Int32 → zM → Prop := fun r S1 => r = zI (cD (S 9 4) ρ0 (S 9 0 6) (S 9 1) (S 9 0 6).toNat).2.1 ∧ ∃ (f M' : Int → Int), (∀ x : Int, x < 9 ∨ 13 < x → f x = S 9 0 x) ∧ zMo S f (cD (S 9 4) ρ0 (S 9 0 6) (S 9 1) (S 9 0 6).toNat).1 (S 9 2) (S 9 3) (S 9 4) M' (S 9 6) = S1
def r_X5_go_do : Room := { frames := 8, cells := 0, slots := 0, locals := 176 }
set_option maxHeartbeats 4000000 in
set_option maxRecDepth 100000 in
theorem c_X5_go_do (l : Launch) (G : zG) (hG : zok G) (S : zM) (ρ0 : Int → Int) (h00 : ρ0 0 = 0) (hlen : 0 ≤ S 9 0 6 ∧ S 9 0 6 ≤ 60) (htx : ∀ i : Int, 0 ≤ i → i < 60 → 0 ≤ S 9 4 i ∧ S 9 4 i ≤ 126) (hfull : zFull (S 9 4) ρ0 (S 9 0 6)) (hok : zOk (S 9 1))  : Met l yX5_go (Cond.code yX5_go cX5_go 6 (some FieldType.int) :: zTbl) r_X5_go_do (va_Pc [.ref (za G 9 0), .int (zI 1)] (zB G S)) (va_Qi (q_X5_go_do S ρ0) (zB G) (zA G)) 0 0 (zA G) := by
  refine zMet [(0, .ref (za G 9 0)), (1, .int (zI 1))] hG (by decide) (Nat.le_of_ble_eq_true rfl) rfl (fun p e s m args below meth c ls h hx hb hr hH hl => ?_)
  rw [← zM_id S] at hH
  have C14 : ∀ (fu : Nat) (mo n : Int) (f σ M : Int → Int) (H : Heap) (locs : List Loc) (ls : Array Slot), (61 * mo + S 9 0 6 - f 9).toNat < fu → ((mo = 0 ∨ mo = 1) ∧ 0 ≤ f 9 ∧ f 9 ≤ S 9 0 6) → ((mo = 1 ∧ zSt (S 9 4) ρ0 (S 9 0 6) f ∧ cD (S 9 4) ρ0 (S 9 0 6) (S 9 1) (f 9).toNat = (σ, n, 0)) ∨ (mo = 0 ∧ (cD (S 9 4) ρ0 (S 9 0 6) (S 9 1) (S 9 0 6).toNat).1 = σ ∧ (cD (S 9 4) ρ0 (S 9 0 6) (S 9 1) (S 9 0 6).toNat).2.1 = n)) → (zOk σ) → (∀ x : Int, x < 9 ∨ 13 < x → f x = S 9 0 x) → zH G (zMo S f σ (S 9 2) (S 9 3) (S 9 4) M (S 9 6)) s H locs → lv_has ls 6 [(0, .ref (za G 9 0)), (1, .int (zI 1)), (2, .int (zI n)), (3, .int (zI mo))] → W p l e r_X5_go_do s m args below meth c H locs 0 0 (MQ below (va_Qi (q_X5_go_do S ρ0) (zB G) (zA G)) args s 0 0 (zA G)) (F0 m 14 ls []) := by
    intro fu
    induction fu with
    | zero => intro mo n f σ M H locs ls hfu; omega
    | succ fu ih14 =>
      intro mo n f σ M H locs ls hfu hmo hst hok2 hfx hH hl
      refine lv_iload_n hx hb dX5_go_14 rfl (lv_at hl 3 rfl) ?_
      refine zb_ieq (tgt := 116) h (by omega) dX5_go_15 (by decide) (fun c_15 => ?_) (fun c_15 => ?_)
      · refine lv_iload_n hx hb dX5_go_116 rfl (lv_at hl 2 rfl) ?_
        refine zri h hr hH ?_ dX5_go_117
        obtain ⟨_, q1, q2⟩ := hst.resolve_left (fun q => by have := q.1; omega)
        rw [← q1, ← q2]
        exact ⟨rfl, f, M, hfx, rfl⟩
      · obtain ⟨hm1, hst2, hcd⟩ := hst.resolve_right (fun q => by have := q.1; omega)
        obtain ⟨ρ, hA, hA0⟩ := id hst2
        refine lv_aload_n hx hb dX5_go_18 rfl (lv_at hl 0 rfl) ?_
        refine zcVv h hH (zr_5 h hH) (As := []) (rest := []) (c_X5_order l G hG (zMo S f σ (S 9 2) (S 9 3) (S 9 4) M (S 9 6)) (by rw [zM_0, zM_4]; exact zAt_pI hlen.2 htx hA)) zce_X5_order zcv_X5_order zm_X5_152 hl.1 rfl rfl ⟨rfl, rfl⟩ ⟨Nat.le_of_ble_eq_true rfl, Nat.le_of_ble_eq_true rfl⟩ (Nat.le_of_ble_eq_true rfl) ⟨Nat.zero_le _, Nat.zero_le _⟩ dX5_go_19 (fun S_19 H locs hq hH => ?_)
        obtain rfl := hq
        simp only [zM_M, zM_0, zM_1, zM_2, zM_3, zM_4, zM_5, zM_6] at hH
        have hty : ∀ i : Int, 0 ≤ i → i < S 9 0 6 → 0 ≤ S 9 4 i ∧ S 9 4 i ≤ 126 := fun i h1 h2 => htx i h1 (by omega)
        have hO := zOrd hty hlen.2 hA hA0
        have hox := fun (x : Int) (h : x < 9 ∨ 13 < x) => pOrd_x f (S 9 4) (pWo f (S 9 4)) h
        generalize pOrd f (S 9 4) (pWo f (S 9 4)) = f1 at hH hO hox
        have hGd := hO.resolve_left (fun q => zBad_full hfull q)
        obtain ⟨ρ1, hA1, he1, hk1, hlt, hv1⟩ := id hGd
        have hcd1 := cD_ord hfull (by omega) hcd hA1 hk1 hlt
        have hok3 := (zOk_dSt hok2 (zVals_rv hv1)).1
        have hf9 := hA1.2.2.1
        have hf10 : f1 10 = 0 := hA1.1
        have hf6 : f1 6 = S 9 0 6 := (hox 6 (by omega)).trans (hfx 6 (by omega))
        refine lv_iload_n hx hb dX5_go_22 rfl (lv_at hl 1 rfl) ?_
        refine zb_ieq (tgt := 37) h (by omega) dX5_go_23 (by decide) (fun c_23 => ?_) (fun c_23 => ?_)
        · exact absurd c_23 (by omega)
        · refine lv_aload_n hx hb dX5_go_26 rfl (lv_at hl 0 rfl) ?_
          refine zcVi h hH (zr_5 h hH) (As := []) (rest := []) (c_X5_does l G hG (zMo S f1 σ (S 9 2) (S 9 3) (S 9 4) M (S 9 6)) ρ1 (by rw [zM_0]; exact hv1) (by rw [zM_1]; exact hok2)) zce_X5_does zcv_X5_does zm_X5_155 hl.1 rfl rfl ⟨rfl, rfl⟩ ⟨Nat.le_of_ble_eq_true rfl, Nat.le_of_ble_eq_true rfl⟩ (Nat.le_of_ble_eq_true rfl) ⟨Nat.zero_le _, Nat.zero_le _⟩ dX5_go_27 (fun r_27 S_27 H locs hq hH => ?_)
          obtain ⟨rfl, M_27, rfl⟩ := hq
          simp only [zM_M, zM_0, zM_1, zM_2, zM_3, zM_4, zM_5, zM_6] at hH
          rw [zM_1]
          have bdB := dB_in ρ1 σ
          refine zb_ieq (tgt := 37) h (by omega) dX5_go_30 (by decide) (fun c_30 => ?_) (fun c_30 => ?_)
          · have hcd2 := hcd1.trans (if_neg (by omega))
            have hcd3 := cD_end (show 0 ≤ f1 9 ∧ f1 9 ≤ S 9 0 6 by omega) hcd2
            have e0 : dSt ρ1 σ = σ := dSt_0 (by omega)
            refine zb_ic h dX5_go_37 ?_
            refine lv_istore (lv' := [(4, .int (zI 0)), (0, .ref (za G 9 0)), (1, .int (zI 1)), (2, .int (zI n)), (3, .int (zI mo))]) hx hb dX5_go_38 hl (by decide) rfl (fun ls hl => ?_)
            refine lv_iload_n hx hb dX5_go_40 rfl (lv_at hl 3 rfl) ?_
            refine lv_iload hx hb dX5_go_41 (lv_at hl 0 rfl) ?_
            refine zb_ieq (tgt := 50) h (by omega) dX5_go_43 (by decide) (fun c_43 => ?_) (fun c_43 => ?_)
            · refine zb_ic h dX5_go_50 ?_
              refine zb_iadd h dX5_go_51 ?_
              refine lv_istore_n (lv' := [(2, .int (zI (n + 0))), (4, .int (zI 0)), (0, .ref (za G 9 0)), (1, .int (zI 1)), (3, .int (zI mo))]) hx hb dX5_go_52 rfl hl (by decide) rfl (fun ls hl => ?_)
              refine lv_aload_n hx hb dX5_go_53 rfl (lv_at hl 2 rfl) ?_
              refine zg_5_10 h hH zf_X5_133 dX5_go_54 ?_
              rw [zM_0]
              refine zb_ine (tgt := 84) h (by omega) dX5_go_57 (by decide) (fun c_57 => ?_) (fun c_57 => ?_)
              · exact absurd hA1.1 c_57
              · refine lv_iload hx hb dX5_go_60 (lv_at hl 1 rfl) ?_
                refine zb_ine (tgt := 69) h (by omega) dX5_go_62 (by decide) (fun c_62 => ?_) (fun c_62 => ?_)
                · exact absurd c_62 (by omega)
                · refine lv_iload_n hx hb dX5_go_65 rfl (lv_at hl 3 rfl) ?_
                  refine zb_ine (tgt := 84) h (by omega) dX5_go_66 (by decide) (fun c_66 => ?_) (fun c_66 => ?_)
                  · refine zb_ic h dX5_go_84 ?_
                    refine lv_istore_n (lv' := [(3, .int (zI 0)), (2, .int (zI (n + 0))), (4, .int (zI 0)), (0, .ref (za G 9 0)), (1, .int (zI 1))]) hx hb dX5_go_85 rfl hl (by decide) rfl (fun ls hl => ?_)
                    refine lv_iload_n hx hb dX5_go_86 rfl (lv_at hl 0 rfl) ?_
                    refine zb_ieq (tgt := 113) h (by omega) dX5_go_87 (by decide) (fun c_87 => ?_) (fun c_87 => ?_)
                    · refine lv_goto (tgt := 14) hx hb dX5_go_113 (by decide) ?_
                      exact ih14 0 (n + 0) f1 (dSt ρ1 σ) M_27 _ _ _ (by omega) (by omega) (by first | exact Or.inl ⟨rfl, hS1.2.2, hcd4⟩ | exact Or.inr ⟨rfl, by rw [hcd3, e0], by rw [hcd3]; dsimp only; omega⟩ | exact Or.inr ⟨rfl, by rw [hcd5], by rw [hcd5]⟩) hok3 (by first | exact fun x h => (hox x h).trans (hfx x h) | exact fun x h => (hox2 x h).trans ((hox x h).trans (hfx x h))) hH (lv_sub hl [3, 4, 1, 0] rfl)
                    · exact absurd c_87 (by omega)
                  · exact absurd c_66 (by omega)
            · exact absurd c_43 (by omega)
          · have hcd2 := hcd1.trans (if_pos (by omega))
            refine zb_ic h dX5_go_33 ?_
            refine lv_goto (tgt := 38) hx hb dX5_go_34 (by decide) ?_
            refine lv_istore (lv' := [(4, .int (zI 1)), (0, .ref (za G 9 0)), (1, .int (zI 1)), (2, .int (zI n)), (3, .int (zI mo))]) hx hb dX5_go_38 hl (by decide) rfl (fun ls hl => ?_)
            refine lv_iload_n hx hb dX5_go_40 rfl (lv_at hl 3 rfl) ?_
            refine lv_iload hx hb dX5_go_41 (lv_at hl 0 rfl) ?_
            refine zb_ieq (tgt := 50) h (by omega) dX5_go_43 (by decide) (fun c_43 => ?_) (fun c_43 => ?_)
            · exact absurd c_43 (by omega)
            · refine zb_ic h dX5_go_46 ?_
              refine lv_goto (tgt := 51) hx hb dX5_go_47 (by decide) ?_
              refine zb_iadd h dX5_go_51 ?_
              refine lv_istore_n (lv' := [(2, .int (zI (n + 1))), (4, .int (zI 1)), (0, .ref (za G 9 0)), (1, .int (zI 1)), (3, .int (zI mo))]) hx hb dX5_go_52 rfl hl (by decide) rfl (fun ls hl => ?_)
              refine lv_aload_n hx hb dX5_go_53 rfl (lv_at hl 2 rfl) ?_
              refine zg_5_10 h hH zf_X5_133 dX5_go_54 ?_
              rw [zM_0]
              refine zb_ine (tgt := 84) h (by omega) dX5_go_57 (by decide) (fun c_57 => ?_) (fun c_57 => ?_)
              · exact absurd hA1.1 c_57
              · refine lv_iload hx hb dX5_go_60 (lv_at hl 1 rfl) ?_
                refine zb_ine (tgt := 69) h (by omega) dX5_go_62 (by decide) (fun c_62 => ?_) (fun c_62 => ?_)
                · refine lv_aload_n hx hb dX5_go_69 rfl (lv_at hl 2 rfl) ?_
                  refine zg_5_9 h hH zf_X5_130 dX5_go_70 ?_
                  rw [zM_0]
                  refine lv_aload_n hx hb dX5_go_73 rfl (lv_at hl 2 rfl) ?_
                  refine zg_5_6 h hH zf_X5_127 dX5_go_74 ?_
                  rw [zM_0]
                  refine zb_cge (tgt := 84) h (by omega) (by omega) dX5_go_77 (by decide) (fun c_77 => ?_) (fun c_77 => ?_)
                  · have e99 : f1 9 = S 9 0 6 := by omega
                    have hcd5 : cD (S 9 4) ρ0 (S 9 0 6) (S 9 1) (S 9 0 6).toNat = (dSt ρ1 σ, n + 1, 0) := by
                      have q := hcd2
                      rw [congrArg Int.toNat e99] at q
                      exact q
                    refine zb_ic h dX5_go_84 ?_
                    refine lv_istore_n (lv' := [(3, .int (zI 0)), (2, .int (zI (n + 1))), (4, .int (zI 1)), (0, .ref (za G 9 0)), (1, .int (zI 1))]) hx hb dX5_go_85 rfl hl (by decide) rfl (fun ls hl => ?_)
                    refine lv_iload_n hx hb dX5_go_86 rfl (lv_at hl 0 rfl) ?_
                    refine zb_ieq (tgt := 113) h (by omega) dX5_go_87 (by decide) (fun c_87 => ?_) (fun c_87 => ?_)
                    · refine lv_goto (tgt := 14) hx hb dX5_go_113 (by decide) ?_
                      exact ih14 0 (n + 1) f1 (dSt ρ1 σ) M_27 _ _ _ (by omega) (by omega) (by first | exact Or.inl ⟨rfl, hS1.2.2, hcd4⟩ | exact Or.inr ⟨rfl, by rw [hcd3, e0], by rw [hcd3]; dsimp only; omega⟩ | exact Or.inr ⟨rfl, by rw [hcd5], by rw [hcd5]⟩) hok3 (by first | exact fun x h => (hox x h).trans (hfx x h) | exact fun x h => (hox2 x h).trans ((hox x h).trans (hfx x h))) hH (lv_sub hl [3, 4, 1, 0] rfl)
                    · exact absurd c_87 (by omega)
                  · refine zb_ic h dX5_go_80 ?_
                    refine lv_goto (tgt := 85) hx hb dX5_go_81 (by decide) ?_
                    refine lv_istore_n (lv' := [(3, .int (zI 1)), (2, .int (zI (n + 1))), (4, .int (zI 1)), (0, .ref (za G 9 0)), (1, .int (zI 1))]) hx hb dX5_go_85 rfl hl (by decide) rfl (fun ls hl => ?_)
                    refine lv_iload_n hx hb dX5_go_86 rfl (lv_at hl 0 rfl) ?_
                    refine zb_ieq (tgt := 113) h (by omega) dX5_go_87 (by decide) (fun c_87 => ?_) (fun c_87 => ?_)
                    · exact absurd c_87 (by omega)
                    · refine lv_aload_n hx hb dX5_go_90 rfl (lv_at hl 3 rfl) ?_
                      refine zb_bi h dX5_go_91 (by decide) (by decide) ?_
                      refine zb_bi h dX5_go_93 (by decide) (by decide) ?_
                      refine zcVi h hH (zr_5 h hH) (As := [.int (zI 59), .int (zI 59)]) (rest := []) (c_X5_sign l G hG (zMo S f1 (dSt ρ1 σ) (S 9 2) (S 9 3) (S 9 4) M_27 (S 9 6)) 59 59 (by omega) (by omega) (by rw [zM_0, zM_4]; exact zGood_pI hlen.2 htx hGd)) zce_X5_sign zcv_X5_sign zm_X5_137 hl.1 rfl rfl ⟨rfl, rfl⟩ ⟨Nat.le_of_ble_eq_true rfl, Nat.le_of_ble_eq_true rfl⟩ (Nat.le_of_ble_eq_true rfl) ⟨Nat.zero_le _, Nat.zero_le _⟩ dX5_go_95 (fun r_95 S_95 H locs hq hH => ?_)
                      obtain ⟨rfl, rfl⟩ := hq
                      simp only [zM_M, zM_0, zM_1, zM_2, zM_3, zM_4, zM_5, zM_6] at hH
                      rw [zM_0, zM_4]
                      have hS := zSemi2 hGd (by omega) hty
                      have hox2 := fun (x : Int) (h : x < 9 ∨ 13 < x) => pF_x f1 (S 9 4) 59 59 (x := x) (by omega) (by omega)
                      generalize pF f1 (S 9 4) 59 59 = f2 at hH hS hox2
                      have hf29 : (0 ≤ f2 9 ∧ f2 9 ≤ S 9 0 6 ∧ f1 9 ≤ f2 9) ∧ (f2 10 = 0 ∨ f2 10 = 1) := by
                        rcases hS with q | q
                        · have := q.1; have := q.2.1; omega
                        · have := q.1; have := q.2.1; omega
                      have hS1 := hS.resolve_right (fun q => zBad_full hfull q.2.2)
                      have hcd4 : cD (S 9 4) ρ0 (S 9 0 6) (S 9 1) (f2 9).toNat = (dSt ρ1 σ, n + 1, 0) := by rw [hS1.2.1]; exact cD_semi hfull hGd (by omega) hcd2
                      refine lv_istore (lv' := [(5, .int (zI (pC f1 (S 9 4)))), (3, .int (zI 1)), (2, .int (zI (n + 1))), (4, .int (zI 1)), (0, .ref (za G 9 0)), (1, .int (zI 1))]) hx hb dX5_go_98 hl (by decide) rfl (fun ls hl => ?_)
                      refine lv_aload_n hx hb dX5_go_100 rfl (lv_at hl 4 rfl) ?_
                      refine zg_5_10 h hH zf_X5_133 dX5_go_101 ?_
                      rw [zM_0]
                      refine zb_ine (tgt := 111) h (by omega) dX5_go_104 (by decide) (fun c_104 => ?_) (fun c_104 => ?_)
                      · exact absurd hS1.1 c_104
                      · refine zb_ic h dX5_go_107 ?_
                        refine lv_goto (tgt := 112) hx hb dX5_go_108 (by decide) ?_
                        refine lv_istore_n (lv' := [(3, .int (zI 1)), (5, .int (zI (pC f1 (S 9 4)))), (2, .int (zI (n + 1))), (4, .int (zI 1)), (0, .ref (za G 9 0)), (1, .int (zI 1))]) hx hb dX5_go_112 rfl hl (by decide) rfl (fun ls hl => ?_)
                        refine lv_goto (tgt := 14) hx hb dX5_go_113 (by decide) ?_
                        exact ih14 1 (n + 1) f2 (dSt ρ1 σ) M_27 _ _ _ (by omega) (by omega) (by first | exact Or.inl ⟨rfl, hS1.2.2, hcd4⟩ | exact Or.inr ⟨rfl, by rw [hcd3, e0], by rw [hcd3]; dsimp only; omega⟩ | exact Or.inr ⟨rfl, by rw [hcd5], by rw [hcd5]⟩) hok3 (by first | exact fun x h => (hox x h).trans (hfx x h) | exact fun x h => (hox2 x h).trans ((hox x h).trans (hfx x h))) hH (lv_sub hl [4, 5, 2, 0] rfl)
                · exact absurd c_62 (by omega)
  refine lv_aload_n hx hb dX5_go_0 rfl (lv_at hl 0 rfl) ?_
  refine zb_ic h dX5_go_1 ?_
  refine zu_5_9 h hH zf_X5_130 dX5_go_2 (fun H locs hH => ?_)
  rw [zs_M0] at hH
  refine lv_aload_n hx hb dX5_go_5 rfl (lv_at hl 0 rfl) ?_
  refine zb_ic h dX5_go_6 ?_
  refine zu_5_10 h hH (by omega) zf_X5_133 dX5_go_7 (fun H locs hH => ?_)
  rw [zs_M0] at hH
  refine zb_ic h dX5_go_10 ?_
  refine lv_istore_n (lv' := [(2, .int (zI 0)), (0, .ref (za G 9 0)), (1, .int (zI 1))]) hx hb dX5_go_11 rfl hl (by decide) rfl (fun ls hl => ?_)
  have e9 : (zup (zup (S 9 0) 9 0) 10 0) 9 = 0 := by rw [zup_n (by omega), zup_s]
  have hA9 : zAt (S 9 4) ρ0 (S 9 0 6) ((zup (zup (S 9 0) 9 0) 10 0) 9) (zup (zup (S 9 0) 9 0) 10 0) ρ0 := by
    unfold zAt
    rw [e9]
    exact ⟨zup_s _ _ _, fun j h1 h2 => by omega, by omega, rfl, by rw [zup_n (by omega), zup_n (by omega)], fun j h1 h2 => by omega⟩
  refine zb_ic h dX5_go_12 ?_
  refine lv_istore_n (lv' := [(3, .int (zI 1)), (2, .int (zI 0)), (0, .ref (za G 9 0)), (1, .int (zI 1))]) hx hb dX5_go_13 rfl hl (by decide) rfl (fun ls hl => ?_)
  exact C14 ((61 * 1 + S 9 0 6 - (zup (zup (S 9 0) 9 0) 10 0) 9 : Int).toNat + 1) 1 0 (zup (zup (S 9 0) 9 0) 10 0) (S 9 1) (S 9 5) _ _ _ (by omega) (by omega) (Or.inl ⟨rfl, ⟨ρ0, hA9, h00⟩, by rw [e9]; rfl⟩) hok (fun x h => by rw [zup_n (by omega), zup_n (by omega)]) hH (lv_sub hl [2, 3, 1, 0] rfl)
theorem dX5_firstError_0 : decode cX5_firstError 0 = .ok (.aload_n 0, 1) := by decide +kernel
theorem dX5_firstError_1 : decode cX5_firstError 1 = .ok (.iconst 0, 1) := by decide +kernel
theorem dX5_firstError_2 : decode cX5_firstError 2 = .ok (.putfield 28, 3) := by decide +kernel
theorem dX5_firstError_5 : decode cX5_firstError 5 = .ok (.aload_n 0, 1) := by decide +kernel
theorem dX5_firstError_6 : decode cX5_firstError 6 = .ok (.iconst 0, 1) := by decide +kernel
theorem dX5_firstError_7 : decode cX5_firstError 7 = .ok (.invokevirtual 159, 3) := by decide +kernel
theorem dX5_firstError_10 : decode cX5_firstError 10 = .ok (.istore_n 1, 1) := by decide +kernel
theorem dX5_firstError_11 : decode cX5_firstError 11 = .ok (.aload_n 0, 1) := by decide +kernel
theorem dX5_firstError_12 : decode cX5_firstError 12 = .ok (.getfield 133, 3) := by decide +kernel
theorem dX5_firstError_15 : decode cX5_firstError 15 = .ok (.ifCond .eq 10, 3) := by decide +kernel
theorem dX5_firstError_18 : decode cX5_firstError 18 = .ok (.aload_n 0, 1) := by decide +kernel
theorem dX5_firstError_19 : decode cX5_firstError 19 = .ok (.getfield 130, 3) := by decide +kernel
theorem dX5_firstError_22 : decode cX5_firstError 22 = .ok (.goto 7, 3) := by decide +kernel
theorem dX5_firstError_25 : decode cX5_firstError 25 = .ok (.aload_n 0, 1) := by decide +kernel
theorem dX5_firstError_26 : decode cX5_firstError 26 = .ok (.getfield 127, 3) := by decide +kernel
theorem dX5_firstError_29 : decode cX5_firstError 29 = .ok (.ireturn, 1) := by decide +kernel
def q_X5_firstError (S : zM) (ρ0 : Int → Int) : Int32 → zM → Prop := fun r S1 => ∃ (y : Int) (f : Int → Int), r = zI y ∧ (zAcc (S 9 4) ρ0 y ∧ (0 ≤ y ∧ y ≤ S 9 0 6) ∧ (y < S 9 0 6 → ¬ oK (zR (S 9 4) ρ0 y) (S 9 4 y))) ∧ (∀ x : Int, x < 9 ∨ 13 < x → f x = zup (S 9 0) 0 0 x) ∧ zMo S f (S 9 1) (S 9 2) (S 9 3) (S 9 4) (S 9 5) (S 9 6) = S1
def r_X5_firstError : Room := { frames := 5, cells := 0, slots := 0, locals := 115 }
set_option maxHeartbeats 4000000 in
set_option maxRecDepth 100000 in
theorem c_X5_firstError (l : Launch) (G : zG) (hG : zok G) (S : zM) (ρ0 : Int → Int) (h00 : ρ0 0 = 0) (hlen : 0 ≤ S 9 0 6 ∧ S 9 0 6 ≤ 60) (htx : ∀ i : Int, 0 ≤ i → i < 60 → 0 ≤ S 9 4 i ∧ S 9 4 i ≤ 126)  : Met l yX5_firstError (Cond.code yX5_firstError cX5_firstError 2 (some FieldType.int) :: zTbl) r_X5_firstError (va_Pc [.ref (za G 9 0)] (zB G S)) (va_Qi (q_X5_firstError S ρ0) (zB G) (zA G)) 0 0 (zA G) := by
  refine zMet [(0, .ref (za G 9 0))] hG (by decide) (Nat.le_of_ble_eq_true rfl) rfl (fun p e s m args below meth c ls h hx hb hr hH hl => ?_)
  rw [← zM_id S] at hH
  refine lv_aload_n hx hb dX5_firstError_0 rfl (lv_at hl 0 rfl) ?_
  refine zb_ic h dX5_firstError_1 ?_
  refine zu_5_0 h hH zf_X5_28 dX5_firstError_2 (fun H locs hH => ?_)
  rw [zs_M0] at hH
  refine lv_aload_n hx hb dX5_firstError_5 rfl (lv_at hl 0 rfl) ?_
  refine zb_ic h dX5_firstError_6 ?_
  refine zcVi h hH (zr_5 h hH) (As := [.int (zI 0)]) (rest := []) (c_X5_go_no l G hG (zMo S (zup (S 9 0) 0 0) (S 9 1) (S 9 2) (S 9 3) (S 9 4) (S 9 5) (S 9 6)) ρ0 h00 (by rw [zM_0, zup_n (by omega)]; exact hlen) (by rw [zM_4]; exact htx)) zce_X5_go zcv_X5_go zm_X5_159 hl.1 rfl rfl ⟨rfl, rfl⟩ ⟨Nat.le_of_ble_eq_true rfl, Nat.le_of_ble_eq_true rfl⟩ (Nat.le_of_ble_eq_true rfl) ⟨Nat.zero_le _, Nat.zero_le _⟩ dX5_firstError_7 (fun r_7 S_7 H locs hq hH => ?_)
  obtain ⟨n_7, f_7, rfl, hst_7, hfx_7, rfl⟩ := hq
  simp only [zM_M, zM_0, zM_1, zM_2, zM_3, zM_4, zM_5, zM_6] at hH
  simp only [zM_0, zM_4, zup_n (show (6 : Int) ≠ 0 by omega)] at hst_7 hfx_7
  refine lv_istore_n (lv' := [(1, .int (zI n_7)), (0, .ref (za G 9 0))]) hx hb dX5_firstError_10 rfl hl (by decide) rfl (fun ls hl => ?_)
  refine lv_aload_n hx hb dX5_firstError_11 rfl (lv_at hl 1 rfl) ?_
  have hb10 : (0 ≤ f_7 9 ∧ f_7 9 ≤ S 9 0 6) ∧ (f_7 10 = 0 ∨ f_7 10 = 1) := hst_7.elim (fun q => ⟨q.2.2.1, Or.inr q.1⟩) (fun q => ⟨by have := q.2.1; omega, Or.inl q.1⟩)
  have e6 : f_7 6 = S 9 0 6 := by rw [hfx_7 6 (by omega)]; exact zup_n (by omega)
  refine zg_5_10 h hH zf_X5_133 dX5_firstError_12 ?_
  rw [zM_0]
  refine zb_ieq (tgt := 25) h (by omega) dX5_firstError_15 (by decide) (fun c_15 => ?_) (fun c_15 => ?_)
  · refine lv_aload_n hx hb dX5_firstError_25 rfl (lv_at hl 1 rfl) ?_
    refine zg_5_6 h hH zf_X5_127 dX5_firstError_26 ?_
    rw [zM_0]
    refine zri h hr hH ?_ dX5_firstError_29
    first | (have q := hst_7.resolve_right (fun q => by have := q.1; omega); exact ⟨f_7 9, f_7, rfl, ⟨q.2.1, q.2.2.1, q.2.2.2.1⟩, hfx_7, rfl⟩) | (have q := hst_7.resolve_left (fun q => by have := q.1; omega); exact ⟨f_7 6, f_7, rfl, ⟨by rw [e6]; exact q.2.2.1, by omega, fun z => by omega⟩, hfx_7, rfl⟩)
  · refine lv_aload_n hx hb dX5_firstError_18 rfl (lv_at hl 1 rfl) ?_
    refine zg_5_9 h hH zf_X5_130 dX5_firstError_19 ?_
    rw [zM_0]
    refine lv_goto (tgt := 29) hx hb dX5_firstError_22 (by decide) ?_
    refine zri h hr hH ?_ dX5_firstError_29
    first | (have q := hst_7.resolve_right (fun q => by have := q.1; omega); exact ⟨f_7 9, f_7, rfl, ⟨q.2.1, q.2.2.1, q.2.2.2.1⟩, hfx_7, rfl⟩) | (have q := hst_7.resolve_left (fun q => by have := q.1; omega); exact ⟨f_7 6, f_7, rfl, ⟨by rw [e6]; exact q.2.2.1, by omega, fun z => by omega⟩, hfx_7, rfl⟩)
theorem dX5_run_0 : decode cX5_run 0 = .ok (.aload_n 0, 1) := by decide +kernel
theorem dX5_run_1 : decode cX5_run 1 = .ok (.iconst 0, 1) := by decide +kernel
theorem dX5_run_2 : decode cX5_run 2 = .ok (.invokevirtual 159, 3) := by decide +kernel
theorem dX5_run_5 : decode cX5_run 5 = .ok (.istore_n 1, 1) := by decide +kernel
theorem dX5_run_6 : decode cX5_run 6 = .ok (.aload_n 0, 1) := by decide +kernel
theorem dX5_run_7 : decode cX5_run 7 = .ok (.aload_n 0, 1) := by decide +kernel
theorem dX5_run_8 : decode cX5_run 8 = .ok (.getfield 133, 3) := by decide +kernel
theorem dX5_run_11 : decode cX5_run 11 = .ok (.ifCond .eq 7, 3) := by decide +kernel
theorem dX5_run_14 : decode cX5_run 14 = .ok (.iconst 1, 1) := by decide +kernel
theorem dX5_run_15 : decode cX5_run 15 = .ok (.goto 4, 3) := by decide +kernel
theorem dX5_run_18 : decode cX5_run 18 = .ok (.iconst 0, 1) := by decide +kernel
theorem dX5_run_19 : decode cX5_run 19 = .ok (.invokevirtual 87, 3) := by decide +kernel
theorem dX5_run_22 : decode cX5_run 22 = .ok (.ifCond .ne 5, 3) := by decide +kernel
theorem dX5_run_25 : decode cX5_run 25 = .ok (.iconst 0, 1) := by decide +kernel
theorem dX5_run_26 : decode cX5_run 26 = .ok (.ireturn, 1) := by decide +kernel
theorem dX5_run_27 : decode cX5_run 27 = .ok (.aload_n 0, 1) := by decide +kernel
theorem dX5_run_28 : decode cX5_run 28 = .ok (.invokevirtual 90, 3) := by decide +kernel
theorem dX5_run_31 : decode cX5_run 31 = .ok (.aload_n 0, 1) := by decide +kernel
theorem dX5_run_32 : decode cX5_run 32 = .ok (.iconst 1, 1) := by decide +kernel
theorem dX5_run_33 : decode cX5_run 33 = .ok (.invokevirtual 159, 3) := by decide +kernel
theorem dX5_run_36 : decode cX5_run 36 = .ok (.istore_n 2, 1) := by decide +kernel
theorem dX5_run_37 : decode cX5_run 37 = .ok (.aload_n 0, 1) := by decide +kernel
theorem dX5_run_38 : decode cX5_run 38 = .ok (.iconst 0, 1) := by decide +kernel
theorem dX5_run_39 : decode cX5_run 39 = .ok (.putfield 127, 3) := by decide +kernel
theorem dX5_run_42 : decode cX5_run 42 = .ok (.iload_n 2, 1) := by decide +kernel
theorem dX5_run_43 : decode cX5_run 43 = .ok (.ireturn, 1) := by decide +kernel
def q_X5_run (S : zM) (ρ0 : Int → Int) : Int32 → zM → Prop := fun r S1 => (¬ zFull (S 9 4) ρ0 (S 9 0 6) ∧ ∃ f : Int → Int, (f 0 = 1 ∧ f 4 = S 9 0 4 ∧ f 6 = S 9 0 6) ∧ zMo S f (S 9 1) (S 9 2) (S 9 3) (S 9 4) (S 9 5) (S 9 6) = S1) ∨ (zFull (S 9 4) ρ0 (S 9 0 6) ∧ r = zI (cD (S 9 4) ρ0 (S 9 0 6) (S 9 1) (S 9 0 6).toNat).2.1 ∧ ∃ f M' : Int → Int, (f 0 = 0 ∧ f 4 = zSm (S 9 0 4) ∧ f 6 = 0) ∧ zMo S f (cD (S 9 4) ρ0 (S 9 0 6) (S 9 1) (S 9 0 6).toNat).1 (S 9 2) (zSv (S 9 3) (S 9 1) (S 9 0 4)) (S 9 4) M' (S 9 6) = S1)
def r_X5_run : Room := { frames := 9, cells := 0, slots := 0, locals := 201 }
set_option maxHeartbeats 4000000 in
set_option maxRecDepth 100000 in
theorem c_X5_run (l : Launch) (G : zG) (hG : zok G) (S : zM) (ρ0 : Int → Int) (h00 : ρ0 0 = 0) (hlen : 0 ≤ S 9 0 6 ∧ S 9 0 6 ≤ 60) (htx : ∀ i : Int, 0 ≤ i → i < 60 → 0 ≤ S 9 4 i ∧ S 9 4 i ≤ 126) (hsm : 0 ≤ S 9 0 4 ∧ S 9 0 4 ≤ 6) (hok : zOk (S 9 1))  : Met l yX5_run (Cond.code yX5_run cX5_run 3 (some FieldType.int) :: zTbl) r_X5_run (va_Pc [.ref (za G 9 0)] (zB G S)) (va_Qi (q_X5_run S ρ0) (zB G) (zA G)) 0 0 (zA G) := by
  refine zMet [(0, .ref (za G 9 0))] hG (by decide) (Nat.le_of_ble_eq_true rfl) rfl (fun p e s m args below meth c ls h hx hb hr hH hl => ?_)
  rw [← zM_id S] at hH
  refine lv_aload_n hx hb dX5_run_0 rfl (lv_at hl 0 rfl) ?_
  refine zb_ic h dX5_run_1 ?_
  refine zcVi h hH (zr_5 h hH) (As := [.int (zI 0)]) (rest := []) (c_X5_go_no l G hG (zMo S (S 9 0) (S 9 1) (S 9 2) (S 9 3) (S 9 4) (S 9 5) (S 9 6)) ρ0 h00 (by rw [zM_0]; exact hlen) (by rw [zM_4]; exact htx)) zce_X5_go zcv_X5_go zm_X5_159 hl.1 rfl rfl ⟨rfl, rfl⟩ ⟨Nat.le_of_ble_eq_true rfl, Nat.le_of_ble_eq_true rfl⟩ (Nat.le_of_ble_eq_true rfl) ⟨Nat.zero_le _, Nat.zero_le _⟩ dX5_run_2 (fun r_2 S_2 H locs hq hH => ?_)
  obtain ⟨n_2, f_2, rfl, hst_2, hfx_2, rfl⟩ := hq
  simp only [zM_M, zM_0, zM_1, zM_2, zM_3, zM_4, zM_5, zM_6] at hH
  simp only [zM_0, zM_4] at hst_2 hfx_2
  refine lv_istore_n (lv' := [(1, .int (zI n_2)), (0, .ref (za G 9 0))]) hx hb dX5_run_5 rfl hl (by decide) rfl (fun ls hl => ?_)
  have hb10 : (0 ≤ f_2 9 ∧ f_2 9 ≤ S 9 0 6) ∧ (f_2 10 = 0 ∨ f_2 10 = 1) := hst_2.elim (fun q => ⟨q.2.2.1, Or.inr q.1⟩) (fun q => ⟨by have := q.2.1; omega, Or.inl q.1⟩)
  have e6 : f_2 6 = S 9 0 6 := hfx_2 6 (by omega)
  refine lv_aload_n hx hb dX5_run_6 rfl (lv_at hl 1 rfl) ?_
  refine lv_aload_n hx hb dX5_run_7 rfl (lv_at hl 1 rfl) ?_
  refine zg_5_10 h hH zf_X5_133 dX5_run_8 ?_
  rw [zM_0]
  refine zb_ieq (tgt := 18) h (by omega) dX5_run_11 (by decide) (fun c_11 => ?_) (fun c_11 => ?_)
  · refine zb_ic h dX5_run_18 ?_
    refine zcVi h hH (zr_5 h hH) (As := [.int (zI 0)]) (rest := []) (c_X5_holds l G hG (zMo S f_2 (S 9 1) (S 9 2) (S 9 3) (S 9 4) (S 9 5) (S 9 6)) 0 (by omega)) zce_X5_holds zcv_X5_holds zm_X5_87 hl.1 rfl rfl ⟨rfl, rfl⟩ ⟨Nat.le_of_ble_eq_true rfl, Nat.le_of_ble_eq_true rfl⟩ (Nat.le_of_ble_eq_true rfl) ⟨Nat.zero_le _, Nat.zero_le _⟩ dX5_run_19 (fun r_19 S_19 H locs hq hH => ?_)
    obtain ⟨b_19, rfl, hb_19, rfl⟩ := hq
    (try rw [zM_1] at hb_19)
    simp only [zM_M, zM_0, zM_1, zM_2, zM_3, zM_4, zM_5, zM_6] at hH
    refine zb_ine (tgt := 27) h (by omega) dX5_run_22 (by decide) (fun c_22 => ?_) (fun c_22 => ?_)
    · have hfull := (hst_2.resolve_left (fun q => by have := q.1; omega)).2.2
      have e4 : (zup f_2 0 0) 4 = S 9 0 4 := by rw [zup_n (by omega)]; exact hfx_2 4 (by omega)
      have e66 : (zup (zup f_2 0 0) 4 (zSm (S 9 0 4))) 6 = S 9 0 6 := by rw [zup_n (by omega), zup_n (by omega)]; exact e6
      refine lv_aload_n hx hb dX5_run_27 rfl (lv_at hl 1 rfl) ?_
      refine zcVv h hH (zr_5 h hH) (As := []) (rest := []) (c_X5_save l G hG (zMo S (zup f_2 0 0) (S 9 1) (S 9 2) (S 9 3) (S 9 4) (S 9 5) (S 9 6)) (by rw [zM_0, e4]; exact hsm)) zce_X5_save zcv_X5_save zm_X5_90 hl.1 rfl rfl ⟨rfl, rfl⟩ ⟨Nat.le_of_ble_eq_true rfl, Nat.le_of_ble_eq_true rfl⟩ (Nat.le_of_ble_eq_true rfl) ⟨Nat.zero_le _, Nat.zero_le _⟩ dX5_run_28 (fun S_28 H locs hq hH => ?_)
      obtain rfl := hq
      simp only [zM_M, zM_0, zM_1, zM_2, zM_3, zM_4, zM_5, zM_6] at hH
      rw [e4] at hH
      refine lv_aload_n hx hb dX5_run_31 rfl (lv_at hl 1 rfl) ?_
      refine zb_ic h dX5_run_32 ?_
      refine zcVi h hH (zr_5 h hH) (As := [.int (zI 1)]) (rest := []) (c_X5_go_do l G hG (zMo S (zup (zup f_2 0 0) 4 (zSm (S 9 0 4))) (S 9 1) (S 9 2) (zSv (S 9 3) (S 9 1) (S 9 0 4)) (S 9 4) (S 9 5) (S 9 6)) ρ0 h00 (by rw [zM_0, e66]; exact hlen) (by rw [zM_4]; exact htx) (by rw [zM_4, zM_0, e66]; exact hfull) (by rw [zM_1]; exact hok)) zce_X5_go zcv_X5_go zm_X5_159 hl.1 rfl rfl ⟨rfl, rfl⟩ ⟨Nat.le_of_ble_eq_true rfl, Nat.le_of_ble_eq_true rfl⟩ (Nat.le_of_ble_eq_true rfl) ⟨Nat.zero_le _, Nat.zero_le _⟩ dX5_run_33 (fun r_33 S_33 H locs hq hH => ?_)
      obtain ⟨rfl, f_33, M_33, hfx_33, rfl⟩ := hq
      simp only [zM_M, zM_0, zM_1, zM_2, zM_3, zM_4, zM_5, zM_6] at hH
      rw [zM_1]
      simp only [zM_0, zM_1, zM_4, e66]
      simp only [zM_0, zM_1, zM_4, e66] at hH hfx_33
      refine lv_istore_n (lv' := [(2, .int (zI ((cD (S 9 4) ρ0 (S 9 0 6) (S 9 1) (S 9 0 6).toNat).2.1))), (1, .int (zI n_2)), (0, .ref (za G 9 0))]) hx hb dX5_run_36 rfl hl (by decide) rfl (fun ls hl => ?_)
      refine lv_aload_n hx hb dX5_run_37 rfl (lv_at hl 2 rfl) ?_
      refine zb_ic h dX5_run_38 ?_
      refine zu_5_6 h hH zf_X5_127 dX5_run_39 (fun H locs hH => ?_)
      rw [zs_M0] at hH
      refine lv_iload_n hx hb dX5_run_42 rfl (lv_at hl 0 rfl) ?_
      refine zri h hr hH ?_ dX5_run_43
      exact Or.inr ⟨hfull, rfl, _, M_33, ⟨by rw [zup_n (by omega), hfx_33 0 (by omega), zup_n (by omega), zup_s], by rw [zup_n (by omega), hfx_33 4 (by omega), zup_s], zup_s _ _ _⟩, rfl⟩
    · exact absurd c_22 (by omega)
  · refine zb_ic h dX5_run_14 ?_
    refine lv_goto (tgt := 19) hx hb dX5_run_15 (by decide) ?_
    refine zcVi h hH (zr_5 h hH) (As := [.int (zI 1)]) (rest := []) (c_X5_holds l G hG (zMo S f_2 (S 9 1) (S 9 2) (S 9 3) (S 9 4) (S 9 5) (S 9 6)) 1 (by omega)) zce_X5_holds zcv_X5_holds zm_X5_87 hl.1 rfl rfl ⟨rfl, rfl⟩ ⟨Nat.le_of_ble_eq_true rfl, Nat.le_of_ble_eq_true rfl⟩ (Nat.le_of_ble_eq_true rfl) ⟨Nat.zero_le _, Nat.zero_le _⟩ dX5_run_19 (fun r_19 S_19 H locs hq hH => ?_)
    obtain ⟨b_19, rfl, hb_19, rfl⟩ := hq
    (try rw [zM_1] at hb_19)
    simp only [zM_M, zM_0, zM_1, zM_2, zM_3, zM_4, zM_5, zM_6] at hH
    refine zb_ine (tgt := 27) h (by omega) dX5_run_22 (by decide) (fun c_22 => ?_) (fun c_22 => ?_)
    · exact absurd c_22 (by omega)
    · refine zb_ic h dX5_run_25 ?_
      refine zri h hr hH ?_ dX5_run_26
      exact Or.inl ⟨fun q => zBad_full q (hst_2.resolve_right (fun q => by have := q.1; omega)), _, ⟨zup_s _ _ _, by rw [zup_n (by omega)]; exact hfx_2 4 (by omega), by rw [zup_n (by omega)]; exact e6⟩, rfl⟩
