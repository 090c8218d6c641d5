theorem dX5_digest_0 : decode cX5_digest 0 = .ok (.aload_n 0, 1) := by decide +kernel
theorem dX5_digest_1 : decode cX5_digest 1 = .ok (.iconst 0, 1) := by decide +kernel
theorem dX5_digest_2 : decode cX5_digest 2 = .ok (.putfield 28, 3) := by decide +kernel
theorem dX5_digest_5 : decode cX5_digest 5 = .ok (.aload_n 0, 1) := by decide +kernel
theorem dX5_digest_6 : decode cX5_digest 6 = .ok (.ldc2_w 227, 3) := by decide +kernel
theorem dX5_digest_9 : decode cX5_digest 9 = .ok (.putfield 223, 3) := by decide +kernel
theorem dX5_digest_12 : decode cX5_digest 12 = .ok (.iconst 0, 1) := by decide +kernel
theorem dX5_digest_13 : decode cX5_digest 13 = .ok (.istore_n 1, 1) := by decide +kernel
theorem dX5_digest_14 : decode cX5_digest 14 = .ok (.iload_n 1, 1) := by decide +kernel
theorem dX5_digest_15 : decode cX5_digest 15 = .ok (.bipush 12, 2) := by decide +kernel
theorem dX5_digest_17 : decode cX5_digest 17 = .ok (.if_icmp .ge 19, 3) := by decide +kernel
theorem dX5_digest_20 : decode cX5_digest 20 = .ok (.aload_n 0, 1) := by decide +kernel
theorem dX5_digest_21 : decode cX5_digest 21 = .ok (.aload_n 0, 1) := by decide +kernel
theorem dX5_digest_22 : decode cX5_digest 22 = .ok (.iload_n 1, 1) := by decide +kernel
theorem dX5_digest_23 : decode cX5_digest 23 = .ok (.invokevirtual 182, 3) := by decide +kernel
theorem dX5_digest_26 : decode cX5_digest 26 = .ok (.i2l, 1) := by decide +kernel
theorem dX5_digest_27 : decode cX5_digest 27 = .ok (.invokevirtual 229, 3) := by decide +kernel
theorem dX5_digest_30 : decode cX5_digest 30 = .ok (.iinc 1 1, 3) := by decide +kernel
theorem dX5_digest_33 : decode cX5_digest 33 = .ok (.goto (-19), 3) := by decide +kernel
theorem dX5_digest_36 : decode cX5_digest 36 = .ok (.aload_n 0, 1) := by decide +kernel
theorem dX5_digest_37 : decode cX5_digest 37 = .ok (.aload_n 0, 1) := by decide +kernel
theorem dX5_digest_38 : decode cX5_digest 38 = .ok (.getfield 7, 3) := by decide +kernel
theorem dX5_digest_41 : decode cX5_digest 41 = .ok (.iconst 3, 1) := by decide +kernel
theorem dX5_digest_42 : decode cX5_digest 42 = .ok (.iaload, 1) := by decide +kernel
theorem dX5_digest_43 : decode cX5_digest 43 = .ok (.i2l, 1) := by decide +kernel
theorem dX5_digest_44 : decode cX5_digest 44 = .ok (.invokevirtual 229, 3) := by decide +kernel
theorem dX5_digest_47 : decode cX5_digest 47 = .ok (.iconst 1, 1) := by decide +kernel
theorem dX5_digest_48 : decode cX5_digest 48 = .ok (.istore_n 1, 1) := by decide +kernel
theorem dX5_digest_49 : decode cX5_digest 49 = .ok (.iload_n 1, 1) := by decide +kernel
theorem dX5_digest_50 : decode cX5_digest 50 = .ok (.bipush 10, 2) := by decide +kernel
theorem dX5_digest_52 : decode cX5_digest 52 = .ok (.if_icmp .gt 19, 3) := by decide +kernel
theorem dX5_digest_55 : decode cX5_digest 55 = .ok (.aload_n 0, 1) := by decide +kernel
theorem dX5_digest_56 : decode cX5_digest 56 = .ok (.aload_n 0, 1) := by decide +kernel
theorem dX5_digest_57 : decode cX5_digest 57 = .ok (.iload_n 1, 1) := by decide +kernel
theorem dX5_digest_58 : decode cX5_digest 58 = .ok (.invokevirtual 169, 3) := by decide +kernel
theorem dX5_digest_61 : decode cX5_digest 61 = .ok (.i2l, 1) := by decide +kernel
theorem dX5_digest_62 : decode cX5_digest 62 = .ok (.invokevirtual 229, 3) := by decide +kernel
theorem dX5_digest_65 : decode cX5_digest 65 = .ok (.iinc 1 1, 3) := by decide +kernel
theorem dX5_digest_68 : decode cX5_digest 68 = .ok (.goto (-19), 3) := by decide +kernel
theorem dX5_digest_71 : decode cX5_digest 71 = .ok (.iconst 0, 1) := by decide +kernel
theorem dX5_digest_72 : decode cX5_digest 72 = .ok (.istore_n 1, 1) := by decide +kernel
theorem dX5_digest_73 : decode cX5_digest 73 = .ok (.iload_n 1, 1) := by decide +kernel
theorem dX5_digest_74 : decode cX5_digest 74 = .ok (.aload_n 0, 1) := by decide +kernel
theorem dX5_digest_75 : decode cX5_digest 75 = .ok (.getfield 7, 3) := by decide +kernel
theorem dX5_digest_78 : decode cX5_digest 78 = .ok (.iconst 4, 1) := by decide +kernel
theorem dX5_digest_79 : decode cX5_digest 79 = .ok (.iaload, 1) := by decide +kernel
theorem dX5_digest_80 : decode cX5_digest 80 = .ok (.if_icmp .ge 88, 3) := by decide +kernel
theorem dX5_digest_83 : decode cX5_digest 83 = .ok (.iconst 0, 1) := by decide +kernel
theorem dX5_digest_84 : decode cX5_digest 84 = .ok (.istore_n 2, 1) := by decide +kernel
theorem dX5_digest_85 : decode cX5_digest 85 = .ok (.iload_n 2, 1) := by decide +kernel
theorem dX5_digest_86 : decode cX5_digest 86 = .ok (.bipush 11, 2) := by decide +kernel
theorem dX5_digest_88 : decode cX5_digest 88 = .ok (.if_icmp .ge 20, 3) := by decide +kernel
theorem dX5_digest_91 : decode cX5_digest 91 = .ok (.aload_n 0, 1) := by decide +kernel
theorem dX5_digest_92 : decode cX5_digest 92 = .ok (.aload_n 0, 1) := by decide +kernel
theorem dX5_digest_93 : decode cX5_digest 93 = .ok (.iload_n 1, 1) := by decide +kernel
theorem dX5_digest_94 : decode cX5_digest 94 = .ok (.iload_n 2, 1) := by decide +kernel
theorem dX5_digest_95 : decode cX5_digest 95 = .ok (.invokevirtual 166, 3) := by decide +kernel
theorem dX5_digest_98 : decode cX5_digest 98 = .ok (.i2l, 1) := by decide +kernel
theorem dX5_digest_99 : decode cX5_digest 99 = .ok (.invokevirtual 229, 3) := by decide +kernel
theorem dX5_digest_102 : decode cX5_digest 102 = .ok (.iinc 2 1, 3) := by decide +kernel
theorem dX5_digest_105 : decode cX5_digest 105 = .ok (.goto (-20), 3) := by decide +kernel
theorem dX5_digest_108 : decode cX5_digest 108 = .ok (.iconst 0, 1) := by decide +kernel
theorem dX5_digest_109 : decode cX5_digest 109 = .ok (.istore_n 2, 1) := by decide +kernel
theorem dX5_digest_110 : decode cX5_digest 110 = .ok (.iload_n 2, 1) := by decide +kernel
theorem dX5_digest_111 : decode cX5_digest 111 = .ok (.iconst 4, 1) := by decide +kernel
theorem dX5_digest_112 : decode cX5_digest 112 = .ok (.if_icmp .ge 24, 3) := by decide +kernel
theorem dX5_digest_115 : decode cX5_digest 115 = .ok (.aload_n 0, 1) := by decide +kernel
theorem dX5_digest_116 : decode cX5_digest 116 = .ok (.aload_n 0, 1) := by decide +kernel
theorem dX5_digest_117 : decode cX5_digest 117 = .ok (.iload_n 1, 1) := by decide +kernel
theorem dX5_digest_118 : decode cX5_digest 118 = .ok (.bipush 10, 2) := by decide +kernel
theorem dX5_digest_120 : decode cX5_digest 120 = .ok (.bipush 9, 2) := by decide +kernel
theorem dX5_digest_122 : decode cX5_digest 122 = .ok (.iload_n 2, 1) := by decide +kernel
theorem dX5_digest_123 : decode cX5_digest 123 = .ok (.invokevirtual 175, 3) := by decide +kernel
theorem dX5_digest_126 : decode cX5_digest 126 = .ok (.i2l, 1) := by decide +kernel
theorem dX5_digest_127 : decode cX5_digest 127 = .ok (.invokevirtual 229, 3) := by decide +kernel
theorem dX5_digest_130 : decode cX5_digest 130 = .ok (.iinc 2 1, 3) := by decide +kernel
theorem dX5_digest_133 : decode cX5_digest 133 = .ok (.goto (-23), 3) := by decide +kernel
theorem dX5_digest_136 : decode cX5_digest 136 = .ok (.aload_n 0, 1) := by decide +kernel
theorem dX5_digest_137 : decode cX5_digest 137 = .ok (.aload_n 0, 1) := by decide +kernel
theorem dX5_digest_138 : decode cX5_digest 138 = .ok (.iload_n 1, 1) := by decide +kernel
theorem dX5_digest_139 : decode cX5_digest 139 = .ok (.bipush 50, 2) := by decide +kernel
theorem dX5_digest_141 : decode cX5_digest 141 = .ok (.iconst 0, 1) := by decide +kernel
theorem dX5_digest_142 : decode cX5_digest 142 = .ok (.invokevirtual 203, 3) := by decide +kernel
theorem dX5_digest_145 : decode cX5_digest 145 = .ok (.i2l, 1) := by decide +kernel
theorem dX5_digest_146 : decode cX5_digest 146 = .ok (.invokevirtual 229, 3) := by decide +kernel
theorem dX5_digest_149 : decode cX5_digest 149 = .ok (.aload_n 0, 1) := by decide +kernel
theorem dX5_digest_150 : decode cX5_digest 150 = .ok (.aload_n 0, 1) := by decide +kernel
theorem dX5_digest_151 : decode cX5_digest 151 = .ok (.iload_n 1, 1) := by decide +kernel
theorem dX5_digest_152 : decode cX5_digest 152 = .ok (.bipush 50, 2) := by decide +kernel
theorem dX5_digest_154 : decode cX5_digest 154 = .ok (.iconst 1, 1) := by decide +kernel
theorem dX5_digest_155 : decode cX5_digest 155 = .ok (.invokevirtual 203, 3) := by decide +kernel
theorem dX5_digest_158 : decode cX5_digest 158 = .ok (.i2l, 1) := by decide +kernel
theorem dX5_digest_159 : decode cX5_digest 159 = .ok (.invokevirtual 229, 3) := by decide +kernel
theorem dX5_digest_162 : decode cX5_digest 162 = .ok (.iinc 1 1, 3) := by decide +kernel
theorem dX5_digest_165 : decode cX5_digest 165 = .ok (.goto (-92), 3) := by decide +kernel
theorem dX5_digest_168 : decode cX5_digest 168 = .ok (.aload_n 0, 1) := by decide +kernel
theorem dX5_digest_169 : decode cX5_digest 169 = .ok (.aload_n 0, 1) := by decide +kernel
theorem dX5_digest_170 : decode cX5_digest 170 = .ok (.sipush 200, 3) := by decide +kernel
theorem dX5_digest_173 : decode cX5_digest 173 = .ok (.iconst 0, 1) := by decide +kernel
theorem dX5_digest_174 : decode cX5_digest 174 = .ok (.invokevirtual 188, 3) := by decide +kernel
theorem dX5_digest_177 : decode cX5_digest 177 = .ok (.i2l, 1) := by decide +kernel
theorem dX5_digest_178 : decode cX5_digest 178 = .ok (.invokevirtual 229, 3) := by decide +kernel
theorem dX5_digest_181 : decode cX5_digest 181 = .ok (.aload_n 0, 1) := by decide +kernel
theorem dX5_digest_182 : decode cX5_digest 182 = .ok (.aload_n 0, 1) := by decide +kernel
theorem dX5_digest_183 : decode cX5_digest 183 = .ok (.sipush 200, 3) := by decide +kernel
theorem dX5_digest_186 : decode cX5_digest 186 = .ok (.iconst 1, 1) := by decide +kernel
theorem dX5_digest_187 : decode cX5_digest 187 = .ok (.invokevirtual 188, 3) := by decide +kernel
theorem dX5_digest_190 : decode cX5_digest 190 = .ok (.i2l, 1) := by decide +kernel
theorem dX5_digest_191 : decode cX5_digest 191 = .ok (.invokevirtual 229, 3) := by decide +kernel
theorem dX5_digest_194 : decode cX5_digest 194 = .ok (.aload_n 0, 1) := by decide +kernel
theorem dX5_digest_195 : decode cX5_digest 195 = .ok (.aload_n 0, 1) := by decide +kernel
theorem dX5_digest_196 : decode cX5_digest 196 = .ok (.invokevirtual 191, 3) := by decide +kernel
theorem dX5_digest_199 : decode cX5_digest 199 = .ok (.i2l, 1) := by decide +kernel
theorem dX5_digest_200 : decode cX5_digest 200 = .ok (.invokevirtual 229, 3) := by decide +kernel
theorem dX5_digest_203 : decode cX5_digest 203 = .ok (.aload_n 0, 1) := by decide +kernel
theorem dX5_digest_204 : decode cX5_digest 204 = .ok (.aload_n 0, 1) := by decide +kernel
theorem dX5_digest_205 : decode cX5_digest 205 = .ok (.invokevirtual 200, 3) := by decide +kernel
theorem dX5_digest_208 : decode cX5_digest 208 = .ok (.i2l, 1) := by decide +kernel
theorem dX5_digest_209 : decode cX5_digest 209 = .ok (.invokevirtual 229, 3) := by decide +kernel
theorem dX5_digest_212 : decode cX5_digest 212 = .ok (.aload_n 0, 1) := by decide +kernel
theorem dX5_digest_213 : decode cX5_digest 213 = .ok (.aload_n 0, 1) := by decide +kernel
theorem dX5_digest_214 : decode cX5_digest 214 = .ok (.iconst 0, 1) := by decide +kernel
theorem dX5_digest_215 : decode cX5_digest 215 = .ok (.invokevirtual 206, 3) := by decide +kernel
theorem dX5_digest_218 : decode cX5_digest 218 = .ok (.i2l, 1) := by decide +kernel
theorem dX5_digest_219 : decode cX5_digest 219 = .ok (.invokevirtual 229, 3) := by decide +kernel
theorem dX5_digest_222 : decode cX5_digest 222 = .ok (.aload_n 0, 1) := by decide +kernel
theorem dX5_digest_223 : decode cX5_digest 223 = .ok (.aload_n 0, 1) := by decide +kernel
theorem dX5_digest_224 : decode cX5_digest 224 = .ok (.iconst 1, 1) := by decide +kernel
theorem dX5_digest_225 : decode cX5_digest 225 = .ok (.invokevirtual 206, 3) := by decide +kernel
theorem dX5_digest_228 : decode cX5_digest 228 = .ok (.i2l, 1) := by decide +kernel
theorem dX5_digest_229 : decode cX5_digest 229 = .ok (.invokevirtual 229, 3) := by decide +kernel
theorem dX5_digest_232 : decode cX5_digest 232 = .ok (.aload_n 0, 1) := by decide +kernel
theorem dX5_digest_233 : decode cX5_digest 233 = .ok (.aload_n 0, 1) := by decide +kernel
theorem dX5_digest_234 : decode cX5_digest 234 = .ok (.invokevirtual 209, 3) := by decide +kernel
theorem dX5_digest_237 : decode cX5_digest 237 = .ok (.invokestatic 233, 3) := by decide +kernel
theorem dX5_digest_240 : decode cX5_digest 240 = .ok (.invokevirtual 229, 3) := by decide +kernel
theorem dX5_digest_243 : decode cX5_digest 243 = .ok (.aload_n 0, 1) := by decide +kernel
theorem dX5_digest_244 : decode cX5_digest 244 = .ok (.aload_n 0, 1) := by decide +kernel
theorem dX5_digest_245 : decode cX5_digest 245 = .ok (.getfield 127, 3) := by decide +kernel
theorem dX5_digest_248 : decode cX5_digest 248 = .ok (.i2l, 1) := by decide +kernel
theorem dX5_digest_249 : decode cX5_digest 249 = .ok (.invokevirtual 229, 3) := by decide +kernel
theorem dX5_digest_252 : decode cX5_digest 252 = .ok (.iconst 0, 1) := by decide +kernel
theorem dX5_digest_253 : decode cX5_digest 253 = .ok (.istore_n 1, 1) := by decide +kernel
theorem dX5_digest_254 : decode cX5_digest 254 = .ok (.iload_n 1, 1) := by decide +kernel
theorem dX5_digest_255 : decode cX5_digest 255 = .ok (.aload_n 0, 1) := by decide +kernel
theorem dX5_digest_256 : decode cX5_digest 256 = .ok (.getfield 127, 3) := by decide +kernel
theorem dX5_digest_259 : decode cX5_digest 259 = .ok (.if_icmp .ge 20, 3) := by decide +kernel
theorem dX5_digest_262 : decode cX5_digest 262 = .ok (.aload_n 0, 1) := by decide +kernel
theorem dX5_digest_263 : decode cX5_digest 263 = .ok (.aload_n 0, 1) := by decide +kernel
theorem dX5_digest_264 : decode cX5_digest 264 = .ok (.getfield 19, 3) := by decide +kernel
theorem dX5_digest_267 : decode cX5_digest 267 = .ok (.iload_n 1, 1) := by decide +kernel
theorem dX5_digest_268 : decode cX5_digest 268 = .ok (.iaload, 1) := by decide +kernel
theorem dX5_digest_269 : decode cX5_digest 269 = .ok (.i2l, 1) := by decide +kernel
theorem dX5_digest_270 : decode cX5_digest 270 = .ok (.invokevirtual 229, 3) := by decide +kernel
theorem dX5_digest_273 : decode cX5_digest 273 = .ok (.iinc 1 1, 3) := by decide +kernel
theorem dX5_digest_276 : decode cX5_digest 276 = .ok (.goto (-22), 3) := by decide +kernel
theorem dX5_digest_279 : decode cX5_digest 279 = .ok (.aload_n 0, 1) := by decide +kernel
theorem dX5_digest_280 : decode cX5_digest 280 = .ok (.getfield 223, 3) := by decide +kernel
theorem dX5_digest_283 : decode cX5_digest 283 = .ok (.lreturn, 1) := by decide +kernel
def q_X5_digest (S : zM) : Int64 → zM → Prop := fun r S1 => r = zL (tDig (S 9 1) (S 9 4) (S 9 0 4) (S 9 0 6)) ∧ ∃ f A' M' L' : Int → Int, (f 0 = 0 ∧ f 4 = S 9 0 4 ∧ f 6 = S 9 0 6) ∧ zMo S f (S 9 1) A' (S 9 3) (S 9 4) M' L' = S1
def r_X5_digest : Room := { frames := 8, cells := 0, slots := 0, locals := 192 }
set_option maxHeartbeats 4000000 in
set_option maxRecDepth 100000 in
theorem c_X5_digest (l : Launch) (G : zG) (hG : zok G) (S : zM) (hsm : 0 ≤ S 9 0 4 ∧ S 9 0 4 ≤ 6) (hlen : 0 ≤ S 9 0 6 ∧ S 9 0 6 ≤ 60) (htx : ∀ i : Int, 0 ≤ i → i < 60 → 0 ≤ S 9 4 i ∧ S 9 4 i ≤ 126) (hok : zOk (S 9 1)) (hw : zW (S 9 1)) : Met l yX5_digest (Cond.code yX5_digest cX5_digest 3 (some FieldType.long) :: zTbl) r_X5_digest (va_Pc [.ref (za G 9 0)] (zB G S)) (va_Ql (q_X5_digest S) (zB G) (zA G)) 0 0 (zA G) := by
  refine zMet [(0, .ref (za G 9 0))] hG (by decide) (Nat.le_of_ble_eq_true rfl) rfl (fun p e s m args below meth c ls h hx hb hr hH hl => ?_)
  rw [← zM_id S] at hH
  have f4 := zW_4 hw
  have C254 : ∀ (fu : Nat) (i y : Int) (A M L : Int → Int) (H : Heap) (locs : List Loc) (ls : Array Slot), (S 9 0 6 - i).toNat < fu → (0 ≤ i ∧ i ≤ S 9 0 6) → (y = zmx (S 9 4) (31 * dTl (S 9 1) (dZs (S 9 1) (dHd (S 9 1) (S 9 0 4)) (S 9 1 4).toNat) + S 9 0 6) i.toNat) → zH G (zMo S (zup (zup (S 9 0) 0 0) 14 y) (S 9 1) A (S 9 3) (S 9 4) M L) s H locs → lv_has ls 3 [(0, .ref (za G 9 0)), (1, .int (zI i))] → W p l e r_X5_digest s m args below meth c H locs 0 0 (MQ below (va_Ql (q_X5_digest S) (zB G) (zA G)) args s 0 0 (zA G)) (F0 m 254 ls []) := by
    intro fu
    induction fu with
    | zero => intro i y A M L H locs ls hfu; omega
    | succ fu ih254 =>
      intro i y A M L H locs ls hfu hi hh hH hl
      refine lv_iload_n hx hb dX5_digest_254 rfl (lv_at hl 1 rfl) ?_
      refine lv_aload_n hx hb dX5_digest_255 rfl (lv_at hl 0 rfl) ?_
      refine zg_5_6 h hH zf_X5_127 dX5_digest_256 ?_
      rw [zM_0]
      rw [show (zup (zup (S 9 0) 0 0) 14 y 6 : Int) = S 9 0 6 from by (first | rw [zup_s] | rw [zup_n (by omega)]); (first | rw [zup_s] | rw [zup_n (by omega)])]
      refine zb_cge (tgt := 279) h (by omega) (by omega) dX5_digest_259 (by decide) (fun c_259 => ?_) (fun c_259 => ?_)
      · refine lv_aload_n hx hb dX5_digest_279 rfl (lv_at hl 0 rfl) ?_
        refine zg_5_14 h hH zf_X5_223 dX5_digest_280 ?_
        rw [zM_0]
        rw [show (zup (zup (S 9 0) 0 0) 14 y 14 : Int) = y from by (first | rw [zup_s] | rw [zup_n (by omega)])]
        refine zrl h hr hH ?_ dX5_digest_283
        obtain rfl : i = S 9 0 6 := by omega
        exact ⟨by rw [hh]; rfl, _, _, _, _, ⟨by rw [zup_n (by omega), zup_s], by rw [zup_n (by omega), zup_n (by omega)], by rw [zup_n (by omega), zup_n (by omega)]⟩, rfl⟩
      · refine lv_aload_n hx hb dX5_digest_262 rfl (lv_at hl 0 rfl) ?_
        refine lv_aload_n hx hb dX5_digest_263 rfl (lv_at hl 0 rfl) ?_
        refine zg_5_5 h hH zf_X5_19 dX5_digest_264 ?_
        refine lv_iload_n hx hb dX5_digest_267 rfl (lv_at hl 1 rfl) ?_
        refine zld_ar_tx h hH (by omega) dX5_digest_268 ?_
        rw [zM_4]
        have b_268 := htx i (by omega) (by omega)
        refine zb_i2l h (by omega) dX5_digest_269 ?_
        refine zcVv h hH (zr_5 h hH) (As := [.long (zL (S 9 4 i))]) (rest := []) (c_X5_digestOne l G hG (zMo S (zup (zup (S 9 0) 0 0) 14 y) (S 9 1) A (S 9 3) (S 9 4) M L) (S 9 4 i)) zce_X5_digestOne zcv_X5_digestOne zm_X5_229 hl.1 rfl rfl ⟨rfl, rfl⟩ ⟨Nat.le_of_ble_eq_true rfl, Nat.le_of_ble_eq_true rfl⟩ (Nat.le_of_ble_eq_true rfl) ⟨Nat.zero_le _, Nat.zero_le _⟩ dX5_digest_270 (fun S_270 H locs hq hH => ?_)
        obtain rfl := hq
        simp only [zM_M, zM_0, zM_1, zM_2, zM_3, zM_4, zM_5, zM_6] at hH
        rw [zdg] at hH
        refine lv_iinc (v := zI (i + 1)) (lv' := [(1, .int (zI (i + 1))), (0, .ref (za G 9 0))]) hx hb dX5_digest_273 hl (k := 1) rfl (zI_add _ _) (by decide) rfl (fun ls hl => ?_)
        refine lv_goto (tgt := 254) hx hb dX5_digest_276 (by decide) ?_
        exact ih254 (i + 1) _ A M L _ _ _ (by omega) (by omega) (by rw [zmx_s _ _ hi.1, hh]) hH (lv_sub hl [1, 0] rfl)
  have C73 : ∀ (fu : Nat) (z y : Int) (M : Int → Int) (H : Heap) (locs : List Loc) (ls : Array Slot), (S 9 1 4 - z).toNat < fu → (0 ≤ z ∧ z ≤ S 9 1 4) → (y = dZs (S 9 1) (dHd (S 9 1) (S 9 0 4)) z.toNat) → zH G (zMo S (zup (zup (S 9 0) 0 0) 14 y) (S 9 1) (S 9 2) (S 9 3) (S 9 4) M (S 9 6)) s H locs → lv_has ls 3 [(0, .ref (za G 9 0)), (1, .int (zI z))] → W p l e r_X5_digest s m args below meth c H locs 0 0 (MQ below (va_Ql (q_X5_digest S) (zB G) (zA G)) args s 0 0 (zA G)) (F0 m 73 ls []) := by
    intro fu
    induction fu with
    | zero => intro z y M H locs ls hfu; omega
    | succ fu ih73 =>
      intro z y M H locs ls hfu hz hh hH hl
      have C110 : ∀ (fu : Nat) (i g : Int) (M2 : Int → Int) (H : Heap) (locs : List Loc) (ls : Array Slot), (4 - i).toNat < fu → (z < S 9 1 4) → (0 ≤ i ∧ i ≤ 4) → (g = zmx (tStr (S 9 1) z 10 9) (zmx (tPr (S 9 1) z) y 11) i.toNat) → zH G (zMo S (zup (zup (S 9 0) 0 0) 14 g) (S 9 1) (S 9 2) (S 9 3) (S 9 4) M2 (S 9 6)) s H locs → lv_has ls 3 [(0, .ref (za G 9 0)), (1, .int (zI z)), (2, .int (zI i))] → W p l e r_X5_digest s m args below meth c H locs 0 0 (MQ below (va_Ql (q_X5_digest S) (zB G) (zA G)) args s 0 0 (zA G)) (F0 m 110 ls []) := by
        intro fu
        induction fu with
        | zero => intro i g M2 H locs ls hfu; omega
        | succ fu ih110 =>
          intro i g M2 H locs ls hfu hzl hi hg hH hl
          refine lv_iload_n hx hb dX5_digest_110 rfl (lv_at hl 2 rfl) ?_
          refine zb_ic h dX5_digest_111 ?_
          refine zb_cge (tgt := 136) h (by omega) (by omega) dX5_digest_112 (by decide) (fun c_112 => ?_) (fun c_112 => ?_)
          · refine lv_aload_n hx hb dX5_digest_136 rfl (lv_at hl 0 rfl) ?_
            refine lv_aload_n hx hb dX5_digest_137 rfl (lv_at hl 0 rfl) ?_
            refine lv_iload_n hx hb dX5_digest_138 rfl (lv_at hl 1 rfl) ?_
            refine zb_bi h dX5_digest_139 (by decide) (by decide) ?_
            refine zb_ic h dX5_digest_141 ?_
            refine zcVi h hH (zr_5 h hH) (As := [.int (zI z), .int (zI 50), .int (zI 0)]) (rest := [.ref (za G 9 0)]) (c_X5_burned l G hG (zMo S (zup (zup (S 9 0) 0 0) 14 g) (S 9 1) (S 9 2) (S 9 3) (S 9 4) M2 (S 9 6)) z 50 0 (by omega) (by omega) (by omega) (zM_hw hw)) zce_X5_burned zcv_X5_burned zm_X5_203 hl.1 rfl rfl ⟨rfl, rfl⟩ ⟨Nat.le_of_ble_eq_true rfl, Nat.le_of_ble_eq_true rfl⟩ (Nat.le_of_ble_eq_true rfl) ⟨Nat.zero_le _, Nat.zero_le _⟩ dX5_digest_142 (fun r_142 S_142 H locs hq hH => ?_)
            obtain ⟨rfl, M_142, rfl⟩ := hq
            simp only [zM_M, zM_0, zM_1, zM_2, zM_3, zM_4, zM_5, zM_6] at hH
            rw [zM_1]
            have b_142 := tBu_in hw (z := z) (t := 50) (by omega) (by omega) 0
            refine zb_i2l h (by omega) dX5_digest_145 ?_
            refine zcVv h hH (zr_5 h hH) (As := [.long (zL (tBu (S 9 1) z 50 0))]) (rest := []) (c_X5_digestOne l G hG (zMo S (zup (zup (S 9 0) 0 0) 14 g) (S 9 1) (S 9 2) (S 9 3) (S 9 4) M_142 (S 9 6)) (tBu (S 9 1) z 50 0)) zce_X5_digestOne zcv_X5_digestOne zm_X5_229 hl.1 rfl rfl ⟨rfl, rfl⟩ ⟨Nat.le_of_ble_eq_true rfl, Nat.le_of_ble_eq_true rfl⟩ (Nat.le_of_ble_eq_true rfl) ⟨Nat.zero_le _, Nat.zero_le _⟩ dX5_digest_146 (fun S_146 H locs hq hH => ?_)
            obtain rfl := hq
            simp only [zM_M, zM_0, zM_1, zM_2, zM_3, zM_4, zM_5, zM_6] at hH
            rw [zdg] at hH
            refine lv_aload_n hx hb dX5_digest_149 rfl (lv_at hl 0 rfl) ?_
            refine lv_aload_n hx hb dX5_digest_150 rfl (lv_at hl 0 rfl) ?_
            refine lv_iload_n hx hb dX5_digest_151 rfl (lv_at hl 1 rfl) ?_
            refine zb_bi h dX5_digest_152 (by decide) (by decide) ?_
            refine zb_ic h dX5_digest_154 ?_
            refine zcVi h hH (zr_5 h hH) (As := [.int (zI z), .int (zI 50), .int (zI 1)]) (rest := [.ref (za G 9 0)]) (c_X5_burned l G hG (zMo S (zup (zup (S 9 0) 0 0) 14 (31 * g + (tBu (S 9 1) z 50 0))) (S 9 1) (S 9 2) (S 9 3) (S 9 4) M_142 (S 9 6)) z 50 1 (by omega) (by omega) (by omega) (zM_hw hw)) zce_X5_burned zcv_X5_burned zm_X5_203 hl.1 rfl rfl ⟨rfl, rfl⟩ ⟨Nat.le_of_ble_eq_true rfl, Nat.le_of_ble_eq_true rfl⟩ (Nat.le_of_ble_eq_true rfl) ⟨Nat.zero_le _, Nat.zero_le _⟩ dX5_digest_155 (fun r_155 S_155 H locs hq hH => ?_)
            obtain ⟨rfl, M_155, rfl⟩ := hq
            simp only [zM_M, zM_0, zM_1, zM_2, zM_3, zM_4, zM_5, zM_6] at hH
            rw [zM_1]
            have b_155 := tBu_in hw (z := z) (t := 50) (by omega) (by omega) 1
            refine zb_i2l h (by omega) dX5_digest_158 ?_
            refine zcVv h hH (zr_5 h hH) (As := [.long (zL (tBu (S 9 1) z 50 1))]) (rest := []) (c_X5_digestOne l G hG (zMo S (zup (zup (S 9 0) 0 0) 14 (31 * g + (tBu (S 9 1) z 50 0))) (S 9 1) (S 9 2) (S 9 3) (S 9 4) M_155 (S 9 6)) (tBu (S 9 1) z 50 1)) zce_X5_digestOne zcv_X5_digestOne zm_X5_229 hl.1 rfl rfl ⟨rfl, rfl⟩ ⟨Nat.le_of_ble_eq_true rfl, Nat.le_of_ble_eq_true rfl⟩ (Nat.le_of_ble_eq_true rfl) ⟨Nat.zero_le _, Nat.zero_le _⟩ dX5_digest_159 (fun S_159 H locs hq hH => ?_)
            obtain rfl := hq
            simp only [zM_M, zM_0, zM_1, zM_2, zM_3, zM_4, zM_5, zM_6] at hH
            rw [zdg] at hH
            refine lv_iinc (v := zI (z + 1)) (lv' := [(1, .int (zI (z + 1))), (0, .ref (za G 9 0)), (2, .int (zI i))]) hx hb dX5_digest_162 hl (k := 1) rfl (zI_add _ _) (by decide) rfl (fun ls hl => ?_)
            refine lv_goto (tgt := 73) hx hb dX5_digest_165 (by decide) ?_
            exact ih73 (z + 1) _ M_155 _ _ _ (by omega) (by omega) (by rw [dZs_s _ _ hz.1, ← hh]; show _ = dZ (S 9 1) z y; rw [hg, show i = 4 by omega]; rfl) hH (lv_sub hl [1, 0] rfl)
          · refine lv_aload_n hx hb dX5_digest_115 rfl (lv_at hl 0 rfl) ?_
            refine lv_aload_n hx hb dX5_digest_116 rfl (lv_at hl 0 rfl) ?_
            refine lv_iload_n hx hb dX5_digest_117 rfl (lv_at hl 1 rfl) ?_
            refine zb_bi h dX5_digest_118 (by decide) (by decide) ?_
            refine zb_bi h dX5_digest_120 (by decide) (by decide) ?_
            refine lv_iload_n hx hb dX5_digest_122 rfl (lv_at hl 2 rfl) ?_
            refine zcVi h hH (zr_5 h hH) (As := [.int (zI z), .int (zI 10), .int (zI 9), .int (zI i)]) (rest := [.ref (za G 9 0)]) (c_X5_stripOf l G hG (zMo S (zup (zup (S 9 0) 0 0) 14 g) (S 9 1) (S 9 2) (S 9 3) (S 9 4) M2 (S 9 6)) z 10 9 i (by omega) (by omega) (by omega) (by omega) (zM_hw hw)) zce_X5_stripOf zcv_X5_stripOf zm_X5_175 hl.1 rfl rfl ⟨rfl, rfl⟩ ⟨Nat.le_of_ble_eq_true rfl, Nat.le_of_ble_eq_true rfl⟩ (Nat.le_of_ble_eq_true rfl) ⟨Nat.zero_le _, Nat.zero_le _⟩ dX5_digest_123 (fun r_123 S_123 H locs hq hH => ?_)
            obtain ⟨rfl, M_123, rfl⟩ := hq
            simp only [zM_M, zM_0, zM_1, zM_2, zM_3, zM_4, zM_5, zM_6] at hH
            rw [zM_1]
            have b_123 := tStr_in (S 9 1) (z := z) (f := 10) (n := 9) (w := i) (by omega) (by omega)
            refine zb_i2l h (by omega) dX5_digest_126 ?_
            refine zcVv h hH (zr_5 h hH) (As := [.long (zL (tStr (S 9 1) z 10 9 i))]) (rest := []) (c_X5_digestOne l G hG (zMo S (zup (zup (S 9 0) 0 0) 14 g) (S 9 1) (S 9 2) (S 9 3) (S 9 4) M_123 (S 9 6)) (tStr (S 9 1) z 10 9 i)) zce_X5_digestOne zcv_X5_digestOne zm_X5_229 hl.1 rfl rfl ⟨rfl, rfl⟩ ⟨Nat.le_of_ble_eq_true rfl, Nat.le_of_ble_eq_true rfl⟩ (Nat.le_of_ble_eq_true rfl) ⟨Nat.zero_le _, Nat.zero_le _⟩ dX5_digest_127 (fun S_127 H locs hq hH => ?_)
            obtain rfl := hq
            simp only [zM_M, zM_0, zM_1, zM_2, zM_3, zM_4, zM_5, zM_6] at hH
            rw [zdg] at hH
            refine lv_iinc (v := zI (i + 1)) (lv' := [(2, .int (zI (i + 1))), (0, .ref (za G 9 0)), (1, .int (zI z))]) hx hb dX5_digest_130 hl (k := 2) rfl (zI_add _ _) (by decide) rfl (fun ls hl => ?_)
            refine lv_goto (tgt := 110) hx hb dX5_digest_133 (by decide) ?_
            exact ih110 (i + 1) _ M_123 _ _ _ (by omega) (by omega) (by omega) (by rw [zmx_s _ _ hi.1, hg]) hH (lv_sub hl [1, 2, 0] rfl)
      have C85 : ∀ (fu : Nat) (i g : Int) (M2 : Int → Int) (H : Heap) (locs : List Loc) (ls : Array Slot), (11 - i).toNat < fu → (z < S 9 1 4) → (0 ≤ i ∧ i ≤ 11) → (g = zmx (tPr (S 9 1) z) y i.toNat) → zH G (zMo S (zup (zup (S 9 0) 0 0) 14 g) (S 9 1) (S 9 2) (S 9 3) (S 9 4) M2 (S 9 6)) s H locs → lv_has ls 3 [(0, .ref (za G 9 0)), (1, .int (zI z)), (2, .int (zI i))] → W p l e r_X5_digest s m args below meth c H locs 0 0 (MQ below (va_Ql (q_X5_digest S) (zB G) (zA G)) args s 0 0 (zA G)) (F0 m 85 ls []) := by
        intro fu
        induction fu with
        | zero => intro i g M2 H locs ls hfu; omega
        | succ fu ih85 =>
          intro i g M2 H locs ls hfu hzl hi hg hH hl
          refine lv_iload_n hx hb dX5_digest_85 rfl (lv_at hl 2 rfl) ?_
          refine zb_bi h dX5_digest_86 (by decide) (by decide) ?_
          refine zb_cge (tgt := 108) h (by omega) (by omega) dX5_digest_88 (by decide) (fun c_88 => ?_) (fun c_88 => ?_)
          · refine zb_ic h dX5_digest_108 ?_
            refine lv_istore_n (lv' := [(2, .int (zI 0)), (0, .ref (za G 9 0)), (1, .int (zI z))]) hx hb dX5_digest_109 rfl hl (by decide) rfl (fun ls hl => ?_)
            exact C110 ((4 - 0 : Int).toNat + 1) 0 _ M2 _ _ _ (by omega) (by omega) (by omega) (by rw [hg, show i = 11 by omega]; rfl) hH (lv_sub hl [1, 2, 0] rfl)
          · refine lv_aload_n hx hb dX5_digest_91 rfl (lv_at hl 0 rfl) ?_
            refine lv_aload_n hx hb dX5_digest_92 rfl (lv_at hl 0 rfl) ?_
            refine lv_iload_n hx hb dX5_digest_93 rfl (lv_at hl 1 rfl) ?_
            refine lv_iload_n hx hb dX5_digest_94 rfl (lv_at hl 2 rfl) ?_
            refine zcVi h hH (zr_5 h hH) (As := [.int (zI z), .int (zI i)]) (rest := [.ref (za G 9 0)]) (c_X5_ofZone l G hG (zMo S (zup (zup (S 9 0) 0 0) 14 g) (S 9 1) (S 9 2) (S 9 3) (S 9 4) M2 (S 9 6)) z i (by omega) (by omega) (zM_hw hw)) zce_X5_ofZone zcv_X5_ofZone zm_X5_166 hl.1 rfl rfl ⟨rfl, rfl⟩ ⟨Nat.le_of_ble_eq_true rfl, Nat.le_of_ble_eq_true rfl⟩ (Nat.le_of_ble_eq_true rfl) ⟨Nat.zero_le _, Nat.zero_le _⟩ dX5_digest_95 (fun r_95 S_95 H locs hq hH => ?_)
            obtain ⟨rfl, M_95, rfl⟩ := hq
            simp only [zM_M, zM_0, zM_1, zM_2, zM_3, zM_4, zM_5, zM_6] at hH
            rw [zM_1]
            have b_95 := tPr_in hw (show 0 ≤ z ∧ z < 8 by omega) i
            refine zb_i2l h (by omega) dX5_digest_98 ?_
            refine zcVv h hH (zr_5 h hH) (As := [.long (zL (tPr (S 9 1) z i))]) (rest := []) (c_X5_digestOne l G hG (zMo S (zup (zup (S 9 0) 0 0) 14 g) (S 9 1) (S 9 2) (S 9 3) (S 9 4) M_95 (S 9 6)) (tPr (S 9 1) z i)) zce_X5_digestOne zcv_X5_digestOne zm_X5_229 hl.1 rfl rfl ⟨rfl, rfl⟩ ⟨Nat.le_of_ble_eq_true rfl, Nat.le_of_ble_eq_true rfl⟩ (Nat.le_of_ble_eq_true rfl) ⟨Nat.zero_le _, Nat.zero_le _⟩ dX5_digest_99 (fun S_99 H locs hq hH => ?_)
            obtain rfl := hq
            simp only [zM_M, zM_0, zM_1, zM_2, zM_3, zM_4, zM_5, zM_6] at hH
            rw [zdg] at hH
            refine lv_iinc (v := zI (i + 1)) (lv' := [(2, .int (zI (i + 1))), (0, .ref (za G 9 0)), (1, .int (zI z))]) hx hb dX5_digest_102 hl (k := 2) rfl (zI_add _ _) (by decide) rfl (fun ls hl => ?_)
            refine lv_goto (tgt := 85) hx hb dX5_digest_105 (by decide) ?_
            exact ih85 (i + 1) _ M_95 _ _ _ (by omega) (by omega) (by omega) (by rw [zmx_s _ _ hi.1, hg]) hH (lv_sub hl [1, 2, 0] rfl)
      refine lv_iload_n hx hb dX5_digest_73 rfl (lv_at hl 1 rfl) ?_
      refine lv_aload_n hx hb dX5_digest_74 rfl (lv_at hl 0 rfl) ?_
      refine zg_5_1 h hH zf_X5_7 dX5_digest_75 ?_
      refine zb_ic h dX5_digest_78 ?_
      refine zld_ar_s h hH (by omega) dX5_digest_79 ?_
      rw [zM_1]
      have f_79 := zW_4 hw
      refine zb_cge (tgt := 168) h (by omega) (by omega) dX5_digest_80 (by decide) (fun c_80 => ?_) (fun c_80 => ?_)
      · refine lv_aload_n hx hb dX5_digest_168 rfl (lv_at hl 0 rfl) ?_
        refine lv_aload_n hx hb dX5_digest_169 rfl (lv_at hl 0 rfl) ?_
        refine zb_si h dX5_digest_170 (by decide) (by decide) ?_
        refine zb_ic h dX5_digest_173 ?_
        refine zcVi h hH (zr_5 h hH) (As := [.int (zI 200), .int (zI 0)]) (rest := [.ref (za G 9 0)]) (c_X5_exposed l G hG (zMo S (zup (zup (S 9 0) 0 0) 14 y) (S 9 1) (S 9 2) (S 9 3) (S 9 4) M (S 9 6)) 200 0 (by omega) (by omega) (zM_hw hw)) zce_X5_exposed zcv_X5_exposed zm_X5_188 hl.1 rfl rfl ⟨rfl, rfl⟩ ⟨Nat.le_of_ble_eq_true rfl, Nat.le_of_ble_eq_true rfl⟩ (Nat.le_of_ble_eq_true rfl) ⟨Nat.zero_le _, Nat.zero_le _⟩ dX5_digest_174 (fun r_174 S_174 H locs hq hH => ?_)
        obtain ⟨rfl, M_174, rfl⟩ := hq
        simp only [zM_M, zM_0, zM_1, zM_2, zM_3, zM_4, zM_5, zM_6] at hH
        rw [zM_1]
        have b_174 := tEx_in hw (t := 200) (by omega) 0
        refine zb_i2l h (by omega) dX5_digest_177 ?_
        refine zcVv h hH (zr_5 h hH) (As := [.long (zL (tEx (S 9 1) 200 0))]) (rest := []) (c_X5_digestOne l G hG (zMo S (zup (zup (S 9 0) 0 0) 14 y) (S 9 1) (S 9 2) (S 9 3) (S 9 4) M_174 (S 9 6)) (tEx (S 9 1) 200 0)) zce_X5_digestOne zcv_X5_digestOne zm_X5_229 hl.1 rfl rfl ⟨rfl, rfl⟩ ⟨Nat.le_of_ble_eq_true rfl, Nat.le_of_ble_eq_true rfl⟩ (Nat.le_of_ble_eq_true rfl) ⟨Nat.zero_le _, Nat.zero_le _⟩ dX5_digest_178 (fun S_178 H locs hq hH => ?_)
        obtain rfl := hq
        simp only [zM_M, zM_0, zM_1, zM_2, zM_3, zM_4, zM_5, zM_6] at hH
        rw [zdg] at hH
        refine lv_aload_n hx hb dX5_digest_181 rfl (lv_at hl 0 rfl) ?_
        refine lv_aload_n hx hb dX5_digest_182 rfl (lv_at hl 0 rfl) ?_
        refine zb_si h dX5_digest_183 (by decide) (by decide) ?_
        refine zb_ic h dX5_digest_186 ?_
        refine zcVi h hH (zr_5 h hH) (As := [.int (zI 200), .int (zI 1)]) (rest := [.ref (za G 9 0)]) (c_X5_exposed l G hG (zMo S (zup (zup (S 9 0) 0 0) 14 (31 * y + (tEx (S 9 1) 200 0))) (S 9 1) (S 9 2) (S 9 3) (S 9 4) M_174 (S 9 6)) 200 1 (by omega) (by omega) (zM_hw hw)) zce_X5_exposed zcv_X5_exposed zm_X5_188 hl.1 rfl rfl ⟨rfl, rfl⟩ ⟨Nat.le_of_ble_eq_true rfl, Nat.le_of_ble_eq_true rfl⟩ (Nat.le_of_ble_eq_true rfl) ⟨Nat.zero_le _, Nat.zero_le _⟩ dX5_digest_187 (fun r_187 S_187 H locs hq hH => ?_)
        obtain ⟨rfl, M_187, rfl⟩ := hq
        simp only [zM_M, zM_0, zM_1, zM_2, zM_3, zM_4, zM_5, zM_6] at hH
        rw [zM_1]
        have b_187 := tEx_in hw (t := 200) (by omega) 1
        refine zb_i2l h (by omega) dX5_digest_190 ?_
        refine zcVv h hH (zr_5 h hH) (As := [.long (zL (tEx (S 9 1) 200 1))]) (rest := []) (c_X5_digestOne l G hG (zMo S (zup (zup (S 9 0) 0 0) 14 (31 * y + (tEx (S 9 1) 200 0))) (S 9 1) (S 9 2) (S 9 3) (S 9 4) M_187 (S 9 6)) (tEx (S 9 1) 200 1)) zce_X5_digestOne zcv_X5_digestOne zm_X5_229 hl.1 rfl rfl ⟨rfl, rfl⟩ ⟨Nat.le_of_ble_eq_true rfl, Nat.le_of_ble_eq_true rfl⟩ (Nat.le_of_ble_eq_true rfl) ⟨Nat.zero_le _, Nat.zero_le _⟩ dX5_digest_191 (fun S_191 H locs hq hH => ?_)
        obtain rfl := hq
        simp only [zM_M, zM_0, zM_1, zM_2, zM_3, zM_4, zM_5, zM_6] at hH
        rw [zdg] at hH
        refine lv_aload_n hx hb dX5_digest_194 rfl (lv_at hl 0 rfl) ?_
        refine lv_aload_n hx hb dX5_digest_195 rfl (lv_at hl 0 rfl) ?_
        refine zcVi h hH (zr_5 h hH) (As := []) (rest := [.ref (za G 9 0)]) (c_X5_best l G hG (zMo S (zup (zup (S 9 0) 0 0) 14 (31 * (31 * y + (tEx (S 9 1) 200 0)) + (tEx (S 9 1) 200 1))) (S 9 1) (S 9 2) (S 9 3) (S 9 4) M_187 (S 9 6)) (zM_hw hw)) zce_X5_best zcv_X5_best zm_X5_191 hl.1 rfl rfl ⟨rfl, rfl⟩ ⟨Nat.le_of_ble_eq_true rfl, Nat.le_of_ble_eq_true rfl⟩ (Nat.le_of_ble_eq_true rfl) ⟨Nat.zero_le _, Nat.zero_le _⟩ dX5_digest_196 (fun r_196 S_196 H locs hq hH => ?_)
        obtain ⟨rfl, M_196, rfl⟩ := hq
        simp only [zM_M, zM_0, zM_1, zM_2, zM_3, zM_4, zM_5, zM_6] at hH
        rw [zM_1]
        have b_196 := tBt_in (S 9 1)
        refine zb_i2l h (by omega) dX5_digest_199 ?_
        refine zcVv h hH (zr_5 h hH) (As := [.long (zL (tBt (S 9 1)))]) (rest := []) (c_X5_digestOne l G hG (zMo S (zup (zup (S 9 0) 0 0) 14 (31 * (31 * y + (tEx (S 9 1) 200 0)) + (tEx (S 9 1) 200 1))) (S 9 1) (S 9 2) (S 9 3) (S 9 4) M_196 (S 9 6)) (tBt (S 9 1))) zce_X5_digestOne zcv_X5_digestOne zm_X5_229 hl.1 rfl rfl ⟨rfl, rfl⟩ ⟨Nat.le_of_ble_eq_true rfl, Nat.le_of_ble_eq_true rfl⟩ (Nat.le_of_ble_eq_true rfl) ⟨Nat.zero_le _, Nat.zero_le _⟩ dX5_digest_200 (fun S_200 H locs hq hH => ?_)
        obtain rfl := hq
        simp only [zM_M, zM_0, zM_1, zM_2, zM_3, zM_4, zM_5, zM_6] at hH
        rw [zdg] at hH
        refine lv_aload_n hx hb dX5_digest_203 rfl (lv_at hl 0 rfl) ?_
        refine lv_aload_n hx hb dX5_digest_204 rfl (lv_at hl 0 rfl) ?_
        refine zcVi h hH (zr_5 h hH) (As := []) (rest := [.ref (za G 9 0)]) (c_X5_bestPaper l G hG (zMo S (zup (zup (S 9 0) 0 0) 14 (31 * (31 * (31 * y + (tEx (S 9 1) 200 0)) + (tEx (S 9 1) 200 1)) + (tBt (S 9 1)))) (S 9 1) (S 9 2) (S 9 3) (S 9 4) M_196 (S 9 6)) (by rw [zM_1]; exact hok.2.1) (zM_hw hw)) zce_X5_bestPaper zcv_X5_bestPaper zm_X5_200 hl.1 rfl rfl ⟨rfl, rfl⟩ ⟨Nat.le_of_ble_eq_true rfl, Nat.le_of_ble_eq_true rfl⟩ (Nat.le_of_ble_eq_true rfl) ⟨Nat.zero_le _, Nat.zero_le _⟩ dX5_digest_205 (fun r_205 S_205 H locs hq hH => ?_)
        obtain ⟨rfl, A_205, M_205, L_205, rfl⟩ := hq
        simp only [zM_M, zM_0, zM_1, zM_2, zM_3, zM_4, zM_5, zM_6] at hH
        rw [zM_1]
        have b_205 := tBgr_in hw
        refine zb_i2l h (by omega) dX5_digest_208 ?_
        refine zcVv h hH (zr_5 h hH) (As := [.long (zL (tBgr (S 9 1)))]) (rest := []) (c_X5_digestOne l G hG (zMo S (zup (zup (S 9 0) 0 0) 14 (31 * (31 * (31 * y + (tEx (S 9 1) 200 0)) + (tEx (S 9 1) 200 1)) + (tBt (S 9 1)))) (S 9 1) A_205 (S 9 3) (S 9 4) M_205 L_205) (tBgr (S 9 1))) zce_X5_digestOne zcv_X5_digestOne zm_X5_229 hl.1 rfl rfl ⟨rfl, rfl⟩ ⟨Nat.le_of_ble_eq_true rfl, Nat.le_of_ble_eq_true rfl⟩ (Nat.le_of_ble_eq_true rfl) ⟨Nat.zero_le _, Nat.zero_le _⟩ dX5_digest_209 (fun S_209 H locs hq hH => ?_)
        obtain rfl := hq
        simp only [zM_M, zM_0, zM_1, zM_2, zM_3, zM_4, zM_5, zM_6] at hH
        rw [zdg] at hH
        refine lv_aload_n hx hb dX5_digest_212 rfl (lv_at hl 0 rfl) ?_
        refine lv_aload_n hx hb dX5_digest_213 rfl (lv_at hl 0 rfl) ?_
        refine zb_ic h dX5_digest_214 ?_
        refine zcVi h hH (zr_5 h hH) (As := [.int (zI 0)]) (rest := [.ref (za G 9 0)]) (c_X5_together l G hG (zMo S (zup (zup (S 9 0) 0 0) 14 (31 * (31 * (31 * (31 * y + (tEx (S 9 1) 200 0)) + (tEx (S 9 1) 200 1)) + (tBt (S 9 1))) + (tBgr (S 9 1)))) (S 9 1) A_205 (S 9 3) (S 9 4) M_205 L_205) 0 (by omega) (zM_hw hw)) zce_X5_together zcv_X5_together zm_X5_206 hl.1 rfl rfl ⟨rfl, rfl⟩ ⟨Nat.le_of_ble_eq_true rfl, Nat.le_of_ble_eq_true rfl⟩ (Nat.le_of_ble_eq_true rfl) ⟨Nat.zero_le _, Nat.zero_le _⟩ dX5_digest_215 (fun r_215 S_215 H locs hq hH => ?_)
        obtain ⟨rfl, M_215, rfl⟩ := hq
        simp only [zM_M, zM_0, zM_1, zM_2, zM_3, zM_4, zM_5, zM_6] at hH
        rw [zM_1]
        have b_215 := tCo_in hw 0
        refine zb_i2l h (by omega) dX5_digest_218 ?_
        refine zcVv h hH (zr_5 h hH) (As := [.long (zL (tCo (S 9 1) 0))]) (rest := []) (c_X5_digestOne l G hG (zMo S (zup (zup (S 9 0) 0 0) 14 (31 * (31 * (31 * (31 * y + (tEx (S 9 1) 200 0)) + (tEx (S 9 1) 200 1)) + (tBt (S 9 1))) + (tBgr (S 9 1)))) (S 9 1) A_205 (S 9 3) (S 9 4) M_215 L_205) (tCo (S 9 1) 0)) zce_X5_digestOne zcv_X5_digestOne zm_X5_229 hl.1 rfl rfl ⟨rfl, rfl⟩ ⟨Nat.le_of_ble_eq_true rfl, Nat.le_of_ble_eq_true rfl⟩ (Nat.le_of_ble_eq_true rfl) ⟨Nat.zero_le _, Nat.zero_le _⟩ dX5_digest_219 (fun S_219 H locs hq hH => ?_)
        obtain rfl := hq
        simp only [zM_M, zM_0, zM_1, zM_2, zM_3, zM_4, zM_5, zM_6] at hH
        rw [zdg] at hH
        refine lv_aload_n hx hb dX5_digest_222 rfl (lv_at hl 0 rfl) ?_
        refine lv_aload_n hx hb dX5_digest_223 rfl (lv_at hl 0 rfl) ?_
        refine zb_ic h dX5_digest_224 ?_
        refine zcVi h hH (zr_5 h hH) (As := [.int (zI 1)]) (rest := [.ref (za G 9 0)]) (c_X5_together l G hG (zMo S (zup (zup (S 9 0) 0 0) 14 (31 * (31 * (31 * (31 * (31 * y + (tEx (S 9 1) 200 0)) + (tEx (S 9 1) 200 1)) + (tBt (S 9 1))) + (tBgr (S 9 1))) + (tCo (S 9 1) 0))) (S 9 1) A_205 (S 9 3) (S 9 4) M_215 L_205) 1 (by omega) (zM_hw hw)) zce_X5_together zcv_X5_together zm_X5_206 hl.1 rfl rfl ⟨rfl, rfl⟩ ⟨Nat.le_of_ble_eq_true rfl, Nat.le_of_ble_eq_true rfl⟩ (Nat.le_of_ble_eq_true rfl) ⟨Nat.zero_le _, Nat.zero_le _⟩ dX5_digest_225 (fun r_225 S_225 H locs hq hH => ?_)
        obtain ⟨rfl, M_225, rfl⟩ := hq
        simp only [zM_M, zM_0, zM_1, zM_2, zM_3, zM_4, zM_5, zM_6] at hH
        rw [zM_1]
        have b_225 := tCo_in hw 1
        refine zb_i2l h (by omega) dX5_digest_228 ?_
        refine zcVv h hH (zr_5 h hH) (As := [.long (zL (tCo (S 9 1) 1))]) (rest := []) (c_X5_digestOne l G hG (zMo S (zup (zup (S 9 0) 0 0) 14 (31 * (31 * (31 * (31 * (31 * y + (tEx (S 9 1) 200 0)) + (tEx (S 9 1) 200 1)) + (tBt (S 9 1))) + (tBgr (S 9 1))) + (tCo (S 9 1) 0))) (S 9 1) A_205 (S 9 3) (S 9 4) M_225 L_205) (tCo (S 9 1) 1)) zce_X5_digestOne zcv_X5_digestOne zm_X5_229 hl.1 rfl rfl ⟨rfl, rfl⟩ ⟨Nat.le_of_ble_eq_true rfl, Nat.le_of_ble_eq_true rfl⟩ (Nat.le_of_ble_eq_true rfl) ⟨Nat.zero_le _, Nat.zero_le _⟩ dX5_digest_229 (fun S_229 H locs hq hH => ?_)
        obtain rfl := hq
        simp only [zM_M, zM_0, zM_1, zM_2, zM_3, zM_4, zM_5, zM_6] at hH
        rw [zdg] at hH
        refine lv_aload_n hx hb dX5_digest_232 rfl (lv_at hl 0 rfl) ?_
        refine lv_aload_n hx hb dX5_digest_233 rfl (lv_at hl 0 rfl) ?_
        refine zcVd h hH (zr_5 h hH) (As := []) (rest := [.ref (za G 9 0)]) (c_X5_share l G hG (zMo S (zup (zup (S 9 0) 0 0) 14 (31 * (31 * (31 * (31 * (31 * (31 * y + (tEx (S 9 1) 200 0)) + (tEx (S 9 1) 200 1)) + (tBt (S 9 1))) + (tBgr (S 9 1))) + (tCo (S 9 1) 0)) + (tCo (S 9 1) 1))) (S 9 1) A_205 (S 9 3) (S 9 4) M_225 L_205) (zM_hw hw)) zce_X5_share zcv_X5_share zm_X5_209 hl.1 rfl rfl ⟨rfl, rfl⟩ ⟨Nat.le_of_ble_eq_true rfl, Nat.le_of_ble_eq_true rfl⟩ (Nat.le_of_ble_eq_true rfl) ⟨Nat.zero_le _, Nat.zero_le _⟩ dX5_digest_234 (fun r_234 S_234 H locs hq hH => ?_)
        obtain ⟨rfl, M_234, rfl⟩ := hq
        simp only [zM_M, zM_0, zM_1, zM_2, zM_3, zM_4, zM_5, zM_6] at hH
        rw [zM_1]
        have bC := tCnt_in hw 0
        have bC2 := tCnt_le hw
        refine zcSl h hH (As := [.double (zShv (tCnt (S 9 1) 0) (S 9 1 4))]) (rest := [.ref (za G 9 0)]) (c_X5_bitsOf l G hG (zMo S (zup (zup (S 9 0) 0 0) 14 (31 * (31 * (31 * (31 * (31 * (31 * y + (tEx (S 9 1) 200 0)) + (tEx (S 9 1) 200 1)) + (tBt (S 9 1))) + (tBgr (S 9 1))) + (tCo (S 9 1) 0)) + (tCo (S 9 1) 1))) (S 9 1) A_205 (S 9 3) (S 9 4) M_234 L_205) (tCnt (S 9 1) 0) (S 9 1 4) (by omega) (by omega)) zce_X5_bitsOf zt_X5_bitsOf zm_X5_233 hl.1 rfl rfl ⟨rfl, rfl⟩ ⟨Nat.le_of_ble_eq_true rfl, Nat.le_of_ble_eq_true rfl⟩ (Nat.le_of_ble_eq_true rfl) ⟨Nat.zero_le _, Nat.zero_le _⟩ dX5_digest_237 (fun r_237 S_237 H locs hq hH => ?_)
        obtain ⟨rfl, rfl⟩ := hq
        refine zcVv h hH (zr_5 h hH) (As := [.long (zL (zBt (tCnt (S 9 1) 0) (S 9 1 4)))]) (rest := []) (c_X5_digestOne l G hG (zMo S (zup (zup (S 9 0) 0 0) 14 (31 * (31 * (31 * (31 * (31 * (31 * y + (tEx (S 9 1) 200 0)) + (tEx (S 9 1) 200 1)) + (tBt (S 9 1))) + (tBgr (S 9 1))) + (tCo (S 9 1) 0)) + (tCo (S 9 1) 1))) (S 9 1) A_205 (S 9 3) (S 9 4) M_234 L_205) (zBt (tCnt (S 9 1) 0) (S 9 1 4))) zce_X5_digestOne zcv_X5_digestOne zm_X5_229 hl.1 rfl rfl ⟨rfl, rfl⟩ ⟨Nat.le_of_ble_eq_true rfl, Nat.le_of_ble_eq_true rfl⟩ (Nat.le_of_ble_eq_true rfl) ⟨Nat.zero_le _, Nat.zero_le _⟩ dX5_digest_240 (fun S_240 H locs hq hH => ?_)
        obtain rfl := hq
        simp only [zM_M, zM_0, zM_1, zM_2, zM_3, zM_4, zM_5, zM_6] at hH
        rw [zdg] at hH
        refine lv_aload_n hx hb dX5_digest_243 rfl (lv_at hl 0 rfl) ?_
        refine lv_aload_n hx hb dX5_digest_244 rfl (lv_at hl 0 rfl) ?_
        refine zg_5_6 h hH zf_X5_127 dX5_digest_245 ?_
        rw [zM_0]
        rw [show (zup (zup (S 9 0) 0 0) 14 (31 * (31 * (31 * (31 * (31 * (31 * (31 * y + (tEx (S 9 1) 200 0)) + (tEx (S 9 1) 200 1)) + (tBt (S 9 1))) + (tBgr (S 9 1))) + (tCo (S 9 1) 0)) + (tCo (S 9 1) 1)) + (zBt (tCnt (S 9 1) 0) (S 9 1 4))) 6 : Int) = S 9 0 6 from by (first | rw [zup_s] | rw [zup_n (by omega)]); (first | rw [zup_s] | rw [zup_n (by omega)])]
        refine zb_i2l h (by omega) dX5_digest_248 ?_
        refine zcVv h hH (zr_5 h hH) (As := [.long (zL (S 9 0 6))]) (rest := []) (c_X5_digestOne l G hG (zMo S (zup (zup (S 9 0) 0 0) 14 (31 * (31 * (31 * (31 * (31 * (31 * (31 * y + (tEx (S 9 1) 200 0)) + (tEx (S 9 1) 200 1)) + (tBt (S 9 1))) + (tBgr (S 9 1))) + (tCo (S 9 1) 0)) + (tCo (S 9 1) 1)) + (zBt (tCnt (S 9 1) 0) (S 9 1 4)))) (S 9 1) A_205 (S 9 3) (S 9 4) M_234 L_205) (S 9 0 6)) zce_X5_digestOne zcv_X5_digestOne zm_X5_229 hl.1 rfl rfl ⟨rfl, rfl⟩ ⟨Nat.le_of_ble_eq_true rfl, Nat.le_of_ble_eq_true rfl⟩ (Nat.le_of_ble_eq_true rfl) ⟨Nat.zero_le _, Nat.zero_le _⟩ dX5_digest_249 (fun S_249 H locs hq hH => ?_)
        obtain rfl := hq
        simp only [zM_M, zM_0, zM_1, zM_2, zM_3, zM_4, zM_5, zM_6] at hH
        rw [zdg] at hH
        refine zb_ic h dX5_digest_252 ?_
        refine lv_istore_n (lv' := [(1, .int (zI 0)), (0, .ref (za G 9 0))]) hx hb dX5_digest_253 rfl hl (by decide) rfl (fun ls hl => ?_)
        exact C254 ((S 9 0 6 - 0 : Int).toNat + 1) 0 _ A_205 M_234 L_205 _ _ _ (by omega) (by omega) (by rw [hh, show z = S 9 1 4 by omega]; rfl) hH (lv_sub hl [1, 0] rfl)
      · refine zb_ic h dX5_digest_83 ?_
        refine lv_istore_n (lv' := [(2, .int (zI 0)), (0, .ref (za G 9 0)), (1, .int (zI z))]) hx hb dX5_digest_84 rfl hl (by decide) rfl (fun ls hl => ?_)
        exact C85 ((11 - 0 : Int).toNat + 1) 0 _ M _ _ _ (by omega) (by omega) (by omega) rfl hH (lv_sub hl [1, 2, 0] rfl)
  have C49 : ∀ (fu : Nat) (i y : Int) (M : Int → Int) (H : Heap) (locs : List Loc) (ls : Array Slot), (11 - i).toNat < fu → (1 ≤ i ∧ i ≤ 11) → (y = zmx (zMk (S 9 1 1) (S 9 1 2)) (31 * (zmx (tNum (S 9 1) (S 9 0 4)) 2879 12) + (S 9 1 3)) (i - 1).toNat) → zH G (zMo S (zup (zup (S 9 0) 0 0) 14 y) (S 9 1) (S 9 2) (S 9 3) (S 9 4) M (S 9 6)) s H locs → lv_has ls 3 [(0, .ref (za G 9 0)), (1, .int (zI i))] → W p l e r_X5_digest s m args below meth c H locs 0 0 (MQ below (va_Ql (q_X5_digest S) (zB G) (zA G)) args s 0 0 (zA G)) (F0 m 49 ls []) := by
    intro fu
    induction fu with
    | zero => intro i y M H locs ls hfu; omega
    | succ fu ih49 =>
      intro i y M H locs ls hfu hi hh hH hl
      refine lv_iload_n hx hb dX5_digest_49 rfl (lv_at hl 1 rfl) ?_
      refine zb_bi h dX5_digest_50 (by decide) (by decide) ?_
      refine zb_cgt (tgt := 71) h (by omega) (by omega) dX5_digest_52 (by decide) (fun c_52 => ?_) (fun c_52 => ?_)
      · refine zb_ic h dX5_digest_71 ?_
        refine lv_istore_n (lv' := [(1, .int (zI 0)), (0, .ref (za G 9 0))]) hx hb dX5_digest_72 rfl hl (by decide) rfl (fun ls hl => ?_)
        exact C73 ((S 9 1 4 - 0 : Int).toNat + 1) 0 _ M _ _ _ (by omega) (by omega) (by rw [hh, show i - 1 = 10 by omega]; rfl) hH (lv_sub hl [1, 0] rfl)
      · refine lv_aload_n hx hb dX5_digest_55 rfl (lv_at hl 0 rfl) ?_
        refine lv_aload_n hx hb dX5_digest_56 rfl (lv_at hl 0 rfl) ?_
        refine lv_iload_n hx hb dX5_digest_57 rfl (lv_at hl 1 rfl) ?_
        refine zcVi h hH (zr_5 h hH) (As := [.int (zI i)]) (rest := [.ref (za G 9 0)]) (c_X5_markOf l G hG (zMo S (zup (zup (S 9 0) 0 0) 14 y) (S 9 1) (S 9 2) (S 9 3) (S 9 4) M (S 9 6)) i (by omega) (zM_hw hw)) zce_X5_markOf zcv_X5_markOf zm_X5_169 hl.1 rfl rfl ⟨rfl, rfl⟩ ⟨Nat.le_of_ble_eq_true rfl, Nat.le_of_ble_eq_true rfl⟩ (Nat.le_of_ble_eq_true rfl) ⟨Nat.zero_le _, Nat.zero_le _⟩ dX5_digest_58 (fun r_58 S_58 H locs hq hH => ?_)
        obtain ⟨rfl, M_58, rfl⟩ := hq
        simp only [zM_M, zM_0, zM_1, zM_2, zM_3, zM_4, zM_5, zM_6] at hH
        rw [zM_1]
        have b_58 := zMk_in (g := S 9 1 1) (zW_2 hw) (show 0 ≤ i - 1 ∧ i - 1 < 10 by omega)
        refine zb_i2l h (by omega) dX5_digest_61 ?_
        refine zcVv h hH (zr_5 h hH) (As := [.long (zL (zMk (S 9 1 1) (S 9 1 2) (i - 1)))]) (rest := []) (c_X5_digestOne l G hG (zMo S (zup (zup (S 9 0) 0 0) 14 y) (S 9 1) (S 9 2) (S 9 3) (S 9 4) M_58 (S 9 6)) (zMk (S 9 1 1) (S 9 1 2) (i - 1))) zce_X5_digestOne zcv_X5_digestOne zm_X5_229 hl.1 rfl rfl ⟨rfl, rfl⟩ ⟨Nat.le_of_ble_eq_true rfl, Nat.le_of_ble_eq_true rfl⟩ (Nat.le_of_ble_eq_true rfl) ⟨Nat.zero_le _, Nat.zero_le _⟩ dX5_digest_62 (fun S_62 H locs hq hH => ?_)
        obtain rfl := hq
        simp only [zM_M, zM_0, zM_1, zM_2, zM_3, zM_4, zM_5, zM_6] at hH
        rw [zdg] at hH
        refine lv_iinc (v := zI (i + 1)) (lv' := [(1, .int (zI (i + 1))), (0, .ref (za G 9 0))]) hx hb dX5_digest_65 hl (k := 1) rfl (zI_add _ _) (by decide) rfl (fun ls hl => ?_)
        refine lv_goto (tgt := 49) hx hb dX5_digest_68 (by decide) ?_
        exact ih49 (i + 1) _ M_58 _ _ _ (by omega) (by omega) (by have e := zmx_s (zMk (S 9 1 1) (S 9 1 2)) (31 * (zmx (tNum (S 9 1) (S 9 0 4)) 2879 12) + (S 9 1 3)) (show 0 ≤ i - 1 by omega); rw [show i - 1 + 1 = i + 1 - 1 by omega] at e; rw [e, hh]) hH (lv_sub hl [1, 0] rfl)
  have C14 : ∀ (fu : Nat) (i y : Int) (M : Int → Int) (H : Heap) (locs : List Loc) (ls : Array Slot), (12 - i).toNat < fu → (0 ≤ i ∧ i ≤ 12) → (y = zmx (tNum (S 9 1) (S 9 0 4)) 2879 i.toNat) → zH G (zMo S (zup (zup (S 9 0) 0 0) 14 y) (S 9 1) (S 9 2) (S 9 3) (S 9 4) M (S 9 6)) s H locs → lv_has ls 3 [(0, .ref (za G 9 0)), (1, .int (zI i))] → W p l e r_X5_digest s m args below meth c H locs 0 0 (MQ below (va_Ql (q_X5_digest S) (zB G) (zA G)) args s 0 0 (zA G)) (F0 m 14 ls []) := by
    intro fu
    induction fu with
    | zero => intro i y M H locs ls hfu; omega
    | succ fu ih14 =>
      intro i y M H locs ls hfu hi hh hH hl
      refine lv_iload_n hx hb dX5_digest_14 rfl (lv_at hl 1 rfl) ?_
      refine zb_bi h dX5_digest_15 (by decide) (by decide) ?_
      refine zb_cge (tgt := 36) h (by omega) (by omega) dX5_digest_17 (by decide) (fun c_17 => ?_) (fun c_17 => ?_)
      · refine lv_aload_n hx hb dX5_digest_36 rfl (lv_at hl 0 rfl) ?_
        refine lv_aload_n hx hb dX5_digest_37 rfl (lv_at hl 0 rfl) ?_
        refine zg_5_1 h hH zf_X5_7 dX5_digest_38 ?_
        refine zb_ic h dX5_digest_41 ?_
        refine zld_ar_s h hH (by omega) dX5_digest_42 ?_
        rw [zM_1]
        have f_42 := zW_3 hw
        refine zb_i2l h (by omega) dX5_digest_43 ?_
        refine zcVv h hH (zr_5 h hH) (As := [.long (zL (S 9 1 3))]) (rest := []) (c_X5_digestOne l G hG (zMo S (zup (zup (S 9 0) 0 0) 14 y) (S 9 1) (S 9 2) (S 9 3) (S 9 4) M (S 9 6)) (S 9 1 3)) zce_X5_digestOne zcv_X5_digestOne zm_X5_229 hl.1 rfl rfl ⟨rfl, rfl⟩ ⟨Nat.le_of_ble_eq_true rfl, Nat.le_of_ble_eq_true rfl⟩ (Nat.le_of_ble_eq_true rfl) ⟨Nat.zero_le _, Nat.zero_le _⟩ dX5_digest_44 (fun S_44 H locs hq hH => ?_)
        obtain rfl := hq
        simp only [zM_M, zM_0, zM_1, zM_2, zM_3, zM_4, zM_5, zM_6] at hH
        rw [zdg] at hH
        refine zb_ic h dX5_digest_47 ?_
        refine lv_istore_n (lv' := [(1, .int (zI 1)), (0, .ref (za G 9 0))]) hx hb dX5_digest_48 rfl hl (by decide) rfl (fun ls hl => ?_)
        exact C49 ((11 - 1 : Int).toNat + 1) 1 _ M _ _ _ (by omega) (by omega) (by rw [hh, show i = 12 by omega]; rfl) hH (lv_sub hl [1, 0] rfl)
      · refine lv_aload_n hx hb dX5_digest_20 rfl (lv_at hl 0 rfl) ?_
        refine lv_aload_n hx hb dX5_digest_21 rfl (lv_at hl 0 rfl) ?_
        refine lv_iload_n hx hb dX5_digest_22 rfl (lv_at hl 1 rfl) ?_
        refine zcVi h hH (zr_5 h hH) (As := [.int (zI i)]) (rest := [.ref (za G 9 0)]) (c_X5_counted l G hG (zMo S (zup (zup (S 9 0) 0 0) 14 y) (S 9 1) (S 9 2) (S 9 3) (S 9 4) M (S 9 6)) i (by omega) (zM_hw hw)) zce_X5_counted zcv_X5_counted zm_X5_182 hl.1 rfl rfl ⟨rfl, rfl⟩ ⟨Nat.le_of_ble_eq_true rfl, Nat.le_of_ble_eq_true rfl⟩ (Nat.le_of_ble_eq_true rfl) ⟨Nat.zero_le _, Nat.zero_le _⟩ dX5_digest_23 (fun r_23 S_23 H locs hq hH => ?_)
        obtain ⟨rfl, M_23, rfl⟩ := hq
        simp only [zM_M, zM_0, zM_1, zM_2, zM_3, zM_4, zM_5, zM_6] at hH
        rw [zM_1]
        rw [zM_0, zup_n (show (4 : Int) ≠ 14 by omega), zup_n (show (4 : Int) ≠ 0 by omega)]
        have b_23 := tNum_in hw hsm (w := i) (by omega)
        refine zb_i2l h (by omega) dX5_digest_26 ?_
        refine zcVv h hH (zr_5 h hH) (As := [.long (zL (tNum (S 9 1) (S 9 0 4) i))]) (rest := []) (c_X5_digestOne l G hG (zMo S (zup (zup (S 9 0) 0 0) 14 y) (S 9 1) (S 9 2) (S 9 3) (S 9 4) M_23 (S 9 6)) (tNum (S 9 1) (S 9 0 4) i)) zce_X5_digestOne zcv_X5_digestOne zm_X5_229 hl.1 rfl rfl ⟨rfl, rfl⟩ ⟨Nat.le_of_ble_eq_true rfl, Nat.le_of_ble_eq_true rfl⟩ (Nat.le_of_ble_eq_true rfl) ⟨Nat.zero_le _, Nat.zero_le _⟩ dX5_digest_27 (fun S_27 H locs hq hH => ?_)
        obtain rfl := hq
        simp only [zM_M, zM_0, zM_1, zM_2, zM_3, zM_4, zM_5, zM_6] at hH
        rw [zdg] at hH
        refine lv_iinc (v := zI (i + 1)) (lv' := [(1, .int (zI (i + 1))), (0, .ref (za G 9 0))]) hx hb dX5_digest_30 hl (k := 1) rfl (zI_add _ _) (by decide) rfl (fun ls hl => ?_)
        refine lv_goto (tgt := 14) hx hb dX5_digest_33 (by decide) ?_
        exact ih14 (i + 1) _ M_23 _ _ _ (by omega) (by omega) (by rw [zmx_s _ _ hi.1, hh]) hH (lv_sub hl [1, 0] rfl)
  refine lv_aload_n hx hb dX5_digest_0 rfl (lv_at hl 0 rfl) ?_
  refine zb_ic h dX5_digest_1 ?_
  refine zu_5_0 h hH zf_X5_28 dX5_digest_2 (fun H locs hH => ?_)
  rw [zs_M0] at hH
  refine lv_aload_n hx hb dX5_digest_5 rfl (lv_at hl 0 rfl) ?_
  refine zb_ldc2 (n := 2879) h zk_X5_227 (by decide +kernel) dX5_digest_6 ?_
  refine zu_5_14 h hH zf_X5_223 dX5_digest_9 (fun H locs hH => ?_)
  rw [zs_M0] at hH
  refine zb_ic h dX5_digest_12 ?_
  refine lv_istore_n (lv' := [(1, .int (zI 0)), (0, .ref (za G 9 0))]) hx hb dX5_digest_13 rfl hl (by decide) rfl (fun ls hl => ?_)
  exact C14 ((12 - 0 : Int).toNat + 1) 0 _ (S 9 5) _ _ _ (by omega) (by omega) rfl hH (lv_sub hl [1, 0] rfl)
