theorem dX4_digest_0 : decode cX4_digest 0 = .ok (.ldc2_w 216, 3) := by decide +kernel
theorem dX4_digest_3 : decode cX4_digest 3 = .ok (.lstore_n 1, 1) := by decide +kernel
theorem dX4_digest_4 : decode cX4_digest 4 = .ok (.iconst 0, 1) := by decide +kernel
theorem dX4_digest_5 : decode cX4_digest 5 = .ok (.istore_n 3, 1) := by decide +kernel
theorem dX4_digest_6 : decode cX4_digest 6 = .ok (.iload_n 3, 1) := by decide +kernel
theorem dX4_digest_7 : decode cX4_digest 7 = .ok (.bipush 11, 2) := by decide +kernel
theorem dX4_digest_9 : decode cX4_digest 9 = .ok (.if_icmp .gt 20, 3) := by decide +kernel
theorem dX4_digest_12 : decode cX4_digest 12 = .ok (.lload_n 1, 1) := by decide +kernel
theorem dX4_digest_13 : decode cX4_digest 13 = .ok (.aload_n 0, 1) := by decide +kernel
theorem dX4_digest_14 : decode cX4_digest 14 = .ok (.iload_n 3, 1) := by decide +kernel
theorem dX4_digest_15 : decode cX4_digest 15 = .ok (.invokevirtual 181, 3) := by decide +kernel
theorem dX4_digest_18 : decode cX4_digest 18 = .ok (.i2l, 1) := by decide +kernel
theorem dX4_digest_19 : decode cX4_digest 19 = .ok (.invokestatic 218, 3) := by decide +kernel
theorem dX4_digest_22 : decode cX4_digest 22 = .ok (.lstore_n 1, 1) := by decide +kernel
theorem dX4_digest_23 : decode cX4_digest 23 = .ok (.iinc 3 1, 3) := by decide +kernel
theorem dX4_digest_26 : decode cX4_digest 26 = .ok (.goto (-20), 3) := by decide +kernel
theorem dX4_digest_29 : decode cX4_digest 29 = .ok (.lload_n 1, 1) := by decide +kernel
theorem dX4_digest_30 : decode cX4_digest 30 = .ok (.aload_n 0, 1) := by decide +kernel
theorem dX4_digest_31 : decode cX4_digest 31 = .ok (.getfield 10, 3) := by decide +kernel
theorem dX4_digest_34 : decode cX4_digest 34 = .ok (.getfield 130, 3) := by decide +kernel
theorem dX4_digest_37 : decode cX4_digest 37 = .ok (.i2l, 1) := by decide +kernel
theorem dX4_digest_38 : decode cX4_digest 38 = .ok (.invokestatic 218, 3) := by decide +kernel
theorem dX4_digest_41 : decode cX4_digest 41 = .ok (.lstore_n 1, 1) := by decide +kernel
theorem dX4_digest_42 : decode cX4_digest 42 = .ok (.iconst 1, 1) := by decide +kernel
theorem dX4_digest_43 : decode cX4_digest 43 = .ok (.istore_n 3, 1) := by decide +kernel
theorem dX4_digest_44 : decode cX4_digest 44 = .ok (.iload_n 3, 1) := by decide +kernel
theorem dX4_digest_45 : decode cX4_digest 45 = .ok (.bipush 10, 2) := by decide +kernel
theorem dX4_digest_47 : decode cX4_digest 47 = .ok (.if_icmp .gt 26, 3) := by decide +kernel
theorem dX4_digest_50 : decode cX4_digest 50 = .ok (.lload_n 1, 1) := by decide +kernel
theorem dX4_digest_51 : decode cX4_digest 51 = .ok (.aload_n 0, 1) := by decide +kernel
theorem dX4_digest_52 : decode cX4_digest 52 = .ok (.getfield 10, 3) := by decide +kernel
theorem dX4_digest_55 : decode cX4_digest 55 = .ok (.getfield 115, 3) := by decide +kernel
theorem dX4_digest_58 : decode cX4_digest 58 = .ok (.iload_n 3, 1) := by decide +kernel
theorem dX4_digest_59 : decode cX4_digest 59 = .ok (.invokevirtual 170, 3) := by decide +kernel
theorem dX4_digest_62 : decode cX4_digest 62 = .ok (.i2l, 1) := by decide +kernel
theorem dX4_digest_63 : decode cX4_digest 63 = .ok (.invokestatic 218, 3) := by decide +kernel
theorem dX4_digest_66 : decode cX4_digest 66 = .ok (.lstore_n 1, 1) := by decide +kernel
theorem dX4_digest_67 : decode cX4_digest 67 = .ok (.iinc 3 1, 3) := by decide +kernel
theorem dX4_digest_70 : decode cX4_digest 70 = .ok (.goto (-26), 3) := by decide +kernel
theorem dX4_digest_73 : decode cX4_digest 73 = .ok (.iconst 0, 1) := by decide +kernel
theorem dX4_digest_74 : decode cX4_digest 74 = .ok (.istore_n 3, 1) := by decide +kernel
theorem dX4_digest_75 : decode cX4_digest 75 = .ok (.iload_n 3, 1) := by decide +kernel
theorem dX4_digest_76 : decode cX4_digest 76 = .ok (.aload_n 0, 1) := by decide +kernel
theorem dX4_digest_77 : decode cX4_digest 77 = .ok (.getfield 10, 3) := by decide +kernel
theorem dX4_digest_80 : decode cX4_digest 80 = .ok (.getfield 213, 3) := by decide +kernel
theorem dX4_digest_83 : decode cX4_digest 83 = .ok (.if_icmp .ge 104, 3) := by decide +kernel
theorem dX4_digest_86 : decode cX4_digest 86 = .ok (.iconst 0, 1) := by decide +kernel
theorem dX4_digest_87 : decode cX4_digest 87 = .ok (.istore 4, 2) := by decide +kernel
theorem dX4_digest_89 : decode cX4_digest 89 = .ok (.iload 4, 2) := by decide +kernel
theorem dX4_digest_91 : decode cX4_digest 91 = .ok (.bipush 10, 2) := by decide +kernel
theorem dX4_digest_93 : decode cX4_digest 93 = .ok (.if_icmp .gt 25, 3) := by decide +kernel
theorem dX4_digest_96 : decode cX4_digest 96 = .ok (.lload_n 1, 1) := by decide +kernel
theorem dX4_digest_97 : decode cX4_digest 97 = .ok (.aload_n 0, 1) := by decide +kernel
theorem dX4_digest_98 : decode cX4_digest 98 = .ok (.getfield 10, 3) := by decide +kernel
theorem dX4_digest_101 : decode cX4_digest 101 = .ok (.iload_n 3, 1) := by decide +kernel
theorem dX4_digest_102 : decode cX4_digest 102 = .ok (.iload 4, 2) := by decide +kernel
theorem dX4_digest_104 : decode cX4_digest 104 = .ok (.invokevirtual 165, 3) := by decide +kernel
theorem dX4_digest_107 : decode cX4_digest 107 = .ok (.i2l, 1) := by decide +kernel
theorem dX4_digest_108 : decode cX4_digest 108 = .ok (.invokestatic 218, 3) := by decide +kernel
theorem dX4_digest_111 : decode cX4_digest 111 = .ok (.lstore_n 1, 1) := by decide +kernel
theorem dX4_digest_112 : decode cX4_digest 112 = .ok (.iinc 4 1, 3) := by decide +kernel
theorem dX4_digest_115 : decode cX4_digest 115 = .ok (.goto (-26), 3) := by decide +kernel
theorem dX4_digest_118 : decode cX4_digest 118 = .ok (.iconst 0, 1) := by decide +kernel
theorem dX4_digest_119 : decode cX4_digest 119 = .ok (.istore 4, 2) := by decide +kernel
theorem dX4_digest_121 : decode cX4_digest 121 = .ok (.iload 4, 2) := by decide +kernel
theorem dX4_digest_123 : decode cX4_digest 123 = .ok (.iconst 3, 1) := by decide +kernel
theorem dX4_digest_124 : decode cX4_digest 124 = .ok (.if_icmp .gt 29, 3) := by decide +kernel
theorem dX4_digest_127 : decode cX4_digest 127 = .ok (.lload_n 1, 1) := by decide +kernel
theorem dX4_digest_128 : decode cX4_digest 128 = .ok (.aload_n 0, 1) := by decide +kernel
theorem dX4_digest_129 : decode cX4_digest 129 = .ok (.getfield 10, 3) := by decide +kernel
theorem dX4_digest_132 : decode cX4_digest 132 = .ok (.iload_n 3, 1) := by decide +kernel
theorem dX4_digest_133 : decode cX4_digest 133 = .ok (.bipush 10, 2) := by decide +kernel
theorem dX4_digest_135 : decode cX4_digest 135 = .ok (.bipush 9, 2) := by decide +kernel
theorem dX4_digest_137 : decode cX4_digest 137 = .ok (.iload 4, 2) := by decide +kernel
theorem dX4_digest_139 : decode cX4_digest 139 = .ok (.invokevirtual 175, 3) := by decide +kernel
theorem dX4_digest_142 : decode cX4_digest 142 = .ok (.i2l, 1) := by decide +kernel
theorem dX4_digest_143 : decode cX4_digest 143 = .ok (.invokestatic 218, 3) := by decide +kernel
theorem dX4_digest_146 : decode cX4_digest 146 = .ok (.lstore_n 1, 1) := by decide +kernel
theorem dX4_digest_147 : decode cX4_digest 147 = .ok (.iinc 4 1, 3) := by decide +kernel
theorem dX4_digest_150 : decode cX4_digest 150 = .ok (.goto (-29), 3) := by decide +kernel
theorem dX4_digest_153 : decode cX4_digest 153 = .ok (.lload_n 1, 1) := by decide +kernel
theorem dX4_digest_154 : decode cX4_digest 154 = .ok (.aload_n 0, 1) := by decide +kernel
theorem dX4_digest_155 : decode cX4_digest 155 = .ok (.iload_n 3, 1) := by decide +kernel
theorem dX4_digest_156 : decode cX4_digest 156 = .ok (.bipush 50, 2) := by decide +kernel
theorem dX4_digest_158 : decode cX4_digest 158 = .ok (.iconst 0, 1) := by decide +kernel
theorem dX4_digest_159 : decode cX4_digest 159 = .ok (.invokevirtual 204, 3) := by decide +kernel
theorem dX4_digest_162 : decode cX4_digest 162 = .ok (.i2l, 1) := by decide +kernel
theorem dX4_digest_163 : decode cX4_digest 163 = .ok (.invokestatic 218, 3) := by decide +kernel
theorem dX4_digest_166 : decode cX4_digest 166 = .ok (.lstore_n 1, 1) := by decide +kernel
theorem dX4_digest_167 : decode cX4_digest 167 = .ok (.lload_n 1, 1) := by decide +kernel
theorem dX4_digest_168 : decode cX4_digest 168 = .ok (.aload_n 0, 1) := by decide +kernel
theorem dX4_digest_169 : decode cX4_digest 169 = .ok (.iload_n 3, 1) := by decide +kernel
theorem dX4_digest_170 : decode cX4_digest 170 = .ok (.bipush 50, 2) := by decide +kernel
theorem dX4_digest_172 : decode cX4_digest 172 = .ok (.iconst 1, 1) := by decide +kernel
theorem dX4_digest_173 : decode cX4_digest 173 = .ok (.invokevirtual 204, 3) := by decide +kernel
theorem dX4_digest_176 : decode cX4_digest 176 = .ok (.i2l, 1) := by decide +kernel
theorem dX4_digest_177 : decode cX4_digest 177 = .ok (.invokestatic 218, 3) := by decide +kernel
theorem dX4_digest_180 : decode cX4_digest 180 = .ok (.lstore_n 1, 1) := by decide +kernel
theorem dX4_digest_181 : decode cX4_digest 181 = .ok (.iinc 3 1, 3) := by decide +kernel
theorem dX4_digest_184 : decode cX4_digest 184 = .ok (.goto (-109), 3) := by decide +kernel
theorem dX4_digest_187 : decode cX4_digest 187 = .ok (.lload_n 1, 1) := by decide +kernel
theorem dX4_digest_188 : decode cX4_digest 188 = .ok (.aload_n 0, 1) := by decide +kernel
theorem dX4_digest_189 : decode cX4_digest 189 = .ok (.sipush 200, 3) := by decide +kernel
theorem dX4_digest_192 : decode cX4_digest 192 = .ok (.iconst 0, 1) := by decide +kernel
theorem dX4_digest_193 : decode cX4_digest 193 = .ok (.invokevirtual 186, 3) := by decide +kernel
theorem dX4_digest_196 : decode cX4_digest 196 = .ok (.i2l, 1) := by decide +kernel
theorem dX4_digest_197 : decode cX4_digest 197 = .ok (.invokestatic 218, 3) := by decide +kernel
theorem dX4_digest_200 : decode cX4_digest 200 = .ok (.lstore_n 1, 1) := by decide +kernel
theorem dX4_digest_201 : decode cX4_digest 201 = .ok (.lload_n 1, 1) := by decide +kernel
theorem dX4_digest_202 : decode cX4_digest 202 = .ok (.aload_n 0, 1) := by decide +kernel
theorem dX4_digest_203 : decode cX4_digest 203 = .ok (.sipush 200, 3) := by decide +kernel
theorem dX4_digest_206 : decode cX4_digest 206 = .ok (.iconst 1, 1) := by decide +kernel
theorem dX4_digest_207 : decode cX4_digest 207 = .ok (.invokevirtual 186, 3) := by decide +kernel
theorem dX4_digest_210 : decode cX4_digest 210 = .ok (.i2l, 1) := by decide +kernel
theorem dX4_digest_211 : decode cX4_digest 211 = .ok (.invokestatic 218, 3) := by decide +kernel
theorem dX4_digest_214 : decode cX4_digest 214 = .ok (.lstore_n 1, 1) := by decide +kernel
theorem dX4_digest_215 : decode cX4_digest 215 = .ok (.lload_n 1, 1) := by decide +kernel
theorem dX4_digest_216 : decode cX4_digest 216 = .ok (.aload_n 0, 1) := by decide +kernel
theorem dX4_digest_217 : decode cX4_digest 217 = .ok (.invokevirtual 222, 3) := by decide +kernel
theorem dX4_digest_220 : decode cX4_digest 220 = .ok (.i2l, 1) := by decide +kernel
theorem dX4_digest_221 : decode cX4_digest 221 = .ok (.invokestatic 218, 3) := by decide +kernel
theorem dX4_digest_224 : decode cX4_digest 224 = .ok (.lstore_n 1, 1) := by decide +kernel
theorem dX4_digest_225 : decode cX4_digest 225 = .ok (.lload_n 1, 1) := by decide +kernel
theorem dX4_digest_226 : decode cX4_digest 226 = .ok (.aload_n 0, 1) := by decide +kernel
theorem dX4_digest_227 : decode cX4_digest 227 = .ok (.invokevirtual 225, 3) := by decide +kernel
theorem dX4_digest_230 : decode cX4_digest 230 = .ok (.i2l, 1) := by decide +kernel
theorem dX4_digest_231 : decode cX4_digest 231 = .ok (.invokestatic 218, 3) := by decide +kernel
theorem dX4_digest_234 : decode cX4_digest 234 = .ok (.lstore_n 1, 1) := by decide +kernel
theorem dX4_digest_235 : decode cX4_digest 235 = .ok (.lload_n 1, 1) := by decide +kernel
theorem dX4_digest_236 : decode cX4_digest 236 = .ok (.aload_n 0, 1) := by decide +kernel
theorem dX4_digest_237 : decode cX4_digest 237 = .ok (.getfield 10, 3) := by decide +kernel
theorem dX4_digest_240 : decode cX4_digest 240 = .ok (.iconst 0, 1) := by decide +kernel
theorem dX4_digest_241 : decode cX4_digest 241 = .ok (.invokevirtual 210, 3) := by decide +kernel
theorem dX4_digest_244 : decode cX4_digest 244 = .ok (.i2l, 1) := by decide +kernel
theorem dX4_digest_245 : decode cX4_digest 245 = .ok (.invokestatic 218, 3) := by decide +kernel
theorem dX4_digest_248 : decode cX4_digest 248 = .ok (.lstore_n 1, 1) := by decide +kernel
theorem dX4_digest_249 : decode cX4_digest 249 = .ok (.lload_n 1, 1) := by decide +kernel
theorem dX4_digest_250 : decode cX4_digest 250 = .ok (.aload_n 0, 1) := by decide +kernel
theorem dX4_digest_251 : decode cX4_digest 251 = .ok (.getfield 10, 3) := by decide +kernel
theorem dX4_digest_254 : decode cX4_digest 254 = .ok (.iconst 1, 1) := by decide +kernel
theorem dX4_digest_255 : decode cX4_digest 255 = .ok (.invokevirtual 210, 3) := by decide +kernel
theorem dX4_digest_258 : decode cX4_digest 258 = .ok (.i2l, 1) := by decide +kernel
theorem dX4_digest_259 : decode cX4_digest 259 = .ok (.invokestatic 218, 3) := by decide +kernel
theorem dX4_digest_262 : decode cX4_digest 262 = .ok (.lstore_n 1, 1) := by decide +kernel
theorem dX4_digest_263 : decode cX4_digest 263 = .ok (.lload_n 1, 1) := by decide +kernel
theorem dX4_digest_264 : decode cX4_digest 264 = .ok (.aload_n 0, 1) := by decide +kernel
theorem dX4_digest_265 : decode cX4_digest 265 = .ok (.invokevirtual 228, 3) := by decide +kernel
theorem dX4_digest_268 : decode cX4_digest 268 = .ok (.invokestatic 232, 3) := by decide +kernel
theorem dX4_digest_271 : decode cX4_digest 271 = .ok (.invokestatic 218, 3) := by decide +kernel
theorem dX4_digest_274 : decode cX4_digest 274 = .ok (.lstore_n 1, 1) := by decide +kernel
theorem dX4_digest_275 : decode cX4_digest 275 = .ok (.lload_n 1, 1) := by decide +kernel
theorem dX4_digest_276 : decode cX4_digest 276 = .ok (.aload_n 0, 1) := by decide +kernel
theorem dX4_digest_277 : decode cX4_digest 277 = .ok (.getfield 37, 3) := by decide +kernel
theorem dX4_digest_280 : decode cX4_digest 280 = .ok (.i2l, 1) := by decide +kernel
theorem dX4_digest_281 : decode cX4_digest 281 = .ok (.invokestatic 218, 3) := by decide +kernel
theorem dX4_digest_284 : decode cX4_digest 284 = .ok (.lstore_n 1, 1) := by decide +kernel
theorem dX4_digest_285 : decode cX4_digest 285 = .ok (.iconst 0, 1) := by decide +kernel
theorem dX4_digest_286 : decode cX4_digest 286 = .ok (.istore_n 3, 1) := by decide +kernel
theorem dX4_digest_287 : decode cX4_digest 287 = .ok (.iload_n 3, 1) := by decide +kernel
theorem dX4_digest_288 : decode cX4_digest 288 = .ok (.aload_n 0, 1) := by decide +kernel
theorem dX4_digest_289 : decode cX4_digest 289 = .ok (.getfield 37, 3) := by decide +kernel
theorem dX4_digest_292 : decode cX4_digest 292 = .ok (.if_icmp .ge 30, 3) := by decide +kernel
theorem dX4_digest_295 : decode cX4_digest 295 = .ok (.iload_n 3, 1) := by decide +kernel
theorem dX4_digest_296 : decode cX4_digest 296 = .ok (.aload_n 0, 1) := by decide +kernel
theorem dX4_digest_297 : decode cX4_digest 297 = .ok (.getfield 33, 3) := by decide +kernel
theorem dX4_digest_300 : decode cX4_digest 300 = .ok (.arraylength, 1) := by decide +kernel
theorem dX4_digest_301 : decode cX4_digest 301 = .ok (.if_icmp .ge 21, 3) := by decide +kernel
theorem dX4_digest_304 : decode cX4_digest 304 = .ok (.lload_n 1, 1) := by decide +kernel
theorem dX4_digest_305 : decode cX4_digest 305 = .ok (.aload_n 0, 1) := by decide +kernel
theorem dX4_digest_306 : decode cX4_digest 306 = .ok (.getfield 33, 3) := by decide +kernel
theorem dX4_digest_309 : decode cX4_digest 309 = .ok (.iload_n 3, 1) := by decide +kernel
theorem dX4_digest_310 : decode cX4_digest 310 = .ok (.iaload, 1) := by decide +kernel
theorem dX4_digest_311 : decode cX4_digest 311 = .ok (.i2l, 1) := by decide +kernel
theorem dX4_digest_312 : decode cX4_digest 312 = .ok (.invokestatic 218, 3) := by decide +kernel
theorem dX4_digest_315 : decode cX4_digest 315 = .ok (.lstore_n 1, 1) := by decide +kernel
theorem dX4_digest_316 : decode cX4_digest 316 = .ok (.iinc 3 1, 3) := by decide +kernel
theorem dX4_digest_319 : decode cX4_digest 319 = .ok (.goto (-32), 3) := by decide +kernel
theorem dX4_digest_322 : decode cX4_digest 322 = .ok (.lload_n 1, 1) := by decide +kernel
theorem dX4_digest_323 : decode cX4_digest 323 = .ok (.lreturn, 1) := by decide +kernel
def q_X4_digest (S : zM) : Int64 → zM → Prop := fun r S1 => r = zL (tDig (S 0 0) (S 8 4) (S 8 1 1) (S 8 0 5)) ∧ ∃ σ' M' q', zPut S 1 σ' M' q' = S1
def r_X4_digest : Room := { frames := 6, cells := 0, slots := 0, locals := 142 }
set_option maxHeartbeats 4000000 in
set_option maxRecDepth 100000 in
theorem c_X4_digest (l : Launch) (G : zG) (hG : zok G) (S : zM) (hlen : 0 ≤ S 8 0 5 ∧ S 8 0 5 ≤ 60) (hbf : ∀ i : Int, 0 ≤ i → i < 60 → 0 ≤ S 8 4 i ∧ S 8 4 i ≤ 126) (hsz : 0 ≤ S 8 1 1 ∧ S 8 1 1 ≤ 6) (hok : zOk (S 0 0)) (hms : zMs S 0) (hw : zW (S 0 0))  : Met l yX4_digest (Cond.code yX4_digest cX4_digest 5 (some FieldType.long) :: zTbl) r_X4_digest (va_Pc [.ref (za G 8 0)] (zB G S)) (va_Ql (q_X4_digest S) (zB G) (zA G)) 0 0 (zA G) := by
  refine zMet [(0, .ref (za G 8 0))] hG (by decide) (Nat.le_of_ble_eq_true rfl) rfl (fun p e s m args below meth c ls h hx hb hr hH hl => ?_)
  have f4 := zW_4 hw
  have C287 : ∀ (fu : Nat) (i y : Int) (σ M q : Int → Int) (H : Heap) (locs : List Loc) (ls : Array Slot), (S 8 0 5 - i).toNat < fu → (0 ≤ i ∧ i ≤ S 8 0 5) → (y = zmx (S 8 4) (31 * dTl (S 0 0) (dZs (S 0 0) (dHd (S 0 0) (S 8 1 1)) (S 0 0 4).toNat) + S 8 0 5) i.toNat) → zH G (zPut S 1 σ M q) s H locs → lv_has ls 5 [(0, .ref (za G 8 0)), (1, .long (zL y)), (3, .int (zI i))] → W p l e r_X4_digest s m args below meth c H locs 0 0 (MQ below (va_Ql (q_X4_digest S) (zB G) (zA G)) args s 0 0 (zA G)) (F0 m 287 ls []) := by
    intro fu
    induction fu with
    | zero => intro i y σ M q H locs ls hfu; omega
    | succ fu ih287 =>
      intro i y σ M q H locs ls hfu hi hh hH hl
      refine lv_iload_n hx hb dX4_digest_287 rfl (lv_at hl 2 rfl) ?_
      refine lv_aload_n hx hb dX4_digest_288 rfl (lv_at hl 0 rfl) ?_
      refine zg_4_5 h hH zf_X4_37 dX4_digest_289 ?_
      rw [zP_n (by omega)]
      refine zb_cge (tgt := 322) h (by omega) (by omega) dX4_digest_292 (by decide) (fun c_292 => ?_) (fun c_292 => ?_)
      · refine lv_lload_n hx hb dX4_digest_322 rfl (lv_at hl 1 rfl) ?_
        refine zrl h hr hH ?_ dX4_digest_323
        obtain rfl : i = S 8 0 5 := by omega
        exact ⟨by rw [hh]; rfl, _, _, _, rfl⟩
      · refine lv_iload_n hx hb dX4_digest_295 rfl (lv_at hl 2 rfl) ?_
        refine lv_aload_n hx hb dX4_digest_296 rfl (lv_at hl 0 rfl) ?_
        refine zg_4_4 h hH zf_X4_33 dX4_digest_297 ?_
        refine zln_ar_bf h hH dX4_digest_300 ?_
        refine zb_cge (tgt := 322) h (by omega) (by omega) dX4_digest_301 (by decide) (fun c_301 => ?_) (fun c_301 => ?_)
        · exact absurd c_301 (by omega)
        · refine lv_lload_n hx hb dX4_digest_304 rfl (lv_at hl 1 rfl) ?_
          refine lv_aload_n hx hb dX4_digest_305 rfl (lv_at hl 0 rfl) ?_
          refine zg_4_4 h hH zf_X4_33 dX4_digest_306 ?_
          refine lv_iload_n hx hb dX4_digest_309 rfl (lv_at hl 2 rfl) ?_
          refine zld_ar_bf h hH (by omega) dX4_digest_310 ?_
          rw [zP_n (by omega)]
          have b_310 := hbf i (by omega) (by omega)
          refine zb_i2l h (by omega) dX4_digest_311 ?_
          refine zcSl h hH (As := [.long (zL y), .long (zL (S 8 4 i))]) (rest := []) (c_X4_mixed l G hG (zPut S 1 σ M q) y (S 8 4 i)) zce_X4_mixed zt_X4_mixed zm_X4_218 hl.1 rfl rfl ⟨rfl, rfl⟩ ⟨Nat.le_of_ble_eq_true rfl, Nat.le_of_ble_eq_true rfl⟩ (Nat.le_of_ble_eq_true rfl) ⟨Nat.zero_le _, Nat.zero_le _⟩ dX4_digest_312 (fun r_312 S_312 H locs hq hH => ?_)
          obtain ⟨rfl, rfl⟩ := hq
          refine lv_lstore_n (lv' := [(1, .long (zL (31 * y + (S 8 4 i)))), (0, .ref (za G 8 0)), (3, .int (zI i))]) hx hb dX4_digest_315 rfl hl (by decide) rfl (fun ls hl => ?_)
          refine lv_iinc (v := zI (i + 1)) (lv' := [(3, .int (zI (i + 1))), (1, .long (zL (31 * y + (S 8 4 i)))), (0, .ref (za G 8 0))]) hx hb dX4_digest_316 hl (k := 2) rfl (zI_add _ _) (by decide) rfl (fun ls hl => ?_)
          refine lv_goto (tgt := 287) hx hb dX4_digest_319 (by decide) ?_
          exact ih287 (i + 1) (31 * y + (S 8 4 i)) σ M q _ _ _ (by omega) (by omega) (by rw [zmx_s _ _ hi.1, hh]) hH (lv_sub hl [2, 1, 0] rfl)
  have C75 : ∀ (fu : Nat) (z y : Int) (σ M q : Int → Int) (H : Heap) (locs : List Loc) (ls : Array Slot), (S 0 0 4 - z).toNat < fu → (0 ≤ z ∧ z ≤ S 0 0 4) → (y = (dZs (S 0 0) (dHd (S 0 0) (S 8 1 1)) z.toNat)) → zH G (zPut S 1 σ M q) s H locs → lv_has ls 5 [(0, .ref (za G 8 0)), (1, .long (zL y)), (3, .int (zI z))] → W p l e r_X4_digest s m args below meth c H locs 0 0 (MQ below (va_Ql (q_X4_digest S) (zB G) (zA G)) args s 0 0 (zA G)) (F0 m 75 ls []) := by
    intro fu
    induction fu with
    | zero => intro z y σ M q H locs ls hfu; omega
    | succ fu ih75 =>
      intro z y σ M q H locs ls hfu hz hh hH hl
      have C121 : ∀ (fu : Nat) (i g : Int) (H : Heap) (locs : List Loc) (ls : Array Slot), (4 - i).toNat < fu → (z < S 0 0 4) → (0 ≤ i ∧ i ≤ 4) → (g = zmx (tStr (S 0 0) z 10 9) (zmx (tPr (S 0 0) z) y 11) i.toNat) → zH G (zPut S 1 σ M q) s H locs → lv_has ls 5 [(0, .ref (za G 8 0)), (1, .long (zL g)), (3, .int (zI z)), (4, .int (zI i))] → W p l e r_X4_digest s m args below meth c H locs 0 0 (MQ below (va_Ql (q_X4_digest S) (zB G) (zA G)) args s 0 0 (zA G)) (F0 m 121 ls []) := by
        intro fu
        induction fu with
        | zero => intro i g H locs ls hfu; omega
        | succ fu ih121 =>
          intro i g H locs ls hfu hzl hi hg hH hl
          refine lv_iload hx hb dX4_digest_121 (lv_at hl 3 rfl) ?_
          refine zb_ic h dX4_digest_123 ?_
          refine zb_cgt (tgt := 153) h (by omega) (by omega) dX4_digest_124 (by decide) (fun c_124 => ?_) (fun c_124 => ?_)
          · refine lv_lload_n hx hb dX4_digest_153 rfl (lv_at hl 1 rfl) ?_
            refine lv_aload_n hx hb dX4_digest_154 rfl (lv_at hl 0 rfl) ?_
            refine lv_iload_n hx hb dX4_digest_155 rfl (lv_at hl 2 rfl) ?_
            refine zb_bi h dX4_digest_156 (by decide) (by decide) ?_
            refine zb_ic h dX4_digest_158 ?_
            refine zcVi h hH (zr_4 h hH) (As := [.int (zI z), .int (zI 50), .int (zI 0)]) (rest := [.long (zL g)]) (c_X4_tryBurn l G hG (zPut S 1 σ M q) z 50 0 (by rw [zP_n (by omega)]; omega) (by omega) (by omega) (by rw [zP_n (by omega)]; exact hw)) zce_X4_tryBurn zcv_X4_tryBurn zm_X4_204 hl.1 rfl rfl ⟨rfl, rfl⟩ ⟨Nat.le_of_ble_eq_true rfl, Nat.le_of_ble_eq_true rfl⟩ (Nat.le_of_ble_eq_true rfl) ⟨Nat.zero_le _, Nat.zero_le _⟩ dX4_digest_159 (fun r_159 S_159 H locs hq hH => ?_)
            obtain ⟨rfl, σ_159, M_159, q_159, rfl⟩ := hq
            rw [zP_n (show (0 : Nat) ≠ 1 by omega)]
            simp only [zP_P] at hH
            have b_159 := tBu_in hw (z := z) (t := 50) (by omega) (by omega) 0
            refine zb_i2l h (by omega) dX4_digest_162 ?_
            refine zcSl h hH (As := [.long (zL g), .long (zL (tBu (S 0 0) z 50 0))]) (rest := []) (c_X4_mixed l G hG (zPut S 1 σ_159 M_159 q_159) g (tBu (S 0 0) z 50 0)) zce_X4_mixed zt_X4_mixed zm_X4_218 hl.1 rfl rfl ⟨rfl, rfl⟩ ⟨Nat.le_of_ble_eq_true rfl, Nat.le_of_ble_eq_true rfl⟩ (Nat.le_of_ble_eq_true rfl) ⟨Nat.zero_le _, Nat.zero_le _⟩ dX4_digest_163 (fun r_163 S_163 H locs hq hH => ?_)
            obtain ⟨rfl, rfl⟩ := hq
            refine lv_lstore_n (lv' := [(1, .long (zL (31 * g + (tBu (S 0 0) z 50 0)))), (0, .ref (za G 8 0)), (3, .int (zI z)), (4, .int (zI i))]) hx hb dX4_digest_166 rfl hl (by decide) rfl (fun ls hl => ?_)
            refine lv_lload_n hx hb dX4_digest_167 rfl (lv_at hl 0 rfl) ?_
            refine lv_aload_n hx hb dX4_digest_168 rfl (lv_at hl 1 rfl) ?_
            refine lv_iload_n hx hb dX4_digest_169 rfl (lv_at hl 2 rfl) ?_
            refine zb_bi h dX4_digest_170 (by decide) (by decide) ?_
            refine zb_ic h dX4_digest_172 ?_
            refine zcVi h hH (zr_4 h hH) (As := [.int (zI z), .int (zI 50), .int (zI 1)]) (rest := [.long (zL (31 * g + (tBu (S 0 0) z 50 0)))]) (c_X4_tryBurn l G hG (zPut S 1 σ_159 M_159 q_159) z 50 1 (by rw [zP_n (by omega)]; omega) (by omega) (by omega) (by rw [zP_n (by omega)]; exact hw)) zce_X4_tryBurn zcv_X4_tryBurn zm_X4_204 hl.1 rfl rfl ⟨rfl, rfl⟩ ⟨Nat.le_of_ble_eq_true rfl, Nat.le_of_ble_eq_true rfl⟩ (Nat.le_of_ble_eq_true rfl) ⟨Nat.zero_le _, Nat.zero_le _⟩ dX4_digest_173 (fun r_173 S_173 H locs hq hH => ?_)
            obtain ⟨rfl, σ_173, M_173, q_173, rfl⟩ := hq
            rw [zP_n (show (0 : Nat) ≠ 1 by omega)]
            simp only [zP_P] at hH
            have b_173 := tBu_in hw (z := z) (t := 50) (by omega) (by omega) 1
            refine zb_i2l h (by omega) dX4_digest_176 ?_
            refine zcSl h hH (As := [.long (zL (31 * g + (tBu (S 0 0) z 50 0))), .long (zL (tBu (S 0 0) z 50 1))]) (rest := []) (c_X4_mixed l G hG (zPut S 1 σ_173 M_173 q_173) (31 * g + (tBu (S 0 0) z 50 0)) (tBu (S 0 0) z 50 1)) zce_X4_mixed zt_X4_mixed zm_X4_218 hl.1 rfl rfl ⟨rfl, rfl⟩ ⟨Nat.le_of_ble_eq_true rfl, Nat.le_of_ble_eq_true rfl⟩ (Nat.le_of_ble_eq_true rfl) ⟨Nat.zero_le _, Nat.zero_le _⟩ dX4_digest_177 (fun r_177 S_177 H locs hq hH => ?_)
            obtain ⟨rfl, rfl⟩ := hq
            have e_180 : 31 * (31 * g + tBu (S 0 0) z 50 0) + tBu (S 0 0) z 50 1 = dZ (S 0 0) z y := by rw [hg, show i = 4 by omega]; rfl
            refine zb_topl e_180 ?_
            refine lv_lstore_n (lv' := [(1, .long (zL (dZ (S 0 0) z y))), (0, .ref (za G 8 0)), (3, .int (zI z)), (4, .int (zI i))]) hx hb dX4_digest_180 rfl hl (by decide) rfl (fun ls hl => ?_)
            refine lv_iinc (v := zI (z + 1)) (lv' := [(3, .int (zI (z + 1))), (1, .long (zL (dZ (S 0 0) z y))), (0, .ref (za G 8 0)), (4, .int (zI i))]) hx hb dX4_digest_181 hl (k := 2) rfl (zI_add _ _) (by decide) rfl (fun ls hl => ?_)
            refine lv_goto (tgt := 75) hx hb dX4_digest_184 (by decide) ?_
            exact ih75 (z + 1) (dZ (S 0 0) z y) σ_173 M_173 q_173 _ _ _ (by omega) (by omega) (by rw [dZs_s _ _ hz.1, hh]) hH (lv_sub hl [2, 1, 0] rfl)
          · refine lv_lload_n hx hb dX4_digest_127 rfl (lv_at hl 1 rfl) ?_
            refine lv_aload_n hx hb dX4_digest_128 rfl (lv_at hl 0 rfl) ?_
            refine zg_4_0 h hH zf_X4_10 dX4_digest_129 ?_
            refine lv_iload_n hx hb dX4_digest_132 rfl (lv_at hl 2 rfl) ?_
            refine zb_bi h dX4_digest_133 (by decide) (by decide) ?_
            refine zb_bi h dX4_digest_135 (by decide) (by decide) ?_
            refine lv_iload hx hb dX4_digest_137 (lv_at hl 3 rfl) ?_
            refine zcVi h hH (zr_3 h hH (by omega)) (As := [.int (zI z), .int (zI 10), .int (zI 9), .int (zI i)]) (rest := [.long (zL g)]) (c_X3_readStrip l G hG 0 (by omega) (zPut S 1 σ M q) z 10 9 i (by rw [zP_n (by omega)]; omega) (by omega) (by omega) (by omega) (zMs_n hms) (by rw [zP_n (by omega)]; exact hw)) zce_X3_readStrip zcv_X3_readStrip zm_X4_175 hl.1 rfl rfl ⟨rfl, rfl⟩ ⟨Nat.le_of_ble_eq_true rfl, Nat.le_of_ble_eq_true rfl⟩ (Nat.le_of_ble_eq_true rfl) ⟨Nat.zero_le _, Nat.zero_le _⟩ dX4_digest_139 (fun r_139 S_139 H locs hq hH => ?_)
            obtain ⟨rfl, rfl⟩ := hq
            rw [zP_n (show (0 : Nat) ≠ 1 by omega)]
            have b_139 := tStr_in (S 0 0) (z := z) (f := 10) (n := 9) (w := i) (by omega) (by omega)
            refine zb_i2l h (by omega) dX4_digest_142 ?_
            refine zcSl h hH (As := [.long (zL g), .long (zL (tStr (S 0 0) z 10 9 i))]) (rest := []) (c_X4_mixed l G hG (zPut S 1 σ M q) g (tStr (S 0 0) z 10 9 i)) zce_X4_mixed zt_X4_mixed zm_X4_218 hl.1 rfl rfl ⟨rfl, rfl⟩ ⟨Nat.le_of_ble_eq_true rfl, Nat.le_of_ble_eq_true rfl⟩ (Nat.le_of_ble_eq_true rfl) ⟨Nat.zero_le _, Nat.zero_le _⟩ dX4_digest_143 (fun r_143 S_143 H locs hq hH => ?_)
            obtain ⟨rfl, rfl⟩ := hq
            refine lv_lstore_n (lv' := [(1, .long (zL (31 * g + (tStr (S 0 0) z 10 9 i)))), (0, .ref (za G 8 0)), (3, .int (zI z)), (4, .int (zI i))]) hx hb dX4_digest_146 rfl hl (by decide) rfl (fun ls hl => ?_)
            refine lv_iinc (v := zI (i + 1)) (lv' := [(4, .int (zI (i + 1))), (1, .long (zL (31 * g + (tStr (S 0 0) z 10 9 i)))), (0, .ref (za G 8 0)), (3, .int (zI z))]) hx hb dX4_digest_147 hl (k := 3) rfl (zI_add _ _) (by decide) rfl (fun ls hl => ?_)
            refine lv_goto (tgt := 121) hx hb dX4_digest_150 (by decide) ?_
            exact ih121 (i + 1) (31 * g + (tStr (S 0 0) z 10 9 i)) _ _ _ (by omega) (by omega) (by omega) (by rw [zmx_s _ _ hi.1, hg]) hH (lv_sub hl [2, 1, 3, 0] rfl)
      have C89 : ∀ (fu : Nat) (i g : Int) (H : Heap) (locs : List Loc) (ls : Array Slot), (11 - i).toNat < fu → (z < S 0 0 4) → (0 ≤ i ∧ i ≤ 11) → (g = zmx (tPr (S 0 0) z) y i.toNat) → zH G (zPut S 1 σ M q) s H locs → lv_has ls 5 [(0, .ref (za G 8 0)), (1, .long (zL g)), (3, .int (zI z)), (4, .int (zI i))] → W p l e r_X4_digest s m args below meth c H locs 0 0 (MQ below (va_Ql (q_X4_digest S) (zB G) (zA G)) args s 0 0 (zA G)) (F0 m 89 ls []) := by
        intro fu
        induction fu with
        | zero => intro i g H locs ls hfu; omega
        | succ fu ih89 =>
          intro i g H locs ls hfu hzl hi hg hH hl
          refine lv_iload hx hb dX4_digest_89 (lv_at hl 3 rfl) ?_
          refine zb_bi h dX4_digest_91 (by decide) (by decide) ?_
          refine zb_cgt (tgt := 118) h (by omega) (by omega) dX4_digest_93 (by decide) (fun c_93 => ?_) (fun c_93 => ?_)
          · refine zb_ic h dX4_digest_118 ?_
            refine lv_istore (lv' := [(4, .int (zI 0)), (0, .ref (za G 8 0)), (1, .long (zL g)), (3, .int (zI z))]) hx hb dX4_digest_119 hl (by decide) rfl (fun ls hl => ?_)
            exact C121 ((4 - 0 : Int).toNat + 1) 0 g _ _ _ (by omega) (by omega) (by omega) (by rw [hg, show i = 11 by omega]; rfl) hH (lv_sub hl [1, 2, 3, 0] rfl)
          · refine lv_lload_n hx hb dX4_digest_96 rfl (lv_at hl 1 rfl) ?_
            refine lv_aload_n hx hb dX4_digest_97 rfl (lv_at hl 0 rfl) ?_
            refine zg_4_0 h hH zf_X4_10 dX4_digest_98 ?_
            refine lv_iload_n hx hb dX4_digest_101 rfl (lv_at hl 2 rfl) ?_
            refine lv_iload hx hb dX4_digest_102 (lv_at hl 3 rfl) ?_
            refine zcVi h hH (zr_3 h hH (by omega)) (As := [.int (zI z), .int (zI i)]) (rest := [.long (zL g)]) (c_X3_property l G hG 0 (by omega) (zPut S 1 σ M q) z i (by rw [zP_n (by omega)]; omega) (by omega) (zMs_n hms) (by rw [zP_n (by omega)]; exact hw)) zce_X3_property zcv_X3_property zm_X4_165 hl.1 rfl rfl ⟨rfl, rfl⟩ ⟨Nat.le_of_ble_eq_true rfl, Nat.le_of_ble_eq_true rfl⟩ (Nat.le_of_ble_eq_true rfl) ⟨Nat.zero_le _, Nat.zero_le _⟩ dX4_digest_104 (fun r_104 S_104 H locs hq hH => ?_)
            obtain ⟨rfl, rfl⟩ := hq
            rw [zP_n (show (0 : Nat) ≠ 1 by omega)]
            have b_104 := tPr_in hw (show 0 ≤ z ∧ z < 8 by omega) i
            refine zb_i2l h (by omega) dX4_digest_107 ?_
            refine zcSl h hH (As := [.long (zL g), .long (zL (tPr (S 0 0) z i))]) (rest := []) (c_X4_mixed l G hG (zPut S 1 σ M q) g (tPr (S 0 0) z i)) zce_X4_mixed zt_X4_mixed zm_X4_218 hl.1 rfl rfl ⟨rfl, rfl⟩ ⟨Nat.le_of_ble_eq_true rfl, Nat.le_of_ble_eq_true rfl⟩ (Nat.le_of_ble_eq_true rfl) ⟨Nat.zero_le _, Nat.zero_le _⟩ dX4_digest_108 (fun r_108 S_108 H locs hq hH => ?_)
            obtain ⟨rfl, rfl⟩ := hq
            refine lv_lstore_n (lv' := [(1, .long (zL (31 * g + (tPr (S 0 0) z i)))), (0, .ref (za G 8 0)), (3, .int (zI z)), (4, .int (zI i))]) hx hb dX4_digest_111 rfl hl (by decide) rfl (fun ls hl => ?_)
            refine lv_iinc (v := zI (i + 1)) (lv' := [(4, .int (zI (i + 1))), (1, .long (zL (31 * g + (tPr (S 0 0) z i)))), (0, .ref (za G 8 0)), (3, .int (zI z))]) hx hb dX4_digest_112 hl (k := 3) rfl (zI_add _ _) (by decide) rfl (fun ls hl => ?_)
            refine lv_goto (tgt := 89) hx hb dX4_digest_115 (by decide) ?_
            exact ih89 (i + 1) (31 * g + (tPr (S 0 0) z i)) _ _ _ (by omega) (by omega) (by omega) (by rw [zmx_s _ _ hi.1, hg]) hH (lv_sub hl [2, 1, 3, 0] rfl)
      refine lv_iload_n hx hb dX4_digest_75 rfl (lv_at hl 2 rfl) ?_
      refine lv_aload_n hx hb dX4_digest_76 rfl (lv_at hl 0 rfl) ?_
      refine zg_4_0 h hH zf_X4_10 dX4_digest_77 ?_
      refine zgn_3_7 h hH (by omega) zfn_X4_213 dX4_digest_80 ?_
      rw [zP_n (by omega)]
      have f_80 := zW_4 hw
      refine zb_cge (tgt := 187) h (by omega) (by omega) dX4_digest_83 (by decide) (fun c_83 => ?_) (fun c_83 => ?_)
      · refine lv_lload_n hx hb dX4_digest_187 rfl (lv_at hl 1 rfl) ?_
        refine lv_aload_n hx hb dX4_digest_188 rfl (lv_at hl 0 rfl) ?_
        refine zb_si h dX4_digest_189 (by decide) (by decide) ?_
        refine zb_ic h dX4_digest_192 ?_
        refine zcVi h hH (zr_4 h hH) (As := [.int (zI 200), .int (zI 0)]) (rest := [.long (zL y)]) (c_X4_tryTime l G hG (zPut S 1 σ M q) 200 0 (by omega) (by omega) (by rw [zP_n (by omega)]; exact hw)) zce_X4_tryTime zcv_X4_tryTime zm_X4_186 hl.1 rfl rfl ⟨rfl, rfl⟩ ⟨Nat.le_of_ble_eq_true rfl, Nat.le_of_ble_eq_true rfl⟩ (Nat.le_of_ble_eq_true rfl) ⟨Nat.zero_le _, Nat.zero_le _⟩ dX4_digest_193 (fun r_193 S_193 H locs hq hH => ?_)
        obtain ⟨rfl, σ_193, M_193, q_193, rfl⟩ := hq
        rw [zP_n (show (0 : Nat) ≠ 1 by omega)]
        simp only [zP_P] at hH
        have b_193 := tEx_in hw (t := 200) (by omega) 0
        refine zb_i2l h (by omega) dX4_digest_196 ?_
        refine zcSl h hH (As := [.long (zL y), .long (zL (tEx (S 0 0) 200 0))]) (rest := []) (c_X4_mixed l G hG (zPut S 1 σ_193 M_193 q_193) y (tEx (S 0 0) 200 0)) zce_X4_mixed zt_X4_mixed zm_X4_218 hl.1 rfl rfl ⟨rfl, rfl⟩ ⟨Nat.le_of_ble_eq_true rfl, Nat.le_of_ble_eq_true rfl⟩ (Nat.le_of_ble_eq_true rfl) ⟨Nat.zero_le _, Nat.zero_le _⟩ dX4_digest_197 (fun r_197 S_197 H locs hq hH => ?_)
        obtain ⟨rfl, rfl⟩ := hq
        refine lv_lstore_n (lv' := [(1, .long (zL (31 * y + (tEx (S 0 0) 200 0)))), (0, .ref (za G 8 0)), (3, .int (zI z))]) hx hb dX4_digest_200 rfl hl (by decide) rfl (fun ls hl => ?_)
        refine lv_lload_n hx hb dX4_digest_201 rfl (lv_at hl 0 rfl) ?_
        refine lv_aload_n hx hb dX4_digest_202 rfl (lv_at hl 1 rfl) ?_
        refine zb_si h dX4_digest_203 (by decide) (by decide) ?_
        refine zb_ic h dX4_digest_206 ?_
        refine zcVi h hH (zr_4 h hH) (As := [.int (zI 200), .int (zI 1)]) (rest := [.long (zL (31 * y + (tEx (S 0 0) 200 0)))]) (c_X4_tryTime l G hG (zPut S 1 σ_193 M_193 q_193) 200 1 (by omega) (by omega) (by rw [zP_n (by omega)]; exact hw)) zce_X4_tryTime zcv_X4_tryTime zm_X4_186 hl.1 rfl rfl ⟨rfl, rfl⟩ ⟨Nat.le_of_ble_eq_true rfl, Nat.le_of_ble_eq_true rfl⟩ (Nat.le_of_ble_eq_true rfl) ⟨Nat.zero_le _, Nat.zero_le _⟩ dX4_digest_207 (fun r_207 S_207 H locs hq hH => ?_)
        obtain ⟨rfl, σ_207, M_207, q_207, rfl⟩ := hq
        rw [zP_n (show (0 : Nat) ≠ 1 by omega)]
        simp only [zP_P] at hH
        have b_207 := tEx_in hw (t := 200) (by omega) 1
        refine zb_i2l h (by omega) dX4_digest_210 ?_
        refine zcSl h hH (As := [.long (zL (31 * y + (tEx (S 0 0) 200 0))), .long (zL (tEx (S 0 0) 200 1))]) (rest := []) (c_X4_mixed l G hG (zPut S 1 σ_207 M_207 q_207) (31 * y + (tEx (S 0 0) 200 0)) (tEx (S 0 0) 200 1)) zce_X4_mixed zt_X4_mixed zm_X4_218 hl.1 rfl rfl ⟨rfl, rfl⟩ ⟨Nat.le_of_ble_eq_true rfl, Nat.le_of_ble_eq_true rfl⟩ (Nat.le_of_ble_eq_true rfl) ⟨Nat.zero_le _, Nat.zero_le _⟩ dX4_digest_211 (fun r_211 S_211 H locs hq hH => ?_)
        obtain ⟨rfl, rfl⟩ := hq
        refine lv_lstore_n (lv' := [(1, .long (zL (31 * (31 * y + (tEx (S 0 0) 200 0)) + (tEx (S 0 0) 200 1)))), (0, .ref (za G 8 0)), (3, .int (zI z))]) hx hb dX4_digest_214 rfl hl (by decide) rfl (fun ls hl => ?_)
        refine lv_lload_n hx hb dX4_digest_215 rfl (lv_at hl 0 rfl) ?_
        refine lv_aload_n hx hb dX4_digest_216 rfl (lv_at hl 1 rfl) ?_
        refine zcVi h hH (zr_4 h hH) (As := []) (rest := [.long (zL (31 * (31 * y + (tEx (S 0 0) 200 0)) + (tEx (S 0 0) 200 1)))]) (c_X4_bestTime l G hG (zPut S 1 σ_207 M_207 q_207) (by rw [zP_n (by omega)]; exact hw)) zce_X4_bestTime zcv_X4_bestTime zm_X4_222 hl.1 rfl rfl ⟨rfl, rfl⟩ ⟨Nat.le_of_ble_eq_true rfl, Nat.le_of_ble_eq_true rfl⟩ (Nat.le_of_ble_eq_true rfl) ⟨Nat.zero_le _, Nat.zero_le _⟩ dX4_digest_217 (fun r_217 S_217 H locs hq hH => ?_)
        obtain ⟨rfl, σ_217, M_217, q_217, rfl⟩ := hq
        rw [zP_n (show (0 : Nat) ≠ 1 by omega)]
        simp only [zP_P] at hH
        have b_217 := tBt_in (S 0 0)
        refine zb_i2l h (by omega) dX4_digest_220 ?_
        refine zcSl h hH (As := [.long (zL (31 * (31 * y + (tEx (S 0 0) 200 0)) + (tEx (S 0 0) 200 1))), .long (zL (tBt (S 0 0)))]) (rest := []) (c_X4_mixed l G hG (zPut S 1 σ_217 M_217 q_217) (31 * (31 * y + (tEx (S 0 0) 200 0)) + (tEx (S 0 0) 200 1)) (tBt (S 0 0))) zce_X4_mixed zt_X4_mixed zm_X4_218 hl.1 rfl rfl ⟨rfl, rfl⟩ ⟨Nat.le_of_ble_eq_true rfl, Nat.le_of_ble_eq_true rfl⟩ (Nat.le_of_ble_eq_true rfl) ⟨Nat.zero_le _, Nat.zero_le _⟩ dX4_digest_221 (fun r_221 S_221 H locs hq hH => ?_)
        obtain ⟨rfl, rfl⟩ := hq
        refine lv_lstore_n (lv' := [(1, .long (zL (31 * (31 * (31 * y + (tEx (S 0 0) 200 0)) + (tEx (S 0 0) 200 1)) + (tBt (S 0 0))))), (0, .ref (za G 8 0)), (3, .int (zI z))]) hx hb dX4_digest_224 rfl hl (by decide) rfl (fun ls hl => ?_)
        refine lv_lload_n hx hb dX4_digest_225 rfl (lv_at hl 0 rfl) ?_
        refine lv_aload_n hx hb dX4_digest_226 rfl (lv_at hl 1 rfl) ?_
        refine zcVi h hH (zr_4 h hH) (As := []) (rest := [.long (zL (31 * (31 * (31 * y + (tEx (S 0 0) 200 0)) + (tEx (S 0 0) 200 1)) + (tBt (S 0 0))))]) (c_X4_bestGrade l G hG (zPut S 1 σ_217 M_217 q_217) (by rw [zP_n (by omega)]; exact hw)) zce_X4_bestGrade zcv_X4_bestGrade zm_X4_225 hl.1 rfl rfl ⟨rfl, rfl⟩ ⟨Nat.le_of_ble_eq_true rfl, Nat.le_of_ble_eq_true rfl⟩ (Nat.le_of_ble_eq_true rfl) ⟨Nat.zero_le _, Nat.zero_le _⟩ dX4_digest_227 (fun r_227 S_227 H locs hq hH => ?_)
        obtain ⟨rfl, σ_227, M_227, q_227, rfl⟩ := hq
        rw [zP_n (show (0 : Nat) ≠ 1 by omega)]
        simp only [zP_P] at hH
        have b_227 := tBgr_in hw
        refine zb_i2l h (by omega) dX4_digest_230 ?_
        refine zcSl h hH (As := [.long (zL (31 * (31 * (31 * y + (tEx (S 0 0) 200 0)) + (tEx (S 0 0) 200 1)) + (tBt (S 0 0)))), .long (zL (tBgr (S 0 0)))]) (rest := []) (c_X4_mixed l G hG (zPut S 1 σ_227 M_227 q_227) (31 * (31 * (31 * y + (tEx (S 0 0) 200 0)) + (tEx (S 0 0) 200 1)) + (tBt (S 0 0))) (tBgr (S 0 0))) zce_X4_mixed zt_X4_mixed zm_X4_218 hl.1 rfl rfl ⟨rfl, rfl⟩ ⟨Nat.le_of_ble_eq_true rfl, Nat.le_of_ble_eq_true rfl⟩ (Nat.le_of_ble_eq_true rfl) ⟨Nat.zero_le _, Nat.zero_le _⟩ dX4_digest_231 (fun r_231 S_231 H locs hq hH => ?_)
        obtain ⟨rfl, rfl⟩ := hq
        refine lv_lstore_n (lv' := [(1, .long (zL (31 * (31 * (31 * (31 * y + (tEx (S 0 0) 200 0)) + (tEx (S 0 0) 200 1)) + (tBt (S 0 0))) + (tBgr (S 0 0))))), (0, .ref (za G 8 0)), (3, .int (zI z))]) hx hb dX4_digest_234 rfl hl (by decide) rfl (fun ls hl => ?_)
        refine lv_lload_n hx hb dX4_digest_235 rfl (lv_at hl 0 rfl) ?_
        refine lv_aload_n hx hb dX4_digest_236 rfl (lv_at hl 1 rfl) ?_
        refine zg_4_0 h hH zf_X4_10 dX4_digest_237 ?_
        refine zb_ic h dX4_digest_240 ?_
        refine zcVi h hH (zr_3 h hH (by omega)) (As := [.int (zI 0)]) (rest := [.long (zL (31 * (31 * (31 * (31 * y + (tEx (S 0 0) 200 0)) + (tEx (S 0 0) 200 1)) + (tBt (S 0 0))) + (tBgr (S 0 0))))]) (c_X3_commonNeed l G hG 0 (by omega) (zPut S 1 σ_227 M_227 q_227) 0 (by omega) (zMs_n hms) (by rw [zP_n (by omega)]; exact hw)) zce_X3_commonNeed zcv_X3_commonNeed zm_X4_210 hl.1 rfl rfl ⟨rfl, rfl⟩ ⟨Nat.le_of_ble_eq_true rfl, Nat.le_of_ble_eq_true rfl⟩ (Nat.le_of_ble_eq_true rfl) ⟨Nat.zero_le _, Nat.zero_le _⟩ dX4_digest_241 (fun r_241 S_241 H locs hq hH => ?_)
        obtain ⟨rfl, rfl⟩ := hq
        rw [zP_n (show (0 : Nat) ≠ 1 by omega)]
        have b_241 := tCo_in hw 0
        refine zb_i2l h (by omega) dX4_digest_244 ?_
        refine zcSl h hH (As := [.long (zL (31 * (31 * (31 * (31 * y + (tEx (S 0 0) 200 0)) + (tEx (S 0 0) 200 1)) + (tBt (S 0 0))) + (tBgr (S 0 0)))), .long (zL (tCo (S 0 0) 0))]) (rest := []) (c_X4_mixed l G hG (zPut S 1 σ_227 M_227 q_227) (31 * (31 * (31 * (31 * y + (tEx (S 0 0) 200 0)) + (tEx (S 0 0) 200 1)) + (tBt (S 0 0))) + (tBgr (S 0 0))) (tCo (S 0 0) 0)) zce_X4_mixed zt_X4_mixed zm_X4_218 hl.1 rfl rfl ⟨rfl, rfl⟩ ⟨Nat.le_of_ble_eq_true rfl, Nat.le_of_ble_eq_true rfl⟩ (Nat.le_of_ble_eq_true rfl) ⟨Nat.zero_le _, Nat.zero_le _⟩ dX4_digest_245 (fun r_245 S_245 H locs hq hH => ?_)
        obtain ⟨rfl, rfl⟩ := hq
        refine lv_lstore_n (lv' := [(1, .long (zL (31 * (31 * (31 * (31 * (31 * y + (tEx (S 0 0) 200 0)) + (tEx (S 0 0) 200 1)) + (tBt (S 0 0))) + (tBgr (S 0 0))) + (tCo (S 0 0) 0)))), (0, .ref (za G 8 0)), (3, .int (zI z))]) hx hb dX4_digest_248 rfl hl (by decide) rfl (fun ls hl => ?_)
        refine lv_lload_n hx hb dX4_digest_249 rfl (lv_at hl 0 rfl) ?_
        refine lv_aload_n hx hb dX4_digest_250 rfl (lv_at hl 1 rfl) ?_
        refine zg_4_0 h hH zf_X4_10 dX4_digest_251 ?_
        refine zb_ic h dX4_digest_254 ?_
        refine zcVi h hH (zr_3 h hH (by omega)) (As := [.int (zI 1)]) (rest := [.long (zL (31 * (31 * (31 * (31 * (31 * y + (tEx (S 0 0) 200 0)) + (tEx (S 0 0) 200 1)) + (tBt (S 0 0))) + (tBgr (S 0 0))) + (tCo (S 0 0) 0)))]) (c_X3_commonNeed l G hG 0 (by omega) (zPut S 1 σ_227 M_227 q_227) 1 (by omega) (zMs_n hms) (by rw [zP_n (by omega)]; exact hw)) zce_X3_commonNeed zcv_X3_commonNeed zm_X4_210 hl.1 rfl rfl ⟨rfl, rfl⟩ ⟨Nat.le_of_ble_eq_true rfl, Nat.le_of_ble_eq_true rfl⟩ (Nat.le_of_ble_eq_true rfl) ⟨Nat.zero_le _, Nat.zero_le _⟩ dX4_digest_255 (fun r_255 S_255 H locs hq hH => ?_)
        obtain ⟨rfl, rfl⟩ := hq
        rw [zP_n (show (0 : Nat) ≠ 1 by omega)]
        have b_255 := tCo_in hw 1
        refine zb_i2l h (by omega) dX4_digest_258 ?_
        refine zcSl h hH (As := [.long (zL (31 * (31 * (31 * (31 * (31 * y + (tEx (S 0 0) 200 0)) + (tEx (S 0 0) 200 1)) + (tBt (S 0 0))) + (tBgr (S 0 0))) + (tCo (S 0 0) 0))), .long (zL (tCo (S 0 0) 1))]) (rest := []) (c_X4_mixed l G hG (zPut S 1 σ_227 M_227 q_227) (31 * (31 * (31 * (31 * (31 * y + (tEx (S 0 0) 200 0)) + (tEx (S 0 0) 200 1)) + (tBt (S 0 0))) + (tBgr (S 0 0))) + (tCo (S 0 0) 0)) (tCo (S 0 0) 1)) zce_X4_mixed zt_X4_mixed zm_X4_218 hl.1 rfl rfl ⟨rfl, rfl⟩ ⟨Nat.le_of_ble_eq_true rfl, Nat.le_of_ble_eq_true rfl⟩ (Nat.le_of_ble_eq_true rfl) ⟨Nat.zero_le _, Nat.zero_le _⟩ dX4_digest_259 (fun r_259 S_259 H locs hq hH => ?_)
        obtain ⟨rfl, rfl⟩ := hq
        refine lv_lstore_n (lv' := [(1, .long (zL (31 * (31 * (31 * (31 * (31 * (31 * y + (tEx (S 0 0) 200 0)) + (tEx (S 0 0) 200 1)) + (tBt (S 0 0))) + (tBgr (S 0 0))) + (tCo (S 0 0) 0)) + (tCo (S 0 0) 1)))), (0, .ref (za G 8 0)), (3, .int (zI z))]) hx hb dX4_digest_262 rfl hl (by decide) rfl (fun ls hl => ?_)
        refine lv_lload_n hx hb dX4_digest_263 rfl (lv_at hl 0 rfl) ?_
        refine lv_aload_n hx hb dX4_digest_264 rfl (lv_at hl 1 rfl) ?_
        refine zcVd h hH (zr_4 h hH) (As := []) (rest := [.long (zL (31 * (31 * (31 * (31 * (31 * (31 * y + (tEx (S 0 0) 200 0)) + (tEx (S 0 0) 200 1)) + (tBt (S 0 0))) + (tBgr (S 0 0))) + (tCo (S 0 0) 0)) + (tCo (S 0 0) 1)))]) (c_X4_rightShare l G hG (zPut S 1 σ_227 M_227 q_227) (zMs_n hms) (by rw [zP_n (by omega)]; exact hw)) zce_X4_rightShare zcv_X4_rightShare zm_X4_228 hl.1 rfl rfl ⟨rfl, rfl⟩ ⟨Nat.le_of_ble_eq_true rfl, Nat.le_of_ble_eq_true rfl⟩ (Nat.le_of_ble_eq_true rfl) ⟨Nat.zero_le _, Nat.zero_le _⟩ dX4_digest_265 (fun r_265 S_265 H locs hq hH => ?_)
        obtain ⟨rfl, rfl⟩ := hq
        rw [zP_n (show (0 : Nat) ≠ 1 by omega)]
        have bC := tCnt_in hw 0
        have bC2 := tCnt_le hw
        refine zcSl h hH (As := [.double (zShv (tCnt (S 0 0) 0) (S 0 0 4))]) (rest := [.long (zL (31 * (31 * (31 * (31 * (31 * (31 * y + (tEx (S 0 0) 200 0)) + (tEx (S 0 0) 200 1)) + (tBt (S 0 0))) + (tBgr (S 0 0))) + (tCo (S 0 0) 0)) + (tCo (S 0 0) 1)))]) (c_X4_bitsOf l G hG (zPut S 1 σ_227 M_227 q_227) (tCnt (S 0 0) 0) (S 0 0 4) (by omega) (by omega)) zce_X4_bitsOf zt_X4_bitsOf zm_X4_232 hl.1 rfl rfl ⟨rfl, rfl⟩ ⟨Nat.le_of_ble_eq_true rfl, Nat.le_of_ble_eq_true rfl⟩ (Nat.le_of_ble_eq_true rfl) ⟨Nat.zero_le _, Nat.zero_le _⟩ dX4_digest_268 (fun r_268 S_268 H locs hq hH => ?_)
        obtain ⟨rfl, rfl⟩ := hq
        refine zcSl h hH (As := [.long (zL (31 * (31 * (31 * (31 * (31 * (31 * y + (tEx (S 0 0) 200 0)) + (tEx (S 0 0) 200 1)) + (tBt (S 0 0))) + (tBgr (S 0 0))) + (tCo (S 0 0) 0)) + (tCo (S 0 0) 1))), .long (zL (zBt (tCnt (S 0 0) 0) (S 0 0 4)))]) (rest := []) (c_X4_mixed l G hG (zPut S 1 σ_227 M_227 q_227) (31 * (31 * (31 * (31 * (31 * (31 * y + (tEx (S 0 0) 200 0)) + (tEx (S 0 0) 200 1)) + (tBt (S 0 0))) + (tBgr (S 0 0))) + (tCo (S 0 0) 0)) + (tCo (S 0 0) 1)) (zBt (tCnt (S 0 0) 0) (S 0 0 4))) zce_X4_mixed zt_X4_mixed zm_X4_218 hl.1 rfl rfl ⟨rfl, rfl⟩ ⟨Nat.le_of_ble_eq_true rfl, Nat.le_of_ble_eq_true rfl⟩ (Nat.le_of_ble_eq_true rfl) ⟨Nat.zero_le _, Nat.zero_le _⟩ dX4_digest_271 (fun r_271 S_271 H locs hq hH => ?_)
        obtain ⟨rfl, rfl⟩ := hq
        refine zb_topl (y := dTl (S 0 0) (dZs (S 0 0) (dHd (S 0 0) (S 8 1 1)) (S 0 0 4).toNat)) (by rw [hh, show z = S 0 0 4 by omega]; rfl) ?_
        refine lv_lstore_n (lv' := [(1, .long (zL (dTl (S 0 0) (dZs (S 0 0) (dHd (S 0 0) (S 8 1 1)) (S 0 0 4).toNat)))), (0, .ref (za G 8 0)), (3, .int (zI z))]) hx hb dX4_digest_274 rfl hl (by decide) rfl (fun ls hl => ?_)
        refine lv_lload_n hx hb dX4_digest_275 rfl (lv_at hl 0 rfl) ?_
        refine lv_aload_n hx hb dX4_digest_276 rfl (lv_at hl 1 rfl) ?_
        refine zg_4_5 h hH zf_X4_37 dX4_digest_277 ?_
        rw [zP_n (by omega)]
        refine zb_i2l h (by omega) dX4_digest_280 ?_
        refine zcSl h hH (As := [.long (zL (dTl (S 0 0) (dZs (S 0 0) (dHd (S 0 0) (S 8 1 1)) (S 0 0 4).toNat))), .long (zL (S 8 0 5))]) (rest := []) (c_X4_mixed l G hG (zPut S 1 σ_227 M_227 q_227) (dTl (S 0 0) (dZs (S 0 0) (dHd (S 0 0) (S 8 1 1)) (S 0 0 4).toNat)) (S 8 0 5)) zce_X4_mixed zt_X4_mixed zm_X4_218 hl.1 rfl rfl ⟨rfl, rfl⟩ ⟨Nat.le_of_ble_eq_true rfl, Nat.le_of_ble_eq_true rfl⟩ (Nat.le_of_ble_eq_true rfl) ⟨Nat.zero_le _, Nat.zero_le _⟩ dX4_digest_281 (fun r_281 S_281 H locs hq hH => ?_)
        obtain ⟨rfl, rfl⟩ := hq
        refine lv_lstore_n (lv' := [(1, .long (zL (31 * (dTl (S 0 0) (dZs (S 0 0) (dHd (S 0 0) (S 8 1 1)) (S 0 0 4).toNat)) + (S 8 0 5)))), (0, .ref (za G 8 0)), (3, .int (zI z))]) hx hb dX4_digest_284 rfl hl (by decide) rfl (fun ls hl => ?_)
        refine zb_ic h dX4_digest_285 ?_
        refine lv_istore_n (lv' := [(3, .int (zI 0)), (1, .long (zL (31 * (dTl (S 0 0) (dZs (S 0 0) (dHd (S 0 0) (S 8 1 1)) (S 0 0 4).toNat)) + (S 8 0 5)))), (0, .ref (za G 8 0))]) hx hb dX4_digest_286 rfl hl (by decide) rfl (fun ls hl => ?_)
        exact C287 ((S 8 0 5 - 0 : Int).toNat + 1) 0 (31 * (dTl (S 0 0) (dZs (S 0 0) (dHd (S 0 0) (S 8 1 1)) (S 0 0 4).toNat)) + (S 8 0 5)) σ_227 M_227 q_227 _ _ _ (by omega) (by omega) rfl hH (lv_sub hl [2, 1, 0] rfl)
      · refine zb_ic h dX4_digest_86 ?_
        refine lv_istore (lv' := [(4, .int (zI 0)), (0, .ref (za G 8 0)), (1, .long (zL y)), (3, .int (zI z))]) hx hb dX4_digest_87 hl (by decide) rfl (fun ls hl => ?_)
        exact C89 ((11 - 0 : Int).toNat + 1) 0 y _ _ _ (by omega) (by omega) (by omega) rfl hH (lv_sub hl [1, 2, 3, 0] rfl)
  have C44 : ∀ (fu : Nat) (i y : Int) (H : Heap) (locs : List Loc) (ls : Array Slot), (11 - i).toNat < fu → (1 ≤ i ∧ i ≤ 11) → (y = zmx (zMk (S 0 0 1) (S 0 0 2)) (31 * (zmx (tNum (S 0 0) (S 8 1 1)) 2879 12) + (S 0 0 3)) (i - 1).toNat) → zH G S s H locs → lv_has ls 5 [(0, .ref (za G 8 0)), (1, .long (zL y)), (3, .int (zI i))] → W p l e r_X4_digest s m args below meth c H locs 0 0 (MQ below (va_Ql (q_X4_digest S) (zB G) (zA G)) args s 0 0 (zA G)) (F0 m 44 ls []) := by
    intro fu
    induction fu with
    | zero => intro i y H locs ls hfu; omega
    | succ fu ih44 =>
      intro i y H locs ls hfu hi hh hH hl
      refine lv_iload_n hx hb dX4_digest_44 rfl (lv_at hl 2 rfl) ?_
      refine zb_bi h dX4_digest_45 (by decide) (by decide) ?_
      refine zb_cgt (tgt := 73) h (by omega) (by omega) dX4_digest_47 (by decide) (fun c_47 => ?_) (fun c_47 => ?_)
      · rw [← zP_id S 1] at hH
        refine zb_ic h dX4_digest_73 ?_
        refine lv_istore_n (lv' := [(3, .int (zI 0)), (0, .ref (za G 8 0)), (1, .long (zL y))]) hx hb dX4_digest_74 rfl hl (by decide) rfl (fun ls hl => ?_)
        exact C75 ((S 0 0 4 - 0 : Int).toNat + 1) 0 y (S 1 0) (S 1 2) (S 1 8) _ _ _ (by omega) (by omega) (by rw [hh, show i - 1 = 10 by omega]; rfl) hH (lv_sub hl [1, 2, 0] rfl)
      · refine lv_lload_n hx hb dX4_digest_50 rfl (lv_at hl 1 rfl) ?_
        refine lv_aload_n hx hb dX4_digest_51 rfl (lv_at hl 0 rfl) ?_
        refine zg_4_0 h hH zf_X4_10 dX4_digest_52 ?_
        refine zgn_3_0 h hH (by omega) zfn_X4_115 dX4_digest_55 ?_
        refine lv_iload_n hx hb dX4_digest_58 rfl (lv_at hl 2 rfl) ?_
        refine zcVi h hH (zr_2 h hH (by omega)) (As := [.int (zI i)]) (rest := [.long (zL y)]) (c_X2_markOf l G hG 0 (by omega) S i (by omega) hms) zce_X2_markOf zcv_X2_markOf zm_X4_170 hl.1 rfl rfl ⟨rfl, rfl⟩ ⟨Nat.le_of_ble_eq_true rfl, Nat.le_of_ble_eq_true rfl⟩ (Nat.le_of_ble_eq_true rfl) ⟨Nat.zero_le _, Nat.zero_le _⟩ dX4_digest_59 (fun r_59 S_59 H locs hq hH => ?_)
        obtain ⟨rfl, rfl⟩ := hq
        have b_59 := zMk_in (g := S 0 0 1) (zW_2 hw) (show 0 ≤ i - 1 ∧ i - 1 < 10 by omega)
        refine zb_i2l h (by omega) dX4_digest_62 ?_
        refine zcSl h hH (As := [.long (zL y), .long (zL (zMk (S 0 0 1) (S 0 0 2) (i - 1)))]) (rest := []) (c_X4_mixed l G hG S y (zMk (S 0 0 1) (S 0 0 2) (i - 1))) zce_X4_mixed zt_X4_mixed zm_X4_218 hl.1 rfl rfl ⟨rfl, rfl⟩ ⟨Nat.le_of_ble_eq_true rfl, Nat.le_of_ble_eq_true rfl⟩ (Nat.le_of_ble_eq_true rfl) ⟨Nat.zero_le _, Nat.zero_le _⟩ dX4_digest_63 (fun r_63 S_63 H locs hq hH => ?_)
        obtain ⟨rfl, rfl⟩ := hq
        refine lv_lstore_n (lv' := [(1, .long (zL (31 * y + (zMk (S 0 0 1) (S 0 0 2) (i - 1))))), (0, .ref (za G 8 0)), (3, .int (zI i))]) hx hb dX4_digest_66 rfl hl (by decide) rfl (fun ls hl => ?_)
        refine lv_iinc (v := zI (i + 1)) (lv' := [(3, .int (zI (i + 1))), (1, .long (zL (31 * y + (zMk (S 0 0 1) (S 0 0 2) (i - 1))))), (0, .ref (za G 8 0))]) hx hb dX4_digest_67 hl (k := 2) rfl (zI_add _ _) (by decide) rfl (fun ls hl => ?_)
        refine lv_goto (tgt := 44) hx hb dX4_digest_70 (by decide) ?_
        exact ih44 (i + 1) (31 * y + (zMk (S 0 0 1) (S 0 0 2) (i - 1))) _ _ _ (by omega) (by omega) (by have e := zmx_s (zMk (S 0 0 1) (S 0 0 2)) (31 * (zmx (tNum (S 0 0) (S 8 1 1)) 2879 12) + (S 0 0 3)) (show 0 ≤ i - 1 by omega); rw [show i - 1 + 1 = i + 1 - 1 by omega] at e; rw [e, hh]) hH (lv_sub hl [2, 1, 0] rfl)
  have C6 : ∀ (fu : Nat) (i y : Int) (H : Heap) (locs : List Loc) (ls : Array Slot), (12 - i).toNat < fu → (0 ≤ i ∧ i ≤ 12) → (y = zmx (tNum (S 0 0) (S 8 1 1)) 2879 i.toNat) → zH G S s H locs → lv_has ls 5 [(0, .ref (za G 8 0)), (1, .long (zL y)), (3, .int (zI i))] → W p l e r_X4_digest s m args below meth c H locs 0 0 (MQ below (va_Ql (q_X4_digest S) (zB G) (zA G)) args s 0 0 (zA G)) (F0 m 6 ls []) := by
    intro fu
    induction fu with
    | zero => intro i y H locs ls hfu; omega
    | succ fu ih6 =>
      intro i y H locs ls hfu hi hh hH hl
      refine lv_iload_n hx hb dX4_digest_6 rfl (lv_at hl 2 rfl) ?_
      refine zb_bi h dX4_digest_7 (by decide) (by decide) ?_
      refine zb_cgt (tgt := 29) h (by omega) (by omega) dX4_digest_9 (by decide) (fun c_9 => ?_) (fun c_9 => ?_)
      · refine lv_lload_n hx hb dX4_digest_29 rfl (lv_at hl 1 rfl) ?_
        refine lv_aload_n hx hb dX4_digest_30 rfl (lv_at hl 0 rfl) ?_
        refine zg_4_0 h hH zf_X4_10 dX4_digest_31 ?_
        refine zgn_3_9 h hH (by omega) zfn_X4_130 dX4_digest_34 ?_
        have f_34 := zW_3 hw
        refine zb_i2l h (by omega) dX4_digest_37 ?_
        refine zcSl h hH (As := [.long (zL y), .long (zL (S 0 0 3))]) (rest := []) (c_X4_mixed l G hG S y (S 0 0 3)) zce_X4_mixed zt_X4_mixed zm_X4_218 hl.1 rfl rfl ⟨rfl, rfl⟩ ⟨Nat.le_of_ble_eq_true rfl, Nat.le_of_ble_eq_true rfl⟩ (Nat.le_of_ble_eq_true rfl) ⟨Nat.zero_le _, Nat.zero_le _⟩ dX4_digest_38 (fun r_38 S_38 H locs hq hH => ?_)
        obtain ⟨rfl, rfl⟩ := hq
        refine lv_lstore_n (lv' := [(1, .long (zL (31 * y + (S 0 0 3)))), (0, .ref (za G 8 0)), (3, .int (zI i))]) hx hb dX4_digest_41 rfl hl (by decide) rfl (fun ls hl => ?_)
        refine zb_ic h dX4_digest_42 ?_
        refine lv_istore_n (lv' := [(3, .int (zI 1)), (1, .long (zL (31 * y + (S 0 0 3)))), (0, .ref (za G 8 0))]) hx hb dX4_digest_43 rfl hl (by decide) rfl (fun ls hl => ?_)
        exact C44 ((11 - 1 : Int).toNat + 1) 1 (31 * y + (S 0 0 3)) _ _ _ (by omega) (by omega) (by rw [hh, show i = 12 by omega]; rfl) hH (lv_sub hl [2, 1, 0] rfl)
      · refine lv_lload_n hx hb dX4_digest_12 rfl (lv_at hl 1 rfl) ?_
        refine lv_aload_n hx hb dX4_digest_13 rfl (lv_at hl 0 rfl) ?_
        refine lv_iload_n hx hb dX4_digest_14 rfl (lv_at hl 2 rfl) ?_
        refine zcVi h hH (zr_4 h hH) (As := [.int (zI i)]) (rest := [.long (zL y)]) (c_X4_numberOf l G hG S i (by omega) hok hms hw) zce_X4_numberOf zcv_X4_numberOf zm_X4_181 hl.1 rfl rfl ⟨rfl, rfl⟩ ⟨Nat.le_of_ble_eq_true rfl, Nat.le_of_ble_eq_true rfl⟩ (Nat.le_of_ble_eq_true rfl) ⟨Nat.zero_le _, Nat.zero_le _⟩ dX4_digest_15 (fun r_15 S_15 H locs hq hH => ?_)
        obtain ⟨rfl, rfl⟩ := hq
        have b_15 := tNum_in hw hsz (w := i) (by omega)
        refine zb_i2l h (by omega) dX4_digest_18 ?_
        refine zcSl h hH (As := [.long (zL y), .long (zL (tNum (S 0 0) (S 8 1 1) i))]) (rest := []) (c_X4_mixed l G hG S y (tNum (S 0 0) (S 8 1 1) i)) zce_X4_mixed zt_X4_mixed zm_X4_218 hl.1 rfl rfl ⟨rfl, rfl⟩ ⟨Nat.le_of_ble_eq_true rfl, Nat.le_of_ble_eq_true rfl⟩ (Nat.le_of_ble_eq_true rfl) ⟨Nat.zero_le _, Nat.zero_le _⟩ dX4_digest_19 (fun r_19 S_19 H locs hq hH => ?_)
        obtain ⟨rfl, rfl⟩ := hq
        refine lv_lstore_n (lv' := [(1, .long (zL (31 * y + (tNum (S 0 0) (S 8 1 1) i)))), (0, .ref (za G 8 0)), (3, .int (zI i))]) hx hb dX4_digest_22 rfl hl (by decide) rfl (fun ls hl => ?_)
        refine lv_iinc (v := zI (i + 1)) (lv' := [(3, .int (zI (i + 1))), (1, .long (zL (31 * y + (tNum (S 0 0) (S 8 1 1) i)))), (0, .ref (za G 8 0))]) hx hb dX4_digest_23 hl (k := 2) rfl (zI_add _ _) (by decide) rfl (fun ls hl => ?_)
        refine lv_goto (tgt := 6) hx hb dX4_digest_26 (by decide) ?_
        exact ih6 (i + 1) (31 * y + (tNum (S 0 0) (S 8 1 1) i)) _ _ _ (by omega) (by omega) (by rw [zmx_s _ _ hi.1, hh]) hH (lv_sub hl [2, 1, 0] rfl)
  refine zb_ldc2 (n := 2879) h zk_X4_216 (by decide +kernel) dX4_digest_0 ?_
  refine lv_lstore_n (lv' := [(1, .long (zL 2879)), (0, .ref (za G 8 0))]) hx hb dX4_digest_3 rfl hl (by decide) rfl (fun ls hl => ?_)
  refine zb_ic h dX4_digest_4 ?_
  refine lv_istore_n (lv' := [(3, .int (zI 0)), (1, .long (zL 2879)), (0, .ref (za G 8 0))]) hx hb dX4_digest_5 rfl hl (by decide) rfl (fun ls hl => ?_)
  exact C6 ((12 - 0 : Int).toNat + 1) 0 2879 _ _ _ (by omega) (by omega) rfl hH (lv_sub hl [2, 1, 0] rfl)
