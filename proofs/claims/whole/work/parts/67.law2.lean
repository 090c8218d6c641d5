/-! the law: cases 1 -/
theorem dL_law_152 : decode code 152 = .ok (.aload_n 1, 1) := by decide +kernel
theorem dL_law_153 : decode code 153 = .ok (.aload_n 0, 1) := by decide +kernel
theorem dL_law_154 : decode code 154 = .ok (.iload 4, 2) := by decide +kernel
theorem dL_law_156 : decode code 156 = .ok (.iconst 1, 1) := by decide +kernel
theorem dL_law_157 : decode code 157 = .ok (.iadd, 1) := by decide +kernel
theorem dL_law_158 : decode code 158 = .ok (.iaload, 1) := by decide +kernel
theorem dL_law_159 : decode code 159 = .ok (.aload_n 0, 1) := by decide +kernel
theorem dL_law_160 : decode code 160 = .ok (.iload 4, 2) := by decide +kernel
theorem dL_law_162 : decode code 162 = .ok (.iconst 2, 1) := by decide +kernel
theorem dL_law_163 : decode code 163 = .ok (.iadd, 1) := by decide +kernel
theorem dL_law_164 : decode code 164 = .ok (.iaload, 1) := by decide +kernel
theorem dL_law_165 : decode code 165 = .ok (.aload_n 3, 1) := by decide +kernel
theorem dL_law_166 : decode code 166 = .ok (.invokestatic 78, 3) := by decide +kernel
theorem dL_law_169 : decode code 169 = .ok (.istore 5, 2) := by decide +kernel
theorem dL_law_171 : decode code 171 = .ok (.aload_n 2, 1) := by decide +kernel
theorem dL_law_172 : decode code 172 = .ok (.aload_n 0, 1) := by decide +kernel
theorem dL_law_173 : decode code 173 = .ok (.iload 4, 2) := by decide +kernel
theorem dL_law_175 : decode code 175 = .ok (.iconst 1, 1) := by decide +kernel
theorem dL_law_176 : decode code 176 = .ok (.iadd, 1) := by decide +kernel
theorem dL_law_177 : decode code 177 = .ok (.iaload, 1) := by decide +kernel
theorem dL_law_178 : decode code 178 = .ok (.aload_n 0, 1) := by decide +kernel
theorem dL_law_179 : decode code 179 = .ok (.iload 4, 2) := by decide +kernel
theorem dL_law_181 : decode code 181 = .ok (.iconst 2, 1) := by decide +kernel
theorem dL_law_182 : decode code 182 = .ok (.iadd, 1) := by decide +kernel
theorem dL_law_183 : decode code 183 = .ok (.iaload, 1) := by decide +kernel
theorem dL_law_184 : decode code 184 = .ok (.invokevirtual 83, 3) := by decide +kernel
theorem dL_law_187 : decode code 187 = .ok (.istore 6, 2) := by decide +kernel
theorem dL_law_189 : decode code 189 = .ok (.aload_n 2, 1) := by decide +kernel
theorem dL_law_190 : decode code 190 = .ok (.invokevirtual 84, 3) := by decide +kernel
theorem dL_law_193 : decode code 193 = .ok (.iload 5, 2) := by decide +kernel
theorem dL_law_195 : decode code 195 = .ok (.if_icmp .eq 5, 3) := by decide +kernel
theorem dL_law_198 : decode code 198 = .ok (.iconst 0, 1) := by decide +kernel
theorem dL_law_199 : decode code 199 = .ok (.ireturn, 1) := by decide +kernel
theorem dL_law_200 : decode code 200 = .ok (.iload 5, 2) := by decide +kernel
theorem dL_law_202 : decode code 202 = .ok (.ifCond .ne 15, 3) := by decide +kernel
theorem dL_law_205 : decode code 205 = .ok (.aload_n 3, 1) := by decide +kernel
theorem dL_law_206 : decode code 206 = .ok (.iconst 0, 1) := by decide +kernel
theorem dL_law_207 : decode code 207 = .ok (.laload, 1) := by decide +kernel
theorem dL_law_208 : decode code 208 = .ok (.iload 6, 2) := by decide +kernel
theorem dL_law_210 : decode code 210 = .ok (.i2l, 1) := by decide +kernel
theorem dL_law_211 : decode code 211 = .ok (.lcmp, 1) := by decide +kernel
theorem dL_law_212 : decode code 212 = .ok (.ifCond .eq 5, 3) := by decide +kernel
theorem dL_law_215 : decode code 215 = .ok (.iconst 0, 1) := by decide +kernel
theorem dL_law_216 : decode code 216 = .ok (.ireturn, 1) := by decide +kernel
theorem dL_law_217 : decode code 217 = .ok (.goto 1195, 3) := by decide +kernel
theorem dL_law_220 : decode code 220 = .ok (.aload_n 1, 1) := by decide +kernel
theorem dL_law_221 : decode code 221 = .ok (.aload_n 0, 1) := by decide +kernel
theorem dL_law_222 : decode code 222 = .ok (.iload 4, 2) := by decide +kernel
theorem dL_law_224 : decode code 224 = .ok (.iconst 1, 1) := by decide +kernel
theorem dL_law_225 : decode code 225 = .ok (.iadd, 1) := by decide +kernel
theorem dL_law_226 : decode code 226 = .ok (.iaload, 1) := by decide +kernel
theorem dL_law_227 : decode code 227 = .ok (.aload_n 0, 1) := by decide +kernel
theorem dL_law_228 : decode code 228 = .ok (.iload 4, 2) := by decide +kernel
theorem dL_law_230 : decode code 230 = .ok (.iconst 2, 1) := by decide +kernel
theorem dL_law_231 : decode code 231 = .ok (.iadd, 1) := by decide +kernel
theorem dL_law_232 : decode code 232 = .ok (.iaload, 1) := by decide +kernel
theorem dL_law_233 : decode code 233 = .ok (.aload_n 3, 1) := by decide +kernel
theorem dL_law_234 : decode code 234 = .ok (.invokestatic 87, 3) := by decide +kernel
theorem dL_law_237 : decode code 237 = .ok (.istore 5, 2) := by decide +kernel
theorem dL_law_239 : decode code 239 = .ok (.aload_n 2, 1) := by decide +kernel
theorem dL_law_240 : decode code 240 = .ok (.aload_n 0, 1) := by decide +kernel
theorem dL_law_241 : decode code 241 = .ok (.iload 4, 2) := by decide +kernel
theorem dL_law_243 : decode code 243 = .ok (.iconst 1, 1) := by decide +kernel
theorem dL_law_244 : decode code 244 = .ok (.iadd, 1) := by decide +kernel
theorem dL_law_245 : decode code 245 = .ok (.iaload, 1) := by decide +kernel
theorem dL_law_246 : decode code 246 = .ok (.aload_n 0, 1) := by decide +kernel
theorem dL_law_247 : decode code 247 = .ok (.iload 4, 2) := by decide +kernel
theorem dL_law_249 : decode code 249 = .ok (.iconst 2, 1) := by decide +kernel
theorem dL_law_250 : decode code 250 = .ok (.iadd, 1) := by decide +kernel
theorem dL_law_251 : decode code 251 = .ok (.iaload, 1) := by decide +kernel
theorem dL_law_252 : decode code 252 = .ok (.invokevirtual 89, 3) := by decide +kernel
theorem dL_law_255 : decode code 255 = .ok (.istore 6, 2) := by decide +kernel
theorem dL_law_257 : decode code 257 = .ok (.aload_n 2, 1) := by decide +kernel
theorem dL_law_258 : decode code 258 = .ok (.invokevirtual 84, 3) := by decide +kernel
theorem dL_law_261 : decode code 261 = .ok (.iload 5, 2) := by decide +kernel
theorem dL_law_263 : decode code 263 = .ok (.if_icmp .eq 5, 3) := by decide +kernel
theorem dL_law_266 : decode code 266 = .ok (.iconst 0, 1) := by decide +kernel
theorem dL_law_267 : decode code 267 = .ok (.ireturn, 1) := by decide +kernel
theorem dL_law_268 : decode code 268 = .ok (.iload 5, 2) := by decide +kernel
theorem dL_law_270 : decode code 270 = .ok (.ifCond .ne 15, 3) := by decide +kernel
theorem dL_law_273 : decode code 273 = .ok (.aload_n 3, 1) := by decide +kernel
theorem dL_law_274 : decode code 274 = .ok (.iconst 0, 1) := by decide +kernel
theorem dL_law_275 : decode code 275 = .ok (.laload, 1) := by decide +kernel
theorem dL_law_276 : decode code 276 = .ok (.iload 6, 2) := by decide +kernel
theorem dL_law_278 : decode code 278 = .ok (.i2l, 1) := by decide +kernel
theorem dL_law_279 : decode code 279 = .ok (.lcmp, 1) := by decide +kernel
theorem dL_law_280 : decode code 280 = .ok (.ifCond .eq 5, 3) := by decide +kernel
theorem dL_law_283 : decode code 283 = .ok (.iconst 0, 1) := by decide +kernel
theorem dL_law_284 : decode code 284 = .ok (.ireturn, 1) := by decide +kernel
theorem dL_law_285 : decode code 285 = .ok (.goto 1127, 3) := by decide +kernel
theorem dL_law_288 : decode code 288 = .ok (.aload_n 1, 1) := by decide +kernel
theorem dL_law_289 : decode code 289 = .ok (.aload_n 0, 1) := by decide +kernel
theorem dL_law_290 : decode code 290 = .ok (.iload 4, 2) := by decide +kernel
theorem dL_law_292 : decode code 292 = .ok (.iconst 1, 1) := by decide +kernel
theorem dL_law_293 : decode code 293 = .ok (.iadd, 1) := by decide +kernel
theorem dL_law_294 : decode code 294 = .ok (.iaload, 1) := by decide +kernel
theorem dL_law_295 : decode code 295 = .ok (.aload_n 0, 1) := by decide +kernel
theorem dL_law_296 : decode code 296 = .ok (.iload 4, 2) := by decide +kernel
theorem dL_law_298 : decode code 298 = .ok (.iconst 2, 1) := by decide +kernel
theorem dL_law_299 : decode code 299 = .ok (.iadd, 1) := by decide +kernel
theorem dL_law_300 : decode code 300 = .ok (.iaload, 1) := by decide +kernel
theorem dL_law_301 : decode code 301 = .ok (.aload_n 3, 1) := by decide +kernel
theorem dL_law_302 : decode code 302 = .ok (.invokestatic 90, 3) := by decide +kernel
theorem dL_law_305 : decode code 305 = .ok (.istore 5, 2) := by decide +kernel
theorem dL_law_307 : decode code 307 = .ok (.aload_n 2, 1) := by decide +kernel
theorem dL_law_308 : decode code 308 = .ok (.aload_n 0, 1) := by decide +kernel
theorem dL_law_309 : decode code 309 = .ok (.iload 4, 2) := by decide +kernel
theorem dL_law_311 : decode code 311 = .ok (.iconst 1, 1) := by decide +kernel
theorem dL_law_312 : decode code 312 = .ok (.iadd, 1) := by decide +kernel
theorem dL_law_313 : decode code 313 = .ok (.iaload, 1) := by decide +kernel
theorem dL_law_314 : decode code 314 = .ok (.aload_n 0, 1) := by decide +kernel
theorem dL_law_315 : decode code 315 = .ok (.iload 4, 2) := by decide +kernel
theorem dL_law_317 : decode code 317 = .ok (.iconst 2, 1) := by decide +kernel
theorem dL_law_318 : decode code 318 = .ok (.iadd, 1) := by decide +kernel
theorem dL_law_319 : decode code 319 = .ok (.iaload, 1) := by decide +kernel
theorem dL_law_320 : decode code 320 = .ok (.invokevirtual 92, 3) := by decide +kernel
theorem dL_law_323 : decode code 323 = .ok (.istore 6, 2) := by decide +kernel
theorem dL_law_325 : decode code 325 = .ok (.aload_n 2, 1) := by decide +kernel
theorem dL_law_326 : decode code 326 = .ok (.invokevirtual 84, 3) := by decide +kernel
theorem dL_law_329 : decode code 329 = .ok (.iload 5, 2) := by decide +kernel
theorem dL_law_331 : decode code 331 = .ok (.if_icmp .eq 5, 3) := by decide +kernel
theorem dL_law_334 : decode code 334 = .ok (.iconst 0, 1) := by decide +kernel
theorem dL_law_335 : decode code 335 = .ok (.ireturn, 1) := by decide +kernel
theorem dL_law_336 : decode code 336 = .ok (.iload 5, 2) := by decide +kernel
theorem dL_law_338 : decode code 338 = .ok (.ifCond .ne 15, 3) := by decide +kernel
theorem dL_law_341 : decode code 341 = .ok (.aload_n 3, 1) := by decide +kernel
theorem dL_law_342 : decode code 342 = .ok (.iconst 0, 1) := by decide +kernel
theorem dL_law_343 : decode code 343 = .ok (.laload, 1) := by decide +kernel
theorem dL_law_344 : decode code 344 = .ok (.iload 6, 2) := by decide +kernel
theorem dL_law_346 : decode code 346 = .ok (.i2l, 1) := by decide +kernel
theorem dL_law_347 : decode code 347 = .ok (.lcmp, 1) := by decide +kernel
theorem dL_law_348 : decode code 348 = .ok (.ifCond .eq 5, 3) := by decide +kernel
theorem dL_law_351 : decode code 351 = .ok (.iconst 0, 1) := by decide +kernel
theorem dL_law_352 : decode code 352 = .ok (.ireturn, 1) := by decide +kernel
theorem dL_law_353 : decode code 353 = .ok (.goto 1059, 3) := by decide +kernel
theorem dL_law_356 : decode code 356 = .ok (.aload_n 1, 1) := by decide +kernel
theorem dL_law_357 : decode code 357 = .ok (.aload_n 0, 1) := by decide +kernel
theorem dL_law_358 : decode code 358 = .ok (.iload 4, 2) := by decide +kernel
theorem dL_law_360 : decode code 360 = .ok (.iconst 1, 1) := by decide +kernel
theorem dL_law_361 : decode code 361 = .ok (.iadd, 1) := by decide +kernel
theorem dL_law_362 : decode code 362 = .ok (.iaload, 1) := by decide +kernel
theorem dL_law_363 : decode code 363 = .ok (.aload_n 3, 1) := by decide +kernel
theorem dL_law_364 : decode code 364 = .ok (.invokestatic 93, 3) := by decide +kernel
theorem dL_law_367 : decode code 367 = .ok (.istore 5, 2) := by decide +kernel
theorem dL_law_369 : decode code 369 = .ok (.aload_n 2, 1) := by decide +kernel
theorem dL_law_370 : decode code 370 = .ok (.aload_n 0, 1) := by decide +kernel
theorem dL_law_371 : decode code 371 = .ok (.iload 4, 2) := by decide +kernel
theorem dL_law_373 : decode code 373 = .ok (.iconst 1, 1) := by decide +kernel
theorem dL_law_374 : decode code 374 = .ok (.iadd, 1) := by decide +kernel
theorem dL_law_375 : decode code 375 = .ok (.iaload, 1) := by decide +kernel
theorem dL_law_376 : decode code 376 = .ok (.invokevirtual 96, 3) := by decide +kernel
theorem dL_law_379 : decode code 379 = .ok (.istore 6, 2) := by decide +kernel
theorem dL_law_381 : decode code 381 = .ok (.aload_n 2, 1) := by decide +kernel
theorem dL_law_382 : decode code 382 = .ok (.invokevirtual 84, 3) := by decide +kernel
theorem dL_law_385 : decode code 385 = .ok (.iload 5, 2) := by decide +kernel
theorem dL_law_387 : decode code 387 = .ok (.if_icmp .eq 5, 3) := by decide +kernel
theorem dL_law_390 : decode code 390 = .ok (.iconst 0, 1) := by decide +kernel
theorem dL_law_391 : decode code 391 = .ok (.ireturn, 1) := by decide +kernel
theorem dL_law_392 : decode code 392 = .ok (.iload 5, 2) := by decide +kernel
theorem dL_law_394 : decode code 394 = .ok (.ifCond .ne 15, 3) := by decide +kernel
theorem dL_law_397 : decode code 397 = .ok (.aload_n 3, 1) := by decide +kernel
theorem dL_law_398 : decode code 398 = .ok (.iconst 0, 1) := by decide +kernel
theorem dL_law_399 : decode code 399 = .ok (.laload, 1) := by decide +kernel
theorem dL_law_400 : decode code 400 = .ok (.iload 6, 2) := by decide +kernel
theorem dL_law_402 : decode code 402 = .ok (.i2l, 1) := by decide +kernel
theorem dL_law_403 : decode code 403 = .ok (.lcmp, 1) := by decide +kernel
theorem dL_law_404 : decode code 404 = .ok (.ifCond .eq 5, 3) := by decide +kernel
theorem dL_law_407 : decode code 407 = .ok (.iconst 0, 1) := by decide +kernel
theorem dL_law_408 : decode code 408 = .ok (.ireturn, 1) := by decide +kernel
theorem dL_law_409 : decode code 409 = .ok (.goto 1003, 3) := by decide +kernel
section ZW
variable {p : Program} {l : Launch} {e : Env} {s : State} {m : MethodId} {args : Array Value} {below : List Frame} {meth : Method} {c : Code} {Q : State → Prop} {G : zG} {b L : Nat} {xs : Nat → Int32}

set_option maxHeartbeats 4000000 in
set_option maxRecDepth 100000 in
theorem law_zone (C : zLw p l s m args meth c G b L xs) {S : zM} {n i : Int} {H : Heap} {locs : List Loc} {cells slots : Nat} {ls : Array Slot} (hI : zInv S n) (hn : n ≤ 600) (hi : 0 ≤ i ∧ i + 4 < L) (hH : zH G S s H locs) (hls : lv_has ls 9 [(0, .ref b), (1, .ref (za G 8 0)), (2, .ref (za G 9 0)), (3, .ref (za G 8 5)), (4, .int (zI i))]) (hcs : cells + 1 ≤ 629837 ∧ slots + 6 ≤ 7206592)
    (K : ∀ (S' : zM) (ls' : Array Slot), zInv S' (n + 1) → lv_has ls' 9 [(0, .ref b), (1, .ref (za G 8 0)), (2, .ref (za G 9 0)), (3, .ref (za G 8 5)), (4, .int (zI i))] → ∀ (H1 : Heap) (locs1 : List Loc), zH G S' s H1 locs1 → W p l e room_1 s m args below meth c H1 locs1 (cells + 1) (slots + 6) Q (F0 m 1412 ls' [])) :
    W p l e room_1 s m args below meth c H locs cells slots Q (F0 m 152 ls []) := by
  have h := C.h
  have f := zRl_of hI (by omega)
  have hL := C.hL
  refine lv_aload_n h.1 h.2.1 dL_law_152 rfl (lv_at hls 1 rfl) ?_
  refine lv_aload_n h.1 h.2.1 dL_law_153 rfl (lv_at hls 0 rfl) ?_
  refine lv_iload h.1 h.2.1 dL_law_154 (lv_at hls 4 rfl) ?_
  refine zb_ic h dL_law_156 ?_
  refine zb_iadd h dL_law_157 ?_
  refine zld C hH (i := (i + 1)) (by omega) dL_law_158 ?_
  refine lv_aload_n h.1 h.2.1 dL_law_159 rfl (lv_at hls 0 rfl) ?_
  refine lv_iload h.1 h.2.1 dL_law_160 (lv_at hls 4 rfl) ?_
  refine zb_ic h dL_law_162 ?_
  refine zb_iadd h dL_law_163 ?_
  refine zld C hH (i := (i + 2)) (by omega) dL_law_164 ?_
  refine lv_aload_n h.1 h.2.1 dL_law_165 rfl (lv_at hls 3 rfl) ?_
  refine zcXS h C.hX hH (n := 4) (As := [.ref (za G 8 0), .int (zI (zx xs (i + 1))), .int (zI (zx xs (i + 2))), .ref (za G 8 5)]) (rest := []) (c_L_zone l C.hl G h.2.2.2.2.2.2.2 S (zx xs (i + 1)) (zx_in _ _) (zx xs (i + 2)) (zx_in _ _) f.nx f.sz f.ms f.w) zc_L_zone zn_L ⟨by decide, by decide⟩ (by decide +kernel) zt_L_zone zm_L_78 hls.1 rfl rfl ⟨rfl, rfl⟩ ⟨Nat.le_of_ble_eq_true rfl, Nat.le_of_ble_eq_true rfl⟩ (Nat.le_of_ble_eq_true rfl) hcs dL_law_166 (fun r_1 S_1 H locs hq1 hH => ?_)
  have e9 := k9_zone hq1
  have fx := zRx_of hI e9
  refine lv_istore (lv' := [(5, .int r_1), (0, .ref b), (1, .ref (za G 8 0)), (2, .ref (za G 9 0)), (3, .ref (za G 8 5)), (4, .int (zI i))]) h.1 h.2.1 dL_law_169 hls (by decide) rfl (fun ls hls => ?_)
  refine lv_aload_n h.1 h.2.1 dL_law_171 rfl (lv_at hls 3 rfl) ?_
  refine lv_aload_n h.1 h.2.1 dL_law_172 rfl (lv_at hls 1 rfl) ?_
  refine lv_iload h.1 h.2.1 dL_law_173 (lv_at hls 5 rfl) ?_
  refine zb_ic h dL_law_175 ?_
  refine zb_iadd h dL_law_176 ?_
  refine zld C hH (i := (i + 1)) (by omega) dL_law_177 ?_
  refine lv_aload_n h.1 h.2.1 dL_law_178 rfl (lv_at hls 1 rfl) ?_
  refine lv_iload h.1 h.2.1 dL_law_179 (lv_at hls 5 rfl) ?_
  refine zb_ic h dL_law_181 ?_
  refine zb_iadd h dL_law_182 ?_
  refine zld C hH (i := (i + 2)) (by omega) dL_law_183 ?_
  refine zcVi h hH (zr_5 h hH) (As := [.int (zI (zx xs (i + 1))), .int (zI (zx xs (i + 2)))]) (rest := []) (c_X5_zone l G h.2.2.2.2.2.2.2 S_1 (zx xs (i + 1)) (zx_in _ _) (zx xs (i + 2)) (zx_in _ _) fx.sm fx.w) zce_X5_zone zcv_X5_zone zm_L_83 hls.1 rfl rfl ⟨rfl, rfl⟩ ⟨Nat.le_of_ble_eq_true rfl, Nat.le_of_ble_eq_true rfl⟩ (Nat.le_of_ble_eq_true rfl) hcs dL_law_184 (fun r_2 S_2 H locs hq2 hH => ?_)
  refine lv_istore (lv' := [(6, .int r_2), (5, .int r_1), (0, .ref b), (1, .ref (za G 8 0)), (2, .ref (za G 9 0)), (3, .ref (za G 8 5)), (4, .int (zI i))]) h.1 h.2.1 dL_law_187 hls (by decide) rfl (fun ls hls => ?_)
  exact ztail C (g_zone hI hq1 hq2) hH hls hcs dL_law_189 dL_law_190 dL_law_193 dL_law_195 dL_law_200 dL_law_202 dL_law_205 dL_law_206 dL_law_207 dL_law_208 dL_law_210 dL_law_211 dL_law_212 dL_law_217 (by decide) K
set_option maxHeartbeats 4000000 in
set_option maxRecDepth 100000 in
theorem law_want (C : zLw p l s m args meth c G b L xs) {S : zM} {n i : Int} {H : Heap} {locs : List Loc} {cells slots : Nat} {ls : Array Slot} (hI : zInv S n) (hn : n ≤ 600) (hi : 0 ≤ i ∧ i + 4 < L) (hH : zH G S s H locs) (hls : lv_has ls 9 [(0, .ref b), (1, .ref (za G 8 0)), (2, .ref (za G 9 0)), (3, .ref (za G 8 5)), (4, .int (zI i))]) (hcs : cells + 1 ≤ 629837 ∧ slots + 6 ≤ 7206592)
    (K : ∀ (S' : zM) (ls' : Array Slot), zInv S' (n + 1) → lv_has ls' 9 [(0, .ref b), (1, .ref (za G 8 0)), (2, .ref (za G 9 0)), (3, .ref (za G 8 5)), (4, .int (zI i))] → ∀ (H1 : Heap) (locs1 : List Loc), zH G S' s H1 locs1 → W p l e room_1 s m args below meth c H1 locs1 (cells + 1) (slots + 6) Q (F0 m 1412 ls' [])) :
    W p l e room_1 s m args below meth c H locs cells slots Q (F0 m 220 ls []) := by
  have h := C.h
  have f := zRl_of hI (by omega)
  have hL := C.hL
  refine lv_aload_n h.1 h.2.1 dL_law_220 rfl (lv_at hls 1 rfl) ?_
  refine lv_aload_n h.1 h.2.1 dL_law_221 rfl (lv_at hls 0 rfl) ?_
  refine lv_iload h.1 h.2.1 dL_law_222 (lv_at hls 4 rfl) ?_
  refine zb_ic h dL_law_224 ?_
  refine zb_iadd h dL_law_225 ?_
  refine zld C hH (i := (i + 1)) (by omega) dL_law_226 ?_
  refine lv_aload_n h.1 h.2.1 dL_law_227 rfl (lv_at hls 0 rfl) ?_
  refine lv_iload h.1 h.2.1 dL_law_228 (lv_at hls 4 rfl) ?_
  refine zb_ic h dL_law_230 ?_
  refine zb_iadd h dL_law_231 ?_
  refine zld C hH (i := (i + 2)) (by omega) dL_law_232 ?_
  refine lv_aload_n h.1 h.2.1 dL_law_233 rfl (lv_at hls 3 rfl) ?_
  refine zcXS h C.hX hH (n := 4) (As := [.ref (za G 8 0), .int (zI (zx xs (i + 1))), .int (zI (zx xs (i + 2))), .ref (za G 8 5)]) (rest := []) (c_L_want l C.hl G h.2.2.2.2.2.2.2 S (zx xs (i + 1)) (zx_in _ _) (zx xs (i + 2)) (zx_in _ _) f.nx f.sz f.ms f.w) zc_L_want zn_L ⟨by decide, by decide⟩ (by decide +kernel) zt_L_want zm_L_87 hls.1 rfl rfl ⟨rfl, rfl⟩ ⟨Nat.le_of_ble_eq_true rfl, Nat.le_of_ble_eq_true rfl⟩ (Nat.le_of_ble_eq_true rfl) hcs dL_law_234 (fun r_1 S_1 H locs hq1 hH => ?_)
  have e9 := k9_want hq1
  have fx := zRx_of hI e9
  refine lv_istore (lv' := [(5, .int r_1), (0, .ref b), (1, .ref (za G 8 0)), (2, .ref (za G 9 0)), (3, .ref (za G 8 5)), (4, .int (zI i))]) h.1 h.2.1 dL_law_237 hls (by decide) rfl (fun ls hls => ?_)
  refine lv_aload_n h.1 h.2.1 dL_law_239 rfl (lv_at hls 3 rfl) ?_
  refine lv_aload_n h.1 h.2.1 dL_law_240 rfl (lv_at hls 1 rfl) ?_
  refine lv_iload h.1 h.2.1 dL_law_241 (lv_at hls 5 rfl) ?_
  refine zb_ic h dL_law_243 ?_
  refine zb_iadd h dL_law_244 ?_
  refine zld C hH (i := (i + 1)) (by omega) dL_law_245 ?_
  refine lv_aload_n h.1 h.2.1 dL_law_246 rfl (lv_at hls 1 rfl) ?_
  refine lv_iload h.1 h.2.1 dL_law_247 (lv_at hls 5 rfl) ?_
  refine zb_ic h dL_law_249 ?_
  refine zb_iadd h dL_law_250 ?_
  refine zld C hH (i := (i + 2)) (by omega) dL_law_251 ?_
  refine zcVi h hH (zr_5 h hH) (As := [.int (zI (zx xs (i + 1))), .int (zI (zx xs (i + 2)))]) (rest := []) (c_X5_want l G h.2.2.2.2.2.2.2 S_1 (zx xs (i + 1)) (zx_in _ _) (zx xs (i + 2)) (zx_in _ _) fx.sm fx.w) zce_X5_want zcv_X5_want zm_L_89 hls.1 rfl rfl ⟨rfl, rfl⟩ ⟨Nat.le_of_ble_eq_true rfl, Nat.le_of_ble_eq_true rfl⟩ (Nat.le_of_ble_eq_true rfl) hcs dL_law_252 (fun r_2 S_2 H locs hq2 hH => ?_)
  refine lv_istore (lv' := [(6, .int r_2), (5, .int r_1), (0, .ref b), (1, .ref (za G 8 0)), (2, .ref (za G 9 0)), (3, .ref (za G 8 5)), (4, .int (zI i))]) h.1 h.2.1 dL_law_255 hls (by decide) rfl (fun ls hls => ?_)
  exact ztail C (g_want hI hq1 hq2) hH hls hcs dL_law_257 dL_law_258 dL_law_261 dL_law_263 dL_law_268 dL_law_270 dL_law_273 dL_law_274 dL_law_275 dL_law_276 dL_law_278 dL_law_279 dL_law_280 dL_law_285 (by decide) K
set_option maxHeartbeats 4000000 in
set_option maxRecDepth 100000 in
theorem law_link (C : zLw p l s m args meth c G b L xs) {S : zM} {n i : Int} {H : Heap} {locs : List Loc} {cells slots : Nat} {ls : Array Slot} (hI : zInv S n) (hn : n ≤ 600) (hi : 0 ≤ i ∧ i + 4 < L) (hH : zH G S s H locs) (hls : lv_has ls 9 [(0, .ref b), (1, .ref (za G 8 0)), (2, .ref (za G 9 0)), (3, .ref (za G 8 5)), (4, .int (zI i))]) (hcs : cells + 1 ≤ 629837 ∧ slots + 6 ≤ 7206592)
    (K : ∀ (S' : zM) (ls' : Array Slot), zInv S' (n + 1) → lv_has ls' 9 [(0, .ref b), (1, .ref (za G 8 0)), (2, .ref (za G 9 0)), (3, .ref (za G 8 5)), (4, .int (zI i))] → ∀ (H1 : Heap) (locs1 : List Loc), zH G S' s H1 locs1 → W p l e room_1 s m args below meth c H1 locs1 (cells + 1) (slots + 6) Q (F0 m 1412 ls' [])) :
    W p l e room_1 s m args below meth c H locs cells slots Q (F0 m 288 ls []) := by
  have h := C.h
  have f := zRl_of hI (by omega)
  have hL := C.hL
  refine lv_aload_n h.1 h.2.1 dL_law_288 rfl (lv_at hls 1 rfl) ?_
  refine lv_aload_n h.1 h.2.1 dL_law_289 rfl (lv_at hls 0 rfl) ?_
  refine lv_iload h.1 h.2.1 dL_law_290 (lv_at hls 4 rfl) ?_
  refine zb_ic h dL_law_292 ?_
  refine zb_iadd h dL_law_293 ?_
  refine zld C hH (i := (i + 1)) (by omega) dL_law_294 ?_
  refine lv_aload_n h.1 h.2.1 dL_law_295 rfl (lv_at hls 0 rfl) ?_
  refine lv_iload h.1 h.2.1 dL_law_296 (lv_at hls 4 rfl) ?_
  refine zb_ic h dL_law_298 ?_
  refine zb_iadd h dL_law_299 ?_
  refine zld C hH (i := (i + 2)) (by omega) dL_law_300 ?_
  refine lv_aload_n h.1 h.2.1 dL_law_301 rfl (lv_at hls 3 rfl) ?_
  refine zcXS h C.hX hH (n := 4) (As := [.ref (za G 8 0), .int (zI (zx xs (i + 1))), .int (zI (zx xs (i + 2))), .ref (za G 8 5)]) (rest := []) (c_L_link l C.hl G h.2.2.2.2.2.2.2 S (zx xs (i + 1)) (zx_in _ _) (zx xs (i + 2)) (zx_in _ _) f.nx f.sz f.ms f.w) zc_L_link zn_L ⟨by decide, by decide⟩ (by decide +kernel) zt_L_link zm_L_90 hls.1 rfl rfl ⟨rfl, rfl⟩ ⟨Nat.le_of_ble_eq_true rfl, Nat.le_of_ble_eq_true rfl⟩ (Nat.le_of_ble_eq_true rfl) hcs dL_law_302 (fun r_1 S_1 H locs hq1 hH => ?_)
  have e9 := k9_link hq1
  have fx := zRx_of hI e9
  refine lv_istore (lv' := [(5, .int r_1), (0, .ref b), (1, .ref (za G 8 0)), (2, .ref (za G 9 0)), (3, .ref (za G 8 5)), (4, .int (zI i))]) h.1 h.2.1 dL_law_305 hls (by decide) rfl (fun ls hls => ?_)
  refine lv_aload_n h.1 h.2.1 dL_law_307 rfl (lv_at hls 3 rfl) ?_
  refine lv_aload_n h.1 h.2.1 dL_law_308 rfl (lv_at hls 1 rfl) ?_
  refine lv_iload h.1 h.2.1 dL_law_309 (lv_at hls 5 rfl) ?_
  refine zb_ic h dL_law_311 ?_
  refine zb_iadd h dL_law_312 ?_
  refine zld C hH (i := (i + 1)) (by omega) dL_law_313 ?_
  refine lv_aload_n h.1 h.2.1 dL_law_314 rfl (lv_at hls 1 rfl) ?_
  refine lv_iload h.1 h.2.1 dL_law_315 (lv_at hls 5 rfl) ?_
  refine zb_ic h dL_law_317 ?_
  refine zb_iadd h dL_law_318 ?_
  refine zld C hH (i := (i + 2)) (by omega) dL_law_319 ?_
  refine zcVi h hH (zr_5 h hH) (As := [.int (zI (zx xs (i + 1))), .int (zI (zx xs (i + 2)))]) (rest := []) (c_X5_link2 l G h.2.2.2.2.2.2.2 S_1 (zx xs (i + 1)) (zx_in _ _) (zx xs (i + 2)) (zx_in _ _) fx.sm fx.w) zce_X5_link zcv_X5_link zm_L_92 hls.1 rfl rfl ⟨rfl, rfl⟩ ⟨Nat.le_of_ble_eq_true rfl, Nat.le_of_ble_eq_true rfl⟩ (Nat.le_of_ble_eq_true rfl) hcs dL_law_320 (fun r_2 S_2 H locs hq2 hH => ?_)
  refine lv_istore (lv' := [(6, .int r_2), (5, .int r_1), (0, .ref b), (1, .ref (za G 8 0)), (2, .ref (za G 9 0)), (3, .ref (za G 8 5)), (4, .int (zI i))]) h.1 h.2.1 dL_law_323 hls (by decide) rfl (fun ls hls => ?_)
  exact ztail C (g_link hI hq1 hq2) hH hls hcs dL_law_325 dL_law_326 dL_law_329 dL_law_331 dL_law_336 dL_law_338 dL_law_341 dL_law_342 dL_law_343 dL_law_344 dL_law_346 dL_law_347 dL_law_348 dL_law_353 (by decide) K
set_option maxHeartbeats 4000000 in
set_option maxRecDepth 100000 in
theorem law_expose (C : zLw p l s m args meth c G b L xs) {S : zM} {n i : Int} {H : Heap} {locs : List Loc} {cells slots : Nat} {ls : Array Slot} (hI : zInv S n) (hn : n ≤ 600) (hi : 0 ≤ i ∧ i + 4 < L) (hH : zH G S s H locs) (hls : lv_has ls 9 [(0, .ref b), (1, .ref (za G 8 0)), (2, .ref (za G 9 0)), (3, .ref (za G 8 5)), (4, .int (zI i))]) (hcs : cells + 1 ≤ 629837 ∧ slots + 6 ≤ 7206592)
    (K : ∀ (S' : zM) (ls' : Array Slot), zInv S' (n + 1) → lv_has ls' 9 [(0, .ref b), (1, .ref (za G 8 0)), (2, .ref (za G 9 0)), (3, .ref (za G 8 5)), (4, .int (zI i))] → ∀ (H1 : Heap) (locs1 : List Loc), zH G S' s H1 locs1 → W p l e room_1 s m args below meth c H1 locs1 (cells + 1) (slots + 6) Q (F0 m 1412 ls' [])) :
    W p l e room_1 s m args below meth c H locs cells slots Q (F0 m 356 ls []) := by
  have h := C.h
  have f := zRl_of hI (by omega)
  have hL := C.hL
  refine lv_aload_n h.1 h.2.1 dL_law_356 rfl (lv_at hls 1 rfl) ?_
  refine lv_aload_n h.1 h.2.1 dL_law_357 rfl (lv_at hls 0 rfl) ?_
  refine lv_iload h.1 h.2.1 dL_law_358 (lv_at hls 4 rfl) ?_
  refine zb_ic h dL_law_360 ?_
  refine zb_iadd h dL_law_361 ?_
  refine zld C hH (i := (i + 1)) (by omega) dL_law_362 ?_
  refine lv_aload_n h.1 h.2.1 dL_law_363 rfl (lv_at hls 3 rfl) ?_
  refine zcXS h C.hX hH (n := 3) (As := [.ref (za G 8 0), .int (zI (zx xs (i + 1))), .ref (za G 8 5)]) (rest := []) (c_L_expose l C.hl G h.2.2.2.2.2.2.2 S (zx xs (i + 1)) (zx_in _ _) f.nx f.sz f.ms f.w) zc_L_expose zn_L ⟨by decide, by decide⟩ (by decide +kernel) zt_L_expose zm_L_93 hls.1 rfl rfl ⟨rfl, rfl⟩ ⟨Nat.le_of_ble_eq_true rfl, Nat.le_of_ble_eq_true rfl⟩ (Nat.le_of_ble_eq_true rfl) hcs dL_law_364 (fun r_1 S_1 H locs hq1 hH => ?_)
  have e9 := k9_expose hq1
  have fx := zRx_of hI e9
  refine lv_istore (lv' := [(5, .int r_1), (0, .ref b), (1, .ref (za G 8 0)), (2, .ref (za G 9 0)), (3, .ref (za G 8 5)), (4, .int (zI i))]) h.1 h.2.1 dL_law_367 hls (by decide) rfl (fun ls hls => ?_)
  refine lv_aload_n h.1 h.2.1 dL_law_369 rfl (lv_at hls 3 rfl) ?_
  refine lv_aload_n h.1 h.2.1 dL_law_370 rfl (lv_at hls 1 rfl) ?_
  refine lv_iload h.1 h.2.1 dL_law_371 (lv_at hls 5 rfl) ?_
  refine zb_ic h dL_law_373 ?_
  refine zb_iadd h dL_law_374 ?_
  refine zld C hH (i := (i + 1)) (by omega) dL_law_375 ?_
  refine zcVi h hH (zr_5 h hH) (As := [.int (zI (zx xs (i + 1)))]) (rest := []) (c_X5_expose l G h.2.2.2.2.2.2.2 S_1 (zx xs (i + 1)) (zx_in _ _) fx.sm fx.w) zce_X5_expose zcv_X5_expose zm_L_96 hls.1 rfl rfl ⟨rfl, rfl⟩ ⟨Nat.le_of_ble_eq_true rfl, Nat.le_of_ble_eq_true rfl⟩ (Nat.le_of_ble_eq_true rfl) hcs dL_law_376 (fun r_2 S_2 H locs hq2 hH => ?_)
  refine lv_istore (lv' := [(6, .int r_2), (5, .int r_1), (0, .ref b), (1, .ref (za G 8 0)), (2, .ref (za G 9 0)), (3, .ref (za G 8 5)), (4, .int (zI i))]) h.1 h.2.1 dL_law_379 hls (by decide) rfl (fun ls hls => ?_)
  exact ztail C (g_expose hI hq1 hq2) hH hls hcs dL_law_381 dL_law_382 dL_law_385 dL_law_387 dL_law_392 dL_law_394 dL_law_397 dL_law_398 dL_law_399 dL_law_400 dL_law_402 dL_law_403 dL_law_404 dL_law_409 (by decide) K
end ZW
