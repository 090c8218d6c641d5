/-! the law: cases 5 -/
theorem dL_law_1208 : decode code 1208 = .ok (.aload_n 1, 1) := by decide +kernel
theorem dL_law_1209 : decode code 1209 = .ok (.invokevirtual 151, 3) := by decide +kernel
theorem dL_law_1212 : decode code 1212 = .ok (.aload_n 2, 1) := by decide +kernel
theorem dL_law_1213 : decode code 1213 = .ok (.invokevirtual 154, 3) := by decide +kernel
theorem dL_law_1216 : decode code 1216 = .ok (.if_icmp .eq 196, 3) := by decide +kernel
theorem dL_law_1219 : decode code 1219 = .ok (.iconst 0, 1) := by decide +kernel
theorem dL_law_1220 : decode code 1220 = .ok (.ireturn, 1) := by decide +kernel
theorem dL_law_1221 : decode code 1221 = .ok (.aload_n 1, 1) := by decide +kernel
theorem dL_law_1222 : decode code 1222 = .ok (.aload_n 0, 1) := by decide +kernel
theorem dL_law_1223 : decode code 1223 = .ok (.iload 4, 2) := by decide +kernel
theorem dL_law_1225 : decode code 1225 = .ok (.iconst 1, 1) := by decide +kernel
theorem dL_law_1226 : decode code 1226 = .ok (.iadd, 1) := by decide +kernel
theorem dL_law_1227 : decode code 1227 = .ok (.iaload, 1) := by decide +kernel
theorem dL_law_1228 : decode code 1228 = .ok (.aload_n 0, 1) := by decide +kernel
theorem dL_law_1229 : decode code 1229 = .ok (.iload 4, 2) := by decide +kernel
theorem dL_law_1231 : decode code 1231 = .ok (.iconst 2, 1) := by decide +kernel
theorem dL_law_1232 : decode code 1232 = .ok (.iadd, 1) := by decide +kernel
theorem dL_law_1233 : decode code 1233 = .ok (.iaload, 1) := by decide +kernel
theorem dL_law_1234 : decode code 1234 = .ok (.aload_n 0, 1) := by decide +kernel
theorem dL_law_1235 : decode code 1235 = .ok (.iload 4, 2) := by decide +kernel
theorem dL_law_1237 : decode code 1237 = .ok (.iconst 3, 1) := by decide +kernel
theorem dL_law_1238 : decode code 1238 = .ok (.iadd, 1) := by decide +kernel
theorem dL_law_1239 : decode code 1239 = .ok (.iaload, 1) := by decide +kernel
theorem dL_law_1240 : decode code 1240 = .ok (.aload_n 3, 1) := by decide +kernel
theorem dL_law_1241 : decode code 1241 = .ok (.invokestatic 155, 3) := by decide +kernel
theorem dL_law_1244 : decode code 1244 = .ok (.istore 5, 2) := by decide +kernel
theorem dL_law_1246 : decode code 1246 = .ok (.aload_n 2, 1) := by decide +kernel
theorem dL_law_1247 : decode code 1247 = .ok (.aload_n 0, 1) := by decide +kernel
theorem dL_law_1248 : decode code 1248 = .ok (.iload 4, 2) := by decide +kernel
theorem dL_law_1250 : decode code 1250 = .ok (.iconst 1, 1) := by decide +kernel
theorem dL_law_1251 : decode code 1251 = .ok (.iadd, 1) := by decide +kernel
theorem dL_law_1252 : decode code 1252 = .ok (.iaload, 1) := by decide +kernel
theorem dL_law_1253 : decode code 1253 = .ok (.aload_n 0, 1) := by decide +kernel
theorem dL_law_1254 : decode code 1254 = .ok (.iload 4, 2) := by decide +kernel
theorem dL_law_1256 : decode code 1256 = .ok (.iconst 2, 1) := by decide +kernel
theorem dL_law_1257 : decode code 1257 = .ok (.iadd, 1) := by decide +kernel
theorem dL_law_1258 : decode code 1258 = .ok (.iaload, 1) := by decide +kernel
theorem dL_law_1259 : decode code 1259 = .ok (.aload_n 0, 1) := by decide +kernel
theorem dL_law_1260 : decode code 1260 = .ok (.iload 4, 2) := by decide +kernel
theorem dL_law_1262 : decode code 1262 = .ok (.iconst 3, 1) := by decide +kernel
theorem dL_law_1263 : decode code 1263 = .ok (.iadd, 1) := by decide +kernel
theorem dL_law_1264 : decode code 1264 = .ok (.iaload, 1) := by decide +kernel
theorem dL_law_1265 : decode code 1265 = .ok (.invokevirtual 158, 3) := by decide +kernel
theorem dL_law_1268 : decode code 1268 = .ok (.istore 6, 2) := by decide +kernel
theorem dL_law_1270 : decode code 1270 = .ok (.aload_n 2, 1) := by decide +kernel
theorem dL_law_1271 : decode code 1271 = .ok (.invokevirtual 84, 3) := by decide +kernel
theorem dL_law_1274 : decode code 1274 = .ok (.iload 5, 2) := by decide +kernel
theorem dL_law_1276 : decode code 1276 = .ok (.if_icmp .eq 5, 3) := by decide +kernel
theorem dL_law_1279 : decode code 1279 = .ok (.iconst 0, 1) := by decide +kernel
theorem dL_law_1280 : decode code 1280 = .ok (.ireturn, 1) := by decide +kernel
theorem dL_law_1281 : decode code 1281 = .ok (.iload 5, 2) := by decide +kernel
theorem dL_law_1283 : decode code 1283 = .ok (.ifCond .ne 15, 3) := by decide +kernel
theorem dL_law_1286 : decode code 1286 = .ok (.aload_n 3, 1) := by decide +kernel
theorem dL_law_1287 : decode code 1287 = .ok (.iconst 0, 1) := by decide +kernel
theorem dL_law_1288 : decode code 1288 = .ok (.laload, 1) := by decide +kernel
theorem dL_law_1289 : decode code 1289 = .ok (.iload 6, 2) := by decide +kernel
theorem dL_law_1291 : decode code 1291 = .ok (.i2l, 1) := by decide +kernel
theorem dL_law_1292 : decode code 1292 = .ok (.lcmp, 1) := by decide +kernel
theorem dL_law_1293 : decode code 1293 = .ok (.ifCond .eq 5, 3) := by decide +kernel
theorem dL_law_1296 : decode code 1296 = .ok (.iconst 0, 1) := by decide +kernel
theorem dL_law_1297 : decode code 1297 = .ok (.ireturn, 1) := by decide +kernel
theorem dL_law_1298 : decode code 1298 = .ok (.goto 114, 3) := by decide +kernel
theorem dL_law_1301 : decode code 1301 = .ok (.aload_n 1, 1) := by decide +kernel
theorem dL_law_1302 : decode code 1302 = .ok (.aload_n 0, 1) := by decide +kernel
theorem dL_law_1303 : decode code 1303 = .ok (.iload 4, 2) := by decide +kernel
theorem dL_law_1305 : decode code 1305 = .ok (.iconst 1, 1) := by decide +kernel
theorem dL_law_1306 : decode code 1306 = .ok (.iadd, 1) := by decide +kernel
theorem dL_law_1307 : decode code 1307 = .ok (.iaload, 1) := by decide +kernel
theorem dL_law_1308 : decode code 1308 = .ok (.aload_n 3, 1) := by decide +kernel
theorem dL_law_1309 : decode code 1309 = .ok (.invokestatic 159, 3) := by decide +kernel
theorem dL_law_1312 : decode code 1312 = .ok (.istore 5, 2) := by decide +kernel
theorem dL_law_1314 : decode code 1314 = .ok (.aload_n 2, 1) := by decide +kernel
theorem dL_law_1315 : decode code 1315 = .ok (.aload_n 0, 1) := by decide +kernel
theorem dL_law_1316 : decode code 1316 = .ok (.iload 4, 2) := by decide +kernel
theorem dL_law_1318 : decode code 1318 = .ok (.iconst 1, 1) := by decide +kernel
theorem dL_law_1319 : decode code 1319 = .ok (.iadd, 1) := by decide +kernel
theorem dL_law_1320 : decode code 1320 = .ok (.iaload, 1) := by decide +kernel
theorem dL_law_1321 : decode code 1321 = .ok (.invokevirtual 161, 3) := by decide +kernel
theorem dL_law_1324 : decode code 1324 = .ok (.istore 6, 2) := by decide +kernel
theorem dL_law_1326 : decode code 1326 = .ok (.aload_n 2, 1) := by decide +kernel
theorem dL_law_1327 : decode code 1327 = .ok (.invokevirtual 84, 3) := by decide +kernel
theorem dL_law_1330 : decode code 1330 = .ok (.iload 5, 2) := by decide +kernel
theorem dL_law_1332 : decode code 1332 = .ok (.if_icmp .eq 5, 3) := by decide +kernel
theorem dL_law_1335 : decode code 1335 = .ok (.iconst 0, 1) := by decide +kernel
theorem dL_law_1336 : decode code 1336 = .ok (.ireturn, 1) := by decide +kernel
theorem dL_law_1337 : decode code 1337 = .ok (.iload 5, 2) := by decide +kernel
theorem dL_law_1339 : decode code 1339 = .ok (.ifCond .ne 15, 3) := by decide +kernel
theorem dL_law_1342 : decode code 1342 = .ok (.aload_n 3, 1) := by decide +kernel
theorem dL_law_1343 : decode code 1343 = .ok (.iconst 0, 1) := by decide +kernel
theorem dL_law_1344 : decode code 1344 = .ok (.laload, 1) := by decide +kernel
theorem dL_law_1345 : decode code 1345 = .ok (.iload 6, 2) := by decide +kernel
theorem dL_law_1347 : decode code 1347 = .ok (.i2l, 1) := by decide +kernel
theorem dL_law_1348 : decode code 1348 = .ok (.lcmp, 1) := by decide +kernel
theorem dL_law_1349 : decode code 1349 = .ok (.ifCond .eq 5, 3) := by decide +kernel
theorem dL_law_1352 : decode code 1352 = .ok (.iconst 0, 1) := by decide +kernel
theorem dL_law_1353 : decode code 1353 = .ok (.ireturn, 1) := by decide +kernel
theorem dL_law_1354 : decode code 1354 = .ok (.goto 58, 3) := by decide +kernel
theorem dL_law_1357 : decode code 1357 = .ok (.aload_n 1, 1) := by decide +kernel
theorem dL_law_1358 : decode code 1358 = .ok (.invokevirtual 162, 3) := by decide +kernel
theorem dL_law_1361 : decode code 1361 = .ok (.dstore 5, 2) := by decide +kernel
theorem dL_law_1363 : decode code 1363 = .ok (.aload_n 2, 1) := by decide +kernel
theorem dL_law_1364 : decode code 1364 = .ok (.invokevirtual 166, 3) := by decide +kernel
theorem dL_law_1367 : decode code 1367 = .ok (.dstore 7, 2) := by decide +kernel
theorem dL_law_1369 : decode code 1369 = .ok (.dload 5, 2) := by decide +kernel
theorem dL_law_1371 : decode code 1371 = .ok (.dload 7, 2) := by decide +kernel
theorem dL_law_1373 : decode code 1373 = .ok (.dcmp .l, 1) := by decide +kernel
theorem dL_law_1374 : decode code 1374 = .ok (.ifCond .eq 21, 3) := by decide +kernel
theorem dL_law_1377 : decode code 1377 = .ok (.dload 5, 2) := by decide +kernel
theorem dL_law_1379 : decode code 1379 = .ok (.dload 5, 2) := by decide +kernel
theorem dL_law_1381 : decode code 1381 = .ok (.dcmp .l, 1) := by decide +kernel
theorem dL_law_1382 : decode code 1382 = .ok (.ifCond .eq 11, 3) := by decide +kernel
theorem dL_law_1385 : decode code 1385 = .ok (.dload 7, 2) := by decide +kernel
theorem dL_law_1387 : decode code 1387 = .ok (.dload 7, 2) := by decide +kernel
theorem dL_law_1389 : decode code 1389 = .ok (.dcmp .l, 1) := by decide +kernel
theorem dL_law_1390 : decode code 1390 = .ok (.ifCond .ne 5, 3) := by decide +kernel
theorem dL_law_1393 : decode code 1393 = .ok (.iconst 0, 1) := by decide +kernel
theorem dL_law_1394 : decode code 1394 = .ok (.ireturn, 1) := by decide +kernel
theorem dL_law_1395 : decode code 1395 = .ok (.goto 17, 3) := by decide +kernel
theorem dL_law_1398 : decode code 1398 = .ok (.aload_n 1, 1) := by decide +kernel
theorem dL_law_1399 : decode code 1399 = .ok (.invokevirtual 167, 3) := by decide +kernel
theorem dL_law_1402 : decode code 1402 = .ok (.aload_n 2, 1) := by decide +kernel
theorem dL_law_1403 : decode code 1403 = .ok (.invokevirtual 171, 3) := by decide +kernel
theorem dL_law_1406 : decode code 1406 = .ok (.lcmp, 1) := by decide +kernel
theorem dL_law_1407 : decode code 1407 = .ok (.ifCond .eq 5, 3) := by decide +kernel
theorem dL_law_1410 : decode code 1410 = .ok (.iconst 0, 1) := by decide +kernel
theorem dL_law_1411 : decode code 1411 = .ok (.ireturn, 1) := by decide +kernel
section ZW
variable {p : Program} {l : Launch} {e : Env} {s : State} {m : MethodId} {args : Array Value} {below : List Frame} {meth : Method} {c : Code} {Q : State → Prop} {G : zG} {b L : Nat} {xs : Nat → Int32}

theorem zlg0 (r : Int64) : lg_cmp r r = zI 0 := by
  unfold lg_cmp
  rw [if_neg (fun q : r > r => Int64.lt_irrefl q), if_pos rfl]
  decide +kernel
theorem zdc1 : ∀ n, n < 9 → ∀ q, q < 9 → n < q ∨ Op.cmpValue (FP.dcmp (zShv (q : Nat) (n : Nat)) (zShv (q : Nat) (n : Nat))) .l = zI 0 := by decide +kernel
theorem zdc0 {q n : Int} (hn : 0 ≤ n ∧ n ≤ 8) (hq : 0 ≤ q ∧ q ≤ n) : Op.cmpValue (FP.dcmp (zShv q n) (zShv q n)) .l = zI 0 := by
  obtain ⟨n', rfl⟩ := Int.eq_ofNat_of_zero_le hn.1
  obtain ⟨q', rfl⟩ := Int.eq_ofNat_of_zero_le hq.1
  exact (zdc1 n' (by omega) q' (by omega)).resolve_left (by omega)
set_option maxHeartbeats 4000000 in
set_option maxRecDepth 100000 in
theorem law_bestGrade (C : zLw p l s m args meth c G b L xs) {S : zM} {n i : Int} {H : Heap} {locs : List Loc} {cells slots : Nat} {ls : Array Slot} (hI : zInv S n) (hn : n ≤ 600) (hi : 0 ≤ i ∧ i + 4 < L) (hH : zH G S s H locs) (hls : lv_has ls 9 [(0, .ref b), (1, .ref (za G 8 0)), (2, .ref (za G 9 0)), (3, .ref (za G 8 5)), (4, .int (zI i))]) (hcs : cells + 1 ≤ 629837 ∧ slots + 6 ≤ 7206592)
    (K : ∀ (S' : zM) (ls' : Array Slot), zInv S' (n + 1) → lv_has ls' 9 [(0, .ref b), (1, .ref (za G 8 0)), (2, .ref (za G 9 0)), (3, .ref (za G 8 5)), (4, .int (zI i))] → ∀ (H1 : Heap) (locs1 : List Loc), zH G S' s H1 locs1 → W p l e room_1 s m args below meth c H1 locs1 (cells + 1) (slots + 6) Q (F0 m 1412 ls' [])) :
    W p l e room_1 s m args below meth c H locs cells slots Q (F0 m 1208 ls []) := by
  have h := C.h
  have f := zRl_of hI (by omega)
  have hL := C.hL
  refine lv_aload_n h.1 h.2.1 dL_law_1208 rfl (lv_at hls 1 rfl) ?_
  refine zcVi h hH (zr_4 h hH) (As := []) (rest := []) (c_X4_bestGrade l G h.2.2.2.2.2.2.2 S f.w) zce_X4_bestGrade zcv_X4_bestGrade zm_L_151 hls.1 rfl rfl ⟨rfl, rfl⟩ ⟨Nat.le_of_ble_eq_true rfl, Nat.le_of_ble_eq_true rfl⟩ (Nat.le_of_ble_eq_true rfl) ⟨Nat.le_of_succ_le hcs.1, Nat.le_trans (Nat.le_add_right _ 6) hcs.2⟩ dL_law_1209 (fun r_1 S_1 H locs hq1 hH => ?_)
  have e9 := k9_bestGrade hq1
  have fx := zRx_of hI e9
  refine lv_aload_n h.1 h.2.1 dL_law_1212 rfl (lv_at hls 2 rfl) ?_
  refine zcVi h hH (zr_5 h hH) (As := []) (rest := [.int r_1]) (c_X5_bestGrade l G h.2.2.2.2.2.2.2 S_1 fx.nl fx.w) zce_X5_bestGrade zcv_X5_bestGrade zm_L_154 hls.1 rfl rfl ⟨rfl, rfl⟩ ⟨Nat.le_of_ble_eq_true rfl, Nat.le_of_ble_eq_true rfl⟩ (Nat.le_of_ble_eq_true rfl) ⟨Nat.le_of_succ_le hcs.1, Nat.le_trans (Nat.le_add_right _ 6) hcs.2⟩ dL_law_1213 (fun r_2 S_2 H locs hq2 hH => ?_)
  obtain ⟨er, hI2⟩ := g_bestGrade hI hq1 hq2
  subst er
  refine lv_icmp_eq (tgt := 1412) h.1 h.2.1 dL_law_1216 (by decide) (fun _ => ?_) (fun c9 => absurd rfl c9)
  refine W.widen (k := cells + 1) (n := slots + 6) (by omega) (by omega) ?_
  exact K S_2 ls hI2 hls H locs hH
set_option maxHeartbeats 4000000 in
set_option maxRecDepth 100000 in
theorem law_ifBurned (C : zLw p l s m args meth c G b L xs) {S : zM} {n i : Int} {H : Heap} {locs : List Loc} {cells slots : Nat} {ls : Array Slot} (hI : zInv S n) (hn : n ≤ 600) (hi : 0 ≤ i ∧ i + 4 < L) (hH : zH G S s H locs) (hls : lv_has ls 9 [(0, .ref b), (1, .ref (za G 8 0)), (2, .ref (za G 9 0)), (3, .ref (za G 8 5)), (4, .int (zI i))]) (hcs : cells + 1 ≤ 629837 ∧ slots + 6 ≤ 7206592)
    (K : ∀ (S' : zM) (ls' : Array Slot), zInv S' (n + 1) → lv_has ls' 9 [(0, .ref b), (1, .ref (za G 8 0)), (2, .ref (za G 9 0)), (3, .ref (za G 8 5)), (4, .int (zI i))] → ∀ (H1 : Heap) (locs1 : List Loc), zH G S' s H1 locs1 → W p l e room_1 s m args below meth c H1 locs1 (cells + 1) (slots + 6) Q (F0 m 1412 ls' [])) :
    W p l e room_1 s m args below meth c H locs cells slots Q (F0 m 1221 ls []) := by
  have h := C.h
  have f := zRl_of hI (by omega)
  have hL := C.hL
  refine lv_aload_n h.1 h.2.1 dL_law_1221 rfl (lv_at hls 1 rfl) ?_
  refine lv_aload_n h.1 h.2.1 dL_law_1222 rfl (lv_at hls 0 rfl) ?_
  refine lv_iload h.1 h.2.1 dL_law_1223 (lv_at hls 4 rfl) ?_
  refine zb_ic h dL_law_1225 ?_
  refine zb_iadd h dL_law_1226 ?_
  refine zld C hH (i := (i + 1)) (by omega) dL_law_1227 ?_
  refine lv_aload_n h.1 h.2.1 dL_law_1228 rfl (lv_at hls 0 rfl) ?_
  refine lv_iload h.1 h.2.1 dL_law_1229 (lv_at hls 4 rfl) ?_
  refine zb_ic h dL_law_1231 ?_
  refine zb_iadd h dL_law_1232 ?_
  refine zld C hH (i := (i + 2)) (by omega) dL_law_1233 ?_
  refine lv_aload_n h.1 h.2.1 dL_law_1234 rfl (lv_at hls 0 rfl) ?_
  refine lv_iload h.1 h.2.1 dL_law_1235 (lv_at hls 4 rfl) ?_
  refine zb_ic h dL_law_1237 ?_
  refine zb_iadd h dL_law_1238 ?_
  refine zld C hH (i := (i + 3)) (by omega) dL_law_1239 ?_
  refine lv_aload_n h.1 h.2.1 dL_law_1240 rfl (lv_at hls 3 rfl) ?_
  refine zcXS h C.hX hH (n := 5) (As := [.ref (za G 8 0), .int (zI (zx xs (i + 1))), .int (zI (zx xs (i + 2))), .int (zI (zx xs (i + 3))), .ref (za G 8 5)]) (rest := []) (c_L_ifBurned l C.hl G h.2.2.2.2.2.2.2 S (zx xs (i + 1)) (zx_in _ _) (zx xs (i + 2)) (zx_in _ _) (zx xs (i + 3)) (zx_in _ _) f.w) zc_L_ifBurned zn_L ⟨by decide, by decide⟩ (by decide +kernel) zt_L_ifBurned zm_L_155 hls.1 rfl rfl ⟨rfl, rfl⟩ ⟨Nat.le_of_ble_eq_true rfl, Nat.le_of_ble_eq_true rfl⟩ (Nat.le_of_ble_eq_true rfl) hcs dL_law_1241 (fun r_1 S_1 H locs hq1 hH => ?_)
  have e9 := k9_ifBurned hq1
  have fx := zRx_of hI e9
  refine lv_istore (lv' := [(5, .int r_1), (0, .ref b), (1, .ref (za G 8 0)), (2, .ref (za G 9 0)), (3, .ref (za G 8 5)), (4, .int (zI i))]) h.1 h.2.1 dL_law_1244 hls (by decide) rfl (fun ls hls => ?_)
  refine lv_aload_n h.1 h.2.1 dL_law_1246 rfl (lv_at hls 3 rfl) ?_
  refine lv_aload_n h.1 h.2.1 dL_law_1247 rfl (lv_at hls 1 rfl) ?_
  refine lv_iload h.1 h.2.1 dL_law_1248 (lv_at hls 5 rfl) ?_
  refine zb_ic h dL_law_1250 ?_
  refine zb_iadd h dL_law_1251 ?_
  refine zld C hH (i := (i + 1)) (by omega) dL_law_1252 ?_
  refine lv_aload_n h.1 h.2.1 dL_law_1253 rfl (lv_at hls 1 rfl) ?_
  refine lv_iload h.1 h.2.1 dL_law_1254 (lv_at hls 5 rfl) ?_
  refine zb_ic h dL_law_1256 ?_
  refine zb_iadd h dL_law_1257 ?_
  refine zld C hH (i := (i + 2)) (by omega) dL_law_1258 ?_
  refine lv_aload_n h.1 h.2.1 dL_law_1259 rfl (lv_at hls 1 rfl) ?_
  refine lv_iload h.1 h.2.1 dL_law_1260 (lv_at hls 5 rfl) ?_
  refine zb_ic h dL_law_1262 ?_
  refine zb_iadd h dL_law_1263 ?_
  refine zld C hH (i := (i + 3)) (by omega) dL_law_1264 ?_
  refine zcVi h hH (zr_5 h hH) (As := [.int (zI (zx xs (i + 1))), .int (zI (zx xs (i + 2))), .int (zI (zx xs (i + 3)))]) (rest := []) (c_X5_ifBurned l G h.2.2.2.2.2.2.2 S_1 (zx xs (i + 1)) (zx_in _ _) (zx xs (i + 2)) (zx_in _ _) (zx xs (i + 3)) (zx_in _ _) fx.w) zce_X5_ifBurned zcv_X5_ifBurned zm_L_158 hls.1 rfl rfl ⟨rfl, rfl⟩ ⟨Nat.le_of_ble_eq_true rfl, Nat.le_of_ble_eq_true rfl⟩ (Nat.le_of_ble_eq_true rfl) hcs dL_law_1265 (fun r_2 S_2 H locs hq2 hH => ?_)
  refine lv_istore (lv' := [(6, .int r_2), (5, .int r_1), (0, .ref b), (1, .ref (za G 8 0)), (2, .ref (za G 9 0)), (3, .ref (za G 8 5)), (4, .int (zI i))]) h.1 h.2.1 dL_law_1268 hls (by decide) rfl (fun ls hls => ?_)
  exact ztail C (g_ifBurned hI hq1 hq2) hH hls hcs dL_law_1270 dL_law_1271 dL_law_1274 dL_law_1276 dL_law_1281 dL_law_1283 dL_law_1286 dL_law_1287 dL_law_1288 dL_law_1289 dL_law_1291 dL_law_1292 dL_law_1293 dL_law_1298 (by decide) K
set_option maxHeartbeats 4000000 in
set_option maxRecDepth 100000 in
theorem law_common (C : zLw p l s m args meth c G b L xs) {S : zM} {n i : Int} {H : Heap} {locs : List Loc} {cells slots : Nat} {ls : Array Slot} (hI : zInv S n) (hn : n ≤ 600) (hi : 0 ≤ i ∧ i + 4 < L) (hH : zH G S s H locs) (hls : lv_has ls 9 [(0, .ref b), (1, .ref (za G 8 0)), (2, .ref (za G 9 0)), (3, .ref (za G 8 5)), (4, .int (zI i))]) (hcs : cells + 1 ≤ 629837 ∧ slots + 6 ≤ 7206592)
    (K : ∀ (S' : zM) (ls' : Array Slot), zInv S' (n + 1) → lv_has ls' 9 [(0, .ref b), (1, .ref (za G 8 0)), (2, .ref (za G 9 0)), (3, .ref (za G 8 5)), (4, .int (zI i))] → ∀ (H1 : Heap) (locs1 : List Loc), zH G S' s H1 locs1 → W p l e room_1 s m args below meth c H1 locs1 (cells + 1) (slots + 6) Q (F0 m 1412 ls' [])) :
    W p l e room_1 s m args below meth c H locs cells slots Q (F0 m 1301 ls []) := by
  have h := C.h
  have f := zRl_of hI (by omega)
  have hL := C.hL
  refine lv_aload_n h.1 h.2.1 dL_law_1301 rfl (lv_at hls 1 rfl) ?_
  refine lv_aload_n h.1 h.2.1 dL_law_1302 rfl (lv_at hls 0 rfl) ?_
  refine lv_iload h.1 h.2.1 dL_law_1303 (lv_at hls 4 rfl) ?_
  refine zb_ic h dL_law_1305 ?_
  refine zb_iadd h dL_law_1306 ?_
  refine zld C hH (i := (i + 1)) (by omega) dL_law_1307 ?_
  refine lv_aload_n h.1 h.2.1 dL_law_1308 rfl (lv_at hls 3 rfl) ?_
  refine zcXS h C.hX hH (n := 3) (As := [.ref (za G 8 0), .int (zI (zx xs (i + 1))), .ref (za G 8 5)]) (rest := []) (c_L_common l C.hl G h.2.2.2.2.2.2.2 S (zx xs (i + 1)) (zx_in _ _) f.ms f.w) zc_L_common zn_L ⟨by decide, by decide⟩ (by decide +kernel) zt_L_common zm_L_159 hls.1 rfl rfl ⟨rfl, rfl⟩ ⟨Nat.le_of_ble_eq_true rfl, Nat.le_of_ble_eq_true rfl⟩ (Nat.le_of_ble_eq_true rfl) hcs dL_law_1309 (fun r_1 S_1 H locs hq1 hH => ?_)
  have e9 := k9_common hq1
  have fx := zRx_of hI e9
  refine lv_istore (lv' := [(5, .int r_1), (0, .ref b), (1, .ref (za G 8 0)), (2, .ref (za G 9 0)), (3, .ref (za G 8 5)), (4, .int (zI i))]) h.1 h.2.1 dL_law_1312 hls (by decide) rfl (fun ls hls => ?_)
  refine lv_aload_n h.1 h.2.1 dL_law_1314 rfl (lv_at hls 3 rfl) ?_
  refine lv_aload_n h.1 h.2.1 dL_law_1315 rfl (lv_at hls 1 rfl) ?_
  refine lv_iload h.1 h.2.1 dL_law_1316 (lv_at hls 5 rfl) ?_
  refine zb_ic h dL_law_1318 ?_
  refine zb_iadd h dL_law_1319 ?_
  refine zld C hH (i := (i + 1)) (by omega) dL_law_1320 ?_
  refine zcVi h hH (zr_5 h hH) (As := [.int (zI (zx xs (i + 1)))]) (rest := []) (c_X5_common l G h.2.2.2.2.2.2.2 S_1 (zx xs (i + 1)) (zx_in _ _) fx.w) zce_X5_common zcv_X5_common zm_L_161 hls.1 rfl rfl ⟨rfl, rfl⟩ ⟨Nat.le_of_ble_eq_true rfl, Nat.le_of_ble_eq_true rfl⟩ (Nat.le_of_ble_eq_true rfl) hcs dL_law_1321 (fun r_2 S_2 H locs hq2 hH => ?_)
  refine lv_istore (lv' := [(6, .int r_2), (5, .int r_1), (0, .ref b), (1, .ref (za G 8 0)), (2, .ref (za G 9 0)), (3, .ref (za G 8 5)), (4, .int (zI i))]) h.1 h.2.1 dL_law_1324 hls (by decide) rfl (fun ls hls => ?_)
  exact ztail C (g_common hI hq1 hq2) hH hls hcs dL_law_1326 dL_law_1327 dL_law_1330 dL_law_1332 dL_law_1337 dL_law_1339 dL_law_1342 dL_law_1343 dL_law_1344 dL_law_1345 dL_law_1347 dL_law_1348 dL_law_1349 dL_law_1354 (by decide) K
set_option maxHeartbeats 4000000 in
set_option maxRecDepth 100000 in
theorem law_rightShare (C : zLw p l s m args meth c G b L xs) {S : zM} {n i : Int} {H : Heap} {locs : List Loc} {cells slots : Nat} {ls : Array Slot} (hI : zInv S n) (hn : n ≤ 600) (hi : 0 ≤ i ∧ i + 4 < L) (hH : zH G S s H locs) (hls : lv_has ls 9 [(0, .ref b), (1, .ref (za G 8 0)), (2, .ref (za G 9 0)), (3, .ref (za G 8 5)), (4, .int (zI i))]) (hcs : cells + 1 ≤ 629837 ∧ slots + 6 ≤ 7206592)
    (K : ∀ (S' : zM) (ls' : Array Slot), zInv S' (n + 1) → lv_has ls' 9 [(0, .ref b), (1, .ref (za G 8 0)), (2, .ref (za G 9 0)), (3, .ref (za G 8 5)), (4, .int (zI i))] → ∀ (H1 : Heap) (locs1 : List Loc), zH G S' s H1 locs1 → W p l e room_1 s m args below meth c H1 locs1 (cells + 1) (slots + 6) Q (F0 m 1412 ls' [])) :
    W p l e room_1 s m args below meth c H locs cells slots Q (F0 m 1357 ls []) := by
  have h := C.h
  have f := zRl_of hI (by omega)
  have hL := C.hL
  refine lv_aload_n h.1 h.2.1 dL_law_1357 rfl (lv_at hls 1 rfl) ?_
  refine zcVd h hH (zr_4 h hH) (As := []) (rest := []) (c_X4_rightShare l G h.2.2.2.2.2.2.2 S f.ms f.w) zce_X4_rightShare zcv_X4_rightShare zm_L_162 hls.1 rfl rfl ⟨rfl, rfl⟩ ⟨Nat.le_of_ble_eq_true rfl, Nat.le_of_ble_eq_true rfl⟩ (Nat.le_of_ble_eq_true rfl) ⟨Nat.le_of_succ_le hcs.1, Nat.le_trans (Nat.le_add_right _ 6) hcs.2⟩ dL_law_1358 (fun r_1 S_1 H locs hq1 hH => ?_)
  have e9 := k9_rightShare hq1
  have fx := zRx_of hI e9
  refine lv_dstore (lv' := [(5, .double r_1), (0, .ref b), (1, .ref (za G 8 0)), (2, .ref (za G 9 0)), (3, .ref (za G 8 5)), (4, .int (zI i))]) h.1 h.2.1 dL_law_1361 hls (by decide) rfl (fun ls hls => ?_)
  refine lv_aload_n h.1 h.2.1 dL_law_1363 rfl (lv_at hls 3 rfl) ?_
  refine zcVd h hH (zr_5 h hH) (As := []) (rest := []) (c_X5_rightShare l G h.2.2.2.2.2.2.2 S_1 fx.w) zce_X5_rightShare zcv_X5_rightShare zm_L_166 hls.1 rfl rfl ⟨rfl, rfl⟩ ⟨Nat.le_of_ble_eq_true rfl, Nat.le_of_ble_eq_true rfl⟩ (Nat.le_of_ble_eq_true rfl) ⟨Nat.le_of_succ_le hcs.1, Nat.le_trans (Nat.le_add_right _ 6) hcs.2⟩ dL_law_1364 (fun r_2 S_2 H locs hq2 hH => ?_)
  refine lv_dstore (lv' := [(7, .double r_2), (5, .double r_1), (0, .ref b), (1, .ref (za G 8 0)), (2, .ref (za G 9 0)), (3, .ref (za G 8 5)), (4, .int (zI i))]) h.1 h.2.1 dL_law_1367 hls (by decide) rfl (fun ls hls => ?_)
  obtain ⟨er, ev, hI2⟩ := g_rightShare hI hq1 hq2
  subst er
  subst ev
  refine lv_dload h.1 h.2.1 dL_law_1369 (lv_at hls 1 rfl) ?_
  refine lv_dload h.1 h.2.1 dL_law_1371 (lv_at hls 0 rfl) ?_
  have f4 := zW_4 f.w
  have fc := tCnt_in f.w 0
  have fc2 := tCnt_le f.w
  refine lv_dcmp h.1 h.2.1 dL_law_1373 ?_
  rw [zdc0 ⟨f4.1, f4.2⟩ (by omega)]
  refine zb_ieq (tgt := 1395) h (by omega) dL_law_1374 (by decide) (fun _ => ?_) (fun c9 => absurd rfl c9)
  refine lv_goto (tgt := 1412) h.1 h.2.1 dL_law_1395 (by decide) ?_
  refine W.widen (k := cells + 1) (n := slots + 6) (by omega) (by omega) ?_
  exact K S_2 ls hI2 (lv_sub hls [2, 3, 4, 5, 6] rfl) H locs hH
set_option maxHeartbeats 4000000 in
set_option maxRecDepth 100000 in
theorem law_digest (C : zLw p l s m args meth c G b L xs) {S : zM} {n i : Int} {H : Heap} {locs : List Loc} {cells slots : Nat} {ls : Array Slot} (hI : zInv S n) (hn : n ≤ 600) (hi : 0 ≤ i ∧ i + 4 < L) (hH : zH G S s H locs) (hls : lv_has ls 9 [(0, .ref b), (1, .ref (za G 8 0)), (2, .ref (za G 9 0)), (3, .ref (za G 8 5)), (4, .int (zI i))]) (hcs : cells + 1 ≤ 629837 ∧ slots + 6 ≤ 7206592)
    (K : ∀ (S' : zM) (ls' : Array Slot), zInv S' (n + 1) → lv_has ls' 9 [(0, .ref b), (1, .ref (za G 8 0)), (2, .ref (za G 9 0)), (3, .ref (za G 8 5)), (4, .int (zI i))] → ∀ (H1 : Heap) (locs1 : List Loc), zH G S' s H1 locs1 → W p l e room_1 s m args below meth c H1 locs1 (cells + 1) (slots + 6) Q (F0 m 1412 ls' [])) :
    W p l e room_1 s m args below meth c H locs cells slots Q (F0 m 1398 ls []) := by
  have h := C.h
  have f := zRl_of hI (by omega)
  have hL := C.hL
  refine lv_aload_n h.1 h.2.1 dL_law_1398 rfl (lv_at hls 1 rfl) ?_
  refine zcVl h hH (zr_4 h hH) (As := []) (rest := []) (c_X4_digest l G h.2.2.2.2.2.2.2 S f.len f.bf f.sz f.ok f.ms f.w) zce_X4_digest zcv_X4_digest zm_L_167 hls.1 rfl rfl ⟨rfl, rfl⟩ ⟨Nat.le_of_ble_eq_true rfl, Nat.le_of_ble_eq_true rfl⟩ (Nat.le_of_ble_eq_true rfl) ⟨Nat.le_of_succ_le hcs.1, Nat.le_trans (Nat.le_add_right _ 6) hcs.2⟩ dL_law_1399 (fun r_1 S_1 H locs hq1 hH => ?_)
  have e9 := k9_digest hq1
  have fx := zRx_of hI e9
  refine lv_aload_n h.1 h.2.1 dL_law_1402 rfl (lv_at hls 2 rfl) ?_
  refine zcVl h hH (zr_5 h hH) (As := []) (rest := [.long r_1]) (c_X5_digest l G h.2.2.2.2.2.2.2 S_1 fx.sm fx.len fx.tx fx.ok fx.w) zce_X5_digest zcv_X5_digest zm_L_171 hls.1 rfl rfl ⟨rfl, rfl⟩ ⟨Nat.le_of_ble_eq_true rfl, Nat.le_of_ble_eq_true rfl⟩ (Nat.le_of_ble_eq_true rfl) ⟨Nat.le_of_succ_le hcs.1, Nat.le_trans (Nat.le_add_right _ 6) hcs.2⟩ dL_law_1403 (fun r_2 S_2 H locs hq2 hH => ?_)
  obtain ⟨er, hI2⟩ := g_digest hI hq1 hq2
  subst er
  refine W.lcmp h.1 h.2.1 dL_law_1406 ?_
  rw [zlg0]
  refine zb_ieq (tgt := 1412) h (by omega) dL_law_1407 (by decide) (fun _ => ?_) (fun c9 => absurd rfl c9)
  refine W.widen (k := cells + 1) (n := slots + 6) (by omega) (by omega) ?_
  exact K S_2 ls hI2 hls H locs hH
end ZW
