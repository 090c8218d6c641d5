/-! the law's loop -/
theorem dL_law_0 : decode code 0 = .ok (.new 8, 3) := by decide +kernel
theorem dL_law_3 : decode code 3 = .ok (.dup, 1) := by decide +kernel
theorem dL_law_4 : decode code 4 = .ok (.invokespecial 74, 3) := by decide +kernel
theorem dL_law_7 : decode code 7 = .ok (.astore_n 1, 1) := by decide +kernel
theorem dL_law_8 : decode code 8 = .ok (.new 75, 3) := by decide +kernel
theorem dL_law_11 : decode code 11 = .ok (.dup, 1) := by decide +kernel
theorem dL_law_12 : decode code 12 = .ok (.invokespecial 77, 3) := by decide +kernel
theorem dL_law_15 : decode code 15 = .ok (.astore_n 2, 1) := by decide +kernel
theorem dL_law_16 : decode code 16 = .ok (.iconst 1, 1) := by decide +kernel
theorem dL_law_17 : decode code 17 = .ok (.newarray .long, 2) := by decide +kernel
theorem dL_law_19 : decode code 19 = .ok (.astore_n 3, 1) := by decide +kernel
theorem dL_law_20 : decode code 20 = .ok (.iconst 0, 1) := by decide +kernel
theorem dL_law_21 : decode code 21 = .ok (.istore 4, 2) := by decide +kernel
theorem dL_law_23 : decode code 23 = .ok (.iload 4, 2) := by decide +kernel
theorem dL_law_25 : decode code 25 = .ok (.aload_n 0, 1) := by decide +kernel
theorem dL_law_26 : decode code 26 = .ok (.arraylength, 1) := by decide +kernel
theorem dL_law_27 : decode code 27 = .ok (.iconst 5, 1) := by decide +kernel
theorem dL_law_28 : decode code 28 = .ok (.isub, 1) := by decide +kernel
theorem dL_law_29 : decode code 29 = .ok (.if_icmp .gt 1389, 3) := by decide +kernel
theorem dL_law_32 : decode code 32 = .ok (.aload_n 0, 1) := by decide +kernel
theorem dL_law_33 : decode code 33 = .ok (.iload 4, 2) := by decide +kernel
theorem dL_law_35 : decode code 35 = .ok (.iaload, 1) := by decide +kernel
theorem dL_law_36 : decode code 36 = .ok (.bipush 31, 2) := by decide +kernel
theorem dL_law_38 : decode code 38 = .ok (.iand, 1) := by decide +kernel
theorem dL_law_39 : decode code 39 = .ok (.tableswitch 1373 0 24 #[113, 181, 249, 317, 373, 441, 509, 577, 590, 646, 702, 715, 728, 772, 816, 884, 940, 1032, 1088, 1156, 1169, 1182, 1262, 1318, 1359], 113) := by decide +kernel
theorem dL_law_1412 : decode code 1412 = .ok (.iinc 4 5, 3) := by decide +kernel
theorem dL_law_1415 : decode code 1415 = .ok (.goto (-1392), 3) := by decide +kernel
theorem dL_law_1418 : decode code 1418 = .ok (.iconst 1, 1) := by decide +kernel
theorem dL_law_1419 : decode code 1419 = .ok (.ireturn, 1) := by decide +kernel
theorem inv_up {S : zM} {n : Int} (hI : zInv S n) : zInv S (n + 1) := by
  obtain ⟨iok, ims, i91, it, ird, ⟨i04, isz, inx1, inx2⟩, isv⟩ := hI
  exact ⟨iok, ims, i91, it, ird, ⟨i04, isz, inx1, by omega⟩, isv⟩
theorem zand_in (a b : Int) : -2147483648 ≤ zand a b ∧ zand a b ≤ 2147483647 := by
  have h1 := (zI a &&& zI b).le_toInt
  have h2 := (zI a &&& zI b).toInt_lt
  unfold zand; omega
section ZW
variable {p : Program} {l : Launch} {e : Env} {s : State} {m : MethodId} {args : Array Value} {below : List Frame} {meth : Method} {c : Code} {Q : State → Prop} {G : zG} {b L : Nat} {xs : Nat → Int32}

set_option maxHeartbeats 4000000 in
set_option maxRecDepth 100000 in
theorem law_loop (C : zLw p l s m args meth c G b L xs) (KE : ∀ (S : zM) (H : Heap) (locs : List Loc) (ls : Array Slot) (cells slots : Nat), cells ≤ 629837 → slots ≤ 7206592 → zH G S s H locs → W p l e room_1 s m args below meth c H locs cells slots Q (F0 m 1418 ls [])) :
    ∀ (fu : Nat) (n i : Int) (S : zM) (H : Heap) (locs : List Loc) (ls : Array Slot) (cells slots : Nat), (600 - n).toNat < fu → 0 ≤ n → i = 5 * n → n ≤ 512 → (cells : Int) ≤ 1000 + n ∧ (slots : Int) ≤ 10000 + 6 * n → zInv S n → zH G S s H locs → lv_has ls 9 [(0, .ref b), (1, .ref (za G 8 0)), (2, .ref (za G 9 0)), (3, .ref (za G 8 5)), (4, .int (zI i))] → W p l e room_1 s m args below meth c H locs cells slots Q (F0 m 23 ls []) := by
  intro fu
  induction fu with
  | zero => intro n i S H locs ls cells slots hfu; omega
  | succ fu ih =>
    intro n i S H locs ls cells slots hfu hn0 hin hn hcs hI hH hls
    have h := C.h
    have hL := C.hL
    refine lv_iload h.1 h.2.1 dL_law_23 (lv_at hls 4 rfl) ?_
    refine lv_aload_n h.1 h.2.1 dL_law_25 rfl (lv_at hls 0 rfl) ?_
    refine zxl C hH dL_law_26 ?_
    refine zb_ic h dL_law_27 ?_
    refine zb_isub h dL_law_28 ?_
    refine zb_cgt (tgt := 1418) h (by omega) (by omega) dL_law_29 (by decide) (fun _ => KE S H locs ls cells slots (by omega) (by omega) hH) (fun c_29 => ?_)
    refine lv_aload_n h.1 h.2.1 dL_law_32 rfl (lv_at hls 0 rfl) ?_
    refine lv_iload h.1 h.2.1 dL_law_33 (lv_at hls 4 rfl) ?_
    refine zld C hH (i := i) (by omega) dL_law_35 ?_
    refine zb_bi h dL_law_36 (by decide) (by decide) ?_
    refine zb_iand h dL_law_38 ?_
    have hi : 0 ≤ i ∧ i + 4 < L := by omega
    have hcs1 : cells + 1 ≤ 629837 ∧ slots + 6 ≤ 7206592 := by omega
    have K : ∀ (S' : zM) (ls' : Array Slot), zInv S' (n + 1) → lv_has ls' 9 [(0, .ref b), (1, .ref (za G 8 0)), (2, .ref (za G 9 0)), (3, .ref (za G 8 5)), (4, .int (zI i))] → ∀ (H1 : Heap) (locs1 : List Loc), zH G S' s H1 locs1 → W p l e room_1 s m args below meth c H1 locs1 (cells + 1) (slots + 6) Q (F0 m 1412 ls' []) := by
      intro S' ls hI' hls H1 locs1 hH'
      refine lv_iinc (v := zI (i + 5)) (lv' := [(4, .int (zI (i + 5))), (0, .ref b), (1, .ref (za G 8 0)), (2, .ref (za G 9 0)), (3, .ref (za G 8 5))]) h.1 h.2.1 dL_law_1412 hls (k := 4) rfl (zI_add _ _) (by decide) rfl (fun ls hls => ?_)
      refine lv_goto (tgt := 23) h.1 h.2.1 dL_law_1415 (by decide) ?_
      exact ih (n + 1) (i + 5) S' H1 locs1 ls (cells + 1) (slots + 6) (by omega) (by omega) (by omega) (by omega) (by omega) hI' hH' (lv_sub hls [1, 2, 3, 4, 0] rfl)
    have hz := zand_in (zx xs i) 31
    have x_1 : (zI (zand (zx xs i) 31)).toInt = zand (zx xs i) 31 := zI_toInt hz.1 hz.2
    by_cases e_0 : zand (zx xs i) 31 = 0
    · refine lv_tableIn (tgt := 152) h.1 h.2.1 dL_law_39 (by omega) (by omega) (show _ = some (113 : Int) by rw [x_1, e_0]; rfl) (by decide) ?_
      exact law_zone C hI (by omega) hi hH hls hcs1 K
    by_cases e_1 : zand (zx xs i) 31 = 1
    · refine lv_tableIn (tgt := 220) h.1 h.2.1 dL_law_39 (by omega) (by omega) (show _ = some (181 : Int) by rw [x_1, e_1]; rfl) (by decide) ?_
      exact law_want C hI (by omega) hi hH hls hcs1 K
    by_cases e_2 : zand (zx xs i) 31 = 2
    · refine lv_tableIn (tgt := 288) h.1 h.2.1 dL_law_39 (by omega) (by omega) (show _ = some (249 : Int) by rw [x_1, e_2]; rfl) (by decide) ?_
      exact law_link C hI (by omega) hi hH hls hcs1 K
    by_cases e_3 : zand (zx xs i) 31 = 3
    · refine lv_tableIn (tgt := 356) h.1 h.2.1 dL_law_39 (by omega) (by omega) (show _ = some (317 : Int) by rw [x_1, e_3]; rfl) (by decide) ?_
      exact law_expose C hI (by omega) hi hH hls hcs1 K
    by_cases e_4 : zand (zx xs i) 31 = 4
    · refine lv_tableIn (tgt := 412) h.1 h.2.1 dL_law_39 (by omega) (by omega) (show _ = some (373 : Int) by rw [x_1, e_4]; rfl) (by decide) ?_
      exact law_burn C hI (by omega) hi hH hls hcs1 K
    by_cases e_5 : zand (zx xs i) 31 = 5
    · refine lv_tableIn (tgt := 480) h.1 h.2.1 dL_law_39 (by omega) (by omega) (show _ = some (441 : Int) by rw [x_1, e_5]; rfl) (by decide) ?_
      exact law_hold C hI (by omega) hi hH hls hcs1 K
    by_cases e_6 : zand (zx xs i) 31 = 6
    · refine lv_tableIn (tgt := 548) h.1 h.2.1 dL_law_39 (by omega) (by omega) (show _ = some (509 : Int) by rw [x_1, e_6]; rfl) (by decide) ?_
      exact law_paper C hI (by omega) hi hH hls hcs1 K
    by_cases e_7 : zand (zx xs i) 31 = 7
    · refine lv_tableIn (tgt := 616) h.1 h.2.1 dL_law_39 (by omega) (by omega) (show _ = some (577 : Int) by rw [x_1, e_7]; rfl) (by decide) ?_
      exact law_plan C hI (by omega) hi hH hls hcs1 K
    by_cases e_8 : zand (zx xs i) 31 = 8
    · refine lv_tableIn (tgt := 629) h.1 h.2.1 dL_law_39 (by omega) (by omega) (show _ = some (590 : Int) by rw [x_1, e_8]; rfl) (by decide) ?_
      exact law_set C hI (by omega) hi hH hls hcs1 K
    by_cases e_9 : zand (zx xs i) 31 = 9
    · refine lv_tableIn (tgt := 685) h.1 h.2.1 dL_law_39 (by omega) (by omega) (show _ = some (646 : Int) by rw [x_1, e_9]; rfl) (by decide) ?_
      exact law_append C hI (by omega) hi hH hls hcs1 K
    by_cases e_10 : zand (zx xs i) 31 = 10
    · refine lv_tableIn (tgt := 741) h.1 h.2.1 dL_law_39 (by omega) (by omega) (show _ = some (702 : Int) by rw [x_1, e_10]; rfl) (by decide) ?_
      exact law_clearBuffer C hI (by omega) hi hH hls hcs1 K
    by_cases e_11 : zand (zx xs i) 31 = 11
    · refine lv_tableIn (tgt := 754) h.1 h.2.1 dL_law_39 (by omega) (by omega) (show _ = some (715 : Int) by rw [x_1, e_11]; rfl) (by decide) ?_
      exact law_firstError C hI (by omega) hi hH hls hcs1 K
    by_cases e_12 : zand (zx xs i) 31 = 12
    · refine lv_tableIn (tgt := 767) h.1 h.2.1 dL_law_39 (by omega) (by omega) (show _ = some (728 : Int) by rw [x_1, e_12]; rfl) (by decide) ?_
      exact law_run C hI (by omega) hi hH hls hcs1 K
    by_cases e_13 : zand (zx xs i) 31 = 13
    · refine lv_tableIn (tgt := 811) h.1 h.2.1 dL_law_39 (by omega) (by omega) (show _ = some (772 : Int) by rw [x_1, e_13]; rfl) (by decide) ?_
      exact law_undo C hI (by omega) hi hH hls hcs1 K
    by_cases e_14 : zand (zx xs i) 31 = 14
    · refine lv_tableIn (tgt := 855) h.1 h.2.1 dL_law_39 (by omega) (by omega) (show _ = some (816 : Int) by rw [x_1, e_14]; rfl) (by decide) ?_
      exact law_zoneOf C hI (by omega) hi hH hls hcs1 K
    by_cases e_15 : zand (zx xs i) 31 = 15
    · refine lv_tableIn (tgt := 923) h.1 h.2.1 dL_law_39 (by omega) (by omega) (show _ = some (884 : Int) by rw [x_1, e_15]; rfl) (by decide) ?_
      exact law_mark C hI (by omega) hi hH hls hcs1 K
    by_cases e_16 : zand (zx xs i) 31 = 16
    · refine lv_tableIn (tgt := 979) h.1 h.2.1 dL_law_39 (by omega) (by omega) (show _ = some (940 : Int) by rw [x_1, e_16]; rfl) (by decide) ?_
      exact law_strip C hI (by omega) hi hH hls hcs1 K
    by_cases e_17 : zand (zx xs i) 31 = 17
    · refine lv_tableIn (tgt := 1071) h.1 h.2.1 dL_law_39 (by omega) (by omega) (show _ = some (1032 : Int) by rw [x_1, e_17]; rfl) (by decide) ?_
      exact law_count C hI (by omega) hi hH hls hcs1 K
    by_cases e_18 : zand (zx xs i) 31 = 18
    · refine lv_tableIn (tgt := 1127) h.1 h.2.1 dL_law_39 (by omega) (by omega) (show _ = some (1088 : Int) by rw [x_1, e_18]; rfl) (by decide) ?_
      exact law_ifExposed C hI (by omega) hi hH hls hcs1 K
    by_cases e_19 : zand (zx xs i) 31 = 19
    · refine lv_tableIn (tgt := 1195) h.1 h.2.1 dL_law_39 (by omega) (by omega) (show _ = some (1156 : Int) by rw [x_1, e_19]; rfl) (by decide) ?_
      exact law_bestTime C hI (by omega) hi hH hls hcs1 K
    by_cases e_20 : zand (zx xs i) 31 = 20
    · refine lv_tableIn (tgt := 1208) h.1 h.2.1 dL_law_39 (by omega) (by omega) (show _ = some (1169 : Int) by rw [x_1, e_20]; rfl) (by decide) ?_
      exact law_bestGrade C hI (by omega) hi hH hls hcs1 K
    by_cases e_21 : zand (zx xs i) 31 = 21
    · refine lv_tableIn (tgt := 1221) h.1 h.2.1 dL_law_39 (by omega) (by omega) (show _ = some (1182 : Int) by rw [x_1, e_21]; rfl) (by decide) ?_
      exact law_ifBurned C hI (by omega) hi hH hls hcs1 K
    by_cases e_22 : zand (zx xs i) 31 = 22
    · refine lv_tableIn (tgt := 1301) h.1 h.2.1 dL_law_39 (by omega) (by omega) (show _ = some (1262 : Int) by rw [x_1, e_22]; rfl) (by decide) ?_
      exact law_common C hI (by omega) hi hH hls hcs1 K
    by_cases e_23 : zand (zx xs i) 31 = 23
    · refine lv_tableIn (tgt := 1357) h.1 h.2.1 dL_law_39 (by omega) (by omega) (show _ = some (1318 : Int) by rw [x_1, e_23]; rfl) (by decide) ?_
      exact law_rightShare C hI (by omega) hi hH hls hcs1 K
    by_cases e_24 : zand (zx xs i) 31 = 24
    · refine lv_tableIn (tgt := 1398) h.1 h.2.1 dL_law_39 (by omega) (by omega) (show _ = some (1359 : Int) by rw [x_1, e_24]; rfl) (by decide) ?_
      exact law_digest C hI (by omega) hi hH hls hcs1 K
    refine lv_tableOut (tgt := 1412) h.1 h.2.1 dL_law_39 (by omega) (by decide) ?_
    refine W.widen (k := cells + 1) (n := slots + 6) (by omega) (by omega) ?_
    exact K S ls (inv_up hI) hls H locs hH
end ZW
