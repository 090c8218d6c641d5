theorem dX5_in_0 : decode cX5_in 0 = .ok (.iload_n 0, 1) := by decide +kernel
theorem dX5_in_1 : decode cX5_in 1 = .ok (.iload_n 1, 1) := by decide +kernel
theorem dX5_in_2 : decode cX5_in 2 = .ok (.if_icmp .lt 12, 3) := by decide +kernel
theorem dX5_in_5 : decode cX5_in 5 = .ok (.iload_n 0, 1) := by decide +kernel
theorem dX5_in_6 : decode cX5_in 6 = .ok (.iload_n 2, 1) := by decide +kernel
theorem dX5_in_7 : decode cX5_in 7 = .ok (.if_icmp .gt 7, 3) := by decide +kernel
theorem dX5_in_10 : decode cX5_in 10 = .ok (.iconst 1, 1) := by decide +kernel
theorem dX5_in_11 : decode cX5_in 11 = .ok (.goto 4, 3) := by decide +kernel
theorem dX5_in_14 : decode cX5_in 14 = .ok (.iconst 0, 1) := by decide +kernel
theorem dX5_in_15 : decode cX5_in 15 = .ok (.ireturn, 1) := by decide +kernel
def q_X5_in (S : zM) (a b d : Int) : Int32 → zM → Prop := fun r S1 => ∃ bb : Int, r = zI bb ∧ (bb = 1 ∧ (b ≤ a ∧ a ≤ d) ∨ bb = 0 ∧ ¬ (b ≤ a ∧ a ≤ d)) ∧ S = S1
def r_X5_in : Room := { frames := 0, cells := 0, slots := 0, locals := 0 }
set_option maxHeartbeats 4000000 in
set_option maxRecDepth 100000 in
theorem c_X5_in (l : Launch) (G : zG) (hG : zok G) (S : zM) (a b d : Int) (ha : -2147483648 ≤ a ∧ a ≤ 2147483647) (hb : -2147483648 ≤ b ∧ b ≤ 2147483647) (hd : -2147483648 ≤ d ∧ d ≤ 2147483647) : Met l yX5_in (Cond.code yX5_in cX5_in 3 (some FieldType.boolean) :: zTbl) r_X5_in (va_Pc [.int (zI a), .int (zI b), .int (zI d)] (zB G S)) (va_Qi (q_X5_in S a b d) (zB G) (zA G)) 0 0 (zA G) := by
  refine zMet [(0, .int (zI a)), (1, .int (zI b)), (2, .int (zI d))] hG (by decide) (Nat.le_of_ble_eq_true rfl) rfl (fun p e s m args below meth c ls h hx hb hr hH hl => ?_)
  refine lv_iload_n hx hb dX5_in_0 rfl (lv_at hl 0 rfl) ?_
  refine lv_iload_n hx hb dX5_in_1 rfl (lv_at hl 1 rfl) ?_
  refine zb_clt (tgt := 14) h (by omega) (by omega) dX5_in_2 (by decide) (fun c_2 => ?_) (fun c_2 => ?_)
  · refine zb_ic h dX5_in_14 ?_
    refine zrz h hr hH (by omega) ?_ dX5_in_15
    exact ⟨_, rfl, by omega, rfl⟩
  · refine lv_iload_n hx hb dX5_in_5 rfl (lv_at hl 0 rfl) ?_
    refine lv_iload_n hx hb dX5_in_6 rfl (lv_at hl 2 rfl) ?_
    refine zb_cgt (tgt := 14) h (by omega) (by omega) dX5_in_7 (by decide) (fun c_7 => ?_) (fun c_7 => ?_)
    · refine zb_ic h dX5_in_14 ?_
      refine zrz h hr hH (by omega) ?_ dX5_in_15
      exact ⟨_, rfl, by omega, rfl⟩
    · refine zb_ic h dX5_in_10 ?_
      refine lv_goto (tgt := 15) hx hb dX5_in_11 (by decide) ?_
      refine zrz h hr hH (by omega) ?_ dX5_in_15
      exact ⟨_, rfl, by omega, rfl⟩
theorem dX5_of_0 : decode cX5_of 0 = .ok (.iconst 5, 1) := by decide +kernel
theorem dX5_of_1 : decode cX5_of 1 = .ok (.iconst 5, 1) := by decide +kernel
theorem dX5_of_2 : decode cX5_of 2 = .ok (.iload_n 0, 1) := by decide +kernel
theorem dX5_of_3 : decode cX5_of 3 = .ok (.imul, 1) := by decide +kernel
theorem dX5_of_4 : decode cX5_of 4 = .ok (.iadd, 1) := by decide +kernel
theorem dX5_of_5 : decode cX5_of 5 = .ok (.iload_n 1, 1) := by decide +kernel
theorem dX5_of_6 : decode cX5_of 6 = .ok (.iadd, 1) := by decide +kernel
theorem dX5_of_7 : decode cX5_of 7 = .ok (.ireturn, 1) := by decide +kernel
def q_X5_of (S : zM) (z w : Int) : Int32 → zM → Prop := fun r S1 => r = zI (5 + 5 * z + w) ∧ S = S1
def r_X5_of : Room := { frames := 0, cells := 0, slots := 0, locals := 0 }
set_option maxHeartbeats 4000000 in
set_option maxRecDepth 100000 in
theorem c_X5_of (l : Launch) (G : zG) (hG : zok G) (S : zM) (z w : Int) : Met l yX5_of (Cond.code yX5_of cX5_of 2 (some FieldType.int) :: zTbl) r_X5_of (va_Pc [.int (zI z), .int (zI w)] (zB G S)) (va_Qi (q_X5_of S z w) (zB G) (zA G)) 0 0 (zA G) := by
  refine zMet [(0, .int (zI z)), (1, .int (zI w))] hG (by decide) (Nat.le_of_ble_eq_true rfl) rfl (fun p e s m args below meth c ls h hx hb hr hH hl => ?_)
  refine zb_ic h dX5_of_0 ?_
  refine zb_ic h dX5_of_1 ?_
  refine lv_iload_n hx hb dX5_of_2 rfl (lv_at hl 0 rfl) ?_
  refine zb_imul h dX5_of_3 ?_
  refine zb_iadd h dX5_of_4 ?_
  refine lv_iload_n hx hb dX5_of_5 rfl (lv_at hl 1 rfl) ?_
  refine zb_iadd h dX5_of_6 ?_
  refine zri h hr hH ?_ dX5_of_7
  exact ⟨rfl, rfl⟩
theorem dX5_holds_0 : decode cX5_holds 0 = .ok (.aload_n 0, 1) := by decide +kernel
theorem dX5_holds_1 : decode cX5_holds 1 = .ok (.iload_n 1, 1) := by decide +kernel
theorem dX5_holds_2 : decode cX5_holds 2 = .ok (.putfield 28, 3) := by decide +kernel
theorem dX5_holds_5 : decode cX5_holds 5 = .ok (.iload_n 1, 1) := by decide +kernel
theorem dX5_holds_6 : decode cX5_holds 6 = .ok (.ifCond .ne 7, 3) := by decide +kernel
theorem dX5_holds_9 : decode cX5_holds 9 = .ok (.iconst 1, 1) := by decide +kernel
theorem dX5_holds_10 : decode cX5_holds 10 = .ok (.goto 4, 3) := by decide +kernel
theorem dX5_holds_13 : decode cX5_holds 13 = .ok (.iconst 0, 1) := by decide +kernel
theorem dX5_holds_14 : decode cX5_holds 14 = .ok (.ireturn, 1) := by decide +kernel
def q_X5_holds (S : zM) (x : Int) : Int32 → zM → Prop := fun r S1 => ∃ bb : Int, r = zI bb ∧ (bb = 1 ∧ x = 0 ∨ bb = 0 ∧ x ≠ 0) ∧ zMo S (zup (S 9 0) 0 x) (S 9 1) (S 9 2) (S 9 3) (S 9 4) (S 9 5) (S 9 6) = S1
def r_X5_holds : Room := { frames := 0, cells := 0, slots := 0, locals := 0 }
set_option maxHeartbeats 4000000 in
set_option maxRecDepth 100000 in
theorem c_X5_holds (l : Launch) (G : zG) (hG : zok G) (S : zM) (x : Int) (hx0 : -2147483648 ≤ x ∧ x ≤ 2147483647) : Met l yX5_holds (Cond.code yX5_holds cX5_holds 2 (some FieldType.boolean) :: zTbl) r_X5_holds (va_Pc [.ref (za G 9 0), .int (zI x)] (zB G S)) (va_Qi (q_X5_holds S x) (zB G) (zA G)) 0 0 (zA G) := by
  refine zMet [(0, .ref (za G 9 0)), (1, .int (zI x))] hG (by decide) (Nat.le_of_ble_eq_true rfl) rfl (fun p e s m args below meth c ls h hx hb hr hH hl => ?_)
  rw [← zM_id S] at hH
  refine lv_aload_n hx hb dX5_holds_0 rfl (lv_at hl 0 rfl) ?_
  refine lv_iload_n hx hb dX5_holds_1 rfl (lv_at hl 1 rfl) ?_
  refine zu_5_0 h hH zf_X5_28 dX5_holds_2 (fun H locs hH => ?_)
  rw [zs_M0] at hH
  refine lv_iload_n hx hb dX5_holds_5 rfl (lv_at hl 1 rfl) ?_
  refine zb_ine (tgt := 13) h (by omega) dX5_holds_6 (by decide) (fun c_6 => ?_) (fun c_6 => ?_)
  · refine zb_ic h dX5_holds_13 ?_
    refine zrz h hr hH (by omega) ?_ dX5_holds_14
    exact ⟨_, rfl, by omega, rfl⟩
  · refine zb_ic h dX5_holds_9 ?_
    refine lv_goto (tgt := 14) hx hb dX5_holds_10 (by decide) ?_
    refine zrz h hr hH (by omega) ?_ dX5_holds_14
    exact ⟨_, rfl, by omega, rfl⟩
theorem dX5_thrown_0 : decode cX5_thrown 0 = .ok (.aload_n 0, 1) := by decide +kernel
theorem dX5_thrown_1 : decode cX5_thrown 1 = .ok (.getfield 28, 3) := by decide +kernel
theorem dX5_thrown_4 : decode cX5_thrown 4 = .ok (.ireturn, 1) := by decide +kernel
def q_X5_thrown (S : zM) : Int32 → zM → Prop := fun r S1 => r = zI (S 9 0 0) ∧ S = S1
def r_X5_thrown : Room := { frames := 0, cells := 0, slots := 0, locals := 0 }
set_option maxHeartbeats 4000000 in
set_option maxRecDepth 100000 in
theorem c_X5_thrown (l : Launch) (G : zG) (hG : zok G) (S : zM)  : Met l yX5_thrown (Cond.code yX5_thrown cX5_thrown 1 (some FieldType.int) :: zTbl) r_X5_thrown (va_Pc [.ref (za G 9 0)] (zB G S)) (va_Qi (q_X5_thrown S) (zB G) (zA G)) 0 0 (zA G) := by
  refine zMet [(0, .ref (za G 9 0))] hG (by decide) (Nat.le_of_ble_eq_true rfl) rfl (fun p e s m args below meth c ls h hx hb hr hH hl => ?_)
  refine lv_aload_n hx hb dX5_thrown_0 rfl (lv_at hl 0 rfl) ?_
  refine zg_5_0 h hH zf_X5_28 dX5_thrown_1 ?_
  refine zri h hr hH ?_ dX5_thrown_4
  exact ⟨rfl, rfl⟩
theorem dX5_isZone_0 : decode cX5_isZone 0 = .ok (.iload_n 1, 1) := by decide +kernel
theorem dX5_isZone_1 : decode cX5_isZone 1 = .ok (.iconst 0, 1) := by decide +kernel
theorem dX5_isZone_2 : decode cX5_isZone 2 = .ok (.aload_n 0, 1) := by decide +kernel
theorem dX5_isZone_3 : decode cX5_isZone 3 = .ok (.getfield 7, 3) := by decide +kernel
theorem dX5_isZone_6 : decode cX5_isZone 6 = .ok (.iconst 4, 1) := by decide +kernel
theorem dX5_isZone_7 : decode cX5_isZone 7 = .ok (.iaload, 1) := by decide +kernel
theorem dX5_isZone_8 : decode cX5_isZone 8 = .ok (.iconst 1, 1) := by decide +kernel
theorem dX5_isZone_9 : decode cX5_isZone 9 = .ok (.isub, 1) := by decide +kernel
theorem dX5_isZone_10 : decode cX5_isZone 10 = .ok (.invokestatic 32, 3) := by decide +kernel
theorem dX5_isZone_13 : decode cX5_isZone 13 = .ok (.ireturn, 1) := by decide +kernel
def q_X5_isZone (S : zM) (z : Int) : Int32 → zM → Prop := fun r S1 => ∃ bb : Int, r = zI bb ∧ (bb = 1 ∧ (0 ≤ z ∧ z < S 9 1 4) ∨ bb = 0 ∧ ¬ (0 ≤ z ∧ z < S 9 1 4)) ∧ S = S1
def r_X5_isZone : Room := { frames := 1, cells := 0, slots := 0, locals := 22 }
set_option maxHeartbeats 4000000 in
set_option maxRecDepth 100000 in
theorem c_X5_isZone (l : Launch) (G : zG) (hG : zok G) (S : zM) (z : Int) (hz : -2147483648 ≤ z ∧ z ≤ 2147483647) (hw : zW (S 9 1)) : Met l yX5_isZone (Cond.code yX5_isZone cX5_isZone 2 (some FieldType.boolean) :: zTbl) r_X5_isZone (va_Pc [.ref (za G 9 0), .int (zI z)] (zB G S)) (va_Qi (q_X5_isZone S z) (zB G) (zA G)) 0 0 (zA G) := by
  refine zMet [(0, .ref (za G 9 0)), (1, .int (zI z))] hG (by decide) (Nat.le_of_ble_eq_true rfl) rfl (fun p e s m args below meth c ls h hx hb hr hH hl => ?_)
  refine lv_iload_n hx hb dX5_isZone_0 rfl (lv_at hl 1 rfl) ?_
  refine zb_ic h dX5_isZone_1 ?_
  refine lv_aload_n hx hb dX5_isZone_2 rfl (lv_at hl 0 rfl) ?_
  refine zg_5_1 h hH zf_X5_7 dX5_isZone_3 ?_
  refine zb_ic h dX5_isZone_6 ?_
  refine zld_ar_s h hH (by omega) dX5_isZone_7 ?_
  have f_7 := zW_4 hw
  refine zb_ic h dX5_isZone_8 ?_
  refine zb_isub h dX5_isZone_9 ?_
  refine zcSi h hH (As := [.int (zI z), .int (zI 0), .int (zI ((S 9 1 4) - 1))]) (rest := []) (c_X5_in l G hG S z 0 ((S 9 1 4) - 1) (by omega) (by omega) (by omega)) zce_X5_in zt_X5_in zm_X5_32 hl.1 rfl rfl ⟨rfl, rfl⟩ ⟨Nat.le_of_ble_eq_true rfl, Nat.le_of_ble_eq_true rfl⟩ (Nat.le_of_ble_eq_true rfl) ⟨Nat.zero_le _, Nat.zero_le _⟩ dX5_isZone_10 (fun r_10 S_10 H locs hq hH => ?_)
  obtain ⟨b_10, rfl, hb_10, rfl⟩ := hq
  refine zrz h hr hH (by omega) ?_ dX5_isZone_13
  exact ⟨_, rfl, by omega, rfl⟩
theorem dX5_lightOf_0 : decode cX5_lightOf 0 = .ok (.iload_n 1, 1) := by decide +kernel
theorem dX5_lightOf_1 : decode cX5_lightOf 1 = .ok (.iconst 3, 1) := by decide +kernel
theorem dX5_lightOf_2 : decode cX5_lightOf 2 = .ok (.irem, 1) := by decide +kernel
theorem dX5_lightOf_3 : decode cX5_lightOf 3 = .ok (.istore_n 2, 1) := by decide +kernel
theorem dX5_lightOf_4 : decode cX5_lightOf 4 = .ok (.iload_n 0, 1) := by decide +kernel
theorem dX5_lightOf_5 : decode cX5_lightOf 5 = .ok (.i2l, 1) := by decide +kernel
theorem dX5_lightOf_6 : decode cX5_lightOf 6 = .ok (.iload_n 2, 1) := by decide +kernel
theorem dX5_lightOf_7 : decode cX5_lightOf 7 = .ok (.ifCond .ne 8, 3) := by decide +kernel
theorem dX5_lightOf_10 : decode cX5_lightOf 10 = .ok (.ldc 39, 2) := by decide +kernel
theorem dX5_lightOf_12 : decode cX5_lightOf 12 = .ok (.goto 15, 3) := by decide +kernel
theorem dX5_lightOf_15 : decode cX5_lightOf 15 = .ok (.iload_n 2, 1) := by decide +kernel
theorem dX5_lightOf_16 : decode cX5_lightOf 16 = .ok (.iconst 1, 1) := by decide +kernel
theorem dX5_lightOf_17 : decode cX5_lightOf 17 = .ok (.if_icmp .ne 8, 3) := by decide +kernel
theorem dX5_lightOf_20 : decode cX5_lightOf 20 = .ok (.ldc 40, 2) := by decide +kernel
theorem dX5_lightOf_22 : decode cX5_lightOf 22 = .ok (.goto 5, 3) := by decide +kernel
theorem dX5_lightOf_25 : decode cX5_lightOf 25 = .ok (.ldc 41, 2) := by decide +kernel
theorem dX5_lightOf_27 : decode cX5_lightOf 27 = .ok (.i2l, 1) := by decide +kernel
theorem dX5_lightOf_28 : decode cX5_lightOf 28 = .ok (.lmul, 1) := by decide +kernel
theorem dX5_lightOf_29 : decode cX5_lightOf 29 = .ok (.lstore_n 3, 1) := by decide +kernel
theorem dX5_lightOf_30 : decode cX5_lightOf 30 = .ok (.iconst 0, 1) := by decide +kernel
theorem dX5_lightOf_31 : decode cX5_lightOf 31 = .ok (.istore 5, 2) := by decide +kernel
theorem dX5_lightOf_33 : decode cX5_lightOf 33 = .ok (.iload 5, 2) := by decide +kernel
theorem dX5_lightOf_35 : decode cX5_lightOf 35 = .ok (.iload_n 1, 1) := by decide +kernel
theorem dX5_lightOf_36 : decode cX5_lightOf 36 = .ok (.iconst 3, 1) := by decide +kernel
theorem dX5_lightOf_37 : decode cX5_lightOf 37 = .ok (.idiv, 1) := by decide +kernel
theorem dX5_lightOf_38 : decode cX5_lightOf 38 = .ok (.if_icmp .ge 15, 3) := by decide +kernel
theorem dX5_lightOf_41 : decode cX5_lightOf 41 = .ok (.lload_n 3, 1) := by decide +kernel
theorem dX5_lightOf_42 : decode cX5_lightOf 42 = .ok (.ldc2_w 42, 3) := by decide +kernel
theorem dX5_lightOf_45 : decode cX5_lightOf 45 = .ok (.ldiv, 1) := by decide +kernel
theorem dX5_lightOf_46 : decode cX5_lightOf 46 = .ok (.lstore_n 3, 1) := by decide +kernel
theorem dX5_lightOf_47 : decode cX5_lightOf 47 = .ok (.iinc 5 1, 3) := by decide +kernel
theorem dX5_lightOf_50 : decode cX5_lightOf 50 = .ok (.goto (-17), 3) := by decide +kernel
theorem dX5_lightOf_53 : decode cX5_lightOf 53 = .ok (.lload_n 3, 1) := by decide +kernel
theorem dX5_lightOf_54 : decode cX5_lightOf 54 = .ok (.ldc2_w 44, 3) := by decide +kernel
theorem dX5_lightOf_57 : decode cX5_lightOf 57 = .ok (.ldiv, 1) := by decide +kernel
theorem dX5_lightOf_58 : decode cX5_lightOf 58 = .ok (.l2i, 1) := by decide +kernel
theorem dX5_lightOf_59 : decode cX5_lightOf 59 = .ok (.ireturn, 1) := by decide +kernel
def q_X5_lightOf (S : zM) (t d : Int) : Int32 → zM → Prop := fun r S1 => r = zI (zLt d t) ∧ S = S1
def r_X5_lightOf : Room := { frames := 0, cells := 0, slots := 0, locals := 0 }
set_option maxHeartbeats 4000000 in
set_option maxRecDepth 100000 in
theorem c_X5_lightOf (l : Launch) (G : zG) (hG : zok G) (S : zM) (t d : Int) (ht : 0 ≤ t ∧ t ≤ 100000) (hd : 0 ≤ d ∧ d ≤ 24) : Met l yX5_lightOf (Cond.code yX5_lightOf cX5_lightOf 6 (some FieldType.int) :: zTbl) r_X5_lightOf (va_Pc [.int (zI t), .int (zI d)] (zB G S)) (va_Qi (q_X5_lightOf S t d) (zB G) (zA G)) 0 0 (zA G) := by
  refine zMet [(0, .int (zI t)), (1, .int (zI d))] hG (by decide) (Nat.le_of_ble_eq_true rfl) rfl (fun p e s m args below meth c ls h hx hb hr hH hl => ?_)
  have b1 := zLt_x (j := d % 3) ht
  have C33 : ∀ (fu : Nat) (i x : Int) (H : Heap) (locs : List Loc) (ls : Array Slot), (d / 3 - i).toNat < fu → (0 ≤ i ∧ i ≤ d / 3) → (x = t * zThr (d % 3) / 2 ^ i.toNat) → zH G S s H locs → lv_has ls 6 [(0, .int (zI t)), (1, .int (zI d)), (2, .int (zI (d % 3))), (3, .long (zL x)), (5, .int (zI i))] → W p l e r_X5_lightOf s m args below meth c H locs 0 0 (MQ below (va_Qi (q_X5_lightOf S t d) (zB G) (zA G)) args s 0 0 (zA G)) (F0 m 33 ls []) := by
    intro fu
    induction fu with
    | zero => intro i x H locs ls hfu; omega
    | succ fu ih33 =>
      intro i x H locs ls hfu hi hx1 hH hl
      have b2 := zdiv_le (b := 2 ^ i.toNat) b1.1 (zpow_pos _)
      rw [← hx1] at b2
      refine lv_iload hx hb dX5_lightOf_33 (lv_at hl 4 rfl) ?_
      refine lv_iload_n hx hb dX5_lightOf_35 rfl (lv_at hl 1 rfl) ?_
      refine zb_ic h dX5_lightOf_36 ?_
      refine zb_idiv h (by omega) (by omega) dX5_lightOf_37 ?_
      refine zb_cge (tgt := 53) h (by omega) (by omega) dX5_lightOf_38 (by decide) (fun c_38 => ?_) (fun c_38 => ?_)
      · refine lv_lload_n hx hb dX5_lightOf_53 rfl (lv_at hl 3 rfl) ?_
        refine zb_ldc2 (n := 100) h zk_X5_44 (by decide +kernel) dX5_lightOf_54 ?_
        refine zb_ldiv h (by omega) (by omega) dX5_lightOf_57 ?_
        refine zb_l2i h dX5_lightOf_58 ?_
        refine zri h hr hH ?_ dX5_lightOf_59
        obtain rfl : i = d / 3 := by omega
        exact ⟨by rw [hx1]; rfl, rfl⟩
      · refine lv_lload_n hx hb dX5_lightOf_41 rfl (lv_at hl 3 rfl) ?_
        refine zb_ldc2 (n := 2) h zk_X5_42 (by decide +kernel) dX5_lightOf_42 ?_
        refine zb_ldiv h (by omega) (by omega) dX5_lightOf_45 ?_
        refine lv_lstore_n (lv' := [(3, .long (zL (x / 2))), (0, .int (zI t)), (1, .int (zI d)), (2, .int (zI (d % 3))), (5, .int (zI i))]) hx hb dX5_lightOf_46 rfl hl (by decide) rfl (fun ls hl => ?_)
        refine lv_iinc (v := zI (i + 1)) (lv' := [(5, .int (zI (i + 1))), (3, .long (zL (x / 2))), (0, .int (zI t)), (1, .int (zI d)), (2, .int (zI (d % 3)))]) hx hb dX5_lightOf_47 hl (k := 4) rfl (zI_add _ _) (by decide) rfl (fun ls hl => ?_)
        refine lv_goto (tgt := 33) hx hb dX5_lightOf_50 (by decide) ?_
        exact ih33 (i + 1) (x / 2) _ _ _ (by omega) (by omega) (by rw [zhalf _ hi.1, hx1]) hH (lv_sub hl [2, 3, 4, 1, 0] rfl)
  have C27 : ∀ (w0 : Int) (H : Heap) (locs : List Loc) (ls : Array Slot), (w0 = zThr (d % 3)) → zH G S s H locs → lv_has ls 6 [(0, .int (zI t)), (1, .int (zI d)), (2, .int (zI (d % 3)))] → W p l e r_X5_lightOf s m args below meth c H locs 0 0 (MQ below (va_Qi (q_X5_lightOf S t d) (zB G) (zA G)) args s 0 0 (zA G)) (F0 m 27 ls [.int (zI w0), .long (zL t)]) := by
    intro w0 H locs ls hw0 hH hl
    have b0 := zThr_in (d % 3)
    refine zb_i2l h (by omega) dX5_lightOf_27 ?_
    refine zb_lmul h dX5_lightOf_28 ?_
    refine lv_lstore_n (lv' := [(3, .long (zL (t * w0))), (0, .int (zI t)), (1, .int (zI d)), (2, .int (zI (d % 3)))]) hx hb dX5_lightOf_29 rfl hl (by decide) rfl (fun ls hl => ?_)
    refine zb_ic h dX5_lightOf_30 ?_
    refine lv_istore (lv' := [(5, .int (zI 0)), (3, .long (zL (t * w0))), (0, .int (zI t)), (1, .int (zI d)), (2, .int (zI (d % 3)))]) hx hb dX5_lightOf_31 hl (by decide) rfl (fun ls hl => ?_)
    exact C33 ((d / 3 - 0 : Int).toNat + 1) 0 (t * w0) _ _ _ (by omega) (by omega) (by rw [hw0]; exact (Int.ediv_one _).symm) hH (lv_sub hl [2, 3, 4, 1, 0] rfl)
  refine lv_iload_n hx hb dX5_lightOf_0 rfl (lv_at hl 1 rfl) ?_
  refine zb_ic h dX5_lightOf_1 ?_
  refine zb_irem h (by omega) (by omega) dX5_lightOf_2 ?_
  refine lv_istore_n (lv' := [(2, .int (zI (d % 3))), (0, .int (zI t)), (1, .int (zI d))]) hx hb dX5_lightOf_3 rfl hl (by decide) rfl (fun ls hl => ?_)
  refine lv_iload_n hx hb dX5_lightOf_4 rfl (lv_at hl 1 rfl) ?_
  refine zb_i2l h (by omega) dX5_lightOf_5 ?_
  refine lv_iload_n hx hb dX5_lightOf_6 rfl (lv_at hl 0 rfl) ?_
  refine zb_ine (tgt := 15) h (by omega) dX5_lightOf_7 (by decide) (fun c_7 => ?_) (fun c_7 => ?_)
  · refine lv_iload_n hx hb dX5_lightOf_15 rfl (lv_at hl 0 rfl) ?_
    refine zb_ic h dX5_lightOf_16 ?_
    refine zb_cne (tgt := 25) h (by omega) (by omega) dX5_lightOf_17 (by decide) (fun c_17 => ?_) (fun c_17 => ?_)
    · refine zb_ldc (n := 63000) h zk_X5_41 (by decide +kernel) dX5_lightOf_25 ?_
      exact C27 63000 _ _ _  (by unfold zThr; first | rw [if_pos (by omega)] | rw [if_neg (by omega), if_pos (by omega)] | rw [if_neg (by omega), if_neg (by omega)]) hH (lv_sub hl [1, 2, 0] rfl)
    · refine zb_ldc (n := 79370) h zk_X5_40 (by decide +kernel) dX5_lightOf_20 ?_
      refine lv_goto (tgt := 27) hx hb dX5_lightOf_22 (by decide) ?_
      exact C27 79370 _ _ _  (by unfold zThr; first | rw [if_pos (by omega)] | rw [if_neg (by omega), if_pos (by omega)] | rw [if_neg (by omega), if_neg (by omega)]) hH (lv_sub hl [1, 2, 0] rfl)
  · refine zb_ldc (n := 100000) h zk_X5_39 (by decide +kernel) dX5_lightOf_10 ?_
    refine lv_goto (tgt := 27) hx hb dX5_lightOf_12 (by decide) ?_
    exact C27 100000 _ _ _  (by unfold zThr; first | rw [if_pos (by omega)] | rw [if_neg (by omega), if_pos (by omega)] | rw [if_neg (by omega), if_neg (by omega)]) hH (lv_sub hl [1, 2, 0] rfl)
theorem dX5_findMarks_0 : decode cX5_findMarks 0 = .ok (.aload_n 0, 1) := by decide +kernel
theorem dX5_findMarks_1 : decode cX5_findMarks 1 = .ok (.getfield 7, 3) := by decide +kernel
theorem dX5_findMarks_4 : decode cX5_findMarks 4 = .ok (.iconst 1, 1) := by decide +kernel
theorem dX5_findMarks_5 : decode cX5_findMarks 5 = .ok (.iaload, 1) := by decide +kernel
theorem dX5_findMarks_6 : decode cX5_findMarks 6 = .ok (.istore_n 1, 1) := by decide +kernel
theorem dX5_findMarks_7 : decode cX5_findMarks 7 = .ok (.iload_n 1, 1) := by decide +kernel
theorem dX5_findMarks_8 : decode cX5_findMarks 8 = .ok (.ifCond .ne 9, 3) := by decide +kernel
theorem dX5_findMarks_11 : decode cX5_findMarks 11 = .ok (.sipush 1400, 3) := by decide +kernel
theorem dX5_findMarks_14 : decode cX5_findMarks 14 = .ok (.goto 50, 3) := by decide +kernel
theorem dX5_findMarks_17 : decode cX5_findMarks 17 = .ok (.iload_n 1, 1) := by decide +kernel
theorem dX5_findMarks_18 : decode cX5_findMarks 18 = .ok (.iconst 1, 1) := by decide +kernel
theorem dX5_findMarks_19 : decode cX5_findMarks 19 = .ok (.if_icmp .ne 9, 3) := by decide +kernel
theorem dX5_findMarks_22 : decode cX5_findMarks 22 = .ok (.sipush 1320, 3) := by decide +kernel
theorem dX5_findMarks_25 : decode cX5_findMarks 25 = .ok (.goto 39, 3) := by decide +kernel
theorem dX5_findMarks_28 : decode cX5_findMarks 28 = .ok (.iload_n 1, 1) := by decide +kernel
theorem dX5_findMarks_29 : decode cX5_findMarks 29 = .ok (.iconst 2, 1) := by decide +kernel
theorem dX5_findMarks_30 : decode cX5_findMarks 30 = .ok (.if_icmp .ne 9, 3) := by decide +kernel
theorem dX5_findMarks_33 : decode cX5_findMarks 33 = .ok (.sipush 1260, 3) := by decide +kernel
theorem dX5_findMarks_36 : decode cX5_findMarks 36 = .ok (.goto 28, 3) := by decide +kernel
theorem dX5_findMarks_39 : decode cX5_findMarks 39 = .ok (.iload_n 1, 1) := by decide +kernel
theorem dX5_findMarks_40 : decode cX5_findMarks 40 = .ok (.iconst 3, 1) := by decide +kernel
theorem dX5_findMarks_41 : decode cX5_findMarks 41 = .ok (.if_icmp .ne 9, 3) := by decide +kernel
theorem dX5_findMarks_44 : decode cX5_findMarks 44 = .ok (.sipush 1200, 3) := by decide +kernel
theorem dX5_findMarks_47 : decode cX5_findMarks 47 = .ok (.goto 17, 3) := by decide +kernel
theorem dX5_findMarks_50 : decode cX5_findMarks 50 = .ok (.iload_n 1, 1) := by decide +kernel
theorem dX5_findMarks_51 : decode cX5_findMarks 51 = .ok (.iconst 4, 1) := by decide +kernel
theorem dX5_findMarks_52 : decode cX5_findMarks 52 = .ok (.if_icmp .ne 9, 3) := by decide +kernel
theorem dX5_findMarks_55 : decode cX5_findMarks 55 = .ok (.sipush 1160, 3) := by decide +kernel
theorem dX5_findMarks_58 : decode cX5_findMarks 58 = .ok (.goto 6, 3) := by decide +kernel
theorem dX5_findMarks_61 : decode cX5_findMarks 61 = .ok (.sipush 1120, 3) := by decide +kernel
theorem dX5_findMarks_64 : decode cX5_findMarks 64 = .ok (.istore_n 2, 1) := by decide +kernel
theorem dX5_findMarks_65 : decode cX5_findMarks 65 = .ok (.aload_n 0, 1) := by decide +kernel
theorem dX5_findMarks_66 : decode cX5_findMarks 66 = .ok (.getfield 22, 3) := by decide +kernel
theorem dX5_findMarks_69 : decode cX5_findMarks 69 = .ok (.iconst 0, 1) := by decide +kernel
theorem dX5_findMarks_70 : decode cX5_findMarks 70 = .ok (.bipush 100, 2) := by decide +kernel
theorem dX5_findMarks_72 : decode cX5_findMarks 72 = .ok (.aload_n 0, 1) := by decide +kernel
theorem dX5_findMarks_73 : decode cX5_findMarks 73 = .ok (.getfield 7, 3) := by decide +kernel
theorem dX5_findMarks_76 : decode cX5_findMarks 76 = .ok (.iconst 2, 1) := by decide +kernel
theorem dX5_findMarks_77 : decode cX5_findMarks 77 = .ok (.iaload, 1) := by decide +kernel
theorem dX5_findMarks_78 : decode cX5_findMarks 78 = .ok (.imul, 1) := by decide +kernel
theorem dX5_findMarks_79 : decode cX5_findMarks 79 = .ok (.iastore, 1) := by decide +kernel
theorem dX5_findMarks_80 : decode cX5_findMarks 80 = .ok (.iconst 1, 1) := by decide +kernel
theorem dX5_findMarks_81 : decode cX5_findMarks 81 = .ok (.istore_n 3, 1) := by decide +kernel
theorem dX5_findMarks_82 : decode cX5_findMarks 82 = .ok (.iload_n 3, 1) := by decide +kernel
theorem dX5_findMarks_83 : decode cX5_findMarks 83 = .ok (.bipush 10, 2) := by decide +kernel
theorem dX5_findMarks_85 : decode cX5_findMarks 85 = .ok (.if_icmp .ge 62, 3) := by decide +kernel
theorem dX5_findMarks_88 : decode cX5_findMarks 88 = .ok (.aload_n 0, 1) := by decide +kernel
theorem dX5_findMarks_89 : decode cX5_findMarks 89 = .ok (.getfield 22, 3) := by decide +kernel
theorem dX5_findMarks_92 : decode cX5_findMarks 92 = .ok (.iload_n 3, 1) := by decide +kernel
theorem dX5_findMarks_93 : decode cX5_findMarks 93 = .ok (.iconst 1, 1) := by decide +kernel
theorem dX5_findMarks_94 : decode cX5_findMarks 94 = .ok (.isub, 1) := by decide +kernel
theorem dX5_findMarks_95 : decode cX5_findMarks 95 = .ok (.iaload, 1) := by decide +kernel
theorem dX5_findMarks_96 : decode cX5_findMarks 96 = .ok (.i2l, 1) := by decide +kernel
theorem dX5_findMarks_97 : decode cX5_findMarks 97 = .ok (.iload_n 2, 1) := by decide +kernel
theorem dX5_findMarks_98 : decode cX5_findMarks 98 = .ok (.i2l, 1) := by decide +kernel
theorem dX5_findMarks_99 : decode cX5_findMarks 99 = .ok (.lmul, 1) := by decide +kernel
theorem dX5_findMarks_100 : decode cX5_findMarks 100 = .ok (.ldc2_w 46, 3) := by decide +kernel
theorem dX5_findMarks_103 : decode cX5_findMarks 103 = .ok (.ldiv, 1) := by decide +kernel
theorem dX5_findMarks_104 : decode cX5_findMarks 104 = .ok (.l2i, 1) := by decide +kernel
theorem dX5_findMarks_105 : decode cX5_findMarks 105 = .ok (.istore 4, 2) := by decide +kernel
theorem dX5_findMarks_107 : decode cX5_findMarks 107 = .ok (.aload_n 0, 1) := by decide +kernel
theorem dX5_findMarks_108 : decode cX5_findMarks 108 = .ok (.getfield 22, 3) := by decide +kernel
theorem dX5_findMarks_111 : decode cX5_findMarks 111 = .ok (.iload_n 3, 1) := by decide +kernel
theorem dX5_findMarks_112 : decode cX5_findMarks 112 = .ok (.iload 4, 2) := by decide +kernel
theorem dX5_findMarks_114 : decode cX5_findMarks 114 = .ok (.aload_n 0, 1) := by decide +kernel
theorem dX5_findMarks_115 : decode cX5_findMarks 115 = .ok (.getfield 22, 3) := by decide +kernel
theorem dX5_findMarks_118 : decode cX5_findMarks 118 = .ok (.iload_n 3, 1) := by decide +kernel
theorem dX5_findMarks_119 : decode cX5_findMarks 119 = .ok (.iconst 1, 1) := by decide +kernel
theorem dX5_findMarks_120 : decode cX5_findMarks 120 = .ok (.isub, 1) := by decide +kernel
theorem dX5_findMarks_121 : decode cX5_findMarks 121 = .ok (.iaload, 1) := by decide +kernel
theorem dX5_findMarks_122 : decode cX5_findMarks 122 = .ok (.if_icmp .le 8, 3) := by decide +kernel
theorem dX5_findMarks_125 : decode cX5_findMarks 125 = .ok (.iload 4, 2) := by decide +kernel
theorem dX5_findMarks_127 : decode cX5_findMarks 127 = .ok (.goto 13, 3) := by decide +kernel
theorem dX5_findMarks_130 : decode cX5_findMarks 130 = .ok (.aload_n 0, 1) := by decide +kernel
theorem dX5_findMarks_131 : decode cX5_findMarks 131 = .ok (.getfield 22, 3) := by decide +kernel
theorem dX5_findMarks_134 : decode cX5_findMarks 134 = .ok (.iload_n 3, 1) := by decide +kernel
theorem dX5_findMarks_135 : decode cX5_findMarks 135 = .ok (.iconst 1, 1) := by decide +kernel
theorem dX5_findMarks_136 : decode cX5_findMarks 136 = .ok (.isub, 1) := by decide +kernel
theorem dX5_findMarks_137 : decode cX5_findMarks 137 = .ok (.iaload, 1) := by decide +kernel
theorem dX5_findMarks_138 : decode cX5_findMarks 138 = .ok (.iconst 1, 1) := by decide +kernel
theorem dX5_findMarks_139 : decode cX5_findMarks 139 = .ok (.iadd, 1) := by decide +kernel
theorem dX5_findMarks_140 : decode cX5_findMarks 140 = .ok (.iastore, 1) := by decide +kernel
theorem dX5_findMarks_141 : decode cX5_findMarks 141 = .ok (.iinc 3 1, 3) := by decide +kernel
theorem dX5_findMarks_144 : decode cX5_findMarks 144 = .ok (.goto (-62), 3) := by decide +kernel
theorem dX5_findMarks_147 : decode cX5_findMarks 147 = .ok (.return_, 1) := by decide +kernel
def q_X5_findMarks (S : zM) : zM → Prop := fun S1 => zMo S (S 9 0) (S 9 1) (S 9 2) (S 9 3) (S 9 4) (zMk (S 9 1 1) (S 9 1 2)) (S 9 6) = S1
def r_X5_findMarks : Room := { frames := 0, cells := 0, slots := 0, locals := 0 }
set_option maxHeartbeats 4000000 in
set_option maxRecDepth 100000 in
theorem c_X5_findMarks (l : Launch) (G : zG) (hG : zok G) (S : zM) (hw : zW (S 9 1)) : Met l yX5_findMarks (Cond.code yX5_findMarks cX5_findMarks 5 (none : Option FieldType) :: zTbl) r_X5_findMarks (va_Pc [.ref (za G 9 0)] (zB G S)) (va_Qv (q_X5_findMarks S) (zB G) (zA G)) 0 0 (zA G) := by
  refine zMet [(0, .ref (za G 9 0))] hG (by decide) (Nat.le_of_ble_eq_true rfl) rfl (fun p e s m args below meth c ls h hx hb hr hH hl => ?_)
  rw [← zM_id S] at hH
  have C82 : ∀ (fu : Nat) (i w0 : Int) (M : Int → Int) (H : Heap) (locs : List Loc) (ls : Array Slot), (10 - i).toNat < fu → (w0 = zSteps (S 9 1 1)) → (1 ≤ i ∧ i ≤ 10) → (∀ j : Int, 0 ≤ j → j < i → M j = zMk (S 9 1 1) (S 9 1 2) j) → zH G (zMo S (S 9 0) (S 9 1) (S 9 2) (S 9 3) (S 9 4) M (S 9 6)) s H locs → lv_has ls 5 [(0, .ref (za G 9 0)), (1, .int (zI (S 9 1 1))), (2, .int (zI w0)), (3, .int (zI i))] → W p l e r_X5_findMarks s m args below meth c H locs 0 0 (MQ below (va_Qv (q_X5_findMarks S) (zB G) (zA G)) args s 0 0 (zA G)) (F0 m 82 ls []) := by
    intro fu
    induction fu with
    | zero => intro i w0 M H locs ls hfu; omega
    | succ fu ih82 =>
      intro i w0 M H locs ls hfu hw0 hi hM hH hl
      have b0 := zSteps_in (S 9 1 1)
      have f2 := zW_2 hw
      refine lv_iload_n hx hb dX5_findMarks_82 rfl (lv_at hl 3 rfl) ?_
      refine zb_bi h dX5_findMarks_83 (by decide) (by decide) ?_
      refine zb_cge (tgt := 147) h (by omega) (by omega) dX5_findMarks_85 (by decide) (fun c_85 => ?_) (fun c_85 => ?_)
      · have hH := zH_mo (M' := zMk (S 9 1 1) (S 9 1 2)) (fun _ _ _ => rfl) (fun _ _ _ => rfl) (fun _ _ _ => rfl) (fun _ _ _ => rfl) (fun _ _ _ => rfl) (fun x h1 h2 => hM x h1 (by omega)) (fun _ _ _ => rfl) hH
        refine zrv h hr hH ?_ dX5_findMarks_147
        exact rfl
      · refine lv_aload_n hx hb dX5_findMarks_88 rfl (lv_at hl 0 rfl) ?_
        refine zg_5_7 h hH zf_X5_22 dX5_findMarks_89 ?_
        refine lv_iload_n hx hb dX5_findMarks_92 rfl (lv_at hl 3 rfl) ?_
        refine zb_ic h dX5_findMarks_93 ?_
        refine zb_isub h dX5_findMarks_94 ?_
        refine zld_ar_mm h hH (by omega) dX5_findMarks_95 ?_
        rw [zM_5]
        have e_95 := hM (i - 1) (by omega) (by omega)
        have m_95 := zmk_b (g := S 9 1 1) (zW_2 hw) (show 0 ≤ i - 1 ∧ i - 1 ≤ 10 by omega)
        have e_96 : M (i - 1) = zmkN (S 9 1 1) (S 9 1 2) (i - 1).toNat := e_95
        rw [← e_96, ← hw0] at m_95
        refine zb_i2l h (by omega) dX5_findMarks_96 ?_
        refine lv_iload_n hx hb dX5_findMarks_97 rfl (lv_at hl 2 rfl) ?_
        refine zb_i2l h (by omega) dX5_findMarks_98 ?_
        refine zb_lmul h dX5_findMarks_99 ?_
        refine zb_ldc2 (n := 1000) h zk_X5_46 (by decide +kernel) dX5_findMarks_100 ?_
        refine zb_ldiv h (by omega) (by omega) dX5_findMarks_103 ?_
        refine zb_l2i h dX5_findMarks_104 ?_
        refine lv_istore (lv' := [(4, .int (zI (((M (i - 1)) * w0) / 1000))), (0, .ref (za G 9 0)), (1, .int (zI (S 9 1 1))), (2, .int (zI w0)), (3, .int (zI i))]) hx hb dX5_findMarks_105 hl (by decide) rfl (fun ls hl => ?_)
        refine lv_aload_n hx hb dX5_findMarks_107 rfl (lv_at hl 1 rfl) ?_
        refine zg_5_7 h hH zf_X5_22 dX5_findMarks_108 ?_
        refine lv_iload_n hx hb dX5_findMarks_111 rfl (lv_at hl 4 rfl) ?_
        refine lv_iload hx hb dX5_findMarks_112 (lv_at hl 0 rfl) ?_
        refine lv_aload_n hx hb dX5_findMarks_114 rfl (lv_at hl 1 rfl) ?_
        refine zg_5_7 h hH zf_X5_22 dX5_findMarks_115 ?_
        refine lv_iload_n hx hb dX5_findMarks_118 rfl (lv_at hl 4 rfl) ?_
        refine zb_ic h dX5_findMarks_119 ?_
        refine zb_isub h dX5_findMarks_120 ?_
        refine zld_ar_mm h hH (by omega) dX5_findMarks_121 ?_
        rw [zM_5]
        refine zb_cle (tgt := 130) h (by omega) (by omega) dX5_findMarks_122 (by decide) (fun c_122 => ?_) (fun c_122 => ?_)
        · refine lv_aload_n hx hb dX5_findMarks_130 rfl (lv_at hl 1 rfl) ?_
          refine zg_5_7 h hH zf_X5_22 dX5_findMarks_131 ?_
          refine lv_iload_n hx hb dX5_findMarks_134 rfl (lv_at hl 4 rfl) ?_
          refine zb_ic h dX5_findMarks_135 ?_
          refine zb_isub h dX5_findMarks_136 ?_
          refine zld_ar_mm h hH (by omega) dX5_findMarks_137 ?_
          rw [zM_5]
          refine zb_ic h dX5_findMarks_138 ?_
          refine zb_iadd h dX5_findMarks_139 ?_
          refine zst_ar_mm h hH (by omega) dX5_findMarks_140 (fun H locs hH => ?_)
          rw [zs_M5] at hH
          refine lv_iinc (v := zI (i + 1)) (lv' := [(3, .int (zI (i + 1))), (4, .int (zI (((M (i - 1)) * w0) / 1000))), (0, .ref (za G 9 0)), (1, .int (zI (S 9 1 1))), (2, .int (zI w0))]) hx hb dX5_findMarks_141 hl (k := 4) rfl (zI_add _ _) (by decide) rfl (fun ls hl => ?_)
          refine lv_goto (tgt := 82) hx hb dX5_findMarks_144 (by decide) ?_
          exact ih82 (i + 1) w0 (zup M (i) ((M (i - 1)) + 1)) _ _ _ (by omega) hw0 (by omega) (fun j h1 h2 => if e : j = i then (by rw [e, zup_s]; have q := zmk_s (S 9 1 1) (S 9 1 2) (show 0 ≤ i - 1 by omega); rw [Int.sub_add_cancel, ← e_96, ← hw0] at q; show _ = zmkN (S 9 1 1) (S 9 1 2) i.toNat; omega) else (by rw [zup_n e]; exact hM j h1 (by omega))) hH (lv_sub hl [2, 3, 4, 0] rfl)
        · refine lv_iload hx hb dX5_findMarks_125 (lv_at hl 0 rfl) ?_
          refine lv_goto (tgt := 140) hx hb dX5_findMarks_127 (by decide) ?_
          refine zst_ar_mm h hH (by omega) dX5_findMarks_140 (fun H locs hH => ?_)
          rw [zs_M5] at hH
          refine lv_iinc (v := zI (i + 1)) (lv' := [(3, .int (zI (i + 1))), (4, .int (zI (((M (i - 1)) * w0) / 1000))), (0, .ref (za G 9 0)), (1, .int (zI (S 9 1 1))), (2, .int (zI w0))]) hx hb dX5_findMarks_141 hl (k := 4) rfl (zI_add _ _) (by decide) rfl (fun ls hl => ?_)
          refine lv_goto (tgt := 82) hx hb dX5_findMarks_144 (by decide) ?_
          exact ih82 (i + 1) w0 (zup M (i) (((M (i - 1)) * w0) / 1000)) _ _ _ (by omega) hw0 (by omega) (fun j h1 h2 => if e : j = i then (by rw [e, zup_s]; have q := zmk_s (S 9 1 1) (S 9 1 2) (show 0 ≤ i - 1 by omega); rw [Int.sub_add_cancel, ← e_96, ← hw0] at q; show _ = zmkN (S 9 1 1) (S 9 1 2) i.toNat; omega) else (by rw [zup_n e]; exact hM j h1 (by omega))) hH (lv_sub hl [2, 3, 4, 0] rfl)
  have C64 : ∀ (w0 : Int) (H : Heap) (locs : List Loc) (ls : Array Slot), (w0 = zSteps (S 9 1 1)) → zH G (zMo S (S 9 0) (S 9 1) (S 9 2) (S 9 3) (S 9 4) (S 9 5) (S 9 6)) s H locs → lv_has ls 5 [(0, .ref (za G 9 0)), (1, .int (zI (S 9 1 1)))] → W p l e r_X5_findMarks s m args below meth c H locs 0 0 (MQ below (va_Qv (q_X5_findMarks S) (zB G) (zA G)) args s 0 0 (zA G)) (F0 m 64 ls [.int (zI w0)]) := by
    intro w0 H locs ls hw0 hH hl
    refine lv_istore_n (lv' := [(2, .int (zI w0)), (0, .ref (za G 9 0)), (1, .int (zI (S 9 1 1)))]) hx hb dX5_findMarks_64 rfl hl (by decide) rfl (fun ls hl => ?_)
    refine lv_aload_n hx hb dX5_findMarks_65 rfl (lv_at hl 1 rfl) ?_
    refine zg_5_7 h hH zf_X5_22 dX5_findMarks_66 ?_
    refine zb_ic h dX5_findMarks_69 ?_
    refine zb_bi h dX5_findMarks_70 (by decide) (by decide) ?_
    refine lv_aload_n hx hb dX5_findMarks_72 rfl (lv_at hl 1 rfl) ?_
    refine zg_5_1 h hH zf_X5_7 dX5_findMarks_73 ?_
    refine zb_ic h dX5_findMarks_76 ?_
    refine zld_ar_s h hH (by omega) dX5_findMarks_77 ?_
    rw [zM_1]
    have f_77 := zW_2 hw
    refine zb_imul h dX5_findMarks_78 ?_
    refine zst_ar_mm h hH (by omega) dX5_findMarks_79 (fun H locs hH => ?_)
    rw [zs_M5] at hH
    refine zb_ic h dX5_findMarks_80 ?_
    refine lv_istore_n (lv' := [(3, .int (zI 1)), (2, .int (zI w0)), (0, .ref (za G 9 0)), (1, .int (zI (S 9 1 1)))]) hx hb dX5_findMarks_81 rfl hl (by decide) rfl (fun ls hl => ?_)
    exact C82 ((10 - 1 : Int).toNat + 1) 1 w0 (zup (S 9 5) (0) (100 * (S 9 1 2))) _ _ _ (by omega) hw0 (by omega) (fun j h1 h2 => by rw [show j = 0 by omega, zup_s]; rfl) hH (lv_sub hl [2, 3, 1, 0] rfl)
  refine lv_aload_n hx hb dX5_findMarks_0 rfl (lv_at hl 0 rfl) ?_
  refine zg_5_1 h hH zf_X5_7 dX5_findMarks_1 ?_
  refine zb_ic h dX5_findMarks_4 ?_
  refine zld_ar_s h hH (by omega) dX5_findMarks_5 ?_
  rw [zM_1]
  have f_5 := zW_1 hw
  refine lv_istore_n (lv' := [(1, .int (zI (S 9 1 1))), (0, .ref (za G 9 0))]) hx hb dX5_findMarks_6 rfl hl (by decide) rfl (fun ls hl => ?_)
  refine lv_iload_n hx hb dX5_findMarks_7 rfl (lv_at hl 0 rfl) ?_
  refine zb_ine (tgt := 17) h (by omega) dX5_findMarks_8 (by decide) (fun c_8 => ?_) (fun c_8 => ?_)
  · refine lv_iload_n hx hb dX5_findMarks_17 rfl (lv_at hl 0 rfl) ?_
    refine zb_ic h dX5_findMarks_18 ?_
    refine zb_cne (tgt := 28) h (by omega) (by omega) dX5_findMarks_19 (by decide) (fun c_19 => ?_) (fun c_19 => ?_)
    · refine lv_iload_n hx hb dX5_findMarks_28 rfl (lv_at hl 0 rfl) ?_
      refine zb_ic h dX5_findMarks_29 ?_
      refine zb_cne (tgt := 39) h (by omega) (by omega) dX5_findMarks_30 (by decide) (fun c_30 => ?_) (fun c_30 => ?_)
      · refine lv_iload_n hx hb dX5_findMarks_39 rfl (lv_at hl 0 rfl) ?_
        refine zb_ic h dX5_findMarks_40 ?_
        refine zb_cne (tgt := 50) h (by omega) (by omega) dX5_findMarks_41 (by decide) (fun c_41 => ?_) (fun c_41 => ?_)
        · refine lv_iload_n hx hb dX5_findMarks_50 rfl (lv_at hl 0 rfl) ?_
          refine zb_ic h dX5_findMarks_51 ?_
          refine zb_cne (tgt := 61) h (by omega) (by omega) dX5_findMarks_52 (by decide) (fun c_52 => ?_) (fun c_52 => ?_)
          · refine zb_si h dX5_findMarks_61 (by decide) (by decide) ?_
            exact C64 1120 _ _ _  (by have q := zW_1 hw; unfold zSteps; repeat (first | rw [if_pos (by omega)] | rw [if_neg (by omega)])) hH (lv_sub hl [1, 0] rfl)
          · refine zb_si h dX5_findMarks_55 (by decide) (by decide) ?_
            refine lv_goto (tgt := 64) hx hb dX5_findMarks_58 (by decide) ?_
            exact C64 1160 _ _ _  (by have q := zW_1 hw; unfold zSteps; repeat (first | rw [if_pos (by omega)] | rw [if_neg (by omega)])) hH (lv_sub hl [1, 0] rfl)
        · refine zb_si h dX5_findMarks_44 (by decide) (by decide) ?_
          refine lv_goto (tgt := 64) hx hb dX5_findMarks_47 (by decide) ?_
          exact C64 1200 _ _ _  (by have q := zW_1 hw; unfold zSteps; repeat (first | rw [if_pos (by omega)] | rw [if_neg (by omega)])) hH (lv_sub hl [1, 0] rfl)
      · refine zb_si h dX5_findMarks_33 (by decide) (by decide) ?_
        refine lv_goto (tgt := 64) hx hb dX5_findMarks_36 (by decide) ?_
        exact C64 1260 _ _ _  (by have q := zW_1 hw; unfold zSteps; repeat (first | rw [if_pos (by omega)] | rw [if_neg (by omega)])) hH (lv_sub hl [1, 0] rfl)
    · refine zb_si h dX5_findMarks_22 (by decide) (by decide) ?_
      refine lv_goto (tgt := 64) hx hb dX5_findMarks_25 (by decide) ?_
      exact C64 1320 _ _ _  (by have q := zW_1 hw; unfold zSteps; repeat (first | rw [if_pos (by omega)] | rw [if_neg (by omega)])) hH (lv_sub hl [1, 0] rfl)
  · refine zb_si h dX5_findMarks_11 (by decide) (by decide) ?_
    refine lv_goto (tgt := 64) hx hb dX5_findMarks_14 (by decide) ?_
    exact C64 1400 _ _ _  (by have q := zW_1 hw; unfold zSteps; repeat (first | rw [if_pos (by omega)] | rw [if_neg (by omega)])) hH (lv_sub hl [1, 0] rfl)
theorem dX5_toneOf_0 : decode cX5_toneOf 0 = .ok (.aload_n 0, 1) := by decide +kernel
theorem dX5_toneOf_1 : decode cX5_toneOf 1 = .ok (.invokevirtual 48, 3) := by decide +kernel
theorem dX5_toneOf_4 : decode cX5_toneOf 4 = .ok (.iconst 0, 1) := by decide +kernel
theorem dX5_toneOf_5 : decode cX5_toneOf 5 = .ok (.istore_n 2, 1) := by decide +kernel
theorem dX5_toneOf_6 : decode cX5_toneOf 6 = .ok (.iconst 0, 1) := by decide +kernel
theorem dX5_toneOf_7 : decode cX5_toneOf 7 = .ok (.istore_n 3, 1) := by decide +kernel
theorem dX5_toneOf_8 : decode cX5_toneOf 8 = .ok (.iload_n 3, 1) := by decide +kernel
theorem dX5_toneOf_9 : decode cX5_toneOf 9 = .ok (.bipush 10, 2) := by decide +kernel
theorem dX5_toneOf_11 : decode cX5_toneOf 11 = .ok (.if_icmp .ge 27, 3) := by decide +kernel
theorem dX5_toneOf_14 : decode cX5_toneOf 14 = .ok (.iload_n 2, 1) := by decide +kernel
theorem dX5_toneOf_15 : decode cX5_toneOf 15 = .ok (.aload_n 0, 1) := by decide +kernel
theorem dX5_toneOf_16 : decode cX5_toneOf 16 = .ok (.getfield 22, 3) := by decide +kernel
theorem dX5_toneOf_19 : decode cX5_toneOf 19 = .ok (.iload_n 3, 1) := by decide +kernel
theorem dX5_toneOf_20 : decode cX5_toneOf 20 = .ok (.iaload, 1) := by decide +kernel
theorem dX5_toneOf_21 : decode cX5_toneOf 21 = .ok (.iload_n 1, 1) := by decide +kernel
theorem dX5_toneOf_22 : decode cX5_toneOf 22 = .ok (.if_icmp .gt 7, 3) := by decide +kernel
theorem dX5_toneOf_25 : decode cX5_toneOf 25 = .ok (.iconst 1, 1) := by decide +kernel
theorem dX5_toneOf_26 : decode cX5_toneOf 26 = .ok (.goto 4, 3) := by decide +kernel
theorem dX5_toneOf_29 : decode cX5_toneOf 29 = .ok (.iconst 0, 1) := by decide +kernel
theorem dX5_toneOf_30 : decode cX5_toneOf 30 = .ok (.iadd, 1) := by decide +kernel
theorem dX5_toneOf_31 : decode cX5_toneOf 31 = .ok (.istore_n 2, 1) := by decide +kernel
theorem dX5_toneOf_32 : decode cX5_toneOf 32 = .ok (.iinc 3 1, 3) := by decide +kernel
theorem dX5_toneOf_35 : decode cX5_toneOf 35 = .ok (.goto (-27), 3) := by decide +kernel
theorem dX5_toneOf_38 : decode cX5_toneOf 38 = .ok (.iload_n 2, 1) := by decide +kernel
theorem dX5_toneOf_39 : decode cX5_toneOf 39 = .ok (.ireturn, 1) := by decide +kernel
def q_X5_toneOf (S : zM) (x : Int) : Int32 → zM → Prop := fun r S1 => r = zI (zcnt (zMk (S 9 1 1) (S 9 1 2)) x 10) ∧ ∃ M', zMo S (S 9 0) (S 9 1) (S 9 2) (S 9 3) (S 9 4) M' (S 9 6) = S1
def r_X5_toneOf : Room := { frames := 1, cells := 0, slots := 0, locals := 24 }
set_option maxHeartbeats 4000000 in
set_option maxRecDepth 100000 in
theorem c_X5_toneOf (l : Launch) (G : zG) (hG : zok G) (S : zM) (x : Int) (hx0 : -2147483648 ≤ x ∧ x ≤ 2147483647) (hw : zW (S 9 1)) : Met l yX5_toneOf (Cond.code yX5_toneOf cX5_toneOf 4 (some FieldType.int) :: zTbl) r_X5_toneOf (va_Pc [.ref (za G 9 0), .int (zI x)] (zB G S)) (va_Qi (q_X5_toneOf S x) (zB G) (zA G)) 0 0 (zA G) := by
  refine zMet [(0, .ref (za G 9 0)), (1, .int (zI x))] hG (by decide) (Nat.le_of_ble_eq_true rfl) rfl (fun p e s m args below meth c ls h hx hb hr hH hl => ?_)
  rw [← zM_id S] at hH
  have C8 : ∀ (fu : Nat) (i n : Int) (H : Heap) (locs : List Loc) (ls : Array Slot), (10 - i).toNat < fu → (0 ≤ i ∧ i ≤ 10) → (n = zcnt (zMk (S 9 1 1) (S 9 1 2)) x i.toNat) → zH G (zMo S (S 9 0) (S 9 1) (S 9 2) (S 9 3) (S 9 4) (zMk (S 9 1 1) (S 9 1 2)) (S 9 6)) s H locs → lv_has ls 4 [(0, .ref (za G 9 0)), (1, .int (zI x)), (2, .int (zI n)), (3, .int (zI i))] → W p l e r_X5_toneOf s m args below meth c H locs 0 0 (MQ below (va_Qi (q_X5_toneOf S x) (zB G) (zA G)) args s 0 0 (zA G)) (F0 m 8 ls []) := by
    intro fu
    induction fu with
    | zero => intro i n H locs ls hfu; omega
    | succ fu ih8 =>
      intro i n H locs ls hfu hi hn hH hl
      refine lv_iload_n hx hb dX5_toneOf_8 rfl (lv_at hl 3 rfl) ?_
      refine zb_bi h dX5_toneOf_9 (by decide) (by decide) ?_
      refine zb_cge (tgt := 38) h (by omega) (by omega) dX5_toneOf_11 (by decide) (fun c_11 => ?_) (fun c_11 => ?_)
      · refine lv_iload_n hx hb dX5_toneOf_38 rfl (lv_at hl 2 rfl) ?_
        refine zri h hr hH ?_ dX5_toneOf_39
        obtain rfl : i = 10 := by omega
        exact ⟨by rw [hn]; rfl, _, rfl⟩
      · refine lv_iload_n hx hb dX5_toneOf_14 rfl (lv_at hl 2 rfl) ?_
        refine lv_aload_n hx hb dX5_toneOf_15 rfl (lv_at hl 0 rfl) ?_
        refine zg_5_7 h hH zf_X5_22 dX5_toneOf_16 ?_
        refine lv_iload_n hx hb dX5_toneOf_19 rfl (lv_at hl 3 rfl) ?_
        refine zld_ar_mm h hH (by omega) dX5_toneOf_20 ?_
        rw [zM_5]
        refine lv_iload_n hx hb dX5_toneOf_21 rfl (lv_at hl 1 rfl) ?_
        have m_20 := zMk_in (g := S 9 1 1) (zW_2 hw) (show 0 ≤ i ∧ i < 10 by omega)
        refine zb_cgt (tgt := 29) h (by omega) (by omega) dX5_toneOf_22 (by decide) (fun c_22 => ?_) (fun c_22 => ?_)
        · refine zb_ic h dX5_toneOf_29 ?_
          refine zb_iadd h dX5_toneOf_30 ?_
          refine lv_istore_n (lv' := [(2, .int (zI (n + 0))), (0, .ref (za G 9 0)), (1, .int (zI x)), (3, .int (zI i))]) hx hb dX5_toneOf_31 rfl hl (by decide) rfl (fun ls hl => ?_)
          refine lv_iinc (v := zI (i + 1)) (lv' := [(3, .int (zI (i + 1))), (2, .int (zI (n + 0))), (0, .ref (za G 9 0)), (1, .int (zI x))]) hx hb dX5_toneOf_32 hl (k := 3) rfl (zI_add _ _) (by decide) rfl (fun ls hl => ?_)
          refine lv_goto (tgt := 8) hx hb dX5_toneOf_35 (by decide) ?_
          exact ih8 (i + 1) (n + 0) _ _ _ (by omega) (by omega) (by have e := zcnt_s (zMk (S 9 1 1) (S 9 1 2)) x hi.1; split at e <;> omega) hH (lv_sub hl [2, 3, 1, 0] rfl)
        · refine zb_ic h dX5_toneOf_25 ?_
          refine lv_goto (tgt := 30) hx hb dX5_toneOf_26 (by decide) ?_
          refine zb_iadd h dX5_toneOf_30 ?_
          refine lv_istore_n (lv' := [(2, .int (zI (n + 1))), (0, .ref (za G 9 0)), (1, .int (zI x)), (3, .int (zI i))]) hx hb dX5_toneOf_31 rfl hl (by decide) rfl (fun ls hl => ?_)
          refine lv_iinc (v := zI (i + 1)) (lv' := [(3, .int (zI (i + 1))), (2, .int (zI (n + 1))), (0, .ref (za G 9 0)), (1, .int (zI x))]) hx hb dX5_toneOf_32 hl (k := 3) rfl (zI_add _ _) (by decide) rfl (fun ls hl => ?_)
          refine lv_goto (tgt := 8) hx hb dX5_toneOf_35 (by decide) ?_
          exact ih8 (i + 1) (n + 1) _ _ _ (by omega) (by omega) (by have e := zcnt_s (zMk (S 9 1 1) (S 9 1 2)) x hi.1; split at e <;> omega) hH (lv_sub hl [2, 3, 1, 0] rfl)
  refine lv_aload_n hx hb dX5_toneOf_0 rfl (lv_at hl 0 rfl) ?_
  refine zcVv h hH (zr_5 h hH) (As := []) (rest := []) (c_X5_findMarks l G hG (zMo S (S 9 0) (S 9 1) (S 9 2) (S 9 3) (S 9 4) (S 9 5) (S 9 6)) (zM_hw hw)) zce_X5_findMarks zcv_X5_findMarks zm_X5_48 hl.1 rfl rfl ⟨rfl, rfl⟩ ⟨Nat.le_of_ble_eq_true rfl, Nat.le_of_ble_eq_true rfl⟩ (Nat.le_of_ble_eq_true rfl) ⟨Nat.zero_le _, Nat.zero_le _⟩ dX5_toneOf_1 (fun S_1 H locs hq hH => ?_)
  obtain rfl := hq
  simp only [zM_M, zM_0, zM_1, zM_2, zM_3, zM_4, zM_5, zM_6] at hH
  refine zb_ic h dX5_toneOf_4 ?_
  refine lv_istore_n (lv' := [(2, .int (zI 0)), (0, .ref (za G 9 0)), (1, .int (zI x))]) hx hb dX5_toneOf_5 rfl hl (by decide) rfl (fun ls hl => ?_)
  refine zb_ic h dX5_toneOf_6 ?_
  refine lv_istore_n (lv' := [(3, .int (zI 0)), (2, .int (zI 0)), (0, .ref (za G 9 0)), (1, .int (zI x))]) hx hb dX5_toneOf_7 rfl hl (by decide) rfl (fun ls hl => ?_)
  exact C8 ((10 - 0 : Int).toNat + 1) 0 0 _ _ _ (by omega) (by omega) rfl hH (lv_sub hl [2, 3, 1, 0] rfl)
theorem dX5_toneBy_0 : decode cX5_toneBy 0 = .ok (.aload_n 0, 1) := by decide +kernel
theorem dX5_toneBy_1 : decode cX5_toneBy 1 = .ok (.iload_n 2, 1) := by decide +kernel
theorem dX5_toneBy_2 : decode cX5_toneBy 2 = .ok (.aload_n 0, 1) := by decide +kernel
theorem dX5_toneBy_3 : decode cX5_toneBy 3 = .ok (.getfield 7, 3) := by decide +kernel
theorem dX5_toneBy_6 : decode cX5_toneBy 6 = .ok (.iload_n 1, 1) := by decide +kernel
theorem dX5_toneBy_7 : decode cX5_toneBy 7 = .ok (.iconst 0, 1) := by decide +kernel
theorem dX5_toneBy_8 : decode cX5_toneBy 8 = .ok (.invokestatic 51, 3) := by decide +kernel
theorem dX5_toneBy_11 : decode cX5_toneBy 11 = .ok (.iaload, 1) := by decide +kernel
theorem dX5_toneBy_12 : decode cX5_toneBy 12 = .ok (.invokestatic 55, 3) := by decide +kernel
theorem dX5_toneBy_15 : decode cX5_toneBy 15 = .ok (.invokevirtual 58, 3) := by decide +kernel
theorem dX5_toneBy_18 : decode cX5_toneBy 18 = .ok (.ireturn, 1) := by decide +kernel
def q_X5_toneBy (S : zM) (z t : Int) : Int32 → zM → Prop := fun r S1 => r = zI (tAt (S 9 1) z t) ∧ ∃ M', zMo S (S 9 0) (S 9 1) (S 9 2) (S 9 3) (S 9 4) M' (S 9 6) = S1
def r_X5_toneBy : Room := { frames := 2, cells := 0, slots := 0, locals := 47 }
set_option maxHeartbeats 4000000 in
set_option maxRecDepth 100000 in
theorem c_X5_toneBy (l : Launch) (G : zG) (hG : zok G) (S : zM) (z t : Int) (hz : 0 ≤ z ∧ z < 8) (ht : 0 ≤ t ∧ t ≤ 100000) (hw : zW (S 9 1)) : Met l yX5_toneBy (Cond.code yX5_toneBy cX5_toneBy 3 (some FieldType.int) :: zTbl) r_X5_toneBy (va_Pc [.ref (za G 9 0), .int (zI z), .int (zI t)] (zB G S)) (va_Qi (q_X5_toneBy S z t) (zB G) (zA G)) 0 0 (zA G) := by
  refine zMet [(0, .ref (za G 9 0)), (1, .int (zI z)), (2, .int (zI t))] hG (by decide) (Nat.le_of_ble_eq_true rfl) rfl (fun p e s m args below meth c ls h hx hb hr hH hl => ?_)
  rw [← zM_id S] at hH
  refine lv_aload_n hx hb dX5_toneBy_0 rfl (lv_at hl 0 rfl) ?_
  refine lv_iload_n hx hb dX5_toneBy_1 rfl (lv_at hl 2 rfl) ?_
  refine lv_aload_n hx hb dX5_toneBy_2 rfl (lv_at hl 0 rfl) ?_
  refine zg_5_1 h hH zf_X5_7 dX5_toneBy_3 ?_
  refine lv_iload_n hx hb dX5_toneBy_6 rfl (lv_at hl 1 rfl) ?_
  refine zb_ic h dX5_toneBy_7 ?_
  refine zcSi h hH (As := [.int (zI z), .int (zI 0)]) (rest := [.ref (za G 9 1), .int (zI t), .ref (za G 9 0)]) (c_X5_of l G hG (zMo S (S 9 0) (S 9 1) (S 9 2) (S 9 3) (S 9 4) (S 9 5) (S 9 6)) z 0) zce_X5_of zt_X5_of zm_X5_51 hl.1 rfl rfl ⟨rfl, rfl⟩ ⟨Nat.le_of_ble_eq_true rfl, Nat.le_of_ble_eq_true rfl⟩ (Nat.le_of_ble_eq_true rfl) ⟨Nat.zero_le _, Nat.zero_le _⟩ dX5_toneBy_8 (fun r_8 S_8 H locs hq hH => ?_)
  obtain ⟨rfl, rfl⟩ := hq
  refine zb_top (y := 5 + 5 * z) (by omega) ?_
  refine zld_ar_s h hH (by omega) dX5_toneBy_11 ?_
  rw [zM_1]
  have f_11 := zW_de hw (show 0 ≤ z ∧ z < 8 by omega)
  refine zcSi h hH (As := [.int (zI t), .int (zI (S 9 1 (5 + 5 * z)))]) (rest := [.ref (za G 9 0)]) (c_X5_lightOf l G hG (zMo S (S 9 0) (S 9 1) (S 9 2) (S 9 3) (S 9 4) (S 9 5) (S 9 6)) t (S 9 1 (5 + 5 * z)) (by omega) (by omega)) zce_X5_lightOf zt_X5_lightOf zm_X5_55 hl.1 rfl rfl ⟨rfl, rfl⟩ ⟨Nat.le_of_ble_eq_true rfl, Nat.le_of_ble_eq_true rfl⟩ (Nat.le_of_ble_eq_true rfl) ⟨Nat.zero_le _, Nat.zero_le _⟩ dX5_toneBy_12 (fun r_12 S_12 H locs hq hH => ?_)
  obtain ⟨rfl, rfl⟩ := hq
  have b_15 := zLt_in (d := S 9 1 (5 + 5 * z)) ht
  refine zcVi h hH (zr_5 h hH) (As := [.int (zI (zLt (S 9 1 (5 + 5 * z)) t))]) (rest := []) (c_X5_toneOf l G hG (zMo S (S 9 0) (S 9 1) (S 9 2) (S 9 3) (S 9 4) (S 9 5) (S 9 6)) (zLt (S 9 1 (5 + 5 * z)) t) (by omega) (zM_hw hw)) zce_X5_toneOf zcv_X5_toneOf zm_X5_58 hl.1 rfl rfl ⟨rfl, rfl⟩ ⟨Nat.le_of_ble_eq_true rfl, Nat.le_of_ble_eq_true rfl⟩ (Nat.le_of_ble_eq_true rfl) ⟨Nat.zero_le _, Nat.zero_le _⟩ dX5_toneBy_15 (fun r_15 S_15 H locs hq hH => ?_)
  obtain ⟨rfl, M_15, rfl⟩ := hq
  simp only [zM_M, zM_0, zM_1, zM_2, zM_3, zM_4, zM_5, zM_6] at hH
  rw [zM_1]
  refine zri h hr hH ?_ dX5_toneBy_18
  exact ⟨rfl, _, rfl⟩
theorem dX5_spilled_0 : decode cX5_spilled 0 = .ok (.iconst 0, 1) := by decide +kernel
theorem dX5_spilled_1 : decode cX5_spilled 1 = .ok (.istore_n 2, 1) := by decide +kernel
theorem dX5_spilled_2 : decode cX5_spilled 2 = .ok (.iconst 0, 1) := by decide +kernel
theorem dX5_spilled_3 : decode cX5_spilled 3 = .ok (.istore_n 3, 1) := by decide +kernel
theorem dX5_spilled_4 : decode cX5_spilled 4 = .ok (.iload_n 3, 1) := by decide +kernel
theorem dX5_spilled_5 : decode cX5_spilled 5 = .ok (.aload_n 0, 1) := by decide +kernel
theorem dX5_spilled_6 : decode cX5_spilled 6 = .ok (.getfield 7, 3) := by decide +kernel
theorem dX5_spilled_9 : decode cX5_spilled 9 = .ok (.iconst 4, 1) := by decide +kernel
theorem dX5_spilled_10 : decode cX5_spilled 10 = .ok (.iaload, 1) := by decide +kernel
theorem dX5_spilled_11 : decode cX5_spilled 11 = .ok (.if_icmp .ge 54, 3) := by decide +kernel
theorem dX5_spilled_14 : decode cX5_spilled 14 = .ok (.iload_n 2, 1) := by decide +kernel
theorem dX5_spilled_15 : decode cX5_spilled 15 = .ok (.aload_n 0, 1) := by decide +kernel
theorem dX5_spilled_16 : decode cX5_spilled 16 = .ok (.getfield 7, 3) := by decide +kernel
theorem dX5_spilled_19 : decode cX5_spilled 19 = .ok (.iload_n 1, 1) := by decide +kernel
theorem dX5_spilled_20 : decode cX5_spilled 20 = .ok (.iconst 4, 1) := by decide +kernel
theorem dX5_spilled_21 : decode cX5_spilled 21 = .ok (.invokestatic 51, 3) := by decide +kernel
theorem dX5_spilled_24 : decode cX5_spilled 24 = .ok (.iaload, 1) := by decide +kernel
theorem dX5_spilled_25 : decode cX5_spilled 25 = .ok (.iload_n 3, 1) := by decide +kernel
theorem dX5_spilled_26 : decode cX5_spilled 26 = .ok (.ishr, 1) := by decide +kernel
theorem dX5_spilled_27 : decode cX5_spilled 27 = .ok (.iconst 1, 1) := by decide +kernel
theorem dX5_spilled_28 : decode cX5_spilled 28 = .ok (.iand, 1) := by decide +kernel
theorem dX5_spilled_29 : decode cX5_spilled 29 = .ok (.iconst 1, 1) := by decide +kernel
theorem dX5_spilled_30 : decode cX5_spilled 30 = .ok (.if_icmp .ne 26, 3) := by decide +kernel
theorem dX5_spilled_33 : decode cX5_spilled 33 = .ok (.aload_n 0, 1) := by decide +kernel
theorem dX5_spilled_34 : decode cX5_spilled 34 = .ok (.getfield 7, 3) := by decide +kernel
theorem dX5_spilled_37 : decode cX5_spilled 37 = .ok (.iload_n 3, 1) := by decide +kernel
theorem dX5_spilled_38 : decode cX5_spilled 38 = .ok (.iconst 2, 1) := by decide +kernel
theorem dX5_spilled_39 : decode cX5_spilled 39 = .ok (.invokestatic 51, 3) := by decide +kernel
theorem dX5_spilled_42 : decode cX5_spilled 42 = .ok (.iaload, 1) := by decide +kernel
theorem dX5_spilled_43 : decode cX5_spilled 43 = .ok (.aload_n 0, 1) := by decide +kernel
theorem dX5_spilled_44 : decode cX5_spilled 44 = .ok (.getfield 7, 3) := by decide +kernel
theorem dX5_spilled_47 : decode cX5_spilled 47 = .ok (.iconst 3, 1) := by decide +kernel
theorem dX5_spilled_48 : decode cX5_spilled 48 = .ok (.iaload, 1) := by decide +kernel
theorem dX5_spilled_49 : decode cX5_spilled 49 = .ok (.imul, 1) := by decide +kernel
theorem dX5_spilled_50 : decode cX5_spilled 50 = .ok (.bipush 100, 2) := by decide +kernel
theorem dX5_spilled_52 : decode cX5_spilled 52 = .ok (.idiv, 1) := by decide +kernel
theorem dX5_spilled_53 : decode cX5_spilled 53 = .ok (.goto 4, 3) := by decide +kernel
theorem dX5_spilled_56 : decode cX5_spilled 56 = .ok (.iconst 0, 1) := by decide +kernel
theorem dX5_spilled_57 : decode cX5_spilled 57 = .ok (.iadd, 1) := by decide +kernel
theorem dX5_spilled_58 : decode cX5_spilled 58 = .ok (.istore_n 2, 1) := by decide +kernel
theorem dX5_spilled_59 : decode cX5_spilled 59 = .ok (.iinc 3 1, 3) := by decide +kernel
theorem dX5_spilled_62 : decode cX5_spilled 62 = .ok (.goto (-58), 3) := by decide +kernel
theorem dX5_spilled_65 : decode cX5_spilled 65 = .ok (.iload_n 2, 1) := by decide +kernel
theorem dX5_spilled_66 : decode cX5_spilled 66 = .ok (.ireturn, 1) := by decide +kernel
def q_X5_spilled (S : zM) (z : Int) : Int32 → zM → Prop := fun r S1 => r = zI (tSp (S 9 1) z) ∧ ∃ M', zMo S (S 9 0) (S 9 1) (S 9 2) (S 9 3) (S 9 4) M' (S 9 6) = S1
def r_X5_spilled : Room := { frames := 1, cells := 0, slots := 0, locals := 21 }
set_option maxHeartbeats 4000000 in
set_option maxRecDepth 100000 in
theorem c_X5_spilled (l : Launch) (G : zG) (hG : zok G) (S : zM) (z : Int) (hz : 0 ≤ z ∧ z < 8) (hw : zW (S 9 1)) : Met l yX5_spilled (Cond.code yX5_spilled cX5_spilled 4 (some FieldType.int) :: zTbl) r_X5_spilled (va_Pc [.ref (za G 9 0), .int (zI z)] (zB G S)) (va_Qi (q_X5_spilled S z) (zB G) (zA G)) 0 0 (zA G) := by
  refine zMet [(0, .ref (za G 9 0)), (1, .int (zI z))] hG (by decide) (Nat.le_of_ble_eq_true rfl) rfl (fun p e s m args below meth c ls h hx hb hr hH hl => ?_)
  rw [← zM_id S] at hH
  have C4 : ∀ (fu : Nat) (o n : Int) (H : Heap) (locs : List Loc) (ls : Array Slot), (S 9 1 4 - o).toNat < fu → (0 ≤ o ∧ o ≤ S 9 1 4) → (n = zSp (S 9 1) z o.toNat) → zH G (zMo S (S 9 0) (S 9 1) (S 9 2) (S 9 3) (S 9 4) (S 9 5) (S 9 6)) s H locs → lv_has ls 4 [(0, .ref (za G 9 0)), (1, .int (zI z)), (2, .int (zI n)), (3, .int (zI o))] → W p l e r_X5_spilled s m args below meth c H locs 0 0 (MQ below (va_Qi (q_X5_spilled S z) (zB G) (zA G)) args s 0 0 (zA G)) (F0 m 4 ls []) := by
    intro fu
    induction fu with
    | zero => intro o n H locs ls hfu; omega
    | succ fu ih4 =>
      intro o n H locs ls hfu ho hn hH hl
      refine lv_iload_n hx hb dX5_spilled_4 rfl (lv_at hl 3 rfl) ?_
      refine lv_aload_n hx hb dX5_spilled_5 rfl (lv_at hl 0 rfl) ?_
      refine zg_5_1 h hH zf_X5_7 dX5_spilled_6 ?_
      refine zb_ic h dX5_spilled_9 ?_
      refine zld_ar_s h hH (by omega) dX5_spilled_10 ?_
      rw [zM_1]
      have f_10 := zW_4 hw
      refine zb_cge (tgt := 65) h (by omega) (by omega) dX5_spilled_11 (by decide) (fun c_11 => ?_) (fun c_11 => ?_)
      · refine lv_iload_n hx hb dX5_spilled_65 rfl (lv_at hl 2 rfl) ?_
        refine zri h hr hH ?_ dX5_spilled_66
        obtain rfl : o = S 9 1 4 := by omega
        exact ⟨by rw [hn]; rfl, _, rfl⟩
      · refine lv_iload_n hx hb dX5_spilled_14 rfl (lv_at hl 2 rfl) ?_
        refine lv_aload_n hx hb dX5_spilled_15 rfl (lv_at hl 0 rfl) ?_
        refine zg_5_1 h hH zf_X5_7 dX5_spilled_16 ?_
        refine lv_iload_n hx hb dX5_spilled_19 rfl (lv_at hl 1 rfl) ?_
        refine zb_ic h dX5_spilled_20 ?_
        refine zcSi h hH (As := [.int (zI z), .int (zI 4)]) (rest := [.ref (za G 9 1), .int (zI n)]) (c_X5_of l G hG (zMo S (S 9 0) (S 9 1) (S 9 2) (S 9 3) (S 9 4) (S 9 5) (S 9 6)) z 4) zce_X5_of zt_X5_of zm_X5_51 hl.1 rfl rfl ⟨rfl, rfl⟩ ⟨Nat.le_of_ble_eq_true rfl, Nat.le_of_ble_eq_true rfl⟩ (Nat.le_of_ble_eq_true rfl) ⟨Nat.zero_le _, Nat.zero_le _⟩ dX5_spilled_21 (fun r_21 S_21 H locs hq hH => ?_)
        obtain ⟨rfl, rfl⟩ := hq
        refine zld_ar_s h hH (by omega) dX5_spilled_24 ?_
        rw [zM_1]
        have f_24 := zW_nb hw (show 0 ≤ z ∧ z < 8 by omega)
        refine lv_iload_n hx hb dX5_spilled_25 rfl (lv_at hl 3 rfl) ?_
        refine zb_ishr h (by omega) (by omega) dX5_spilled_26 ?_
        refine zb_ic h dX5_spilled_27 ?_
        have b_28 := zdiv_le f_24.1 (zpow_pos o.toNat)
        refine zb_and1 h (by omega) dX5_spilled_28 ?_
        refine zb_ic h dX5_spilled_29 ?_
        refine zb_cne (tgt := 56) h (by omega) (by omega) dX5_spilled_30 (by decide) (fun c_30 => ?_) (fun c_30 => ?_)
        · refine zb_ic h dX5_spilled_56 ?_
          refine zb_iadd h dX5_spilled_57 ?_
          refine lv_istore_n (lv' := [(2, .int (zI (n + 0))), (0, .ref (za G 9 0)), (1, .int (zI z)), (3, .int (zI o))]) hx hb dX5_spilled_58 rfl hl (by decide) rfl (fun ls hl => ?_)
          refine lv_iinc (v := zI (o + 1)) (lv' := [(3, .int (zI (o + 1))), (2, .int (zI (n + 0))), (0, .ref (za G 9 0)), (1, .int (zI z))]) hx hb dX5_spilled_59 hl (k := 3) rfl (zI_add _ _) (by decide) rfl (fun ls hl => ?_)
          refine lv_goto (tgt := 4) hx hb dX5_spilled_62 (by decide) ?_
          exact ih4 (o + 1) (n + 0) _ _ _ (by omega) (by have := zW_4 hw; omega) (by rw [hn, zSp_s _ _ ho.1]; first | rw [if_pos (by omega)] | rw [if_neg (by omega)]) hH (lv_sub hl [2, 3, 1, 0] rfl)
        · refine lv_aload_n hx hb dX5_spilled_33 rfl (lv_at hl 0 rfl) ?_
          refine zg_5_1 h hH zf_X5_7 dX5_spilled_34 ?_
          refine lv_iload_n hx hb dX5_spilled_37 rfl (lv_at hl 3 rfl) ?_
          refine zb_ic h dX5_spilled_38 ?_
          refine zcSi h hH (As := [.int (zI o), .int (zI 2)]) (rest := [.ref (za G 9 1), .int (zI n)]) (c_X5_of l G hG (zMo S (S 9 0) (S 9 1) (S 9 2) (S 9 3) (S 9 4) (S 9 5) (S 9 6)) o 2) zce_X5_of zt_X5_of zm_X5_51 hl.1 rfl rfl ⟨rfl, rfl⟩ ⟨Nat.le_of_ble_eq_true rfl, Nat.le_of_ble_eq_true rfl⟩ (Nat.le_of_ble_eq_true rfl) ⟨Nat.zero_le _, Nat.zero_le _⟩ dX5_spilled_39 (fun r_39 S_39 H locs hq hH => ?_)
          obtain ⟨rfl, rfl⟩ := hq
          refine zld_ar_s h hH (by omega) dX5_spilled_42 ?_
          rw [zM_1]
          have f_42 := zW_bu hw (show 0 ≤ o ∧ o < 8 by omega)
          refine lv_aload_n hx hb dX5_spilled_43 rfl (lv_at hl 0 rfl) ?_
          refine zg_5_1 h hH zf_X5_7 dX5_spilled_44 ?_
          refine zb_ic h dX5_spilled_47 ?_
          refine zld_ar_s h hH (by omega) dX5_spilled_48 ?_
          rw [zM_1]
          have f_48 := zW_3 hw
          have b_49 : S 9 1 (5 + 5 * o + 2) * S 9 1 3 ≤ 999 * 50 := Int.mul_le_mul f_42.2 f_48.2 f_48.1 (by omega)
          have b_49b : 0 ≤ S 9 1 (5 + 5 * o + 2) * S 9 1 3 := Int.mul_nonneg f_42.1 f_48.1
          refine zb_imul h dX5_spilled_49 ?_
          refine zb_bi h dX5_spilled_50 (by decide) (by decide) ?_
          refine zb_idiv h (by omega) (by omega) dX5_spilled_52 ?_
          refine lv_goto (tgt := 57) hx hb dX5_spilled_53 (by decide) ?_
          refine zb_iadd h dX5_spilled_57 ?_
          refine lv_istore_n (lv' := [(2, .int (zI (n + (((S 9 1 (5 + 5 * o + 2)) * (S 9 1 3)) / 100)))), (0, .ref (za G 9 0)), (1, .int (zI z)), (3, .int (zI o))]) hx hb dX5_spilled_58 rfl hl (by decide) rfl (fun ls hl => ?_)
          refine lv_iinc (v := zI (o + 1)) (lv' := [(3, .int (zI (o + 1))), (2, .int (zI (n + (((S 9 1 (5 + 5 * o + 2)) * (S 9 1 3)) / 100)))), (0, .ref (za G 9 0)), (1, .int (zI z))]) hx hb dX5_spilled_59 hl (k := 3) rfl (zI_add _ _) (by decide) rfl (fun ls hl => ?_)
          refine lv_goto (tgt := 4) hx hb dX5_spilled_62 (by decide) ?_
          exact ih4 (o + 1) (n + (((S 9 1 (5 + 5 * o + 2)) * (S 9 1 3)) / 100)) _ _ _ (by omega) (by have := zW_4 hw; omega) (by rw [hn, zSp_s _ _ ho.1]; first | rw [if_pos (by omega)] | rw [if_neg (by omega)]) hH (lv_sub hl [2, 3, 1, 0] rfl)
  refine zb_ic h dX5_spilled_0 ?_
  refine lv_istore_n (lv' := [(2, .int (zI 0)), (0, .ref (za G 9 0)), (1, .int (zI z))]) hx hb dX5_spilled_1 rfl hl (by decide) rfl (fun ls hl => ?_)
  refine zb_ic h dX5_spilled_2 ?_
  refine lv_istore_n (lv' := [(3, .int (zI 0)), (2, .int (zI 0)), (0, .ref (za G 9 0)), (1, .int (zI z))]) hx hb dX5_spilled_3 rfl hl (by decide) rfl (fun ls hl => ?_)
  exact C4 ((S 9 1 4 - 0 : Int).toNat + 1) 0 0 _ _ _ (by omega) (by have := zW_4 hw; omega) rfl hH (lv_sub hl [2, 3, 1, 0] rfl)
theorem dX5_timeOf_0 : decode cX5_timeOf 0 = .ok (.aload_n 0, 1) := by decide +kernel
theorem dX5_timeOf_1 : decode cX5_timeOf 1 = .ok (.getfield 7, 3) := by decide +kernel
theorem dX5_timeOf_4 : decode cX5_timeOf 4 = .ok (.iconst 0, 1) := by decide +kernel
theorem dX5_timeOf_5 : decode cX5_timeOf 5 = .ok (.iaload, 1) := by decide +kernel
theorem dX5_timeOf_6 : decode cX5_timeOf 6 = .ok (.aload_n 0, 1) := by decide +kernel
theorem dX5_timeOf_7 : decode cX5_timeOf 7 = .ok (.getfield 7, 3) := by decide +kernel
theorem dX5_timeOf_10 : decode cX5_timeOf 10 = .ok (.iload_n 1, 1) := by decide +kernel
theorem dX5_timeOf_11 : decode cX5_timeOf 11 = .ok (.iconst 3, 1) := by decide +kernel
theorem dX5_timeOf_12 : decode cX5_timeOf 12 = .ok (.invokestatic 51, 3) := by decide +kernel
theorem dX5_timeOf_15 : decode cX5_timeOf 15 = .ok (.iaload, 1) := by decide +kernel
theorem dX5_timeOf_16 : decode cX5_timeOf 16 = .ok (.isub, 1) := by decide +kernel
theorem dX5_timeOf_17 : decode cX5_timeOf 17 = .ok (.istore_n 2, 1) := by decide +kernel
theorem dX5_timeOf_18 : decode cX5_timeOf 18 = .ok (.aload_n 0, 1) := by decide +kernel
theorem dX5_timeOf_19 : decode cX5_timeOf 19 = .ok (.getfield 7, 3) := by decide +kernel
theorem dX5_timeOf_22 : decode cX5_timeOf 22 = .ok (.iconst 0, 1) := by decide +kernel
theorem dX5_timeOf_23 : decode cX5_timeOf 23 = .ok (.iaload, 1) := by decide +kernel
theorem dX5_timeOf_24 : decode cX5_timeOf 24 = .ok (.iconst 2, 1) := by decide +kernel
theorem dX5_timeOf_25 : decode cX5_timeOf 25 = .ok (.idiv, 1) := by decide +kernel
theorem dX5_timeOf_26 : decode cX5_timeOf 26 = .ok (.istore_n 3, 1) := by decide +kernel
theorem dX5_timeOf_27 : decode cX5_timeOf 27 = .ok (.iload_n 2, 1) := by decide +kernel
theorem dX5_timeOf_28 : decode cX5_timeOf 28 = .ok (.iload_n 3, 1) := by decide +kernel
theorem dX5_timeOf_29 : decode cX5_timeOf 29 = .ok (.if_icmp .ge 7, 3) := by decide +kernel
theorem dX5_timeOf_32 : decode cX5_timeOf 32 = .ok (.iload_n 3, 1) := by decide +kernel
theorem dX5_timeOf_33 : decode cX5_timeOf 33 = .ok (.goto 4, 3) := by decide +kernel
theorem dX5_timeOf_36 : decode cX5_timeOf 36 = .ok (.iload_n 2, 1) := by decide +kernel
theorem dX5_timeOf_37 : decode cX5_timeOf 37 = .ok (.aload_n 0, 1) := by decide +kernel
theorem dX5_timeOf_38 : decode cX5_timeOf 38 = .ok (.getfield 7, 3) := by decide +kernel
theorem dX5_timeOf_41 : decode cX5_timeOf 41 = .ok (.iload_n 1, 1) := by decide +kernel
theorem dX5_timeOf_42 : decode cX5_timeOf 42 = .ok (.iconst 2, 1) := by decide +kernel
theorem dX5_timeOf_43 : decode cX5_timeOf 43 = .ok (.invokestatic 51, 3) := by decide +kernel
theorem dX5_timeOf_46 : decode cX5_timeOf 46 = .ok (.iaload, 1) := by decide +kernel
theorem dX5_timeOf_47 : decode cX5_timeOf 47 = .ok (.iadd, 1) := by decide +kernel
theorem dX5_timeOf_48 : decode cX5_timeOf 48 = .ok (.aload_n 0, 1) := by decide +kernel
theorem dX5_timeOf_49 : decode cX5_timeOf 49 = .ok (.iload_n 1, 1) := by decide +kernel
theorem dX5_timeOf_50 : decode cX5_timeOf 50 = .ok (.invokevirtual 62, 3) := by decide +kernel
theorem dX5_timeOf_53 : decode cX5_timeOf 53 = .ok (.iadd, 1) := by decide +kernel
theorem dX5_timeOf_54 : decode cX5_timeOf 54 = .ok (.ireturn, 1) := by decide +kernel
def q_X5_timeOf (S : zM) (z : Int) : Int32 → zM → Prop := fun r S1 => r = zI (tTm (S 9 1) z) ∧ ∃ M', zMo S (S 9 0) (S 9 1) (S 9 2) (S 9 3) (S 9 4) M' (S 9 6) = S1
def r_X5_timeOf : Room := { frames := 2, cells := 0, slots := 0, locals := 44 }
set_option maxHeartbeats 4000000 in
set_option maxRecDepth 100000 in
theorem c_X5_timeOf (l : Launch) (G : zG) (hG : zok G) (S : zM) (z : Int) (hz : 0 ≤ z ∧ z < 8) (hw : zW (S 9 1)) : Met l yX5_timeOf (Cond.code yX5_timeOf cX5_timeOf 4 (some FieldType.int) :: zTbl) r_X5_timeOf (va_Pc [.ref (za G 9 0), .int (zI z)] (zB G S)) (va_Qi (q_X5_timeOf S z) (zB G) (zA G)) 0 0 (zA G) := by
  refine zMet [(0, .ref (za G 9 0)), (1, .int (zI z))] hG (by decide) (Nat.le_of_ble_eq_true rfl) rfl (fun p e s m args below meth c ls h hx hb hr hH hl => ?_)
  rw [← zM_id S] at hH
  refine lv_aload_n hx hb dX5_timeOf_0 rfl (lv_at hl 0 rfl) ?_
  refine zg_5_1 h hH zf_X5_7 dX5_timeOf_1 ?_
  refine zb_ic h dX5_timeOf_4 ?_
  refine zld_ar_s h hH (by omega) dX5_timeOf_5 ?_
  rw [zM_1]
  have f_5 := zW_0 hw
  refine lv_aload_n hx hb dX5_timeOf_6 rfl (lv_at hl 0 rfl) ?_
  refine zg_5_1 h hH zf_X5_7 dX5_timeOf_7 ?_
  refine lv_iload_n hx hb dX5_timeOf_10 rfl (lv_at hl 1 rfl) ?_
  refine zb_ic h dX5_timeOf_11 ?_
  refine zcSi h hH (As := [.int (zI z), .int (zI 3)]) (rest := [.ref (za G 9 1), .int (zI (S 9 1 0))]) (c_X5_of l G hG (zMo S (S 9 0) (S 9 1) (S 9 2) (S 9 3) (S 9 4) (S 9 5) (S 9 6)) z 3) zce_X5_of zt_X5_of zm_X5_51 hl.1 rfl rfl ⟨rfl, rfl⟩ ⟨Nat.le_of_ble_eq_true rfl, Nat.le_of_ble_eq_true rfl⟩ (Nat.le_of_ble_eq_true rfl) ⟨Nat.zero_le _, Nat.zero_le _⟩ dX5_timeOf_12 (fun r_12 S_12 H locs hq hH => ?_)
  obtain ⟨rfl, rfl⟩ := hq
  refine zld_ar_s h hH (by omega) dX5_timeOf_15 ?_
  rw [zM_1]
  have f_15 := zW_ho hw (show 0 ≤ z ∧ z < 8 by omega)
  refine zb_isub h dX5_timeOf_16 ?_
  refine lv_istore_n (lv' := [(2, .int (zI ((S 9 1 0) - (S 9 1 (5 + 5 * z + 3))))), (0, .ref (za G 9 0)), (1, .int (zI z))]) hx hb dX5_timeOf_17 rfl hl (by decide) rfl (fun ls hl => ?_)
  refine lv_aload_n hx hb dX5_timeOf_18 rfl (lv_at hl 1 rfl) ?_
  refine zg_5_1 h hH zf_X5_7 dX5_timeOf_19 ?_
  refine zb_ic h dX5_timeOf_22 ?_
  refine zld_ar_s h hH (by omega) dX5_timeOf_23 ?_
  rw [zM_1]
  have f_23 := zW_0 hw
  refine zb_ic h dX5_timeOf_24 ?_
  refine zb_idiv h (by omega) (by omega) dX5_timeOf_25 ?_
  refine lv_istore_n (lv' := [(3, .int (zI ((S 9 1 0) / 2))), (2, .int (zI ((S 9 1 0) - (S 9 1 (5 + 5 * z + 3))))), (0, .ref (za G 9 0)), (1, .int (zI z))]) hx hb dX5_timeOf_26 rfl hl (by decide) rfl (fun ls hl => ?_)
  refine lv_iload_n hx hb dX5_timeOf_27 rfl (lv_at hl 1 rfl) ?_
  refine lv_iload_n hx hb dX5_timeOf_28 rfl (lv_at hl 0 rfl) ?_
  refine zb_cge (tgt := 36) h (by omega) (by omega) dX5_timeOf_29 (by decide) (fun c_29 => ?_) (fun c_29 => ?_)
  · refine lv_iload_n hx hb dX5_timeOf_36 rfl (lv_at hl 1 rfl) ?_
    refine lv_aload_n hx hb dX5_timeOf_37 rfl (lv_at hl 2 rfl) ?_
    refine zg_5_1 h hH zf_X5_7 dX5_timeOf_38 ?_
    refine lv_iload_n hx hb dX5_timeOf_41 rfl (lv_at hl 3 rfl) ?_
    refine zb_ic h dX5_timeOf_42 ?_
    refine zcSi h hH (As := [.int (zI z), .int (zI 2)]) (rest := [.ref (za G 9 1), .int (zI ((S 9 1 0) - (S 9 1 (5 + 5 * z + 3))))]) (c_X5_of l G hG (zMo S (S 9 0) (S 9 1) (S 9 2) (S 9 3) (S 9 4) (S 9 5) (S 9 6)) z 2) zce_X5_of zt_X5_of zm_X5_51 hl.1 rfl rfl ⟨rfl, rfl⟩ ⟨Nat.le_of_ble_eq_true rfl, Nat.le_of_ble_eq_true rfl⟩ (Nat.le_of_ble_eq_true rfl) ⟨Nat.zero_le _, Nat.zero_le _⟩ dX5_timeOf_43 (fun r_43 S_43 H locs hq hH => ?_)
    obtain ⟨rfl, rfl⟩ := hq
    refine zld_ar_s h hH (by omega) dX5_timeOf_46 ?_
    rw [zM_1]
    have f_46 := zW_bu hw (show 0 ≤ z ∧ z < 8 by omega)
    refine zb_iadd h dX5_timeOf_47 ?_
    refine lv_aload_n hx hb dX5_timeOf_48 rfl (lv_at hl 2 rfl) ?_
    refine lv_iload_n hx hb dX5_timeOf_49 rfl (lv_at hl 3 rfl) ?_
    refine zcVi h hH (zr_5 h hH) (As := [.int (zI z)]) (rest := [.int (zI (((S 9 1 0) - (S 9 1 (5 + 5 * z + 3))) + (S 9 1 (5 + 5 * z + 2))))]) (c_X5_spilled l G hG (zMo S (S 9 0) (S 9 1) (S 9 2) (S 9 3) (S 9 4) (S 9 5) (S 9 6)) z (by omega) (zM_hw hw)) zce_X5_spilled zcv_X5_spilled zm_X5_62 hl.1 rfl rfl ⟨rfl, rfl⟩ ⟨Nat.le_of_ble_eq_true rfl, Nat.le_of_ble_eq_true rfl⟩ (Nat.le_of_ble_eq_true rfl) ⟨Nat.zero_le _, Nat.zero_le _⟩ dX5_timeOf_50 (fun r_50 S_50 H locs hq hH => ?_)
    obtain ⟨rfl, M_50, rfl⟩ := hq
    simp only [zM_M, zM_0, zM_1, zM_2, zM_3, zM_4, zM_5, zM_6] at hH
    rw [zM_1]
    refine zb_iadd h dX5_timeOf_53 ?_
    refine zri h hr hH ?_ dX5_timeOf_54
    exact ⟨congrArg zI (by unfold tTm; omega), _, rfl⟩
  · refine lv_iload_n hx hb dX5_timeOf_32 rfl (lv_at hl 0 rfl) ?_
    refine lv_goto (tgt := 37) hx hb dX5_timeOf_33 (by decide) ?_
    refine lv_aload_n hx hb dX5_timeOf_37 rfl (lv_at hl 2 rfl) ?_
    refine zg_5_1 h hH zf_X5_7 dX5_timeOf_38 ?_
    refine lv_iload_n hx hb dX5_timeOf_41 rfl (lv_at hl 3 rfl) ?_
    refine zb_ic h dX5_timeOf_42 ?_
    refine zcSi h hH (As := [.int (zI z), .int (zI 2)]) (rest := [.ref (za G 9 1), .int (zI ((S 9 1 0) / 2))]) (c_X5_of l G hG (zMo S (S 9 0) (S 9 1) (S 9 2) (S 9 3) (S 9 4) (S 9 5) (S 9 6)) z 2) zce_X5_of zt_X5_of zm_X5_51 hl.1 rfl rfl ⟨rfl, rfl⟩ ⟨Nat.le_of_ble_eq_true rfl, Nat.le_of_ble_eq_true rfl⟩ (Nat.le_of_ble_eq_true rfl) ⟨Nat.zero_le _, Nat.zero_le _⟩ dX5_timeOf_43 (fun r_43 S_43 H locs hq hH => ?_)
    obtain ⟨rfl, rfl⟩ := hq
    refine zld_ar_s h hH (by omega) dX5_timeOf_46 ?_
    rw [zM_1]
    have f_46 := zW_bu hw (show 0 ≤ z ∧ z < 8 by omega)
    refine zb_iadd h dX5_timeOf_47 ?_
    refine lv_aload_n hx hb dX5_timeOf_48 rfl (lv_at hl 2 rfl) ?_
    refine lv_iload_n hx hb dX5_timeOf_49 rfl (lv_at hl 3 rfl) ?_
    refine zcVi h hH (zr_5 h hH) (As := [.int (zI z)]) (rest := [.int (zI (((S 9 1 0) / 2) + (S 9 1 (5 + 5 * z + 2))))]) (c_X5_spilled l G hG (zMo S (S 9 0) (S 9 1) (S 9 2) (S 9 3) (S 9 4) (S 9 5) (S 9 6)) z (by omega) (zM_hw hw)) zce_X5_spilled zcv_X5_spilled zm_X5_62 hl.1 rfl rfl ⟨rfl, rfl⟩ ⟨Nat.le_of_ble_eq_true rfl, Nat.le_of_ble_eq_true rfl⟩ (Nat.le_of_ble_eq_true rfl) ⟨Nat.zero_le _, Nat.zero_le _⟩ dX5_timeOf_50 (fun r_50 S_50 H locs hq hH => ?_)
    obtain ⟨rfl, M_50, rfl⟩ := hq
    simp only [zM_M, zM_0, zM_1, zM_2, zM_3, zM_4, zM_5, zM_6] at hH
    rw [zM_1]
    refine zb_iadd h dX5_timeOf_53 ?_
    refine zri h hr hH ?_ dX5_timeOf_54
    exact ⟨congrArg zI (by unfold tTm; omega), _, rfl⟩
theorem dX5_tone_0 : decode cX5_tone 0 = .ok (.aload_n 0, 1) := by decide +kernel
theorem dX5_tone_1 : decode cX5_tone 1 = .ok (.iload_n 1, 1) := by decide +kernel
theorem dX5_tone_2 : decode cX5_tone 2 = .ok (.aload_n 0, 1) := by decide +kernel
theorem dX5_tone_3 : decode cX5_tone 3 = .ok (.iload_n 1, 1) := by decide +kernel
theorem dX5_tone_4 : decode cX5_tone 4 = .ok (.invokevirtual 65, 3) := by decide +kernel
theorem dX5_tone_7 : decode cX5_tone 7 = .ok (.invokevirtual 68, 3) := by decide +kernel
theorem dX5_tone_10 : decode cX5_tone 10 = .ok (.ireturn, 1) := by decide +kernel
def q_X5_tone (S : zM) (z : Int) : Int32 → zM → Prop := fun r S1 => r = zI (tTo (S 9 1) z) ∧ ∃ M', zMo S (S 9 0) (S 9 1) (S 9 2) (S 9 3) (S 9 4) M' (S 9 6) = S1
def r_X5_tone : Room := { frames := 3, cells := 0, slots := 0, locals := 69 }
set_option maxHeartbeats 4000000 in
set_option maxRecDepth 100000 in
theorem c_X5_tone (l : Launch) (G : zG) (hG : zok G) (S : zM) (z : Int) (hz : 0 ≤ z ∧ z < 8) (hw : zW (S 9 1)) : Met l yX5_tone (Cond.code yX5_tone cX5_tone 2 (some FieldType.int) :: zTbl) r_X5_tone (va_Pc [.ref (za G 9 0), .int (zI z)] (zB G S)) (va_Qi (q_X5_tone S z) (zB G) (zA G)) 0 0 (zA G) := by
  refine zMet [(0, .ref (za G 9 0)), (1, .int (zI z))] hG (by decide) (Nat.le_of_ble_eq_true rfl) rfl (fun p e s m args below meth c ls h hx hb hr hH hl => ?_)
  rw [← zM_id S] at hH
  refine lv_aload_n hx hb dX5_tone_0 rfl (lv_at hl 0 rfl) ?_
  refine lv_iload_n hx hb dX5_tone_1 rfl (lv_at hl 1 rfl) ?_
  refine lv_aload_n hx hb dX5_tone_2 rfl (lv_at hl 0 rfl) ?_
  refine lv_iload_n hx hb dX5_tone_3 rfl (lv_at hl 1 rfl) ?_
  refine zcVi h hH (zr_5 h hH) (As := [.int (zI z)]) (rest := [.int (zI z), .ref (za G 9 0)]) (c_X5_timeOf l G hG (zMo S (S 9 0) (S 9 1) (S 9 2) (S 9 3) (S 9 4) (S 9 5) (S 9 6)) z (by omega) (zM_hw hw)) zce_X5_timeOf zcv_X5_timeOf zm_X5_65 hl.1 rfl rfl ⟨rfl, rfl⟩ ⟨Nat.le_of_ble_eq_true rfl, Nat.le_of_ble_eq_true rfl⟩ (Nat.le_of_ble_eq_true rfl) ⟨Nat.zero_le _, Nat.zero_le _⟩ dX5_tone_4 (fun r_4 S_4 H locs hq hH => ?_)
  obtain ⟨rfl, M_4, rfl⟩ := hq
  simp only [zM_M, zM_0, zM_1, zM_2, zM_3, zM_4, zM_5, zM_6] at hH
  rw [zM_1]
  have b_7 := tTm_in hw hz
  refine zcVi h hH (zr_5 h hH) (As := [.int (zI z), .int (zI (tTm (S 9 1) z))]) (rest := []) (c_X5_toneBy l G hG (zMo S (S 9 0) (S 9 1) (S 9 2) (S 9 3) (S 9 4) M_4 (S 9 6)) z (tTm (S 9 1) z) (by omega) (by omega) (zM_hw hw)) zce_X5_toneBy zcv_X5_toneBy zm_X5_68 hl.1 rfl rfl ⟨rfl, rfl⟩ ⟨Nat.le_of_ble_eq_true rfl, Nat.le_of_ble_eq_true rfl⟩ (Nat.le_of_ble_eq_true rfl) ⟨Nat.zero_le _, Nat.zero_le _⟩ dX5_tone_7 (fun r_7 S_7 H locs hq hH => ?_)
  obtain ⟨rfl, M_7, rfl⟩ := hq
  simp only [zM_M, zM_0, zM_1, zM_2, zM_3, zM_4, zM_5, zM_6] at hH
  rw [zM_1]
  refine zri h hr hH ?_ dX5_tone_10
  exact ⟨rfl, _, rfl⟩
theorem dX5_isRight_0 : decode cX5_isRight 0 = .ok (.aload_n 0, 1) := by decide +kernel
theorem dX5_isRight_1 : decode cX5_isRight 1 = .ok (.iload_n 1, 1) := by decide +kernel
theorem dX5_isRight_2 : decode cX5_isRight 2 = .ok (.invokevirtual 71, 3) := by decide +kernel
theorem dX5_isRight_5 : decode cX5_isRight 5 = .ok (.aload_n 0, 1) := by decide +kernel
theorem dX5_isRight_6 : decode cX5_isRight 6 = .ok (.getfield 7, 3) := by decide +kernel
theorem dX5_isRight_9 : decode cX5_isRight 9 = .ok (.iload_n 1, 1) := by decide +kernel
theorem dX5_isRight_10 : decode cX5_isRight 10 = .ok (.iconst 1, 1) := by decide +kernel
theorem dX5_isRight_11 : decode cX5_isRight 11 = .ok (.invokestatic 51, 3) := by decide +kernel
theorem dX5_isRight_14 : decode cX5_isRight 14 = .ok (.iaload, 1) := by decide +kernel
theorem dX5_isRight_15 : decode cX5_isRight 15 = .ok (.if_icmp .ne 7, 3) := by decide +kernel
theorem dX5_isRight_18 : decode cX5_isRight 18 = .ok (.iconst 1, 1) := by decide +kernel
theorem dX5_isRight_19 : decode cX5_isRight 19 = .ok (.goto 4, 3) := by decide +kernel
theorem dX5_isRight_22 : decode cX5_isRight 22 = .ok (.iconst 0, 1) := by decide +kernel
theorem dX5_isRight_23 : decode cX5_isRight 23 = .ok (.ireturn, 1) := by decide +kernel
def q_X5_isRight (S : zM) (z : Int) : Int32 → zM → Prop := fun r S1 => ∃ bb : Int, r = zI bb ∧ (bb = 1 ∧ (tOff (S 9 1) z = 0) ∨ bb = 0 ∧ ¬ (tOff (S 9 1) z = 0)) ∧ ∃ M', zMo S (S 9 0) (S 9 1) (S 9 2) (S 9 3) (S 9 4) M' (S 9 6) = S1
def r_X5_isRight : Room := { frames := 4, cells := 0, slots := 0, locals := 90 }
set_option maxHeartbeats 4000000 in
set_option maxRecDepth 100000 in
theorem c_X5_isRight (l : Launch) (G : zG) (hG : zok G) (S : zM) (z : Int) (hz : 0 ≤ z ∧ z < 8) (hw : zW (S 9 1)) : Met l yX5_isRight (Cond.code yX5_isRight cX5_isRight 2 (some FieldType.boolean) :: zTbl) r_X5_isRight (va_Pc [.ref (za G 9 0), .int (zI z)] (zB G S)) (va_Qi (q_X5_isRight S z) (zB G) (zA G)) 0 0 (zA G) := by
  refine zMet [(0, .ref (za G 9 0)), (1, .int (zI z))] hG (by decide) (Nat.le_of_ble_eq_true rfl) rfl (fun p e s m args below meth c ls h hx hb hr hH hl => ?_)
  rw [← zM_id S] at hH
  refine lv_aload_n hx hb dX5_isRight_0 rfl (lv_at hl 0 rfl) ?_
  refine lv_iload_n hx hb dX5_isRight_1 rfl (lv_at hl 1 rfl) ?_
  refine zcVi h hH (zr_5 h hH) (As := [.int (zI z)]) (rest := []) (c_X5_tone l G hG (zMo S (S 9 0) (S 9 1) (S 9 2) (S 9 3) (S 9 4) (S 9 5) (S 9 6)) z (by omega) (zM_hw hw)) zce_X5_tone zcv_X5_tone zm_X5_71 hl.1 rfl rfl ⟨rfl, rfl⟩ ⟨Nat.le_of_ble_eq_true rfl, Nat.le_of_ble_eq_true rfl⟩ (Nat.le_of_ble_eq_true rfl) ⟨Nat.zero_le _, Nat.zero_le _⟩ dX5_isRight_2 (fun r_2 S_2 H locs hq hH => ?_)
  obtain ⟨rfl, M_2, rfl⟩ := hq
  simp only [zM_M, zM_0, zM_1, zM_2, zM_3, zM_4, zM_5, zM_6] at hH
  rw [zM_1]
  have b_2 := tTo_in (S 9 1) z
  have e_2 : tOff (S 9 1) z = tTo (S 9 1) z - S 9 1 (5 + 5 * z + 1) := rfl
  refine lv_aload_n hx hb dX5_isRight_5 rfl (lv_at hl 0 rfl) ?_
  refine zg_5_1 h hH zf_X5_7 dX5_isRight_6 ?_
  refine lv_iload_n hx hb dX5_isRight_9 rfl (lv_at hl 1 rfl) ?_
  refine zb_ic h dX5_isRight_10 ?_
  refine zcSi h hH (As := [.int (zI z), .int (zI 1)]) (rest := [.ref (za G 9 1), .int (zI (tTo (S 9 1) z))]) (c_X5_of l G hG (zMo S (S 9 0) (S 9 1) (S 9 2) (S 9 3) (S 9 4) M_2 (S 9 6)) z 1) zce_X5_of zt_X5_of zm_X5_51 hl.1 rfl rfl ⟨rfl, rfl⟩ ⟨Nat.le_of_ble_eq_true rfl, Nat.le_of_ble_eq_true rfl⟩ (Nat.le_of_ble_eq_true rfl) ⟨Nat.zero_le _, Nat.zero_le _⟩ dX5_isRight_11 (fun r_11 S_11 H locs hq hH => ?_)
  obtain ⟨rfl, rfl⟩ := hq
  refine zld_ar_s h hH (by omega) dX5_isRight_14 ?_
  rw [zM_1]
  have f_14 := zW_wa hw (show 0 ≤ z ∧ z < 8 by omega)
  refine zb_cne (tgt := 22) h (by omega) (by omega) dX5_isRight_15 (by decide) (fun c_15 => ?_) (fun c_15 => ?_)
  · refine zb_ic h dX5_isRight_22 ?_
    refine zrz h hr hH (by omega) ?_ dX5_isRight_23
    exact ⟨_, rfl, by omega, _, rfl⟩
  · refine zb_ic h dX5_isRight_18 ?_
    refine lv_goto (tgt := 23) hx hb dX5_isRight_19 (by decide) ?_
    refine zrz h hr hH (by omega) ?_ dX5_isRight_23
    exact ⟨_, rfl, by omega, _, rfl⟩
theorem dX5_right_0 : decode cX5_right 0 = .ok (.iconst 0, 1) := by decide +kernel
theorem dX5_right_1 : decode cX5_right 1 = .ok (.istore_n 1, 1) := by decide +kernel
theorem dX5_right_2 : decode cX5_right 2 = .ok (.iconst 0, 1) := by decide +kernel
theorem dX5_right_3 : decode cX5_right 3 = .ok (.istore_n 2, 1) := by decide +kernel
theorem dX5_right_4 : decode cX5_right 4 = .ok (.iload_n 2, 1) := by decide +kernel
theorem dX5_right_5 : decode cX5_right 5 = .ok (.aload_n 0, 1) := by decide +kernel
theorem dX5_right_6 : decode cX5_right 6 = .ok (.getfield 7, 3) := by decide +kernel
theorem dX5_right_9 : decode cX5_right 9 = .ok (.iconst 4, 1) := by decide +kernel
theorem dX5_right_10 : decode cX5_right 10 = .ok (.iaload, 1) := by decide +kernel
theorem dX5_right_11 : decode cX5_right 11 = .ok (.if_icmp .ge 25, 3) := by decide +kernel
theorem dX5_right_14 : decode cX5_right 14 = .ok (.iload_n 1, 1) := by decide +kernel
theorem dX5_right_15 : decode cX5_right 15 = .ok (.aload_n 0, 1) := by decide +kernel
theorem dX5_right_16 : decode cX5_right 16 = .ok (.iload_n 2, 1) := by decide +kernel
theorem dX5_right_17 : decode cX5_right 17 = .ok (.invokevirtual 74, 3) := by decide +kernel
theorem dX5_right_20 : decode cX5_right 20 = .ok (.ifCond .eq 7, 3) := by decide +kernel
theorem dX5_right_23 : decode cX5_right 23 = .ok (.iconst 1, 1) := by decide +kernel
theorem dX5_right_24 : decode cX5_right 24 = .ok (.goto 4, 3) := by decide +kernel
theorem dX5_right_27 : decode cX5_right 27 = .ok (.iconst 0, 1) := by decide +kernel
theorem dX5_right_28 : decode cX5_right 28 = .ok (.iadd, 1) := by decide +kernel
theorem dX5_right_29 : decode cX5_right 29 = .ok (.istore_n 1, 1) := by decide +kernel
theorem dX5_right_30 : decode cX5_right 30 = .ok (.iinc 2 1, 3) := by decide +kernel
theorem dX5_right_33 : decode cX5_right 33 = .ok (.goto (-29), 3) := by decide +kernel
theorem dX5_right_36 : decode cX5_right 36 = .ok (.iload_n 1, 1) := by decide +kernel
theorem dX5_right_37 : decode cX5_right 37 = .ok (.ireturn, 1) := by decide +kernel
def q_X5_right (S : zM) : Int32 → zM → Prop := fun r S1 => r = zI (tCnt (S 9 1) 0) ∧ ∃ M', zMo S (S 9 0) (S 9 1) (S 9 2) (S 9 3) (S 9 4) M' (S 9 6) = S1
def r_X5_right : Room := { frames := 5, cells := 0, slots := 0, locals := 111 }
set_option maxHeartbeats 4000000 in
set_option maxRecDepth 100000 in
theorem c_X5_right (l : Launch) (G : zG) (hG : zok G) (S : zM) (hw : zW (S 9 1)) : Met l yX5_right (Cond.code yX5_right cX5_right 3 (some FieldType.int) :: zTbl) r_X5_right (va_Pc [.ref (za G 9 0)] (zB G S)) (va_Qi (q_X5_right S) (zB G) (zA G)) 0 0 (zA G) := by
  refine zMet [(0, .ref (za G 9 0))] hG (by decide) (Nat.le_of_ble_eq_true rfl) rfl (fun p e s m args below meth c ls h hx hb hr hH hl => ?_)
  rw [← zM_id S] at hH
  have C4 : ∀ (fu : Nat) (o n : Int) (M : Int → Int) (H : Heap) (locs : List Loc) (ls : Array Slot), (S 9 1 4 - o).toNat < fu → (0 ≤ o ∧ o ≤ S 9 1 4) → (n = zsum (fun z => if zsg (tOff (S 9 1) z) = 0 then 1 else 0) o.toNat) → zH G (zMo S (S 9 0) (S 9 1) (S 9 2) (S 9 3) (S 9 4) M (S 9 6)) s H locs → lv_has ls 3 [(0, .ref (za G 9 0)), (1, .int (zI n)), (2, .int (zI o))] → W p l e r_X5_right s m args below meth c H locs 0 0 (MQ below (va_Qi (q_X5_right S) (zB G) (zA G)) args s 0 0 (zA G)) (F0 m 4 ls []) := by
    intro fu
    induction fu with
    | zero => intro o n M H locs ls hfu; omega
    | succ fu ih4 =>
      intro o n M H locs ls hfu ho hn hH hl
      refine lv_iload_n hx hb dX5_right_4 rfl (lv_at hl 2 rfl) ?_
      refine lv_aload_n hx hb dX5_right_5 rfl (lv_at hl 0 rfl) ?_
      refine zg_5_1 h hH zf_X5_7 dX5_right_6 ?_
      refine zb_ic h dX5_right_9 ?_
      refine zld_ar_s h hH (by omega) dX5_right_10 ?_
      rw [zM_1]
      have f_10 := zW_4 hw
      refine zb_cge (tgt := 36) h (by omega) (by omega) dX5_right_11 (by decide) (fun c_11 => ?_) (fun c_11 => ?_)
      · refine lv_iload_n hx hb dX5_right_36 rfl (lv_at hl 1 rfl) ?_
        refine zri h hr hH ?_ dX5_right_37
        obtain rfl : o = S 9 1 4 := by omega
        exact ⟨by rw [hn]; rfl, _, rfl⟩
      · refine lv_iload_n hx hb dX5_right_14 rfl (lv_at hl 1 rfl) ?_
        refine lv_aload_n hx hb dX5_right_15 rfl (lv_at hl 0 rfl) ?_
        refine lv_iload_n hx hb dX5_right_16 rfl (lv_at hl 2 rfl) ?_
        refine zcVi h hH (zr_5 h hH) (As := [.int (zI o)]) (rest := [.int (zI n)]) (c_X5_isRight l G hG (zMo S (S 9 0) (S 9 1) (S 9 2) (S 9 3) (S 9 4) M (S 9 6)) o (by omega) (zM_hw hw)) zce_X5_isRight zcv_X5_isRight zm_X5_74 hl.1 rfl rfl ⟨rfl, rfl⟩ ⟨Nat.le_of_ble_eq_true rfl, Nat.le_of_ble_eq_true rfl⟩ (Nat.le_of_ble_eq_true rfl) ⟨Nat.zero_le _, Nat.zero_le _⟩ dX5_right_17 (fun r_17 S_17 H locs hq hH => ?_)
        obtain ⟨b_17, rfl, hb_17, M_17, rfl⟩ := hq
        (try rw [zM_1] at hb_17)
        simp only [zM_M, zM_0, zM_1, zM_2, zM_3, zM_4, zM_5, zM_6] at hH
        refine zb_ieq (tgt := 27) h (by omega) dX5_right_20 (by decide) (fun c_20 => ?_) (fun c_20 => ?_)
        · refine zb_ic h dX5_right_27 ?_
          refine zb_iadd h dX5_right_28 ?_
          refine lv_istore_n (lv' := [(1, .int (zI (n + 0))), (0, .ref (za G 9 0)), (2, .int (zI o))]) hx hb dX5_right_29 rfl hl (by decide) rfl (fun ls hl => ?_)
          refine lv_iinc (v := zI (o + 1)) (lv' := [(2, .int (zI (o + 1))), (1, .int (zI (n + 0))), (0, .ref (za G 9 0))]) hx hb dX5_right_30 hl (k := 2) rfl (zI_add _ _) (by decide) rfl (fun ls hl => ?_)
          refine lv_goto (tgt := 4) hx hb dX5_right_33 (by decide) ?_
          exact ih4 (o + 1) (n + 0) M_17 _ _ _ (by omega) (by have := zW_4 hw; omega) (by rw [zsum_s _ ho.1, hn]; first | rw [if_pos ((zsg_0 _).mpr (by omega))] | rw [if_neg (fun q => by have := (zsg_0 _).mp q; omega)]) hH (lv_sub hl [2, 1, 0] rfl)
        · refine zb_ic h dX5_right_23 ?_
          refine lv_goto (tgt := 28) hx hb dX5_right_24 (by decide) ?_
          refine zb_iadd h dX5_right_28 ?_
          refine lv_istore_n (lv' := [(1, .int (zI (n + 1))), (0, .ref (za G 9 0)), (2, .int (zI o))]) hx hb dX5_right_29 rfl hl (by decide) rfl (fun ls hl => ?_)
          refine lv_iinc (v := zI (o + 1)) (lv' := [(2, .int (zI (o + 1))), (1, .int (zI (n + 1))), (0, .ref (za G 9 0))]) hx hb dX5_right_30 hl (k := 2) rfl (zI_add _ _) (by decide) rfl (fun ls hl => ?_)
          refine lv_goto (tgt := 4) hx hb dX5_right_33 (by decide) ?_
          exact ih4 (o + 1) (n + 1) M_17 _ _ _ (by omega) (by have := zW_4 hw; omega) (by rw [zsum_s _ ho.1, hn]; first | rw [if_pos ((zsg_0 _).mpr (by omega))] | rw [if_neg (fun q => by have := (zsg_0 _).mp q; omega)]) hH (lv_sub hl [2, 1, 0] rfl)
  refine zb_ic h dX5_right_0 ?_
  refine lv_istore_n (lv' := [(1, .int (zI 0)), (0, .ref (za G 9 0))]) hx hb dX5_right_1 rfl hl (by decide) rfl (fun ls hl => ?_)
  refine zb_ic h dX5_right_2 ?_
  refine lv_istore_n (lv' := [(2, .int (zI 0)), (1, .int (zI 0)), (0, .ref (za G 9 0))]) hx hb dX5_right_3 rfl hl (by decide) rfl (fun ls hl => ?_)
  exact C4 ((S 9 1 4 - 0 : Int).toNat + 1) 0 0 (S 9 5) _ _ _ (by omega) (by have := zW_4 hw; omega) rfl hH (lv_sub hl [2, 1, 0] rfl)
theorem dX5_leastFor_0 : decode cX5_leastFor 0 = .ok (.iconst 1, 1) := by decide +kernel
theorem dX5_leastFor_1 : decode cX5_leastFor 1 = .ok (.istore_n 3, 1) := by decide +kernel
theorem dX5_leastFor_2 : decode cX5_leastFor 2 = .ok (.sipush 10000, 3) := by decide +kernel
theorem dX5_leastFor_5 : decode cX5_leastFor 5 = .ok (.istore 4, 2) := by decide +kernel
theorem dX5_leastFor_7 : decode cX5_leastFor 7 = .ok (.iload_n 3, 1) := by decide +kernel
theorem dX5_leastFor_8 : decode cX5_leastFor 8 = .ok (.iload 4, 2) := by decide +kernel
theorem dX5_leastFor_10 : decode cX5_leastFor 10 = .ok (.if_icmp .ge 37, 3) := by decide +kernel
theorem dX5_leastFor_13 : decode cX5_leastFor 13 = .ok (.iload_n 3, 1) := by decide +kernel
theorem dX5_leastFor_14 : decode cX5_leastFor 14 = .ok (.iload 4, 2) := by decide +kernel
theorem dX5_leastFor_16 : decode cX5_leastFor 16 = .ok (.iadd, 1) := by decide +kernel
theorem dX5_leastFor_17 : decode cX5_leastFor 17 = .ok (.iconst 2, 1) := by decide +kernel
theorem dX5_leastFor_18 : decode cX5_leastFor 18 = .ok (.idiv, 1) := by decide +kernel
theorem dX5_leastFor_19 : decode cX5_leastFor 19 = .ok (.istore 5, 2) := by decide +kernel
theorem dX5_leastFor_21 : decode cX5_leastFor 21 = .ok (.aload_n 0, 1) := by decide +kernel
theorem dX5_leastFor_22 : decode cX5_leastFor 22 = .ok (.iload_n 1, 1) := by decide +kernel
theorem dX5_leastFor_23 : decode cX5_leastFor 23 = .ok (.iload 5, 2) := by decide +kernel
theorem dX5_leastFor_25 : decode cX5_leastFor 25 = .ok (.invokevirtual 68, 3) := by decide +kernel
theorem dX5_leastFor_28 : decode cX5_leastFor 28 = .ok (.iload_n 2, 1) := by decide +kernel
theorem dX5_leastFor_29 : decode cX5_leastFor 29 = .ok (.if_icmp .lt 10, 3) := by decide +kernel
theorem dX5_leastFor_32 : decode cX5_leastFor 32 = .ok (.iload 5, 2) := by decide +kernel
theorem dX5_leastFor_34 : decode cX5_leastFor 34 = .ok (.istore 4, 2) := by decide +kernel
theorem dX5_leastFor_36 : decode cX5_leastFor 36 = .ok (.goto 8, 3) := by decide +kernel
theorem dX5_leastFor_39 : decode cX5_leastFor 39 = .ok (.iload 5, 2) := by decide +kernel
theorem dX5_leastFor_41 : decode cX5_leastFor 41 = .ok (.iconst 1, 1) := by decide +kernel
theorem dX5_leastFor_42 : decode cX5_leastFor 42 = .ok (.iadd, 1) := by decide +kernel
theorem dX5_leastFor_43 : decode cX5_leastFor 43 = .ok (.istore_n 3, 1) := by decide +kernel
theorem dX5_leastFor_44 : decode cX5_leastFor 44 = .ok (.goto (-37), 3) := by decide +kernel
theorem dX5_leastFor_47 : decode cX5_leastFor 47 = .ok (.iload_n 3, 1) := by decide +kernel
theorem dX5_leastFor_48 : decode cX5_leastFor 48 = .ok (.ireturn, 1) := by decide +kernel
def q_X5_leastFor (S : zM) (z w : Int) : Int32 → zM → Prop := fun r S1 => r = zI (tLe (S 9 1) (S 9 1 (5 + 5 * z)) w) ∧ ∃ M', zMo S (S 9 0) (S 9 1) (S 9 2) (S 9 3) (S 9 4) M' (S 9 6) = S1
def r_X5_leastFor : Room := { frames := 3, cells := 0, slots := 0, locals := 69 }
set_option maxHeartbeats 4000000 in
set_option maxRecDepth 100000 in
theorem c_X5_leastFor (l : Launch) (G : zG) (hG : zok G) (S : zM) (z w : Int) (hz : 0 ≤ z ∧ z < 8) (hwn : 0 ≤ w ∧ w ≤ 11) (hw : zW (S 9 1)) : Met l yX5_leastFor (Cond.code yX5_leastFor cX5_leastFor 6 (some FieldType.int) :: zTbl) r_X5_leastFor (va_Pc [.ref (za G 9 0), .int (zI z), .int (zI w)] (zB G S)) (va_Qi (q_X5_leastFor S z w) (zB G) (zA G)) 0 0 (zA G) := by
  refine zMet [(0, .ref (za G 9 0)), (1, .int (zI z)), (2, .int (zI w))] hG (by decide) (Nat.le_of_ble_eq_true rfl) rfl (fun p e s m args below meth c ls h hx hb hr hH hl => ?_)
  rw [← zM_id S] at hH
  have C7 : ∀ (fu : Nat) (a b : Int) (M : Int → Int) (H : Heap) (locs : List Loc) (ls : Array Slot), (b - a).toNat < fu → (1 ≤ a ∧ a ≤ tLe (S 9 1) (S 9 1 (5 + 5 * z)) w ∧ tLe (S 9 1) (S 9 1 (5 + 5 * z)) w ≤ b ∧ b ≤ 10000) → zH G (zMo S (S 9 0) (S 9 1) (S 9 2) (S 9 3) (S 9 4) M (S 9 6)) s H locs → lv_has ls 6 [(0, .ref (za G 9 0)), (1, .int (zI z)), (2, .int (zI w)), (3, .int (zI a)), (4, .int (zI b))] → W p l e r_X5_leastFor s m args below meth c H locs 0 0 (MQ below (va_Qi (q_X5_leastFor S z w) (zB G) (zA G)) args s 0 0 (zA G)) (F0 m 7 ls []) := by
    intro fu
    induction fu with
    | zero => intro a b M H locs ls hfu; omega
    | succ fu ih7 =>
      intro a b M H locs ls hfu hab hH hl
      refine lv_iload_n hx hb dX5_leastFor_7 rfl (lv_at hl 3 rfl) ?_
      refine lv_iload hx hb dX5_leastFor_8 (lv_at hl 4 rfl) ?_
      refine zb_cge (tgt := 47) h (by omega) (by omega) dX5_leastFor_10 (by decide) (fun c_10 => ?_) (fun c_10 => ?_)
      · refine lv_iload_n hx hb dX5_leastFor_47 rfl (lv_at hl 3 rfl) ?_
        refine zri h hr hH ?_ dX5_leastFor_48
        exact ⟨congrArg zI (by omega), _, rfl⟩
      · refine lv_iload_n hx hb dX5_leastFor_13 rfl (lv_at hl 3 rfl) ?_
        refine lv_iload hx hb dX5_leastFor_14 (lv_at hl 4 rfl) ?_
        refine zb_iadd h dX5_leastFor_16 ?_
        refine zb_ic h dX5_leastFor_17 ?_
        refine zb_idiv h (by omega) (by omega) dX5_leastFor_18 ?_
        refine lv_istore (lv' := [(5, .int (zI ((a + b) / 2))), (0, .ref (za G 9 0)), (1, .int (zI z)), (2, .int (zI w)), (3, .int (zI a)), (4, .int (zI b))]) hx hb dX5_leastFor_19 hl (by decide) rfl (fun ls hl => ?_)
        refine lv_aload_n hx hb dX5_leastFor_21 rfl (lv_at hl 1 rfl) ?_
        refine lv_iload_n hx hb dX5_leastFor_22 rfl (lv_at hl 2 rfl) ?_
        refine lv_iload hx hb dX5_leastFor_23 (lv_at hl 0 rfl) ?_
        refine zcVi h hH (zr_5 h hH) (As := [.int (zI z), .int (zI ((a + b) / 2))]) (rest := []) (c_X5_toneBy l G hG (zMo S (S 9 0) (S 9 1) (S 9 2) (S 9 3) (S 9 4) M (S 9 6)) z ((a + b) / 2) (by omega) (by omega) (zM_hw hw)) zce_X5_toneBy zcv_X5_toneBy zm_X5_68 hl.1 rfl rfl ⟨rfl, rfl⟩ ⟨Nat.le_of_ble_eq_true rfl, Nat.le_of_ble_eq_true rfl⟩ (Nat.le_of_ble_eq_true rfl) ⟨Nat.zero_le _, Nat.zero_le _⟩ dX5_leastFor_25 (fun r_25 S_25 H locs hq hH => ?_)
        obtain ⟨rfl, M_25, rfl⟩ := hq
        simp only [zM_M, zM_0, zM_1, zM_2, zM_3, zM_4, zM_5, zM_6] at hH
        rw [zM_1]
        have b_25 := tAt_in (S 9 1) z ((a + b) / 2)
        have i_25 := tLe_iff hw z (tone := w) (t := (a + b) / 2) (by omega)
        refine lv_iload_n hx hb dX5_leastFor_28 rfl (lv_at hl 3 rfl) ?_
        refine zb_clt (tgt := 39) h (by omega) (by omega) dX5_leastFor_29 (by decide) (fun c_29 => ?_) (fun c_29 => ?_)
        · refine lv_iload hx hb dX5_leastFor_39 (lv_at hl 0 rfl) ?_
          refine zb_ic h dX5_leastFor_41 ?_
          refine zb_iadd h dX5_leastFor_42 ?_
          refine lv_istore_n (lv' := [(3, .int (zI (((a + b) / 2) + 1))), (5, .int (zI ((a + b) / 2))), (0, .ref (za G 9 0)), (1, .int (zI z)), (2, .int (zI w)), (4, .int (zI b))]) hx hb dX5_leastFor_43 rfl hl (by decide) rfl (fun ls hl => ?_)
          refine lv_goto (tgt := 7) hx hb dX5_leastFor_44 (by decide) ?_
          exact ih7 (((a + b) / 2) + 1) b M_25 _ _ _ (by omega) (by first | (have q := i_25.mp (by omega); omega) | (have q := fun q => i_25.mpr q; omega)) hH (lv_sub hl [2, 3, 4, 0, 5] rfl)
        · refine lv_iload hx hb dX5_leastFor_32 (lv_at hl 0 rfl) ?_
          refine lv_istore (lv' := [(4, .int (zI ((a + b) / 2))), (5, .int (zI ((a + b) / 2))), (0, .ref (za G 9 0)), (1, .int (zI z)), (2, .int (zI w)), (3, .int (zI a))]) hx hb dX5_leastFor_34 hl (by decide) rfl (fun ls hl => ?_)
          refine lv_goto (tgt := 44) hx hb dX5_leastFor_36 (by decide) ?_
          refine lv_goto (tgt := 7) hx hb dX5_leastFor_44 (by decide) ?_
          exact ih7 a ((a + b) / 2) M_25 _ _ _ (by omega) (by first | (have q := i_25.mp (by omega); omega) | (have q := fun q => i_25.mpr q; omega)) hH (lv_sub hl [2, 3, 4, 5, 0] rfl)
  refine zb_ic h dX5_leastFor_0 ?_
  refine lv_istore_n (lv' := [(3, .int (zI 1)), (0, .ref (za G 9 0)), (1, .int (zI z)), (2, .int (zI w))]) hx hb dX5_leastFor_1 rfl hl (by decide) rfl (fun ls hl => ?_)
  refine zb_si h dX5_leastFor_2 (by decide) (by decide) ?_
  refine lv_istore (lv' := [(4, .int (zI 10000)), (3, .int (zI 1)), (0, .ref (za G 9 0)), (1, .int (zI z)), (2, .int (zI w))]) hx hb dX5_leastFor_5 hl (by decide) rfl (fun ls hl => ?_)
  exact C7 ((10000 - 1 : Int).toNat + 1) 1 10000 (S 9 5) _ _ _ (by omega) (by have := tLe_in hw (S 9 1 (5 + 5 * z)) w; omega) hH (lv_sub hl [2, 3, 4, 1, 0] rfl)
theorem dX5_leastNeeded_0 : decode cX5_leastNeeded 0 = .ok (.aload_n 0, 1) := by decide +kernel
theorem dX5_leastNeeded_1 : decode cX5_leastNeeded 1 = .ok (.iload_n 1, 1) := by decide +kernel
theorem dX5_leastNeeded_2 : decode cX5_leastNeeded 2 = .ok (.aload_n 0, 1) := by decide +kernel
theorem dX5_leastNeeded_3 : decode cX5_leastNeeded 3 = .ok (.getfield 7, 3) := by decide +kernel
theorem dX5_leastNeeded_6 : decode cX5_leastNeeded 6 = .ok (.iload_n 1, 1) := by decide +kernel
theorem dX5_leastNeeded_7 : decode cX5_leastNeeded 7 = .ok (.iconst 1, 1) := by decide +kernel
theorem dX5_leastNeeded_8 : decode cX5_leastNeeded 8 = .ok (.invokestatic 51, 3) := by decide +kernel
theorem dX5_leastNeeded_11 : decode cX5_leastNeeded 11 = .ok (.iaload, 1) := by decide +kernel
theorem dX5_leastNeeded_12 : decode cX5_leastNeeded 12 = .ok (.invokevirtual 78, 3) := by decide +kernel
theorem dX5_leastNeeded_15 : decode cX5_leastNeeded 15 = .ok (.istore_n 2, 1) := by decide +kernel
theorem dX5_leastNeeded_16 : decode cX5_leastNeeded 16 = .ok (.iload_n 2, 1) := by decide +kernel
theorem dX5_leastNeeded_17 : decode cX5_leastNeeded 17 = .ok (.sipush 9999, 3) := by decide +kernel
theorem dX5_leastNeeded_20 : decode cX5_leastNeeded 20 = .ok (.if_icmp .gt 26, 3) := by decide +kernel
theorem dX5_leastNeeded_23 : decode cX5_leastNeeded 23 = .ok (.aload_n 0, 1) := by decide +kernel
theorem dX5_leastNeeded_24 : decode cX5_leastNeeded 24 = .ok (.iload_n 1, 1) := by decide +kernel
theorem dX5_leastNeeded_25 : decode cX5_leastNeeded 25 = .ok (.iload_n 2, 1) := by decide +kernel
theorem dX5_leastNeeded_26 : decode cX5_leastNeeded 26 = .ok (.invokevirtual 68, 3) := by decide +kernel
theorem dX5_leastNeeded_29 : decode cX5_leastNeeded 29 = .ok (.aload_n 0, 1) := by decide +kernel
theorem dX5_leastNeeded_30 : decode cX5_leastNeeded 30 = .ok (.getfield 7, 3) := by decide +kernel
theorem dX5_leastNeeded_33 : decode cX5_leastNeeded 33 = .ok (.iload_n 1, 1) := by decide +kernel
theorem dX5_leastNeeded_34 : decode cX5_leastNeeded 34 = .ok (.iconst 1, 1) := by decide +kernel
theorem dX5_leastNeeded_35 : decode cX5_leastNeeded 35 = .ok (.invokestatic 51, 3) := by decide +kernel
theorem dX5_leastNeeded_38 : decode cX5_leastNeeded 38 = .ok (.iaload, 1) := by decide +kernel
theorem dX5_leastNeeded_39 : decode cX5_leastNeeded 39 = .ok (.if_icmp .ne 7, 3) := by decide +kernel
theorem dX5_leastNeeded_42 : decode cX5_leastNeeded 42 = .ok (.iload_n 2, 1) := by decide +kernel
theorem dX5_leastNeeded_43 : decode cX5_leastNeeded 43 = .ok (.goto 4, 3) := by decide +kernel
theorem dX5_leastNeeded_46 : decode cX5_leastNeeded 46 = .ok (.iconst (-1), 1) := by decide +kernel
theorem dX5_leastNeeded_47 : decode cX5_leastNeeded 47 = .ok (.ireturn, 1) := by decide +kernel
def q_X5_leastNeeded (S : zM) (z : Int) : Int32 → zM → Prop := fun r S1 => r = zI (tLn (S 9 1) z) ∧ ∃ M', zMo S (S 9 0) (S 9 1) (S 9 2) (S 9 3) (S 9 4) M' (S 9 6) = S1
def r_X5_leastNeeded : Room := { frames := 4, cells := 0, slots := 0, locals := 94 }
set_option maxHeartbeats 4000000 in
set_option maxRecDepth 100000 in
theorem c_X5_leastNeeded (l : Launch) (G : zG) (hG : zok G) (S : zM) (z : Int) (hz : 0 ≤ z ∧ z < 8) (hw : zW (S 9 1)) : Met l yX5_leastNeeded (Cond.code yX5_leastNeeded cX5_leastNeeded 3 (some FieldType.int) :: zTbl) r_X5_leastNeeded (va_Pc [.ref (za G 9 0), .int (zI z)] (zB G S)) (va_Qi (q_X5_leastNeeded S z) (zB G) (zA G)) 0 0 (zA G) := by
  refine zMet [(0, .ref (za G 9 0)), (1, .int (zI z))] hG (by decide) (Nat.le_of_ble_eq_true rfl) rfl (fun p e s m args below meth c ls h hx hb hr hH hl => ?_)
  rw [← zM_id S] at hH
  refine lv_aload_n hx hb dX5_leastNeeded_0 rfl (lv_at hl 0 rfl) ?_
  refine lv_iload_n hx hb dX5_leastNeeded_1 rfl (lv_at hl 1 rfl) ?_
  refine lv_aload_n hx hb dX5_leastNeeded_2 rfl (lv_at hl 0 rfl) ?_
  refine zg_5_1 h hH zf_X5_7 dX5_leastNeeded_3 ?_
  refine lv_iload_n hx hb dX5_leastNeeded_6 rfl (lv_at hl 1 rfl) ?_
  refine zb_ic h dX5_leastNeeded_7 ?_
  refine zcSi h hH (As := [.int (zI z), .int (zI 1)]) (rest := [.ref (za G 9 1), .int (zI z), .ref (za G 9 0)]) (c_X5_of l G hG (zMo S (S 9 0) (S 9 1) (S 9 2) (S 9 3) (S 9 4) (S 9 5) (S 9 6)) z 1) zce_X5_of zt_X5_of zm_X5_51 hl.1 rfl rfl ⟨rfl, rfl⟩ ⟨Nat.le_of_ble_eq_true rfl, Nat.le_of_ble_eq_true rfl⟩ (Nat.le_of_ble_eq_true rfl) ⟨Nat.zero_le _, Nat.zero_le _⟩ dX5_leastNeeded_8 (fun r_8 S_8 H locs hq hH => ?_)
  obtain ⟨rfl, rfl⟩ := hq
  refine zld_ar_s h hH (by omega) dX5_leastNeeded_11 ?_
  rw [zM_1]
  have f_11 := zW_wa hw (show 0 ≤ z ∧ z < 8 by omega)
  refine zcVi h hH (zr_5 h hH) (As := [.int (zI z), .int (zI (S 9 1 (5 + 5 * z + 1)))]) (rest := []) (c_X5_leastFor l G hG (zMo S (S 9 0) (S 9 1) (S 9 2) (S 9 3) (S 9 4) (S 9 5) (S 9 6)) z (S 9 1 (5 + 5 * z + 1)) (by omega) (by omega) (zM_hw hw)) zce_X5_leastFor zcv_X5_leastFor zm_X5_78 hl.1 rfl rfl ⟨rfl, rfl⟩ ⟨Nat.le_of_ble_eq_true rfl, Nat.le_of_ble_eq_true rfl⟩ (Nat.le_of_ble_eq_true rfl) ⟨Nat.zero_le _, Nat.zero_le _⟩ dX5_leastNeeded_12 (fun r_12 S_12 H locs hq hH => ?_)
  obtain ⟨rfl, M_12, rfl⟩ := hq
  simp only [zM_M, zM_0, zM_1, zM_2, zM_3, zM_4, zM_5, zM_6] at hH
  rw [zM_1]
  refine lv_istore_n (lv' := [(2, .int (zI (tLe (S 9 1) (S 9 1 (5 + 5 * z)) (S 9 1 (5 + 5 * z + 1))))), (0, .ref (za G 9 0)), (1, .int (zI z))]) hx hb dX5_leastNeeded_15 rfl hl (by decide) rfl (fun ls hl => ?_)
  have b_1 := tLe_in hw (S 9 1 (5 + 5 * z)) (S 9 1 (5 + 5 * z + 1))
  have b_2 := tLe_in hw (S 9 1 (5 + 5 * z)) (S 9 1 (5 + 5 * z + 1) + 1)
  refine lv_iload_n hx hb dX5_leastNeeded_16 rfl (lv_at hl 0 rfl) ?_
  refine zb_si h dX5_leastNeeded_17 (by decide) (by decide) ?_
  refine zb_cgt (tgt := 46) h (by omega) (by omega) dX5_leastNeeded_20 (by decide) (fun c_20 => ?_) (fun c_20 => ?_)
  · refine zb_ic h dX5_leastNeeded_46 ?_
    refine zri h hr hH ?_ dX5_leastNeeded_47
    exact ⟨congrArg zI (by rw [tLn_of hw z]; first | rw [if_pos ⟨by omega, by omega⟩] | rw [if_neg (by omega)]), _, rfl⟩
  · refine lv_aload_n hx hb dX5_leastNeeded_23 rfl (lv_at hl 1 rfl) ?_
    refine lv_iload_n hx hb dX5_leastNeeded_24 rfl (lv_at hl 2 rfl) ?_
    refine lv_iload_n hx hb dX5_leastNeeded_25 rfl (lv_at hl 0 rfl) ?_
    refine zcVi h hH (zr_5 h hH) (As := [.int (zI z), .int (zI (tLe (S 9 1) (S 9 1 (5 + 5 * z)) (S 9 1 (5 + 5 * z + 1))))]) (rest := []) (c_X5_toneBy l G hG (zMo S (S 9 0) (S 9 1) (S 9 2) (S 9 3) (S 9 4) M_12 (S 9 6)) z (tLe (S 9 1) (S 9 1 (5 + 5 * z)) (S 9 1 (5 + 5 * z + 1))) (by omega) (by omega) (zM_hw hw)) zce_X5_toneBy zcv_X5_toneBy zm_X5_68 hl.1 rfl rfl ⟨rfl, rfl⟩ ⟨Nat.le_of_ble_eq_true rfl, Nat.le_of_ble_eq_true rfl⟩ (Nat.le_of_ble_eq_true rfl) ⟨Nat.zero_le _, Nat.zero_le _⟩ dX5_leastNeeded_26 (fun r_26 S_26 H locs hq hH => ?_)
    obtain ⟨rfl, M_26, rfl⟩ := hq
    simp only [zM_M, zM_0, zM_1, zM_2, zM_3, zM_4, zM_5, zM_6] at hH
    rw [zM_1]
    have b_26 := tAt_in (S 9 1) z (tLe (S 9 1) (S 9 1 (5 + 5 * z)) (S 9 1 (5 + 5 * z + 1)))
    refine lv_aload_n hx hb dX5_leastNeeded_29 rfl (lv_at hl 1 rfl) ?_
    refine zg_5_1 h hH zf_X5_7 dX5_leastNeeded_30 ?_
    refine lv_iload_n hx hb dX5_leastNeeded_33 rfl (lv_at hl 2 rfl) ?_
    refine zb_ic h dX5_leastNeeded_34 ?_
    refine zcSi h hH (As := [.int (zI z), .int (zI 1)]) (rest := [.ref (za G 9 1), .int (zI (tAt (S 9 1) z (tLe (S 9 1) (S 9 1 (5 + 5 * z)) (S 9 1 (5 + 5 * z + 1)))))]) (c_X5_of l G hG (zMo S (S 9 0) (S 9 1) (S 9 2) (S 9 3) (S 9 4) M_26 (S 9 6)) z 1) zce_X5_of zt_X5_of zm_X5_51 hl.1 rfl rfl ⟨rfl, rfl⟩ ⟨Nat.le_of_ble_eq_true rfl, Nat.le_of_ble_eq_true rfl⟩ (Nat.le_of_ble_eq_true rfl) ⟨Nat.zero_le _, Nat.zero_le _⟩ dX5_leastNeeded_35 (fun r_35 S_35 H locs hq hH => ?_)
    obtain ⟨rfl, rfl⟩ := hq
    refine zld_ar_s h hH (by omega) dX5_leastNeeded_38 ?_
    rw [zM_1]
    have f_38 := zW_wa hw (show 0 ≤ z ∧ z < 8 by omega)
    refine zb_cne (tgt := 46) h (by omega) (by omega) dX5_leastNeeded_39 (by decide) (fun c_39 => ?_) (fun c_39 => ?_)
    · refine zb_ic h dX5_leastNeeded_46 ?_
      refine zri h hr hH ?_ dX5_leastNeeded_47
      exact ⟨congrArg zI (by rw [tLn_of hw z]; first | rw [if_pos ⟨by omega, by omega⟩] | rw [if_neg (by omega)]), _, rfl⟩
    · refine lv_iload_n hx hb dX5_leastNeeded_42 rfl (lv_at hl 0 rfl) ?_
      refine lv_goto (tgt := 47) hx hb dX5_leastNeeded_43 (by decide) ?_
      refine zri h hr hH ?_ dX5_leastNeeded_47
      exact ⟨congrArg zI (by rw [tLn_of hw z]; first | rw [if_pos ⟨by omega, by omega⟩] | rw [if_neg (by omega)]), _, rfl⟩
theorem dX5_greatestNeeded_0 : decode cX5_greatestNeeded 0 = .ok (.aload_n 0, 1) := by decide +kernel
theorem dX5_greatestNeeded_1 : decode cX5_greatestNeeded 1 = .ok (.iload_n 1, 1) := by decide +kernel
theorem dX5_greatestNeeded_2 : decode cX5_greatestNeeded 2 = .ok (.invokevirtual 81, 3) := by decide +kernel
theorem dX5_greatestNeeded_5 : decode cX5_greatestNeeded 5 = .ok (.iconst (-1), 1) := by decide +kernel
theorem dX5_greatestNeeded_6 : decode cX5_greatestNeeded 6 = .ok (.if_icmp .ne 7, 3) := by decide +kernel
theorem dX5_greatestNeeded_9 : decode cX5_greatestNeeded 9 = .ok (.iconst (-1), 1) := by decide +kernel
theorem dX5_greatestNeeded_10 : decode cX5_greatestNeeded 10 = .ok (.goto 22, 3) := by decide +kernel
theorem dX5_greatestNeeded_13 : decode cX5_greatestNeeded 13 = .ok (.aload_n 0, 1) := by decide +kernel
theorem dX5_greatestNeeded_14 : decode cX5_greatestNeeded 14 = .ok (.iload_n 1, 1) := by decide +kernel
theorem dX5_greatestNeeded_15 : decode cX5_greatestNeeded 15 = .ok (.aload_n 0, 1) := by decide +kernel
theorem dX5_greatestNeeded_16 : decode cX5_greatestNeeded 16 = .ok (.getfield 7, 3) := by decide +kernel
theorem dX5_greatestNeeded_19 : decode cX5_greatestNeeded 19 = .ok (.iload_n 1, 1) := by decide +kernel
theorem dX5_greatestNeeded_20 : decode cX5_greatestNeeded 20 = .ok (.iconst 1, 1) := by decide +kernel
theorem dX5_greatestNeeded_21 : decode cX5_greatestNeeded 21 = .ok (.invokestatic 51, 3) := by decide +kernel
theorem dX5_greatestNeeded_24 : decode cX5_greatestNeeded 24 = .ok (.iaload, 1) := by decide +kernel
theorem dX5_greatestNeeded_25 : decode cX5_greatestNeeded 25 = .ok (.iconst 1, 1) := by decide +kernel
theorem dX5_greatestNeeded_26 : decode cX5_greatestNeeded 26 = .ok (.iadd, 1) := by decide +kernel
theorem dX5_greatestNeeded_27 : decode cX5_greatestNeeded 27 = .ok (.invokevirtual 78, 3) := by decide +kernel
theorem dX5_greatestNeeded_30 : decode cX5_greatestNeeded 30 = .ok (.iconst 1, 1) := by decide +kernel
theorem dX5_greatestNeeded_31 : decode cX5_greatestNeeded 31 = .ok (.isub, 1) := by decide +kernel
theorem dX5_greatestNeeded_32 : decode cX5_greatestNeeded 32 = .ok (.ireturn, 1) := by decide +kernel
def q_X5_greatestNeeded (S : zM) (z : Int) : Int32 → zM → Prop := fun r S1 => r = zI (tGn (S 9 1) z) ∧ ∃ M', zMo S (S 9 0) (S 9 1) (S 9 2) (S 9 3) (S 9 4) M' (S 9 6) = S1
def r_X5_greatestNeeded : Room := { frames := 5, cells := 0, slots := 0, locals := 116 }
set_option maxHeartbeats 4000000 in
set_option maxRecDepth 100000 in
theorem c_X5_greatestNeeded (l : Launch) (G : zG) (hG : zok G) (S : zM) (z : Int) (hz : 0 ≤ z ∧ z < 8) (hw : zW (S 9 1)) : Met l yX5_greatestNeeded (Cond.code yX5_greatestNeeded cX5_greatestNeeded 2 (some FieldType.int) :: zTbl) r_X5_greatestNeeded (va_Pc [.ref (za G 9 0), .int (zI z)] (zB G S)) (va_Qi (q_X5_greatestNeeded S z) (zB G) (zA G)) 0 0 (zA G) := by
  refine zMet [(0, .ref (za G 9 0)), (1, .int (zI z))] hG (by decide) (Nat.le_of_ble_eq_true rfl) rfl (fun p e s m args below meth c ls h hx hb hr hH hl => ?_)
  rw [← zM_id S] at hH
  refine lv_aload_n hx hb dX5_greatestNeeded_0 rfl (lv_at hl 0 rfl) ?_
  refine lv_iload_n hx hb dX5_greatestNeeded_1 rfl (lv_at hl 1 rfl) ?_
  refine zcVi h hH (zr_5 h hH) (As := [.int (zI z)]) (rest := []) (c_X5_leastNeeded l G hG (zMo S (S 9 0) (S 9 1) (S 9 2) (S 9 3) (S 9 4) (S 9 5) (S 9 6)) z (by omega) (zM_hw hw)) zce_X5_leastNeeded zcv_X5_leastNeeded zm_X5_81 hl.1 rfl rfl ⟨rfl, rfl⟩ ⟨Nat.le_of_ble_eq_true rfl, Nat.le_of_ble_eq_true rfl⟩ (Nat.le_of_ble_eq_true rfl) ⟨Nat.zero_le _, Nat.zero_le _⟩ dX5_greatestNeeded_2 (fun r_2 S_2 H locs hq hH => ?_)
  obtain ⟨rfl, M_2, rfl⟩ := hq
  simp only [zM_M, zM_0, zM_1, zM_2, zM_3, zM_4, zM_5, zM_6] at hH
  rw [zM_1]
  have b_2 := tLn_in hw z
  refine zb_ic h dX5_greatestNeeded_5 ?_
  refine zb_cne (tgt := 13) h (by omega) (by omega) dX5_greatestNeeded_6 (by decide) (fun c_6 => ?_) (fun c_6 => ?_)
  · refine lv_aload_n hx hb dX5_greatestNeeded_13 rfl (lv_at hl 0 rfl) ?_
    refine lv_iload_n hx hb dX5_greatestNeeded_14 rfl (lv_at hl 1 rfl) ?_
    refine lv_aload_n hx hb dX5_greatestNeeded_15 rfl (lv_at hl 0 rfl) ?_
    refine zg_5_1 h hH zf_X5_7 dX5_greatestNeeded_16 ?_
    refine lv_iload_n hx hb dX5_greatestNeeded_19 rfl (lv_at hl 1 rfl) ?_
    refine zb_ic h dX5_greatestNeeded_20 ?_
    refine zcSi h hH (As := [.int (zI z), .int (zI 1)]) (rest := [.ref (za G 9 1), .int (zI z), .ref (za G 9 0)]) (c_X5_of l G hG (zMo S (S 9 0) (S 9 1) (S 9 2) (S 9 3) (S 9 4) M_2 (S 9 6)) z 1) zce_X5_of zt_X5_of zm_X5_51 hl.1 rfl rfl ⟨rfl, rfl⟩ ⟨Nat.le_of_ble_eq_true rfl, Nat.le_of_ble_eq_true rfl⟩ (Nat.le_of_ble_eq_true rfl) ⟨Nat.zero_le _, Nat.zero_le _⟩ dX5_greatestNeeded_21 (fun r_21 S_21 H locs hq hH => ?_)
    obtain ⟨rfl, rfl⟩ := hq
    refine zld_ar_s h hH (by omega) dX5_greatestNeeded_24 ?_
    rw [zM_1]
    have f_24 := zW_wa hw (show 0 ≤ z ∧ z < 8 by omega)
    refine zb_ic h dX5_greatestNeeded_25 ?_
    refine zb_iadd h dX5_greatestNeeded_26 ?_
    refine zcVi h hH (zr_5 h hH) (As := [.int (zI z), .int (zI ((S 9 1 (5 + 5 * z + 1)) + 1))]) (rest := []) (c_X5_leastFor l G hG (zMo S (S 9 0) (S 9 1) (S 9 2) (S 9 3) (S 9 4) M_2 (S 9 6)) z ((S 9 1 (5 + 5 * z + 1)) + 1) (by omega) (by omega) (zM_hw hw)) zce_X5_leastFor zcv_X5_leastFor zm_X5_78 hl.1 rfl rfl ⟨rfl, rfl⟩ ⟨Nat.le_of_ble_eq_true rfl, Nat.le_of_ble_eq_true rfl⟩ (Nat.le_of_ble_eq_true rfl) ⟨Nat.zero_le _, Nat.zero_le _⟩ dX5_greatestNeeded_27 (fun r_27 S_27 H locs hq hH => ?_)
    obtain ⟨rfl, M_27, rfl⟩ := hq
    simp only [zM_M, zM_0, zM_1, zM_2, zM_3, zM_4, zM_5, zM_6] at hH
    rw [zM_1]
    refine zb_ic h dX5_greatestNeeded_30 ?_
    refine zb_isub h dX5_greatestNeeded_31 ?_
    refine zri h hr hH ?_ dX5_greatestNeeded_32
    exact ⟨congrArg zI (by rw [tGn_of _ z hw]; first | rw [if_pos (by omega)] | rw [if_neg (by omega)]), _, rfl⟩
  · refine zb_ic h dX5_greatestNeeded_9 ?_
    refine lv_goto (tgt := 32) hx hb dX5_greatestNeeded_10 (by decide) ?_
    refine zri h hr hH ?_ dX5_greatestNeeded_32
    exact ⟨congrArg zI (by rw [tGn_of _ z hw]; first | rw [if_pos (by omega)] | rw [if_neg (by omega)]), _, rfl⟩
