theorem dX5_zoneOf_0 : decode cX5_zoneOf 0 = .ok (.aload_n 0, 1) := by decide +kernel
theorem dX5_zoneOf_1 : decode cX5_zoneOf 1 = .ok (.aload_n 0, 1) := by decide +kernel
theorem dX5_zoneOf_2 : decode cX5_zoneOf 2 = .ok (.iload_n 1, 1) := by decide +kernel
theorem dX5_zoneOf_3 : decode cX5_zoneOf 3 = .ok (.invokevirtual 96, 3) := by decide +kernel
theorem dX5_zoneOf_6 : decode cX5_zoneOf 6 = .ok (.ifCond .ne 7, 3) := by decide +kernel
theorem dX5_zoneOf_9 : decode cX5_zoneOf 9 = .ok (.iconst 1, 1) := by decide +kernel
theorem dX5_zoneOf_10 : decode cX5_zoneOf 10 = .ok (.goto 18, 3) := by decide +kernel
theorem dX5_zoneOf_13 : decode cX5_zoneOf 13 = .ok (.iload_n 2, 1) := by decide +kernel
theorem dX5_zoneOf_14 : decode cX5_zoneOf 14 = .ok (.iconst 0, 1) := by decide +kernel
theorem dX5_zoneOf_15 : decode cX5_zoneOf 15 = .ok (.bipush 10, 2) := by decide +kernel
theorem dX5_zoneOf_17 : decode cX5_zoneOf 17 = .ok (.invokestatic 32, 3) := by decide +kernel
theorem dX5_zoneOf_20 : decode cX5_zoneOf 20 = .ok (.ifCond .ne 7, 3) := by decide +kernel
theorem dX5_zoneOf_23 : decode cX5_zoneOf 23 = .ok (.iconst 2, 1) := by decide +kernel
theorem dX5_zoneOf_24 : decode cX5_zoneOf 24 = .ok (.goto 4, 3) := by decide +kernel
theorem dX5_zoneOf_27 : decode cX5_zoneOf 27 = .ok (.iconst 0, 1) := by decide +kernel
theorem dX5_zoneOf_28 : decode cX5_zoneOf 28 = .ok (.invokevirtual 87, 3) := by decide +kernel
theorem dX5_zoneOf_31 : decode cX5_zoneOf 31 = .ok (.ifCond .eq 12, 3) := by decide +kernel
theorem dX5_zoneOf_34 : decode cX5_zoneOf 34 = .ok (.aload_n 0, 1) := by decide +kernel
theorem dX5_zoneOf_35 : decode cX5_zoneOf 35 = .ok (.iload_n 1, 1) := by decide +kernel
theorem dX5_zoneOf_36 : decode cX5_zoneOf 36 = .ok (.iload_n 2, 1) := by decide +kernel
theorem dX5_zoneOf_37 : decode cX5_zoneOf 37 = .ok (.invokevirtual 166, 3) := by decide +kernel
theorem dX5_zoneOf_40 : decode cX5_zoneOf 40 = .ok (.goto 4, 3) := by decide +kernel
theorem dX5_zoneOf_43 : decode cX5_zoneOf 43 = .ok (.iconst 0, 1) := by decide +kernel
theorem dX5_zoneOf_44 : decode cX5_zoneOf 44 = .ok (.ireturn, 1) := by decide +kernel
def q_X5_zoneOf (S : zM) (z : Int) (what : Int) : Int32 → zM → Prop := fun r S1 => ((¬ (0 ≤ z ∧ z < S 9 1 4)) ∧ zMo S (zup (S 9 0) 0 1) (S 9 1) (S 9 2) (S 9 3) (S 9 4) (S 9 5) (S 9 6) = S1) ∨ (((0 ≤ z ∧ z < S 9 1 4) ∧ ¬ (0 ≤ what ∧ what ≤ 10)) ∧ zMo S (zup (S 9 0) 0 2) (S 9 1) (S 9 2) (S 9 3) (S 9 4) (S 9 5) (S 9 6) = S1) ∨ (((0 ≤ z ∧ z < S 9 1 4) ∧ (0 ≤ what ∧ what ≤ 10)) ∧ r = zI (tPr (S 9 1) z what) ∧ ∃ M', zMo S (zup (S 9 0) 0 0) (S 9 1) (S 9 2) (S 9 3) (S 9 4) M' (S 9 6) = S1)
def r_X5_zoneOf : Room := { frames := 7, cells := 0, slots := 0, locals := 159 }
set_option maxHeartbeats 4000000 in
set_option maxRecDepth 100000 in
theorem c_X5_zoneOf (l : Launch) (G : zG) (hG : zok G) (S : zM) (z : Int) (hz_ : -2147483648 ≤ z ∧ z ≤ 2147483647) (what : Int) (hwhat_ : -2147483648 ≤ what ∧ what ≤ 2147483647) (hw : zW (S 9 1)) : Met l yX5_zoneOf (Cond.code yX5_zoneOf cX5_zoneOf 3 (some FieldType.int) :: zTbl) r_X5_zoneOf (va_Pc [.ref (za G 9 0), .int (zI z), .int (zI what)] (zB G S)) (va_Qi (q_X5_zoneOf S z what) (zB G) (zA G)) 0 0 (zA G) := by
  refine zMet [(0, .ref (za G 9 0)), (1, .int (zI z)), (2, .int (zI what))] hG (by decide) (Nat.le_of_ble_eq_true rfl) rfl (fun p e s m args below meth c ls h hx hb hr hH hl => ?_)
  rw [← zM_id S] at hH
  refine lv_aload_n hx hb dX5_zoneOf_0 rfl (lv_at hl 0 rfl) ?_
  refine lv_aload_n hx hb dX5_zoneOf_1 rfl (lv_at hl 0 rfl) ?_
  refine lv_iload_n hx hb dX5_zoneOf_2 rfl (lv_at hl 1 rfl) ?_
  refine zcVi h hH (zr_5 h hH) (As := [.int (zI z)]) (rest := [.ref (za G 9 0)]) (c_X5_isZone l G hG (zMo S (S 9 0) (S 9 1) (S 9 2) (S 9 3) (S 9 4) (S 9 5) (S 9 6)) z (by omega) (zM_hw hw)) zce_X5_isZone zcv_X5_isZone zm_X5_96 hl.1 rfl rfl ⟨rfl, rfl⟩ ⟨Nat.le_of_ble_eq_true rfl, Nat.le_of_ble_eq_true rfl⟩ (Nat.le_of_ble_eq_true rfl) ⟨Nat.zero_le _, Nat.zero_le _⟩ dX5_zoneOf_3 (fun r_3 S_3 H locs hq hH => ?_)
  obtain ⟨b_3, rfl, hb_3, rfl⟩ := hq
  (try rw [zM_1] at hb_3)
  refine zb_ine (tgt := 13) h (by omega) dX5_zoneOf_6 (by decide) (fun c_6 => ?_) (fun c_6 => ?_)
  · refine lv_iload_n hx hb dX5_zoneOf_13 rfl (lv_at hl 2 rfl) ?_
    refine zb_ic h dX5_zoneOf_14 ?_
    refine zb_bi h dX5_zoneOf_15 (by decide) (by decide) ?_
    refine zcSi h hH (As := [.int (zI what), .int (zI 0), .int (zI 10)]) (rest := [.ref (za G 9 0)]) (c_X5_in l G hG (zMo S (S 9 0) (S 9 1) (S 9 2) (S 9 3) (S 9 4) (S 9 5) (S 9 6)) what 0 10 (by omega) (by omega) (by omega)) zce_X5_in zt_X5_in zm_X5_32 hl.1 rfl rfl ⟨rfl, rfl⟩ ⟨Nat.le_of_ble_eq_true rfl, Nat.le_of_ble_eq_true rfl⟩ (Nat.le_of_ble_eq_true rfl) ⟨Nat.zero_le _, Nat.zero_le _⟩ dX5_zoneOf_17 (fun r_17 S_17 H locs hq hH => ?_)
    obtain ⟨b_17, rfl, hb_17, rfl⟩ := hq
    (try rw [zM_1] at hb_17)
    refine zb_ine (tgt := 27) h (by omega) dX5_zoneOf_20 (by decide) (fun c_20 => ?_) (fun c_20 => ?_)
    · refine zb_ic h dX5_zoneOf_27 ?_
      refine zcVi h hH (zr_5 h hH) (As := [.int (zI 0)]) (rest := []) (c_X5_holds l G hG (zMo S (S 9 0) (S 9 1) (S 9 2) (S 9 3) (S 9 4) (S 9 5) (S 9 6)) 0 (by omega)) zce_X5_holds zcv_X5_holds zm_X5_87 hl.1 rfl rfl ⟨rfl, rfl⟩ ⟨Nat.le_of_ble_eq_true rfl, Nat.le_of_ble_eq_true rfl⟩ (Nat.le_of_ble_eq_true rfl) ⟨Nat.zero_le _, Nat.zero_le _⟩ dX5_zoneOf_28 (fun r_28 S_28 H locs hq hH => ?_)
      obtain ⟨b_28, rfl, hb_28, rfl⟩ := hq
      (try rw [zM_1] at hb_28)
      simp only [zM_M, zM_0, zM_1, zM_2, zM_3, zM_4, zM_5, zM_6] at hH
      refine zb_ieq (tgt := 43) h (by omega) dX5_zoneOf_31 (by decide) (fun c_31 => ?_) (fun c_31 => ?_)
      · exact absurd c_31 (by omega)
      · have f4 := zW_4 hw
        refine lv_aload_n hx hb dX5_zoneOf_34 rfl (lv_at hl 0 rfl) ?_
        refine lv_iload_n hx hb dX5_zoneOf_35 rfl (lv_at hl 1 rfl) ?_
        refine lv_iload_n hx hb dX5_zoneOf_36 rfl (lv_at hl 2 rfl) ?_
        refine zcVi h hH (zr_5 h hH) (As := [.int (zI z), .int (zI what)]) (rest := []) (c_X5_ofZone l G hG (zMo S (zup (S 9 0) 0 0) (S 9 1) (S 9 2) (S 9 3) (S 9 4) (S 9 5) (S 9 6)) z what (by omega) (by omega) (zM_hw hw)) zce_X5_ofZone zcv_X5_ofZone zm_X5_166 hl.1 rfl rfl ⟨rfl, rfl⟩ ⟨Nat.le_of_ble_eq_true rfl, Nat.le_of_ble_eq_true rfl⟩ (Nat.le_of_ble_eq_true rfl) ⟨Nat.zero_le _, Nat.zero_le _⟩ dX5_zoneOf_37 (fun r_37 S_37 H locs hq hH => ?_)
        obtain ⟨rfl, M_37, rfl⟩ := hq
        simp only [zM_M, zM_0, zM_1, zM_2, zM_3, zM_4, zM_5, zM_6] at hH
        rw [zM_1]
        refine lv_goto (tgt := 44) hx hb dX5_zoneOf_40 (by decide) ?_
        refine zri h hr hH ?_ dX5_zoneOf_44
        exact Or.inr (Or.inr (⟨by omega, rfl, _, rfl⟩))
    · refine zb_ic h dX5_zoneOf_23 ?_
      refine lv_goto (tgt := 28) hx hb dX5_zoneOf_24 (by decide) ?_
      refine zcVi h hH (zr_5 h hH) (As := [.int (zI 2)]) (rest := []) (c_X5_holds l G hG (zMo S (S 9 0) (S 9 1) (S 9 2) (S 9 3) (S 9 4) (S 9 5) (S 9 6)) 2 (by omega)) zce_X5_holds zcv_X5_holds zm_X5_87 hl.1 rfl rfl ⟨rfl, rfl⟩ ⟨Nat.le_of_ble_eq_true rfl, Nat.le_of_ble_eq_true rfl⟩ (Nat.le_of_ble_eq_true rfl) ⟨Nat.zero_le _, Nat.zero_le _⟩ dX5_zoneOf_28 (fun r_28 S_28 H locs hq hH => ?_)
      obtain ⟨b_28, rfl, hb_28, rfl⟩ := hq
      (try rw [zM_1] at hb_28)
      simp only [zM_M, zM_0, zM_1, zM_2, zM_3, zM_4, zM_5, zM_6] at hH
      refine zb_ieq (tgt := 43) h (by omega) dX5_zoneOf_31 (by decide) (fun c_31 => ?_) (fun c_31 => ?_)
      · refine zb_ic h dX5_zoneOf_43 ?_
        refine zri h hr hH ?_ dX5_zoneOf_44
        exact Or.inr (Or.inl ⟨by omega, rfl⟩)
      · exact absurd c_31 (by omega)
  · refine zb_ic h dX5_zoneOf_9 ?_
    refine lv_goto (tgt := 28) hx hb dX5_zoneOf_10 (by decide) ?_
    refine zcVi h hH (zr_5 h hH) (As := [.int (zI 1)]) (rest := []) (c_X5_holds l G hG (zMo S (S 9 0) (S 9 1) (S 9 2) (S 9 3) (S 9 4) (S 9 5) (S 9 6)) 1 (by omega)) zce_X5_holds zcv_X5_holds zm_X5_87 hl.1 rfl rfl ⟨rfl, rfl⟩ ⟨Nat.le_of_ble_eq_true rfl, Nat.le_of_ble_eq_true rfl⟩ (Nat.le_of_ble_eq_true rfl) ⟨Nat.zero_le _, Nat.zero_le _⟩ dX5_zoneOf_28 (fun r_28 S_28 H locs hq hH => ?_)
    obtain ⟨b_28, rfl, hb_28, rfl⟩ := hq
    (try rw [zM_1] at hb_28)
    simp only [zM_M, zM_0, zM_1, zM_2, zM_3, zM_4, zM_5, zM_6] at hH
    refine zb_ieq (tgt := 43) h (by omega) dX5_zoneOf_31 (by decide) (fun c_31 => ?_) (fun c_31 => ?_)
    · refine zb_ic h dX5_zoneOf_43 ?_
      refine zri h hr hH ?_ dX5_zoneOf_44
      exact Or.inl ⟨by omega, rfl⟩
    · exact absurd c_31 (by omega)
theorem dX5_mark_0 : decode cX5_mark 0 = .ok (.aload_n 0, 1) := by decide +kernel
theorem dX5_mark_1 : decode cX5_mark 1 = .ok (.iload_n 1, 1) := by decide +kernel
theorem dX5_mark_2 : decode cX5_mark 2 = .ok (.iconst 1, 1) := by decide +kernel
theorem dX5_mark_3 : decode cX5_mark 3 = .ok (.bipush 10, 2) := by decide +kernel
theorem dX5_mark_5 : decode cX5_mark 5 = .ok (.invokestatic 32, 3) := by decide +kernel
theorem dX5_mark_8 : decode cX5_mark 8 = .ok (.ifCond .eq 7, 3) := by decide +kernel
theorem dX5_mark_11 : decode cX5_mark 11 = .ok (.iconst 0, 1) := by decide +kernel
theorem dX5_mark_12 : decode cX5_mark 12 = .ok (.goto 4, 3) := by decide +kernel
theorem dX5_mark_15 : decode cX5_mark 15 = .ok (.iconst 1, 1) := by decide +kernel
theorem dX5_mark_16 : decode cX5_mark 16 = .ok (.invokevirtual 87, 3) := by decide +kernel
theorem dX5_mark_19 : decode cX5_mark 19 = .ok (.ifCond .eq 11, 3) := by decide +kernel
theorem dX5_mark_22 : decode cX5_mark 22 = .ok (.aload_n 0, 1) := by decide +kernel
theorem dX5_mark_23 : decode cX5_mark 23 = .ok (.iload_n 1, 1) := by decide +kernel
theorem dX5_mark_24 : decode cX5_mark 24 = .ok (.invokevirtual 169, 3) := by decide +kernel
theorem dX5_mark_27 : decode cX5_mark 27 = .ok (.goto 4, 3) := by decide +kernel
theorem dX5_mark_30 : decode cX5_mark 30 = .ok (.iconst 0, 1) := by decide +kernel
theorem dX5_mark_31 : decode cX5_mark 31 = .ok (.ireturn, 1) := by decide +kernel
def q_X5_mark (S : zM) (n : Int) : Int32 → zM → Prop := fun r S1 => ((¬ (1 ≤ n ∧ n ≤ 10)) ∧ zMo S (zup (S 9 0) 0 1) (S 9 1) (S 9 2) (S 9 3) (S 9 4) (S 9 5) (S 9 6) = S1) ∨ ((1 ≤ n ∧ n ≤ 10) ∧ r = zI (zMk (S 9 1 1) (S 9 1 2) (n - 1)) ∧ ∃ M', zMo S (zup (S 9 0) 0 0) (S 9 1) (S 9 2) (S 9 3) (S 9 4) M' (S 9 6) = S1)
def r_X5_mark : Room := { frames := 2, cells := 0, slots := 0, locals := 45 }
set_option maxHeartbeats 4000000 in
set_option maxRecDepth 100000 in
theorem c_X5_mark (l : Launch) (G : zG) (hG : zok G) (S : zM) (n : Int) (hn_ : -2147483648 ≤ n ∧ n ≤ 2147483647) (hw : zW (S 9 1)) : Met l yX5_mark (Cond.code yX5_mark cX5_mark 2 (some FieldType.int) :: zTbl) r_X5_mark (va_Pc [.ref (za G 9 0), .int (zI n)] (zB G S)) (va_Qi (q_X5_mark S n) (zB G) (zA G)) 0 0 (zA G) := by
  refine zMet [(0, .ref (za G 9 0)), (1, .int (zI n))] hG (by decide) (Nat.le_of_ble_eq_true rfl) rfl (fun p e s m args below meth c ls h hx hb hr hH hl => ?_)
  rw [← zM_id S] at hH
  refine lv_aload_n hx hb dX5_mark_0 rfl (lv_at hl 0 rfl) ?_
  refine lv_iload_n hx hb dX5_mark_1 rfl (lv_at hl 1 rfl) ?_
  refine zb_ic h dX5_mark_2 ?_
  refine zb_bi h dX5_mark_3 (by decide) (by decide) ?_
  refine zcSi h hH (As := [.int (zI n), .int (zI 1), .int (zI 10)]) (rest := [.ref (za G 9 0)]) (c_X5_in l G hG (zMo S (S 9 0) (S 9 1) (S 9 2) (S 9 3) (S 9 4) (S 9 5) (S 9 6)) n 1 10 (by omega) (by omega) (by omega)) zce_X5_in zt_X5_in zm_X5_32 hl.1 rfl rfl ⟨rfl, rfl⟩ ⟨Nat.le_of_ble_eq_true rfl, Nat.le_of_ble_eq_true rfl⟩ (Nat.le_of_ble_eq_true rfl) ⟨Nat.zero_le _, Nat.zero_le _⟩ dX5_mark_5 (fun r_5 S_5 H locs hq hH => ?_)
  obtain ⟨b_5, rfl, hb_5, rfl⟩ := hq
  (try rw [zM_1] at hb_5)
  refine zb_ieq (tgt := 15) h (by omega) dX5_mark_8 (by decide) (fun c_8 => ?_) (fun c_8 => ?_)
  · refine zb_ic h dX5_mark_15 ?_
    refine zcVi h hH (zr_5 h hH) (As := [.int (zI 1)]) (rest := []) (c_X5_holds l G hG (zMo S (S 9 0) (S 9 1) (S 9 2) (S 9 3) (S 9 4) (S 9 5) (S 9 6)) 1 (by omega)) zce_X5_holds zcv_X5_holds zm_X5_87 hl.1 rfl rfl ⟨rfl, rfl⟩ ⟨Nat.le_of_ble_eq_true rfl, Nat.le_of_ble_eq_true rfl⟩ (Nat.le_of_ble_eq_true rfl) ⟨Nat.zero_le _, Nat.zero_le _⟩ dX5_mark_16 (fun r_16 S_16 H locs hq hH => ?_)
    obtain ⟨b_16, rfl, hb_16, rfl⟩ := hq
    (try rw [zM_1] at hb_16)
    simp only [zM_M, zM_0, zM_1, zM_2, zM_3, zM_4, zM_5, zM_6] at hH
    refine zb_ieq (tgt := 30) h (by omega) dX5_mark_19 (by decide) (fun c_19 => ?_) (fun c_19 => ?_)
    · refine zb_ic h dX5_mark_30 ?_
      refine zri h hr hH ?_ dX5_mark_31
      exact Or.inl ⟨by omega, rfl⟩
    · exact absurd c_19 (by omega)
  · refine zb_ic h dX5_mark_11 ?_
    refine lv_goto (tgt := 16) hx hb dX5_mark_12 (by decide) ?_
    refine zcVi h hH (zr_5 h hH) (As := [.int (zI 0)]) (rest := []) (c_X5_holds l G hG (zMo S (S 9 0) (S 9 1) (S 9 2) (S 9 3) (S 9 4) (S 9 5) (S 9 6)) 0 (by omega)) zce_X5_holds zcv_X5_holds zm_X5_87 hl.1 rfl rfl ⟨rfl, rfl⟩ ⟨Nat.le_of_ble_eq_true rfl, Nat.le_of_ble_eq_true rfl⟩ (Nat.le_of_ble_eq_true rfl) ⟨Nat.zero_le _, Nat.zero_le _⟩ dX5_mark_16 (fun r_16 S_16 H locs hq hH => ?_)
    obtain ⟨b_16, rfl, hb_16, rfl⟩ := hq
    (try rw [zM_1] at hb_16)
    simp only [zM_M, zM_0, zM_1, zM_2, zM_3, zM_4, zM_5, zM_6] at hH
    refine zb_ieq (tgt := 30) h (by omega) dX5_mark_19 (by decide) (fun c_19 => ?_) (fun c_19 => ?_)
    · exact absurd c_19 (by omega)
    · refine lv_aload_n hx hb dX5_mark_22 rfl (lv_at hl 0 rfl) ?_
      refine lv_iload_n hx hb dX5_mark_23 rfl (lv_at hl 1 rfl) ?_
      refine zcVi h hH (zr_5 h hH) (As := [.int (zI n)]) (rest := []) (c_X5_markOf l G hG (zMo S (zup (S 9 0) 0 0) (S 9 1) (S 9 2) (S 9 3) (S 9 4) (S 9 5) (S 9 6)) n (by omega) (zM_hw hw)) zce_X5_markOf zcv_X5_markOf zm_X5_169 hl.1 rfl rfl ⟨rfl, rfl⟩ ⟨Nat.le_of_ble_eq_true rfl, Nat.le_of_ble_eq_true rfl⟩ (Nat.le_of_ble_eq_true rfl) ⟨Nat.zero_le _, Nat.zero_le _⟩ dX5_mark_24 (fun r_24 S_24 H locs hq hH => ?_)
      obtain ⟨rfl, M_24, rfl⟩ := hq
      simp only [zM_M, zM_0, zM_1, zM_2, zM_3, zM_4, zM_5, zM_6] at hH
      rw [zM_1]
      refine lv_goto (tgt := 31) hx hb dX5_mark_27 (by decide) ?_
      refine zri h hr hH ?_ dX5_mark_31
      exact Or.inr (⟨by omega, rfl, _, rfl⟩)
theorem dX5_strip_0 : decode cX5_strip 0 = .ok (.aload_n 0, 1) := by decide +kernel
theorem dX5_strip_1 : decode cX5_strip 1 = .ok (.iload_n 1, 1) := by decide +kernel
theorem dX5_strip_2 : decode cX5_strip 2 = .ok (.invokevirtual 96, 3) := by decide +kernel
theorem dX5_strip_5 : decode cX5_strip 5 = .ok (.ifCond .ne 7, 3) := by decide +kernel
theorem dX5_strip_8 : decode cX5_strip 8 = .ok (.iconst 1, 1) := by decide +kernel
theorem dX5_strip_9 : decode cX5_strip 9 = .ok (.goto 39, 3) := by decide +kernel
theorem dX5_strip_12 : decode cX5_strip 12 = .ok (.iload_n 2, 1) := by decide +kernel
theorem dX5_strip_13 : decode cX5_strip 13 = .ok (.iconst 1, 1) := by decide +kernel
theorem dX5_strip_14 : decode cX5_strip 14 = .ok (.sipush 999, 3) := by decide +kernel
theorem dX5_strip_17 : decode cX5_strip 17 = .ok (.invokestatic 32, 3) := by decide +kernel
theorem dX5_strip_20 : decode cX5_strip 20 = .ok (.ifCond .eq 23, 3) := by decide +kernel
theorem dX5_strip_23 : decode cX5_strip 23 = .ok (.iload_n 3, 1) := by decide +kernel
theorem dX5_strip_24 : decode cX5_strip 24 = .ok (.iconst 1, 1) := by decide +kernel
theorem dX5_strip_25 : decode cX5_strip 25 = .ok (.bipush 9, 2) := by decide +kernel
theorem dX5_strip_27 : decode cX5_strip 27 = .ok (.invokestatic 32, 3) := by decide +kernel
theorem dX5_strip_30 : decode cX5_strip 30 = .ok (.ifCond .eq 13, 3) := by decide +kernel
theorem dX5_strip_33 : decode cX5_strip 33 = .ok (.iload 4, 2) := by decide +kernel
theorem dX5_strip_35 : decode cX5_strip 35 = .ok (.iconst 0, 1) := by decide +kernel
theorem dX5_strip_36 : decode cX5_strip 36 = .ok (.iconst 3, 1) := by decide +kernel
theorem dX5_strip_37 : decode cX5_strip 37 = .ok (.invokestatic 32, 3) := by decide +kernel
theorem dX5_strip_40 : decode cX5_strip 40 = .ok (.ifCond .ne 7, 3) := by decide +kernel
theorem dX5_strip_43 : decode cX5_strip 43 = .ok (.iconst 2, 1) := by decide +kernel
theorem dX5_strip_44 : decode cX5_strip 44 = .ok (.goto 4, 3) := by decide +kernel
theorem dX5_strip_47 : decode cX5_strip 47 = .ok (.iconst 0, 1) := by decide +kernel
theorem dX5_strip_48 : decode cX5_strip 48 = .ok (.istore 5, 2) := by decide +kernel
theorem dX5_strip_50 : decode cX5_strip 50 = .ok (.aload_n 0, 1) := by decide +kernel
theorem dX5_strip_51 : decode cX5_strip 51 = .ok (.iload 5, 2) := by decide +kernel
theorem dX5_strip_53 : decode cX5_strip 53 = .ok (.invokevirtual 87, 3) := by decide +kernel
theorem dX5_strip_56 : decode cX5_strip 56 = .ok (.ifCond .eq 15, 3) := by decide +kernel
theorem dX5_strip_59 : decode cX5_strip 59 = .ok (.aload_n 0, 1) := by decide +kernel
theorem dX5_strip_60 : decode cX5_strip 60 = .ok (.iload_n 1, 1) := by decide +kernel
theorem dX5_strip_61 : decode cX5_strip 61 = .ok (.iload_n 2, 1) := by decide +kernel
theorem dX5_strip_62 : decode cX5_strip 62 = .ok (.iload_n 3, 1) := by decide +kernel
theorem dX5_strip_63 : decode cX5_strip 63 = .ok (.iload 4, 2) := by decide +kernel
theorem dX5_strip_65 : decode cX5_strip 65 = .ok (.invokevirtual 175, 3) := by decide +kernel
theorem dX5_strip_68 : decode cX5_strip 68 = .ok (.goto 4, 3) := by decide +kernel
theorem dX5_strip_71 : decode cX5_strip 71 = .ok (.iconst 0, 1) := by decide +kernel
theorem dX5_strip_72 : decode cX5_strip 72 = .ok (.ireturn, 1) := by decide +kernel
def q_X5_strip (S : zM) (z : Int) (f : Int) (n : Int) (what : Int) : Int32 → zM → Prop := fun r S1 => ((¬ (0 ≤ z ∧ z < S 9 1 4)) ∧ zMo S (zup (S 9 0) 0 1) (S 9 1) (S 9 2) (S 9 3) (S 9 4) (S 9 5) (S 9 6) = S1) ∨ (((0 ≤ z ∧ z < S 9 1 4) ∧ ¬ ((1 ≤ f ∧ f ≤ 999) ∧ (1 ≤ n ∧ n ≤ 9) ∧ (0 ≤ what ∧ what ≤ 3))) ∧ zMo S (zup (S 9 0) 0 2) (S 9 1) (S 9 2) (S 9 3) (S 9 4) (S 9 5) (S 9 6) = S1) ∨ (((0 ≤ z ∧ z < S 9 1 4) ∧ ((1 ≤ f ∧ f ≤ 999) ∧ (1 ≤ n ∧ n ≤ 9) ∧ (0 ≤ what ∧ what ≤ 3))) ∧ r = zI (tStr (S 9 1) z f n what) ∧ ∃ M', zMo S (zup (S 9 0) 0 0) (S 9 1) (S 9 2) (S 9 3) (S 9 4) M' (S 9 6) = S1)
def r_X5_strip : Room := { frames := 4, cells := 0, slots := 0, locals := 98 }
set_option maxHeartbeats 4000000 in
set_option maxRecDepth 100000 in
theorem c_X5_strip (l : Launch) (G : zG) (hG : zok G) (S : zM) (z : Int) (hz_ : -2147483648 ≤ z ∧ z ≤ 2147483647) (f : Int) (hf_ : -2147483648 ≤ f ∧ f ≤ 2147483647) (n : Int) (hn_ : -2147483648 ≤ n ∧ n ≤ 2147483647) (what : Int) (hwhat_ : -2147483648 ≤ what ∧ what ≤ 2147483647) (hw : zW (S 9 1)) : Met l yX5_strip (Cond.code yX5_strip cX5_strip 6 (some FieldType.int) :: zTbl) r_X5_strip (va_Pc [.ref (za G 9 0), .int (zI z), .int (zI f), .int (zI n), .int (zI what)] (zB G S)) (va_Qi (q_X5_strip S z f n what) (zB G) (zA G)) 0 0 (zA G) := by
  refine zMet [(0, .ref (za G 9 0)), (1, .int (zI z)), (2, .int (zI f)), (3, .int (zI n)), (4, .int (zI what))] hG (by decide) (Nat.le_of_ble_eq_true rfl) rfl (fun p e s m args below meth c ls h hx hb hr hH hl => ?_)
  rw [← zM_id S] at hH
  refine lv_aload_n hx hb dX5_strip_0 rfl (lv_at hl 0 rfl) ?_
  refine lv_iload_n hx hb dX5_strip_1 rfl (lv_at hl 1 rfl) ?_
  refine zcVi h hH (zr_5 h hH) (As := [.int (zI z)]) (rest := []) (c_X5_isZone l G hG (zMo S (S 9 0) (S 9 1) (S 9 2) (S 9 3) (S 9 4) (S 9 5) (S 9 6)) z (by omega) (zM_hw hw)) zce_X5_isZone zcv_X5_isZone zm_X5_96 hl.1 rfl rfl ⟨rfl, rfl⟩ ⟨Nat.le_of_ble_eq_true rfl, Nat.le_of_ble_eq_true rfl⟩ (Nat.le_of_ble_eq_true rfl) ⟨Nat.zero_le _, Nat.zero_le _⟩ dX5_strip_2 (fun r_2 S_2 H locs hq hH => ?_)
  obtain ⟨b_2, rfl, hb_2, rfl⟩ := hq
  (try rw [zM_1] at hb_2)
  refine zb_ine (tgt := 12) h (by omega) dX5_strip_5 (by decide) (fun c_5 => ?_) (fun c_5 => ?_)
  · refine lv_iload_n hx hb dX5_strip_12 rfl (lv_at hl 2 rfl) ?_
    refine zb_ic h dX5_strip_13 ?_
    refine zb_si h dX5_strip_14 (by decide) (by decide) ?_
    refine zcSi h hH (As := [.int (zI f), .int (zI 1), .int (zI 999)]) (rest := []) (c_X5_in l G hG (zMo S (S 9 0) (S 9 1) (S 9 2) (S 9 3) (S 9 4) (S 9 5) (S 9 6)) f 1 999 (by omega) (by omega) (by omega)) zce_X5_in zt_X5_in zm_X5_32 hl.1 rfl rfl ⟨rfl, rfl⟩ ⟨Nat.le_of_ble_eq_true rfl, Nat.le_of_ble_eq_true rfl⟩ (Nat.le_of_ble_eq_true rfl) ⟨Nat.zero_le _, Nat.zero_le _⟩ dX5_strip_17 (fun r_17 S_17 H locs hq hH => ?_)
    obtain ⟨b_17, rfl, hb_17, rfl⟩ := hq
    (try rw [zM_1] at hb_17)
    refine zb_ieq (tgt := 43) h (by omega) dX5_strip_20 (by decide) (fun c_20 => ?_) (fun c_20 => ?_)
    · refine zb_ic h dX5_strip_43 ?_
      refine lv_goto (tgt := 48) hx hb dX5_strip_44 (by decide) ?_
      refine lv_istore (lv' := [(5, .int (zI 2)), (0, .ref (za G 9 0)), (1, .int (zI z)), (2, .int (zI f)), (3, .int (zI n)), (4, .int (zI what))]) hx hb dX5_strip_48 hl (by decide) rfl (fun ls hl => ?_)
      refine lv_aload_n hx hb dX5_strip_50 rfl (lv_at hl 1 rfl) ?_
      refine lv_iload hx hb dX5_strip_51 (lv_at hl 0 rfl) ?_
      refine zcVi h hH (zr_5 h hH) (As := [.int (zI 2)]) (rest := []) (c_X5_holds l G hG (zMo S (S 9 0) (S 9 1) (S 9 2) (S 9 3) (S 9 4) (S 9 5) (S 9 6)) 2 (by omega)) zce_X5_holds zcv_X5_holds zm_X5_87 hl.1 rfl rfl ⟨rfl, rfl⟩ ⟨Nat.le_of_ble_eq_true rfl, Nat.le_of_ble_eq_true rfl⟩ (Nat.le_of_ble_eq_true rfl) ⟨Nat.zero_le _, Nat.zero_le _⟩ dX5_strip_53 (fun r_53 S_53 H locs hq hH => ?_)
      obtain ⟨b_53, rfl, hb_53, rfl⟩ := hq
      (try rw [zM_1] at hb_53)
      simp only [zM_M, zM_0, zM_1, zM_2, zM_3, zM_4, zM_5, zM_6] at hH
      refine zb_ieq (tgt := 71) h (by omega) dX5_strip_56 (by decide) (fun c_56 => ?_) (fun c_56 => ?_)
      · refine zb_ic h dX5_strip_71 ?_
        refine zri h hr hH ?_ dX5_strip_72
        exact Or.inr (Or.inl ⟨by omega, rfl⟩)
      · exact absurd c_56 (by omega)
    · refine lv_iload_n hx hb dX5_strip_23 rfl (lv_at hl 3 rfl) ?_
      refine zb_ic h dX5_strip_24 ?_
      refine zb_bi h dX5_strip_25 (by decide) (by decide) ?_
      refine zcSi h hH (As := [.int (zI n), .int (zI 1), .int (zI 9)]) (rest := []) (c_X5_in l G hG (zMo S (S 9 0) (S 9 1) (S 9 2) (S 9 3) (S 9 4) (S 9 5) (S 9 6)) n 1 9 (by omega) (by omega) (by omega)) zce_X5_in zt_X5_in zm_X5_32 hl.1 rfl rfl ⟨rfl, rfl⟩ ⟨Nat.le_of_ble_eq_true rfl, Nat.le_of_ble_eq_true rfl⟩ (Nat.le_of_ble_eq_true rfl) ⟨Nat.zero_le _, Nat.zero_le _⟩ dX5_strip_27 (fun r_27 S_27 H locs hq hH => ?_)
      obtain ⟨b_27, rfl, hb_27, rfl⟩ := hq
      (try rw [zM_1] at hb_27)
      refine zb_ieq (tgt := 43) h (by omega) dX5_strip_30 (by decide) (fun c_30 => ?_) (fun c_30 => ?_)
      · refine zb_ic h dX5_strip_43 ?_
        refine lv_goto (tgt := 48) hx hb dX5_strip_44 (by decide) ?_
        refine lv_istore (lv' := [(5, .int (zI 2)), (0, .ref (za G 9 0)), (1, .int (zI z)), (2, .int (zI f)), (3, .int (zI n)), (4, .int (zI what))]) hx hb dX5_strip_48 hl (by decide) rfl (fun ls hl => ?_)
        refine lv_aload_n hx hb dX5_strip_50 rfl (lv_at hl 1 rfl) ?_
        refine lv_iload hx hb dX5_strip_51 (lv_at hl 0 rfl) ?_
        refine zcVi h hH (zr_5 h hH) (As := [.int (zI 2)]) (rest := []) (c_X5_holds l G hG (zMo S (S 9 0) (S 9 1) (S 9 2) (S 9 3) (S 9 4) (S 9 5) (S 9 6)) 2 (by omega)) zce_X5_holds zcv_X5_holds zm_X5_87 hl.1 rfl rfl ⟨rfl, rfl⟩ ⟨Nat.le_of_ble_eq_true rfl, Nat.le_of_ble_eq_true rfl⟩ (Nat.le_of_ble_eq_true rfl) ⟨Nat.zero_le _, Nat.zero_le _⟩ dX5_strip_53 (fun r_53 S_53 H locs hq hH => ?_)
        obtain ⟨b_53, rfl, hb_53, rfl⟩ := hq
        (try rw [zM_1] at hb_53)
        simp only [zM_M, zM_0, zM_1, zM_2, zM_3, zM_4, zM_5, zM_6] at hH
        refine zb_ieq (tgt := 71) h (by omega) dX5_strip_56 (by decide) (fun c_56 => ?_) (fun c_56 => ?_)
        · refine zb_ic h dX5_strip_71 ?_
          refine zri h hr hH ?_ dX5_strip_72
          exact Or.inr (Or.inl ⟨by omega, rfl⟩)
        · exact absurd c_56 (by omega)
      · refine lv_iload hx hb dX5_strip_33 (lv_at hl 4 rfl) ?_
        refine zb_ic h dX5_strip_35 ?_
        refine zb_ic h dX5_strip_36 ?_
        refine zcSi h hH (As := [.int (zI what), .int (zI 0), .int (zI 3)]) (rest := []) (c_X5_in l G hG (zMo S (S 9 0) (S 9 1) (S 9 2) (S 9 3) (S 9 4) (S 9 5) (S 9 6)) what 0 3 (by omega) (by omega) (by omega)) zce_X5_in zt_X5_in zm_X5_32 hl.1 rfl rfl ⟨rfl, rfl⟩ ⟨Nat.le_of_ble_eq_true rfl, Nat.le_of_ble_eq_true rfl⟩ (Nat.le_of_ble_eq_true rfl) ⟨Nat.zero_le _, Nat.zero_le _⟩ dX5_strip_37 (fun r_37 S_37 H locs hq hH => ?_)
        obtain ⟨b_37, rfl, hb_37, rfl⟩ := hq
        (try rw [zM_1] at hb_37)
        refine zb_ine (tgt := 47) h (by omega) dX5_strip_40 (by decide) (fun c_40 => ?_) (fun c_40 => ?_)
        · refine zb_ic h dX5_strip_47 ?_
          refine lv_istore (lv' := [(5, .int (zI 0)), (0, .ref (za G 9 0)), (1, .int (zI z)), (2, .int (zI f)), (3, .int (zI n)), (4, .int (zI what))]) hx hb dX5_strip_48 hl (by decide) rfl (fun ls hl => ?_)
          refine lv_aload_n hx hb dX5_strip_50 rfl (lv_at hl 1 rfl) ?_
          refine lv_iload hx hb dX5_strip_51 (lv_at hl 0 rfl) ?_
          refine zcVi h hH (zr_5 h hH) (As := [.int (zI 0)]) (rest := []) (c_X5_holds l G hG (zMo S (S 9 0) (S 9 1) (S 9 2) (S 9 3) (S 9 4) (S 9 5) (S 9 6)) 0 (by omega)) zce_X5_holds zcv_X5_holds zm_X5_87 hl.1 rfl rfl ⟨rfl, rfl⟩ ⟨Nat.le_of_ble_eq_true rfl, Nat.le_of_ble_eq_true rfl⟩ (Nat.le_of_ble_eq_true rfl) ⟨Nat.zero_le _, Nat.zero_le _⟩ dX5_strip_53 (fun r_53 S_53 H locs hq hH => ?_)
          obtain ⟨b_53, rfl, hb_53, rfl⟩ := hq
          (try rw [zM_1] at hb_53)
          simp only [zM_M, zM_0, zM_1, zM_2, zM_3, zM_4, zM_5, zM_6] at hH
          refine zb_ieq (tgt := 71) h (by omega) dX5_strip_56 (by decide) (fun c_56 => ?_) (fun c_56 => ?_)
          · exact absurd c_56 (by omega)
          · have f4 := zW_4 hw
            refine lv_aload_n hx hb dX5_strip_59 rfl (lv_at hl 1 rfl) ?_
            refine lv_iload_n hx hb dX5_strip_60 rfl (lv_at hl 2 rfl) ?_
            refine lv_iload_n hx hb dX5_strip_61 rfl (lv_at hl 3 rfl) ?_
            refine lv_iload_n hx hb dX5_strip_62 rfl (lv_at hl 4 rfl) ?_
            refine lv_iload hx hb dX5_strip_63 (lv_at hl 5 rfl) ?_
            refine zcVi h hH (zr_5 h hH) (As := [.int (zI z), .int (zI f), .int (zI n), .int (zI what)]) (rest := []) (c_X5_stripOf l G hG (zMo S (zup (S 9 0) 0 0) (S 9 1) (S 9 2) (S 9 3) (S 9 4) (S 9 5) (S 9 6)) z f n what (by omega) (by omega) (by omega) (by omega) (zM_hw hw)) zce_X5_stripOf zcv_X5_stripOf zm_X5_175 hl.1 rfl rfl ⟨rfl, rfl⟩ ⟨Nat.le_of_ble_eq_true rfl, Nat.le_of_ble_eq_true rfl⟩ (Nat.le_of_ble_eq_true rfl) ⟨Nat.zero_le _, Nat.zero_le _⟩ dX5_strip_65 (fun r_65 S_65 H locs hq hH => ?_)
            obtain ⟨rfl, M_65, rfl⟩ := hq
            simp only [zM_M, zM_0, zM_1, zM_2, zM_3, zM_4, zM_5, zM_6] at hH
            rw [zM_1]
            refine lv_goto (tgt := 72) hx hb dX5_strip_68 (by decide) ?_
            refine zri h hr hH ?_ dX5_strip_72
            exact Or.inr (Or.inr (⟨by omega, rfl, _, rfl⟩))
        · refine zb_ic h dX5_strip_43 ?_
          refine lv_goto (tgt := 48) hx hb dX5_strip_44 (by decide) ?_
          refine lv_istore (lv' := [(5, .int (zI 2)), (0, .ref (za G 9 0)), (1, .int (zI z)), (2, .int (zI f)), (3, .int (zI n)), (4, .int (zI what))]) hx hb dX5_strip_48 hl (by decide) rfl (fun ls hl => ?_)
          refine lv_aload_n hx hb dX5_strip_50 rfl (lv_at hl 1 rfl) ?_
          refine lv_iload hx hb dX5_strip_51 (lv_at hl 0 rfl) ?_
          refine zcVi h hH (zr_5 h hH) (As := [.int (zI 2)]) (rest := []) (c_X5_holds l G hG (zMo S (S 9 0) (S 9 1) (S 9 2) (S 9 3) (S 9 4) (S 9 5) (S 9 6)) 2 (by omega)) zce_X5_holds zcv_X5_holds zm_X5_87 hl.1 rfl rfl ⟨rfl, rfl⟩ ⟨Nat.le_of_ble_eq_true rfl, Nat.le_of_ble_eq_true rfl⟩ (Nat.le_of_ble_eq_true rfl) ⟨Nat.zero_le _, Nat.zero_le _⟩ dX5_strip_53 (fun r_53 S_53 H locs hq hH => ?_)
          obtain ⟨b_53, rfl, hb_53, rfl⟩ := hq
          (try rw [zM_1] at hb_53)
          simp only [zM_M, zM_0, zM_1, zM_2, zM_3, zM_4, zM_5, zM_6] at hH
          refine zb_ieq (tgt := 71) h (by omega) dX5_strip_56 (by decide) (fun c_56 => ?_) (fun c_56 => ?_)
          · refine zb_ic h dX5_strip_71 ?_
            refine zri h hr hH ?_ dX5_strip_72
            exact Or.inr (Or.inl ⟨by omega, rfl⟩)
          · exact absurd c_56 (by omega)
  · refine zb_ic h dX5_strip_8 ?_
    refine lv_goto (tgt := 48) hx hb dX5_strip_9 (by decide) ?_
    refine lv_istore (lv' := [(5, .int (zI 1)), (0, .ref (za G 9 0)), (1, .int (zI z)), (2, .int (zI f)), (3, .int (zI n)), (4, .int (zI what))]) hx hb dX5_strip_48 hl (by decide) rfl (fun ls hl => ?_)
    refine lv_aload_n hx hb dX5_strip_50 rfl (lv_at hl 1 rfl) ?_
    refine lv_iload hx hb dX5_strip_51 (lv_at hl 0 rfl) ?_
    refine zcVi h hH (zr_5 h hH) (As := [.int (zI 1)]) (rest := []) (c_X5_holds l G hG (zMo S (S 9 0) (S 9 1) (S 9 2) (S 9 3) (S 9 4) (S 9 5) (S 9 6)) 1 (by omega)) zce_X5_holds zcv_X5_holds zm_X5_87 hl.1 rfl rfl ⟨rfl, rfl⟩ ⟨Nat.le_of_ble_eq_true rfl, Nat.le_of_ble_eq_true rfl⟩ (Nat.le_of_ble_eq_true rfl) ⟨Nat.zero_le _, Nat.zero_le _⟩ dX5_strip_53 (fun r_53 S_53 H locs hq hH => ?_)
    obtain ⟨b_53, rfl, hb_53, rfl⟩ := hq
    (try rw [zM_1] at hb_53)
    simp only [zM_M, zM_0, zM_1, zM_2, zM_3, zM_4, zM_5, zM_6] at hH
    refine zb_ieq (tgt := 71) h (by omega) dX5_strip_56 (by decide) (fun c_56 => ?_) (fun c_56 => ?_)
    · refine zb_ic h dX5_strip_71 ?_
      refine zri h hr hH ?_ dX5_strip_72
      exact Or.inl ⟨by omega, rfl⟩
    · exact absurd c_56 (by omega)
theorem dX5_ifExposed_0 : decode cX5_ifExposed 0 = .ok (.aload_n 0, 1) := by decide +kernel
theorem dX5_ifExposed_1 : decode cX5_ifExposed 1 = .ok (.iload_n 1, 1) := by decide +kernel
theorem dX5_ifExposed_2 : decode cX5_ifExposed 2 = .ok (.iconst 1, 1) := by decide +kernel
theorem dX5_ifExposed_3 : decode cX5_ifExposed 3 = .ok (.sipush 2000, 3) := by decide +kernel
theorem dX5_ifExposed_6 : decode cX5_ifExposed 6 = .ok (.invokestatic 32, 3) := by decide +kernel
theorem dX5_ifExposed_9 : decode cX5_ifExposed 9 = .ok (.ifCond .eq 16, 3) := by decide +kernel
theorem dX5_ifExposed_12 : decode cX5_ifExposed 12 = .ok (.iload_n 2, 1) := by decide +kernel
theorem dX5_ifExposed_13 : decode cX5_ifExposed 13 = .ok (.iconst 0, 1) := by decide +kernel
theorem dX5_ifExposed_14 : decode cX5_ifExposed 14 = .ok (.iconst 1, 1) := by decide +kernel
theorem dX5_ifExposed_15 : decode cX5_ifExposed 15 = .ok (.invokestatic 32, 3) := by decide +kernel
theorem dX5_ifExposed_18 : decode cX5_ifExposed 18 = .ok (.ifCond .eq 7, 3) := by decide +kernel
theorem dX5_ifExposed_21 : decode cX5_ifExposed 21 = .ok (.iconst 0, 1) := by decide +kernel
theorem dX5_ifExposed_22 : decode cX5_ifExposed 22 = .ok (.goto 4, 3) := by decide +kernel
theorem dX5_ifExposed_25 : decode cX5_ifExposed 25 = .ok (.iconst 1, 1) := by decide +kernel
theorem dX5_ifExposed_26 : decode cX5_ifExposed 26 = .ok (.invokevirtual 87, 3) := by decide +kernel
theorem dX5_ifExposed_29 : decode cX5_ifExposed 29 = .ok (.ifCond .eq 12, 3) := by decide +kernel
theorem dX5_ifExposed_32 : decode cX5_ifExposed 32 = .ok (.aload_n 0, 1) := by decide +kernel
theorem dX5_ifExposed_33 : decode cX5_ifExposed 33 = .ok (.iload_n 1, 1) := by decide +kernel
theorem dX5_ifExposed_34 : decode cX5_ifExposed 34 = .ok (.iload_n 2, 1) := by decide +kernel
theorem dX5_ifExposed_35 : decode cX5_ifExposed 35 = .ok (.invokevirtual 188, 3) := by decide +kernel
theorem dX5_ifExposed_38 : decode cX5_ifExposed 38 = .ok (.goto 4, 3) := by decide +kernel
theorem dX5_ifExposed_41 : decode cX5_ifExposed 41 = .ok (.iconst 0, 1) := by decide +kernel
theorem dX5_ifExposed_42 : decode cX5_ifExposed 42 = .ok (.ireturn, 1) := by decide +kernel
def q_X5_ifExposed (S : zM) (t : Int) (w : Int) : Int32 → zM → Prop := fun r S1 => ((¬ ((1 ≤ t ∧ t ≤ 2000) ∧ (0 ≤ w ∧ w ≤ 1))) ∧ zMo S (zup (S 9 0) 0 1) (S 9 1) (S 9 2) (S 9 3) (S 9 4) (S 9 5) (S 9 6) = S1) ∨ (((1 ≤ t ∧ t ≤ 2000) ∧ (0 ≤ w ∧ w ≤ 1)) ∧ r = zI (tEx (S 9 1) t w) ∧ ∃ M', zMo S (zup (S 9 0) 0 0) (S 9 1) (S 9 2) (S 9 3) (S 9 4) M' (S 9 6) = S1)
def r_X5_ifExposed : Room := { frames := 7, cells := 0, slots := 0, locals := 157 }
set_option maxHeartbeats 4000000 in
set_option maxRecDepth 100000 in
theorem c_X5_ifExposed (l : Launch) (G : zG) (hG : zok G) (S : zM) (t : Int) (ht_ : -2147483648 ≤ t ∧ t ≤ 2147483647) (w : Int) (hw_ : -2147483648 ≤ w ∧ w ≤ 2147483647) (hw : zW (S 9 1)) : Met l yX5_ifExposed (Cond.code yX5_ifExposed cX5_ifExposed 3 (some FieldType.int) :: zTbl) r_X5_ifExposed (va_Pc [.ref (za G 9 0), .int (zI t), .int (zI w)] (zB G S)) (va_Qi (q_X5_ifExposed S t w) (zB G) (zA G)) 0 0 (zA G) := by
  refine zMet [(0, .ref (za G 9 0)), (1, .int (zI t)), (2, .int (zI w))] hG (by decide) (Nat.le_of_ble_eq_true rfl) rfl (fun p e s m args below meth c ls h hx hb hr hH hl => ?_)
  rw [← zM_id S] at hH
  refine lv_aload_n hx hb dX5_ifExposed_0 rfl (lv_at hl 0 rfl) ?_
  refine lv_iload_n hx hb dX5_ifExposed_1 rfl (lv_at hl 1 rfl) ?_
  refine zb_ic h dX5_ifExposed_2 ?_
  refine zb_si h dX5_ifExposed_3 (by decide) (by decide) ?_
  refine zcSi h hH (As := [.int (zI t), .int (zI 1), .int (zI 2000)]) (rest := [.ref (za G 9 0)]) (c_X5_in l G hG (zMo S (S 9 0) (S 9 1) (S 9 2) (S 9 3) (S 9 4) (S 9 5) (S 9 6)) t 1 2000 (by omega) (by omega) (by omega)) zce_X5_in zt_X5_in zm_X5_32 hl.1 rfl rfl ⟨rfl, rfl⟩ ⟨Nat.le_of_ble_eq_true rfl, Nat.le_of_ble_eq_true rfl⟩ (Nat.le_of_ble_eq_true rfl) ⟨Nat.zero_le _, Nat.zero_le _⟩ dX5_ifExposed_6 (fun r_6 S_6 H locs hq hH => ?_)
  obtain ⟨b_6, rfl, hb_6, rfl⟩ := hq
  (try rw [zM_1] at hb_6)
  refine zb_ieq (tgt := 25) h (by omega) dX5_ifExposed_9 (by decide) (fun c_9 => ?_) (fun c_9 => ?_)
  · refine zb_ic h dX5_ifExposed_25 ?_
    refine zcVi h hH (zr_5 h hH) (As := [.int (zI 1)]) (rest := []) (c_X5_holds l G hG (zMo S (S 9 0) (S 9 1) (S 9 2) (S 9 3) (S 9 4) (S 9 5) (S 9 6)) 1 (by omega)) zce_X5_holds zcv_X5_holds zm_X5_87 hl.1 rfl rfl ⟨rfl, rfl⟩ ⟨Nat.le_of_ble_eq_true rfl, Nat.le_of_ble_eq_true rfl⟩ (Nat.le_of_ble_eq_true rfl) ⟨Nat.zero_le _, Nat.zero_le _⟩ dX5_ifExposed_26 (fun r_26 S_26 H locs hq hH => ?_)
    obtain ⟨b_26, rfl, hb_26, rfl⟩ := hq
    (try rw [zM_1] at hb_26)
    simp only [zM_M, zM_0, zM_1, zM_2, zM_3, zM_4, zM_5, zM_6] at hH
    refine zb_ieq (tgt := 41) h (by omega) dX5_ifExposed_29 (by decide) (fun c_29 => ?_) (fun c_29 => ?_)
    · refine zb_ic h dX5_ifExposed_41 ?_
      refine zri h hr hH ?_ dX5_ifExposed_42
      exact Or.inl ⟨by omega, rfl⟩
    · exact absurd c_29 (by omega)
  · refine lv_iload_n hx hb dX5_ifExposed_12 rfl (lv_at hl 2 rfl) ?_
    refine zb_ic h dX5_ifExposed_13 ?_
    refine zb_ic h dX5_ifExposed_14 ?_
    refine zcSi h hH (As := [.int (zI w), .int (zI 0), .int (zI 1)]) (rest := [.ref (za G 9 0)]) (c_X5_in l G hG (zMo S (S 9 0) (S 9 1) (S 9 2) (S 9 3) (S 9 4) (S 9 5) (S 9 6)) w 0 1 (by omega) (by omega) (by omega)) zce_X5_in zt_X5_in zm_X5_32 hl.1 rfl rfl ⟨rfl, rfl⟩ ⟨Nat.le_of_ble_eq_true rfl, Nat.le_of_ble_eq_true rfl⟩ (Nat.le_of_ble_eq_true rfl) ⟨Nat.zero_le _, Nat.zero_le _⟩ dX5_ifExposed_15 (fun r_15 S_15 H locs hq hH => ?_)
    obtain ⟨b_15, rfl, hb_15, rfl⟩ := hq
    (try rw [zM_1] at hb_15)
    refine zb_ieq (tgt := 25) h (by omega) dX5_ifExposed_18 (by decide) (fun c_18 => ?_) (fun c_18 => ?_)
    · refine zb_ic h dX5_ifExposed_25 ?_
      refine zcVi h hH (zr_5 h hH) (As := [.int (zI 1)]) (rest := []) (c_X5_holds l G hG (zMo S (S 9 0) (S 9 1) (S 9 2) (S 9 3) (S 9 4) (S 9 5) (S 9 6)) 1 (by omega)) zce_X5_holds zcv_X5_holds zm_X5_87 hl.1 rfl rfl ⟨rfl, rfl⟩ ⟨Nat.le_of_ble_eq_true rfl, Nat.le_of_ble_eq_true rfl⟩ (Nat.le_of_ble_eq_true rfl) ⟨Nat.zero_le _, Nat.zero_le _⟩ dX5_ifExposed_26 (fun r_26 S_26 H locs hq hH => ?_)
      obtain ⟨b_26, rfl, hb_26, rfl⟩ := hq
      (try rw [zM_1] at hb_26)
      simp only [zM_M, zM_0, zM_1, zM_2, zM_3, zM_4, zM_5, zM_6] at hH
      refine zb_ieq (tgt := 41) h (by omega) dX5_ifExposed_29 (by decide) (fun c_29 => ?_) (fun c_29 => ?_)
      · refine zb_ic h dX5_ifExposed_41 ?_
        refine zri h hr hH ?_ dX5_ifExposed_42
        exact Or.inl ⟨by omega, rfl⟩
      · exact absurd c_29 (by omega)
    · refine zb_ic h dX5_ifExposed_21 ?_
      refine lv_goto (tgt := 26) hx hb dX5_ifExposed_22 (by decide) ?_
      refine zcVi h hH (zr_5 h hH) (As := [.int (zI 0)]) (rest := []) (c_X5_holds l G hG (zMo S (S 9 0) (S 9 1) (S 9 2) (S 9 3) (S 9 4) (S 9 5) (S 9 6)) 0 (by omega)) zce_X5_holds zcv_X5_holds zm_X5_87 hl.1 rfl rfl ⟨rfl, rfl⟩ ⟨Nat.le_of_ble_eq_true rfl, Nat.le_of_ble_eq_true rfl⟩ (Nat.le_of_ble_eq_true rfl) ⟨Nat.zero_le _, Nat.zero_le _⟩ dX5_ifExposed_26 (fun r_26 S_26 H locs hq hH => ?_)
      obtain ⟨b_26, rfl, hb_26, rfl⟩ := hq
      (try rw [zM_1] at hb_26)
      simp only [zM_M, zM_0, zM_1, zM_2, zM_3, zM_4, zM_5, zM_6] at hH
      refine zb_ieq (tgt := 41) h (by omega) dX5_ifExposed_29 (by decide) (fun c_29 => ?_) (fun c_29 => ?_)
      · exact absurd c_29 (by omega)
      · refine lv_aload_n hx hb dX5_ifExposed_32 rfl (lv_at hl 0 rfl) ?_
        refine lv_iload_n hx hb dX5_ifExposed_33 rfl (lv_at hl 1 rfl) ?_
        refine lv_iload_n hx hb dX5_ifExposed_34 rfl (lv_at hl 2 rfl) ?_
        refine zcVi h hH (zr_5 h hH) (As := [.int (zI t), .int (zI w)]) (rest := []) (c_X5_exposed l G hG (zMo S (zup (S 9 0) 0 0) (S 9 1) (S 9 2) (S 9 3) (S 9 4) (S 9 5) (S 9 6)) t w (by omega) (by omega) (zM_hw hw)) zce_X5_exposed zcv_X5_exposed zm_X5_188 hl.1 rfl rfl ⟨rfl, rfl⟩ ⟨Nat.le_of_ble_eq_true rfl, Nat.le_of_ble_eq_true rfl⟩ (Nat.le_of_ble_eq_true rfl) ⟨Nat.zero_le _, Nat.zero_le _⟩ dX5_ifExposed_35 (fun r_35 S_35 H locs hq hH => ?_)
        obtain ⟨rfl, M_35, rfl⟩ := hq
        simp only [zM_M, zM_0, zM_1, zM_2, zM_3, zM_4, zM_5, zM_6] at hH
        rw [zM_1]
        refine lv_goto (tgt := 42) hx hb dX5_ifExposed_38 (by decide) ?_
        refine zri h hr hH ?_ dX5_ifExposed_42
        exact Or.inr (⟨by omega, rfl, _, rfl⟩)
theorem dX5_ifBurned_0 : decode cX5_ifBurned 0 = .ok (.aload_n 0, 1) := by decide +kernel
theorem dX5_ifBurned_1 : decode cX5_ifBurned 1 = .ok (.iload_n 1, 1) := by decide +kernel
theorem dX5_ifBurned_2 : decode cX5_ifBurned 2 = .ok (.invokevirtual 96, 3) := by decide +kernel
theorem dX5_ifBurned_5 : decode cX5_ifBurned 5 = .ok (.ifCond .ne 7, 3) := by decide +kernel
theorem dX5_ifBurned_8 : decode cX5_ifBurned 8 = .ok (.iconst 1, 1) := by decide +kernel
theorem dX5_ifBurned_9 : decode cX5_ifBurned 9 = .ok (.goto 28, 3) := by decide +kernel
theorem dX5_ifBurned_12 : decode cX5_ifBurned 12 = .ok (.iload_n 2, 1) := by decide +kernel
theorem dX5_ifBurned_13 : decode cX5_ifBurned 13 = .ok (.iconst 0, 1) := by decide +kernel
theorem dX5_ifBurned_14 : decode cX5_ifBurned 14 = .ok (.sipush 999, 3) := by decide +kernel
theorem dX5_ifBurned_17 : decode cX5_ifBurned 17 = .ok (.invokestatic 32, 3) := by decide +kernel
theorem dX5_ifBurned_20 : decode cX5_ifBurned 20 = .ok (.ifCond .eq 12, 3) := by decide +kernel
theorem dX5_ifBurned_23 : decode cX5_ifBurned 23 = .ok (.iload_n 3, 1) := by decide +kernel
theorem dX5_ifBurned_24 : decode cX5_ifBurned 24 = .ok (.iconst 0, 1) := by decide +kernel
theorem dX5_ifBurned_25 : decode cX5_ifBurned 25 = .ok (.iconst 1, 1) := by decide +kernel
theorem dX5_ifBurned_26 : decode cX5_ifBurned 26 = .ok (.invokestatic 32, 3) := by decide +kernel
theorem dX5_ifBurned_29 : decode cX5_ifBurned 29 = .ok (.ifCond .ne 7, 3) := by decide +kernel
theorem dX5_ifBurned_32 : decode cX5_ifBurned 32 = .ok (.iconst 2, 1) := by decide +kernel
theorem dX5_ifBurned_33 : decode cX5_ifBurned 33 = .ok (.goto 4, 3) := by decide +kernel
theorem dX5_ifBurned_36 : decode cX5_ifBurned 36 = .ok (.iconst 0, 1) := by decide +kernel
theorem dX5_ifBurned_37 : decode cX5_ifBurned 37 = .ok (.istore 4, 2) := by decide +kernel
theorem dX5_ifBurned_39 : decode cX5_ifBurned 39 = .ok (.aload_n 0, 1) := by decide +kernel
theorem dX5_ifBurned_40 : decode cX5_ifBurned 40 = .ok (.iload 4, 2) := by decide +kernel
theorem dX5_ifBurned_42 : decode cX5_ifBurned 42 = .ok (.invokevirtual 87, 3) := by decide +kernel
theorem dX5_ifBurned_45 : decode cX5_ifBurned 45 = .ok (.ifCond .eq 13, 3) := by decide +kernel
theorem dX5_ifBurned_48 : decode cX5_ifBurned 48 = .ok (.aload_n 0, 1) := by decide +kernel
theorem dX5_ifBurned_49 : decode cX5_ifBurned 49 = .ok (.iload_n 1, 1) := by decide +kernel
theorem dX5_ifBurned_50 : decode cX5_ifBurned 50 = .ok (.iload_n 2, 1) := by decide +kernel
theorem dX5_ifBurned_51 : decode cX5_ifBurned 51 = .ok (.iload_n 3, 1) := by decide +kernel
theorem dX5_ifBurned_52 : decode cX5_ifBurned 52 = .ok (.invokevirtual 203, 3) := by decide +kernel
theorem dX5_ifBurned_55 : decode cX5_ifBurned 55 = .ok (.goto 4, 3) := by decide +kernel
theorem dX5_ifBurned_58 : decode cX5_ifBurned 58 = .ok (.iconst 0, 1) := by decide +kernel
theorem dX5_ifBurned_59 : decode cX5_ifBurned 59 = .ok (.ireturn, 1) := by decide +kernel
def q_X5_ifBurned (S : zM) (z : Int) (t : Int) (w : Int) : Int32 → zM → Prop := fun r S1 => ((¬ (0 ≤ z ∧ z < S 9 1 4)) ∧ zMo S (zup (S 9 0) 0 1) (S 9 1) (S 9 2) (S 9 3) (S 9 4) (S 9 5) (S 9 6) = S1) ∨ (((0 ≤ z ∧ z < S 9 1 4) ∧ ¬ ((0 ≤ t ∧ t ≤ 999) ∧ (0 ≤ w ∧ w ≤ 1))) ∧ zMo S (zup (S 9 0) 0 2) (S 9 1) (S 9 2) (S 9 3) (S 9 4) (S 9 5) (S 9 6) = S1) ∨ (((0 ≤ z ∧ z < S 9 1 4) ∧ ((0 ≤ t ∧ t ≤ 999) ∧ (0 ≤ w ∧ w ≤ 1))) ∧ r = zI (tBu (S 9 1) z t w) ∧ ∃ M', zMo S (zup (S 9 0) 0 0) (S 9 1) (S 9 2) (S 9 3) (S 9 4) M' (S 9 6) = S1)
def r_X5_ifBurned : Room := { frames := 7, cells := 0, slots := 0, locals := 158 }
set_option maxHeartbeats 4000000 in
set_option maxRecDepth 100000 in
theorem c_X5_ifBurned (l : Launch) (G : zG) (hG : zok G) (S : zM) (z : Int) (hz_ : -2147483648 ≤ z ∧ z ≤ 2147483647) (t : Int) (ht_ : -2147483648 ≤ t ∧ t ≤ 2147483647) (w : Int) (hw_ : -2147483648 ≤ w ∧ w ≤ 2147483647) (hw : zW (S 9 1)) : Met l yX5_ifBurned (Cond.code yX5_ifBurned cX5_ifBurned 5 (some FieldType.int) :: zTbl) r_X5_ifBurned (va_Pc [.ref (za G 9 0), .int (zI z), .int (zI t), .int (zI w)] (zB G S)) (va_Qi (q_X5_ifBurned S z t w) (zB G) (zA G)) 0 0 (zA G) := by
  refine zMet [(0, .ref (za G 9 0)), (1, .int (zI z)), (2, .int (zI t)), (3, .int (zI w))] hG (by decide) (Nat.le_of_ble_eq_true rfl) rfl (fun p e s m args below meth c ls h hx hb hr hH hl => ?_)
  rw [← zM_id S] at hH
  refine lv_aload_n hx hb dX5_ifBurned_0 rfl (lv_at hl 0 rfl) ?_
  refine lv_iload_n hx hb dX5_ifBurned_1 rfl (lv_at hl 1 rfl) ?_
  refine zcVi h hH (zr_5 h hH) (As := [.int (zI z)]) (rest := []) (c_X5_isZone l G hG (zMo S (S 9 0) (S 9 1) (S 9 2) (S 9 3) (S 9 4) (S 9 5) (S 9 6)) z (by omega) (zM_hw hw)) zce_X5_isZone zcv_X5_isZone zm_X5_96 hl.1 rfl rfl ⟨rfl, rfl⟩ ⟨Nat.le_of_ble_eq_true rfl, Nat.le_of_ble_eq_true rfl⟩ (Nat.le_of_ble_eq_true rfl) ⟨Nat.zero_le _, Nat.zero_le _⟩ dX5_ifBurned_2 (fun r_2 S_2 H locs hq hH => ?_)
  obtain ⟨b_2, rfl, hb_2, rfl⟩ := hq
  (try rw [zM_1] at hb_2)
  refine zb_ine (tgt := 12) h (by omega) dX5_ifBurned_5 (by decide) (fun c_5 => ?_) (fun c_5 => ?_)
  · refine lv_iload_n hx hb dX5_ifBurned_12 rfl (lv_at hl 2 rfl) ?_
    refine zb_ic h dX5_ifBurned_13 ?_
    refine zb_si h dX5_ifBurned_14 (by decide) (by decide) ?_
    refine zcSi h hH (As := [.int (zI t), .int (zI 0), .int (zI 999)]) (rest := []) (c_X5_in l G hG (zMo S (S 9 0) (S 9 1) (S 9 2) (S 9 3) (S 9 4) (S 9 5) (S 9 6)) t 0 999 (by omega) (by omega) (by omega)) zce_X5_in zt_X5_in zm_X5_32 hl.1 rfl rfl ⟨rfl, rfl⟩ ⟨Nat.le_of_ble_eq_true rfl, Nat.le_of_ble_eq_true rfl⟩ (Nat.le_of_ble_eq_true rfl) ⟨Nat.zero_le _, Nat.zero_le _⟩ dX5_ifBurned_17 (fun r_17 S_17 H locs hq hH => ?_)
    obtain ⟨b_17, rfl, hb_17, rfl⟩ := hq
    (try rw [zM_1] at hb_17)
    refine zb_ieq (tgt := 32) h (by omega) dX5_ifBurned_20 (by decide) (fun c_20 => ?_) (fun c_20 => ?_)
    · refine zb_ic h dX5_ifBurned_32 ?_
      refine lv_goto (tgt := 37) hx hb dX5_ifBurned_33 (by decide) ?_
      refine lv_istore (lv' := [(4, .int (zI 2)), (0, .ref (za G 9 0)), (1, .int (zI z)), (2, .int (zI t)), (3, .int (zI w))]) hx hb dX5_ifBurned_37 hl (by decide) rfl (fun ls hl => ?_)
      refine lv_aload_n hx hb dX5_ifBurned_39 rfl (lv_at hl 1 rfl) ?_
      refine lv_iload hx hb dX5_ifBurned_40 (lv_at hl 0 rfl) ?_
      refine zcVi h hH (zr_5 h hH) (As := [.int (zI 2)]) (rest := []) (c_X5_holds l G hG (zMo S (S 9 0) (S 9 1) (S 9 2) (S 9 3) (S 9 4) (S 9 5) (S 9 6)) 2 (by omega)) zce_X5_holds zcv_X5_holds zm_X5_87 hl.1 rfl rfl ⟨rfl, rfl⟩ ⟨Nat.le_of_ble_eq_true rfl, Nat.le_of_ble_eq_true rfl⟩ (Nat.le_of_ble_eq_true rfl) ⟨Nat.zero_le _, Nat.zero_le _⟩ dX5_ifBurned_42 (fun r_42 S_42 H locs hq hH => ?_)
      obtain ⟨b_42, rfl, hb_42, rfl⟩ := hq
      (try rw [zM_1] at hb_42)
      simp only [zM_M, zM_0, zM_1, zM_2, zM_3, zM_4, zM_5, zM_6] at hH
      refine zb_ieq (tgt := 58) h (by omega) dX5_ifBurned_45 (by decide) (fun c_45 => ?_) (fun c_45 => ?_)
      · refine zb_ic h dX5_ifBurned_58 ?_
        refine zri h hr hH ?_ dX5_ifBurned_59
        exact Or.inr (Or.inl ⟨by omega, rfl⟩)
      · exact absurd c_45 (by omega)
    · refine lv_iload_n hx hb dX5_ifBurned_23 rfl (lv_at hl 3 rfl) ?_
      refine zb_ic h dX5_ifBurned_24 ?_
      refine zb_ic h dX5_ifBurned_25 ?_
      refine zcSi h hH (As := [.int (zI w), .int (zI 0), .int (zI 1)]) (rest := []) (c_X5_in l G hG (zMo S (S 9 0) (S 9 1) (S 9 2) (S 9 3) (S 9 4) (S 9 5) (S 9 6)) w 0 1 (by omega) (by omega) (by omega)) zce_X5_in zt_X5_in zm_X5_32 hl.1 rfl rfl ⟨rfl, rfl⟩ ⟨Nat.le_of_ble_eq_true rfl, Nat.le_of_ble_eq_true rfl⟩ (Nat.le_of_ble_eq_true rfl) ⟨Nat.zero_le _, Nat.zero_le _⟩ dX5_ifBurned_26 (fun r_26 S_26 H locs hq hH => ?_)
      obtain ⟨b_26, rfl, hb_26, rfl⟩ := hq
      (try rw [zM_1] at hb_26)
      refine zb_ine (tgt := 36) h (by omega) dX5_ifBurned_29 (by decide) (fun c_29 => ?_) (fun c_29 => ?_)
      · refine zb_ic h dX5_ifBurned_36 ?_
        refine lv_istore (lv' := [(4, .int (zI 0)), (0, .ref (za G 9 0)), (1, .int (zI z)), (2, .int (zI t)), (3, .int (zI w))]) hx hb dX5_ifBurned_37 hl (by decide) rfl (fun ls hl => ?_)
        refine lv_aload_n hx hb dX5_ifBurned_39 rfl (lv_at hl 1 rfl) ?_
        refine lv_iload hx hb dX5_ifBurned_40 (lv_at hl 0 rfl) ?_
        refine zcVi h hH (zr_5 h hH) (As := [.int (zI 0)]) (rest := []) (c_X5_holds l G hG (zMo S (S 9 0) (S 9 1) (S 9 2) (S 9 3) (S 9 4) (S 9 5) (S 9 6)) 0 (by omega)) zce_X5_holds zcv_X5_holds zm_X5_87 hl.1 rfl rfl ⟨rfl, rfl⟩ ⟨Nat.le_of_ble_eq_true rfl, Nat.le_of_ble_eq_true rfl⟩ (Nat.le_of_ble_eq_true rfl) ⟨Nat.zero_le _, Nat.zero_le _⟩ dX5_ifBurned_42 (fun r_42 S_42 H locs hq hH => ?_)
        obtain ⟨b_42, rfl, hb_42, rfl⟩ := hq
        (try rw [zM_1] at hb_42)
        simp only [zM_M, zM_0, zM_1, zM_2, zM_3, zM_4, zM_5, zM_6] at hH
        refine zb_ieq (tgt := 58) h (by omega) dX5_ifBurned_45 (by decide) (fun c_45 => ?_) (fun c_45 => ?_)
        · exact absurd c_45 (by omega)
        · have f4 := zW_4 hw
          refine lv_aload_n hx hb dX5_ifBurned_48 rfl (lv_at hl 1 rfl) ?_
          refine lv_iload_n hx hb dX5_ifBurned_49 rfl (lv_at hl 2 rfl) ?_
          refine lv_iload_n hx hb dX5_ifBurned_50 rfl (lv_at hl 3 rfl) ?_
          refine lv_iload_n hx hb dX5_ifBurned_51 rfl (lv_at hl 4 rfl) ?_
          refine zcVi h hH (zr_5 h hH) (As := [.int (zI z), .int (zI t), .int (zI w)]) (rest := []) (c_X5_burned l G hG (zMo S (zup (S 9 0) 0 0) (S 9 1) (S 9 2) (S 9 3) (S 9 4) (S 9 5) (S 9 6)) z t w (by omega) (by omega) (by omega) (zM_hw hw)) zce_X5_burned zcv_X5_burned zm_X5_203 hl.1 rfl rfl ⟨rfl, rfl⟩ ⟨Nat.le_of_ble_eq_true rfl, Nat.le_of_ble_eq_true rfl⟩ (Nat.le_of_ble_eq_true rfl) ⟨Nat.zero_le _, Nat.zero_le _⟩ dX5_ifBurned_52 (fun r_52 S_52 H locs hq hH => ?_)
          obtain ⟨rfl, M_52, rfl⟩ := hq
          simp only [zM_M, zM_0, zM_1, zM_2, zM_3, zM_4, zM_5, zM_6] at hH
          rw [zM_1]
          refine lv_goto (tgt := 59) hx hb dX5_ifBurned_55 (by decide) ?_
          refine zri h hr hH ?_ dX5_ifBurned_59
          exact Or.inr (Or.inr (⟨by omega, rfl, _, rfl⟩))
      · refine zb_ic h dX5_ifBurned_32 ?_
        refine lv_goto (tgt := 37) hx hb dX5_ifBurned_33 (by decide) ?_
        refine lv_istore (lv' := [(4, .int (zI 2)), (0, .ref (za G 9 0)), (1, .int (zI z)), (2, .int (zI t)), (3, .int (zI w))]) hx hb dX5_ifBurned_37 hl (by decide) rfl (fun ls hl => ?_)
        refine lv_aload_n hx hb dX5_ifBurned_39 rfl (lv_at hl 1 rfl) ?_
        refine lv_iload hx hb dX5_ifBurned_40 (lv_at hl 0 rfl) ?_
        refine zcVi h hH (zr_5 h hH) (As := [.int (zI 2)]) (rest := []) (c_X5_holds l G hG (zMo S (S 9 0) (S 9 1) (S 9 2) (S 9 3) (S 9 4) (S 9 5) (S 9 6)) 2 (by omega)) zce_X5_holds zcv_X5_holds zm_X5_87 hl.1 rfl rfl ⟨rfl, rfl⟩ ⟨Nat.le_of_ble_eq_true rfl, Nat.le_of_ble_eq_true rfl⟩ (Nat.le_of_ble_eq_true rfl) ⟨Nat.zero_le _, Nat.zero_le _⟩ dX5_ifBurned_42 (fun r_42 S_42 H locs hq hH => ?_)
        obtain ⟨b_42, rfl, hb_42, rfl⟩ := hq
        (try rw [zM_1] at hb_42)
        simp only [zM_M, zM_0, zM_1, zM_2, zM_3, zM_4, zM_5, zM_6] at hH
        refine zb_ieq (tgt := 58) h (by omega) dX5_ifBurned_45 (by decide) (fun c_45 => ?_) (fun c_45 => ?_)
        · refine zb_ic h dX5_ifBurned_58 ?_
          refine zri h hr hH ?_ dX5_ifBurned_59
          exact Or.inr (Or.inl ⟨by omega, rfl⟩)
        · exact absurd c_45 (by omega)
  · refine zb_ic h dX5_ifBurned_8 ?_
    refine lv_goto (tgt := 37) hx hb dX5_ifBurned_9 (by decide) ?_
    refine lv_istore (lv' := [(4, .int (zI 1)), (0, .ref (za G 9 0)), (1, .int (zI z)), (2, .int (zI t)), (3, .int (zI w))]) hx hb dX5_ifBurned_37 hl (by decide) rfl (fun ls hl => ?_)
    refine lv_aload_n hx hb dX5_ifBurned_39 rfl (lv_at hl 1 rfl) ?_
    refine lv_iload hx hb dX5_ifBurned_40 (lv_at hl 0 rfl) ?_
    refine zcVi h hH (zr_5 h hH) (As := [.int (zI 1)]) (rest := []) (c_X5_holds l G hG (zMo S (S 9 0) (S 9 1) (S 9 2) (S 9 3) (S 9 4) (S 9 5) (S 9 6)) 1 (by omega)) zce_X5_holds zcv_X5_holds zm_X5_87 hl.1 rfl rfl ⟨rfl, rfl⟩ ⟨Nat.le_of_ble_eq_true rfl, Nat.le_of_ble_eq_true rfl⟩ (Nat.le_of_ble_eq_true rfl) ⟨Nat.zero_le _, Nat.zero_le _⟩ dX5_ifBurned_42 (fun r_42 S_42 H locs hq hH => ?_)
    obtain ⟨b_42, rfl, hb_42, rfl⟩ := hq
    (try rw [zM_1] at hb_42)
    simp only [zM_M, zM_0, zM_1, zM_2, zM_3, zM_4, zM_5, zM_6] at hH
    refine zb_ieq (tgt := 58) h (by omega) dX5_ifBurned_45 (by decide) (fun c_45 => ?_) (fun c_45 => ?_)
    · refine zb_ic h dX5_ifBurned_58 ?_
      refine zri h hr hH ?_ dX5_ifBurned_59
      exact Or.inl ⟨by omega, rfl⟩
    · exact absurd c_45 (by omega)
theorem dX5_common_0 : decode cX5_common 0 = .ok (.aload_n 0, 1) := by decide +kernel
theorem dX5_common_1 : decode cX5_common 1 = .ok (.iload_n 1, 1) := by decide +kernel
theorem dX5_common_2 : decode cX5_common 2 = .ok (.iconst 0, 1) := by decide +kernel
theorem dX5_common_3 : decode cX5_common 3 = .ok (.iconst 1, 1) := by decide +kernel
theorem dX5_common_4 : decode cX5_common 4 = .ok (.invokestatic 32, 3) := by decide +kernel
theorem dX5_common_7 : decode cX5_common 7 = .ok (.ifCond .eq 7, 3) := by decide +kernel
theorem dX5_common_10 : decode cX5_common 10 = .ok (.iconst 0, 1) := by decide +kernel
theorem dX5_common_11 : decode cX5_common 11 = .ok (.goto 4, 3) := by decide +kernel
theorem dX5_common_14 : decode cX5_common 14 = .ok (.iconst 1, 1) := by decide +kernel
theorem dX5_common_15 : decode cX5_common 15 = .ok (.invokevirtual 87, 3) := by decide +kernel
theorem dX5_common_18 : decode cX5_common 18 = .ok (.ifCond .eq 11, 3) := by decide +kernel
theorem dX5_common_21 : decode cX5_common 21 = .ok (.aload_n 0, 1) := by decide +kernel
theorem dX5_common_22 : decode cX5_common 22 = .ok (.iload_n 1, 1) := by decide +kernel
theorem dX5_common_23 : decode cX5_common 23 = .ok (.invokevirtual 206, 3) := by decide +kernel
theorem dX5_common_26 : decode cX5_common 26 = .ok (.goto 4, 3) := by decide +kernel
theorem dX5_common_29 : decode cX5_common 29 = .ok (.iconst 0, 1) := by decide +kernel
theorem dX5_common_30 : decode cX5_common 30 = .ok (.ireturn, 1) := by decide +kernel
def q_X5_common (S : zM) (what : Int) : Int32 → zM → Prop := fun r S1 => ((¬ (0 ≤ what ∧ what ≤ 1)) ∧ zMo S (zup (S 9 0) 0 1) (S 9 1) (S 9 2) (S 9 3) (S 9 4) (S 9 5) (S 9 6) = S1) ∨ ((0 ≤ what ∧ what ≤ 1) ∧ r = zI (tCo (S 9 1) what) ∧ ∃ M', zMo S (zup (S 9 0) 0 0) (S 9 1) (S 9 2) (S 9 3) (S 9 4) M' (S 9 6) = S1)
def r_X5_common : Room := { frames := 7, cells := 0, slots := 0, locals := 163 }
set_option maxHeartbeats 4000000 in
set_option maxRecDepth 100000 in
theorem c_X5_common (l : Launch) (G : zG) (hG : zok G) (S : zM) (what : Int) (hwhat_ : -2147483648 ≤ what ∧ what ≤ 2147483647) (hw : zW (S 9 1)) : Met l yX5_common (Cond.code yX5_common cX5_common 2 (some FieldType.int) :: zTbl) r_X5_common (va_Pc [.ref (za G 9 0), .int (zI what)] (zB G S)) (va_Qi (q_X5_common S what) (zB G) (zA G)) 0 0 (zA G) := by
  refine zMet [(0, .ref (za G 9 0)), (1, .int (zI what))] hG (by decide) (Nat.le_of_ble_eq_true rfl) rfl (fun p e s m args below meth c ls h hx hb hr hH hl => ?_)
  rw [← zM_id S] at hH
  refine lv_aload_n hx hb dX5_common_0 rfl (lv_at hl 0 rfl) ?_
  refine lv_iload_n hx hb dX5_common_1 rfl (lv_at hl 1 rfl) ?_
  refine zb_ic h dX5_common_2 ?_
  refine zb_ic h dX5_common_3 ?_
  refine zcSi h hH (As := [.int (zI what), .int (zI 0), .int (zI 1)]) (rest := [.ref (za G 9 0)]) (c_X5_in l G hG (zMo S (S 9 0) (S 9 1) (S 9 2) (S 9 3) (S 9 4) (S 9 5) (S 9 6)) what 0 1 (by omega) (by omega) (by omega)) zce_X5_in zt_X5_in zm_X5_32 hl.1 rfl rfl ⟨rfl, rfl⟩ ⟨Nat.le_of_ble_eq_true rfl, Nat.le_of_ble_eq_true rfl⟩ (Nat.le_of_ble_eq_true rfl) ⟨Nat.zero_le _, Nat.zero_le _⟩ dX5_common_4 (fun r_4 S_4 H locs hq hH => ?_)
  obtain ⟨b_4, rfl, hb_4, rfl⟩ := hq
  (try rw [zM_1] at hb_4)
  refine zb_ieq (tgt := 14) h (by omega) dX5_common_7 (by decide) (fun c_7 => ?_) (fun c_7 => ?_)
  · refine zb_ic h dX5_common_14 ?_
    refine zcVi h hH (zr_5 h hH) (As := [.int (zI 1)]) (rest := []) (c_X5_holds l G hG (zMo S (S 9 0) (S 9 1) (S 9 2) (S 9 3) (S 9 4) (S 9 5) (S 9 6)) 1 (by omega)) zce_X5_holds zcv_X5_holds zm_X5_87 hl.1 rfl rfl ⟨rfl, rfl⟩ ⟨Nat.le_of_ble_eq_true rfl, Nat.le_of_ble_eq_true rfl⟩ (Nat.le_of_ble_eq_true rfl) ⟨Nat.zero_le _, Nat.zero_le _⟩ dX5_common_15 (fun r_15 S_15 H locs hq hH => ?_)
    obtain ⟨b_15, rfl, hb_15, rfl⟩ := hq
    (try rw [zM_1] at hb_15)
    simp only [zM_M, zM_0, zM_1, zM_2, zM_3, zM_4, zM_5, zM_6] at hH
    refine zb_ieq (tgt := 29) h (by omega) dX5_common_18 (by decide) (fun c_18 => ?_) (fun c_18 => ?_)
    · refine zb_ic h dX5_common_29 ?_
      refine zri h hr hH ?_ dX5_common_30
      exact Or.inl ⟨by omega, rfl⟩
    · exact absurd c_18 (by omega)
  · refine zb_ic h dX5_common_10 ?_
    refine lv_goto (tgt := 15) hx hb dX5_common_11 (by decide) ?_
    refine zcVi h hH (zr_5 h hH) (As := [.int (zI 0)]) (rest := []) (c_X5_holds l G hG (zMo S (S 9 0) (S 9 1) (S 9 2) (S 9 3) (S 9 4) (S 9 5) (S 9 6)) 0 (by omega)) zce_X5_holds zcv_X5_holds zm_X5_87 hl.1 rfl rfl ⟨rfl, rfl⟩ ⟨Nat.le_of_ble_eq_true rfl, Nat.le_of_ble_eq_true rfl⟩ (Nat.le_of_ble_eq_true rfl) ⟨Nat.zero_le _, Nat.zero_le _⟩ dX5_common_15 (fun r_15 S_15 H locs hq hH => ?_)
    obtain ⟨b_15, rfl, hb_15, rfl⟩ := hq
    (try rw [zM_1] at hb_15)
    simp only [zM_M, zM_0, zM_1, zM_2, zM_3, zM_4, zM_5, zM_6] at hH
    refine zb_ieq (tgt := 29) h (by omega) dX5_common_18 (by decide) (fun c_18 => ?_) (fun c_18 => ?_)
    · exact absurd c_18 (by omega)
    · refine lv_aload_n hx hb dX5_common_21 rfl (lv_at hl 0 rfl) ?_
      refine lv_iload_n hx hb dX5_common_22 rfl (lv_at hl 1 rfl) ?_
      refine zcVi h hH (zr_5 h hH) (As := [.int (zI what)]) (rest := []) (c_X5_together l G hG (zMo S (zup (S 9 0) 0 0) (S 9 1) (S 9 2) (S 9 3) (S 9 4) (S 9 5) (S 9 6)) what (by omega) (zM_hw hw)) zce_X5_together zcv_X5_together zm_X5_206 hl.1 rfl rfl ⟨rfl, rfl⟩ ⟨Nat.le_of_ble_eq_true rfl, Nat.le_of_ble_eq_true rfl⟩ (Nat.le_of_ble_eq_true rfl) ⟨Nat.zero_le _, Nat.zero_le _⟩ dX5_common_23 (fun r_23 S_23 H locs hq hH => ?_)
      obtain ⟨rfl, M_23, rfl⟩ := hq
      simp only [zM_M, zM_0, zM_1, zM_2, zM_3, zM_4, zM_5, zM_6] at hH
      rw [zM_1]
      refine lv_goto (tgt := 30) hx hb dX5_common_26 (by decide) ?_
      refine zri h hr hH ?_ dX5_common_30
      exact Or.inr (⟨by omega, rfl, _, rfl⟩)
theorem dX5_bestTime_0 : decode cX5_bestTime 0 = .ok (.aload_n 0, 1) := by decide +kernel
theorem dX5_bestTime_1 : decode cX5_bestTime 1 = .ok (.iconst 0, 1) := by decide +kernel
theorem dX5_bestTime_2 : decode cX5_bestTime 2 = .ok (.putfield 28, 3) := by decide +kernel
theorem dX5_bestTime_5 : decode cX5_bestTime 5 = .ok (.aload_n 0, 1) := by decide +kernel
theorem dX5_bestTime_6 : decode cX5_bestTime 6 = .ok (.invokevirtual 191, 3) := by decide +kernel
theorem dX5_bestTime_9 : decode cX5_bestTime 9 = .ok (.ireturn, 1) := by decide +kernel
def q_X5_bestTime (S : zM) : Int32 → zM → Prop := fun r S1 => r = zI (tBt (S 9 1)) ∧ ∃ M', zMo S (zup (S 9 0) 0 0) (S 9 1) (S 9 2) (S 9 3) (S 9 4) M' (S 9 6) = S1
def r_X5_bestTime : Room := { frames := 8, cells := 0, slots := 0, locals := 181 }
set_option maxHeartbeats 4000000 in
set_option maxRecDepth 100000 in
theorem c_X5_bestTime (l : Launch) (G : zG) (hG : zok G) (S : zM) (hw : zW (S 9 1)) : Met l yX5_bestTime (Cond.code yX5_bestTime cX5_bestTime 1 (some FieldType.int) :: zTbl) r_X5_bestTime (va_Pc [.ref (za G 9 0)] (zB G S)) (va_Qi (q_X5_bestTime S) (zB G) (zA G)) 0 0 (zA G) := by
  refine zMet [(0, .ref (za G 9 0))] hG (by decide) (Nat.le_of_ble_eq_true rfl) rfl (fun p e s m args below meth c ls h hx hb hr hH hl => ?_)
  rw [← zM_id S] at hH
  refine lv_aload_n hx hb dX5_bestTime_0 rfl (lv_at hl 0 rfl) ?_
  refine zb_ic h dX5_bestTime_1 ?_
  refine zu_5_0 h hH zf_X5_28 dX5_bestTime_2 (fun H locs hH => ?_)
  rw [zs_M0] at hH
  refine lv_aload_n hx hb dX5_bestTime_5 rfl (lv_at hl 0 rfl) ?_
  refine zcVi h hH (zr_5 h hH) (As := []) (rest := []) (c_X5_best l G hG (zMo S (zup (S 9 0) 0 0) (S 9 1) (S 9 2) (S 9 3) (S 9 4) (S 9 5) (S 9 6)) (zM_hw hw)) zce_X5_best zcv_X5_best zm_X5_191 hl.1 rfl rfl ⟨rfl, rfl⟩ ⟨Nat.le_of_ble_eq_true rfl, Nat.le_of_ble_eq_true rfl⟩ (Nat.le_of_ble_eq_true rfl) ⟨Nat.zero_le _, Nat.zero_le _⟩ dX5_bestTime_6 (fun r_6 S_6 H locs hq hH => ?_)
  obtain ⟨rfl, M_6, rfl⟩ := hq
  simp only [zM_M, zM_0, zM_1, zM_2, zM_3, zM_4, zM_5, zM_6] at hH
  rw [zM_1]
  refine zri h hr hH ?_ dX5_bestTime_9
  exact ⟨rfl, _, rfl⟩
theorem dX5_link_0 : decode cX5_link 0 = .ok (.aload_n 0, 1) := by decide +kernel
theorem dX5_link_1 : decode cX5_link 1 = .ok (.aload_n 0, 1) := by decide +kernel
theorem dX5_link_2 : decode cX5_link 2 = .ok (.iload_n 1, 1) := by decide +kernel
theorem dX5_link_3 : decode cX5_link 3 = .ok (.invokevirtual 96, 3) := by decide +kernel
theorem dX5_link_6 : decode cX5_link 6 = .ok (.ifCond .eq 11, 3) := by decide +kernel
theorem dX5_link_9 : decode cX5_link 9 = .ok (.aload_n 0, 1) := by decide +kernel
theorem dX5_link_10 : decode cX5_link 10 = .ok (.iload_n 2, 1) := by decide +kernel
theorem dX5_link_11 : decode cX5_link 11 = .ok (.invokevirtual 96, 3) := by decide +kernel
theorem dX5_link_14 : decode cX5_link 14 = .ok (.ifCond .ne 7, 3) := by decide +kernel
theorem dX5_link_17 : decode cX5_link 17 = .ok (.iconst 1, 1) := by decide +kernel
theorem dX5_link_18 : decode cX5_link 18 = .ok (.goto 13, 3) := by decide +kernel
theorem dX5_link_21 : decode cX5_link 21 = .ok (.iload_n 1, 1) := by decide +kernel
theorem dX5_link_22 : decode cX5_link 22 = .ok (.iload_n 2, 1) := by decide +kernel
theorem dX5_link_23 : decode cX5_link 23 = .ok (.if_icmp .ne 7, 3) := by decide +kernel
theorem dX5_link_26 : decode cX5_link 26 = .ok (.iconst 2, 1) := by decide +kernel
theorem dX5_link_27 : decode cX5_link 27 = .ok (.goto 4, 3) := by decide +kernel
theorem dX5_link_30 : decode cX5_link 30 = .ok (.iconst 0, 1) := by decide +kernel
theorem dX5_link_31 : decode cX5_link 31 = .ok (.invokevirtual 87, 3) := by decide +kernel
theorem dX5_link_34 : decode cX5_link 34 = .ok (.ifCond .ne 5, 3) := by decide +kernel
theorem dX5_link_37 : decode cX5_link 37 = .ok (.iconst 0, 1) := by decide +kernel
theorem dX5_link_38 : decode cX5_link 38 = .ok (.ireturn, 1) := by decide +kernel
theorem dX5_link_39 : decode cX5_link 39 = .ok (.aload_n 0, 1) := by decide +kernel
theorem dX5_link_40 : decode cX5_link 40 = .ok (.invokevirtual 90, 3) := by decide +kernel
theorem dX5_link_43 : decode cX5_link 43 = .ok (.aload_n 0, 1) := by decide +kernel
theorem dX5_link_44 : decode cX5_link 44 = .ok (.iload_n 1, 1) := by decide +kernel
theorem dX5_link_45 : decode cX5_link 45 = .ok (.iload_n 2, 1) := by decide +kernel
theorem dX5_link_46 : decode cX5_link 46 = .ok (.invokevirtual 99, 3) := by decide +kernel
theorem dX5_link_49 : decode cX5_link 49 = .ok (.aload_n 0, 1) := by decide +kernel
theorem dX5_link_50 : decode cX5_link 50 = .ok (.iload_n 1, 1) := by decide +kernel
theorem dX5_link_51 : decode cX5_link 51 = .ok (.iload_n 2, 1) := by decide +kernel
theorem dX5_link_52 : decode cX5_link 52 = .ok (.invokevirtual 103, 3) := by decide +kernel
theorem dX5_link_55 : decode cX5_link 55 = .ok (.ifCond .eq 7, 3) := by decide +kernel
theorem dX5_link_58 : decode cX5_link 58 = .ok (.iconst 1, 1) := by decide +kernel
theorem dX5_link_59 : decode cX5_link 59 = .ok (.goto 4, 3) := by decide +kernel
theorem dX5_link_62 : decode cX5_link 62 = .ok (.iconst 0, 1) := by decide +kernel
theorem dX5_link_63 : decode cX5_link 63 = .ok (.ireturn, 1) := by decide +kernel
def q_X5_link (S : zM) (a : Int) (b : Int) : Int32 → zM → Prop := fun r S1 => ((¬ ((0 ≤ a ∧ a < S 9 1 4) ∧ (0 ≤ b ∧ b < S 9 1 4))) ∧ zMo S (zup (S 9 0) 0 1) (S 9 1) (S 9 2) (S 9 3) (S 9 4) (S 9 5) (S 9 6) = S1) ∨ ((((0 ≤ a ∧ a < S 9 1 4) ∧ (0 ≤ b ∧ b < S 9 1 4)) ∧ a = b) ∧ zMo S (zup (S 9 0) 0 2) (S 9 1) (S 9 2) (S 9 3) (S 9 4) (S 9 5) (S 9 6) = S1) ∨ ((((0 ≤ a ∧ a < S 9 1 4) ∧ (0 ≤ b ∧ b < S 9 1 4)) ∧ a ≠ b) ∧ r = zI (if tTw (S 9 1) a b (5 + 5 * a + 4) / 2 ^ b.toNat % 2 = 1 then 1 else 0) ∧ zMo S (zup (zup (S 9 0) 0 0) 4 (zSm ((zup (S 9 0) 0 0) 4))) (tTw (S 9 1) a b) (S 9 2) (zSv (S 9 3) (S 9 1) ((zup (S 9 0) 0 0) 4)) (S 9 4) (S 9 5) (S 9 6) = S1)
def r_X5_link : Room := { frames := 2, cells := 0, slots := 0, locals := 43 }
set_option maxHeartbeats 4000000 in
set_option maxRecDepth 100000 in
theorem c_X5_link (l : Launch) (G : zG) (hG : zok G) (S : zM) (a : Int) (ha_ : -2147483648 ≤ a ∧ a ≤ 2147483647) (b : Int) (hb_ : -2147483648 ≤ b ∧ b ≤ 2147483647) (hsm : 0 ≤ S 9 0 4 ∧ S 9 0 4 ≤ 6) (hw : zW (S 9 1)) (hw1 : zW (tTw (S 9 1) a b)) : Met l yX5_link (Cond.code yX5_link cX5_link 3 (some FieldType.int) :: zTbl) r_X5_link (va_Pc [.ref (za G 9 0), .int (zI a), .int (zI b)] (zB G S)) (va_Qi (q_X5_link S a b) (zB G) (zA G)) 0 0 (zA G) := by
  refine zMet [(0, .ref (za G 9 0)), (1, .int (zI a)), (2, .int (zI b))] hG (by decide) (Nat.le_of_ble_eq_true rfl) rfl (fun p e s m args below meth c ls h hx hb hr hH hl => ?_)
  rw [← zM_id S] at hH
  refine lv_aload_n hx hb dX5_link_0 rfl (lv_at hl 0 rfl) ?_
  refine lv_aload_n hx hb dX5_link_1 rfl (lv_at hl 0 rfl) ?_
  refine lv_iload_n hx hb dX5_link_2 rfl (lv_at hl 1 rfl) ?_
  refine zcVi h hH (zr_5 h hH) (As := [.int (zI a)]) (rest := [.ref (za G 9 0)]) (c_X5_isZone l G hG (zMo S (S 9 0) (S 9 1) (S 9 2) (S 9 3) (S 9 4) (S 9 5) (S 9 6)) a (by omega) (zM_hw hw)) zce_X5_isZone zcv_X5_isZone zm_X5_96 hl.1 rfl rfl ⟨rfl, rfl⟩ ⟨Nat.le_of_ble_eq_true rfl, Nat.le_of_ble_eq_true rfl⟩ (Nat.le_of_ble_eq_true rfl) ⟨Nat.zero_le _, Nat.zero_le _⟩ dX5_link_3 (fun r_3 S_3 H locs hq hH => ?_)
  obtain ⟨b_3, rfl, hb_3, rfl⟩ := hq
  (try rw [zM_1] at hb_3)
  refine zb_ieq (tgt := 17) h (by omega) dX5_link_6 (by decide) (fun c_6 => ?_) (fun c_6 => ?_)
  · refine zb_ic h dX5_link_17 ?_
    refine lv_goto (tgt := 31) hx hb dX5_link_18 (by decide) ?_
    refine zcVi h hH (zr_5 h hH) (As := [.int (zI 1)]) (rest := []) (c_X5_holds l G hG (zMo S (S 9 0) (S 9 1) (S 9 2) (S 9 3) (S 9 4) (S 9 5) (S 9 6)) 1 (by omega)) zce_X5_holds zcv_X5_holds zm_X5_87 hl.1 rfl rfl ⟨rfl, rfl⟩ ⟨Nat.le_of_ble_eq_true rfl, Nat.le_of_ble_eq_true rfl⟩ (Nat.le_of_ble_eq_true rfl) ⟨Nat.zero_le _, Nat.zero_le _⟩ dX5_link_31 (fun r_31 S_31 H locs hq hH => ?_)
    obtain ⟨b_31, rfl, hb_31, rfl⟩ := hq
    (try rw [zM_1] at hb_31)
    simp only [zM_M, zM_0, zM_1, zM_2, zM_3, zM_4, zM_5, zM_6] at hH
    refine zb_ine (tgt := 39) h (by omega) dX5_link_34 (by decide) (fun c_34 => ?_) (fun c_34 => ?_)
    · exact absurd c_34 (by omega)
    · refine zb_ic h dX5_link_37 ?_
      refine zri h hr hH ?_ dX5_link_38
      exact Or.inl ⟨by omega, rfl⟩
  · refine lv_aload_n hx hb dX5_link_9 rfl (lv_at hl 0 rfl) ?_
    refine lv_iload_n hx hb dX5_link_10 rfl (lv_at hl 2 rfl) ?_
    refine zcVi h hH (zr_5 h hH) (As := [.int (zI b)]) (rest := [.ref (za G 9 0)]) (c_X5_isZone l G hG (zMo S (S 9 0) (S 9 1) (S 9 2) (S 9 3) (S 9 4) (S 9 5) (S 9 6)) b (by omega) (zM_hw hw)) zce_X5_isZone zcv_X5_isZone zm_X5_96 hl.1 rfl rfl ⟨rfl, rfl⟩ ⟨Nat.le_of_ble_eq_true rfl, Nat.le_of_ble_eq_true rfl⟩ (Nat.le_of_ble_eq_true rfl) ⟨Nat.zero_le _, Nat.zero_le _⟩ dX5_link_11 (fun r_11 S_11 H locs hq hH => ?_)
    obtain ⟨b_11, rfl, hb_11, rfl⟩ := hq
    (try rw [zM_1] at hb_11)
    refine zb_ine (tgt := 21) h (by omega) dX5_link_14 (by decide) (fun c_14 => ?_) (fun c_14 => ?_)
    · refine lv_iload_n hx hb dX5_link_21 rfl (lv_at hl 1 rfl) ?_
      refine lv_iload_n hx hb dX5_link_22 rfl (lv_at hl 2 rfl) ?_
      refine zb_cne (tgt := 30) h (by omega) (by omega) dX5_link_23 (by decide) (fun c_23 => ?_) (fun c_23 => ?_)
      · refine zb_ic h dX5_link_30 ?_
        refine zcVi h hH (zr_5 h hH) (As := [.int (zI 0)]) (rest := []) (c_X5_holds l G hG (zMo S (S 9 0) (S 9 1) (S 9 2) (S 9 3) (S 9 4) (S 9 5) (S 9 6)) 0 (by omega)) zce_X5_holds zcv_X5_holds zm_X5_87 hl.1 rfl rfl ⟨rfl, rfl⟩ ⟨Nat.le_of_ble_eq_true rfl, Nat.le_of_ble_eq_true rfl⟩ (Nat.le_of_ble_eq_true rfl) ⟨Nat.zero_le _, Nat.zero_le _⟩ dX5_link_31 (fun r_31 S_31 H locs hq hH => ?_)
        obtain ⟨b_31, rfl, hb_31, rfl⟩ := hq
        (try rw [zM_1] at hb_31)
        simp only [zM_M, zM_0, zM_1, zM_2, zM_3, zM_4, zM_5, zM_6] at hH
        refine zb_ine (tgt := 39) h (by omega) dX5_link_34 (by decide) (fun c_34 => ?_) (fun c_34 => ?_)
        · have f4 := zW_4 hw
          refine lv_aload_n hx hb dX5_link_39 rfl (lv_at hl 0 rfl) ?_
          refine zcVv h hH (zr_5 h hH) (As := []) (rest := []) (c_X5_save l G hG (zMo S (zup (S 9 0) 0 0) (S 9 1) (S 9 2) (S 9 3) (S 9 4) (S 9 5) (S 9 6)) (by rw [zM_0, zup_n (by omega)]; exact hsm)) zce_X5_save zcv_X5_save zm_X5_90 hl.1 rfl rfl ⟨rfl, rfl⟩ ⟨Nat.le_of_ble_eq_true rfl, Nat.le_of_ble_eq_true rfl⟩ (Nat.le_of_ble_eq_true rfl) ⟨Nat.zero_le _, Nat.zero_le _⟩ dX5_link_40 (fun S_40 H locs hq hH => ?_)
          obtain rfl := hq
          simp only [zM_M, zM_0, zM_1, zM_2, zM_3, zM_4, zM_5, zM_6] at hH
          refine lv_aload_n hx hb dX5_link_43 rfl (lv_at hl 0 rfl) ?_
          refine lv_iload_n hx hb dX5_link_44 rfl (lv_at hl 1 rfl) ?_
          refine lv_iload_n hx hb dX5_link_45 rfl (lv_at hl 2 rfl) ?_
          refine zcVv h hH (zr_5 h hH) (As := [.int (zI a), .int (zI b)]) (rest := []) (c_X5_turnLink l G hG (zMo S (zup (zup (S 9 0) 0 0) 4 (zSm ((zup (S 9 0) 0 0) 4))) (S 9 1) (S 9 2) (zSv (S 9 3) (S 9 1) ((zup (S 9 0) 0 0) 4)) (S 9 4) (S 9 5) (S 9 6)) a b (by omega) (by omega) (by omega) (zM_hw hw)) zce_X5_turnLink zcv_X5_turnLink zm_X5_99 hl.1 rfl rfl ⟨rfl, rfl⟩ ⟨Nat.le_of_ble_eq_true rfl, Nat.le_of_ble_eq_true rfl⟩ (Nat.le_of_ble_eq_true rfl) ⟨Nat.zero_le _, Nat.zero_le _⟩ dX5_link_46 (fun S_46 H locs hq hH => ?_)
          obtain rfl := hq
          simp only [zM_M, zM_0, zM_1, zM_2, zM_3, zM_4, zM_5, zM_6] at hH
          refine lv_aload_n hx hb dX5_link_49 rfl (lv_at hl 0 rfl) ?_
          refine lv_iload_n hx hb dX5_link_50 rfl (lv_at hl 1 rfl) ?_
          refine lv_iload_n hx hb dX5_link_51 rfl (lv_at hl 2 rfl) ?_
          refine zcVi h hH (zr_5 h hH) (As := [.int (zI a), .int (zI b)]) (rest := []) (c_X5_areLinked l G hG (zMo S (zup (zup (S 9 0) 0 0) 4 (zSm ((zup (S 9 0) 0 0) 4))) (tTw (S 9 1) a b) (S 9 2) (zSv (S 9 3) (S 9 1) ((zup (S 9 0) 0 0) 4)) (S 9 4) (S 9 5) (S 9 6)) a b (by omega) (by omega) (zM_hw hw1)) zce_X5_areLinked zcv_X5_areLinked zm_X5_103 hl.1 rfl rfl ⟨rfl, rfl⟩ ⟨Nat.le_of_ble_eq_true rfl, Nat.le_of_ble_eq_true rfl⟩ (Nat.le_of_ble_eq_true rfl) ⟨Nat.zero_le _, Nat.zero_le _⟩ dX5_link_52 (fun r_52 S_52 H locs hq hH => ?_)
          obtain ⟨b_52, rfl, hb_52, rfl⟩ := hq
          (try rw [zM_1] at hb_52)
          refine zb_ieq (tgt := 62) h (by omega) dX5_link_55 (by decide) (fun c_55 => ?_) (fun c_55 => ?_)
          · refine zb_ic h dX5_link_62 ?_
            refine zri h hr hH ?_ dX5_link_63
            exact Or.inr (Or.inr ⟨by omega, congrArg zI (by first | rw [if_pos (by omega)] | rw [if_neg (by omega)]), rfl⟩)
          · refine zb_ic h dX5_link_58 ?_
            refine lv_goto (tgt := 63) hx hb dX5_link_59 (by decide) ?_
            refine zri h hr hH ?_ dX5_link_63
            exact Or.inr (Or.inr ⟨by omega, congrArg zI (by first | rw [if_pos (by omega)] | rw [if_neg (by omega)]), rfl⟩)
        · exact absurd c_34 (by omega)
      · refine zb_ic h dX5_link_26 ?_
        refine lv_goto (tgt := 31) hx hb dX5_link_27 (by decide) ?_
        refine zcVi h hH (zr_5 h hH) (As := [.int (zI 2)]) (rest := []) (c_X5_holds l G hG (zMo S (S 9 0) (S 9 1) (S 9 2) (S 9 3) (S 9 4) (S 9 5) (S 9 6)) 2 (by omega)) zce_X5_holds zcv_X5_holds zm_X5_87 hl.1 rfl rfl ⟨rfl, rfl⟩ ⟨Nat.le_of_ble_eq_true rfl, Nat.le_of_ble_eq_true rfl⟩ (Nat.le_of_ble_eq_true rfl) ⟨Nat.zero_le _, Nat.zero_le _⟩ dX5_link_31 (fun r_31 S_31 H locs hq hH => ?_)
        obtain ⟨b_31, rfl, hb_31, rfl⟩ := hq
        (try rw [zM_1] at hb_31)
        simp only [zM_M, zM_0, zM_1, zM_2, zM_3, zM_4, zM_5, zM_6] at hH
        refine zb_ine (tgt := 39) h (by omega) dX5_link_34 (by decide) (fun c_34 => ?_) (fun c_34 => ?_)
        · exact absurd c_34 (by omega)
        · refine zb_ic h dX5_link_37 ?_
          refine zri h hr hH ?_ dX5_link_38
          exact Or.inr (Or.inl ⟨by omega, rfl⟩)
    · refine zb_ic h dX5_link_17 ?_
      refine lv_goto (tgt := 31) hx hb dX5_link_18 (by decide) ?_
      refine zcVi h hH (zr_5 h hH) (As := [.int (zI 1)]) (rest := []) (c_X5_holds l G hG (zMo S (S 9 0) (S 9 1) (S 9 2) (S 9 3) (S 9 4) (S 9 5) (S 9 6)) 1 (by omega)) zce_X5_holds zcv_X5_holds zm_X5_87 hl.1 rfl rfl ⟨rfl, rfl⟩ ⟨Nat.le_of_ble_eq_true rfl, Nat.le_of_ble_eq_true rfl⟩ (Nat.le_of_ble_eq_true rfl) ⟨Nat.zero_le _, Nat.zero_le _⟩ dX5_link_31 (fun r_31 S_31 H locs hq hH => ?_)
      obtain ⟨b_31, rfl, hb_31, rfl⟩ := hq
      (try rw [zM_1] at hb_31)
      simp only [zM_M, zM_0, zM_1, zM_2, zM_3, zM_4, zM_5, zM_6] at hH
      refine zb_ine (tgt := 39) h (by omega) dX5_link_34 (by decide) (fun c_34 => ?_) (fun c_34 => ?_)
      · exact absurd c_34 (by omega)
      · refine zb_ic h dX5_link_37 ?_
        refine zri h hr hH ?_ dX5_link_38
        exact Or.inl ⟨by omega, rfl⟩
theorem dX5_clearBuffer_0 : decode cX5_clearBuffer 0 = .ok (.aload_n 0, 1) := by decide +kernel
theorem dX5_clearBuffer_1 : decode cX5_clearBuffer 1 = .ok (.iconst 0, 1) := by decide +kernel
theorem dX5_clearBuffer_2 : decode cX5_clearBuffer 2 = .ok (.putfield 28, 3) := by decide +kernel
theorem dX5_clearBuffer_5 : decode cX5_clearBuffer 5 = .ok (.aload_n 0, 1) := by decide +kernel
theorem dX5_clearBuffer_6 : decode cX5_clearBuffer 6 = .ok (.getfield 127, 3) := by decide +kernel
theorem dX5_clearBuffer_9 : decode cX5_clearBuffer 9 = .ok (.istore_n 1, 1) := by decide +kernel
theorem dX5_clearBuffer_10 : decode cX5_clearBuffer 10 = .ok (.aload_n 0, 1) := by decide +kernel
theorem dX5_clearBuffer_11 : decode cX5_clearBuffer 11 = .ok (.iconst 0, 1) := by decide +kernel
theorem dX5_clearBuffer_12 : decode cX5_clearBuffer 12 = .ok (.putfield 127, 3) := by decide +kernel
theorem dX5_clearBuffer_15 : decode cX5_clearBuffer 15 = .ok (.iload_n 1, 1) := by decide +kernel
theorem dX5_clearBuffer_16 : decode cX5_clearBuffer 16 = .ok (.ireturn, 1) := by decide +kernel
def q_X5_clearBuffer (S : zM) : Int32 → zM → Prop := fun r S1 => r = zI (S 9 0 6) ∧ zMo S (zup (zup (S 9 0) 0 0) 6 0) (S 9 1) (S 9 2) (S 9 3) (S 9 4) (S 9 5) (S 9 6) = S1
def r_X5_clearBuffer : Room := { frames := 0, cells := 0, slots := 0, locals := 0 }
set_option maxHeartbeats 4000000 in
set_option maxRecDepth 100000 in
theorem c_X5_clearBuffer (l : Launch) (G : zG) (hG : zok G) (S : zM)  : Met l yX5_clearBuffer (Cond.code yX5_clearBuffer cX5_clearBuffer 2 (some FieldType.int) :: zTbl) r_X5_clearBuffer (va_Pc [.ref (za G 9 0)] (zB G S)) (va_Qi (q_X5_clearBuffer S) (zB G) (zA G)) 0 0 (zA G) := by
  refine zMet [(0, .ref (za G 9 0))] hG (by decide) (Nat.le_of_ble_eq_true rfl) rfl (fun p e s m args below meth c ls h hx hb hr hH hl => ?_)
  rw [← zM_id S] at hH
  refine lv_aload_n hx hb dX5_clearBuffer_0 rfl (lv_at hl 0 rfl) ?_
  refine zb_ic h dX5_clearBuffer_1 ?_
  refine zu_5_0 h hH zf_X5_28 dX5_clearBuffer_2 (fun H locs hH => ?_)
  rw [zs_M0] at hH
  refine lv_aload_n hx hb dX5_clearBuffer_5 rfl (lv_at hl 0 rfl) ?_
  refine zg_5_6 h hH zf_X5_127 dX5_clearBuffer_6 ?_
  rw [zM_0]
  rw [show (zup (S 9 0) 0 0 6 : Int) = S 9 0 6 from by (first | rw [zup_s] | rw [zup_n (by omega)])]
  refine lv_istore_n (lv' := [(1, .int (zI (S 9 0 6))), (0, .ref (za G 9 0))]) hx hb dX5_clearBuffer_9 rfl hl (by decide) rfl (fun ls hl => ?_)
  refine lv_aload_n hx hb dX5_clearBuffer_10 rfl (lv_at hl 1 rfl) ?_
  refine zb_ic h dX5_clearBuffer_11 ?_
  refine zu_5_6 h hH zf_X5_127 dX5_clearBuffer_12 (fun H locs hH => ?_)
  rw [zs_M0] at hH
  refine lv_iload_n hx hb dX5_clearBuffer_15 rfl (lv_at hl 0 rfl) ?_
  refine zri h hr hH ?_ dX5_clearBuffer_16
  exact ⟨rfl, rfl⟩
theorem dX5_append_0 : decode cX5_append 0 = .ok (.aload_n 0, 1) := by decide +kernel
theorem dX5_append_1 : decode cX5_append 1 = .ok (.iload_n 1, 1) := by decide +kernel
theorem dX5_append_2 : decode cX5_append 2 = .ok (.bipush 33, 2) := by decide +kernel
theorem dX5_append_4 : decode cX5_append 4 = .ok (.bipush 126, 2) := by decide +kernel
theorem dX5_append_6 : decode cX5_append 6 = .ok (.invokestatic 32, 3) := by decide +kernel
theorem dX5_append_9 : decode cX5_append 9 = .ok (.ifCond .ne 7, 3) := by decide +kernel
theorem dX5_append_12 : decode cX5_append 12 = .ok (.iconst 1, 1) := by decide +kernel
theorem dX5_append_13 : decode cX5_append 13 = .ok (.goto 17, 3) := by decide +kernel
theorem dX5_append_16 : decode cX5_append 16 = .ok (.aload_n 0, 1) := by decide +kernel
theorem dX5_append_17 : decode cX5_append 17 = .ok (.getfield 127, 3) := by decide +kernel
theorem dX5_append_20 : decode cX5_append 20 = .ok (.bipush 60, 2) := by decide +kernel
theorem dX5_append_22 : decode cX5_append 22 = .ok (.if_icmp .ne 7, 3) := by decide +kernel
theorem dX5_append_25 : decode cX5_append 25 = .ok (.iconst 2, 1) := by decide +kernel
theorem dX5_append_26 : decode cX5_append 26 = .ok (.goto 4, 3) := by decide +kernel
theorem dX5_append_29 : decode cX5_append 29 = .ok (.iconst 0, 1) := by decide +kernel
theorem dX5_append_30 : decode cX5_append 30 = .ok (.invokevirtual 87, 3) := by decide +kernel
theorem dX5_append_33 : decode cX5_append 33 = .ok (.ifCond .ne 5, 3) := by decide +kernel
theorem dX5_append_36 : decode cX5_append 36 = .ok (.iconst 0, 1) := by decide +kernel
theorem dX5_append_37 : decode cX5_append 37 = .ok (.ireturn, 1) := by decide +kernel
theorem dX5_append_38 : decode cX5_append 38 = .ok (.aload_n 0, 1) := by decide +kernel
theorem dX5_append_39 : decode cX5_append 39 = .ok (.getfield 19, 3) := by decide +kernel
theorem dX5_append_42 : decode cX5_append 42 = .ok (.aload_n 0, 1) := by decide +kernel
theorem dX5_append_43 : decode cX5_append 43 = .ok (.getfield 127, 3) := by decide +kernel
theorem dX5_append_46 : decode cX5_append 46 = .ok (.iload_n 1, 1) := by decide +kernel
theorem dX5_append_47 : decode cX5_append 47 = .ok (.iastore, 1) := by decide +kernel
theorem dX5_append_48 : decode cX5_append 48 = .ok (.aload_n 0, 1) := by decide +kernel
theorem dX5_append_49 : decode cX5_append 49 = .ok (.dup, 1) := by decide +kernel
theorem dX5_append_50 : decode cX5_append 50 = .ok (.getfield 127, 3) := by decide +kernel
theorem dX5_append_53 : decode cX5_append 53 = .ok (.iconst 1, 1) := by decide +kernel
theorem dX5_append_54 : decode cX5_append 54 = .ok (.iadd, 1) := by decide +kernel
theorem dX5_append_55 : decode cX5_append 55 = .ok (.putfield 127, 3) := by decide +kernel
theorem dX5_append_58 : decode cX5_append 58 = .ok (.aload_n 0, 1) := by decide +kernel
theorem dX5_append_59 : decode cX5_append 59 = .ok (.getfield 127, 3) := by decide +kernel
theorem dX5_append_62 : decode cX5_append 62 = .ok (.ireturn, 1) := by decide +kernel
def q_X5_append (S : zM) (t : Int) : Int32 → zM → Prop := fun r S1 => ((¬ (33 ≤ t ∧ t ≤ 126)) ∧ zMo S (zup (S 9 0) 0 1) (S 9 1) (S 9 2) (S 9 3) (S 9 4) (S 9 5) (S 9 6) = S1) ∨ (((33 ≤ t ∧ t ≤ 126) ∧ S 9 0 6 = 60) ∧ zMo S (zup (S 9 0) 0 2) (S 9 1) (S 9 2) (S 9 3) (S 9 4) (S 9 5) (S 9 6) = S1) ∨ (((33 ≤ t ∧ t ≤ 126) ∧ S 9 0 6 < 60) ∧ r = zI (S 9 0 6 + 1) ∧ zMo S (zup (zup (S 9 0) 0 0) 6 (S 9 0 6 + 1)) (S 9 1) (S 9 2) (S 9 3) (zup (S 9 4) (S 9 0 6) t) (S 9 5) (S 9 6) = S1)
def r_X5_append : Room := { frames := 1, cells := 0, slots := 0, locals := 22 }
set_option maxHeartbeats 4000000 in
set_option maxRecDepth 100000 in
theorem c_X5_append (l : Launch) (G : zG) (hG : zok G) (S : zM) (t : Int) (ht_ : -2147483648 ≤ t ∧ t ≤ 2147483647) (hlen : 0 ≤ S 9 0 6 ∧ S 9 0 6 ≤ 60) : Met l yX5_append (Cond.code yX5_append cX5_append 2 (some FieldType.int) :: zTbl) r_X5_append (va_Pc [.ref (za G 9 0), .int (zI t)] (zB G S)) (va_Qi (q_X5_append S t) (zB G) (zA G)) 0 0 (zA G) := by
  refine zMet [(0, .ref (za G 9 0)), (1, .int (zI t))] hG (by decide) (Nat.le_of_ble_eq_true rfl) rfl (fun p e s m args below meth c ls h hx hb hr hH hl => ?_)
  rw [← zM_id S] at hH
  refine lv_aload_n hx hb dX5_append_0 rfl (lv_at hl 0 rfl) ?_
  refine lv_iload_n hx hb dX5_append_1 rfl (lv_at hl 1 rfl) ?_
  refine zb_bi h dX5_append_2 (by decide) (by decide) ?_
  refine zb_bi h dX5_append_4 (by decide) (by decide) ?_
  refine zcSi h hH (As := [.int (zI t), .int (zI 33), .int (zI 126)]) (rest := [.ref (za G 9 0)]) (c_X5_in l G hG (zMo S (S 9 0) (S 9 1) (S 9 2) (S 9 3) (S 9 4) (S 9 5) (S 9 6)) t 33 126 (by omega) (by omega) (by omega)) zce_X5_in zt_X5_in zm_X5_32 hl.1 rfl rfl ⟨rfl, rfl⟩ ⟨Nat.le_of_ble_eq_true rfl, Nat.le_of_ble_eq_true rfl⟩ (Nat.le_of_ble_eq_true rfl) ⟨Nat.zero_le _, Nat.zero_le _⟩ dX5_append_6 (fun r_6 S_6 H locs hq hH => ?_)
  obtain ⟨b_6, rfl, hb_6, rfl⟩ := hq
  (try rw [zM_1] at hb_6)
  refine zb_ine (tgt := 16) h (by omega) dX5_append_9 (by decide) (fun c_9 => ?_) (fun c_9 => ?_)
  · refine lv_aload_n hx hb dX5_append_16 rfl (lv_at hl 0 rfl) ?_
    refine zg_5_6 h hH zf_X5_127 dX5_append_17 ?_
    rw [zM_0]
    refine zb_bi h dX5_append_20 (by decide) (by decide) ?_
    refine zb_cne (tgt := 29) h (by omega) (by omega) dX5_append_22 (by decide) (fun c_22 => ?_) (fun c_22 => ?_)
    · refine zb_ic h dX5_append_29 ?_
      refine zcVi h hH (zr_5 h hH) (As := [.int (zI 0)]) (rest := []) (c_X5_holds l G hG (zMo S (S 9 0) (S 9 1) (S 9 2) (S 9 3) (S 9 4) (S 9 5) (S 9 6)) 0 (by omega)) zce_X5_holds zcv_X5_holds zm_X5_87 hl.1 rfl rfl ⟨rfl, rfl⟩ ⟨Nat.le_of_ble_eq_true rfl, Nat.le_of_ble_eq_true rfl⟩ (Nat.le_of_ble_eq_true rfl) ⟨Nat.zero_le _, Nat.zero_le _⟩ dX5_append_30 (fun r_30 S_30 H locs hq hH => ?_)
      obtain ⟨b_30, rfl, hb_30, rfl⟩ := hq
      (try rw [zM_1] at hb_30)
      simp only [zM_M, zM_0, zM_1, zM_2, zM_3, zM_4, zM_5, zM_6] at hH
      refine zb_ine (tgt := 38) h (by omega) dX5_append_33 (by decide) (fun c_33 => ?_) (fun c_33 => ?_)
      · refine lv_aload_n hx hb dX5_append_38 rfl (lv_at hl 0 rfl) ?_
        refine zg_5_5 h hH zf_X5_19 dX5_append_39 ?_
        refine lv_aload_n hx hb dX5_append_42 rfl (lv_at hl 0 rfl) ?_
        refine zg_5_6 h hH zf_X5_127 dX5_append_43 ?_
        rw [zM_0]
        rw [show (zup (S 9 0) 0 0 6 : Int) = S 9 0 6 from by (first | rw [zup_s] | rw [zup_n (by omega)])]
        refine lv_iload_n hx hb dX5_append_46 rfl (lv_at hl 1 rfl) ?_
        refine zst_ar_tx h hH (by omega) dX5_append_47 (fun H locs hH => ?_)
        rw [zs_M4] at hH
        refine lv_aload_n hx hb dX5_append_48 rfl (lv_at hl 0 rfl) ?_
        refine lv_dup hx hb dX5_append_49 rfl ?_
        refine zg_5_6 h hH zf_X5_127 dX5_append_50 ?_
        rw [zM_0]
        rw [show (zup (S 9 0) 0 0 6 : Int) = S 9 0 6 from by (first | rw [zup_s] | rw [zup_n (by omega)])]
        refine zb_ic h dX5_append_53 ?_
        refine zb_iadd h dX5_append_54 ?_
        refine zu_5_6 h hH zf_X5_127 dX5_append_55 (fun H locs hH => ?_)
        rw [zs_M0] at hH
        refine lv_aload_n hx hb dX5_append_58 rfl (lv_at hl 0 rfl) ?_
        refine zg_5_6 h hH zf_X5_127 dX5_append_59 ?_
        rw [zM_0]
        rw [show (zup (zup (S 9 0) 0 0) 6 ((S 9 0 6) + 1) 6 : Int) = ((S 9 0 6) + 1) from by (first | rw [zup_s] | rw [zup_n (by omega)])]
        refine zri h hr hH ?_ dX5_append_62
        exact Or.inr (Or.inr (⟨by omega, rfl, rfl⟩))
      · exact absurd c_33 (by omega)
    · refine zb_ic h dX5_append_25 ?_
      refine lv_goto (tgt := 30) hx hb dX5_append_26 (by decide) ?_
      refine zcVi h hH (zr_5 h hH) (As := [.int (zI 2)]) (rest := []) (c_X5_holds l G hG (zMo S (S 9 0) (S 9 1) (S 9 2) (S 9 3) (S 9 4) (S 9 5) (S 9 6)) 2 (by omega)) zce_X5_holds zcv_X5_holds zm_X5_87 hl.1 rfl rfl ⟨rfl, rfl⟩ ⟨Nat.le_of_ble_eq_true rfl, Nat.le_of_ble_eq_true rfl⟩ (Nat.le_of_ble_eq_true rfl) ⟨Nat.zero_le _, Nat.zero_le _⟩ dX5_append_30 (fun r_30 S_30 H locs hq hH => ?_)
      obtain ⟨b_30, rfl, hb_30, rfl⟩ := hq
      (try rw [zM_1] at hb_30)
      simp only [zM_M, zM_0, zM_1, zM_2, zM_3, zM_4, zM_5, zM_6] at hH
      refine zb_ine (tgt := 38) h (by omega) dX5_append_33 (by decide) (fun c_33 => ?_) (fun c_33 => ?_)
      · exact absurd c_33 (by omega)
      · refine zb_ic h dX5_append_36 ?_
        refine zri h hr hH ?_ dX5_append_37
        exact Or.inr (Or.inl ⟨by omega, rfl⟩)
  · refine zb_ic h dX5_append_12 ?_
    refine lv_goto (tgt := 30) hx hb dX5_append_13 (by decide) ?_
    refine zcVi h hH (zr_5 h hH) (As := [.int (zI 1)]) (rest := []) (c_X5_holds l G hG (zMo S (S 9 0) (S 9 1) (S 9 2) (S 9 3) (S 9 4) (S 9 5) (S 9 6)) 1 (by omega)) zce_X5_holds zcv_X5_holds zm_X5_87 hl.1 rfl rfl ⟨rfl, rfl⟩ ⟨Nat.le_of_ble_eq_true rfl, Nat.le_of_ble_eq_true rfl⟩ (Nat.le_of_ble_eq_true rfl) ⟨Nat.zero_le _, Nat.zero_le _⟩ dX5_append_30 (fun r_30 S_30 H locs hq hH => ?_)
    obtain ⟨b_30, rfl, hb_30, rfl⟩ := hq
    (try rw [zM_1] at hb_30)
    simp only [zM_M, zM_0, zM_1, zM_2, zM_3, zM_4, zM_5, zM_6] at hH
    refine zb_ine (tgt := 38) h (by omega) dX5_append_33 (by decide) (fun c_33 => ?_) (fun c_33 => ?_)
    · exact absurd c_33 (by omega)
    · refine zb_ic h dX5_append_36 ?_
      refine zri h hr hH ?_ dX5_append_37
      exact Or.inl ⟨by omega, rfl⟩
theorem dX5_undo_0 : decode cX5_undo 0 = .ok (.aload_n 0, 1) := by decide +kernel
theorem dX5_undo_1 : decode cX5_undo 1 = .ok (.aload_n 0, 1) := by decide +kernel
theorem dX5_undo_2 : decode cX5_undo 2 = .ok (.getfield 36, 3) := by decide +kernel
theorem dX5_undo_5 : decode cX5_undo 5 = .ok (.ifCond .le 7, 3) := by decide +kernel
theorem dX5_undo_8 : decode cX5_undo 8 = .ok (.iconst 0, 1) := by decide +kernel
theorem dX5_undo_9 : decode cX5_undo 9 = .ok (.goto 4, 3) := by decide +kernel
theorem dX5_undo_12 : decode cX5_undo 12 = .ok (.iconst 1, 1) := by decide +kernel
theorem dX5_undo_13 : decode cX5_undo 13 = .ok (.invokevirtual 87, 3) := by decide +kernel
theorem dX5_undo_16 : decode cX5_undo 16 = .ok (.ifCond .ne 5, 3) := by decide +kernel
theorem dX5_undo_19 : decode cX5_undo 19 = .ok (.iconst 0, 1) := by decide +kernel
theorem dX5_undo_20 : decode cX5_undo 20 = .ok (.ireturn, 1) := by decide +kernel
theorem dX5_undo_21 : decode cX5_undo 21 = .ok (.aload_n 0, 1) := by decide +kernel
theorem dX5_undo_22 : decode cX5_undo 22 = .ok (.dup, 1) := by decide +kernel
theorem dX5_undo_23 : decode cX5_undo 23 = .ok (.getfield 36, 3) := by decide +kernel
theorem dX5_undo_26 : decode cX5_undo 26 = .ok (.iconst 1, 1) := by decide +kernel
theorem dX5_undo_27 : decode cX5_undo 27 = .ok (.isub, 1) := by decide +kernel
theorem dX5_undo_28 : decode cX5_undo 28 = .ok (.putfield 36, 3) := by decide +kernel
theorem dX5_undo_31 : decode cX5_undo 31 = .ok (.iconst 0, 1) := by decide +kernel
theorem dX5_undo_32 : decode cX5_undo 32 = .ok (.istore_n 1, 1) := by decide +kernel
theorem dX5_undo_33 : decode cX5_undo 33 = .ok (.iload_n 1, 1) := by decide +kernel
theorem dX5_undo_34 : decode cX5_undo 34 = .ok (.bipush 45, 2) := by decide +kernel
theorem dX5_undo_36 : decode cX5_undo 36 = .ok (.if_icmp .ge 29, 3) := by decide +kernel
theorem dX5_undo_39 : decode cX5_undo 39 = .ok (.aload_n 0, 1) := by decide +kernel
theorem dX5_undo_40 : decode cX5_undo 40 = .ok (.getfield 7, 3) := by decide +kernel
theorem dX5_undo_43 : decode cX5_undo 43 = .ok (.iload_n 1, 1) := by decide +kernel
theorem dX5_undo_44 : decode cX5_undo 44 = .ok (.aload_n 0, 1) := by decide +kernel
theorem dX5_undo_45 : decode cX5_undo 45 = .ok (.getfield 16, 3) := by decide +kernel
theorem dX5_undo_48 : decode cX5_undo 48 = .ok (.bipush 45, 2) := by decide +kernel
theorem dX5_undo_50 : decode cX5_undo 50 = .ok (.aload_n 0, 1) := by decide +kernel
theorem dX5_undo_51 : decode cX5_undo 51 = .ok (.getfield 36, 3) := by decide +kernel
theorem dX5_undo_54 : decode cX5_undo 54 = .ok (.imul, 1) := by decide +kernel
theorem dX5_undo_55 : decode cX5_undo 55 = .ok (.iload_n 1, 1) := by decide +kernel
theorem dX5_undo_56 : decode cX5_undo 56 = .ok (.iadd, 1) := by decide +kernel
theorem dX5_undo_57 : decode cX5_undo 57 = .ok (.iaload, 1) := by decide +kernel
theorem dX5_undo_58 : decode cX5_undo 58 = .ok (.iastore, 1) := by decide +kernel
theorem dX5_undo_59 : decode cX5_undo 59 = .ok (.iinc 1 1, 3) := by decide +kernel
theorem dX5_undo_62 : decode cX5_undo 62 = .ok (.goto (-29), 3) := by decide +kernel
theorem dX5_undo_65 : decode cX5_undo 65 = .ok (.aload_n 0, 1) := by decide +kernel
theorem dX5_undo_66 : decode cX5_undo 66 = .ok (.getfield 36, 3) := by decide +kernel
theorem dX5_undo_69 : decode cX5_undo 69 = .ok (.ireturn, 1) := by decide +kernel
def q_X5_undo (S : zM) : Int32 → zM → Prop := fun r S1 => (S 9 0 4 = 0 ∧ zMo S (zup (S 9 0) 0 1) (S 9 1) (S 9 2) (S 9 3) (S 9 4) (S 9 5) (S 9 6) = S1) ∨ (0 < S 9 0 4 ∧ r = zI (S 9 0 4 - 1) ∧ zMo S (zup (zup (S 9 0) 0 0) 4 (S 9 0 4 - 1)) (fun x => S 9 3 (45 * (S 9 0 4 - 1) + x)) (S 9 2) (S 9 3) (S 9 4) (S 9 5) (S 9 6) = S1)
def r_X5_undo : Room := { frames := 1, cells := 0, slots := 0, locals := 21 }
set_option maxHeartbeats 4000000 in
set_option maxRecDepth 100000 in
theorem c_X5_undo (l : Launch) (G : zG) (hG : zok G) (S : zM) (hsm : 0 ≤ S 9 0 4 ∧ S 9 0 4 ≤ 6)  : Met l yX5_undo (Cond.code yX5_undo cX5_undo 2 (some FieldType.int) :: zTbl) r_X5_undo (va_Pc [.ref (za G 9 0)] (zB G S)) (va_Qi (q_X5_undo S) (zB G) (zA G)) 0 0 (zA G) := by
  refine zMet [(0, .ref (za G 9 0))] hG (by decide) (Nat.le_of_ble_eq_true rfl) rfl (fun p e s m args below meth c ls h hx hb hr hH hl => ?_)
  rw [← zM_id S] at hH
  have C33 : ∀ (fu : Nat) (i : Int) (q : Int → Int) (H : Heap) (locs : List Loc) (ls : Array Slot), (45 - i).toNat < fu → (0 ≤ i ∧ i ≤ 45) → (0 < S 9 0 4) → (∀ x : Int, 0 ≤ x → x < i → q x = S 9 3 (45 * (S 9 0 4 - 1) + x)) → zH G (zMo S (zup (zup (S 9 0) 0 0) 4 (S 9 0 4 - 1)) q (S 9 2) (S 9 3) (S 9 4) (S 9 5) (S 9 6)) s H locs → lv_has ls 2 [(0, .ref (za G 9 0)), (1, .int (zI i))] → W p l e r_X5_undo s m args below meth c H locs 0 0 (MQ below (va_Qi (q_X5_undo S) (zB G) (zA G)) args s 0 0 (zA G)) (F0 m 33 ls []) := by
    intro fu
    induction fu with
    | zero => intro i q H locs ls hfu; omega
    | succ fu ih33 =>
      intro i q H locs ls hfu hi h4 hq hH hl
      refine lv_iload_n hx hb dX5_undo_33 rfl (lv_at hl 1 rfl) ?_
      refine zb_bi h dX5_undo_34 (by decide) (by decide) ?_
      refine zb_cge (tgt := 65) h (by omega) (by omega) dX5_undo_36 (by decide) (fun c_36 => ?_) (fun c_36 => ?_)
      · have hH := zH_mo (σ' := fun x => S 9 3 (45 * (S 9 0 4 - 1) + x)) (fun _ _ _ => rfl) (fun x h1 h2 => hq x h1 (by omega)) (fun _ _ _ => rfl) (fun _ _ _ => rfl) (fun _ _ _ => rfl) (fun _ _ _ => rfl) (fun _ _ _ => rfl) hH
        refine lv_aload_n hx hb dX5_undo_65 rfl (lv_at hl 0 rfl) ?_
        refine zg_5_4 h hH zf_X5_36 dX5_undo_66 ?_
        rw [zM_0]
        rw [show (zup (zup (S 9 0) 0 0) 4 (S 9 0 4 - 1) 4 : Int) = (S 9 0 4 - 1) from by (first | rw [zup_s] | rw [zup_n (by omega)])]
        refine zri h hr hH ?_ dX5_undo_69
        exact Or.inr ⟨h4, rfl, rfl⟩
      · refine lv_aload_n hx hb dX5_undo_39 rfl (lv_at hl 0 rfl) ?_
        refine zg_5_1 h hH zf_X5_7 dX5_undo_40 ?_
        refine lv_iload_n hx hb dX5_undo_43 rfl (lv_at hl 1 rfl) ?_
        refine lv_aload_n hx hb dX5_undo_44 rfl (lv_at hl 0 rfl) ?_
        refine zg_5_3 h hH zf_X5_16 dX5_undo_45 ?_
        refine zb_bi h dX5_undo_48 (by decide) (by decide) ?_
        refine lv_aload_n hx hb dX5_undo_50 rfl (lv_at hl 0 rfl) ?_
        refine zg_5_4 h hH zf_X5_36 dX5_undo_51 ?_
        rw [zM_0]
        rw [show (zup (zup (S 9 0) 0 0) 4 (S 9 0 4 - 1) 4 : Int) = (S 9 0 4 - 1) from by (first | rw [zup_s] | rw [zup_n (by omega)])]
        refine zb_imul h dX5_undo_54 ?_
        refine lv_iload_n hx hb dX5_undo_55 rfl (lv_at hl 1 rfl) ?_
        refine zb_iadd h dX5_undo_56 ?_
        refine zld_ar_sv h hH (by omega) dX5_undo_57 ?_
        rw [zM_3]
        refine zst_ar_s h hH (by omega) dX5_undo_58 (fun H locs hH => ?_)
        rw [zs_M1] at hH
        refine lv_iinc (v := zI (i + 1)) (lv' := [(1, .int (zI (i + 1))), (0, .ref (za G 9 0))]) hx hb dX5_undo_59 hl (k := 1) rfl (zI_add _ _) (by decide) rfl (fun ls hl => ?_)
        refine lv_goto (tgt := 33) hx hb dX5_undo_62 (by decide) ?_
        exact ih33 (i + 1) (zup q (i) (S 9 3 ((45 * (S 9 0 4 - 1)) + i))) _ _ _ (by omega) (by omega) (by omega) (fun x h1 h2 => if e : x = i then (by rw [e, zup_s]) else (by rw [zup_n e]; exact hq x h1 (by omega))) hH (lv_sub hl [1, 0] rfl)
  refine lv_aload_n hx hb dX5_undo_0 rfl (lv_at hl 0 rfl) ?_
  refine lv_aload_n hx hb dX5_undo_1 rfl (lv_at hl 0 rfl) ?_
  refine zg_5_4 h hH zf_X5_36 dX5_undo_2 ?_
  rw [zM_0]
  refine zb_ile (tgt := 12) h (by omega) dX5_undo_5 (by decide) (fun c_5 => ?_) (fun c_5 => ?_)
  · refine zb_ic h dX5_undo_12 ?_
    refine zcVi h hH (zr_5 h hH) (As := [.int (zI 1)]) (rest := []) (c_X5_holds l G hG (zMo S (S 9 0) (S 9 1) (S 9 2) (S 9 3) (S 9 4) (S 9 5) (S 9 6)) 1 (by omega)) zce_X5_holds zcv_X5_holds zm_X5_87 hl.1 rfl rfl ⟨rfl, rfl⟩ ⟨Nat.le_of_ble_eq_true rfl, Nat.le_of_ble_eq_true rfl⟩ (Nat.le_of_ble_eq_true rfl) ⟨Nat.zero_le _, Nat.zero_le _⟩ dX5_undo_13 (fun r_13 S_13 H locs hq hH => ?_)
    obtain ⟨b_13, rfl, hb_13, rfl⟩ := hq
    (try rw [zM_1] at hb_13)
    simp only [zM_M, zM_0, zM_1, zM_2, zM_3, zM_4, zM_5, zM_6] at hH
    refine zb_ine (tgt := 21) h (by omega) dX5_undo_16 (by decide) (fun c_16 => ?_) (fun c_16 => ?_)
    · exact absurd c_16 (by omega)
    · refine zb_ic h dX5_undo_19 ?_
      refine zri h hr hH ?_ dX5_undo_20
      exact Or.inl ⟨by omega, rfl⟩
  · refine zb_ic h dX5_undo_8 ?_
    refine lv_goto (tgt := 13) hx hb dX5_undo_9 (by decide) ?_
    refine zcVi h hH (zr_5 h hH) (As := [.int (zI 0)]) (rest := []) (c_X5_holds l G hG (zMo S (S 9 0) (S 9 1) (S 9 2) (S 9 3) (S 9 4) (S 9 5) (S 9 6)) 0 (by omega)) zce_X5_holds zcv_X5_holds zm_X5_87 hl.1 rfl rfl ⟨rfl, rfl⟩ ⟨Nat.le_of_ble_eq_true rfl, Nat.le_of_ble_eq_true rfl⟩ (Nat.le_of_ble_eq_true rfl) ⟨Nat.zero_le _, Nat.zero_le _⟩ dX5_undo_13 (fun r_13 S_13 H locs hq hH => ?_)
    obtain ⟨b_13, rfl, hb_13, rfl⟩ := hq
    (try rw [zM_1] at hb_13)
    simp only [zM_M, zM_0, zM_1, zM_2, zM_3, zM_4, zM_5, zM_6] at hH
    refine zb_ine (tgt := 21) h (by omega) dX5_undo_16 (by decide) (fun c_16 => ?_) (fun c_16 => ?_)
    · refine lv_aload_n hx hb dX5_undo_21 rfl (lv_at hl 0 rfl) ?_
      refine lv_dup hx hb dX5_undo_22 rfl ?_
      refine zg_5_4 h hH zf_X5_36 dX5_undo_23 ?_
      rw [zM_0]
      rw [show (zup (S 9 0) 0 0 4 : Int) = S 9 0 4 from by (first | rw [zup_s] | rw [zup_n (by omega)])]
      refine zb_ic h dX5_undo_26 ?_
      refine zb_isub h dX5_undo_27 ?_
      refine zu_5_4 h hH zf_X5_36 dX5_undo_28 (fun H locs hH => ?_)
      rw [zs_M0] at hH
      refine zb_ic h dX5_undo_31 ?_
      refine lv_istore_n (lv' := [(1, .int (zI 0)), (0, .ref (za G 9 0))]) hx hb dX5_undo_32 rfl hl (by decide) rfl (fun ls hl => ?_)
      exact C33 ((45 - 0 : Int).toNat + 1) 0 (S 9 1) _ _ _ (by omega) (by omega) (by omega) (fun x h1 h2 => absurd h1 (by omega)) hH (lv_sub hl [1, 0] rfl)
    · exact absurd c_16 (by omega)
