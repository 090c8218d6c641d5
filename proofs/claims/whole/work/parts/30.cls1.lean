theorem dX4_tryTime_0 : decode cX4_tryTime 0 = .ok (.aload_n 0, 1) := by decide +kernel
theorem dX4_tryTime_1 : decode cX4_tryTime 1 = .ok (.getfield 16, 3) := by decide +kernel
theorem dX4_tryTime_4 : decode cX4_tryTime 4 = .ok (.aload_n 0, 1) := by decide +kernel
theorem dX4_tryTime_5 : decode cX4_tryTime 5 = .ok (.getfield 10, 3) := by decide +kernel
theorem dX4_tryTime_8 : decode cX4_tryTime 8 = .ok (.invokevirtual 189, 3) := by decide +kernel
theorem dX4_tryTime_11 : decode cX4_tryTime 11 = .ok (.aload_n 0, 1) := by decide +kernel
theorem dX4_tryTime_12 : decode cX4_tryTime 12 = .ok (.getfield 16, 3) := by decide +kernel
theorem dX4_tryTime_15 : decode cX4_tryTime 15 = .ok (.iload_n 1, 1) := by decide +kernel
theorem dX4_tryTime_16 : decode cX4_tryTime 16 = .ok (.putfield 95, 3) := by decide +kernel
theorem dX4_tryTime_19 : decode cX4_tryTime 19 = .ok (.iload_n 2, 1) := by decide +kernel
theorem dX4_tryTime_20 : decode cX4_tryTime 20 = .ok (.ifCond .ne 14, 3) := by decide +kernel
theorem dX4_tryTime_23 : decode cX4_tryTime 23 = .ok (.aload_n 0, 1) := by decide +kernel
theorem dX4_tryTime_24 : decode cX4_tryTime 24 = .ok (.getfield 16, 3) := by decide +kernel
theorem dX4_tryTime_27 : decode cX4_tryTime 27 = .ok (.iconst 0, 1) := by decide +kernel
theorem dX4_tryTime_28 : decode cX4_tryTime 28 = .ok (.invokevirtual 98, 3) := by decide +kernel
theorem dX4_tryTime_31 : decode cX4_tryTime 31 = .ok (.goto 10, 3) := by decide +kernel
theorem dX4_tryTime_34 : decode cX4_tryTime 34 = .ok (.aload_n 0, 1) := by decide +kernel
theorem dX4_tryTime_35 : decode cX4_tryTime 35 = .ok (.getfield 16, 3) := by decide +kernel
theorem dX4_tryTime_38 : decode cX4_tryTime 38 = .ok (.invokevirtual 192, 3) := by decide +kernel
theorem dX4_tryTime_41 : decode cX4_tryTime 41 = .ok (.ireturn, 1) := by decide +kernel
def q_X4_tryTime (S : zM) (t w : Int) : Int32 → zM → Prop := fun r S1 => r = zI (tEx (S 0 0) t w) ∧ ∃ σ' M' q', zPut S 1 σ' M' q' = S1
def r_X4_tryTime : Room := { frames := 4, cells := 0, slots := 0, locals := 90 }
set_option maxHeartbeats 4000000 in
set_option maxRecDepth 100000 in
theorem c_X4_tryTime (l : Launch) (G : zG) (hG : zok G) (S : zM) (t w : Int) (ht : 1 ≤ t ∧ t ≤ 2000) (hwh : 0 ≤ w ∧ w ≤ 1) (hw : zW (S 0 0)) : Met l yX4_tryTime (Cond.code yX4_tryTime cX4_tryTime 3 (some FieldType.int) :: zTbl) r_X4_tryTime (va_Pc [.ref (za G 8 0), .int (zI t), .int (zI w)] (zB G S)) (va_Qi (q_X4_tryTime S t w) (zB G) (zA G)) 0 0 (zA G) := by
  refine zMet [(0, .ref (za G 8 0)), (1, .int (zI t)), (2, .int (zI w))] hG (by decide) (Nat.le_of_ble_eq_true rfl) rfl (fun p e s m args below meth c ls h hx hb hr hH hl => ?_)
  refine lv_aload_n hx hb dX4_tryTime_0 rfl (lv_at hl 0 rfl) ?_
  refine zg_4_1 h hH zf_X4_16 dX4_tryTime_1 ?_
  refine lv_aload_n hx hb dX4_tryTime_4 rfl (lv_at hl 0 rfl) ?_
  refine zg_4_0 h hH zf_X4_10 dX4_tryTime_5 ?_
  refine zcVv h hH (zr_3 h hH (by omega)) (As := [.ref (za G 0 0)]) (rest := []) (c_X3_copyFrom l G hG 1 0 (by omega) (by omega) (by omega) S hw) zce_X3_copyFrom zcv_X3_copyFrom zm_X4_189 hl.1 rfl rfl ⟨rfl, rfl⟩ ⟨Nat.le_of_ble_eq_true rfl, Nat.le_of_ble_eq_true rfl⟩ (Nat.le_of_ble_eq_true rfl) ⟨Nat.zero_le _, Nat.zero_le _⟩ dX4_tryTime_8 (fun S_8 H locs hq hH => ?_)
  obtain rfl := hq
  refine lv_aload_n hx hb dX4_tryTime_11 rfl (lv_at hl 0 rfl) ?_
  refine zg_4_1 h hH zf_X4_16 dX4_tryTime_12 ?_
  refine lv_iload_n hx hb dX4_tryTime_15 rfl (lv_at hl 1 rfl) ?_
  refine zun_3_8 h hH (by omega) zfn_X4_95 dX4_tryTime_16 (fun H locs hH => ?_)
  rw [zs_P0] at hH
  have hw1 := zW_up0 hw ht
  have hM1 : ∀ j : Int, 0 ≤ j → j < 10 → zMk (S 0 0 1) (S 0 0 2) j = zMk ((zup (S 0 0) 0 t) 1) ((zup (S 0 0) 0 t) 2) j := by intro j _ _; rw [zup_n (by omega), zup_n (by omega)]
  refine lv_iload_n hx hb dX4_tryTime_19 rfl (lv_at hl 2 rfl) ?_
  refine zb_ine (tgt := 34) h (by omega) dX4_tryTime_20 (by decide) (fun c_20 => ?_) (fun c_20 => ?_)
  · refine lv_aload_n hx hb dX4_tryTime_34 rfl (lv_at hl 0 rfl) ?_
    refine zg_4_1 h hH zf_X4_16 dX4_tryTime_35 ?_
    refine zcVi h hH (zr_3 h hH (by omega)) (As := []) (rest := []) (c_X3_missedTones l G hG 1 (by omega) (zPut S 1 (zup (S 0 0) 0 t) (zMk (S 0 0 1) (S 0 0 2)) (S 1 8)) (zP_ms hM1) (zP_hw hw1)) zce_X3_missedTones zcv_X3_missedTones zm_X4_192 hl.1 rfl rfl ⟨rfl, rfl⟩ ⟨Nat.le_of_ble_eq_true rfl, Nat.le_of_ble_eq_true rfl⟩ (Nat.le_of_ble_eq_true rfl) ⟨Nat.zero_le _, Nat.zero_le _⟩ dX4_tryTime_38 (fun r_38 S_38 H locs hq hH => ?_)
    obtain ⟨rfl, rfl⟩ := hq
    rw [zP_0]
    refine zri h hr hH ?_ dX4_tryTime_41
    exact ⟨congrArg zI (by unfold tEx; first | rw [if_pos (by omega)] | rw [if_neg (by omega)]), _, _, _, rfl⟩
  · refine lv_aload_n hx hb dX4_tryTime_23 rfl (lv_at hl 0 rfl) ?_
    refine zg_4_1 h hH zf_X4_16 dX4_tryTime_24 ?_
    refine zb_ic h dX4_tryTime_27 ?_
    refine zcVi h hH (zr_3 h hH (by omega)) (As := [.int (zI 0)]) (rest := []) (c_X3_zonesOff l G hG 1 (by omega) (zPut S 1 (zup (S 0 0) 0 t) (zMk (S 0 0 1) (S 0 0 2)) (S 1 8)) 0 (by omega) (zP_ms hM1) (zP_hw hw1)) zce_X3_zonesOff zcv_X3_zonesOff zm_X4_98 hl.1 rfl rfl ⟨rfl, rfl⟩ ⟨Nat.le_of_ble_eq_true rfl, Nat.le_of_ble_eq_true rfl⟩ (Nat.le_of_ble_eq_true rfl) ⟨Nat.zero_le _, Nat.zero_le _⟩ dX4_tryTime_28 (fun r_28 S_28 H locs hq hH => ?_)
    obtain ⟨rfl, rfl⟩ := hq
    rw [zP_0]
    refine lv_goto (tgt := 41) hx hb dX4_tryTime_31 (by decide) ?_
    refine zri h hr hH ?_ dX4_tryTime_41
    exact ⟨congrArg zI (by unfold tEx; first | rw [if_pos (by omega)] | rw [if_neg (by omega)]), _, _, _, rfl⟩
theorem dX4_tryBurn_0 : decode cX4_tryBurn 0 = .ok (.aload_n 0, 1) := by decide +kernel
theorem dX4_tryBurn_1 : decode cX4_tryBurn 1 = .ok (.getfield 10, 3) := by decide +kernel
theorem dX4_tryBurn_4 : decode cX4_tryBurn 4 = .ok (.iload_n 1, 1) := by decide +kernel
theorem dX4_tryBurn_5 : decode cX4_tryBurn 5 = .ok (.invokevirtual 69, 3) := by decide +kernel
theorem dX4_tryBurn_8 : decode cX4_tryBurn 8 = .ok (.ifCond .ne 5, 3) := by decide +kernel
theorem dX4_tryBurn_13 : decode cX4_tryBurn 13 = .ok (.aload_n 0, 1) := by decide +kernel
theorem dX4_tryBurn_14 : decode cX4_tryBurn 14 = .ok (.getfield 16, 3) := by decide +kernel
theorem dX4_tryBurn_17 : decode cX4_tryBurn 17 = .ok (.aload_n 0, 1) := by decide +kernel
theorem dX4_tryBurn_18 : decode cX4_tryBurn 18 = .ok (.getfield 10, 3) := by decide +kernel
theorem dX4_tryBurn_21 : decode cX4_tryBurn 21 = .ok (.invokevirtual 189, 3) := by decide +kernel
theorem dX4_tryBurn_24 : decode cX4_tryBurn 24 = .ok (.aload_n 0, 1) := by decide +kernel
theorem dX4_tryBurn_25 : decode cX4_tryBurn 25 = .ok (.getfield 16, 3) := by decide +kernel
theorem dX4_tryBurn_28 : decode cX4_tryBurn 28 = .ok (.getfield 104, 3) := by decide +kernel
theorem dX4_tryBurn_31 : decode cX4_tryBurn 31 = .ok (.iload_n 1, 1) := by decide +kernel
theorem dX4_tryBurn_32 : decode cX4_tryBurn 32 = .ok (.iload_n 2, 1) := by decide +kernel
theorem dX4_tryBurn_33 : decode cX4_tryBurn 33 = .ok (.iastore, 1) := by decide +kernel
theorem dX4_tryBurn_34 : decode cX4_tryBurn 34 = .ok (.iload_n 3, 1) := by decide +kernel
theorem dX4_tryBurn_35 : decode cX4_tryBurn 35 = .ok (.ifCond .ne 14, 3) := by decide +kernel
theorem dX4_tryBurn_38 : decode cX4_tryBurn 38 = .ok (.aload_n 0, 1) := by decide +kernel
theorem dX4_tryBurn_39 : decode cX4_tryBurn 39 = .ok (.getfield 16, 3) := by decide +kernel
theorem dX4_tryBurn_42 : decode cX4_tryBurn 42 = .ok (.iload_n 1, 1) := by decide +kernel
theorem dX4_tryBurn_43 : decode cX4_tryBurn 43 = .ok (.invokevirtual 107, 3) := by decide +kernel
theorem dX4_tryBurn_46 : decode cX4_tryBurn 46 = .ok (.goto 11, 3) := by decide +kernel
theorem dX4_tryBurn_49 : decode cX4_tryBurn 49 = .ok (.aload_n 0, 1) := by decide +kernel
theorem dX4_tryBurn_50 : decode cX4_tryBurn 50 = .ok (.getfield 16, 3) := by decide +kernel
theorem dX4_tryBurn_53 : decode cX4_tryBurn 53 = .ok (.iconst 0, 1) := by decide +kernel
theorem dX4_tryBurn_54 : decode cX4_tryBurn 54 = .ok (.invokevirtual 98, 3) := by decide +kernel
theorem dX4_tryBurn_57 : decode cX4_tryBurn 57 = .ok (.ireturn, 1) := by decide +kernel
def q_X4_tryBurn (S : zM) (z t w : Int) : Int32 → zM → Prop := fun r S1 => r = zI (tBu (S 0 0) z t w) ∧ ∃ σ' M' q', zPut S 1 σ' M' q' = S1
def r_X4_tryBurn : Room := { frames := 4, cells := 0, slots := 0, locals := 90 }
set_option maxHeartbeats 4000000 in
set_option maxRecDepth 100000 in
theorem c_X4_tryBurn (l : Launch) (G : zG) (hG : zok G) (S : zM) (z t w : Int) (hz : 0 ≤ z ∧ z < S 0 0 4) (ht : 0 ≤ t ∧ t ≤ 999) (hwh : 0 ≤ w ∧ w ≤ 1) (hw : zW (S 0 0)) : Met l yX4_tryBurn (Cond.code yX4_tryBurn cX4_tryBurn 4 (some FieldType.int) :: zTbl) r_X4_tryBurn (va_Pc [.ref (za G 8 0), .int (zI z), .int (zI t), .int (zI w)] (zB G S)) (va_Qi (q_X4_tryBurn S z t w) (zB G) (zA G)) 0 0 (zA G) := by
  refine zMet [(0, .ref (za G 8 0)), (1, .int (zI z)), (2, .int (zI t)), (3, .int (zI w))] hG (by decide) (Nat.le_of_ble_eq_true rfl) rfl (fun p e s m args below meth c ls h hx hb hr hH hl => ?_)
  have f4 := zW_4 hw
  refine lv_aload_n hx hb dX4_tryBurn_0 rfl (lv_at hl 0 rfl) ?_
  refine zg_4_0 h hH zf_X4_10 dX4_tryBurn_1 ?_
  refine lv_iload_n hx hb dX4_tryBurn_4 rfl (lv_at hl 1 rfl) ?_
  refine zcVi h hH (zr_3 h hH (by omega)) (As := [.int (zI z)]) (rest := []) (c_X3_hasZone l G hG 0 (by omega) S z (by omega) hw) zce_X3_hasZone zcv_X3_hasZone zm_X4_69 hl.1 rfl rfl ⟨rfl, rfl⟩ ⟨Nat.le_of_ble_eq_true rfl, Nat.le_of_ble_eq_true rfl⟩ (Nat.le_of_ble_eq_true rfl) ⟨Nat.zero_le _, Nat.zero_le _⟩ dX4_tryBurn_5 (fun r_5 S_5 H locs hq hH => ?_)
  obtain ⟨b_5, rfl, hb_5, rfl⟩ := hq
  refine zb_ine (tgt := 13) h (by omega) dX4_tryBurn_8 (by decide) (fun c_8 => ?_) (fun c_8 => ?_)
  · refine lv_aload_n hx hb dX4_tryBurn_13 rfl (lv_at hl 0 rfl) ?_
    refine zg_4_1 h hH zf_X4_16 dX4_tryBurn_14 ?_
    refine lv_aload_n hx hb dX4_tryBurn_17 rfl (lv_at hl 0 rfl) ?_
    refine zg_4_0 h hH zf_X4_10 dX4_tryBurn_18 ?_
    refine zcVv h hH (zr_3 h hH (by omega)) (As := [.ref (za G 0 0)]) (rest := []) (c_X3_copyFrom l G hG 1 0 (by omega) (by omega) (by omega) S hw) zce_X3_copyFrom zcv_X3_copyFrom zm_X4_189 hl.1 rfl rfl ⟨rfl, rfl⟩ ⟨Nat.le_of_ble_eq_true rfl, Nat.le_of_ble_eq_true rfl⟩ (Nat.le_of_ble_eq_true rfl) ⟨Nat.zero_le _, Nat.zero_le _⟩ dX4_tryBurn_21 (fun S_21 H locs hq hH => ?_)
    obtain rfl := hq
    refine lv_aload_n hx hb dX4_tryBurn_24 rfl (lv_at hl 0 rfl) ?_
    refine zg_4_1 h hH zf_X4_16 dX4_tryBurn_25 ?_
    refine zgn_3_3 h hH (by omega) zfn_X4_104 dX4_tryBurn_28 ?_
    refine lv_iload_n hx hb dX4_tryBurn_31 rfl (lv_at hl 1 rfl) ?_
    refine lv_iload_n hx hb dX4_tryBurn_32 rfl (lv_at hl 2 rfl) ?_
    refine zst_ar_bu h hH (by omega) (by omega) dX4_tryBurn_33 (fun H locs hH => ?_)
    rw [zs_P0] at hH
    have hw1 := zW_upz hw (z := z) (w := 2) (v := t) hz.1 (by omega) (by omega) rfl
    have hM1 : ∀ j : Int, 0 ≤ j → j < 10 → zMk (S 0 0 1) (S 0 0 2) j = zMk ((zup (S 0 0) (5 + 5 * z + 2) t) 1) ((zup (S 0 0) (5 + 5 * z + 2) t) 2) j := by intro j _ _; rw [zup_n (by omega), zup_n (by omega)]
    refine lv_iload_n hx hb dX4_tryBurn_34 rfl (lv_at hl 3 rfl) ?_
    refine zb_ine (tgt := 49) h (by omega) dX4_tryBurn_35 (by decide) (fun c_35 => ?_) (fun c_35 => ?_)
    · refine lv_aload_n hx hb dX4_tryBurn_49 rfl (lv_at hl 0 rfl) ?_
      refine zg_4_1 h hH zf_X4_16 dX4_tryBurn_50 ?_
      refine zb_ic h dX4_tryBurn_53 ?_
      refine zcVi h hH (zr_3 h hH (by omega)) (As := [.int (zI 0)]) (rest := []) (c_X3_zonesOff l G hG 1 (by omega) (zPut S 1 (zup (S 0 0) (5 + 5 * z + 2) t) (zMk (S 0 0 1) (S 0 0 2)) (S 1 8)) 0 (by omega) (zP_ms hM1) (zP_hw hw1)) zce_X3_zonesOff zcv_X3_zonesOff zm_X4_98 hl.1 rfl rfl ⟨rfl, rfl⟩ ⟨Nat.le_of_ble_eq_true rfl, Nat.le_of_ble_eq_true rfl⟩ (Nat.le_of_ble_eq_true rfl) ⟨Nat.zero_le _, Nat.zero_le _⟩ dX4_tryBurn_54 (fun r_54 S_54 H locs hq hH => ?_)
      obtain ⟨rfl, rfl⟩ := hq
      rw [zP_0]
      refine zri h hr hH ?_ dX4_tryBurn_57
      exact ⟨congrArg zI (by unfold tBu; first | rw [if_pos (by omega)] | rw [if_neg (by omega)]), _, _, _, rfl⟩
    · refine lv_aload_n hx hb dX4_tryBurn_38 rfl (lv_at hl 0 rfl) ?_
      refine zg_4_1 h hH zf_X4_16 dX4_tryBurn_39 ?_
      refine lv_iload_n hx hb dX4_tryBurn_42 rfl (lv_at hl 1 rfl) ?_
      refine zcVi h hH (zr_3 h hH (by omega)) (As := [.int (zI z)]) (rest := []) (c_X3_toneOf l G hG 1 (by omega) (zPut S 1 (zup (S 0 0) (5 + 5 * z + 2) t) (zMk (S 0 0 1) (S 0 0 2)) (S 1 8)) z (by omega) (zP_ms hM1) (zP_hw hw1)) zce_X3_toneOf zcv_X3_toneOf zm_X4_107 hl.1 rfl rfl ⟨rfl, rfl⟩ ⟨Nat.le_of_ble_eq_true rfl, Nat.le_of_ble_eq_true rfl⟩ (Nat.le_of_ble_eq_true rfl) ⟨Nat.zero_le _, Nat.zero_le _⟩ dX4_tryBurn_43 (fun r_43 S_43 H locs hq hH => ?_)
      obtain ⟨rfl, rfl⟩ := hq
      rw [zP_0]
      refine lv_goto (tgt := 57) hx hb dX4_tryBurn_46 (by decide) ?_
      refine zri h hr hH ?_ dX4_tryBurn_57
      exact ⟨congrArg zI (by unfold tBu; first | rw [if_pos (by omega)] | rw [if_neg (by omega)]), _, _, _, rfl⟩
  · exact absurd c_8 (by omega)
theorem dX4_bestTime_0 : decode cX4_bestTime 0 = .ok (.aload_n 0, 1) := by decide +kernel
theorem dX4_bestTime_1 : decode cX4_bestTime 1 = .ok (.getfield 16, 3) := by decide +kernel
theorem dX4_bestTime_4 : decode cX4_bestTime 4 = .ok (.aload_n 0, 1) := by decide +kernel
theorem dX4_bestTime_5 : decode cX4_bestTime 5 = .ok (.getfield 10, 3) := by decide +kernel
theorem dX4_bestTime_8 : decode cX4_bestTime 8 = .ok (.invokevirtual 189, 3) := by decide +kernel
theorem dX4_bestTime_11 : decode cX4_bestTime 11 = .ok (.iconst (-1), 1) := by decide +kernel
theorem dX4_bestTime_12 : decode cX4_bestTime 12 = .ok (.istore_n 1, 1) := by decide +kernel
theorem dX4_bestTime_13 : decode cX4_bestTime 13 = .ok (.iconst 0, 1) := by decide +kernel
theorem dX4_bestTime_14 : decode cX4_bestTime 14 = .ok (.istore_n 2, 1) := by decide +kernel
theorem dX4_bestTime_15 : decode cX4_bestTime 15 = .ok (.bipush 10, 2) := by decide +kernel
theorem dX4_bestTime_17 : decode cX4_bestTime 17 = .ok (.istore_n 3, 1) := by decide +kernel
theorem dX4_bestTime_18 : decode cX4_bestTime 18 = .ok (.iload_n 3, 1) := by decide +kernel
theorem dX4_bestTime_19 : decode cX4_bestTime 19 = .ok (.sipush 2000, 3) := by decide +kernel
theorem dX4_bestTime_22 : decode cX4_bestTime 22 = .ok (.if_icmp .gt 42, 3) := by decide +kernel
theorem dX4_bestTime_25 : decode cX4_bestTime 25 = .ok (.aload_n 0, 1) := by decide +kernel
theorem dX4_bestTime_26 : decode cX4_bestTime 26 = .ok (.getfield 16, 3) := by decide +kernel
theorem dX4_bestTime_29 : decode cX4_bestTime 29 = .ok (.iload_n 3, 1) := by decide +kernel
theorem dX4_bestTime_30 : decode cX4_bestTime 30 = .ok (.putfield 95, 3) := by decide +kernel
theorem dX4_bestTime_33 : decode cX4_bestTime 33 = .ok (.aload_n 0, 1) := by decide +kernel
theorem dX4_bestTime_34 : decode cX4_bestTime 34 = .ok (.getfield 16, 3) := by decide +kernel
theorem dX4_bestTime_37 : decode cX4_bestTime 37 = .ok (.invokevirtual 192, 3) := by decide +kernel
theorem dX4_bestTime_40 : decode cX4_bestTime 40 = .ok (.istore 4, 2) := by decide +kernel
theorem dX4_bestTime_42 : decode cX4_bestTime 42 = .ok (.iload_n 1, 1) := by decide +kernel
theorem dX4_bestTime_43 : decode cX4_bestTime 43 = .ok (.iconst (-1), 1) := by decide +kernel
theorem dX4_bestTime_44 : decode cX4_bestTime 44 = .ok (.if_icmp .eq 9, 3) := by decide +kernel
theorem dX4_bestTime_47 : decode cX4_bestTime 47 = .ok (.iload 4, 2) := by decide +kernel
theorem dX4_bestTime_49 : decode cX4_bestTime 49 = .ok (.iload_n 2, 1) := by decide +kernel
theorem dX4_bestTime_50 : decode cX4_bestTime 50 = .ok (.if_icmp .ge 8, 3) := by decide +kernel
theorem dX4_bestTime_53 : decode cX4_bestTime 53 = .ok (.iload_n 3, 1) := by decide +kernel
theorem dX4_bestTime_54 : decode cX4_bestTime 54 = .ok (.istore_n 1, 1) := by decide +kernel
theorem dX4_bestTime_55 : decode cX4_bestTime 55 = .ok (.iload 4, 2) := by decide +kernel
theorem dX4_bestTime_57 : decode cX4_bestTime 57 = .ok (.istore_n 2, 1) := by decide +kernel
theorem dX4_bestTime_58 : decode cX4_bestTime 58 = .ok (.iinc 3 10, 3) := by decide +kernel
theorem dX4_bestTime_61 : decode cX4_bestTime 61 = .ok (.goto (-43), 3) := by decide +kernel
theorem dX4_bestTime_64 : decode cX4_bestTime 64 = .ok (.iload_n 1, 1) := by decide +kernel
theorem dX4_bestTime_65 : decode cX4_bestTime 65 = .ok (.ireturn, 1) := by decide +kernel
def q_X4_bestTime (S : zM) : Int32 → zM → Prop := fun r S1 => r = zI (tBt (S 0 0)) ∧ ∃ σ' M' q', zPut S 1 σ' M' q' = S1
def r_X4_bestTime : Room := { frames := 4, cells := 0, slots := 0, locals := 89 }
set_option maxHeartbeats 4000000 in
set_option maxRecDepth 100000 in
theorem c_X4_bestTime (l : Launch) (G : zG) (hG : zok G) (S : zM) (hw : zW (S 0 0)) : Met l yX4_bestTime (Cond.code yX4_bestTime cX4_bestTime 5 (some FieldType.int) :: zTbl) r_X4_bestTime (va_Pc [.ref (za G 8 0)] (zB G S)) (va_Qi (q_X4_bestTime S) (zB G) (zA G)) 0 0 (zA G) := by
  refine zMet [(0, .ref (za G 8 0))] hG (by decide) (Nat.le_of_ble_eq_true rfl) rfl (fun p e s m args below meth c ls h hx hb hr hH hl => ?_)
  have C18 : ∀ (fu : Nat) (a b t n : Int) (τ q : Int → Int) (H : Heap) (locs : List Loc) (ls : Array Slot), (200 - n).toNat < fu → (0 ≤ n ∧ n ≤ 200) → (t = 10 + 10 * n) → ((n = 0 ∧ a = -1 ∧ b = 0) ∨ (1 ≤ n ∧ a = tBF (S 0 0) (n - 1).toNat ∧ b = tBL (S 0 0) (n - 1).toNat ∧ 10 ≤ a ∧ a ≤ 2000 ∧ 0 ≤ b ∧ b ≤ 80)) → (∀ v : Int, zup τ 0 v = zup (S 0 0) 0 v) → zH G (zPut S 1 τ (zMk (S 0 0 1) (S 0 0 2)) q) s H locs → lv_has ls 5 [(0, .ref (za G 8 0)), (1, .int (zI a)), (2, .int (zI b)), (3, .int (zI t))] → W p l e r_X4_bestTime s m args below meth c H locs 0 0 (MQ below (va_Qi (q_X4_bestTime S) (zB G) (zA G)) args s 0 0 (zA G)) (F0 m 18 ls []) := by
    intro fu
    induction fu with
    | zero => intro a b t n τ q H locs ls hfu; omega
    | succ fu ih18 =>
      intro a b t n τ q H locs ls hfu hn ht hab hτ hH hl
      refine lv_iload_n hx hb dX4_bestTime_18 rfl (lv_at hl 3 rfl) ?_
      refine zb_si h dX4_bestTime_19 (by decide) (by decide) ?_
      refine zb_cgt (tgt := 64) h (by omega) (by omega) dX4_bestTime_22 (by decide) (fun c_22 => ?_) (fun c_22 => ?_)
      · refine lv_iload_n hx hb dX4_bestTime_64 rfl (lv_at hl 1 rfl) ?_
        refine zri h hr hH ?_ dX4_bestTime_65
        obtain rfl : n = 200 := by omega
        exact ⟨congrArg zI (by rcases hab with q | q; exact absurd q.1 (by omega); rw [q.2.1]; rfl), _, _, _, rfl⟩
      · refine lv_aload_n hx hb dX4_bestTime_25 rfl (lv_at hl 0 rfl) ?_
        refine zg_4_1 h hH zf_X4_16 dX4_bestTime_26 ?_
        refine lv_iload_n hx hb dX4_bestTime_29 rfl (lv_at hl 3 rfl) ?_
        refine zun_3_8 h hH (by omega) zfn_X4_95 dX4_bestTime_30 (fun H locs hH => ?_)
        rw [zs_P0] at hH
        have hw1 := zW_up0 hw (show 1 ≤ t ∧ t ≤ 2000 by omega)
        have hwτ : zW (zup τ 0 t) := by rw [hτ]; exact hw1
        have hM1 : ∀ j : Int, 0 ≤ j → j < 10 → zMk (S 0 0 1) (S 0 0 2) j = zMk ((zup τ 0 t) 1) ((zup τ 0 t) 2) j := by intro j _ _; rw [hτ, zup_n (by omega), zup_n (by omega)]
        refine lv_aload_n hx hb dX4_bestTime_33 rfl (lv_at hl 0 rfl) ?_
        refine zg_4_1 h hH zf_X4_16 dX4_bestTime_34 ?_
        refine zcVi h hH (zr_3 h hH (by omega)) (As := []) (rest := []) (c_X3_missedTones l G hG 1 (by omega) (zPut S 1 (zup τ 0 t) (zMk (S 0 0 1) (S 0 0 2)) q) (zP_ms hM1) (zP_hw hwτ)) zce_X3_missedTones zcv_X3_missedTones zm_X4_192 hl.1 rfl rfl ⟨rfl, rfl⟩ ⟨Nat.le_of_ble_eq_true rfl, Nat.le_of_ble_eq_true rfl⟩ (Nat.le_of_ble_eq_true rfl) ⟨Nat.zero_le _, Nat.zero_le _⟩ dX4_bestTime_37 (fun r_37 S_37 H locs hq hH => ?_)
        obtain ⟨rfl, rfl⟩ := hq
        rw [zP_0]
        rw [hτ]
        have b_37 := tMis_in hw1
        have e_37 : tMis (zup (S 0 0) 0 t) = tEx (S 0 0) t 1 := rfl
        rw [hτ] at hH
        refine lv_istore (lv' := [(4, .int (zI (tMis (zup (S 0 0) 0 t)))), (0, .ref (za G 8 0)), (1, .int (zI a)), (2, .int (zI b)), (3, .int (zI t))]) hx hb dX4_bestTime_40 hl (by decide) rfl (fun ls hl => ?_)
        refine lv_iload_n hx hb dX4_bestTime_42 rfl (lv_at hl 2 rfl) ?_
        refine zb_ic h dX4_bestTime_43 ?_
        refine zb_ceq (tgt := 53) h (by omega) (by omega) dX4_bestTime_44 (by decide) (fun c_44 => ?_) (fun c_44 => ?_)
        · refine lv_iload_n hx hb dX4_bestTime_53 rfl (lv_at hl 4 rfl) ?_
          refine lv_istore_n (lv' := [(1, .int (zI t)), (4, .int (zI (tMis (zup (S 0 0) 0 t)))), (0, .ref (za G 8 0)), (2, .int (zI b)), (3, .int (zI t))]) hx hb dX4_bestTime_54 rfl hl (by decide) rfl (fun ls hl => ?_)
          refine lv_iload hx hb dX4_bestTime_55 (lv_at hl 1 rfl) ?_
          refine lv_istore_n (lv' := [(2, .int (zI (tMis (zup (S 0 0) 0 t)))), (1, .int (zI t)), (4, .int (zI (tMis (zup (S 0 0) 0 t)))), (0, .ref (za G 8 0)), (3, .int (zI t))]) hx hb dX4_bestTime_57 rfl hl (by decide) rfl (fun ls hl => ?_)
          refine lv_iinc (v := zI (t + 10)) (lv' := [(3, .int (zI (t + 10))), (2, .int (zI (tMis (zup (S 0 0) 0 t)))), (1, .int (zI t)), (4, .int (zI (tMis (zup (S 0 0) 0 t)))), (0, .ref (za G 8 0))]) hx hb dX4_bestTime_58 hl (k := 4) rfl (zI_add _ _) (by decide) rfl (fun ls hl => ?_)
          refine lv_goto (tgt := 18) hx hb dX4_bestTime_61 (by decide) ?_
          exact ih18 t (tMis (zup (S 0 0) 0 t)) (t + 10) (n + 1) (zup (S 0 0) 0 t) q _ _ _ (by omega) (by omega) (by omega) (Or.inr (tB_step hn.1 ht hab e_37 b_37 (by omega))) (fun v => zup_zup _ _ _ _) hH (lv_sub hl [4, 2, 1, 0] rfl)
        · refine lv_iload hx hb dX4_bestTime_47 (lv_at hl 0 rfl) ?_
          refine lv_iload_n hx hb dX4_bestTime_49 rfl (lv_at hl 3 rfl) ?_
          refine zb_cge (tgt := 58) h (by omega) (by omega) dX4_bestTime_50 (by decide) (fun c_50 => ?_) (fun c_50 => ?_)
          · refine lv_iinc (v := zI (t + 10)) (lv' := [(3, .int (zI (t + 10))), (4, .int (zI (tMis (zup (S 0 0) 0 t)))), (0, .ref (za G 8 0)), (1, .int (zI a)), (2, .int (zI b))]) hx hb dX4_bestTime_58 hl (k := 4) rfl (zI_add _ _) (by decide) rfl (fun ls hl => ?_)
            refine lv_goto (tgt := 18) hx hb dX4_bestTime_61 (by decide) ?_
            exact ih18 a b (t + 10) (n + 1) (zup (S 0 0) 0 t) q _ _ _ (by omega) (by omega) (by omega) (Or.inr (tB_step hn.1 ht hab e_37 b_37 (by omega))) (fun v => zup_zup _ _ _ _) hH (lv_sub hl [2, 3, 4, 0] rfl)
          · refine lv_iload_n hx hb dX4_bestTime_53 rfl (lv_at hl 4 rfl) ?_
            refine lv_istore_n (lv' := [(1, .int (zI t)), (4, .int (zI (tMis (zup (S 0 0) 0 t)))), (0, .ref (za G 8 0)), (2, .int (zI b)), (3, .int (zI t))]) hx hb dX4_bestTime_54 rfl hl (by decide) rfl (fun ls hl => ?_)
            refine lv_iload hx hb dX4_bestTime_55 (lv_at hl 1 rfl) ?_
            refine lv_istore_n (lv' := [(2, .int (zI (tMis (zup (S 0 0) 0 t)))), (1, .int (zI t)), (4, .int (zI (tMis (zup (S 0 0) 0 t)))), (0, .ref (za G 8 0)), (3, .int (zI t))]) hx hb dX4_bestTime_57 rfl hl (by decide) rfl (fun ls hl => ?_)
            refine lv_iinc (v := zI (t + 10)) (lv' := [(3, .int (zI (t + 10))), (2, .int (zI (tMis (zup (S 0 0) 0 t)))), (1, .int (zI t)), (4, .int (zI (tMis (zup (S 0 0) 0 t)))), (0, .ref (za G 8 0))]) hx hb dX4_bestTime_58 hl (k := 4) rfl (zI_add _ _) (by decide) rfl (fun ls hl => ?_)
            refine lv_goto (tgt := 18) hx hb dX4_bestTime_61 (by decide) ?_
            exact ih18 t (tMis (zup (S 0 0) 0 t)) (t + 10) (n + 1) (zup (S 0 0) 0 t) q _ _ _ (by omega) (by omega) (by omega) (Or.inr (tB_step hn.1 ht hab e_37 b_37 (by omega))) (fun v => zup_zup _ _ _ _) hH (lv_sub hl [4, 2, 1, 0] rfl)
  refine lv_aload_n hx hb dX4_bestTime_0 rfl (lv_at hl 0 rfl) ?_
  refine zg_4_1 h hH zf_X4_16 dX4_bestTime_1 ?_
  refine lv_aload_n hx hb dX4_bestTime_4 rfl (lv_at hl 0 rfl) ?_
  refine zg_4_0 h hH zf_X4_10 dX4_bestTime_5 ?_
  refine zcVv h hH (zr_3 h hH (by omega)) (As := [.ref (za G 0 0)]) (rest := []) (c_X3_copyFrom l G hG 1 0 (by omega) (by omega) (by omega) S hw) zce_X3_copyFrom zcv_X3_copyFrom zm_X4_189 hl.1 rfl rfl ⟨rfl, rfl⟩ ⟨Nat.le_of_ble_eq_true rfl, Nat.le_of_ble_eq_true rfl⟩ (Nat.le_of_ble_eq_true rfl) ⟨Nat.zero_le _, Nat.zero_le _⟩ dX4_bestTime_8 (fun S_8 H locs hq hH => ?_)
  obtain rfl := hq
  refine zb_ic h dX4_bestTime_11 ?_
  refine lv_istore_n (lv' := [(1, .int (zI (-1))), (0, .ref (za G 8 0))]) hx hb dX4_bestTime_12 rfl hl (by decide) rfl (fun ls hl => ?_)
  refine zb_ic h dX4_bestTime_13 ?_
  refine lv_istore_n (lv' := [(2, .int (zI 0)), (1, .int (zI (-1))), (0, .ref (za G 8 0))]) hx hb dX4_bestTime_14 rfl hl (by decide) rfl (fun ls hl => ?_)
  refine zb_bi h dX4_bestTime_15 (by decide) (by decide) ?_
  refine lv_istore_n (lv' := [(3, .int (zI 10)), (2, .int (zI 0)), (1, .int (zI (-1))), (0, .ref (za G 8 0))]) hx hb dX4_bestTime_17 rfl hl (by decide) rfl (fun ls hl => ?_)
  exact C18 ((200 - 0 : Int).toNat + 1) (-1) 0 10 0 (S 0 0) (S 1 8) _ _ _ (by omega) (by omega) (by omega) (Or.inl ⟨rfl, rfl, rfl⟩) (fun _ => rfl) hH (lv_sub hl [3, 2, 1, 0] rfl)
