theorem dX4_zone_0 : decode cX4_zone 0 = .ok (.iload_n 1, 1) := by decide +kernel
theorem dX4_zone_1 : decode cX4_zone 1 = .ok (.iconst 0, 1) := by decide +kernel
theorem dX4_zone_2 : decode cX4_zone 2 = .ok (.bipush 24, 2) := by decide +kernel
theorem dX4_zone_4 : decode cX4_zone 4 = .ok (.invokestatic 41, 3) := by decide +kernel
theorem dX4_zone_7 : decode cX4_zone 7 = .ok (.ifCond .eq 13, 3) := by decide +kernel
theorem dX4_zone_10 : decode cX4_zone 10 = .ok (.iload_n 2, 1) := by decide +kernel
theorem dX4_zone_11 : decode cX4_zone 11 = .ok (.iconst 0, 1) := by decide +kernel
theorem dX4_zone_12 : decode cX4_zone 12 = .ok (.bipush 10, 2) := by decide +kernel
theorem dX4_zone_14 : decode cX4_zone 14 = .ok (.invokestatic 41, 3) := by decide +kernel
theorem dX4_zone_17 : decode cX4_zone 17 = .ok (.ifCond .ne 13, 3) := by decide +kernel
theorem dX4_zone_20 : decode cX4_zone 20 = .ok (.new 45, 3) := by decide +kernel
theorem dX4_zone_23 : decode cX4_zone 23 = .ok (.dup, 1) := by decide +kernel
theorem dX4_zone_24 : decode cX4_zone 24 = .ok (.ldc 47, 2) := by decide +kernel
theorem dX4_zone_26 : decode cX4_zone 26 = .ok (.invokespecial 49, 3) := by decide +kernel
theorem dX4_zone_29 : decode cX4_zone 29 = .ok (.athrow, 1) := by decide +kernel
theorem dX4_zone_30 : decode cX4_zone 30 = .ok (.aload_n 0, 1) := by decide +kernel
theorem dX4_zone_31 : decode cX4_zone 31 = .ok (.getfield 10, 3) := by decide +kernel
theorem dX4_zone_34 : decode cX4_zone 34 = .ok (.invokevirtual 52, 3) := by decide +kernel
theorem dX4_zone_37 : decode cX4_zone 37 = .ok (.ifCond .eq 13, 3) := by decide +kernel
theorem dX4_zone_40 : decode cX4_zone 40 = .ok (.new 56, 3) := by decide +kernel
theorem dX4_zone_43 : decode cX4_zone 43 = .ok (.dup, 1) := by decide +kernel
theorem dX4_zone_44 : decode cX4_zone 44 = .ok (.ldc 58, 2) := by decide +kernel
theorem dX4_zone_46 : decode cX4_zone 46 = .ok (.invokespecial 60, 3) := by decide +kernel
theorem dX4_zone_49 : decode cX4_zone 49 = .ok (.athrow, 1) := by decide +kernel
theorem dX4_zone_50 : decode cX4_zone 50 = .ok (.aload_n 0, 1) := by decide +kernel
theorem dX4_zone_51 : decode cX4_zone 51 = .ok (.getfield 22, 3) := by decide +kernel
theorem dX4_zone_54 : decode cX4_zone 54 = .ok (.aload_n 0, 1) := by decide +kernel
theorem dX4_zone_55 : decode cX4_zone 55 = .ok (.getfield 10, 3) := by decide +kernel
theorem dX4_zone_58 : decode cX4_zone 58 = .ok (.invokevirtual 61, 3) := by decide +kernel
theorem dX4_zone_61 : decode cX4_zone 61 = .ok (.aload_n 0, 1) := by decide +kernel
theorem dX4_zone_62 : decode cX4_zone 62 = .ok (.getfield 10, 3) := by decide +kernel
theorem dX4_zone_65 : decode cX4_zone 65 = .ok (.iload_n 1, 1) := by decide +kernel
theorem dX4_zone_66 : decode cX4_zone 66 = .ok (.iload_n 2, 1) := by decide +kernel
theorem dX4_zone_67 : decode cX4_zone 67 = .ok (.invokevirtual 65, 3) := by decide +kernel
theorem dX4_zone_70 : decode cX4_zone 70 = .ok (.ireturn, 1) := by decide +kernel
def q_X4_zone (S : zM) (d : Int) (w : Int) : Int32 → zM → Prop := fun r S1 => (((0 ≤ d ∧ d ≤ 24) ∧ (0 ≤ w ∧ w ≤ 10)) ∧ S 0 0 4 < 8) ∧ r = zI (S 0 0 4) ∧ zPut (zKeep S) 0 (tAdd (S 0 0) d w) (S 0 2) (S 0 8) = S1
def x_X4_zone (S : zM) (d : Int) (w : Int) : String → Prop := fun E => (E = "java/lang/IllegalArgumentException" ∧ (¬ ((0 ≤ d ∧ d ≤ 24) ∧ (0 ≤ w ∧ w ≤ 10)))) ∨ (E = "java/lang/IllegalStateException" ∧ (((0 ≤ d ∧ d ≤ 24) ∧ (0 ≤ w ∧ w ≤ 10)) ∧ S 0 0 4 = 8))
def r_X4_zone : Room := { frames := 6, cells := 1, slots := 6, locals := 92 }
set_option maxHeartbeats 4000000 in
set_option maxRecDepth 100000 in
theorem c_X4_zone (l : Launch) (hlx : l.stackTraces = false) (G : zG) (hG : zok G) (S : zM) (d : Int) (hd_ : -2147483648 ≤ d ∧ d ≤ 2147483647) (w : Int) (hw_ : -2147483648 ≤ w ∧ w ≤ 2147483647) (hnx : 0 ≤ S 8 1 2 ∧ S 8 1 2 ≤ 600) (hsz : 0 ≤ S 8 1 1 ∧ S 8 1 1 ≤ 6) (hms : zMs S 0) (hw : zW (S 0 0))  : vx_Met l yX4_zone (Cond.code yX4_zone cX4_zone 3 (some FieldType.int) :: zTbl) r_X4_zone (va_Pc [.ref (za G 8 0), .int (zI d), .int (zI w)] (zBX G S)) (va_Qi (q_X4_zone S d w) (zB G) (zA G)) (zXC G (fun u => u = S) (x_X4_zone S d w)) 1 6 (zA G) := by
  refine zXMet [(0, .ref (za G 8 0)), (1, .int (zI d)), (2, .int (zI w))] hG (by decide) (Nat.le_of_ble_eq_true rfl) rfl (fun p e s m args below meth c ls h hX hT hx hb hr hH hl => ?_)
  have f4 := zW_4 hw
  refine lv_iload_n hx hb dX4_zone_0 rfl (lv_at hl 1 rfl) ?_
  refine zb_ic h dX4_zone_1 ?_
  refine zb_bi h dX4_zone_2 (by decide) (by decide) ?_
  refine zcSi h hH (As := [.int (zI d), .int (zI 0), .int (zI 24)]) (rest := []) (c_X4_isWithin l G hG S d 0 24 (by omega) (by omega) (by omega)) zce_X4_isWithin zt_X4_isWithin zm_X4_41 hl.1 rfl rfl ⟨rfl, rfl⟩ ⟨Nat.le_of_ble_eq_true rfl, Nat.le_of_ble_eq_true rfl⟩ (Nat.le_of_ble_eq_true rfl) ⟨Nat.zero_le _, Nat.zero_le _⟩ dX4_zone_4 (fun r_4 S_4 H locs hq hH => ?_)
  obtain ⟨b_4, rfl, hb_4, rfl⟩ := hq
  refine zb_ieq (tgt := 20) h (by omega) dX4_zone_7 (by decide) (fun c_7 => ?_) (fun c_7 => ?_)
  · refine zthr h hX hT hlx hH hl.1 zx_47 zl_X4_45 zn_IllegalArgumentException zat_IllegalArgumentException rfl (show x_X4_zone S d w "java/lang/IllegalArgumentException" from (Or.inl ⟨rfl, by omega⟩)) dX4_zone_20 dX4_zone_23 dX4_zone_24 dX4_zone_26 dX4_zone_29 ⟨Nat.le_of_ble_eq_true rfl, Nat.le_of_ble_eq_true rfl, Nat.le_of_ble_eq_true rfl, Nat.le_of_ble_eq_true rfl⟩
  · refine lv_iload_n hx hb dX4_zone_10 rfl (lv_at hl 2 rfl) ?_
    refine zb_ic h dX4_zone_11 ?_
    refine zb_bi h dX4_zone_12 (by decide) (by decide) ?_
    refine zcSi h hH (As := [.int (zI w), .int (zI 0), .int (zI 10)]) (rest := []) (c_X4_isWithin l G hG S w 0 10 (by omega) (by omega) (by omega)) zce_X4_isWithin zt_X4_isWithin zm_X4_41 hl.1 rfl rfl ⟨rfl, rfl⟩ ⟨Nat.le_of_ble_eq_true rfl, Nat.le_of_ble_eq_true rfl⟩ (Nat.le_of_ble_eq_true rfl) ⟨Nat.zero_le _, Nat.zero_le _⟩ dX4_zone_14 (fun r_14 S_14 H locs hq hH => ?_)
    obtain ⟨b_14, rfl, hb_14, rfl⟩ := hq
    refine zb_ine (tgt := 30) h (by omega) dX4_zone_17 (by decide) (fun c_17 => ?_) (fun c_17 => ?_)
    · refine lv_aload_n hx hb dX4_zone_30 rfl (lv_at hl 0 rfl) ?_
      refine zg_4_0 h hH zf_X4_10 dX4_zone_31 ?_
      refine zcVi h hH (zr_3 h hH (by omega)) (As := []) (rest := []) (c_X3_isFull l G hG 0 (by omega) S hw) zce_X3_isFull zcv_X3_isFull zm_X4_52 hl.1 rfl rfl ⟨rfl, rfl⟩ ⟨Nat.le_of_ble_eq_true rfl, Nat.le_of_ble_eq_true rfl⟩ (Nat.le_of_ble_eq_true rfl) ⟨Nat.zero_le _, Nat.zero_le _⟩ dX4_zone_34 (fun r_34 S_34 H locs hq hH => ?_)
      obtain ⟨b_34, rfl, hb_34, rfl⟩ := hq
      refine zb_ieq (tgt := 50) h (by omega) dX4_zone_37 (by decide) (fun c_37 => ?_) (fun c_37 => ?_)
      · refine lv_aload_n hx hb dX4_zone_50 rfl (lv_at hl 0 rfl) ?_
        refine zg_4_2 h hH zf_X4_22 dX4_zone_51 ?_
        refine lv_aload_n hx hb dX4_zone_54 rfl (lv_at hl 0 rfl) ?_
        refine zg_4_0 h hH zf_X4_10 dX4_zone_55 ?_
        refine zcVv h hH (zr_0 h hH) (As := [.ref (za G 0 0)]) (rest := []) (c_X0_keep l G hG S hnx hsz hw) zce_X0_keep zcv_X0_keep zm_X4_61 hl.1 rfl rfl ⟨rfl, rfl⟩ ⟨Nat.le_of_ble_eq_true rfl, Nat.le_of_ble_eq_true rfl⟩ (Nat.le_of_ble_eq_true rfl) ⟨Nat.zero_le _, Nat.zero_le _⟩ dX4_zone_58 (fun S_58 H locs hq hH => ?_)
        obtain rfl := hq
        have hH : zH G (zKeep S) s H locs := hH
        rw [← zP_id (zKeep S) 0, zKp_0] at hH
        refine lv_aload_n hx hb dX4_zone_61 rfl (lv_at hl 0 rfl) ?_
        refine zg_4_0 h hH zf_X4_10 dX4_zone_62 ?_
        refine lv_iload_n hx hb dX4_zone_65 rfl (lv_at hl 1 rfl) ?_
        refine lv_iload_n hx hb dX4_zone_66 rfl (lv_at hl 2 rfl) ?_
        refine zcVi h hH (zr_3 h hH (by omega)) (As := [.int (zI d), .int (zI w)]) (rest := []) (c_X3_addZone_ok l G hG 0 (by omega) (zPut (zKeep S) 0 (S 0 0) (S 0 2) (S 0 8)) d w (by omega) (by omega) (by rw [zP_0]; omega) (zP_hw hw)) zce_X3_addZone zcv_X3_addZone zm_X4_65 hl.1 rfl rfl ⟨rfl, rfl⟩ ⟨Nat.le_of_ble_eq_true rfl, Nat.le_of_ble_eq_true rfl⟩ (Nat.le_of_ble_eq_true rfl) ⟨Nat.zero_le _, Nat.zero_le _⟩ dX4_zone_67 (fun r_67 S_67 H locs hq hH => ?_)
        obtain ⟨rfl, rfl⟩ := hq
        rw [zP_0]
        simp only [zP_P, zP_0, zP_2, zP_8] at hH
        refine zXret ?_
        refine zri h hr hH ?_ dX4_zone_70
        exact ⟨by omega, rfl, rfl⟩
      · refine zthr h hX hT hlx hH hl.1 zx_58 zl_X4_56 zn_IllegalStateException zat_IllegalStateException rfl (show x_X4_zone S d w "java/lang/IllegalStateException" from (Or.inr ⟨rfl, by omega⟩)) dX4_zone_40 dX4_zone_43 dX4_zone_44 dX4_zone_46 dX4_zone_49 ⟨Nat.le_of_ble_eq_true rfl, Nat.le_of_ble_eq_true rfl, Nat.le_of_ble_eq_true rfl, Nat.le_of_ble_eq_true rfl⟩
    · refine zthr h hX hT hlx hH hl.1 zx_47 zl_X4_45 zn_IllegalArgumentException zat_IllegalArgumentException rfl (show x_X4_zone S d w "java/lang/IllegalArgumentException" from (Or.inl ⟨rfl, by omega⟩)) dX4_zone_20 dX4_zone_23 dX4_zone_24 dX4_zone_26 dX4_zone_29 ⟨Nat.le_of_ble_eq_true rfl, Nat.le_of_ble_eq_true rfl, Nat.le_of_ble_eq_true rfl, Nat.le_of_ble_eq_true rfl⟩
theorem dX4_want_0 : decode cX4_want 0 = .ok (.aload_n 0, 1) := by decide +kernel
theorem dX4_want_1 : decode cX4_want 1 = .ok (.getfield 10, 3) := by decide +kernel
theorem dX4_want_4 : decode cX4_want 4 = .ok (.iload_n 1, 1) := by decide +kernel
theorem dX4_want_5 : decode cX4_want 5 = .ok (.invokevirtual 69, 3) := by decide +kernel
theorem dX4_want_8 : decode cX4_want 8 = .ok (.ifCond .ne 13, 3) := by decide +kernel
theorem dX4_want_11 : decode cX4_want 11 = .ok (.new 73, 3) := by decide +kernel
theorem dX4_want_14 : decode cX4_want 14 = .ok (.dup, 1) := by decide +kernel
theorem dX4_want_15 : decode cX4_want 15 = .ok (.ldc 75, 2) := by decide +kernel
theorem dX4_want_17 : decode cX4_want 17 = .ok (.invokespecial 77, 3) := by decide +kernel
theorem dX4_want_20 : decode cX4_want 20 = .ok (.athrow, 1) := by decide +kernel
theorem dX4_want_21 : decode cX4_want 21 = .ok (.iload_n 2, 1) := by decide +kernel
theorem dX4_want_22 : decode cX4_want 22 = .ok (.iconst 0, 1) := by decide +kernel
theorem dX4_want_23 : decode cX4_want 23 = .ok (.bipush 10, 2) := by decide +kernel
theorem dX4_want_25 : decode cX4_want 25 = .ok (.invokestatic 41, 3) := by decide +kernel
theorem dX4_want_28 : decode cX4_want 28 = .ok (.ifCond .ne 13, 3) := by decide +kernel
theorem dX4_want_31 : decode cX4_want 31 = .ok (.new 45, 3) := by decide +kernel
theorem dX4_want_34 : decode cX4_want 34 = .ok (.dup, 1) := by decide +kernel
theorem dX4_want_35 : decode cX4_want 35 = .ok (.ldc 78, 2) := by decide +kernel
theorem dX4_want_37 : decode cX4_want 37 = .ok (.invokespecial 49, 3) := by decide +kernel
theorem dX4_want_40 : decode cX4_want 40 = .ok (.athrow, 1) := by decide +kernel
theorem dX4_want_41 : decode cX4_want 41 = .ok (.aload_n 0, 1) := by decide +kernel
theorem dX4_want_42 : decode cX4_want 42 = .ok (.getfield 22, 3) := by decide +kernel
theorem dX4_want_45 : decode cX4_want 45 = .ok (.aload_n 0, 1) := by decide +kernel
theorem dX4_want_46 : decode cX4_want 46 = .ok (.getfield 10, 3) := by decide +kernel
theorem dX4_want_49 : decode cX4_want 49 = .ok (.invokevirtual 61, 3) := by decide +kernel
theorem dX4_want_52 : decode cX4_want 52 = .ok (.aload_n 0, 1) := by decide +kernel
theorem dX4_want_53 : decode cX4_want 53 = .ok (.getfield 10, 3) := by decide +kernel
theorem dX4_want_56 : decode cX4_want 56 = .ok (.getfield 80, 3) := by decide +kernel
theorem dX4_want_59 : decode cX4_want 59 = .ok (.iload_n 1, 1) := by decide +kernel
theorem dX4_want_60 : decode cX4_want 60 = .ok (.iaload, 1) := by decide +kernel
theorem dX4_want_61 : decode cX4_want 61 = .ok (.istore_n 3, 1) := by decide +kernel
theorem dX4_want_62 : decode cX4_want 62 = .ok (.aload_n 0, 1) := by decide +kernel
theorem dX4_want_63 : decode cX4_want 63 = .ok (.getfield 10, 3) := by decide +kernel
theorem dX4_want_66 : decode cX4_want 66 = .ok (.getfield 80, 3) := by decide +kernel
theorem dX4_want_69 : decode cX4_want 69 = .ok (.iload_n 1, 1) := by decide +kernel
theorem dX4_want_70 : decode cX4_want 70 = .ok (.iload_n 2, 1) := by decide +kernel
theorem dX4_want_71 : decode cX4_want 71 = .ok (.iastore, 1) := by decide +kernel
theorem dX4_want_72 : decode cX4_want 72 = .ok (.iload_n 3, 1) := by decide +kernel
theorem dX4_want_73 : decode cX4_want 73 = .ok (.ireturn, 1) := by decide +kernel
def q_X4_want (S : zM) (z : Int) (w : Int) : Int32 → zM → Prop := fun r S1 => ((0 ≤ z ∧ z < S 0 0 4) ∧ (0 ≤ w ∧ w ≤ 10)) ∧ r = zI (S 0 0 (5 + 5 * z + 1)) ∧ zPut (zKeep S) 0 (zup (S 0 0) (5 + 5 * z + 1) w) (S 0 2) (S 0 8) = S1
def x_X4_want (S : zM) (z : Int) (w : Int) : String → Prop := fun E => (E = "java/lang/IndexOutOfBoundsException" ∧ (¬ (0 ≤ z ∧ z < S 0 0 4))) ∨ (E = "java/lang/IllegalArgumentException" ∧ ((0 ≤ z ∧ z < S 0 0 4) ∧ ¬ (0 ≤ w ∧ w ≤ 10)))
def r_X4_want : Room := { frames := 6, cells := 1, slots := 6, locals := 92 }
set_option maxHeartbeats 4000000 in
set_option maxRecDepth 100000 in
theorem c_X4_want (l : Launch) (hlx : l.stackTraces = false) (G : zG) (hG : zok G) (S : zM) (z : Int) (hz_ : -2147483648 ≤ z ∧ z ≤ 2147483647) (w : Int) (hw_ : -2147483648 ≤ w ∧ w ≤ 2147483647) (hnx : 0 ≤ S 8 1 2 ∧ S 8 1 2 ≤ 600) (hsz : 0 ≤ S 8 1 1 ∧ S 8 1 1 ≤ 6) (hms : zMs S 0) (hw : zW (S 0 0))  : vx_Met l yX4_want (Cond.code yX4_want cX4_want 4 (some FieldType.int) :: zTbl) r_X4_want (va_Pc [.ref (za G 8 0), .int (zI z), .int (zI w)] (zBX G S)) (va_Qi (q_X4_want S z w) (zB G) (zA G)) (zXC G (fun u => u = S) (x_X4_want S z w)) 1 6 (zA G) := by
  refine zXMet [(0, .ref (za G 8 0)), (1, .int (zI z)), (2, .int (zI w))] hG (by decide) (Nat.le_of_ble_eq_true rfl) rfl (fun p e s m args below meth c ls h hX hT hx hb hr hH hl => ?_)
  have f4 := zW_4 hw
  refine lv_aload_n hx hb dX4_want_0 rfl (lv_at hl 0 rfl) ?_
  refine zg_4_0 h hH zf_X4_10 dX4_want_1 ?_
  refine lv_iload_n hx hb dX4_want_4 rfl (lv_at hl 1 rfl) ?_
  refine zcVi h hH (zr_3 h hH (by omega)) (As := [.int (zI z)]) (rest := []) (c_X3_hasZone l G hG 0 (by omega) S z (by omega) hw) zce_X3_hasZone zcv_X3_hasZone zm_X4_69 hl.1 rfl rfl ⟨rfl, rfl⟩ ⟨Nat.le_of_ble_eq_true rfl, Nat.le_of_ble_eq_true rfl⟩ (Nat.le_of_ble_eq_true rfl) ⟨Nat.zero_le _, Nat.zero_le _⟩ dX4_want_5 (fun r_5 S_5 H locs hq hH => ?_)
  obtain ⟨b_5, rfl, hb_5, rfl⟩ := hq
  refine zb_ine (tgt := 21) h (by omega) dX4_want_8 (by decide) (fun c_8 => ?_) (fun c_8 => ?_)
  · refine lv_iload_n hx hb dX4_want_21 rfl (lv_at hl 2 rfl) ?_
    refine zb_ic h dX4_want_22 ?_
    refine zb_bi h dX4_want_23 (by decide) (by decide) ?_
    refine zcSi h hH (As := [.int (zI w), .int (zI 0), .int (zI 10)]) (rest := []) (c_X4_isWithin l G hG S w 0 10 (by omega) (by omega) (by omega)) zce_X4_isWithin zt_X4_isWithin zm_X4_41 hl.1 rfl rfl ⟨rfl, rfl⟩ ⟨Nat.le_of_ble_eq_true rfl, Nat.le_of_ble_eq_true rfl⟩ (Nat.le_of_ble_eq_true rfl) ⟨Nat.zero_le _, Nat.zero_le _⟩ dX4_want_25 (fun r_25 S_25 H locs hq hH => ?_)
    obtain ⟨b_25, rfl, hb_25, rfl⟩ := hq
    refine zb_ine (tgt := 41) h (by omega) dX4_want_28 (by decide) (fun c_28 => ?_) (fun c_28 => ?_)
    · refine lv_aload_n hx hb dX4_want_41 rfl (lv_at hl 0 rfl) ?_
      refine zg_4_2 h hH zf_X4_22 dX4_want_42 ?_
      refine lv_aload_n hx hb dX4_want_45 rfl (lv_at hl 0 rfl) ?_
      refine zg_4_0 h hH zf_X4_10 dX4_want_46 ?_
      refine zcVv h hH (zr_0 h hH) (As := [.ref (za G 0 0)]) (rest := []) (c_X0_keep l G hG S hnx hsz hw) zce_X0_keep zcv_X0_keep zm_X4_61 hl.1 rfl rfl ⟨rfl, rfl⟩ ⟨Nat.le_of_ble_eq_true rfl, Nat.le_of_ble_eq_true rfl⟩ (Nat.le_of_ble_eq_true rfl) ⟨Nat.zero_le _, Nat.zero_le _⟩ dX4_want_49 (fun S_49 H locs hq hH => ?_)
      obtain rfl := hq
      have hH : zH G (zKeep S) s H locs := hH
      rw [← zP_id (zKeep S) 0, zKp_0] at hH
      refine lv_aload_n hx hb dX4_want_52 rfl (lv_at hl 0 rfl) ?_
      refine zg_4_0 h hH zf_X4_10 dX4_want_53 ?_
      refine zgn_3_2 h hH (by omega) zfn_X4_80 dX4_want_56 ?_
      refine lv_iload_n hx hb dX4_want_59 rfl (lv_at hl 1 rfl) ?_
      refine zld_ar_wa h hH (by omega) (by omega) dX4_want_60 ?_
      rw [zP_0]
      have f_60 := zW_wa hw (show 0 ≤ z ∧ z < 8 by omega)
      refine lv_istore_n (lv' := [(3, .int (zI (S 0 0 (5 + 5 * z + 1)))), (0, .ref (za G 8 0)), (1, .int (zI z)), (2, .int (zI w))]) hx hb dX4_want_61 rfl hl (by decide) rfl (fun ls hl => ?_)
      refine lv_aload_n hx hb dX4_want_62 rfl (lv_at hl 1 rfl) ?_
      refine zg_4_0 h hH zf_X4_10 dX4_want_63 ?_
      refine zgn_3_2 h hH (by omega) zfn_X4_80 dX4_want_66 ?_
      refine lv_iload_n hx hb dX4_want_69 rfl (lv_at hl 2 rfl) ?_
      refine lv_iload_n hx hb dX4_want_70 rfl (lv_at hl 3 rfl) ?_
      refine zst_ar_wa h hH (by omega) (by omega) dX4_want_71 (fun H locs hH => ?_)
      rw [zs_P0] at hH
      refine lv_iload_n hx hb dX4_want_72 rfl (lv_at hl 0 rfl) ?_
      refine zXret ?_
      refine zri h hr hH ?_ dX4_want_73
      exact ⟨by omega, rfl, rfl⟩
    · refine zthr h hX hT hlx hH hl.1 zx_78 zl_X4_45 zn_IllegalArgumentException zat_IllegalArgumentException rfl (show x_X4_want S z w "java/lang/IllegalArgumentException" from (Or.inr ⟨rfl, by omega⟩)) dX4_want_31 dX4_want_34 dX4_want_35 dX4_want_37 dX4_want_40 ⟨Nat.le_of_ble_eq_true rfl, Nat.le_of_ble_eq_true rfl, Nat.le_of_ble_eq_true rfl, Nat.le_of_ble_eq_true rfl⟩
  · refine zthr h hX hT hlx hH hl.1 zx_75 zl_X4_73 zn_IndexOutOfBoundsException zat_IndexOutOfBoundsException rfl (show x_X4_want S z w "java/lang/IndexOutOfBoundsException" from (Or.inl ⟨rfl, by omega⟩)) dX4_want_11 dX4_want_14 dX4_want_15 dX4_want_17 dX4_want_20 ⟨Nat.le_of_ble_eq_true rfl, Nat.le_of_ble_eq_true rfl, Nat.le_of_ble_eq_true rfl, Nat.le_of_ble_eq_true rfl⟩
theorem dX4_link_0 : decode cX4_link 0 = .ok (.aload_n 0, 1) := by decide +kernel
theorem dX4_link_1 : decode cX4_link 1 = .ok (.getfield 10, 3) := by decide +kernel
theorem dX4_link_4 : decode cX4_link 4 = .ok (.iload_n 1, 1) := by decide +kernel
theorem dX4_link_5 : decode cX4_link 5 = .ok (.invokevirtual 69, 3) := by decide +kernel
theorem dX4_link_8 : decode cX4_link 8 = .ok (.ifCond .eq 14, 3) := by decide +kernel
theorem dX4_link_11 : decode cX4_link 11 = .ok (.aload_n 0, 1) := by decide +kernel
theorem dX4_link_12 : decode cX4_link 12 = .ok (.getfield 10, 3) := by decide +kernel
theorem dX4_link_15 : decode cX4_link 15 = .ok (.iload_n 2, 1) := by decide +kernel
theorem dX4_link_16 : decode cX4_link 16 = .ok (.invokevirtual 69, 3) := by decide +kernel
theorem dX4_link_19 : decode cX4_link 19 = .ok (.ifCond .ne 13, 3) := by decide +kernel
theorem dX4_link_22 : decode cX4_link 22 = .ok (.new 73, 3) := by decide +kernel
theorem dX4_link_25 : decode cX4_link 25 = .ok (.dup, 1) := by decide +kernel
theorem dX4_link_26 : decode cX4_link 26 = .ok (.ldc 75, 2) := by decide +kernel
theorem dX4_link_28 : decode cX4_link 28 = .ok (.invokespecial 77, 3) := by decide +kernel
theorem dX4_link_31 : decode cX4_link 31 = .ok (.athrow, 1) := by decide +kernel
theorem dX4_link_32 : decode cX4_link 32 = .ok (.iload_n 1, 1) := by decide +kernel
theorem dX4_link_33 : decode cX4_link 33 = .ok (.iload_n 2, 1) := by decide +kernel
theorem dX4_link_34 : decode cX4_link 34 = .ok (.if_icmp .ne 13, 3) := by decide +kernel
theorem dX4_link_37 : decode cX4_link 37 = .ok (.new 45, 3) := by decide +kernel
theorem dX4_link_40 : decode cX4_link 40 = .ok (.dup, 1) := by decide +kernel
theorem dX4_link_41 : decode cX4_link 41 = .ok (.ldc 83, 2) := by decide +kernel
theorem dX4_link_43 : decode cX4_link 43 = .ok (.invokespecial 49, 3) := by decide +kernel
theorem dX4_link_46 : decode cX4_link 46 = .ok (.athrow, 1) := by decide +kernel
theorem dX4_link_47 : decode cX4_link 47 = .ok (.aload_n 0, 1) := by decide +kernel
theorem dX4_link_48 : decode cX4_link 48 = .ok (.getfield 22, 3) := by decide +kernel
theorem dX4_link_51 : decode cX4_link 51 = .ok (.aload_n 0, 1) := by decide +kernel
theorem dX4_link_52 : decode cX4_link 52 = .ok (.getfield 10, 3) := by decide +kernel
theorem dX4_link_55 : decode cX4_link 55 = .ok (.invokevirtual 61, 3) := by decide +kernel
theorem dX4_link_58 : decode cX4_link 58 = .ok (.aload_n 0, 1) := by decide +kernel
theorem dX4_link_59 : decode cX4_link 59 = .ok (.getfield 10, 3) := by decide +kernel
theorem dX4_link_62 : decode cX4_link 62 = .ok (.iload_n 1, 1) := by decide +kernel
theorem dX4_link_63 : decode cX4_link 63 = .ok (.iload_n 2, 1) := by decide +kernel
theorem dX4_link_64 : decode cX4_link 64 = .ok (.invokevirtual 85, 3) := by decide +kernel
theorem dX4_link_67 : decode cX4_link 67 = .ok (.ifCond .ne 7, 3) := by decide +kernel
theorem dX4_link_70 : decode cX4_link 70 = .ok (.iconst 1, 1) := by decide +kernel
theorem dX4_link_71 : decode cX4_link 71 = .ok (.goto 4, 3) := by decide +kernel
theorem dX4_link_74 : decode cX4_link 74 = .ok (.iconst 0, 1) := by decide +kernel
theorem dX4_link_75 : decode cX4_link 75 = .ok (.istore_n 3, 1) := by decide +kernel
theorem dX4_link_76 : decode cX4_link 76 = .ok (.aload_n 0, 1) := by decide +kernel
theorem dX4_link_77 : decode cX4_link 77 = .ok (.getfield 10, 3) := by decide +kernel
theorem dX4_link_80 : decode cX4_link 80 = .ok (.iload_n 1, 1) := by decide +kernel
theorem dX4_link_81 : decode cX4_link 81 = .ok (.iload_n 2, 1) := by decide +kernel
theorem dX4_link_82 : decode cX4_link 82 = .ok (.iload_n 3, 1) := by decide +kernel
theorem dX4_link_83 : decode cX4_link 83 = .ok (.invokevirtual 89, 3) := by decide +kernel
theorem dX4_link_86 : decode cX4_link 86 = .ok (.iload_n 3, 1) := by decide +kernel
theorem dX4_link_87 : decode cX4_link 87 = .ok (.ifCond .eq 7, 3) := by decide +kernel
theorem dX4_link_90 : decode cX4_link 90 = .ok (.iconst 1, 1) := by decide +kernel
theorem dX4_link_91 : decode cX4_link 91 = .ok (.goto 4, 3) := by decide +kernel
theorem dX4_link_94 : decode cX4_link 94 = .ok (.iconst 0, 1) := by decide +kernel
theorem dX4_link_95 : decode cX4_link 95 = .ok (.ireturn, 1) := by decide +kernel
def q_X4_link (S : zM) (a : Int) (b : Int) : Int32 → zM → Prop := fun r S1 => (((0 ≤ a ∧ a < S 0 0 4) ∧ (0 ≤ b ∧ b < S 0 0 4)) ∧ a ≠ b) ∧ r = zI (1 - tb (S 0 0) a b) ∧ zPut (zKeep S) 0 (tLk (S 0 0) a b (1 - tb (S 0 0) a b)) (S 0 2) (S 0 8) = S1
def x_X4_link (S : zM) (a : Int) (b : Int) : String → Prop := fun E => (E = "java/lang/IndexOutOfBoundsException" ∧ (¬ ((0 ≤ a ∧ a < S 0 0 4) ∧ (0 ≤ b ∧ b < S 0 0 4)))) ∨ (E = "java/lang/IllegalArgumentException" ∧ (((0 ≤ a ∧ a < S 0 0 4) ∧ (0 ≤ b ∧ b < S 0 0 4)) ∧ a = b))
def r_X4_link : Room := { frames := 6, cells := 1, slots := 6, locals := 92 }
set_option maxHeartbeats 4000000 in
set_option maxRecDepth 100000 in
theorem c_X4_link (l : Launch) (hlx : l.stackTraces = false) (G : zG) (hG : zok G) (S : zM) (a : Int) (ha_ : -2147483648 ≤ a ∧ a ≤ 2147483647) (b : Int) (hb_ : -2147483648 ≤ b ∧ b ≤ 2147483647) (hnx : 0 ≤ S 8 1 2 ∧ S 8 1 2 ≤ 600) (hsz : 0 ≤ S 8 1 1 ∧ S 8 1 1 ≤ 6) (hms : zMs S 0) (hw : zW (S 0 0))  : vx_Met l yX4_link (Cond.code yX4_link cX4_link 4 (some FieldType.int) :: zTbl) r_X4_link (va_Pc [.ref (za G 8 0), .int (zI a), .int (zI b)] (zBX G S)) (va_Qi (q_X4_link S a b) (zB G) (zA G)) (zXC G (fun u => u = S) (x_X4_link S a b)) 1 6 (zA G) := by
  refine zXMet [(0, .ref (za G 8 0)), (1, .int (zI a)), (2, .int (zI b))] hG (by decide) (Nat.le_of_ble_eq_true rfl) rfl (fun p e s m args below meth c ls h hX hT hx hb hr hH hl => ?_)
  have f4 := zW_4 hw
  refine lv_aload_n hx hb dX4_link_0 rfl (lv_at hl 0 rfl) ?_
  refine zg_4_0 h hH zf_X4_10 dX4_link_1 ?_
  refine lv_iload_n hx hb dX4_link_4 rfl (lv_at hl 1 rfl) ?_
  refine zcVi h hH (zr_3 h hH (by omega)) (As := [.int (zI a)]) (rest := []) (c_X3_hasZone l G hG 0 (by omega) S a (by omega) hw) zce_X3_hasZone zcv_X3_hasZone zm_X4_69 hl.1 rfl rfl ⟨rfl, rfl⟩ ⟨Nat.le_of_ble_eq_true rfl, Nat.le_of_ble_eq_true rfl⟩ (Nat.le_of_ble_eq_true rfl) ⟨Nat.zero_le _, Nat.zero_le _⟩ dX4_link_5 (fun r_5 S_5 H locs hq hH => ?_)
  obtain ⟨b_5, rfl, hb_5, rfl⟩ := hq
  refine zb_ieq (tgt := 22) h (by omega) dX4_link_8 (by decide) (fun c_8 => ?_) (fun c_8 => ?_)
  · refine zthr h hX hT hlx hH hl.1 zx_75 zl_X4_73 zn_IndexOutOfBoundsException zat_IndexOutOfBoundsException rfl (show x_X4_link S a b "java/lang/IndexOutOfBoundsException" from (Or.inl ⟨rfl, by omega⟩)) dX4_link_22 dX4_link_25 dX4_link_26 dX4_link_28 dX4_link_31 ⟨Nat.le_of_ble_eq_true rfl, Nat.le_of_ble_eq_true rfl, Nat.le_of_ble_eq_true rfl, Nat.le_of_ble_eq_true rfl⟩
  · refine lv_aload_n hx hb dX4_link_11 rfl (lv_at hl 0 rfl) ?_
    refine zg_4_0 h hH zf_X4_10 dX4_link_12 ?_
    refine lv_iload_n hx hb dX4_link_15 rfl (lv_at hl 2 rfl) ?_
    refine zcVi h hH (zr_3 h hH (by omega)) (As := [.int (zI b)]) (rest := []) (c_X3_hasZone l G hG 0 (by omega) S b (by omega) hw) zce_X3_hasZone zcv_X3_hasZone zm_X4_69 hl.1 rfl rfl ⟨rfl, rfl⟩ ⟨Nat.le_of_ble_eq_true rfl, Nat.le_of_ble_eq_true rfl⟩ (Nat.le_of_ble_eq_true rfl) ⟨Nat.zero_le _, Nat.zero_le _⟩ dX4_link_16 (fun r_16 S_16 H locs hq hH => ?_)
    obtain ⟨b_16, rfl, hb_16, rfl⟩ := hq
    refine zb_ine (tgt := 32) h (by omega) dX4_link_19 (by decide) (fun c_19 => ?_) (fun c_19 => ?_)
    · refine lv_iload_n hx hb dX4_link_32 rfl (lv_at hl 1 rfl) ?_
      refine lv_iload_n hx hb dX4_link_33 rfl (lv_at hl 2 rfl) ?_
      refine zb_cne (tgt := 47) h (by omega) (by omega) dX4_link_34 (by decide) (fun c_34 => ?_) (fun c_34 => ?_)
      · refine lv_aload_n hx hb dX4_link_47 rfl (lv_at hl 0 rfl) ?_
        refine zg_4_2 h hH zf_X4_22 dX4_link_48 ?_
        refine lv_aload_n hx hb dX4_link_51 rfl (lv_at hl 0 rfl) ?_
        refine zg_4_0 h hH zf_X4_10 dX4_link_52 ?_
        refine zcVv h hH (zr_0 h hH) (As := [.ref (za G 0 0)]) (rest := []) (c_X0_keep l G hG S hnx hsz hw) zce_X0_keep zcv_X0_keep zm_X4_61 hl.1 rfl rfl ⟨rfl, rfl⟩ ⟨Nat.le_of_ble_eq_true rfl, Nat.le_of_ble_eq_true rfl⟩ (Nat.le_of_ble_eq_true rfl) ⟨Nat.zero_le _, Nat.zero_le _⟩ dX4_link_55 (fun S_55 H locs hq hH => ?_)
        obtain rfl := hq
        have hH : zH G (zKeep S) s H locs := hH
        rw [← zP_id (zKeep S) 0, zKp_0] at hH
        refine lv_aload_n hx hb dX4_link_58 rfl (lv_at hl 0 rfl) ?_
        refine zg_4_0 h hH zf_X4_10 dX4_link_59 ?_
        refine lv_iload_n hx hb dX4_link_62 rfl (lv_at hl 1 rfl) ?_
        refine lv_iload_n hx hb dX4_link_63 rfl (lv_at hl 2 rfl) ?_
        refine zcVi h hH (zr_3 h hH (by omega)) (As := [.int (zI a), .int (zI b)]) (rest := []) (c_X3_areNeighbours l G hG 0 (by omega) (zPut (zKeep S) 0 (S 0 0) (S 0 2) (S 0 8)) a b (by rw [zP_0]; omega) (by omega) (zP_hw hw)) zce_X3_areNeighbours zcv_X3_areNeighbours zm_X4_85 hl.1 rfl rfl ⟨rfl, rfl⟩ ⟨Nat.le_of_ble_eq_true rfl, Nat.le_of_ble_eq_true rfl⟩ (Nat.le_of_ble_eq_true rfl) ⟨Nat.zero_le _, Nat.zero_le _⟩ dX4_link_64 (fun r_64 S_64 H locs hq hH => ?_)
        obtain ⟨b_64, rfl, hb_64, rfl⟩ := hq
        (try rw [zP_0] at hb_64)
        have hbt := tb_in (S 0 0) a b
        have et : tb (S 0 0) a b = S 0 0 (5 + 5 * a + 4) / 2 ^ b.toNat % 2 := rfl
        refine zb_ine (tgt := 74) h (by omega) dX4_link_67 (by decide) (fun c_67 => ?_) (fun c_67 => ?_)
        · refine zb_ic h dX4_link_74 ?_
          refine lv_istore_n (lv' := [(3, .int (zI 0)), (0, .ref (za G 8 0)), (1, .int (zI a)), (2, .int (zI b))]) hx hb dX4_link_75 rfl hl (by decide) rfl (fun ls hl => ?_)
          refine lv_aload_n hx hb dX4_link_76 rfl (lv_at hl 1 rfl) ?_
          refine zg_4_0 h hH zf_X4_10 dX4_link_77 ?_
          refine lv_iload_n hx hb dX4_link_80 rfl (lv_at hl 2 rfl) ?_
          refine lv_iload_n hx hb dX4_link_81 rfl (lv_at hl 3 rfl) ?_
          refine lv_iload_n hx hb dX4_link_82 rfl (lv_at hl 0 rfl) ?_
          refine zcVv h hH (zr_3 h hH (by omega)) (As := [.int (zI a), .int (zI b), .int (zI 0)]) (rest := []) (c_X3_setNeighbours l G hG 0 (by omega) (zPut (zKeep S) 0 (S 0 0) (S 0 2) (S 0 8)) a b 0 (by rw [zP_0]; omega) (by rw [zP_0]; omega) (by omega) (by omega) (zP_hw hw)) zce_X3_setNeighbours zcv_X3_setNeighbours zm_X4_89 hl.1 rfl rfl ⟨rfl, rfl⟩ ⟨Nat.le_of_ble_eq_true rfl, Nat.le_of_ble_eq_true rfl⟩ (Nat.le_of_ble_eq_true rfl) ⟨Nat.zero_le _, Nat.zero_le _⟩ dX4_link_83 (fun S_83 H locs hq hH => ?_)
          obtain rfl := hq
          simp only [zP_P, zP_0, zP_2, zP_8] at hH
          refine lv_iload_n hx hb dX4_link_86 rfl (lv_at hl 0 rfl) ?_
          refine zb_ieq (tgt := 94) h (by omega) dX4_link_87 (by decide) (fun c_87 => ?_) (fun c_87 => ?_)
          · refine zb_ic h dX4_link_94 ?_
            refine zXret ?_
            refine zri h hr hH ?_ dX4_link_95
            have e1 : (0 : Int) = 1 - tb (S 0 0) a b := by omega
            unfold q_X4_link
            rw [← e1]
            exact ⟨by omega, rfl, rfl⟩
          · exact absurd c_87 (by omega)
        · refine zb_ic h dX4_link_70 ?_
          refine lv_goto (tgt := 75) hx hb dX4_link_71 (by decide) ?_
          refine lv_istore_n (lv' := [(3, .int (zI 1)), (0, .ref (za G 8 0)), (1, .int (zI a)), (2, .int (zI b))]) hx hb dX4_link_75 rfl hl (by decide) rfl (fun ls hl => ?_)
          refine lv_aload_n hx hb dX4_link_76 rfl (lv_at hl 1 rfl) ?_
          refine zg_4_0 h hH zf_X4_10 dX4_link_77 ?_
          refine lv_iload_n hx hb dX4_link_80 rfl (lv_at hl 2 rfl) ?_
          refine lv_iload_n hx hb dX4_link_81 rfl (lv_at hl 3 rfl) ?_
          refine lv_iload_n hx hb dX4_link_82 rfl (lv_at hl 0 rfl) ?_
          refine zcVv h hH (zr_3 h hH (by omega)) (As := [.int (zI a), .int (zI b), .int (zI 1)]) (rest := []) (c_X3_setNeighbours l G hG 0 (by omega) (zPut (zKeep S) 0 (S 0 0) (S 0 2) (S 0 8)) a b 1 (by rw [zP_0]; omega) (by rw [zP_0]; omega) (by omega) (by omega) (zP_hw hw)) zce_X3_setNeighbours zcv_X3_setNeighbours zm_X4_89 hl.1 rfl rfl ⟨rfl, rfl⟩ ⟨Nat.le_of_ble_eq_true rfl, Nat.le_of_ble_eq_true rfl⟩ (Nat.le_of_ble_eq_true rfl) ⟨Nat.zero_le _, Nat.zero_le _⟩ dX4_link_83 (fun S_83 H locs hq hH => ?_)
          obtain rfl := hq
          simp only [zP_P, zP_0, zP_2, zP_8] at hH
          refine lv_iload_n hx hb dX4_link_86 rfl (lv_at hl 0 rfl) ?_
          refine zb_ieq (tgt := 94) h (by omega) dX4_link_87 (by decide) (fun c_87 => ?_) (fun c_87 => ?_)
          · exact absurd c_87 (by omega)
          · refine zb_ic h dX4_link_90 ?_
            refine lv_goto (tgt := 95) hx hb dX4_link_91 (by decide) ?_
            refine zXret ?_
            refine zri h hr hH ?_ dX4_link_95
            have e1 : (1 : Int) = 1 - tb (S 0 0) a b := by omega
            unfold q_X4_link
            rw [← e1]
            exact ⟨by omega, rfl, rfl⟩
      · refine zthr h hX hT hlx hH hl.1 zx_83 zl_X4_45 zn_IllegalArgumentException zat_IllegalArgumentException rfl (show x_X4_link S a b "java/lang/IllegalArgumentException" from (Or.inr ⟨rfl, by omega⟩)) dX4_link_37 dX4_link_40 dX4_link_41 dX4_link_43 dX4_link_46 ⟨Nat.le_of_ble_eq_true rfl, Nat.le_of_ble_eq_true rfl, Nat.le_of_ble_eq_true rfl, Nat.le_of_ble_eq_true rfl⟩
    · refine zthr h hX hT hlx hH hl.1 zx_75 zl_X4_73 zn_IndexOutOfBoundsException zat_IndexOutOfBoundsException rfl (show x_X4_link S a b "java/lang/IndexOutOfBoundsException" from (Or.inl ⟨rfl, by omega⟩)) dX4_link_22 dX4_link_25 dX4_link_26 dX4_link_28 dX4_link_31 ⟨Nat.le_of_ble_eq_true rfl, Nat.le_of_ble_eq_true rfl, Nat.le_of_ble_eq_true rfl, Nat.le_of_ble_eq_true rfl⟩
theorem dX4_expose_0 : decode cX4_expose 0 = .ok (.iload_n 1, 1) := by decide +kernel
theorem dX4_expose_1 : decode cX4_expose 1 = .ok (.iconst 1, 1) := by decide +kernel
theorem dX4_expose_2 : decode cX4_expose 2 = .ok (.sipush 2000, 3) := by decide +kernel
theorem dX4_expose_5 : decode cX4_expose 5 = .ok (.invokestatic 41, 3) := by decide +kernel
theorem dX4_expose_8 : decode cX4_expose 8 = .ok (.ifCond .ne 13, 3) := by decide +kernel
theorem dX4_expose_11 : decode cX4_expose 11 = .ok (.new 45, 3) := by decide +kernel
theorem dX4_expose_14 : decode cX4_expose 14 = .ok (.dup, 1) := by decide +kernel
theorem dX4_expose_15 : decode cX4_expose 15 = .ok (.ldc 93, 2) := by decide +kernel
theorem dX4_expose_17 : decode cX4_expose 17 = .ok (.invokespecial 49, 3) := by decide +kernel
theorem dX4_expose_20 : decode cX4_expose 20 = .ok (.athrow, 1) := by decide +kernel
theorem dX4_expose_21 : decode cX4_expose 21 = .ok (.aload_n 0, 1) := by decide +kernel
theorem dX4_expose_22 : decode cX4_expose 22 = .ok (.getfield 22, 3) := by decide +kernel
theorem dX4_expose_25 : decode cX4_expose 25 = .ok (.aload_n 0, 1) := by decide +kernel
theorem dX4_expose_26 : decode cX4_expose 26 = .ok (.getfield 10, 3) := by decide +kernel
theorem dX4_expose_29 : decode cX4_expose 29 = .ok (.invokevirtual 61, 3) := by decide +kernel
theorem dX4_expose_32 : decode cX4_expose 32 = .ok (.aload_n 0, 1) := by decide +kernel
theorem dX4_expose_33 : decode cX4_expose 33 = .ok (.getfield 10, 3) := by decide +kernel
theorem dX4_expose_36 : decode cX4_expose 36 = .ok (.iload_n 1, 1) := by decide +kernel
theorem dX4_expose_37 : decode cX4_expose 37 = .ok (.putfield 95, 3) := by decide +kernel
theorem dX4_expose_40 : decode cX4_expose 40 = .ok (.aload_n 0, 1) := by decide +kernel
theorem dX4_expose_41 : decode cX4_expose 41 = .ok (.getfield 10, 3) := by decide +kernel
theorem dX4_expose_44 : decode cX4_expose 44 = .ok (.iconst 0, 1) := by decide +kernel
theorem dX4_expose_45 : decode cX4_expose 45 = .ok (.invokevirtual 98, 3) := by decide +kernel
theorem dX4_expose_48 : decode cX4_expose 48 = .ok (.ireturn, 1) := by decide +kernel
def q_X4_expose (S : zM) (t : Int) : Int32 → zM → Prop := fun r S1 => (1 ≤ t ∧ t ≤ 2000) ∧ r = zI (tCnt (zup (S 0 0) 0 t) 0) ∧ zPut (zKeep S) 0 (zup (S 0 0) 0 t) (S 0 2) (S 0 8) = S1
def x_X4_expose (S : zM) (t : Int) : String → Prop := fun E => (E = "java/lang/IllegalArgumentException" ∧ (¬ (1 ≤ t ∧ t ≤ 2000)))
def r_X4_expose : Room := { frames := 6, cells := 1, slots := 6, locals := 92 }
set_option maxHeartbeats 4000000 in
set_option maxRecDepth 100000 in
theorem c_X4_expose (l : Launch) (hlx : l.stackTraces = false) (G : zG) (hG : zok G) (S : zM) (t : Int) (ht_ : -2147483648 ≤ t ∧ t ≤ 2147483647) (hnx : 0 ≤ S 8 1 2 ∧ S 8 1 2 ≤ 600) (hsz : 0 ≤ S 8 1 1 ∧ S 8 1 1 ≤ 6) (hms : zMs S 0) (hw : zW (S 0 0))  : vx_Met l yX4_expose (Cond.code yX4_expose cX4_expose 2 (some FieldType.int) :: zTbl) r_X4_expose (va_Pc [.ref (za G 8 0), .int (zI t)] (zBX G S)) (va_Qi (q_X4_expose S t) (zB G) (zA G)) (zXC G (fun u => u = S) (x_X4_expose S t)) 1 6 (zA G) := by
  refine zXMet [(0, .ref (za G 8 0)), (1, .int (zI t))] hG (by decide) (Nat.le_of_ble_eq_true rfl) rfl (fun p e s m args below meth c ls h hX hT hx hb hr hH hl => ?_)
  have f4 := zW_4 hw
  refine lv_iload_n hx hb dX4_expose_0 rfl (lv_at hl 1 rfl) ?_
  refine zb_ic h dX4_expose_1 ?_
  refine zb_si h dX4_expose_2 (by decide) (by decide) ?_
  refine zcSi h hH (As := [.int (zI t), .int (zI 1), .int (zI 2000)]) (rest := []) (c_X4_isWithin l G hG S t 1 2000 (by omega) (by omega) (by omega)) zce_X4_isWithin zt_X4_isWithin zm_X4_41 hl.1 rfl rfl ⟨rfl, rfl⟩ ⟨Nat.le_of_ble_eq_true rfl, Nat.le_of_ble_eq_true rfl⟩ (Nat.le_of_ble_eq_true rfl) ⟨Nat.zero_le _, Nat.zero_le _⟩ dX4_expose_5 (fun r_5 S_5 H locs hq hH => ?_)
  obtain ⟨b_5, rfl, hb_5, rfl⟩ := hq
  refine zb_ine (tgt := 21) h (by omega) dX4_expose_8 (by decide) (fun c_8 => ?_) (fun c_8 => ?_)
  · refine lv_aload_n hx hb dX4_expose_21 rfl (lv_at hl 0 rfl) ?_
    refine zg_4_2 h hH zf_X4_22 dX4_expose_22 ?_
    refine lv_aload_n hx hb dX4_expose_25 rfl (lv_at hl 0 rfl) ?_
    refine zg_4_0 h hH zf_X4_10 dX4_expose_26 ?_
    refine zcVv h hH (zr_0 h hH) (As := [.ref (za G 0 0)]) (rest := []) (c_X0_keep l G hG S hnx hsz hw) zce_X0_keep zcv_X0_keep zm_X4_61 hl.1 rfl rfl ⟨rfl, rfl⟩ ⟨Nat.le_of_ble_eq_true rfl, Nat.le_of_ble_eq_true rfl⟩ (Nat.le_of_ble_eq_true rfl) ⟨Nat.zero_le _, Nat.zero_le _⟩ dX4_expose_29 (fun S_29 H locs hq hH => ?_)
    obtain rfl := hq
    have hH : zH G (zKeep S) s H locs := hH
    rw [← zP_id (zKeep S) 0, zKp_0] at hH
    refine lv_aload_n hx hb dX4_expose_32 rfl (lv_at hl 0 rfl) ?_
    refine zg_4_0 h hH zf_X4_10 dX4_expose_33 ?_
    refine lv_iload_n hx hb dX4_expose_36 rfl (lv_at hl 1 rfl) ?_
    refine zun_3_8 h hH (by omega) zfn_X4_95 dX4_expose_37 (fun H locs hH => ?_)
    rw [zs_P0] at hH
    have hw1 : zW (zup (S 0 0) 0 t) := zW_up0 hw (by omega)
    have hM1 : ∀ j : Int, 0 ≤ j → j < 10 → S 0 2 j = zMk ((zup (S 0 0) 0 t) 1) ((zup (S 0 0) 0 t) 2) j := by rw [zup_n (by omega), zup_n (by omega)]; exact hms
    refine lv_aload_n hx hb dX4_expose_40 rfl (lv_at hl 0 rfl) ?_
    refine zg_4_0 h hH zf_X4_10 dX4_expose_41 ?_
    refine zb_ic h dX4_expose_44 ?_
    refine zcVi h hH (zr_3 h hH (by omega)) (As := [.int (zI 0)]) (rest := []) (c_X3_zonesOff l G hG 0 (by omega) (zPut (zKeep S) 0 (zup (S 0 0) 0 t) (S 0 2) (S 0 8)) 0 (by omega) (zP_ms hM1) (zP_hw hw1)) zce_X3_zonesOff zcv_X3_zonesOff zm_X4_98 hl.1 rfl rfl ⟨rfl, rfl⟩ ⟨Nat.le_of_ble_eq_true rfl, Nat.le_of_ble_eq_true rfl⟩ (Nat.le_of_ble_eq_true rfl) ⟨Nat.zero_le _, Nat.zero_le _⟩ dX4_expose_45 (fun r_45 S_45 H locs hq hH => ?_)
    obtain ⟨rfl, rfl⟩ := hq
    rw [zP_0]
    refine zXret ?_
    refine zri h hr hH ?_ dX4_expose_48
    exact ⟨by omega, rfl, rfl⟩
  · refine zthr h hX hT hlx hH hl.1 zx_93 zl_X4_45 zn_IllegalArgumentException zat_IllegalArgumentException rfl (show x_X4_expose S t "java/lang/IllegalArgumentException" from ⟨rfl, by omega⟩) dX4_expose_11 dX4_expose_14 dX4_expose_15 dX4_expose_17 dX4_expose_20 ⟨Nat.le_of_ble_eq_true rfl, Nat.le_of_ble_eq_true rfl, Nat.le_of_ble_eq_true rfl, Nat.le_of_ble_eq_true rfl⟩
theorem dX4_burn_0 : decode cX4_burn 0 = .ok (.aload_n 0, 1) := by decide +kernel
theorem dX4_burn_1 : decode cX4_burn 1 = .ok (.getfield 10, 3) := by decide +kernel
theorem dX4_burn_4 : decode cX4_burn 4 = .ok (.iload_n 1, 1) := by decide +kernel
theorem dX4_burn_5 : decode cX4_burn 5 = .ok (.invokevirtual 69, 3) := by decide +kernel
theorem dX4_burn_8 : decode cX4_burn 8 = .ok (.ifCond .ne 13, 3) := by decide +kernel
theorem dX4_burn_11 : decode cX4_burn 11 = .ok (.new 73, 3) := by decide +kernel
theorem dX4_burn_14 : decode cX4_burn 14 = .ok (.dup, 1) := by decide +kernel
theorem dX4_burn_15 : decode cX4_burn 15 = .ok (.ldc 75, 2) := by decide +kernel
theorem dX4_burn_17 : decode cX4_burn 17 = .ok (.invokespecial 77, 3) := by decide +kernel
theorem dX4_burn_20 : decode cX4_burn 20 = .ok (.athrow, 1) := by decide +kernel
theorem dX4_burn_21 : decode cX4_burn 21 = .ok (.iload_n 2, 1) := by decide +kernel
theorem dX4_burn_22 : decode cX4_burn 22 = .ok (.iconst 0, 1) := by decide +kernel
theorem dX4_burn_23 : decode cX4_burn 23 = .ok (.sipush 999, 3) := by decide +kernel
theorem dX4_burn_26 : decode cX4_burn 26 = .ok (.invokestatic 41, 3) := by decide +kernel
theorem dX4_burn_29 : decode cX4_burn 29 = .ok (.ifCond .ne 13, 3) := by decide +kernel
theorem dX4_burn_32 : decode cX4_burn 32 = .ok (.new 45, 3) := by decide +kernel
theorem dX4_burn_35 : decode cX4_burn 35 = .ok (.dup, 1) := by decide +kernel
theorem dX4_burn_36 : decode cX4_burn 36 = .ok (.ldc 102, 2) := by decide +kernel
theorem dX4_burn_38 : decode cX4_burn 38 = .ok (.invokespecial 49, 3) := by decide +kernel
theorem dX4_burn_41 : decode cX4_burn 41 = .ok (.athrow, 1) := by decide +kernel
theorem dX4_burn_42 : decode cX4_burn 42 = .ok (.aload_n 0, 1) := by decide +kernel
theorem dX4_burn_43 : decode cX4_burn 43 = .ok (.getfield 22, 3) := by decide +kernel
theorem dX4_burn_46 : decode cX4_burn 46 = .ok (.aload_n 0, 1) := by decide +kernel
theorem dX4_burn_47 : decode cX4_burn 47 = .ok (.getfield 10, 3) := by decide +kernel
theorem dX4_burn_50 : decode cX4_burn 50 = .ok (.invokevirtual 61, 3) := by decide +kernel
theorem dX4_burn_53 : decode cX4_burn 53 = .ok (.aload_n 0, 1) := by decide +kernel
theorem dX4_burn_54 : decode cX4_burn 54 = .ok (.getfield 10, 3) := by decide +kernel
theorem dX4_burn_57 : decode cX4_burn 57 = .ok (.getfield 104, 3) := by decide +kernel
theorem dX4_burn_60 : decode cX4_burn 60 = .ok (.iload_n 1, 1) := by decide +kernel
theorem dX4_burn_61 : decode cX4_burn 61 = .ok (.iload_n 2, 1) := by decide +kernel
theorem dX4_burn_62 : decode cX4_burn 62 = .ok (.iastore, 1) := by decide +kernel
theorem dX4_burn_63 : decode cX4_burn 63 = .ok (.aload_n 0, 1) := by decide +kernel
theorem dX4_burn_64 : decode cX4_burn 64 = .ok (.getfield 10, 3) := by decide +kernel
theorem dX4_burn_67 : decode cX4_burn 67 = .ok (.iload_n 1, 1) := by decide +kernel
theorem dX4_burn_68 : decode cX4_burn 68 = .ok (.invokevirtual 107, 3) := by decide +kernel
theorem dX4_burn_71 : decode cX4_burn 71 = .ok (.ireturn, 1) := by decide +kernel
def q_X4_burn (S : zM) (z : Int) (t : Int) : Int32 → zM → Prop := fun r S1 => ((0 ≤ z ∧ z < S 0 0 4) ∧ (0 ≤ t ∧ t ≤ 999)) ∧ r = zI (tTo (zup (S 0 0) (5 + 5 * z + 2) t) z) ∧ zPut (zKeep S) 0 (zup (S 0 0) (5 + 5 * z + 2) t) (S 0 2) (S 0 8) = S1
def x_X4_burn (S : zM) (z : Int) (t : Int) : String → Prop := fun E => (E = "java/lang/IndexOutOfBoundsException" ∧ (¬ (0 ≤ z ∧ z < S 0 0 4))) ∨ (E = "java/lang/IllegalArgumentException" ∧ ((0 ≤ z ∧ z < S 0 0 4) ∧ ¬ (0 ≤ t ∧ t ≤ 999)))
def r_X4_burn : Room := { frames := 6, cells := 1, slots := 6, locals := 92 }
set_option maxHeartbeats 4000000 in
set_option maxRecDepth 100000 in
theorem c_X4_burn (l : Launch) (hlx : l.stackTraces = false) (G : zG) (hG : zok G) (S : zM) (z : Int) (hz_ : -2147483648 ≤ z ∧ z ≤ 2147483647) (t : Int) (ht_ : -2147483648 ≤ t ∧ t ≤ 2147483647) (hnx : 0 ≤ S 8 1 2 ∧ S 8 1 2 ≤ 600) (hsz : 0 ≤ S 8 1 1 ∧ S 8 1 1 ≤ 6) (hms : zMs S 0) (hw : zW (S 0 0))  : vx_Met l yX4_burn (Cond.code yX4_burn cX4_burn 3 (some FieldType.int) :: zTbl) r_X4_burn (va_Pc [.ref (za G 8 0), .int (zI z), .int (zI t)] (zBX G S)) (va_Qi (q_X4_burn S z t) (zB G) (zA G)) (zXC G (fun u => u = S) (x_X4_burn S z t)) 1 6 (zA G) := by
  refine zXMet [(0, .ref (za G 8 0)), (1, .int (zI z)), (2, .int (zI t))] hG (by decide) (Nat.le_of_ble_eq_true rfl) rfl (fun p e s m args below meth c ls h hX hT hx hb hr hH hl => ?_)
  have f4 := zW_4 hw
  refine lv_aload_n hx hb dX4_burn_0 rfl (lv_at hl 0 rfl) ?_
  refine zg_4_0 h hH zf_X4_10 dX4_burn_1 ?_
  refine lv_iload_n hx hb dX4_burn_4 rfl (lv_at hl 1 rfl) ?_
  refine zcVi h hH (zr_3 h hH (by omega)) (As := [.int (zI z)]) (rest := []) (c_X3_hasZone l G hG 0 (by omega) S z (by omega) hw) zce_X3_hasZone zcv_X3_hasZone zm_X4_69 hl.1 rfl rfl ⟨rfl, rfl⟩ ⟨Nat.le_of_ble_eq_true rfl, Nat.le_of_ble_eq_true rfl⟩ (Nat.le_of_ble_eq_true rfl) ⟨Nat.zero_le _, Nat.zero_le _⟩ dX4_burn_5 (fun r_5 S_5 H locs hq hH => ?_)
  obtain ⟨b_5, rfl, hb_5, rfl⟩ := hq
  refine zb_ine (tgt := 21) h (by omega) dX4_burn_8 (by decide) (fun c_8 => ?_) (fun c_8 => ?_)
  · refine lv_iload_n hx hb dX4_burn_21 rfl (lv_at hl 2 rfl) ?_
    refine zb_ic h dX4_burn_22 ?_
    refine zb_si h dX4_burn_23 (by decide) (by decide) ?_
    refine zcSi h hH (As := [.int (zI t), .int (zI 0), .int (zI 999)]) (rest := []) (c_X4_isWithin l G hG S t 0 999 (by omega) (by omega) (by omega)) zce_X4_isWithin zt_X4_isWithin zm_X4_41 hl.1 rfl rfl ⟨rfl, rfl⟩ ⟨Nat.le_of_ble_eq_true rfl, Nat.le_of_ble_eq_true rfl⟩ (Nat.le_of_ble_eq_true rfl) ⟨Nat.zero_le _, Nat.zero_le _⟩ dX4_burn_26 (fun r_26 S_26 H locs hq hH => ?_)
    obtain ⟨b_26, rfl, hb_26, rfl⟩ := hq
    refine zb_ine (tgt := 42) h (by omega) dX4_burn_29 (by decide) (fun c_29 => ?_) (fun c_29 => ?_)
    · refine lv_aload_n hx hb dX4_burn_42 rfl (lv_at hl 0 rfl) ?_
      refine zg_4_2 h hH zf_X4_22 dX4_burn_43 ?_
      refine lv_aload_n hx hb dX4_burn_46 rfl (lv_at hl 0 rfl) ?_
      refine zg_4_0 h hH zf_X4_10 dX4_burn_47 ?_
      refine zcVv h hH (zr_0 h hH) (As := [.ref (za G 0 0)]) (rest := []) (c_X0_keep l G hG S hnx hsz hw) zce_X0_keep zcv_X0_keep zm_X4_61 hl.1 rfl rfl ⟨rfl, rfl⟩ ⟨Nat.le_of_ble_eq_true rfl, Nat.le_of_ble_eq_true rfl⟩ (Nat.le_of_ble_eq_true rfl) ⟨Nat.zero_le _, Nat.zero_le _⟩ dX4_burn_50 (fun S_50 H locs hq hH => ?_)
      obtain rfl := hq
      have hH : zH G (zKeep S) s H locs := hH
      rw [← zP_id (zKeep S) 0, zKp_0] at hH
      refine lv_aload_n hx hb dX4_burn_53 rfl (lv_at hl 0 rfl) ?_
      refine zg_4_0 h hH zf_X4_10 dX4_burn_54 ?_
      refine zgn_3_3 h hH (by omega) zfn_X4_104 dX4_burn_57 ?_
      refine lv_iload_n hx hb dX4_burn_60 rfl (lv_at hl 1 rfl) ?_
      refine lv_iload_n hx hb dX4_burn_61 rfl (lv_at hl 2 rfl) ?_
      refine zst_ar_bu h hH (by omega) (by omega) dX4_burn_62 (fun H locs hH => ?_)
      rw [zs_P0] at hH
      have hw1 : zW (zup (S 0 0) (5 + 5 * z + 2) t) := zW_upz hw (z := z) (w := 2) (v := t) (by omega) (by omega) (by omega) rfl
      have hM1 : ∀ j : Int, 0 ≤ j → j < 10 → S 0 2 j = zMk ((zup (S 0 0) (5 + 5 * z + 2) t) 1) ((zup (S 0 0) (5 + 5 * z + 2) t) 2) j := by rw [zup_n (by omega), zup_n (by omega)]; exact hms
      refine lv_aload_n hx hb dX4_burn_63 rfl (lv_at hl 0 rfl) ?_
      refine zg_4_0 h hH zf_X4_10 dX4_burn_64 ?_
      refine lv_iload_n hx hb dX4_burn_67 rfl (lv_at hl 1 rfl) ?_
      refine zcVi h hH (zr_3 h hH (by omega)) (As := [.int (zI z)]) (rest := []) (c_X3_toneOf l G hG 0 (by omega) (zPut (zKeep S) 0 (zup (S 0 0) (5 + 5 * z + 2) t) (S 0 2) (S 0 8)) z (by omega) (zP_ms hM1) (zP_hw hw1)) zce_X3_toneOf zcv_X3_toneOf zm_X4_107 hl.1 rfl rfl ⟨rfl, rfl⟩ ⟨Nat.le_of_ble_eq_true rfl, Nat.le_of_ble_eq_true rfl⟩ (Nat.le_of_ble_eq_true rfl) ⟨Nat.zero_le _, Nat.zero_le _⟩ dX4_burn_68 (fun r_68 S_68 H locs hq hH => ?_)
      obtain ⟨rfl, rfl⟩ := hq
      rw [zP_0]
      refine zXret ?_
      refine zri h hr hH ?_ dX4_burn_71
      exact ⟨by omega, rfl, rfl⟩
    · refine zthr h hX hT hlx hH hl.1 zx_102 zl_X4_45 zn_IllegalArgumentException zat_IllegalArgumentException rfl (show x_X4_burn S z t "java/lang/IllegalArgumentException" from (Or.inr ⟨rfl, by omega⟩)) dX4_burn_32 dX4_burn_35 dX4_burn_36 dX4_burn_38 dX4_burn_41 ⟨Nat.le_of_ble_eq_true rfl, Nat.le_of_ble_eq_true rfl, Nat.le_of_ble_eq_true rfl, Nat.le_of_ble_eq_true rfl⟩
  · refine zthr h hX hT hlx hH hl.1 zx_75 zl_X4_73 zn_IndexOutOfBoundsException zat_IndexOutOfBoundsException rfl (show x_X4_burn S z t "java/lang/IndexOutOfBoundsException" from (Or.inl ⟨rfl, by omega⟩)) dX4_burn_11 dX4_burn_14 dX4_burn_15 dX4_burn_17 dX4_burn_20 ⟨Nat.le_of_ble_eq_true rfl, Nat.le_of_ble_eq_true rfl, Nat.le_of_ble_eq_true rfl, Nat.le_of_ble_eq_true rfl⟩
theorem dX4_hold_0 : decode cX4_hold 0 = .ok (.aload_n 0, 1) := by decide +kernel
theorem dX4_hold_1 : decode cX4_hold 1 = .ok (.getfield 10, 3) := by decide +kernel
theorem dX4_hold_4 : decode cX4_hold 4 = .ok (.iload_n 1, 1) := by decide +kernel
theorem dX4_hold_5 : decode cX4_hold 5 = .ok (.invokevirtual 69, 3) := by decide +kernel
theorem dX4_hold_8 : decode cX4_hold 8 = .ok (.ifCond .ne 13, 3) := by decide +kernel
theorem dX4_hold_11 : decode cX4_hold 11 = .ok (.new 73, 3) := by decide +kernel
theorem dX4_hold_14 : decode cX4_hold 14 = .ok (.dup, 1) := by decide +kernel
theorem dX4_hold_15 : decode cX4_hold 15 = .ok (.ldc 75, 2) := by decide +kernel
theorem dX4_hold_17 : decode cX4_hold 17 = .ok (.invokespecial 77, 3) := by decide +kernel
theorem dX4_hold_20 : decode cX4_hold 20 = .ok (.athrow, 1) := by decide +kernel
theorem dX4_hold_21 : decode cX4_hold 21 = .ok (.iload_n 2, 1) := by decide +kernel
theorem dX4_hold_22 : decode cX4_hold 22 = .ok (.iconst 0, 1) := by decide +kernel
theorem dX4_hold_23 : decode cX4_hold 23 = .ok (.sipush 999, 3) := by decide +kernel
theorem dX4_hold_26 : decode cX4_hold 26 = .ok (.invokestatic 41, 3) := by decide +kernel
theorem dX4_hold_29 : decode cX4_hold 29 = .ok (.ifCond .ne 13, 3) := by decide +kernel
theorem dX4_hold_32 : decode cX4_hold 32 = .ok (.new 45, 3) := by decide +kernel
theorem dX4_hold_35 : decode cX4_hold 35 = .ok (.dup, 1) := by decide +kernel
theorem dX4_hold_36 : decode cX4_hold 36 = .ok (.ldc 102, 2) := by decide +kernel
theorem dX4_hold_38 : decode cX4_hold 38 = .ok (.invokespecial 49, 3) := by decide +kernel
theorem dX4_hold_41 : decode cX4_hold 41 = .ok (.athrow, 1) := by decide +kernel
theorem dX4_hold_42 : decode cX4_hold 42 = .ok (.aload_n 0, 1) := by decide +kernel
theorem dX4_hold_43 : decode cX4_hold 43 = .ok (.getfield 22, 3) := by decide +kernel
theorem dX4_hold_46 : decode cX4_hold 46 = .ok (.aload_n 0, 1) := by decide +kernel
theorem dX4_hold_47 : decode cX4_hold 47 = .ok (.getfield 10, 3) := by decide +kernel
theorem dX4_hold_50 : decode cX4_hold 50 = .ok (.invokevirtual 61, 3) := by decide +kernel
theorem dX4_hold_53 : decode cX4_hold 53 = .ok (.aload_n 0, 1) := by decide +kernel
theorem dX4_hold_54 : decode cX4_hold 54 = .ok (.getfield 10, 3) := by decide +kernel
theorem dX4_hold_57 : decode cX4_hold 57 = .ok (.getfield 110, 3) := by decide +kernel
theorem dX4_hold_60 : decode cX4_hold 60 = .ok (.iload_n 1, 1) := by decide +kernel
theorem dX4_hold_61 : decode cX4_hold 61 = .ok (.iload_n 2, 1) := by decide +kernel
theorem dX4_hold_62 : decode cX4_hold 62 = .ok (.iastore, 1) := by decide +kernel
theorem dX4_hold_63 : decode cX4_hold 63 = .ok (.aload_n 0, 1) := by decide +kernel
theorem dX4_hold_64 : decode cX4_hold 64 = .ok (.getfield 10, 3) := by decide +kernel
theorem dX4_hold_67 : decode cX4_hold 67 = .ok (.iload_n 1, 1) := by decide +kernel
theorem dX4_hold_68 : decode cX4_hold 68 = .ok (.invokevirtual 107, 3) := by decide +kernel
theorem dX4_hold_71 : decode cX4_hold 71 = .ok (.ireturn, 1) := by decide +kernel
def q_X4_hold (S : zM) (z : Int) (t : Int) : Int32 → zM → Prop := fun r S1 => ((0 ≤ z ∧ z < S 0 0 4) ∧ (0 ≤ t ∧ t ≤ 999)) ∧ r = zI (tTo (zup (S 0 0) (5 + 5 * z + 3) t) z) ∧ zPut (zKeep S) 0 (zup (S 0 0) (5 + 5 * z + 3) t) (S 0 2) (S 0 8) = S1
def x_X4_hold (S : zM) (z : Int) (t : Int) : String → Prop := fun E => (E = "java/lang/IndexOutOfBoundsException" ∧ (¬ (0 ≤ z ∧ z < S 0 0 4))) ∨ (E = "java/lang/IllegalArgumentException" ∧ ((0 ≤ z ∧ z < S 0 0 4) ∧ ¬ (0 ≤ t ∧ t ≤ 999)))
def r_X4_hold : Room := { frames := 6, cells := 1, slots := 6, locals := 92 }
set_option maxHeartbeats 4000000 in
set_option maxRecDepth 100000 in
theorem c_X4_hold (l : Launch) (hlx : l.stackTraces = false) (G : zG) (hG : zok G) (S : zM) (z : Int) (hz_ : -2147483648 ≤ z ∧ z ≤ 2147483647) (t : Int) (ht_ : -2147483648 ≤ t ∧ t ≤ 2147483647) (hnx : 0 ≤ S 8 1 2 ∧ S 8 1 2 ≤ 600) (hsz : 0 ≤ S 8 1 1 ∧ S 8 1 1 ≤ 6) (hms : zMs S 0) (hw : zW (S 0 0))  : vx_Met l yX4_hold (Cond.code yX4_hold cX4_hold 3 (some FieldType.int) :: zTbl) r_X4_hold (va_Pc [.ref (za G 8 0), .int (zI z), .int (zI t)] (zBX G S)) (va_Qi (q_X4_hold S z t) (zB G) (zA G)) (zXC G (fun u => u = S) (x_X4_hold S z t)) 1 6 (zA G) := by
  refine zXMet [(0, .ref (za G 8 0)), (1, .int (zI z)), (2, .int (zI t))] hG (by decide) (Nat.le_of_ble_eq_true rfl) rfl (fun p e s m args below meth c ls h hX hT hx hb hr hH hl => ?_)
  have f4 := zW_4 hw
  refine lv_aload_n hx hb dX4_hold_0 rfl (lv_at hl 0 rfl) ?_
  refine zg_4_0 h hH zf_X4_10 dX4_hold_1 ?_
  refine lv_iload_n hx hb dX4_hold_4 rfl (lv_at hl 1 rfl) ?_
  refine zcVi h hH (zr_3 h hH (by omega)) (As := [.int (zI z)]) (rest := []) (c_X3_hasZone l G hG 0 (by omega) S z (by omega) hw) zce_X3_hasZone zcv_X3_hasZone zm_X4_69 hl.1 rfl rfl ⟨rfl, rfl⟩ ⟨Nat.le_of_ble_eq_true rfl, Nat.le_of_ble_eq_true rfl⟩ (Nat.le_of_ble_eq_true rfl) ⟨Nat.zero_le _, Nat.zero_le _⟩ dX4_hold_5 (fun r_5 S_5 H locs hq hH => ?_)
  obtain ⟨b_5, rfl, hb_5, rfl⟩ := hq
  refine zb_ine (tgt := 21) h (by omega) dX4_hold_8 (by decide) (fun c_8 => ?_) (fun c_8 => ?_)
  · refine lv_iload_n hx hb dX4_hold_21 rfl (lv_at hl 2 rfl) ?_
    refine zb_ic h dX4_hold_22 ?_
    refine zb_si h dX4_hold_23 (by decide) (by decide) ?_
    refine zcSi h hH (As := [.int (zI t), .int (zI 0), .int (zI 999)]) (rest := []) (c_X4_isWithin l G hG S t 0 999 (by omega) (by omega) (by omega)) zce_X4_isWithin zt_X4_isWithin zm_X4_41 hl.1 rfl rfl ⟨rfl, rfl⟩ ⟨Nat.le_of_ble_eq_true rfl, Nat.le_of_ble_eq_true rfl⟩ (Nat.le_of_ble_eq_true rfl) ⟨Nat.zero_le _, Nat.zero_le _⟩ dX4_hold_26 (fun r_26 S_26 H locs hq hH => ?_)
    obtain ⟨b_26, rfl, hb_26, rfl⟩ := hq
    refine zb_ine (tgt := 42) h (by omega) dX4_hold_29 (by decide) (fun c_29 => ?_) (fun c_29 => ?_)
    · refine lv_aload_n hx hb dX4_hold_42 rfl (lv_at hl 0 rfl) ?_
      refine zg_4_2 h hH zf_X4_22 dX4_hold_43 ?_
      refine lv_aload_n hx hb dX4_hold_46 rfl (lv_at hl 0 rfl) ?_
      refine zg_4_0 h hH zf_X4_10 dX4_hold_47 ?_
      refine zcVv h hH (zr_0 h hH) (As := [.ref (za G 0 0)]) (rest := []) (c_X0_keep l G hG S hnx hsz hw) zce_X0_keep zcv_X0_keep zm_X4_61 hl.1 rfl rfl ⟨rfl, rfl⟩ ⟨Nat.le_of_ble_eq_true rfl, Nat.le_of_ble_eq_true rfl⟩ (Nat.le_of_ble_eq_true rfl) ⟨Nat.zero_le _, Nat.zero_le _⟩ dX4_hold_50 (fun S_50 H locs hq hH => ?_)
      obtain rfl := hq
      have hH : zH G (zKeep S) s H locs := hH
      rw [← zP_id (zKeep S) 0, zKp_0] at hH
      refine lv_aload_n hx hb dX4_hold_53 rfl (lv_at hl 0 rfl) ?_
      refine zg_4_0 h hH zf_X4_10 dX4_hold_54 ?_
      refine zgn_3_4 h hH (by omega) zfn_X4_110 dX4_hold_57 ?_
      refine lv_iload_n hx hb dX4_hold_60 rfl (lv_at hl 1 rfl) ?_
      refine lv_iload_n hx hb dX4_hold_61 rfl (lv_at hl 2 rfl) ?_
      refine zst_ar_ho h hH (by omega) (by omega) dX4_hold_62 (fun H locs hH => ?_)
      rw [zs_P0] at hH
      have hw1 : zW (zup (S 0 0) (5 + 5 * z + 3) t) := zW_upz hw (z := z) (w := 3) (v := t) (by omega) (by omega) (by omega) rfl
      have hM1 : ∀ j : Int, 0 ≤ j → j < 10 → S 0 2 j = zMk ((zup (S 0 0) (5 + 5 * z + 3) t) 1) ((zup (S 0 0) (5 + 5 * z + 3) t) 2) j := by rw [zup_n (by omega), zup_n (by omega)]; exact hms
      refine lv_aload_n hx hb dX4_hold_63 rfl (lv_at hl 0 rfl) ?_
      refine zg_4_0 h hH zf_X4_10 dX4_hold_64 ?_
      refine lv_iload_n hx hb dX4_hold_67 rfl (lv_at hl 1 rfl) ?_
      refine zcVi h hH (zr_3 h hH (by omega)) (As := [.int (zI z)]) (rest := []) (c_X3_toneOf l G hG 0 (by omega) (zPut (zKeep S) 0 (zup (S 0 0) (5 + 5 * z + 3) t) (S 0 2) (S 0 8)) z (by omega) (zP_ms hM1) (zP_hw hw1)) zce_X3_toneOf zcv_X3_toneOf zm_X4_107 hl.1 rfl rfl ⟨rfl, rfl⟩ ⟨Nat.le_of_ble_eq_true rfl, Nat.le_of_ble_eq_true rfl⟩ (Nat.le_of_ble_eq_true rfl) ⟨Nat.zero_le _, Nat.zero_le _⟩ dX4_hold_68 (fun r_68 S_68 H locs hq hH => ?_)
      obtain ⟨rfl, rfl⟩ := hq
      rw [zP_0]
      refine zXret ?_
      refine zri h hr hH ?_ dX4_hold_71
      exact ⟨by omega, rfl, rfl⟩
    · refine zthr h hX hT hlx hH hl.1 zx_102 zl_X4_45 zn_IllegalArgumentException zat_IllegalArgumentException rfl (show x_X4_hold S z t "java/lang/IllegalArgumentException" from (Or.inr ⟨rfl, by omega⟩)) dX4_hold_32 dX4_hold_35 dX4_hold_36 dX4_hold_38 dX4_hold_41 ⟨Nat.le_of_ble_eq_true rfl, Nat.le_of_ble_eq_true rfl, Nat.le_of_ble_eq_true rfl, Nat.le_of_ble_eq_true rfl⟩
  · refine zthr h hX hT hlx hH hl.1 zx_75 zl_X4_73 zn_IndexOutOfBoundsException zat_IndexOutOfBoundsException rfl (show x_X4_hold S z t "java/lang/IndexOutOfBoundsException" from (Or.inl ⟨rfl, by omega⟩)) dX4_hold_11 dX4_hold_14 dX4_hold_15 dX4_hold_17 dX4_hold_20 ⟨Nat.le_of_ble_eq_true rfl, Nat.le_of_ble_eq_true rfl, Nat.le_of_ble_eq_true rfl, Nat.le_of_ble_eq_true rfl⟩
theorem dX4_paper_0 : decode cX4_paper 0 = .ok (.iload_n 1, 1) := by decide +kernel
theorem dX4_paper_1 : decode cX4_paper 1 = .ok (.iconst 0, 1) := by decide +kernel
theorem dX4_paper_2 : decode cX4_paper 2 = .ok (.iconst 5, 1) := by decide +kernel
theorem dX4_paper_3 : decode cX4_paper 3 = .ok (.invokestatic 41, 3) := by decide +kernel
theorem dX4_paper_6 : decode cX4_paper 6 = .ok (.ifCond .eq 15, 3) := by decide +kernel
theorem dX4_paper_9 : decode cX4_paper 9 = .ok (.iload_n 2, 1) := by decide +kernel
theorem dX4_paper_10 : decode cX4_paper 10 = .ok (.bipush 10, 2) := by decide +kernel
theorem dX4_paper_12 : decode cX4_paper 12 = .ok (.sipush 999, 3) := by decide +kernel
theorem dX4_paper_15 : decode cX4_paper 15 = .ok (.invokestatic 41, 3) := by decide +kernel
theorem dX4_paper_18 : decode cX4_paper 18 = .ok (.ifCond .ne 13, 3) := by decide +kernel
theorem dX4_paper_21 : decode cX4_paper 21 = .ok (.new 45, 3) := by decide +kernel
theorem dX4_paper_24 : decode cX4_paper 24 = .ok (.dup, 1) := by decide +kernel
theorem dX4_paper_25 : decode cX4_paper 25 = .ok (.ldc 113, 2) := by decide +kernel
theorem dX4_paper_27 : decode cX4_paper 27 = .ok (.invokespecial 49, 3) := by decide +kernel
theorem dX4_paper_30 : decode cX4_paper 30 = .ok (.athrow, 1) := by decide +kernel
theorem dX4_paper_31 : decode cX4_paper 31 = .ok (.aload_n 0, 1) := by decide +kernel
theorem dX4_paper_32 : decode cX4_paper 32 = .ok (.getfield 22, 3) := by decide +kernel
theorem dX4_paper_35 : decode cX4_paper 35 = .ok (.aload_n 0, 1) := by decide +kernel
theorem dX4_paper_36 : decode cX4_paper 36 = .ok (.getfield 10, 3) := by decide +kernel
theorem dX4_paper_39 : decode cX4_paper 39 = .ok (.invokevirtual 61, 3) := by decide +kernel
theorem dX4_paper_42 : decode cX4_paper 42 = .ok (.aload_n 0, 1) := by decide +kernel
theorem dX4_paper_43 : decode cX4_paper 43 = .ok (.getfield 10, 3) := by decide +kernel
theorem dX4_paper_46 : decode cX4_paper 46 = .ok (.getfield 115, 3) := by decide +kernel
theorem dX4_paper_49 : decode cX4_paper 49 = .ok (.iload_n 1, 1) := by decide +kernel
theorem dX4_paper_50 : decode cX4_paper 50 = .ok (.iload_n 2, 1) := by decide +kernel
theorem dX4_paper_51 : decode cX4_paper 51 = .ok (.invokevirtual 119, 3) := by decide +kernel
theorem dX4_paper_54 : decode cX4_paper 54 = .ok (.aload_n 0, 1) := by decide +kernel
theorem dX4_paper_55 : decode cX4_paper 55 = .ok (.getfield 10, 3) := by decide +kernel
theorem dX4_paper_58 : decode cX4_paper 58 = .ok (.iconst 0, 1) := by decide +kernel
theorem dX4_paper_59 : decode cX4_paper 59 = .ok (.invokevirtual 98, 3) := by decide +kernel
theorem dX4_paper_62 : decode cX4_paper 62 = .ok (.ireturn, 1) := by decide +kernel
def q_X4_paper (S : zM) (g : Int) (v : Int) : Int32 → zM → Prop := fun r S1 => ((0 ≤ g ∧ g ≤ 5) ∧ (10 ≤ v ∧ v ≤ 999)) ∧ r = zI (tCnt (zup (zup (S 0 0) 1 g) 2 v) 0) ∧ zPut (zKeep S) 0 (zup (zup (S 0 0) 1 g) 2 v) (zMk g v) (S 0 8) = S1
def x_X4_paper (S : zM) (g : Int) (v : Int) : String → Prop := fun E => (E = "java/lang/IllegalArgumentException" ∧ (¬ ((0 ≤ g ∧ g ≤ 5) ∧ (10 ≤ v ∧ v ≤ 999))))
def r_X4_paper : Room := { frames := 6, cells := 1, slots := 6, locals := 92 }
set_option maxHeartbeats 4000000 in
set_option maxRecDepth 100000 in
theorem c_X4_paper (l : Launch) (hlx : l.stackTraces = false) (G : zG) (hG : zok G) (S : zM) (g : Int) (hg_ : -2147483648 ≤ g ∧ g ≤ 2147483647) (v : Int) (hv_ : -2147483648 ≤ v ∧ v ≤ 2147483647) (hnx : 0 ≤ S 8 1 2 ∧ S 8 1 2 ≤ 600) (hsz : 0 ≤ S 8 1 1 ∧ S 8 1 1 ≤ 6) (hms : zMs S 0) (hw : zW (S 0 0))  : vx_Met l yX4_paper (Cond.code yX4_paper cX4_paper 3 (some FieldType.int) :: zTbl) r_X4_paper (va_Pc [.ref (za G 8 0), .int (zI g), .int (zI v)] (zBX G S)) (va_Qi (q_X4_paper S g v) (zB G) (zA G)) (zXC G (fun u => u = S) (x_X4_paper S g v)) 1 6 (zA G) := by
  refine zXMet [(0, .ref (za G 8 0)), (1, .int (zI g)), (2, .int (zI v))] hG (by decide) (Nat.le_of_ble_eq_true rfl) rfl (fun p e s m args below meth c ls h hX hT hx hb hr hH hl => ?_)
  have f4 := zW_4 hw
  refine lv_iload_n hx hb dX4_paper_0 rfl (lv_at hl 1 rfl) ?_
  refine zb_ic h dX4_paper_1 ?_
  refine zb_ic h dX4_paper_2 ?_
  refine zcSi h hH (As := [.int (zI g), .int (zI 0), .int (zI 5)]) (rest := []) (c_X4_isWithin l G hG S g 0 5 (by omega) (by omega) (by omega)) zce_X4_isWithin zt_X4_isWithin zm_X4_41 hl.1 rfl rfl ⟨rfl, rfl⟩ ⟨Nat.le_of_ble_eq_true rfl, Nat.le_of_ble_eq_true rfl⟩ (Nat.le_of_ble_eq_true rfl) ⟨Nat.zero_le _, Nat.zero_le _⟩ dX4_paper_3 (fun r_3 S_3 H locs hq hH => ?_)
  obtain ⟨b_3, rfl, hb_3, rfl⟩ := hq
  refine zb_ieq (tgt := 21) h (by omega) dX4_paper_6 (by decide) (fun c_6 => ?_) (fun c_6 => ?_)
  · refine zthr h hX hT hlx hH hl.1 zx_113 zl_X4_45 zn_IllegalArgumentException zat_IllegalArgumentException rfl (show x_X4_paper S g v "java/lang/IllegalArgumentException" from ⟨rfl, by omega⟩) dX4_paper_21 dX4_paper_24 dX4_paper_25 dX4_paper_27 dX4_paper_30 ⟨Nat.le_of_ble_eq_true rfl, Nat.le_of_ble_eq_true rfl, Nat.le_of_ble_eq_true rfl, Nat.le_of_ble_eq_true rfl⟩
  · refine lv_iload_n hx hb dX4_paper_9 rfl (lv_at hl 2 rfl) ?_
    refine zb_bi h dX4_paper_10 (by decide) (by decide) ?_
    refine zb_si h dX4_paper_12 (by decide) (by decide) ?_
    refine zcSi h hH (As := [.int (zI v), .int (zI 10), .int (zI 999)]) (rest := []) (c_X4_isWithin l G hG S v 10 999 (by omega) (by omega) (by omega)) zce_X4_isWithin zt_X4_isWithin zm_X4_41 hl.1 rfl rfl ⟨rfl, rfl⟩ ⟨Nat.le_of_ble_eq_true rfl, Nat.le_of_ble_eq_true rfl⟩ (Nat.le_of_ble_eq_true rfl) ⟨Nat.zero_le _, Nat.zero_le _⟩ dX4_paper_15 (fun r_15 S_15 H locs hq hH => ?_)
    obtain ⟨b_15, rfl, hb_15, rfl⟩ := hq
    refine zb_ine (tgt := 31) h (by omega) dX4_paper_18 (by decide) (fun c_18 => ?_) (fun c_18 => ?_)
    · refine lv_aload_n hx hb dX4_paper_31 rfl (lv_at hl 0 rfl) ?_
      refine zg_4_2 h hH zf_X4_22 dX4_paper_32 ?_
      refine lv_aload_n hx hb dX4_paper_35 rfl (lv_at hl 0 rfl) ?_
      refine zg_4_0 h hH zf_X4_10 dX4_paper_36 ?_
      refine zcVv h hH (zr_0 h hH) (As := [.ref (za G 0 0)]) (rest := []) (c_X0_keep l G hG S hnx hsz hw) zce_X0_keep zcv_X0_keep zm_X4_61 hl.1 rfl rfl ⟨rfl, rfl⟩ ⟨Nat.le_of_ble_eq_true rfl, Nat.le_of_ble_eq_true rfl⟩ (Nat.le_of_ble_eq_true rfl) ⟨Nat.zero_le _, Nat.zero_le _⟩ dX4_paper_39 (fun S_39 H locs hq hH => ?_)
      obtain rfl := hq
      have hH : zH G (zKeep S) s H locs := hH
      rw [← zP_id (zKeep S) 0, zKp_0] at hH
      refine lv_aload_n hx hb dX4_paper_42 rfl (lv_at hl 0 rfl) ?_
      refine zg_4_0 h hH zf_X4_10 dX4_paper_43 ?_
      refine zgn_3_0 h hH (by omega) zfn_X4_115 dX4_paper_46 ?_
      refine lv_iload_n hx hb dX4_paper_49 rfl (lv_at hl 1 rfl) ?_
      refine lv_iload_n hx hb dX4_paper_50 rfl (lv_at hl 2 rfl) ?_
      refine zcVv h hH (zr_2 h hH (by omega)) (As := [.int (zI g), .int (zI v)]) (rest := []) (c_X2_take l G hG 0 (by omega) (zPut (zKeep S) 0 (S 0 0) (S 0 2) (S 0 8)) g v (by omega) (by omega)) zce_X2_take zcv_X2_take zm_X4_119 hl.1 rfl rfl ⟨rfl, rfl⟩ ⟨Nat.le_of_ble_eq_true rfl, Nat.le_of_ble_eq_true rfl⟩ (Nat.le_of_ble_eq_true rfl) ⟨Nat.zero_le _, Nat.zero_le _⟩ dX4_paper_51 (fun S_51 H locs hq hH => ?_)
      obtain rfl := hq
      simp only [zP_P, zP_0, zP_2, zP_8] at hH
      have hw1 : zW (zup (zup (S 0 0) 1 g) 2 v) := zW_upg hw (by omega) (by omega)
      have hM1 : ∀ j : Int, 0 ≤ j → j < 10 → zMk g v j = zMk ((zup (zup (S 0 0) 1 g) 2 v) 1) ((zup (zup (S 0 0) 1 g) 2 v) 2) j := by intro j _ _; rw [zup_n (by omega), zup_s, zup_s]
      refine lv_aload_n hx hb dX4_paper_54 rfl (lv_at hl 0 rfl) ?_
      refine zg_4_0 h hH zf_X4_10 dX4_paper_55 ?_
      refine zb_ic h dX4_paper_58 ?_
      refine zcVi h hH (zr_3 h hH (by omega)) (As := [.int (zI 0)]) (rest := []) (c_X3_zonesOff l G hG 0 (by omega) (zPut (zKeep S) 0 (zup (zup (S 0 0) 1 g) 2 v) (zMk g v) (S 0 8)) 0 (by omega) (zP_ms hM1) (zP_hw hw1)) zce_X3_zonesOff zcv_X3_zonesOff zm_X4_98 hl.1 rfl rfl ⟨rfl, rfl⟩ ⟨Nat.le_of_ble_eq_true rfl, Nat.le_of_ble_eq_true rfl⟩ (Nat.le_of_ble_eq_true rfl) ⟨Nat.zero_le _, Nat.zero_le _⟩ dX4_paper_59 (fun r_59 S_59 H locs hq hH => ?_)
      obtain ⟨rfl, rfl⟩ := hq
      rw [zP_0]
      refine zXret ?_
      refine zri h hr hH ?_ dX4_paper_62
      exact ⟨by omega, rfl, rfl⟩
    · refine zthr h hX hT hlx hH hl.1 zx_113 zl_X4_45 zn_IllegalArgumentException zat_IllegalArgumentException rfl (show x_X4_paper S g v "java/lang/IllegalArgumentException" from ⟨rfl, by omega⟩) dX4_paper_21 dX4_paper_24 dX4_paper_25 dX4_paper_27 dX4_paper_30 ⟨Nat.le_of_ble_eq_true rfl, Nat.le_of_ble_eq_true rfl, Nat.le_of_ble_eq_true rfl, Nat.le_of_ble_eq_true rfl⟩
theorem dX4_set_0 : decode cX4_set 0 = .ok (.iload_n 1, 1) := by decide +kernel
theorem dX4_set_1 : decode cX4_set 1 = .ok (.iconst 0, 1) := by decide +kernel
theorem dX4_set_2 : decode cX4_set 2 = .ok (.bipush 50, 2) := by decide +kernel
theorem dX4_set_4 : decode cX4_set 4 = .ok (.invokestatic 41, 3) := by decide +kernel
theorem dX4_set_7 : decode cX4_set 7 = .ok (.ifCond .ne 13, 3) := by decide +kernel
theorem dX4_set_10 : decode cX4_set 10 = .ok (.new 45, 3) := by decide +kernel
theorem dX4_set_13 : decode cX4_set 13 = .ok (.dup, 1) := by decide +kernel
theorem dX4_set_14 : decode cX4_set 14 = .ok (.ldc 128, 2) := by decide +kernel
theorem dX4_set_16 : decode cX4_set 16 = .ok (.invokespecial 49, 3) := by decide +kernel
theorem dX4_set_19 : decode cX4_set 19 = .ok (.athrow, 1) := by decide +kernel
theorem dX4_set_20 : decode cX4_set 20 = .ok (.aload_n 0, 1) := by decide +kernel
theorem dX4_set_21 : decode cX4_set 21 = .ok (.getfield 22, 3) := by decide +kernel
theorem dX4_set_24 : decode cX4_set 24 = .ok (.aload_n 0, 1) := by decide +kernel
theorem dX4_set_25 : decode cX4_set 25 = .ok (.getfield 10, 3) := by decide +kernel
theorem dX4_set_28 : decode cX4_set 28 = .ok (.invokevirtual 61, 3) := by decide +kernel
theorem dX4_set_31 : decode cX4_set 31 = .ok (.aload_n 0, 1) := by decide +kernel
theorem dX4_set_32 : decode cX4_set 32 = .ok (.getfield 10, 3) := by decide +kernel
theorem dX4_set_35 : decode cX4_set 35 = .ok (.getfield 130, 3) := by decide +kernel
theorem dX4_set_38 : decode cX4_set 38 = .ok (.istore_n 2, 1) := by decide +kernel
theorem dX4_set_39 : decode cX4_set 39 = .ok (.aload_n 0, 1) := by decide +kernel
theorem dX4_set_40 : decode cX4_set 40 = .ok (.getfield 10, 3) := by decide +kernel
theorem dX4_set_43 : decode cX4_set 43 = .ok (.iload_n 1, 1) := by decide +kernel
theorem dX4_set_44 : decode cX4_set 44 = .ok (.putfield 130, 3) := by decide +kernel
theorem dX4_set_47 : decode cX4_set 47 = .ok (.iload_n 2, 1) := by decide +kernel
theorem dX4_set_48 : decode cX4_set 48 = .ok (.ireturn, 1) := by decide +kernel
def q_X4_set (S : zM) (t : Int) : Int32 → zM → Prop := fun r S1 => (0 ≤ t ∧ t ≤ 50) ∧ r = zI (S 0 0 3) ∧ zPut (zKeep S) 0 (zup (S 0 0) 3 t) (S 0 2) (S 0 8) = S1
def x_X4_set (S : zM) (t : Int) : String → Prop := fun E => (E = "java/lang/IllegalArgumentException" ∧ (¬ (0 ≤ t ∧ t ≤ 50)))
def r_X4_set : Room := { frames := 6, cells := 1, slots := 6, locals := 92 }
set_option maxHeartbeats 4000000 in
set_option maxRecDepth 100000 in
theorem c_X4_set (l : Launch) (hlx : l.stackTraces = false) (G : zG) (hG : zok G) (S : zM) (t : Int) (ht_ : -2147483648 ≤ t ∧ t ≤ 2147483647) (hnx : 0 ≤ S 8 1 2 ∧ S 8 1 2 ≤ 600) (hsz : 0 ≤ S 8 1 1 ∧ S 8 1 1 ≤ 6) (hms : zMs S 0) (hw : zW (S 0 0))  : vx_Met l yX4_set (Cond.code yX4_set cX4_set 3 (some FieldType.int) :: zTbl) r_X4_set (va_Pc [.ref (za G 8 0), .int (zI t)] (zBX G S)) (va_Qi (q_X4_set S t) (zB G) (zA G)) (zXC G (fun u => u = S) (x_X4_set S t)) 1 6 (zA G) := by
  refine zXMet [(0, .ref (za G 8 0)), (1, .int (zI t))] hG (by decide) (Nat.le_of_ble_eq_true rfl) rfl (fun p e s m args below meth c ls h hX hT hx hb hr hH hl => ?_)
  have f4 := zW_4 hw
  refine lv_iload_n hx hb dX4_set_0 rfl (lv_at hl 1 rfl) ?_
  refine zb_ic h dX4_set_1 ?_
  refine zb_bi h dX4_set_2 (by decide) (by decide) ?_
  refine zcSi h hH (As := [.int (zI t), .int (zI 0), .int (zI 50)]) (rest := []) (c_X4_isWithin l G hG S t 0 50 (by omega) (by omega) (by omega)) zce_X4_isWithin zt_X4_isWithin zm_X4_41 hl.1 rfl rfl ⟨rfl, rfl⟩ ⟨Nat.le_of_ble_eq_true rfl, Nat.le_of_ble_eq_true rfl⟩ (Nat.le_of_ble_eq_true rfl) ⟨Nat.zero_le _, Nat.zero_le _⟩ dX4_set_4 (fun r_4 S_4 H locs hq hH => ?_)
  obtain ⟨b_4, rfl, hb_4, rfl⟩ := hq
  refine zb_ine (tgt := 20) h (by omega) dX4_set_7 (by decide) (fun c_7 => ?_) (fun c_7 => ?_)
  · refine lv_aload_n hx hb dX4_set_20 rfl (lv_at hl 0 rfl) ?_
    refine zg_4_2 h hH zf_X4_22 dX4_set_21 ?_
    refine lv_aload_n hx hb dX4_set_24 rfl (lv_at hl 0 rfl) ?_
    refine zg_4_0 h hH zf_X4_10 dX4_set_25 ?_
    refine zcVv h hH (zr_0 h hH) (As := [.ref (za G 0 0)]) (rest := []) (c_X0_keep l G hG S hnx hsz hw) zce_X0_keep zcv_X0_keep zm_X4_61 hl.1 rfl rfl ⟨rfl, rfl⟩ ⟨Nat.le_of_ble_eq_true rfl, Nat.le_of_ble_eq_true rfl⟩ (Nat.le_of_ble_eq_true rfl) ⟨Nat.zero_le _, Nat.zero_le _⟩ dX4_set_28 (fun S_28 H locs hq hH => ?_)
    obtain rfl := hq
    have hH : zH G (zKeep S) s H locs := hH
    rw [← zP_id (zKeep S) 0, zKp_0] at hH
    refine lv_aload_n hx hb dX4_set_31 rfl (lv_at hl 0 rfl) ?_
    refine zg_4_0 h hH zf_X4_10 dX4_set_32 ?_
    refine zgn_3_9 h hH (by omega) zfn_X4_130 dX4_set_35 ?_
    rw [zP_0]
    have f_35 := zW_3 hw
    refine lv_istore_n (lv' := [(2, .int (zI (S 0 0 3))), (0, .ref (za G 8 0)), (1, .int (zI t))]) hx hb dX4_set_38 rfl hl (by decide) rfl (fun ls hl => ?_)
    refine lv_aload_n hx hb dX4_set_39 rfl (lv_at hl 1 rfl) ?_
    refine zg_4_0 h hH zf_X4_10 dX4_set_40 ?_
    refine lv_iload_n hx hb dX4_set_43 rfl (lv_at hl 2 rfl) ?_
    refine zun_3_9 h hH (by omega) zfn_X4_130 dX4_set_44 (fun H locs hH => ?_)
    rw [zs_P0] at hH
    refine lv_iload_n hx hb dX4_set_47 rfl (lv_at hl 0 rfl) ?_
    refine zXret ?_
    refine zri h hr hH ?_ dX4_set_48
    exact ⟨by omega, rfl, rfl⟩
  · refine zthr h hX hT hlx hH hl.1 zx_128 zl_X4_45 zn_IllegalArgumentException zat_IllegalArgumentException rfl (show x_X4_set S t "java/lang/IllegalArgumentException" from ⟨rfl, by omega⟩) dX4_set_10 dX4_set_13 dX4_set_14 dX4_set_16 dX4_set_19 ⟨Nat.le_of_ble_eq_true rfl, Nat.le_of_ble_eq_true rfl, Nat.le_of_ble_eq_true rfl, Nat.le_of_ble_eq_true rfl⟩
theorem dX4_append_0 : decode cX4_append 0 = .ok (.iload_n 1, 1) := by decide +kernel
theorem dX4_append_1 : decode cX4_append 1 = .ok (.bipush 33, 2) := by decide +kernel
theorem dX4_append_3 : decode cX4_append 3 = .ok (.bipush 126, 2) := by decide +kernel
theorem dX4_append_5 : decode cX4_append 5 = .ok (.invokestatic 41, 3) := by decide +kernel
theorem dX4_append_8 : decode cX4_append 8 = .ok (.ifCond .ne 13, 3) := by decide +kernel
theorem dX4_append_11 : decode cX4_append 11 = .ok (.new 45, 3) := by decide +kernel
theorem dX4_append_14 : decode cX4_append 14 = .ok (.dup, 1) := by decide +kernel
theorem dX4_append_15 : decode cX4_append 15 = .ok (.ldc 133, 2) := by decide +kernel
theorem dX4_append_17 : decode cX4_append 17 = .ok (.invokespecial 49, 3) := by decide +kernel
theorem dX4_append_20 : decode cX4_append 20 = .ok (.athrow, 1) := by decide +kernel
theorem dX4_append_21 : decode cX4_append 21 = .ok (.aload_n 0, 1) := by decide +kernel
theorem dX4_append_22 : decode cX4_append 22 = .ok (.getfield 37, 3) := by decide +kernel
theorem dX4_append_25 : decode cX4_append 25 = .ok (.ifCond .lt 15, 3) := by decide +kernel
theorem dX4_append_28 : decode cX4_append 28 = .ok (.aload_n 0, 1) := by decide +kernel
theorem dX4_append_29 : decode cX4_append 29 = .ok (.getfield 37, 3) := by decide +kernel
theorem dX4_append_32 : decode cX4_append 32 = .ok (.aload_n 0, 1) := by decide +kernel
theorem dX4_append_33 : decode cX4_append 33 = .ok (.getfield 33, 3) := by decide +kernel
theorem dX4_append_36 : decode cX4_append 36 = .ok (.arraylength, 1) := by decide +kernel
theorem dX4_append_37 : decode cX4_append 37 = .ok (.if_icmp .lt 13, 3) := by decide +kernel
theorem dX4_append_40 : decode cX4_append 40 = .ok (.new 56, 3) := by decide +kernel
theorem dX4_append_43 : decode cX4_append 43 = .ok (.dup, 1) := by decide +kernel
theorem dX4_append_44 : decode cX4_append 44 = .ok (.ldc 135, 2) := by decide +kernel
theorem dX4_append_46 : decode cX4_append 46 = .ok (.invokespecial 60, 3) := by decide +kernel
theorem dX4_append_49 : decode cX4_append 49 = .ok (.athrow, 1) := by decide +kernel
theorem dX4_append_50 : decode cX4_append 50 = .ok (.aload_n 0, 1) := by decide +kernel
theorem dX4_append_51 : decode cX4_append 51 = .ok (.getfield 33, 3) := by decide +kernel
theorem dX4_append_54 : decode cX4_append 54 = .ok (.aload_n 0, 1) := by decide +kernel
theorem dX4_append_55 : decode cX4_append 55 = .ok (.getfield 37, 3) := by decide +kernel
theorem dX4_append_58 : decode cX4_append 58 = .ok (.iload_n 1, 1) := by decide +kernel
theorem dX4_append_59 : decode cX4_append 59 = .ok (.iastore, 1) := by decide +kernel
theorem dX4_append_60 : decode cX4_append 60 = .ok (.aload_n 0, 1) := by decide +kernel
theorem dX4_append_61 : decode cX4_append 61 = .ok (.dup, 1) := by decide +kernel
theorem dX4_append_62 : decode cX4_append 62 = .ok (.getfield 37, 3) := by decide +kernel
theorem dX4_append_65 : decode cX4_append 65 = .ok (.iconst 1, 1) := by decide +kernel
theorem dX4_append_66 : decode cX4_append 66 = .ok (.iadd, 1) := by decide +kernel
theorem dX4_append_67 : decode cX4_append 67 = .ok (.putfield 37, 3) := by decide +kernel
theorem dX4_append_70 : decode cX4_append 70 = .ok (.aload_n 0, 1) := by decide +kernel
theorem dX4_append_71 : decode cX4_append 71 = .ok (.getfield 37, 3) := by decide +kernel
theorem dX4_append_74 : decode cX4_append 74 = .ok (.ireturn, 1) := by decide +kernel
def q_X4_append (S : zM) (t : Int) : Int32 → zM → Prop := fun r S1 => ((33 ≤ t ∧ t ≤ 126) ∧ S 8 0 5 < 60) ∧ r = zI (S 8 0 5 + 1) ∧ zCl S (zup (S 8 0) 5 (S 8 0 5 + 1)) (S 8 1) (S 8 3) (zup (S 8 4) (S 8 0 5) t) (S 8 5) = S1
def x_X4_append (S : zM) (t : Int) : String → Prop := fun E => (E = "java/lang/IllegalArgumentException" ∧ (¬ (33 ≤ t ∧ t ≤ 126))) ∨ (E = "java/lang/IllegalStateException" ∧ ((33 ≤ t ∧ t ≤ 126) ∧ S 8 0 5 = 60))
def r_X4_append : Room := { frames := 6, cells := 1, slots := 6, locals := 82 }
set_option maxHeartbeats 4000000 in
set_option maxRecDepth 100000 in
theorem c_X4_append (l : Launch) (hlx : l.stackTraces = false) (G : zG) (hG : zok G) (S : zM) (t : Int) (ht_ : -2147483648 ≤ t ∧ t ≤ 2147483647) (hlen : 0 ≤ S 8 0 5 ∧ S 8 0 5 ≤ 60)  : vx_Met l yX4_append (Cond.code yX4_append cX4_append 2 (some FieldType.int) :: zTbl) r_X4_append (va_Pc [.ref (za G 8 0), .int (zI t)] (zBX G S)) (va_Qi (q_X4_append S t) (zB G) (zA G)) (zXC G (fun u => u = S) (x_X4_append S t)) 1 6 (zA G) := by
  refine zXMet [(0, .ref (za G 8 0)), (1, .int (zI t))] hG (by decide) (Nat.le_of_ble_eq_true rfl) rfl (fun p e s m args below meth c ls h hX hT hx hb hr hH hl => ?_)
  rw [← zC_id S] at hH
  refine lv_iload_n hx hb dX4_append_0 rfl (lv_at hl 1 rfl) ?_
  refine zb_bi h dX4_append_1 (by decide) (by decide) ?_
  refine zb_bi h dX4_append_3 (by decide) (by decide) ?_
  refine zcSi h hH (As := [.int (zI t), .int (zI 33), .int (zI 126)]) (rest := []) (c_X4_isWithin l G hG (zCl S (S 8 0) (S 8 1) (S 8 3) (S 8 4) (S 8 5)) t 33 126 (by omega) (by omega) (by omega)) zce_X4_isWithin zt_X4_isWithin zm_X4_41 hl.1 rfl rfl ⟨rfl, rfl⟩ ⟨Nat.le_of_ble_eq_true rfl, Nat.le_of_ble_eq_true rfl⟩ (Nat.le_of_ble_eq_true rfl) ⟨Nat.zero_le _, Nat.zero_le _⟩ dX4_append_5 (fun r_5 S_5 H locs hq hH => ?_)
  obtain ⟨b_5, rfl, hb_5, rfl⟩ := hq
  refine zb_ine (tgt := 21) h (by omega) dX4_append_8 (by decide) (fun c_8 => ?_) (fun c_8 => ?_)
  · refine lv_aload_n hx hb dX4_append_21 rfl (lv_at hl 0 rfl) ?_
    refine zg_4_5 h hH zf_X4_37 dX4_append_22 ?_
    rw [zC_0]
    refine zb_ilt (tgt := 40) h (by omega) dX4_append_25 (by decide) (fun c_25 => ?_) (fun c_25 => ?_)
    · refine zthr h hX hT hlx hH hl.1 zx_135 zl_X4_56 zn_IllegalStateException zat_IllegalStateException (zC_id S) (show x_X4_append S t "java/lang/IllegalStateException" from (Or.inr ⟨rfl, by omega⟩)) dX4_append_40 dX4_append_43 dX4_append_44 dX4_append_46 dX4_append_49 ⟨Nat.le_of_ble_eq_true rfl, Nat.le_of_ble_eq_true rfl, Nat.le_of_ble_eq_true rfl, Nat.le_of_ble_eq_true rfl⟩
    · refine lv_aload_n hx hb dX4_append_28 rfl (lv_at hl 0 rfl) ?_
      refine zg_4_5 h hH zf_X4_37 dX4_append_29 ?_
      rw [zC_0]
      refine lv_aload_n hx hb dX4_append_32 rfl (lv_at hl 0 rfl) ?_
      refine zg_4_4 h hH zf_X4_33 dX4_append_33 ?_
      refine zln_ar_bf h hH dX4_append_36 ?_
      refine zb_clt (tgt := 50) h (by omega) (by omega) dX4_append_37 (by decide) (fun c_37 => ?_) (fun c_37 => ?_)
      · refine lv_aload_n hx hb dX4_append_50 rfl (lv_at hl 0 rfl) ?_
        refine zg_4_4 h hH zf_X4_33 dX4_append_51 ?_
        refine lv_aload_n hx hb dX4_append_54 rfl (lv_at hl 0 rfl) ?_
        refine zg_4_5 h hH zf_X4_37 dX4_append_55 ?_
        rw [zC_0]
        refine lv_iload_n hx hb dX4_append_58 rfl (lv_at hl 1 rfl) ?_
        refine zst_ar_bf h hH (by omega) dX4_append_59 (fun H locs hH => ?_)
        rw [zs_C4] at hH
        refine lv_aload_n hx hb dX4_append_60 rfl (lv_at hl 0 rfl) ?_
        refine lv_dup hx hb dX4_append_61 rfl ?_
        refine zg_4_5 h hH zf_X4_37 dX4_append_62 ?_
        rw [zC_0]
        refine zb_ic h dX4_append_65 ?_
        refine zb_iadd h dX4_append_66 ?_
        refine zu_4_5 h hH zf_X4_37 dX4_append_67 (fun H locs hH => ?_)
        rw [zs_C0] at hH
        refine lv_aload_n hx hb dX4_append_70 rfl (lv_at hl 0 rfl) ?_
        refine zg_4_5 h hH zf_X4_37 dX4_append_71 ?_
        rw [zC_0]
        rw [show (zup (S 8 0) 5 ((S 8 0 5) + 1) 5 : Int) = ((S 8 0 5) + 1) from by (first | rw [zup_s] | rw [zup_n (by omega)])]
        refine zXret ?_
        refine zri h hr hH ?_ dX4_append_74
        exact ⟨by omega, rfl, rfl⟩
      · refine zthr h hX hT hlx hH hl.1 zx_135 zl_X4_56 zn_IllegalStateException zat_IllegalStateException (zC_id S) (show x_X4_append S t "java/lang/IllegalStateException" from (Or.inr ⟨rfl, by omega⟩)) dX4_append_40 dX4_append_43 dX4_append_44 dX4_append_46 dX4_append_49 ⟨Nat.le_of_ble_eq_true rfl, Nat.le_of_ble_eq_true rfl, Nat.le_of_ble_eq_true rfl, Nat.le_of_ble_eq_true rfl⟩
  · refine zthr h hX hT hlx hH hl.1 zx_133 zl_X4_45 zn_IllegalArgumentException zat_IllegalArgumentException (zC_id S) (show x_X4_append S t "java/lang/IllegalArgumentException" from (Or.inl ⟨rfl, by omega⟩)) dX4_append_11 dX4_append_14 dX4_append_15 dX4_append_17 dX4_append_20 ⟨Nat.le_of_ble_eq_true rfl, Nat.le_of_ble_eq_true rfl, Nat.le_of_ble_eq_true rfl, Nat.le_of_ble_eq_true rfl⟩
theorem dX4_undo_0 : decode cX4_undo 0 = .ok (.aload_n 0, 1) := by decide +kernel
theorem dX4_undo_1 : decode cX4_undo 1 = .ok (.getfield 22, 3) := by decide +kernel
theorem dX4_undo_4 : decode cX4_undo 4 = .ok (.invokevirtual 155, 3) := by decide +kernel
theorem dX4_undo_7 : decode cX4_undo 7 = .ok (.iconst 1, 1) := by decide +kernel
theorem dX4_undo_8 : decode cX4_undo 8 = .ok (.if_icmp .ge 13, 3) := by decide +kernel
theorem dX4_undo_11 : decode cX4_undo 11 = .ok (.new 56, 3) := by decide +kernel
theorem dX4_undo_14 : decode cX4_undo 14 = .ok (.dup, 1) := by decide +kernel
theorem dX4_undo_15 : decode cX4_undo 15 = .ok (.ldc 158, 2) := by decide +kernel
theorem dX4_undo_17 : decode cX4_undo 17 = .ok (.invokespecial 60, 3) := by decide +kernel
theorem dX4_undo_20 : decode cX4_undo 20 = .ok (.athrow, 1) := by decide +kernel
theorem dX4_undo_21 : decode cX4_undo 21 = .ok (.aload_n 0, 1) := by decide +kernel
theorem dX4_undo_22 : decode cX4_undo 22 = .ok (.getfield 22, 3) := by decide +kernel
theorem dX4_undo_25 : decode cX4_undo 25 = .ok (.aload_n 0, 1) := by decide +kernel
theorem dX4_undo_26 : decode cX4_undo 26 = .ok (.getfield 10, 3) := by decide +kernel
theorem dX4_undo_29 : decode cX4_undo 29 = .ok (.invokevirtual 160, 3) := by decide +kernel
theorem dX4_undo_32 : decode cX4_undo 32 = .ok (.aload_n 0, 1) := by decide +kernel
theorem dX4_undo_33 : decode cX4_undo 33 = .ok (.getfield 22, 3) := by decide +kernel
theorem dX4_undo_36 : decode cX4_undo 36 = .ok (.invokevirtual 155, 3) := by decide +kernel
theorem dX4_undo_39 : decode cX4_undo 39 = .ok (.ireturn, 1) := by decide +kernel
def q_X4_undo (S : zM) : Int32 → zM → Prop := fun r S1 => 1 ≤ S 8 1 1 ∧ r = zI (S 8 1 1 - 1) ∧ zGive S = S1
def x_X4_undo (S : zM) : String → Prop := fun E => (E = "java/lang/IllegalStateException" ∧ (S 8 1 1 = 0))
def r_X4_undo : Room := { frames := 6, cells := 1, slots := 6, locals := 92 }
set_option maxHeartbeats 4000000 in
set_option maxRecDepth 100000 in
theorem c_X4_undo (l : Launch) (hlx : l.stackTraces = false) (G : zG) (hG : zok G) (S : zM) (hsz : 0 ≤ S 8 1 1 ∧ S 8 1 1 ≤ 6) (hnx : S 8 1 1 ≤ S 8 1 2 ∧ S 8 1 2 ≤ 600) (hwk : 1 ≤ S 8 1 1 → zW (S (((S 8 1 2 - 1) % 6).toNat + 2) 0))  : vx_Met l yX4_undo (Cond.code yX4_undo cX4_undo 1 (some FieldType.int) :: zTbl) r_X4_undo (va_Pc [.ref (za G 8 0)] (zBX G S)) (va_Qi (q_X4_undo S) (zB G) (zA G)) (zXC G (fun u => u = S) (x_X4_undo S)) 1 6 (zA G) := by
  refine zXMet [(0, .ref (za G 8 0))] hG (by decide) (Nat.le_of_ble_eq_true rfl) rfl (fun p e s m args below meth c ls h hX hT hx hb hr hH hl => ?_)
  refine lv_aload_n hx hb dX4_undo_0 rfl (lv_at hl 0 rfl) ?_
  refine zg_4_2 h hH zf_X4_22 dX4_undo_1 ?_
  refine zcVi h hH (zr_0 h hH) (As := []) (rest := []) (c_X0_size l G hG S) zce_X0_size zcv_X0_size zm_X4_155 hl.1 rfl rfl ⟨rfl, rfl⟩ ⟨Nat.le_of_ble_eq_true rfl, Nat.le_of_ble_eq_true rfl⟩ (Nat.le_of_ble_eq_true rfl) ⟨Nat.zero_le _, Nat.zero_le _⟩ dX4_undo_4 (fun r_4 S_4 H locs hq hH => ?_)
  obtain ⟨rfl, rfl⟩ := hq
  refine zb_ic h dX4_undo_7 ?_
  refine zb_cge (tgt := 21) h (by omega) (by omega) dX4_undo_8 (by decide) (fun c_8 => ?_) (fun c_8 => ?_)
  · refine lv_aload_n hx hb dX4_undo_21 rfl (lv_at hl 0 rfl) ?_
    refine zg_4_2 h hH zf_X4_22 dX4_undo_22 ?_
    refine lv_aload_n hx hb dX4_undo_25 rfl (lv_at hl 0 rfl) ?_
    refine zg_4_0 h hH zf_X4_10 dX4_undo_26 ?_
    refine zcVv h hH (zr_0 h hH) (As := [.ref (za G 0 0)]) (rest := []) (c_X0_giveBack l G hG S (by omega) (by omega) (hwk (by omega))) zce_X0_giveBack zcv_X0_giveBack zm_X4_160 hl.1 rfl rfl ⟨rfl, rfl⟩ ⟨Nat.le_of_ble_eq_true rfl, Nat.le_of_ble_eq_true rfl⟩ (Nat.le_of_ble_eq_true rfl) ⟨Nat.zero_le _, Nat.zero_le _⟩ dX4_undo_29 (fun S_29 H locs hq hH => ?_)
    obtain rfl := hq
    have hH : zH G (zGive S) s H locs := hH
    refine lv_aload_n hx hb dX4_undo_32 rfl (lv_at hl 0 rfl) ?_
    refine zg_4_2 h hH zf_X4_22 dX4_undo_33 ?_
    refine zcVi h hH (zr_0 h hH) (As := []) (rest := []) (c_X0_size l G hG (zGive S)) zce_X0_size zcv_X0_size zm_X4_155 hl.1 rfl rfl ⟨rfl, rfl⟩ ⟨Nat.le_of_ble_eq_true rfl, Nat.le_of_ble_eq_true rfl⟩ (Nat.le_of_ble_eq_true rfl) ⟨Nat.zero_le _, Nat.zero_le _⟩ dX4_undo_36 (fun r_36 S_36 H locs hq hH => ?_)
    obtain ⟨rfl, rfl⟩ := hq
    refine zXret ?_
    refine zri h hr hH ?_ dX4_undo_39
    exact ⟨by omega, by rw [zGv_81], rfl⟩
  · refine zthr h hX hT hlx hH hl.1 zx_158 zl_X4_56 zn_IllegalStateException zat_IllegalStateException rfl (show x_X4_undo S "java/lang/IllegalStateException" from ⟨rfl, by omega⟩) dX4_undo_11 dX4_undo_14 dX4_undo_15 dX4_undo_17 dX4_undo_20 ⟨Nat.le_of_ble_eq_true rfl, Nat.le_of_ble_eq_true rfl, Nat.le_of_ble_eq_true rfl, Nat.le_of_ble_eq_true rfl⟩
theorem dX4_zoneOf_0 : decode cX4_zoneOf 0 = .ok (.aload_n 0, 1) := by decide +kernel
theorem dX4_zoneOf_1 : decode cX4_zoneOf 1 = .ok (.getfield 10, 3) := by decide +kernel
theorem dX4_zoneOf_4 : decode cX4_zoneOf 4 = .ok (.iload_n 1, 1) := by decide +kernel
theorem dX4_zoneOf_5 : decode cX4_zoneOf 5 = .ok (.invokevirtual 69, 3) := by decide +kernel
theorem dX4_zoneOf_8 : decode cX4_zoneOf 8 = .ok (.ifCond .ne 13, 3) := by decide +kernel
theorem dX4_zoneOf_11 : decode cX4_zoneOf 11 = .ok (.new 73, 3) := by decide +kernel
theorem dX4_zoneOf_14 : decode cX4_zoneOf 14 = .ok (.dup, 1) := by decide +kernel
theorem dX4_zoneOf_15 : decode cX4_zoneOf 15 = .ok (.ldc 75, 2) := by decide +kernel
theorem dX4_zoneOf_17 : decode cX4_zoneOf 17 = .ok (.invokespecial 77, 3) := by decide +kernel
theorem dX4_zoneOf_20 : decode cX4_zoneOf 20 = .ok (.athrow, 1) := by decide +kernel
theorem dX4_zoneOf_21 : decode cX4_zoneOf 21 = .ok (.iload_n 2, 1) := by decide +kernel
theorem dX4_zoneOf_22 : decode cX4_zoneOf 22 = .ok (.iconst 0, 1) := by decide +kernel
theorem dX4_zoneOf_23 : decode cX4_zoneOf 23 = .ok (.bipush 10, 2) := by decide +kernel
theorem dX4_zoneOf_25 : decode cX4_zoneOf 25 = .ok (.invokestatic 41, 3) := by decide +kernel
theorem dX4_zoneOf_28 : decode cX4_zoneOf 28 = .ok (.ifCond .ne 13, 3) := by decide +kernel
theorem dX4_zoneOf_31 : decode cX4_zoneOf 31 = .ok (.new 45, 3) := by decide +kernel
theorem dX4_zoneOf_34 : decode cX4_zoneOf 34 = .ok (.dup, 1) := by decide +kernel
theorem dX4_zoneOf_35 : decode cX4_zoneOf 35 = .ok (.ldc 163, 2) := by decide +kernel
theorem dX4_zoneOf_37 : decode cX4_zoneOf 37 = .ok (.invokespecial 49, 3) := by decide +kernel
theorem dX4_zoneOf_40 : decode cX4_zoneOf 40 = .ok (.athrow, 1) := by decide +kernel
theorem dX4_zoneOf_41 : decode cX4_zoneOf 41 = .ok (.aload_n 0, 1) := by decide +kernel
theorem dX4_zoneOf_42 : decode cX4_zoneOf 42 = .ok (.getfield 10, 3) := by decide +kernel
theorem dX4_zoneOf_45 : decode cX4_zoneOf 45 = .ok (.iload_n 1, 1) := by decide +kernel
theorem dX4_zoneOf_46 : decode cX4_zoneOf 46 = .ok (.iload_n 2, 1) := by decide +kernel
theorem dX4_zoneOf_47 : decode cX4_zoneOf 47 = .ok (.invokevirtual 165, 3) := by decide +kernel
theorem dX4_zoneOf_50 : decode cX4_zoneOf 50 = .ok (.ireturn, 1) := by decide +kernel
def q_X4_zoneOf (S : zM) (z : Int) (what : Int) : Int32 → zM → Prop := fun r S1 => ((0 ≤ z ∧ z < S 0 0 4) ∧ (0 ≤ what ∧ what ≤ 10)) ∧ r = zI (tPr (S 0 0) z what) ∧ S = S1
def x_X4_zoneOf (S : zM) (z : Int) (what : Int) : String → Prop := fun E => (E = "java/lang/IndexOutOfBoundsException" ∧ (¬ (0 ≤ z ∧ z < S 0 0 4))) ∨ (E = "java/lang/IllegalArgumentException" ∧ ((0 ≤ z ∧ z < S 0 0 4) ∧ ¬ (0 ≤ what ∧ what ≤ 10)))
def r_X4_zoneOf : Room := { frames := 6, cells := 1, slots := 6, locals := 93 }
set_option maxHeartbeats 4000000 in
set_option maxRecDepth 100000 in
theorem c_X4_zoneOf (l : Launch) (hlx : l.stackTraces = false) (G : zG) (hG : zok G) (S : zM) (z : Int) (hz_ : -2147483648 ≤ z ∧ z ≤ 2147483647) (what : Int) (hwhat_ : -2147483648 ≤ what ∧ what ≤ 2147483647) (hms : zMs S 0) (hw : zW (S 0 0))  : vx_Met l yX4_zoneOf (Cond.code yX4_zoneOf cX4_zoneOf 3 (some FieldType.int) :: zTbl) r_X4_zoneOf (va_Pc [.ref (za G 8 0), .int (zI z), .int (zI what)] (zBX G S)) (va_Qi (q_X4_zoneOf S z what) (zB G) (zA G)) (zXC G (fun u => u = S) (x_X4_zoneOf S z what)) 1 6 (zA G) := by
  refine zXMet [(0, .ref (za G 8 0)), (1, .int (zI z)), (2, .int (zI what))] hG (by decide) (Nat.le_of_ble_eq_true rfl) rfl (fun p e s m args below meth c ls h hX hT hx hb hr hH hl => ?_)
  have f4 := zW_4 hw
  refine lv_aload_n hx hb dX4_zoneOf_0 rfl (lv_at hl 0 rfl) ?_
  refine zg_4_0 h hH zf_X4_10 dX4_zoneOf_1 ?_
  refine lv_iload_n hx hb dX4_zoneOf_4 rfl (lv_at hl 1 rfl) ?_
  refine zcVi h hH (zr_3 h hH (by omega)) (As := [.int (zI z)]) (rest := []) (c_X3_hasZone l G hG 0 (by omega) S z (by omega) hw) zce_X3_hasZone zcv_X3_hasZone zm_X4_69 hl.1 rfl rfl ⟨rfl, rfl⟩ ⟨Nat.le_of_ble_eq_true rfl, Nat.le_of_ble_eq_true rfl⟩ (Nat.le_of_ble_eq_true rfl) ⟨Nat.zero_le _, Nat.zero_le _⟩ dX4_zoneOf_5 (fun r_5 S_5 H locs hq hH => ?_)
  obtain ⟨b_5, rfl, hb_5, rfl⟩ := hq
  refine zb_ine (tgt := 21) h (by omega) dX4_zoneOf_8 (by decide) (fun c_8 => ?_) (fun c_8 => ?_)
  · refine lv_iload_n hx hb dX4_zoneOf_21 rfl (lv_at hl 2 rfl) ?_
    refine zb_ic h dX4_zoneOf_22 ?_
    refine zb_bi h dX4_zoneOf_23 (by decide) (by decide) ?_
    refine zcSi h hH (As := [.int (zI what), .int (zI 0), .int (zI 10)]) (rest := []) (c_X4_isWithin l G hG S what 0 10 (by omega) (by omega) (by omega)) zce_X4_isWithin zt_X4_isWithin zm_X4_41 hl.1 rfl rfl ⟨rfl, rfl⟩ ⟨Nat.le_of_ble_eq_true rfl, Nat.le_of_ble_eq_true rfl⟩ (Nat.le_of_ble_eq_true rfl) ⟨Nat.zero_le _, Nat.zero_le _⟩ dX4_zoneOf_25 (fun r_25 S_25 H locs hq hH => ?_)
    obtain ⟨b_25, rfl, hb_25, rfl⟩ := hq
    refine zb_ine (tgt := 41) h (by omega) dX4_zoneOf_28 (by decide) (fun c_28 => ?_) (fun c_28 => ?_)
    · refine lv_aload_n hx hb dX4_zoneOf_41 rfl (lv_at hl 0 rfl) ?_
      refine zg_4_0 h hH zf_X4_10 dX4_zoneOf_42 ?_
      refine lv_iload_n hx hb dX4_zoneOf_45 rfl (lv_at hl 1 rfl) ?_
      refine lv_iload_n hx hb dX4_zoneOf_46 rfl (lv_at hl 2 rfl) ?_
      refine zcVi h hH (zr_3 h hH (by omega)) (As := [.int (zI z), .int (zI what)]) (rest := []) (c_X3_property l G hG 0 (by omega) S z what (by omega) (by omega) hms hw) zce_X3_property zcv_X3_property zm_X4_165 hl.1 rfl rfl ⟨rfl, rfl⟩ ⟨Nat.le_of_ble_eq_true rfl, Nat.le_of_ble_eq_true rfl⟩ (Nat.le_of_ble_eq_true rfl) ⟨Nat.zero_le _, Nat.zero_le _⟩ dX4_zoneOf_47 (fun r_47 S_47 H locs hq hH => ?_)
      obtain ⟨rfl, rfl⟩ := hq
      refine zXret ?_
      refine zri h hr hH ?_ dX4_zoneOf_50
      exact ⟨by omega, rfl, rfl⟩
    · refine zthr h hX hT hlx hH hl.1 zx_163 zl_X4_45 zn_IllegalArgumentException zat_IllegalArgumentException rfl (show x_X4_zoneOf S z what "java/lang/IllegalArgumentException" from (Or.inr ⟨rfl, by omega⟩)) dX4_zoneOf_31 dX4_zoneOf_34 dX4_zoneOf_35 dX4_zoneOf_37 dX4_zoneOf_40 ⟨Nat.le_of_ble_eq_true rfl, Nat.le_of_ble_eq_true rfl, Nat.le_of_ble_eq_true rfl, Nat.le_of_ble_eq_true rfl⟩
  · refine zthr h hX hT hlx hH hl.1 zx_75 zl_X4_73 zn_IndexOutOfBoundsException zat_IndexOutOfBoundsException rfl (show x_X4_zoneOf S z what "java/lang/IndexOutOfBoundsException" from (Or.inl ⟨rfl, by omega⟩)) dX4_zoneOf_11 dX4_zoneOf_14 dX4_zoneOf_15 dX4_zoneOf_17 dX4_zoneOf_20 ⟨Nat.le_of_ble_eq_true rfl, Nat.le_of_ble_eq_true rfl, Nat.le_of_ble_eq_true rfl, Nat.le_of_ble_eq_true rfl⟩
theorem dX4_mark_0 : decode cX4_mark 0 = .ok (.iload_n 1, 1) := by decide +kernel
theorem dX4_mark_1 : decode cX4_mark 1 = .ok (.iconst 1, 1) := by decide +kernel
theorem dX4_mark_2 : decode cX4_mark 2 = .ok (.bipush 10, 2) := by decide +kernel
theorem dX4_mark_4 : decode cX4_mark 4 = .ok (.invokestatic 41, 3) := by decide +kernel
theorem dX4_mark_7 : decode cX4_mark 7 = .ok (.ifCond .ne 13, 3) := by decide +kernel
theorem dX4_mark_10 : decode cX4_mark 10 = .ok (.new 45, 3) := by decide +kernel
theorem dX4_mark_13 : decode cX4_mark 13 = .ok (.dup, 1) := by decide +kernel
theorem dX4_mark_14 : decode cX4_mark 14 = .ok (.ldc 168, 2) := by decide +kernel
theorem dX4_mark_16 : decode cX4_mark 16 = .ok (.invokespecial 49, 3) := by decide +kernel
theorem dX4_mark_19 : decode cX4_mark 19 = .ok (.athrow, 1) := by decide +kernel
theorem dX4_mark_20 : decode cX4_mark 20 = .ok (.aload_n 0, 1) := by decide +kernel
theorem dX4_mark_21 : decode cX4_mark 21 = .ok (.getfield 10, 3) := by decide +kernel
theorem dX4_mark_24 : decode cX4_mark 24 = .ok (.getfield 115, 3) := by decide +kernel
theorem dX4_mark_27 : decode cX4_mark 27 = .ok (.iload_n 1, 1) := by decide +kernel
theorem dX4_mark_28 : decode cX4_mark 28 = .ok (.invokevirtual 170, 3) := by decide +kernel
theorem dX4_mark_31 : decode cX4_mark 31 = .ok (.ireturn, 1) := by decide +kernel
def q_X4_mark (S : zM) (n : Int) : Int32 → zM → Prop := fun r S1 => (1 ≤ n ∧ n ≤ 10) ∧ r = zI (zMk (S 0 0 1) (S 0 0 2) (n - 1)) ∧ S = S1
def x_X4_mark (S : zM) (n : Int) : String → Prop := fun E => (E = "java/lang/IllegalArgumentException" ∧ (¬ (1 ≤ n ∧ n ≤ 10)))
def r_X4_mark : Room := { frames := 6, cells := 1, slots := 6, locals := 82 }
set_option maxHeartbeats 4000000 in
set_option maxRecDepth 100000 in
theorem c_X4_mark (l : Launch) (hlx : l.stackTraces = false) (G : zG) (hG : zok G) (S : zM) (n : Int) (hn_ : -2147483648 ≤ n ∧ n ≤ 2147483647) (hms : zMs S 0) (hw : zW (S 0 0))  : vx_Met l yX4_mark (Cond.code yX4_mark cX4_mark 2 (some FieldType.int) :: zTbl) r_X4_mark (va_Pc [.ref (za G 8 0), .int (zI n)] (zBX G S)) (va_Qi (q_X4_mark S n) (zB G) (zA G)) (zXC G (fun u => u = S) (x_X4_mark S n)) 1 6 (zA G) := by
  refine zXMet [(0, .ref (za G 8 0)), (1, .int (zI n))] hG (by decide) (Nat.le_of_ble_eq_true rfl) rfl (fun p e s m args below meth c ls h hX hT hx hb hr hH hl => ?_)
  have f4 := zW_4 hw
  refine lv_iload_n hx hb dX4_mark_0 rfl (lv_at hl 1 rfl) ?_
  refine zb_ic h dX4_mark_1 ?_
  refine zb_bi h dX4_mark_2 (by decide) (by decide) ?_
  refine zcSi h hH (As := [.int (zI n), .int (zI 1), .int (zI 10)]) (rest := []) (c_X4_isWithin l G hG S n 1 10 (by omega) (by omega) (by omega)) zce_X4_isWithin zt_X4_isWithin zm_X4_41 hl.1 rfl rfl ⟨rfl, rfl⟩ ⟨Nat.le_of_ble_eq_true rfl, Nat.le_of_ble_eq_true rfl⟩ (Nat.le_of_ble_eq_true rfl) ⟨Nat.zero_le _, Nat.zero_le _⟩ dX4_mark_4 (fun r_4 S_4 H locs hq hH => ?_)
  obtain ⟨b_4, rfl, hb_4, rfl⟩ := hq
  refine zb_ine (tgt := 20) h (by omega) dX4_mark_7 (by decide) (fun c_7 => ?_) (fun c_7 => ?_)
  · refine lv_aload_n hx hb dX4_mark_20 rfl (lv_at hl 0 rfl) ?_
    refine zg_4_0 h hH zf_X4_10 dX4_mark_21 ?_
    refine zgn_3_0 h hH (by omega) zfn_X4_115 dX4_mark_24 ?_
    refine lv_iload_n hx hb dX4_mark_27 rfl (lv_at hl 1 rfl) ?_
    refine zcVi h hH (zr_2 h hH (by omega)) (As := [.int (zI n)]) (rest := []) (c_X2_markOf l G hG 0 (by omega) S n (by omega) hms) zce_X2_markOf zcv_X2_markOf zm_X4_170 hl.1 rfl rfl ⟨rfl, rfl⟩ ⟨Nat.le_of_ble_eq_true rfl, Nat.le_of_ble_eq_true rfl⟩ (Nat.le_of_ble_eq_true rfl) ⟨Nat.zero_le _, Nat.zero_le _⟩ dX4_mark_28 (fun r_28 S_28 H locs hq hH => ?_)
    obtain ⟨rfl, rfl⟩ := hq
    refine zXret ?_
    refine zri h hr hH ?_ dX4_mark_31
    exact ⟨by omega, rfl, rfl⟩
  · refine zthr h hX hT hlx hH hl.1 zx_168 zl_X4_45 zn_IllegalArgumentException zat_IllegalArgumentException rfl (show x_X4_mark S n "java/lang/IllegalArgumentException" from ⟨rfl, by omega⟩) dX4_mark_10 dX4_mark_13 dX4_mark_14 dX4_mark_16 dX4_mark_19 ⟨Nat.le_of_ble_eq_true rfl, Nat.le_of_ble_eq_true rfl, Nat.le_of_ble_eq_true rfl, Nat.le_of_ble_eq_true rfl⟩
theorem dX4_strip_0 : decode cX4_strip 0 = .ok (.aload_n 0, 1) := by decide +kernel
theorem dX4_strip_1 : decode cX4_strip 1 = .ok (.getfield 10, 3) := by decide +kernel
theorem dX4_strip_4 : decode cX4_strip 4 = .ok (.iload_n 1, 1) := by decide +kernel
theorem dX4_strip_5 : decode cX4_strip 5 = .ok (.invokevirtual 69, 3) := by decide +kernel
theorem dX4_strip_8 : decode cX4_strip 8 = .ok (.ifCond .ne 13, 3) := by decide +kernel
theorem dX4_strip_11 : decode cX4_strip 11 = .ok (.new 73, 3) := by decide +kernel
theorem dX4_strip_14 : decode cX4_strip 14 = .ok (.dup, 1) := by decide +kernel
theorem dX4_strip_15 : decode cX4_strip 15 = .ok (.ldc 75, 2) := by decide +kernel
theorem dX4_strip_17 : decode cX4_strip 17 = .ok (.invokespecial 77, 3) := by decide +kernel
theorem dX4_strip_20 : decode cX4_strip 20 = .ok (.athrow, 1) := by decide +kernel
theorem dX4_strip_21 : decode cX4_strip 21 = .ok (.iload_n 2, 1) := by decide +kernel
theorem dX4_strip_22 : decode cX4_strip 22 = .ok (.iconst 1, 1) := by decide +kernel
theorem dX4_strip_23 : decode cX4_strip 23 = .ok (.sipush 999, 3) := by decide +kernel
theorem dX4_strip_26 : decode cX4_strip 26 = .ok (.invokestatic 41, 3) := by decide +kernel
theorem dX4_strip_29 : decode cX4_strip 29 = .ok (.ifCond .eq 23, 3) := by decide +kernel
theorem dX4_strip_32 : decode cX4_strip 32 = .ok (.iload_n 3, 1) := by decide +kernel
theorem dX4_strip_33 : decode cX4_strip 33 = .ok (.iconst 1, 1) := by decide +kernel
theorem dX4_strip_34 : decode cX4_strip 34 = .ok (.bipush 9, 2) := by decide +kernel
theorem dX4_strip_36 : decode cX4_strip 36 = .ok (.invokestatic 41, 3) := by decide +kernel
theorem dX4_strip_39 : decode cX4_strip 39 = .ok (.ifCond .eq 13, 3) := by decide +kernel
theorem dX4_strip_42 : decode cX4_strip 42 = .ok (.iload 4, 2) := by decide +kernel
theorem dX4_strip_44 : decode cX4_strip 44 = .ok (.iconst 0, 1) := by decide +kernel
theorem dX4_strip_45 : decode cX4_strip 45 = .ok (.iconst 3, 1) := by decide +kernel
theorem dX4_strip_46 : decode cX4_strip 46 = .ok (.invokestatic 41, 3) := by decide +kernel
theorem dX4_strip_49 : decode cX4_strip 49 = .ok (.ifCond .ne 13, 3) := by decide +kernel
theorem dX4_strip_52 : decode cX4_strip 52 = .ok (.new 45, 3) := by decide +kernel
theorem dX4_strip_55 : decode cX4_strip 55 = .ok (.dup, 1) := by decide +kernel
theorem dX4_strip_56 : decode cX4_strip 56 = .ok (.ldc 173, 2) := by decide +kernel
theorem dX4_strip_58 : decode cX4_strip 58 = .ok (.invokespecial 49, 3) := by decide +kernel
theorem dX4_strip_61 : decode cX4_strip 61 = .ok (.athrow, 1) := by decide +kernel
theorem dX4_strip_62 : decode cX4_strip 62 = .ok (.aload_n 0, 1) := by decide +kernel
theorem dX4_strip_63 : decode cX4_strip 63 = .ok (.getfield 10, 3) := by decide +kernel
theorem dX4_strip_66 : decode cX4_strip 66 = .ok (.iload_n 1, 1) := by decide +kernel
theorem dX4_strip_67 : decode cX4_strip 67 = .ok (.iload_n 2, 1) := by decide +kernel
theorem dX4_strip_68 : decode cX4_strip 68 = .ok (.iload_n 3, 1) := by decide +kernel
theorem dX4_strip_69 : decode cX4_strip 69 = .ok (.iload 4, 2) := by decide +kernel
theorem dX4_strip_71 : decode cX4_strip 71 = .ok (.invokevirtual 175, 3) := by decide +kernel
theorem dX4_strip_74 : decode cX4_strip 74 = .ok (.ireturn, 1) := by decide +kernel
def q_X4_strip (S : zM) (z : Int) (f : Int) (n : Int) (what : Int) : Int32 → zM → Prop := fun r S1 => ((0 ≤ z ∧ z < S 0 0 4) ∧ ((1 ≤ f ∧ f ≤ 999) ∧ (1 ≤ n ∧ n ≤ 9) ∧ (0 ≤ what ∧ what ≤ 3))) ∧ r = zI (tStr (S 0 0) z f n what) ∧ S = S1
def x_X4_strip (S : zM) (z : Int) (f : Int) (n : Int) (what : Int) : String → Prop := fun E => (E = "java/lang/IndexOutOfBoundsException" ∧ (¬ (0 ≤ z ∧ z < S 0 0 4))) ∨ (E = "java/lang/IllegalArgumentException" ∧ ((0 ≤ z ∧ z < S 0 0 4) ∧ ¬ ((1 ≤ f ∧ f ≤ 999) ∧ (1 ≤ n ∧ n ≤ 9) ∧ (0 ≤ what ∧ what ≤ 3))))
def r_X4_strip : Room := { frames := 6, cells := 1, slots := 6, locals := 82 }
set_option maxHeartbeats 4000000 in
set_option maxRecDepth 100000 in
theorem c_X4_strip (l : Launch) (hlx : l.stackTraces = false) (G : zG) (hG : zok G) (S : zM) (z : Int) (hz_ : -2147483648 ≤ z ∧ z ≤ 2147483647) (f : Int) (hf_ : -2147483648 ≤ f ∧ f ≤ 2147483647) (n : Int) (hn_ : -2147483648 ≤ n ∧ n ≤ 2147483647) (what : Int) (hwhat_ : -2147483648 ≤ what ∧ what ≤ 2147483647) (hms : zMs S 0) (hw : zW (S 0 0))  : vx_Met l yX4_strip (Cond.code yX4_strip cX4_strip 5 (some FieldType.int) :: zTbl) r_X4_strip (va_Pc [.ref (za G 8 0), .int (zI z), .int (zI f), .int (zI n), .int (zI what)] (zBX G S)) (va_Qi (q_X4_strip S z f n what) (zB G) (zA G)) (zXC G (fun u => u = S) (x_X4_strip S z f n what)) 1 6 (zA G) := by
  refine zXMet [(0, .ref (za G 8 0)), (1, .int (zI z)), (2, .int (zI f)), (3, .int (zI n)), (4, .int (zI what))] hG (by decide) (Nat.le_of_ble_eq_true rfl) rfl (fun p e s m args below meth c ls h hX hT hx hb hr hH hl => ?_)
  have f4 := zW_4 hw
  refine lv_aload_n hx hb dX4_strip_0 rfl (lv_at hl 0 rfl) ?_
  refine zg_4_0 h hH zf_X4_10 dX4_strip_1 ?_
  refine lv_iload_n hx hb dX4_strip_4 rfl (lv_at hl 1 rfl) ?_
  refine zcVi h hH (zr_3 h hH (by omega)) (As := [.int (zI z)]) (rest := []) (c_X3_hasZone l G hG 0 (by omega) S z (by omega) hw) zce_X3_hasZone zcv_X3_hasZone zm_X4_69 hl.1 rfl rfl ⟨rfl, rfl⟩ ⟨Nat.le_of_ble_eq_true rfl, Nat.le_of_ble_eq_true rfl⟩ (Nat.le_of_ble_eq_true rfl) ⟨Nat.zero_le _, Nat.zero_le _⟩ dX4_strip_5 (fun r_5 S_5 H locs hq hH => ?_)
  obtain ⟨b_5, rfl, hb_5, rfl⟩ := hq
  refine zb_ine (tgt := 21) h (by omega) dX4_strip_8 (by decide) (fun c_8 => ?_) (fun c_8 => ?_)
  · refine lv_iload_n hx hb dX4_strip_21 rfl (lv_at hl 2 rfl) ?_
    refine zb_ic h dX4_strip_22 ?_
    refine zb_si h dX4_strip_23 (by decide) (by decide) ?_
    refine zcSi h hH (As := [.int (zI f), .int (zI 1), .int (zI 999)]) (rest := []) (c_X4_isWithin l G hG S f 1 999 (by omega) (by omega) (by omega)) zce_X4_isWithin zt_X4_isWithin zm_X4_41 hl.1 rfl rfl ⟨rfl, rfl⟩ ⟨Nat.le_of_ble_eq_true rfl, Nat.le_of_ble_eq_true rfl⟩ (Nat.le_of_ble_eq_true rfl) ⟨Nat.zero_le _, Nat.zero_le _⟩ dX4_strip_26 (fun r_26 S_26 H locs hq hH => ?_)
    obtain ⟨b_26, rfl, hb_26, rfl⟩ := hq
    refine zb_ieq (tgt := 52) h (by omega) dX4_strip_29 (by decide) (fun c_29 => ?_) (fun c_29 => ?_)
    · refine zthr h hX hT hlx hH hl.1 zx_173 zl_X4_45 zn_IllegalArgumentException zat_IllegalArgumentException rfl (show x_X4_strip S z f n what "java/lang/IllegalArgumentException" from (Or.inr ⟨rfl, by omega⟩)) dX4_strip_52 dX4_strip_55 dX4_strip_56 dX4_strip_58 dX4_strip_61 ⟨Nat.le_of_ble_eq_true rfl, Nat.le_of_ble_eq_true rfl, Nat.le_of_ble_eq_true rfl, Nat.le_of_ble_eq_true rfl⟩
    · refine lv_iload_n hx hb dX4_strip_32 rfl (lv_at hl 3 rfl) ?_
      refine zb_ic h dX4_strip_33 ?_
      refine zb_bi h dX4_strip_34 (by decide) (by decide) ?_
      refine zcSi h hH (As := [.int (zI n), .int (zI 1), .int (zI 9)]) (rest := []) (c_X4_isWithin l G hG S n 1 9 (by omega) (by omega) (by omega)) zce_X4_isWithin zt_X4_isWithin zm_X4_41 hl.1 rfl rfl ⟨rfl, rfl⟩ ⟨Nat.le_of_ble_eq_true rfl, Nat.le_of_ble_eq_true rfl⟩ (Nat.le_of_ble_eq_true rfl) ⟨Nat.zero_le _, Nat.zero_le _⟩ dX4_strip_36 (fun r_36 S_36 H locs hq hH => ?_)
      obtain ⟨b_36, rfl, hb_36, rfl⟩ := hq
      refine zb_ieq (tgt := 52) h (by omega) dX4_strip_39 (by decide) (fun c_39 => ?_) (fun c_39 => ?_)
      · refine zthr h hX hT hlx hH hl.1 zx_173 zl_X4_45 zn_IllegalArgumentException zat_IllegalArgumentException rfl (show x_X4_strip S z f n what "java/lang/IllegalArgumentException" from (Or.inr ⟨rfl, by omega⟩)) dX4_strip_52 dX4_strip_55 dX4_strip_56 dX4_strip_58 dX4_strip_61 ⟨Nat.le_of_ble_eq_true rfl, Nat.le_of_ble_eq_true rfl, Nat.le_of_ble_eq_true rfl, Nat.le_of_ble_eq_true rfl⟩
      · refine lv_iload hx hb dX4_strip_42 (lv_at hl 4 rfl) ?_
        refine zb_ic h dX4_strip_44 ?_
        refine zb_ic h dX4_strip_45 ?_
        refine zcSi h hH (As := [.int (zI what), .int (zI 0), .int (zI 3)]) (rest := []) (c_X4_isWithin l G hG S what 0 3 (by omega) (by omega) (by omega)) zce_X4_isWithin zt_X4_isWithin zm_X4_41 hl.1 rfl rfl ⟨rfl, rfl⟩ ⟨Nat.le_of_ble_eq_true rfl, Nat.le_of_ble_eq_true rfl⟩ (Nat.le_of_ble_eq_true rfl) ⟨Nat.zero_le _, Nat.zero_le _⟩ dX4_strip_46 (fun r_46 S_46 H locs hq hH => ?_)
        obtain ⟨b_46, rfl, hb_46, rfl⟩ := hq
        refine zb_ine (tgt := 62) h (by omega) dX4_strip_49 (by decide) (fun c_49 => ?_) (fun c_49 => ?_)
        · refine lv_aload_n hx hb dX4_strip_62 rfl (lv_at hl 0 rfl) ?_
          refine zg_4_0 h hH zf_X4_10 dX4_strip_63 ?_
          refine lv_iload_n hx hb dX4_strip_66 rfl (lv_at hl 1 rfl) ?_
          refine lv_iload_n hx hb dX4_strip_67 rfl (lv_at hl 2 rfl) ?_
          refine lv_iload_n hx hb dX4_strip_68 rfl (lv_at hl 3 rfl) ?_
          refine lv_iload hx hb dX4_strip_69 (lv_at hl 4 rfl) ?_
          refine zcVi h hH (zr_3 h hH (by omega)) (As := [.int (zI z), .int (zI f), .int (zI n), .int (zI what)]) (rest := []) (c_X3_readStrip l G hG 0 (by omega) S z f n what (by omega) (by omega) (by omega) (by omega) hms hw) zce_X3_readStrip zcv_X3_readStrip zm_X4_175 hl.1 rfl rfl ⟨rfl, rfl⟩ ⟨Nat.le_of_ble_eq_true rfl, Nat.le_of_ble_eq_true rfl⟩ (Nat.le_of_ble_eq_true rfl) ⟨Nat.zero_le _, Nat.zero_le _⟩ dX4_strip_71 (fun r_71 S_71 H locs hq hH => ?_)
          obtain ⟨rfl, rfl⟩ := hq
          refine zXret ?_
          refine zri h hr hH ?_ dX4_strip_74
          exact ⟨by omega, rfl, rfl⟩
        · refine zthr h hX hT hlx hH hl.1 zx_173 zl_X4_45 zn_IllegalArgumentException zat_IllegalArgumentException rfl (show x_X4_strip S z f n what "java/lang/IllegalArgumentException" from (Or.inr ⟨rfl, by omega⟩)) dX4_strip_52 dX4_strip_55 dX4_strip_56 dX4_strip_58 dX4_strip_61 ⟨Nat.le_of_ble_eq_true rfl, Nat.le_of_ble_eq_true rfl, Nat.le_of_ble_eq_true rfl, Nat.le_of_ble_eq_true rfl⟩
  · refine zthr h hX hT hlx hH hl.1 zx_75 zl_X4_73 zn_IndexOutOfBoundsException zat_IndexOutOfBoundsException rfl (show x_X4_strip S z f n what "java/lang/IndexOutOfBoundsException" from (Or.inl ⟨rfl, by omega⟩)) dX4_strip_11 dX4_strip_14 dX4_strip_15 dX4_strip_17 dX4_strip_20 ⟨Nat.le_of_ble_eq_true rfl, Nat.le_of_ble_eq_true rfl, Nat.le_of_ble_eq_true rfl, Nat.le_of_ble_eq_true rfl⟩
theorem dX4_count_0 : decode cX4_count 0 = .ok (.iload_n 1, 1) := by decide +kernel
theorem dX4_count_1 : decode cX4_count 1 = .ok (.iconst 0, 1) := by decide +kernel
theorem dX4_count_2 : decode cX4_count 2 = .ok (.bipush 11, 2) := by decide +kernel
theorem dX4_count_4 : decode cX4_count 4 = .ok (.invokestatic 41, 3) := by decide +kernel
theorem dX4_count_7 : decode cX4_count 7 = .ok (.ifCond .ne 13, 3) := by decide +kernel
theorem dX4_count_10 : decode cX4_count 10 = .ok (.new 45, 3) := by decide +kernel
theorem dX4_count_13 : decode cX4_count 13 = .ok (.dup, 1) := by decide +kernel
theorem dX4_count_14 : decode cX4_count 14 = .ok (.ldc 179, 2) := by decide +kernel
theorem dX4_count_16 : decode cX4_count 16 = .ok (.invokespecial 49, 3) := by decide +kernel
theorem dX4_count_19 : decode cX4_count 19 = .ok (.athrow, 1) := by decide +kernel
theorem dX4_count_20 : decode cX4_count 20 = .ok (.aload_n 0, 1) := by decide +kernel
theorem dX4_count_21 : decode cX4_count 21 = .ok (.iload_n 1, 1) := by decide +kernel
theorem dX4_count_22 : decode cX4_count 22 = .ok (.invokevirtual 181, 3) := by decide +kernel
theorem dX4_count_25 : decode cX4_count 25 = .ok (.ireturn, 1) := by decide +kernel
def q_X4_count (S : zM) (what : Int) : Int32 → zM → Prop := fun r S1 => (0 ≤ what ∧ what ≤ 11) ∧ r = zI (tNum (S 0 0) (S 8 1 1) what) ∧ S = S1
def x_X4_count (S : zM) (what : Int) : String → Prop := fun E => (E = "java/lang/IllegalArgumentException" ∧ (¬ (0 ≤ what ∧ what ≤ 11)))
def r_X4_count : Room := { frames := 6, cells := 1, slots := 6, locals := 114 }
set_option maxHeartbeats 4000000 in
set_option maxRecDepth 100000 in
theorem c_X4_count (l : Launch) (hlx : l.stackTraces = false) (G : zG) (hG : zok G) (S : zM) (what : Int) (hwhat_ : -2147483648 ≤ what ∧ what ≤ 2147483647) (hok : zOk (S 0 0)) (hms : zMs S 0) (hw : zW (S 0 0))  : vx_Met l yX4_count (Cond.code yX4_count cX4_count 2 (some FieldType.int) :: zTbl) r_X4_count (va_Pc [.ref (za G 8 0), .int (zI what)] (zBX G S)) (va_Qi (q_X4_count S what) (zB G) (zA G)) (zXC G (fun u => u = S) (x_X4_count S what)) 1 6 (zA G) := by
  refine zXMet [(0, .ref (za G 8 0)), (1, .int (zI what))] hG (by decide) (Nat.le_of_ble_eq_true rfl) rfl (fun p e s m args below meth c ls h hX hT hx hb hr hH hl => ?_)
  have f4 := zW_4 hw
  refine lv_iload_n hx hb dX4_count_0 rfl (lv_at hl 1 rfl) ?_
  refine zb_ic h dX4_count_1 ?_
  refine zb_bi h dX4_count_2 (by decide) (by decide) ?_
  refine zcSi h hH (As := [.int (zI what), .int (zI 0), .int (zI 11)]) (rest := []) (c_X4_isWithin l G hG S what 0 11 (by omega) (by omega) (by omega)) zce_X4_isWithin zt_X4_isWithin zm_X4_41 hl.1 rfl rfl ⟨rfl, rfl⟩ ⟨Nat.le_of_ble_eq_true rfl, Nat.le_of_ble_eq_true rfl⟩ (Nat.le_of_ble_eq_true rfl) ⟨Nat.zero_le _, Nat.zero_le _⟩ dX4_count_4 (fun r_4 S_4 H locs hq hH => ?_)
  obtain ⟨b_4, rfl, hb_4, rfl⟩ := hq
  refine zb_ine (tgt := 20) h (by omega) dX4_count_7 (by decide) (fun c_7 => ?_) (fun c_7 => ?_)
  · refine lv_aload_n hx hb dX4_count_20 rfl (lv_at hl 0 rfl) ?_
    refine lv_iload_n hx hb dX4_count_21 rfl (lv_at hl 1 rfl) ?_
    refine zcVi h hH (zr_4 h hH) (As := [.int (zI what)]) (rest := []) (c_X4_numberOf l G hG S what (by omega) hok hms hw) zce_X4_numberOf zcv_X4_numberOf zm_X4_181 hl.1 rfl rfl ⟨rfl, rfl⟩ ⟨Nat.le_of_ble_eq_true rfl, Nat.le_of_ble_eq_true rfl⟩ (Nat.le_of_ble_eq_true rfl) ⟨Nat.zero_le _, Nat.zero_le _⟩ dX4_count_22 (fun r_22 S_22 H locs hq hH => ?_)
    obtain ⟨rfl, rfl⟩ := hq
    refine zXret ?_
    refine zri h hr hH ?_ dX4_count_25
    exact ⟨by omega, rfl, rfl⟩
  · refine zthr h hX hT hlx hH hl.1 zx_179 zl_X4_45 zn_IllegalArgumentException zat_IllegalArgumentException rfl (show x_X4_count S what "java/lang/IllegalArgumentException" from ⟨rfl, by omega⟩) dX4_count_10 dX4_count_13 dX4_count_14 dX4_count_16 dX4_count_19 ⟨Nat.le_of_ble_eq_true rfl, Nat.le_of_ble_eq_true rfl, Nat.le_of_ble_eq_true rfl, Nat.le_of_ble_eq_true rfl⟩
theorem dX4_ifExposed_0 : decode cX4_ifExposed 0 = .ok (.iload_n 1, 1) := by decide +kernel
theorem dX4_ifExposed_1 : decode cX4_ifExposed 1 = .ok (.iconst 1, 1) := by decide +kernel
theorem dX4_ifExposed_2 : decode cX4_ifExposed 2 = .ok (.sipush 2000, 3) := by decide +kernel
theorem dX4_ifExposed_5 : decode cX4_ifExposed 5 = .ok (.invokestatic 41, 3) := by decide +kernel
theorem dX4_ifExposed_8 : decode cX4_ifExposed 8 = .ok (.ifCond .eq 12, 3) := by decide +kernel
theorem dX4_ifExposed_11 : decode cX4_ifExposed 11 = .ok (.iload_n 2, 1) := by decide +kernel
theorem dX4_ifExposed_12 : decode cX4_ifExposed 12 = .ok (.iconst 0, 1) := by decide +kernel
theorem dX4_ifExposed_13 : decode cX4_ifExposed 13 = .ok (.iconst 1, 1) := by decide +kernel
theorem dX4_ifExposed_14 : decode cX4_ifExposed 14 = .ok (.invokestatic 41, 3) := by decide +kernel
theorem dX4_ifExposed_17 : decode cX4_ifExposed 17 = .ok (.ifCond .ne 13, 3) := by decide +kernel
theorem dX4_ifExposed_20 : decode cX4_ifExposed 20 = .ok (.new 45, 3) := by decide +kernel
theorem dX4_ifExposed_23 : decode cX4_ifExposed 23 = .ok (.dup, 1) := by decide +kernel
theorem dX4_ifExposed_24 : decode cX4_ifExposed 24 = .ok (.ldc 184, 2) := by decide +kernel
theorem dX4_ifExposed_26 : decode cX4_ifExposed 26 = .ok (.invokespecial 49, 3) := by decide +kernel
theorem dX4_ifExposed_29 : decode cX4_ifExposed 29 = .ok (.athrow, 1) := by decide +kernel
theorem dX4_ifExposed_30 : decode cX4_ifExposed 30 = .ok (.aload_n 0, 1) := by decide +kernel
theorem dX4_ifExposed_31 : decode cX4_ifExposed 31 = .ok (.iload_n 1, 1) := by decide +kernel
theorem dX4_ifExposed_32 : decode cX4_ifExposed 32 = .ok (.iload_n 2, 1) := by decide +kernel
theorem dX4_ifExposed_33 : decode cX4_ifExposed 33 = .ok (.invokevirtual 186, 3) := by decide +kernel
theorem dX4_ifExposed_36 : decode cX4_ifExposed 36 = .ok (.ireturn, 1) := by decide +kernel
def q_X4_ifExposed (S : zM) (t : Int) (w : Int) : Int32 → zM → Prop := fun r S1 => ((1 ≤ t ∧ t ≤ 2000) ∧ (0 ≤ w ∧ w ≤ 1)) ∧ r = zI (tEx (S 0 0) t w) ∧ ∃ σ' M' q', zPut S 1 σ' M' q' = S1
def x_X4_ifExposed (S : zM) (t : Int) (w : Int) : String → Prop := fun E => (E = "java/lang/IllegalArgumentException" ∧ (¬ ((1 ≤ t ∧ t ≤ 2000) ∧ (0 ≤ w ∧ w ≤ 1))))
def r_X4_ifExposed : Room := { frames := 6, cells := 1, slots := 6, locals := 112 }
set_option maxHeartbeats 4000000 in
set_option maxRecDepth 100000 in
theorem c_X4_ifExposed (l : Launch) (hlx : l.stackTraces = false) (G : zG) (hG : zok G) (S : zM) (t : Int) (ht_ : -2147483648 ≤ t ∧ t ≤ 2147483647) (w : Int) (hw_ : -2147483648 ≤ w ∧ w ≤ 2147483647) (hw : zW (S 0 0))  : vx_Met l yX4_ifExposed (Cond.code yX4_ifExposed cX4_ifExposed 3 (some FieldType.int) :: zTbl) r_X4_ifExposed (va_Pc [.ref (za G 8 0), .int (zI t), .int (zI w)] (zBX G S)) (va_Qi (q_X4_ifExposed S t w) (zB G) (zA G)) (zXC G (fun u => u = S) (x_X4_ifExposed S t w)) 1 6 (zA G) := by
  refine zXMet [(0, .ref (za G 8 0)), (1, .int (zI t)), (2, .int (zI w))] hG (by decide) (Nat.le_of_ble_eq_true rfl) rfl (fun p e s m args below meth c ls h hX hT hx hb hr hH hl => ?_)
  have f4 := zW_4 hw
  refine lv_iload_n hx hb dX4_ifExposed_0 rfl (lv_at hl 1 rfl) ?_
  refine zb_ic h dX4_ifExposed_1 ?_
  refine zb_si h dX4_ifExposed_2 (by decide) (by decide) ?_
  refine zcSi h hH (As := [.int (zI t), .int (zI 1), .int (zI 2000)]) (rest := []) (c_X4_isWithin l G hG S t 1 2000 (by omega) (by omega) (by omega)) zce_X4_isWithin zt_X4_isWithin zm_X4_41 hl.1 rfl rfl ⟨rfl, rfl⟩ ⟨Nat.le_of_ble_eq_true rfl, Nat.le_of_ble_eq_true rfl⟩ (Nat.le_of_ble_eq_true rfl) ⟨Nat.zero_le _, Nat.zero_le _⟩ dX4_ifExposed_5 (fun r_5 S_5 H locs hq hH => ?_)
  obtain ⟨b_5, rfl, hb_5, rfl⟩ := hq
  refine zb_ieq (tgt := 20) h (by omega) dX4_ifExposed_8 (by decide) (fun c_8 => ?_) (fun c_8 => ?_)
  · refine zthr h hX hT hlx hH hl.1 zx_184 zl_X4_45 zn_IllegalArgumentException zat_IllegalArgumentException rfl (show x_X4_ifExposed S t w "java/lang/IllegalArgumentException" from ⟨rfl, by omega⟩) dX4_ifExposed_20 dX4_ifExposed_23 dX4_ifExposed_24 dX4_ifExposed_26 dX4_ifExposed_29 ⟨Nat.le_of_ble_eq_true rfl, Nat.le_of_ble_eq_true rfl, Nat.le_of_ble_eq_true rfl, Nat.le_of_ble_eq_true rfl⟩
  · refine lv_iload_n hx hb dX4_ifExposed_11 rfl (lv_at hl 2 rfl) ?_
    refine zb_ic h dX4_ifExposed_12 ?_
    refine zb_ic h dX4_ifExposed_13 ?_
    refine zcSi h hH (As := [.int (zI w), .int (zI 0), .int (zI 1)]) (rest := []) (c_X4_isWithin l G hG S w 0 1 (by omega) (by omega) (by omega)) zce_X4_isWithin zt_X4_isWithin zm_X4_41 hl.1 rfl rfl ⟨rfl, rfl⟩ ⟨Nat.le_of_ble_eq_true rfl, Nat.le_of_ble_eq_true rfl⟩ (Nat.le_of_ble_eq_true rfl) ⟨Nat.zero_le _, Nat.zero_le _⟩ dX4_ifExposed_14 (fun r_14 S_14 H locs hq hH => ?_)
    obtain ⟨b_14, rfl, hb_14, rfl⟩ := hq
    refine zb_ine (tgt := 30) h (by omega) dX4_ifExposed_17 (by decide) (fun c_17 => ?_) (fun c_17 => ?_)
    · refine lv_aload_n hx hb dX4_ifExposed_30 rfl (lv_at hl 0 rfl) ?_
      refine lv_iload_n hx hb dX4_ifExposed_31 rfl (lv_at hl 1 rfl) ?_
      refine lv_iload_n hx hb dX4_ifExposed_32 rfl (lv_at hl 2 rfl) ?_
      refine zcVi h hH (zr_4 h hH) (As := [.int (zI t), .int (zI w)]) (rest := []) (c_X4_tryTime l G hG S t w (by omega) (by omega) hw) zce_X4_tryTime zcv_X4_tryTime zm_X4_186 hl.1 rfl rfl ⟨rfl, rfl⟩ ⟨Nat.le_of_ble_eq_true rfl, Nat.le_of_ble_eq_true rfl⟩ (Nat.le_of_ble_eq_true rfl) ⟨Nat.zero_le _, Nat.zero_le _⟩ dX4_ifExposed_33 (fun r_33 S_33 H locs hq hH => ?_)
      obtain ⟨rfl, σ_33, M_33, q_33, rfl⟩ := hq
      refine zXret ?_
      refine zri h hr hH ?_ dX4_ifExposed_36
      exact ⟨by omega, rfl, _, _, _, rfl⟩
    · refine zthr h hX hT hlx hH hl.1 zx_184 zl_X4_45 zn_IllegalArgumentException zat_IllegalArgumentException rfl (show x_X4_ifExposed S t w "java/lang/IllegalArgumentException" from ⟨rfl, by omega⟩) dX4_ifExposed_20 dX4_ifExposed_23 dX4_ifExposed_24 dX4_ifExposed_26 dX4_ifExposed_29 ⟨Nat.le_of_ble_eq_true rfl, Nat.le_of_ble_eq_true rfl, Nat.le_of_ble_eq_true rfl, Nat.le_of_ble_eq_true rfl⟩
theorem dX4_ifBurned_0 : decode cX4_ifBurned 0 = .ok (.aload_n 0, 1) := by decide +kernel
theorem dX4_ifBurned_1 : decode cX4_ifBurned 1 = .ok (.getfield 10, 3) := by decide +kernel
theorem dX4_ifBurned_4 : decode cX4_ifBurned 4 = .ok (.iload_n 1, 1) := by decide +kernel
theorem dX4_ifBurned_5 : decode cX4_ifBurned 5 = .ok (.invokevirtual 69, 3) := by decide +kernel
theorem dX4_ifBurned_8 : decode cX4_ifBurned 8 = .ok (.ifCond .ne 13, 3) := by decide +kernel
theorem dX4_ifBurned_11 : decode cX4_ifBurned 11 = .ok (.new 73, 3) := by decide +kernel
theorem dX4_ifBurned_14 : decode cX4_ifBurned 14 = .ok (.dup, 1) := by decide +kernel
theorem dX4_ifBurned_15 : decode cX4_ifBurned 15 = .ok (.ldc 75, 2) := by decide +kernel
theorem dX4_ifBurned_17 : decode cX4_ifBurned 17 = .ok (.invokespecial 77, 3) := by decide +kernel
theorem dX4_ifBurned_20 : decode cX4_ifBurned 20 = .ok (.athrow, 1) := by decide +kernel
theorem dX4_ifBurned_21 : decode cX4_ifBurned 21 = .ok (.iload_n 2, 1) := by decide +kernel
theorem dX4_ifBurned_22 : decode cX4_ifBurned 22 = .ok (.iconst 0, 1) := by decide +kernel
theorem dX4_ifBurned_23 : decode cX4_ifBurned 23 = .ok (.sipush 999, 3) := by decide +kernel
theorem dX4_ifBurned_26 : decode cX4_ifBurned 26 = .ok (.invokestatic 41, 3) := by decide +kernel
theorem dX4_ifBurned_29 : decode cX4_ifBurned 29 = .ok (.ifCond .eq 12, 3) := by decide +kernel
theorem dX4_ifBurned_32 : decode cX4_ifBurned 32 = .ok (.iload_n 3, 1) := by decide +kernel
theorem dX4_ifBurned_33 : decode cX4_ifBurned 33 = .ok (.iconst 0, 1) := by decide +kernel
theorem dX4_ifBurned_34 : decode cX4_ifBurned 34 = .ok (.iconst 1, 1) := by decide +kernel
theorem dX4_ifBurned_35 : decode cX4_ifBurned 35 = .ok (.invokestatic 41, 3) := by decide +kernel
theorem dX4_ifBurned_38 : decode cX4_ifBurned 38 = .ok (.ifCond .ne 13, 3) := by decide +kernel
theorem dX4_ifBurned_41 : decode cX4_ifBurned 41 = .ok (.new 45, 3) := by decide +kernel
theorem dX4_ifBurned_44 : decode cX4_ifBurned 44 = .ok (.dup, 1) := by decide +kernel
theorem dX4_ifBurned_45 : decode cX4_ifBurned 45 = .ok (.ldc 202, 2) := by decide +kernel
theorem dX4_ifBurned_47 : decode cX4_ifBurned 47 = .ok (.invokespecial 49, 3) := by decide +kernel
theorem dX4_ifBurned_50 : decode cX4_ifBurned 50 = .ok (.athrow, 1) := by decide +kernel
theorem dX4_ifBurned_51 : decode cX4_ifBurned 51 = .ok (.aload_n 0, 1) := by decide +kernel
theorem dX4_ifBurned_52 : decode cX4_ifBurned 52 = .ok (.iload_n 1, 1) := by decide +kernel
theorem dX4_ifBurned_53 : decode cX4_ifBurned 53 = .ok (.iload_n 2, 1) := by decide +kernel
theorem dX4_ifBurned_54 : decode cX4_ifBurned 54 = .ok (.iload_n 3, 1) := by decide +kernel
theorem dX4_ifBurned_55 : decode cX4_ifBurned 55 = .ok (.invokevirtual 204, 3) := by decide +kernel
theorem dX4_ifBurned_58 : decode cX4_ifBurned 58 = .ok (.ireturn, 1) := by decide +kernel
def q_X4_ifBurned (S : zM) (z : Int) (t : Int) (w : Int) : Int32 → zM → Prop := fun r S1 => ((0 ≤ z ∧ z < S 0 0 4) ∧ ((0 ≤ t ∧ t ≤ 999) ∧ (0 ≤ w ∧ w ≤ 1))) ∧ r = zI (tBu (S 0 0) z t w) ∧ ∃ σ' M' q', zPut S 1 σ' M' q' = S1
def x_X4_ifBurned (S : zM) (z : Int) (t : Int) (w : Int) : String → Prop := fun E => (E = "java/lang/IndexOutOfBoundsException" ∧ (¬ (0 ≤ z ∧ z < S 0 0 4))) ∨ (E = "java/lang/IllegalArgumentException" ∧ ((0 ≤ z ∧ z < S 0 0 4) ∧ ¬ ((0 ≤ t ∧ t ≤ 999) ∧ (0 ≤ w ∧ w ≤ 1))))
def r_X4_ifBurned : Room := { frames := 6, cells := 1, slots := 6, locals := 113 }
set_option maxHeartbeats 4000000 in
set_option maxRecDepth 100000 in
theorem c_X4_ifBurned (l : Launch) (hlx : l.stackTraces = false) (G : zG) (hG : zok G) (S : zM) (z : Int) (hz_ : -2147483648 ≤ z ∧ z ≤ 2147483647) (t : Int) (ht_ : -2147483648 ≤ t ∧ t ≤ 2147483647) (w : Int) (hw_ : -2147483648 ≤ w ∧ w ≤ 2147483647) (hw : zW (S 0 0))  : vx_Met l yX4_ifBurned (Cond.code yX4_ifBurned cX4_ifBurned 4 (some FieldType.int) :: zTbl) r_X4_ifBurned (va_Pc [.ref (za G 8 0), .int (zI z), .int (zI t), .int (zI w)] (zBX G S)) (va_Qi (q_X4_ifBurned S z t w) (zB G) (zA G)) (zXC G (fun u => u = S) (x_X4_ifBurned S z t w)) 1 6 (zA G) := by
  refine zXMet [(0, .ref (za G 8 0)), (1, .int (zI z)), (2, .int (zI t)), (3, .int (zI w))] hG (by decide) (Nat.le_of_ble_eq_true rfl) rfl (fun p e s m args below meth c ls h hX hT hx hb hr hH hl => ?_)
  have f4 := zW_4 hw
  refine lv_aload_n hx hb dX4_ifBurned_0 rfl (lv_at hl 0 rfl) ?_
  refine zg_4_0 h hH zf_X4_10 dX4_ifBurned_1 ?_
  refine lv_iload_n hx hb dX4_ifBurned_4 rfl (lv_at hl 1 rfl) ?_
  refine zcVi h hH (zr_3 h hH (by omega)) (As := [.int (zI z)]) (rest := []) (c_X3_hasZone l G hG 0 (by omega) S z (by omega) hw) zce_X3_hasZone zcv_X3_hasZone zm_X4_69 hl.1 rfl rfl ⟨rfl, rfl⟩ ⟨Nat.le_of_ble_eq_true rfl, Nat.le_of_ble_eq_true rfl⟩ (Nat.le_of_ble_eq_true rfl) ⟨Nat.zero_le _, Nat.zero_le _⟩ dX4_ifBurned_5 (fun r_5 S_5 H locs hq hH => ?_)
  obtain ⟨b_5, rfl, hb_5, rfl⟩ := hq
  refine zb_ine (tgt := 21) h (by omega) dX4_ifBurned_8 (by decide) (fun c_8 => ?_) (fun c_8 => ?_)
  · refine lv_iload_n hx hb dX4_ifBurned_21 rfl (lv_at hl 2 rfl) ?_
    refine zb_ic h dX4_ifBurned_22 ?_
    refine zb_si h dX4_ifBurned_23 (by decide) (by decide) ?_
    refine zcSi h hH (As := [.int (zI t), .int (zI 0), .int (zI 999)]) (rest := []) (c_X4_isWithin l G hG S t 0 999 (by omega) (by omega) (by omega)) zce_X4_isWithin zt_X4_isWithin zm_X4_41 hl.1 rfl rfl ⟨rfl, rfl⟩ ⟨Nat.le_of_ble_eq_true rfl, Nat.le_of_ble_eq_true rfl⟩ (Nat.le_of_ble_eq_true rfl) ⟨Nat.zero_le _, Nat.zero_le _⟩ dX4_ifBurned_26 (fun r_26 S_26 H locs hq hH => ?_)
    obtain ⟨b_26, rfl, hb_26, rfl⟩ := hq
    refine zb_ieq (tgt := 41) h (by omega) dX4_ifBurned_29 (by decide) (fun c_29 => ?_) (fun c_29 => ?_)
    · refine zthr h hX hT hlx hH hl.1 zx_202 zl_X4_45 zn_IllegalArgumentException zat_IllegalArgumentException rfl (show x_X4_ifBurned S z t w "java/lang/IllegalArgumentException" from (Or.inr ⟨rfl, by omega⟩)) dX4_ifBurned_41 dX4_ifBurned_44 dX4_ifBurned_45 dX4_ifBurned_47 dX4_ifBurned_50 ⟨Nat.le_of_ble_eq_true rfl, Nat.le_of_ble_eq_true rfl, Nat.le_of_ble_eq_true rfl, Nat.le_of_ble_eq_true rfl⟩
    · refine lv_iload_n hx hb dX4_ifBurned_32 rfl (lv_at hl 3 rfl) ?_
      refine zb_ic h dX4_ifBurned_33 ?_
      refine zb_ic h dX4_ifBurned_34 ?_
      refine zcSi h hH (As := [.int (zI w), .int (zI 0), .int (zI 1)]) (rest := []) (c_X4_isWithin l G hG S w 0 1 (by omega) (by omega) (by omega)) zce_X4_isWithin zt_X4_isWithin zm_X4_41 hl.1 rfl rfl ⟨rfl, rfl⟩ ⟨Nat.le_of_ble_eq_true rfl, Nat.le_of_ble_eq_true rfl⟩ (Nat.le_of_ble_eq_true rfl) ⟨Nat.zero_le _, Nat.zero_le _⟩ dX4_ifBurned_35 (fun r_35 S_35 H locs hq hH => ?_)
      obtain ⟨b_35, rfl, hb_35, rfl⟩ := hq
      refine zb_ine (tgt := 51) h (by omega) dX4_ifBurned_38 (by decide) (fun c_38 => ?_) (fun c_38 => ?_)
      · refine lv_aload_n hx hb dX4_ifBurned_51 rfl (lv_at hl 0 rfl) ?_
        refine lv_iload_n hx hb dX4_ifBurned_52 rfl (lv_at hl 1 rfl) ?_
        refine lv_iload_n hx hb dX4_ifBurned_53 rfl (lv_at hl 2 rfl) ?_
        refine lv_iload_n hx hb dX4_ifBurned_54 rfl (lv_at hl 3 rfl) ?_
        refine zcVi h hH (zr_4 h hH) (As := [.int (zI z), .int (zI t), .int (zI w)]) (rest := []) (c_X4_tryBurn l G hG S z t w (by omega) (by omega) (by omega) hw) zce_X4_tryBurn zcv_X4_tryBurn zm_X4_204 hl.1 rfl rfl ⟨rfl, rfl⟩ ⟨Nat.le_of_ble_eq_true rfl, Nat.le_of_ble_eq_true rfl⟩ (Nat.le_of_ble_eq_true rfl) ⟨Nat.zero_le _, Nat.zero_le _⟩ dX4_ifBurned_55 (fun r_55 S_55 H locs hq hH => ?_)
        obtain ⟨rfl, σ_55, M_55, q_55, rfl⟩ := hq
        refine zXret ?_
        refine zri h hr hH ?_ dX4_ifBurned_58
        exact ⟨by omega, rfl, _, _, _, rfl⟩
      · refine zthr h hX hT hlx hH hl.1 zx_202 zl_X4_45 zn_IllegalArgumentException zat_IllegalArgumentException rfl (show x_X4_ifBurned S z t w "java/lang/IllegalArgumentException" from (Or.inr ⟨rfl, by omega⟩)) dX4_ifBurned_41 dX4_ifBurned_44 dX4_ifBurned_45 dX4_ifBurned_47 dX4_ifBurned_50 ⟨Nat.le_of_ble_eq_true rfl, Nat.le_of_ble_eq_true rfl, Nat.le_of_ble_eq_true rfl, Nat.le_of_ble_eq_true rfl⟩
  · refine zthr h hX hT hlx hH hl.1 zx_75 zl_X4_73 zn_IndexOutOfBoundsException zat_IndexOutOfBoundsException rfl (show x_X4_ifBurned S z t w "java/lang/IndexOutOfBoundsException" from (Or.inl ⟨rfl, by omega⟩)) dX4_ifBurned_11 dX4_ifBurned_14 dX4_ifBurned_15 dX4_ifBurned_17 dX4_ifBurned_20 ⟨Nat.le_of_ble_eq_true rfl, Nat.le_of_ble_eq_true rfl, Nat.le_of_ble_eq_true rfl, Nat.le_of_ble_eq_true rfl⟩
theorem dX4_common_0 : decode cX4_common 0 = .ok (.iload_n 1, 1) := by decide +kernel
theorem dX4_common_1 : decode cX4_common 1 = .ok (.iconst 0, 1) := by decide +kernel
theorem dX4_common_2 : decode cX4_common 2 = .ok (.iconst 1, 1) := by decide +kernel
theorem dX4_common_3 : decode cX4_common 3 = .ok (.invokestatic 41, 3) := by decide +kernel
theorem dX4_common_6 : decode cX4_common 6 = .ok (.ifCond .ne 13, 3) := by decide +kernel
theorem dX4_common_9 : decode cX4_common 9 = .ok (.new 45, 3) := by decide +kernel
theorem dX4_common_12 : decode cX4_common 12 = .ok (.dup, 1) := by decide +kernel
theorem dX4_common_13 : decode cX4_common 13 = .ok (.ldc 208, 2) := by decide +kernel
theorem dX4_common_15 : decode cX4_common 15 = .ok (.invokespecial 49, 3) := by decide +kernel
theorem dX4_common_18 : decode cX4_common 18 = .ok (.athrow, 1) := by decide +kernel
theorem dX4_common_19 : decode cX4_common 19 = .ok (.aload_n 0, 1) := by decide +kernel
theorem dX4_common_20 : decode cX4_common 20 = .ok (.getfield 10, 3) := by decide +kernel
theorem dX4_common_23 : decode cX4_common 23 = .ok (.iload_n 1, 1) := by decide +kernel
theorem dX4_common_24 : decode cX4_common 24 = .ok (.invokevirtual 210, 3) := by decide +kernel
theorem dX4_common_27 : decode cX4_common 27 = .ok (.ireturn, 1) := by decide +kernel
def q_X4_common (S : zM) (what : Int) : Int32 → zM → Prop := fun r S1 => (0 ≤ what ∧ what ≤ 1) ∧ r = zI (tCo (S 0 0) what) ∧ S = S1
def x_X4_common (S : zM) (what : Int) : String → Prop := fun E => (E = "java/lang/IllegalArgumentException" ∧ (¬ (0 ≤ what ∧ what ≤ 1)))
def r_X4_common : Room := { frames := 6, cells := 1, slots := 6, locals := 95 }
set_option maxHeartbeats 4000000 in
set_option maxRecDepth 100000 in
theorem c_X4_common (l : Launch) (hlx : l.stackTraces = false) (G : zG) (hG : zok G) (S : zM) (what : Int) (hwhat_ : -2147483648 ≤ what ∧ what ≤ 2147483647) (hms : zMs S 0) (hw : zW (S 0 0))  : vx_Met l yX4_common (Cond.code yX4_common cX4_common 2 (some FieldType.int) :: zTbl) r_X4_common (va_Pc [.ref (za G 8 0), .int (zI what)] (zBX G S)) (va_Qi (q_X4_common S what) (zB G) (zA G)) (zXC G (fun u => u = S) (x_X4_common S what)) 1 6 (zA G) := by
  refine zXMet [(0, .ref (za G 8 0)), (1, .int (zI what))] hG (by decide) (Nat.le_of_ble_eq_true rfl) rfl (fun p e s m args below meth c ls h hX hT hx hb hr hH hl => ?_)
  have f4 := zW_4 hw
  refine lv_iload_n hx hb dX4_common_0 rfl (lv_at hl 1 rfl) ?_
  refine zb_ic h dX4_common_1 ?_
  refine zb_ic h dX4_common_2 ?_
  refine zcSi h hH (As := [.int (zI what), .int (zI 0), .int (zI 1)]) (rest := []) (c_X4_isWithin l G hG S what 0 1 (by omega) (by omega) (by omega)) zce_X4_isWithin zt_X4_isWithin zm_X4_41 hl.1 rfl rfl ⟨rfl, rfl⟩ ⟨Nat.le_of_ble_eq_true rfl, Nat.le_of_ble_eq_true rfl⟩ (Nat.le_of_ble_eq_true rfl) ⟨Nat.zero_le _, Nat.zero_le _⟩ dX4_common_3 (fun r_3 S_3 H locs hq hH => ?_)
  obtain ⟨b_3, rfl, hb_3, rfl⟩ := hq
  refine zb_ine (tgt := 19) h (by omega) dX4_common_6 (by decide) (fun c_6 => ?_) (fun c_6 => ?_)
  · refine lv_aload_n hx hb dX4_common_19 rfl (lv_at hl 0 rfl) ?_
    refine zg_4_0 h hH zf_X4_10 dX4_common_20 ?_
    refine lv_iload_n hx hb dX4_common_23 rfl (lv_at hl 1 rfl) ?_
    refine zcVi h hH (zr_3 h hH (by omega)) (As := [.int (zI what)]) (rest := []) (c_X3_commonNeed l G hG 0 (by omega) S what (by omega) hms hw) zce_X3_commonNeed zcv_X3_commonNeed zm_X4_210 hl.1 rfl rfl ⟨rfl, rfl⟩ ⟨Nat.le_of_ble_eq_true rfl, Nat.le_of_ble_eq_true rfl⟩ (Nat.le_of_ble_eq_true rfl) ⟨Nat.zero_le _, Nat.zero_le _⟩ dX4_common_24 (fun r_24 S_24 H locs hq hH => ?_)
    obtain ⟨rfl, rfl⟩ := hq
    refine zXret ?_
    refine zri h hr hH ?_ dX4_common_27
    exact ⟨by omega, rfl, rfl⟩
  · refine zthr h hX hT hlx hH hl.1 zx_208 zl_X4_45 zn_IllegalArgumentException zat_IllegalArgumentException rfl (show x_X4_common S what "java/lang/IllegalArgumentException" from ⟨rfl, by omega⟩) dX4_common_9 dX4_common_12 dX4_common_13 dX4_common_15 dX4_common_18 ⟨Nat.le_of_ble_eq_true rfl, Nat.le_of_ble_eq_true rfl, Nat.le_of_ble_eq_true rfl, Nat.le_of_ble_eq_true rfl⟩
