theorem dX5_zones_0 : decode cX5_zones 0 = .ok (.aload_n 0, 1) := by decide +kernel
theorem dX5_zones_1 : decode cX5_zones 1 = .ok (.getfield 7, 3) := by decide +kernel
theorem dX5_zones_4 : decode cX5_zones 4 = .ok (.iconst 4, 1) := by decide +kernel
theorem dX5_zones_5 : decode cX5_zones 5 = .ok (.iaload, 1) := by decide +kernel
theorem dX5_zones_6 : decode cX5_zones 6 = .ok (.istore_n 3, 1) := by decide +kernel
theorem dX5_zones_7 : decode cX5_zones 7 = .ok (.aload_n 0, 1) := by decide +kernel
theorem dX5_zones_8 : decode cX5_zones 8 = .ok (.getfield 7, 3) := by decide +kernel
theorem dX5_zones_11 : decode cX5_zones 11 = .ok (.iload_n 3, 1) := by decide +kernel
theorem dX5_zones_12 : decode cX5_zones 12 = .ok (.iconst 0, 1) := by decide +kernel
theorem dX5_zones_13 : decode cX5_zones 13 = .ok (.invokestatic 51, 3) := by decide +kernel
theorem dX5_zones_16 : decode cX5_zones 16 = .ok (.iload_n 1, 1) := by decide +kernel
theorem dX5_zones_17 : decode cX5_zones 17 = .ok (.iastore, 1) := by decide +kernel
theorem dX5_zones_18 : decode cX5_zones 18 = .ok (.aload_n 0, 1) := by decide +kernel
theorem dX5_zones_19 : decode cX5_zones 19 = .ok (.getfield 7, 3) := by decide +kernel
theorem dX5_zones_22 : decode cX5_zones 22 = .ok (.iload_n 3, 1) := by decide +kernel
theorem dX5_zones_23 : decode cX5_zones 23 = .ok (.iconst 1, 1) := by decide +kernel
theorem dX5_zones_24 : decode cX5_zones 24 = .ok (.invokestatic 51, 3) := by decide +kernel
theorem dX5_zones_27 : decode cX5_zones 27 = .ok (.iload_n 2, 1) := by decide +kernel
theorem dX5_zones_28 : decode cX5_zones 28 = .ok (.iastore, 1) := by decide +kernel
theorem dX5_zones_29 : decode cX5_zones 29 = .ok (.aload_n 0, 1) := by decide +kernel
theorem dX5_zones_30 : decode cX5_zones 30 = .ok (.getfield 7, 3) := by decide +kernel
theorem dX5_zones_33 : decode cX5_zones 33 = .ok (.iload_n 3, 1) := by decide +kernel
theorem dX5_zones_34 : decode cX5_zones 34 = .ok (.iconst 2, 1) := by decide +kernel
theorem dX5_zones_35 : decode cX5_zones 35 = .ok (.invokestatic 51, 3) := by decide +kernel
theorem dX5_zones_38 : decode cX5_zones 38 = .ok (.iconst 0, 1) := by decide +kernel
theorem dX5_zones_39 : decode cX5_zones 39 = .ok (.iastore, 1) := by decide +kernel
theorem dX5_zones_40 : decode cX5_zones 40 = .ok (.aload_n 0, 1) := by decide +kernel
theorem dX5_zones_41 : decode cX5_zones 41 = .ok (.getfield 7, 3) := by decide +kernel
theorem dX5_zones_44 : decode cX5_zones 44 = .ok (.iload_n 3, 1) := by decide +kernel
theorem dX5_zones_45 : decode cX5_zones 45 = .ok (.iconst 3, 1) := by decide +kernel
theorem dX5_zones_46 : decode cX5_zones 46 = .ok (.invokestatic 51, 3) := by decide +kernel
theorem dX5_zones_49 : decode cX5_zones 49 = .ok (.iconst 0, 1) := by decide +kernel
theorem dX5_zones_50 : decode cX5_zones 50 = .ok (.iastore, 1) := by decide +kernel
theorem dX5_zones_51 : decode cX5_zones 51 = .ok (.aload_n 0, 1) := by decide +kernel
theorem dX5_zones_52 : decode cX5_zones 52 = .ok (.getfield 7, 3) := by decide +kernel
theorem dX5_zones_55 : decode cX5_zones 55 = .ok (.iload_n 3, 1) := by decide +kernel
theorem dX5_zones_56 : decode cX5_zones 56 = .ok (.iconst 4, 1) := by decide +kernel
theorem dX5_zones_57 : decode cX5_zones 57 = .ok (.invokestatic 51, 3) := by decide +kernel
theorem dX5_zones_60 : decode cX5_zones 60 = .ok (.iconst 0, 1) := by decide +kernel
theorem dX5_zones_61 : decode cX5_zones 61 = .ok (.iastore, 1) := by decide +kernel
theorem dX5_zones_62 : decode cX5_zones 62 = .ok (.aload_n 0, 1) := by decide +kernel
theorem dX5_zones_63 : decode cX5_zones 63 = .ok (.getfield 7, 3) := by decide +kernel
theorem dX5_zones_66 : decode cX5_zones 66 = .ok (.iconst 4, 1) := by decide +kernel
theorem dX5_zones_67 : decode cX5_zones 67 = .ok (.dup2, 1) := by decide +kernel
theorem dX5_zones_68 : decode cX5_zones 68 = .ok (.iaload, 1) := by decide +kernel
theorem dX5_zones_69 : decode cX5_zones 69 = .ok (.iconst 1, 1) := by decide +kernel
theorem dX5_zones_70 : decode cX5_zones 70 = .ok (.iadd, 1) := by decide +kernel
theorem dX5_zones_71 : decode cX5_zones 71 = .ok (.iastore, 1) := by decide +kernel
theorem dX5_zones_72 : decode cX5_zones 72 = .ok (.iload_n 3, 1) := by decide +kernel
theorem dX5_zones_73 : decode cX5_zones 73 = .ok (.ireturn, 1) := by decide +kernel
def q_X5_zones (S : zM) (d w : Int) : Int32 → zM → Prop := fun r S1 => r = zI (S 9 1 4) ∧ zMo S (S 9 0) (tAdd (S 9 1) d w) (S 9 2) (S 9 3) (S 9 4) (S 9 5) (S 9 6) = S1
def r_X5_zones : Room := { frames := 1, cells := 0, slots := 0, locals := 21 }
set_option maxHeartbeats 4000000 in
set_option maxRecDepth 100000 in
theorem c_X5_zones (l : Launch) (G : zG) (hG : zok G) (S : zM) (d w : Int) (hful : S 9 1 4 < 8) (hw : zW (S 9 1)) : Met l yX5_zones (Cond.code yX5_zones cX5_zones 4 (some FieldType.int) :: zTbl) r_X5_zones (va_Pc [.ref (za G 9 0), .int (zI d), .int (zI w)] (zB G S)) (va_Qi (q_X5_zones S d w) (zB G) (zA G)) 0 0 (zA G) := by
  refine zMet [(0, .ref (za G 9 0)), (1, .int (zI d)), (2, .int (zI w))] hG (by decide) (Nat.le_of_ble_eq_true rfl) rfl (fun p e s m args below meth c ls h hx hb hr hH hl => ?_)
  rw [← zM_id S] at hH
  refine lv_aload_n hx hb dX5_zones_0 rfl (lv_at hl 0 rfl) ?_
  refine zg_5_1 h hH zf_X5_7 dX5_zones_1 ?_
  refine zb_ic h dX5_zones_4 ?_
  refine zld_ar_s h hH (by omega) dX5_zones_5 ?_
  rw [zM_1]
  have f_5 := zW_4 hw
  refine lv_istore_n (lv' := [(3, .int (zI (S 9 1 4))), (0, .ref (za G 9 0)), (1, .int (zI d)), (2, .int (zI w))]) hx hb dX5_zones_6 rfl hl (by decide) rfl (fun ls hl => ?_)
  refine lv_aload_n hx hb dX5_zones_7 rfl (lv_at hl 1 rfl) ?_
  refine zg_5_1 h hH zf_X5_7 dX5_zones_8 ?_
  refine lv_iload_n hx hb dX5_zones_11 rfl (lv_at hl 0 rfl) ?_
  refine zb_ic h dX5_zones_12 ?_
  refine zcSi h hH (As := [.int (zI (S 9 1 4)), .int (zI 0)]) (rest := [.ref (za G 9 1)]) (c_X5_of l G hG (zMo S (S 9 0) (S 9 1) (S 9 2) (S 9 3) (S 9 4) (S 9 5) (S 9 6)) (S 9 1 4) 0) zce_X5_of zt_X5_of zm_X5_51 hl.1 rfl rfl ⟨rfl, rfl⟩ ⟨Nat.le_of_ble_eq_true rfl, Nat.le_of_ble_eq_true rfl⟩ (Nat.le_of_ble_eq_true rfl) ⟨Nat.zero_le _, Nat.zero_le _⟩ dX5_zones_13 (fun r_13 S_13 H locs hq hH => ?_)
  obtain ⟨rfl, rfl⟩ := hq
  refine zb_top (y := 5 + 5 * (S 9 1 4)) (by omega) ?_
  refine lv_iload_n hx hb dX5_zones_16 rfl (lv_at hl 2 rfl) ?_
  refine zst_ar_s h hH (by omega) dX5_zones_17 (fun H locs hH => ?_)
  rw [zs_M1] at hH
  refine lv_aload_n hx hb dX5_zones_18 rfl (lv_at hl 1 rfl) ?_
  refine zg_5_1 h hH zf_X5_7 dX5_zones_19 ?_
  refine lv_iload_n hx hb dX5_zones_22 rfl (lv_at hl 0 rfl) ?_
  refine zb_ic h dX5_zones_23 ?_
  refine zcSi h hH (As := [.int (zI (S 9 1 4)), .int (zI 1)]) (rest := [.ref (za G 9 1)]) (c_X5_of l G hG (zMo S (S 9 0) (zup (S 9 1) ((5 + 5 * (S 9 1 4))) d) (S 9 2) (S 9 3) (S 9 4) (S 9 5) (S 9 6)) (S 9 1 4) 1) zce_X5_of zt_X5_of zm_X5_51 hl.1 rfl rfl ⟨rfl, rfl⟩ ⟨Nat.le_of_ble_eq_true rfl, Nat.le_of_ble_eq_true rfl⟩ (Nat.le_of_ble_eq_true rfl) ⟨Nat.zero_le _, Nat.zero_le _⟩ dX5_zones_24 (fun r_24 S_24 H locs hq hH => ?_)
  obtain ⟨rfl, rfl⟩ := hq
  refine lv_iload_n hx hb dX5_zones_27 rfl (lv_at hl 3 rfl) ?_
  refine zst_ar_s h hH (by omega) dX5_zones_28 (fun H locs hH => ?_)
  rw [zs_M1] at hH
  refine lv_aload_n hx hb dX5_zones_29 rfl (lv_at hl 1 rfl) ?_
  refine zg_5_1 h hH zf_X5_7 dX5_zones_30 ?_
  refine lv_iload_n hx hb dX5_zones_33 rfl (lv_at hl 0 rfl) ?_
  refine zb_ic h dX5_zones_34 ?_
  refine zcSi h hH (As := [.int (zI (S 9 1 4)), .int (zI 2)]) (rest := [.ref (za G 9 1)]) (c_X5_of l G hG (zMo S (S 9 0) (zup (zup (S 9 1) ((5 + 5 * (S 9 1 4))) d) ((5 + 5 * (S 9 1 4) + 1)) w) (S 9 2) (S 9 3) (S 9 4) (S 9 5) (S 9 6)) (S 9 1 4) 2) zce_X5_of zt_X5_of zm_X5_51 hl.1 rfl rfl ⟨rfl, rfl⟩ ⟨Nat.le_of_ble_eq_true rfl, Nat.le_of_ble_eq_true rfl⟩ (Nat.le_of_ble_eq_true rfl) ⟨Nat.zero_le _, Nat.zero_le _⟩ dX5_zones_35 (fun r_35 S_35 H locs hq hH => ?_)
  obtain ⟨rfl, rfl⟩ := hq
  refine zb_ic h dX5_zones_38 ?_
  refine zst_ar_s h hH (by omega) dX5_zones_39 (fun H locs hH => ?_)
  rw [zs_M1] at hH
  refine lv_aload_n hx hb dX5_zones_40 rfl (lv_at hl 1 rfl) ?_
  refine zg_5_1 h hH zf_X5_7 dX5_zones_41 ?_
  refine lv_iload_n hx hb dX5_zones_44 rfl (lv_at hl 0 rfl) ?_
  refine zb_ic h dX5_zones_45 ?_
  refine zcSi h hH (As := [.int (zI (S 9 1 4)), .int (zI 3)]) (rest := [.ref (za G 9 1)]) (c_X5_of l G hG (zMo S (S 9 0) (zup (zup (zup (S 9 1) ((5 + 5 * (S 9 1 4))) d) ((5 + 5 * (S 9 1 4) + 1)) w) ((5 + 5 * (S 9 1 4) + 2)) 0) (S 9 2) (S 9 3) (S 9 4) (S 9 5) (S 9 6)) (S 9 1 4) 3) zce_X5_of zt_X5_of zm_X5_51 hl.1 rfl rfl ⟨rfl, rfl⟩ ⟨Nat.le_of_ble_eq_true rfl, Nat.le_of_ble_eq_true rfl⟩ (Nat.le_of_ble_eq_true rfl) ⟨Nat.zero_le _, Nat.zero_le _⟩ dX5_zones_46 (fun r_46 S_46 H locs hq hH => ?_)
  obtain ⟨rfl, rfl⟩ := hq
  refine zb_ic h dX5_zones_49 ?_
  refine zst_ar_s h hH (by omega) dX5_zones_50 (fun H locs hH => ?_)
  rw [zs_M1] at hH
  refine lv_aload_n hx hb dX5_zones_51 rfl (lv_at hl 1 rfl) ?_
  refine zg_5_1 h hH zf_X5_7 dX5_zones_52 ?_
  refine lv_iload_n hx hb dX5_zones_55 rfl (lv_at hl 0 rfl) ?_
  refine zb_ic h dX5_zones_56 ?_
  refine zcSi h hH (As := [.int (zI (S 9 1 4)), .int (zI 4)]) (rest := [.ref (za G 9 1)]) (c_X5_of l G hG (zMo S (S 9 0) (zup (zup (zup (zup (S 9 1) ((5 + 5 * (S 9 1 4))) d) ((5 + 5 * (S 9 1 4) + 1)) w) ((5 + 5 * (S 9 1 4) + 2)) 0) ((5 + 5 * (S 9 1 4) + 3)) 0) (S 9 2) (S 9 3) (S 9 4) (S 9 5) (S 9 6)) (S 9 1 4) 4) zce_X5_of zt_X5_of zm_X5_51 hl.1 rfl rfl ⟨rfl, rfl⟩ ⟨Nat.le_of_ble_eq_true rfl, Nat.le_of_ble_eq_true rfl⟩ (Nat.le_of_ble_eq_true rfl) ⟨Nat.zero_le _, Nat.zero_le _⟩ dX5_zones_57 (fun r_57 S_57 H locs hq hH => ?_)
  obtain ⟨rfl, rfl⟩ := hq
  refine zb_ic h dX5_zones_60 ?_
  refine zst_ar_s h hH (by omega) dX5_zones_61 (fun H locs hH => ?_)
  rw [zs_M1] at hH
  refine lv_aload_n hx hb dX5_zones_62 rfl (lv_at hl 1 rfl) ?_
  refine zg_5_1 h hH zf_X5_7 dX5_zones_63 ?_
  refine zb_ic h dX5_zones_66 ?_
  refine lv_dup2_11 hx hb dX5_zones_67 rfl rfl ?_
  refine zld_ar_s h hH (by omega) dX5_zones_68 ?_
  rw [zM_1]
  rw [show (zup (zup (zup (zup (zup (S 9 1) ((5 + 5 * (S 9 1 4))) d) ((5 + 5 * (S 9 1 4) + 1)) w) ((5 + 5 * (S 9 1 4) + 2)) 0) ((5 + 5 * (S 9 1 4) + 3)) 0) ((5 + 5 * (S 9 1 4) + 4)) 0 4 : Int) = S 9 1 4 from by (first | rw [zup_s] | rw [zup_n (by omega)]); (first | rw [zup_s] | rw [zup_n (by omega)]); (first | rw [zup_s] | rw [zup_n (by omega)]); (first | rw [zup_s] | rw [zup_n (by omega)]); (first | rw [zup_s] | rw [zup_n (by omega)])]
  have f_68 := zW_4 hw
  refine zb_ic h dX5_zones_69 ?_
  refine zb_iadd h dX5_zones_70 ?_
  refine zst_ar_s h hH (by omega) dX5_zones_71 (fun H locs hH => ?_)
  rw [zs_M1] at hH
  refine lv_iload_n hx hb dX5_zones_72 rfl (lv_at hl 0 rfl) ?_
  refine zri h hr hH ?_ dX5_zones_73
  exact ⟨rfl, rfl⟩
theorem dX5_zoneFault_0 : decode cX5_zoneFault 0 = .ok (.iload_n 1, 1) := by decide +kernel
theorem dX5_zoneFault_1 : decode cX5_zoneFault 1 = .ok (.iconst 0, 1) := by decide +kernel
theorem dX5_zoneFault_2 : decode cX5_zoneFault 2 = .ok (.bipush 24, 2) := by decide +kernel
theorem dX5_zoneFault_4 : decode cX5_zoneFault 4 = .ok (.invokestatic 32, 3) := by decide +kernel
theorem dX5_zoneFault_7 : decode cX5_zoneFault 7 = .ok (.ifCond .eq 13, 3) := by decide +kernel
theorem dX5_zoneFault_10 : decode cX5_zoneFault 10 = .ok (.iload_n 2, 1) := by decide +kernel
theorem dX5_zoneFault_11 : decode cX5_zoneFault 11 = .ok (.iconst 0, 1) := by decide +kernel
theorem dX5_zoneFault_12 : decode cX5_zoneFault 12 = .ok (.bipush 10, 2) := by decide +kernel
theorem dX5_zoneFault_14 : decode cX5_zoneFault 14 = .ok (.invokestatic 32, 3) := by decide +kernel
theorem dX5_zoneFault_17 : decode cX5_zoneFault 17 = .ok (.ifCond .ne 7, 3) := by decide +kernel
theorem dX5_zoneFault_20 : decode cX5_zoneFault 20 = .ok (.iconst 1, 1) := by decide +kernel
theorem dX5_zoneFault_21 : decode cX5_zoneFault 21 = .ok (.goto 19, 3) := by decide +kernel
theorem dX5_zoneFault_24 : decode cX5_zoneFault 24 = .ok (.aload_n 0, 1) := by decide +kernel
theorem dX5_zoneFault_25 : decode cX5_zoneFault 25 = .ok (.getfield 7, 3) := by decide +kernel
theorem dX5_zoneFault_28 : decode cX5_zoneFault 28 = .ok (.iconst 4, 1) := by decide +kernel
theorem dX5_zoneFault_29 : decode cX5_zoneFault 29 = .ok (.iaload, 1) := by decide +kernel
theorem dX5_zoneFault_30 : decode cX5_zoneFault 30 = .ok (.bipush 8, 2) := by decide +kernel
theorem dX5_zoneFault_32 : decode cX5_zoneFault 32 = .ok (.if_icmp .ne 7, 3) := by decide +kernel
theorem dX5_zoneFault_35 : decode cX5_zoneFault 35 = .ok (.iconst 2, 1) := by decide +kernel
theorem dX5_zoneFault_36 : decode cX5_zoneFault 36 = .ok (.goto 4, 3) := by decide +kernel
theorem dX5_zoneFault_39 : decode cX5_zoneFault 39 = .ok (.iconst 0, 1) := by decide +kernel
theorem dX5_zoneFault_40 : decode cX5_zoneFault 40 = .ok (.ireturn, 1) := by decide +kernel
def q_X5_zoneFault (S : zM) (d w : Int) : Int32 → zM → Prop := fun r S1 => ∃ bb : Int, r = zI bb ∧ ((bb = 1 ∧ ¬ (0 ≤ d ∧ d ≤ 24 ∧ 0 ≤ w ∧ w ≤ 10)) ∨ (bb = 2 ∧ (0 ≤ d ∧ d ≤ 24 ∧ 0 ≤ w ∧ w ≤ 10) ∧ S 9 1 4 = 8) ∨ (bb = 0 ∧ (0 ≤ d ∧ d ≤ 24 ∧ 0 ≤ w ∧ w ≤ 10) ∧ S 9 1 4 < 8)) ∧ S = S1
def r_X5_zoneFault : Room := { frames := 1, cells := 0, slots := 0, locals := 22 }
set_option maxHeartbeats 4000000 in
set_option maxRecDepth 100000 in
theorem c_X5_zoneFault (l : Launch) (G : zG) (hG : zok G) (S : zM) (d w : Int) (hd : -2147483648 ≤ d ∧ d ≤ 2147483647) (hwn : -2147483648 ≤ w ∧ w ≤ 2147483647) (hw : zW (S 9 1)) : Met l yX5_zoneFault (Cond.code yX5_zoneFault cX5_zoneFault 3 (some FieldType.int) :: zTbl) r_X5_zoneFault (va_Pc [.ref (za G 9 0), .int (zI d), .int (zI w)] (zB G S)) (va_Qi (q_X5_zoneFault S d w) (zB G) (zA G)) 0 0 (zA G) := by
  refine zMet [(0, .ref (za G 9 0)), (1, .int (zI d)), (2, .int (zI w))] hG (by decide) (Nat.le_of_ble_eq_true rfl) rfl (fun p e s m args below meth c ls h hx hb hr hH hl => ?_)
  refine lv_iload_n hx hb dX5_zoneFault_0 rfl (lv_at hl 1 rfl) ?_
  refine zb_ic h dX5_zoneFault_1 ?_
  refine zb_bi h dX5_zoneFault_2 (by decide) (by decide) ?_
  refine zcSi h hH (As := [.int (zI d), .int (zI 0), .int (zI 24)]) (rest := []) (c_X5_in l G hG S d 0 24 (by omega) (by omega) (by omega)) zce_X5_in zt_X5_in zm_X5_32 hl.1 rfl rfl ⟨rfl, rfl⟩ ⟨Nat.le_of_ble_eq_true rfl, Nat.le_of_ble_eq_true rfl⟩ (Nat.le_of_ble_eq_true rfl) ⟨Nat.zero_le _, Nat.zero_le _⟩ dX5_zoneFault_4 (fun r_4 S_4 H locs hq hH => ?_)
  obtain ⟨b_4, rfl, hb_4, rfl⟩ := hq
  refine zb_ieq (tgt := 20) h (by omega) dX5_zoneFault_7 (by decide) (fun c_7 => ?_) (fun c_7 => ?_)
  · refine zb_ic h dX5_zoneFault_20 ?_
    refine lv_goto (tgt := 40) hx hb dX5_zoneFault_21 (by decide) ?_
    refine zri h hr hH ?_ dX5_zoneFault_40
    exact ⟨_, rfl, by omega, rfl⟩
  · refine lv_iload_n hx hb dX5_zoneFault_10 rfl (lv_at hl 2 rfl) ?_
    refine zb_ic h dX5_zoneFault_11 ?_
    refine zb_bi h dX5_zoneFault_12 (by decide) (by decide) ?_
    refine zcSi h hH (As := [.int (zI w), .int (zI 0), .int (zI 10)]) (rest := []) (c_X5_in l G hG S w 0 10 (by omega) (by omega) (by omega)) zce_X5_in zt_X5_in zm_X5_32 hl.1 rfl rfl ⟨rfl, rfl⟩ ⟨Nat.le_of_ble_eq_true rfl, Nat.le_of_ble_eq_true rfl⟩ (Nat.le_of_ble_eq_true rfl) ⟨Nat.zero_le _, Nat.zero_le _⟩ dX5_zoneFault_14 (fun r_14 S_14 H locs hq hH => ?_)
    obtain ⟨b_14, rfl, hb_14, rfl⟩ := hq
    refine zb_ine (tgt := 24) h (by omega) dX5_zoneFault_17 (by decide) (fun c_17 => ?_) (fun c_17 => ?_)
    · refine lv_aload_n hx hb dX5_zoneFault_24 rfl (lv_at hl 0 rfl) ?_
      refine zg_5_1 h hH zf_X5_7 dX5_zoneFault_25 ?_
      refine zb_ic h dX5_zoneFault_28 ?_
      refine zld_ar_s h hH (by omega) dX5_zoneFault_29 ?_
      have f_29 := zW_4 hw
      refine zb_bi h dX5_zoneFault_30 (by decide) (by decide) ?_
      refine zb_cne (tgt := 39) h (by omega) (by omega) dX5_zoneFault_32 (by decide) (fun c_32 => ?_) (fun c_32 => ?_)
      · refine zb_ic h dX5_zoneFault_39 ?_
        refine zri h hr hH ?_ dX5_zoneFault_40
        exact ⟨_, rfl, by omega, rfl⟩
      · refine zb_ic h dX5_zoneFault_35 ?_
        refine lv_goto (tgt := 40) hx hb dX5_zoneFault_36 (by decide) ?_
        refine zri h hr hH ?_ dX5_zoneFault_40
        exact ⟨_, rfl, by omega, rfl⟩
    · refine zb_ic h dX5_zoneFault_20 ?_
      refine lv_goto (tgt := 40) hx hb dX5_zoneFault_21 (by decide) ?_
      refine zri h hr hH ?_ dX5_zoneFault_40
      exact ⟨_, rfl, by omega, rfl⟩
theorem dX5_partFault_0 : decode cX5_partFault 0 = .ok (.aload_n 0, 1) := by decide +kernel
theorem dX5_partFault_1 : decode cX5_partFault 1 = .ok (.iload_n 1, 1) := by decide +kernel
theorem dX5_partFault_2 : decode cX5_partFault 2 = .ok (.invokevirtual 96, 3) := by decide +kernel
theorem dX5_partFault_5 : decode cX5_partFault 5 = .ok (.ifCond .ne 7, 3) := by decide +kernel
theorem dX5_partFault_8 : decode cX5_partFault 8 = .ok (.iconst 1, 1) := by decide +kernel
theorem dX5_partFault_9 : decode cX5_partFault 9 = .ok (.goto 19, 3) := by decide +kernel
theorem dX5_partFault_12 : decode cX5_partFault 12 = .ok (.iload_n 2, 1) := by decide +kernel
theorem dX5_partFault_13 : decode cX5_partFault 13 = .ok (.iconst 0, 1) := by decide +kernel
theorem dX5_partFault_14 : decode cX5_partFault 14 = .ok (.sipush 999, 3) := by decide +kernel
theorem dX5_partFault_17 : decode cX5_partFault 17 = .ok (.invokestatic 32, 3) := by decide +kernel
theorem dX5_partFault_20 : decode cX5_partFault 20 = .ok (.ifCond .ne 7, 3) := by decide +kernel
theorem dX5_partFault_23 : decode cX5_partFault 23 = .ok (.iconst 2, 1) := by decide +kernel
theorem dX5_partFault_24 : decode cX5_partFault 24 = .ok (.goto 4, 3) := by decide +kernel
theorem dX5_partFault_27 : decode cX5_partFault 27 = .ok (.iconst 0, 1) := by decide +kernel
theorem dX5_partFault_28 : decode cX5_partFault 28 = .ok (.ireturn, 1) := by decide +kernel
def q_X5_partFault (S : zM) (z t : Int) : Int32 → zM → Prop := fun r S1 => ∃ bb : Int, r = zI bb ∧ ((bb = 1 ∧ ¬ (0 ≤ z ∧ z < S 9 1 4)) ∨ (bb = 2 ∧ (0 ≤ z ∧ z < S 9 1 4) ∧ ¬ (0 ≤ t ∧ t ≤ 999)) ∨ (bb = 0 ∧ (0 ≤ z ∧ z < S 9 1 4) ∧ (0 ≤ t ∧ t ≤ 999))) ∧ S = S1
def r_X5_partFault : Room := { frames := 2, cells := 0, slots := 0, locals := 43 }
set_option maxHeartbeats 4000000 in
set_option maxRecDepth 100000 in
theorem c_X5_partFault (l : Launch) (G : zG) (hG : zok G) (S : zM) (z t : Int) (hz : -2147483648 ≤ z ∧ z ≤ 2147483647) (ht : -2147483648 ≤ t ∧ t ≤ 2147483647) (hw : zW (S 9 1)) : Met l yX5_partFault (Cond.code yX5_partFault cX5_partFault 3 (some FieldType.int) :: zTbl) r_X5_partFault (va_Pc [.ref (za G 9 0), .int (zI z), .int (zI t)] (zB G S)) (va_Qi (q_X5_partFault S z t) (zB G) (zA G)) 0 0 (zA G) := by
  refine zMet [(0, .ref (za G 9 0)), (1, .int (zI z)), (2, .int (zI t))] hG (by decide) (Nat.le_of_ble_eq_true rfl) rfl (fun p e s m args below meth c ls h hx hb hr hH hl => ?_)
  refine lv_aload_n hx hb dX5_partFault_0 rfl (lv_at hl 0 rfl) ?_
  refine lv_iload_n hx hb dX5_partFault_1 rfl (lv_at hl 1 rfl) ?_
  refine zcVi h hH (zr_5 h hH) (As := [.int (zI z)]) (rest := []) (c_X5_isZone l G hG S z (by omega) hw) zce_X5_isZone zcv_X5_isZone zm_X5_96 hl.1 rfl rfl ⟨rfl, rfl⟩ ⟨Nat.le_of_ble_eq_true rfl, Nat.le_of_ble_eq_true rfl⟩ (Nat.le_of_ble_eq_true rfl) ⟨Nat.zero_le _, Nat.zero_le _⟩ dX5_partFault_2 (fun r_2 S_2 H locs hq hH => ?_)
  obtain ⟨b_2, rfl, hb_2, rfl⟩ := hq
  refine zb_ine (tgt := 12) h (by omega) dX5_partFault_5 (by decide) (fun c_5 => ?_) (fun c_5 => ?_)
  · refine lv_iload_n hx hb dX5_partFault_12 rfl (lv_at hl 2 rfl) ?_
    refine zb_ic h dX5_partFault_13 ?_
    refine zb_si h dX5_partFault_14 (by decide) (by decide) ?_
    refine zcSi h hH (As := [.int (zI t), .int (zI 0), .int (zI 999)]) (rest := []) (c_X5_in l G hG S t 0 999 (by omega) (by omega) (by omega)) zce_X5_in zt_X5_in zm_X5_32 hl.1 rfl rfl ⟨rfl, rfl⟩ ⟨Nat.le_of_ble_eq_true rfl, Nat.le_of_ble_eq_true rfl⟩ (Nat.le_of_ble_eq_true rfl) ⟨Nat.zero_le _, Nat.zero_le _⟩ dX5_partFault_17 (fun r_17 S_17 H locs hq hH => ?_)
    obtain ⟨b_17, rfl, hb_17, rfl⟩ := hq
    refine zb_ine (tgt := 27) h (by omega) dX5_partFault_20 (by decide) (fun c_20 => ?_) (fun c_20 => ?_)
    · refine zb_ic h dX5_partFault_27 ?_
      refine zri h hr hH ?_ dX5_partFault_28
      exact ⟨_, rfl, by omega, rfl⟩
    · refine zb_ic h dX5_partFault_23 ?_
      refine lv_goto (tgt := 28) hx hb dX5_partFault_24 (by decide) ?_
      refine zri h hr hH ?_ dX5_partFault_28
      exact ⟨_, rfl, by omega, rfl⟩
  · refine zb_ic h dX5_partFault_8 ?_
    refine lv_goto (tgt := 28) hx hb dX5_partFault_9 (by decide) ?_
    refine zri h hr hH ?_ dX5_partFault_28
    exact ⟨_, rfl, by omega, rfl⟩
theorem dX5_areLinked_0 : decode cX5_areLinked 0 = .ok (.aload_n 0, 1) := by decide +kernel
theorem dX5_areLinked_1 : decode cX5_areLinked 1 = .ok (.getfield 7, 3) := by decide +kernel
theorem dX5_areLinked_4 : decode cX5_areLinked 4 = .ok (.iload_n 1, 1) := by decide +kernel
theorem dX5_areLinked_5 : decode cX5_areLinked 5 = .ok (.iconst 4, 1) := by decide +kernel
theorem dX5_areLinked_6 : decode cX5_areLinked 6 = .ok (.invokestatic 51, 3) := by decide +kernel
theorem dX5_areLinked_9 : decode cX5_areLinked 9 = .ok (.iaload, 1) := by decide +kernel
theorem dX5_areLinked_10 : decode cX5_areLinked 10 = .ok (.iload_n 2, 1) := by decide +kernel
theorem dX5_areLinked_11 : decode cX5_areLinked 11 = .ok (.ishr, 1) := by decide +kernel
theorem dX5_areLinked_12 : decode cX5_areLinked 12 = .ok (.iconst 1, 1) := by decide +kernel
theorem dX5_areLinked_13 : decode cX5_areLinked 13 = .ok (.iand, 1) := by decide +kernel
theorem dX5_areLinked_14 : decode cX5_areLinked 14 = .ok (.iconst 1, 1) := by decide +kernel
theorem dX5_areLinked_15 : decode cX5_areLinked 15 = .ok (.if_icmp .ne 7, 3) := by decide +kernel
theorem dX5_areLinked_18 : decode cX5_areLinked 18 = .ok (.iconst 1, 1) := by decide +kernel
theorem dX5_areLinked_19 : decode cX5_areLinked 19 = .ok (.goto 4, 3) := by decide +kernel
theorem dX5_areLinked_22 : decode cX5_areLinked 22 = .ok (.iconst 0, 1) := by decide +kernel
theorem dX5_areLinked_23 : decode cX5_areLinked 23 = .ok (.ireturn, 1) := by decide +kernel
def q_X5_areLinked (S : zM) (a b : Int) : Int32 → zM → Prop := fun r S1 => ∃ bb : Int, r = zI bb ∧ (bb = 1 ∧ (S 9 1 (5 + 5 * a + 4) / 2 ^ b.toNat % 2 = 1) ∨ bb = 0 ∧ ¬ (S 9 1 (5 + 5 * a + 4) / 2 ^ b.toNat % 2 = 1)) ∧ S = S1
def r_X5_areLinked : Room := { frames := 1, cells := 0, slots := 0, locals := 21 }
set_option maxHeartbeats 4000000 in
set_option maxRecDepth 100000 in
theorem c_X5_areLinked (l : Launch) (G : zG) (hG : zok G) (S : zM) (a b : Int) (ha : 0 ≤ a ∧ a < 8) (hb2 : 0 ≤ b ∧ b < 8) (hw : zW (S 9 1)) : Met l yX5_areLinked (Cond.code yX5_areLinked cX5_areLinked 3 (some FieldType.boolean) :: zTbl) r_X5_areLinked (va_Pc [.ref (za G 9 0), .int (zI a), .int (zI b)] (zB G S)) (va_Qi (q_X5_areLinked S a b) (zB G) (zA G)) 0 0 (zA G) := by
  refine zMet [(0, .ref (za G 9 0)), (1, .int (zI a)), (2, .int (zI b))] hG (by decide) (Nat.le_of_ble_eq_true rfl) rfl (fun p e s m args below meth c ls h hx hb hr hH hl => ?_)
  refine lv_aload_n hx hb dX5_areLinked_0 rfl (lv_at hl 0 rfl) ?_
  refine zg_5_1 h hH zf_X5_7 dX5_areLinked_1 ?_
  refine lv_iload_n hx hb dX5_areLinked_4 rfl (lv_at hl 1 rfl) ?_
  refine zb_ic h dX5_areLinked_5 ?_
  refine zcSi h hH (As := [.int (zI a), .int (zI 4)]) (rest := [.ref (za G 9 1)]) (c_X5_of l G hG S a 4) zce_X5_of zt_X5_of zm_X5_51 hl.1 rfl rfl ⟨rfl, rfl⟩ ⟨Nat.le_of_ble_eq_true rfl, Nat.le_of_ble_eq_true rfl⟩ (Nat.le_of_ble_eq_true rfl) ⟨Nat.zero_le _, Nat.zero_le _⟩ dX5_areLinked_6 (fun r_6 S_6 H locs hq hH => ?_)
  obtain ⟨rfl, rfl⟩ := hq
  refine zld_ar_s h hH (by omega) dX5_areLinked_9 ?_
  have f_9 := zW_nb hw (show 0 ≤ a ∧ a < 8 by omega)
  refine lv_iload_n hx hb dX5_areLinked_10 rfl (lv_at hl 2 rfl) ?_
  refine zb_ishr h (by omega) (by omega) dX5_areLinked_11 ?_
  have b_11 := zdiv_le f_9.1 (zpow_pos b.toNat)
  refine zb_ic h dX5_areLinked_12 ?_
  refine zb_and1 h (by omega) dX5_areLinked_13 ?_
  refine zb_ic h dX5_areLinked_14 ?_
  refine zb_cne (tgt := 22) h (by omega) (by omega) dX5_areLinked_15 (by decide) (fun c_15 => ?_) (fun c_15 => ?_)
  · refine zb_ic h dX5_areLinked_22 ?_
    refine zrz h hr hH (by omega) ?_ dX5_areLinked_23
    exact ⟨_, rfl, by omega, rfl⟩
  · refine zb_ic h dX5_areLinked_18 ?_
    refine lv_goto (tgt := 23) hx hb dX5_areLinked_19 (by decide) ?_
    refine zrz h hr hH (by omega) ?_ dX5_areLinked_23
    exact ⟨_, rfl, by omega, rfl⟩
theorem dX5_turnLink_0 : decode cX5_turnLink 0 = .ok (.aload_n 0, 1) := by decide +kernel
theorem dX5_turnLink_1 : decode cX5_turnLink 1 = .ok (.getfield 7, 3) := by decide +kernel
theorem dX5_turnLink_4 : decode cX5_turnLink 4 = .ok (.iload_n 1, 1) := by decide +kernel
theorem dX5_turnLink_5 : decode cX5_turnLink 5 = .ok (.iconst 4, 1) := by decide +kernel
theorem dX5_turnLink_6 : decode cX5_turnLink 6 = .ok (.invokestatic 51, 3) := by decide +kernel
theorem dX5_turnLink_9 : decode cX5_turnLink 9 = .ok (.dup2, 1) := by decide +kernel
theorem dX5_turnLink_10 : decode cX5_turnLink 10 = .ok (.iaload, 1) := by decide +kernel
theorem dX5_turnLink_11 : decode cX5_turnLink 11 = .ok (.iconst 1, 1) := by decide +kernel
theorem dX5_turnLink_12 : decode cX5_turnLink 12 = .ok (.iload_n 2, 1) := by decide +kernel
theorem dX5_turnLink_13 : decode cX5_turnLink 13 = .ok (.ishl, 1) := by decide +kernel
theorem dX5_turnLink_14 : decode cX5_turnLink 14 = .ok (.ixor, 1) := by decide +kernel
theorem dX5_turnLink_15 : decode cX5_turnLink 15 = .ok (.iastore, 1) := by decide +kernel
theorem dX5_turnLink_16 : decode cX5_turnLink 16 = .ok (.aload_n 0, 1) := by decide +kernel
theorem dX5_turnLink_17 : decode cX5_turnLink 17 = .ok (.getfield 7, 3) := by decide +kernel
theorem dX5_turnLink_20 : decode cX5_turnLink 20 = .ok (.iload_n 2, 1) := by decide +kernel
theorem dX5_turnLink_21 : decode cX5_turnLink 21 = .ok (.iconst 4, 1) := by decide +kernel
theorem dX5_turnLink_22 : decode cX5_turnLink 22 = .ok (.invokestatic 51, 3) := by decide +kernel
theorem dX5_turnLink_25 : decode cX5_turnLink 25 = .ok (.dup2, 1) := by decide +kernel
theorem dX5_turnLink_26 : decode cX5_turnLink 26 = .ok (.iaload, 1) := by decide +kernel
theorem dX5_turnLink_27 : decode cX5_turnLink 27 = .ok (.iconst 1, 1) := by decide +kernel
theorem dX5_turnLink_28 : decode cX5_turnLink 28 = .ok (.iload_n 1, 1) := by decide +kernel
theorem dX5_turnLink_29 : decode cX5_turnLink 29 = .ok (.ishl, 1) := by decide +kernel
theorem dX5_turnLink_30 : decode cX5_turnLink 30 = .ok (.ixor, 1) := by decide +kernel
theorem dX5_turnLink_31 : decode cX5_turnLink 31 = .ok (.iastore, 1) := by decide +kernel
theorem dX5_turnLink_32 : decode cX5_turnLink 32 = .ok (.return_, 1) := by decide +kernel
def q_X5_turnLink (S : zM) (a b : Int) : zM → Prop := fun S1 => zMo S (S 9 0) (tTw (S 9 1) a b) (S 9 2) (S 9 3) (S 9 4) (S 9 5) (S 9 6) = S1
def r_X5_turnLink : Room := { frames := 1, cells := 0, slots := 0, locals := 21 }
set_option maxHeartbeats 4000000 in
set_option maxRecDepth 100000 in
theorem c_X5_turnLink (l : Launch) (G : zG) (hG : zok G) (S : zM) (a b : Int) (ha : 0 ≤ a ∧ a < 8) (hb2 : 0 ≤ b ∧ b < 8) (hab : a ≠ b) (hw : zW (S 9 1)) : Met l yX5_turnLink (Cond.code yX5_turnLink cX5_turnLink 3 (none : Option FieldType) :: zTbl) r_X5_turnLink (va_Pc [.ref (za G 9 0), .int (zI a), .int (zI b)] (zB G S)) (va_Qv (q_X5_turnLink S a b) (zB G) (zA G)) 0 0 (zA G) := by
  refine zMet [(0, .ref (za G 9 0)), (1, .int (zI a)), (2, .int (zI b))] hG (by decide) (Nat.le_of_ble_eq_true rfl) rfl (fun p e s m args below meth c ls h hx hb hr hH hl => ?_)
  rw [← zM_id S] at hH
  refine lv_aload_n hx hb dX5_turnLink_0 rfl (lv_at hl 0 rfl) ?_
  refine zg_5_1 h hH zf_X5_7 dX5_turnLink_1 ?_
  refine lv_iload_n hx hb dX5_turnLink_4 rfl (lv_at hl 1 rfl) ?_
  refine zb_ic h dX5_turnLink_5 ?_
  refine zcSi h hH (As := [.int (zI a), .int (zI 4)]) (rest := [.ref (za G 9 1)]) (c_X5_of l G hG (zMo S (S 9 0) (S 9 1) (S 9 2) (S 9 3) (S 9 4) (S 9 5) (S 9 6)) a 4) zce_X5_of zt_X5_of zm_X5_51 hl.1 rfl rfl ⟨rfl, rfl⟩ ⟨Nat.le_of_ble_eq_true rfl, Nat.le_of_ble_eq_true rfl⟩ (Nat.le_of_ble_eq_true rfl) ⟨Nat.zero_le _, Nat.zero_le _⟩ dX5_turnLink_6 (fun r_6 S_6 H locs hq hH => ?_)
  obtain ⟨rfl, rfl⟩ := hq
  refine lv_dup2_11 hx hb dX5_turnLink_9 rfl rfl ?_
  refine zld_ar_s h hH (by omega) dX5_turnLink_10 ?_
  rw [zM_1]
  have f_10 := zW_nb hw (show 0 ≤ a ∧ a < 8 by omega)
  refine zb_ic h dX5_turnLink_11 ?_
  refine lv_iload_n hx hb dX5_turnLink_12 rfl (lv_at hl 2 rfl) ?_
  refine zb_ishl h (by omega) (by omega) (zsh1 (by omega)) dX5_turnLink_13 ?_
  refine zb_ixor h dX5_turnLink_14 ?_
  refine zst_ar_s h hH (by omega) dX5_turnLink_15 (fun H locs hH => ?_)
  rw [zs_M1] at hH
  refine lv_aload_n hx hb dX5_turnLink_16 rfl (lv_at hl 0 rfl) ?_
  refine zg_5_1 h hH zf_X5_7 dX5_turnLink_17 ?_
  refine lv_iload_n hx hb dX5_turnLink_20 rfl (lv_at hl 2 rfl) ?_
  refine zb_ic h dX5_turnLink_21 ?_
  refine zcSi h hH (As := [.int (zI b), .int (zI 4)]) (rest := [.ref (za G 9 1)]) (c_X5_of l G hG (zMo S (S 9 0) (zup (S 9 1) ((5 + 5 * a + 4)) (zxor (S 9 1 (5 + 5 * a + 4)) (1 * 2 ^ b.toNat))) (S 9 2) (S 9 3) (S 9 4) (S 9 5) (S 9 6)) b 4) zce_X5_of zt_X5_of zm_X5_51 hl.1 rfl rfl ⟨rfl, rfl⟩ ⟨Nat.le_of_ble_eq_true rfl, Nat.le_of_ble_eq_true rfl⟩ (Nat.le_of_ble_eq_true rfl) ⟨Nat.zero_le _, Nat.zero_le _⟩ dX5_turnLink_22 (fun r_22 S_22 H locs hq hH => ?_)
  obtain ⟨rfl, rfl⟩ := hq
  refine lv_dup2_11 hx hb dX5_turnLink_25 rfl rfl ?_
  refine zld_ar_s h hH (by omega) dX5_turnLink_26 ?_
  rw [zM_1]
  rw [show (zup (S 9 1) ((5 + 5 * a + 4)) (zxor (S 9 1 (5 + 5 * a + 4)) (1 * 2 ^ b.toNat)) (5 + 5 * b + 4) : Int) = S 9 1 (5 + 5 * b + 4) from by (first | rw [zup_s] | rw [zup_n (by omega)])]
  have f_26 := zW_nb hw (show 0 ≤ b ∧ b < 8 by omega)
  refine zb_ic h dX5_turnLink_27 ?_
  refine lv_iload_n hx hb dX5_turnLink_28 rfl (lv_at hl 1 rfl) ?_
  refine zb_ishl h (by omega) (by omega) (zsh1 (by omega)) dX5_turnLink_29 ?_
  refine zb_ixor h dX5_turnLink_30 ?_
  refine zst_ar_s h hH (by omega) dX5_turnLink_31 (fun H locs hH => ?_)
  rw [zs_M1] at hH
  refine zrv h hr hH ?_ dX5_turnLink_32
  exact rfl
theorem dX5_exposes_0 : decode cX5_exposes 0 = .ok (.aload_n 0, 1) := by decide +kernel
theorem dX5_exposes_1 : decode cX5_exposes 1 = .ok (.getfield 7, 3) := by decide +kernel
theorem dX5_exposes_4 : decode cX5_exposes 4 = .ok (.iconst 0, 1) := by decide +kernel
theorem dX5_exposes_5 : decode cX5_exposes 5 = .ok (.iload_n 1, 1) := by decide +kernel
theorem dX5_exposes_6 : decode cX5_exposes 6 = .ok (.iastore, 1) := by decide +kernel
theorem dX5_exposes_7 : decode cX5_exposes 7 = .ok (.aload_n 0, 1) := by decide +kernel
theorem dX5_exposes_8 : decode cX5_exposes 8 = .ok (.invokevirtual 107, 3) := by decide +kernel
theorem dX5_exposes_11 : decode cX5_exposes 11 = .ok (.ireturn, 1) := by decide +kernel
def q_X5_exposes (S : zM) (t : Int) : Int32 → zM → Prop := fun r S1 => r = zI (tCnt (zup (S 9 1) 0 t) 0) ∧ ∃ M', zMo S (S 9 0) (zup (S 9 1) 0 t) (S 9 2) (S 9 3) (S 9 4) M' (S 9 6) = S1
def r_X5_exposes : Room := { frames := 6, cells := 0, slots := 0, locals := 133 }
set_option maxHeartbeats 4000000 in
set_option maxRecDepth 100000 in
theorem c_X5_exposes (l : Launch) (G : zG) (hG : zok G) (S : zM) (t : Int) (ht : 1 ≤ t ∧ t ≤ 2000) (hw : zW (S 9 1)) : Met l yX5_exposes (Cond.code yX5_exposes cX5_exposes 2 (some FieldType.int) :: zTbl) r_X5_exposes (va_Pc [.ref (za G 9 0), .int (zI t)] (zB G S)) (va_Qi (q_X5_exposes S t) (zB G) (zA G)) 0 0 (zA G) := by
  refine zMet [(0, .ref (za G 9 0)), (1, .int (zI t))] hG (by decide) (Nat.le_of_ble_eq_true rfl) rfl (fun p e s m args below meth c ls h hx hb hr hH hl => ?_)
  rw [← zM_id S] at hH
  refine lv_aload_n hx hb dX5_exposes_0 rfl (lv_at hl 0 rfl) ?_
  refine zg_5_1 h hH zf_X5_7 dX5_exposes_1 ?_
  refine zb_ic h dX5_exposes_4 ?_
  refine lv_iload_n hx hb dX5_exposes_5 rfl (lv_at hl 1 rfl) ?_
  refine zst_ar_s h hH (by omega) dX5_exposes_6 (fun H locs hH => ?_)
  rw [zs_M1] at hH
  have hw1 := zW_up0 hw ht
  refine lv_aload_n hx hb dX5_exposes_7 rfl (lv_at hl 0 rfl) ?_
  refine zcVi h hH (zr_5 h hH) (As := []) (rest := []) (c_X5_right l G hG (zMo S (S 9 0) (zup (S 9 1) (0) t) (S 9 2) (S 9 3) (S 9 4) (S 9 5) (S 9 6)) (zM_hw hw1)) zce_X5_right zcv_X5_right zm_X5_107 hl.1 rfl rfl ⟨rfl, rfl⟩ ⟨Nat.le_of_ble_eq_true rfl, Nat.le_of_ble_eq_true rfl⟩ (Nat.le_of_ble_eq_true rfl) ⟨Nat.zero_le _, Nat.zero_le _⟩ dX5_exposes_8 (fun r_8 S_8 H locs hq hH => ?_)
  obtain ⟨rfl, M_8, rfl⟩ := hq
  simp only [zM_M, zM_0, zM_1, zM_2, zM_3, zM_4, zM_5, zM_6] at hH
  rw [zM_1]
  refine zri h hr hH ?_ dX5_exposes_11
  exact ⟨rfl, _, rfl⟩
theorem dX5_parts_0 : decode cX5_parts 0 = .ok (.aload_n 0, 1) := by decide +kernel
theorem dX5_parts_1 : decode cX5_parts 1 = .ok (.getfield 7, 3) := by decide +kernel
theorem dX5_parts_4 : decode cX5_parts 4 = .ok (.iload_n 1, 1) := by decide +kernel
theorem dX5_parts_5 : decode cX5_parts 5 = .ok (.iload_n 2, 1) := by decide +kernel
theorem dX5_parts_6 : decode cX5_parts 6 = .ok (.invokestatic 51, 3) := by decide +kernel
theorem dX5_parts_9 : decode cX5_parts 9 = .ok (.iload_n 3, 1) := by decide +kernel
theorem dX5_parts_10 : decode cX5_parts 10 = .ok (.iastore, 1) := by decide +kernel
theorem dX5_parts_11 : decode cX5_parts 11 = .ok (.aload_n 0, 1) := by decide +kernel
theorem dX5_parts_12 : decode cX5_parts 12 = .ok (.iload_n 1, 1) := by decide +kernel
theorem dX5_parts_13 : decode cX5_parts 13 = .ok (.invokevirtual 71, 3) := by decide +kernel
theorem dX5_parts_16 : decode cX5_parts 16 = .ok (.ireturn, 1) := by decide +kernel
def q_X5_parts_bu (S : zM) (z t : Int) : Int32 → zM → Prop := fun r S1 => r = zI (tTo (zup (S 9 1) (5 + 5 * z + 2) t) z) ∧ ∃ M', zMo S (S 9 0) (zup (S 9 1) (5 + 5 * z + 2) t) (S 9 2) (S 9 3) (S 9 4) M' (S 9 6) = S1
def r_X5_parts_bu : Room := { frames := 4, cells := 0, slots := 0, locals := 90 }
set_option maxHeartbeats 4000000 in
set_option maxRecDepth 100000 in
theorem c_X5_parts_bu (l : Launch) (G : zG) (hG : zok G) (S : zM) (z t : Int) (hz : 0 ≤ z ∧ z < 8) (ht : 0 ≤ t ∧ t ≤ 999) (hw : zW (S 9 1)) : Met l yX5_parts (Cond.code yX5_parts cX5_parts 4 (some FieldType.int) :: zTbl) r_X5_parts_bu (va_Pc [.ref (za G 9 0), .int (zI z), .int (zI 2), .int (zI t)] (zB G S)) (va_Qi (q_X5_parts_bu S z t) (zB G) (zA G)) 0 0 (zA G) := by
  refine zMet [(0, .ref (za G 9 0)), (1, .int (zI z)), (2, .int (zI 2)), (3, .int (zI t))] hG (by decide) (Nat.le_of_ble_eq_true rfl) rfl (fun p e s m args below meth c ls h hx hb hr hH hl => ?_)
  rw [← zM_id S] at hH
  refine lv_aload_n hx hb dX5_parts_0 rfl (lv_at hl 0 rfl) ?_
  refine zg_5_1 h hH zf_X5_7 dX5_parts_1 ?_
  refine lv_iload_n hx hb dX5_parts_4 rfl (lv_at hl 1 rfl) ?_
  refine lv_iload_n hx hb dX5_parts_5 rfl (lv_at hl 2 rfl) ?_
  refine zcSi h hH (As := [.int (zI z), .int (zI 2)]) (rest := [.ref (za G 9 1)]) (c_X5_of l G hG (zMo S (S 9 0) (S 9 1) (S 9 2) (S 9 3) (S 9 4) (S 9 5) (S 9 6)) z 2) zce_X5_of zt_X5_of zm_X5_51 hl.1 rfl rfl ⟨rfl, rfl⟩ ⟨Nat.le_of_ble_eq_true rfl, Nat.le_of_ble_eq_true rfl⟩ (Nat.le_of_ble_eq_true rfl) ⟨Nat.zero_le _, Nat.zero_le _⟩ dX5_parts_6 (fun r_6 S_6 H locs hq hH => ?_)
  obtain ⟨rfl, rfl⟩ := hq
  refine lv_iload_n hx hb dX5_parts_9 rfl (lv_at hl 3 rfl) ?_
  refine zst_ar_s h hH (by omega) dX5_parts_10 (fun H locs hH => ?_)
  rw [zs_M1] at hH
  have hw1 := zW_upz hw (z := z) (w := 2) (v := t) hz.1 (by omega) (by omega) rfl
  refine lv_aload_n hx hb dX5_parts_11 rfl (lv_at hl 0 rfl) ?_
  refine lv_iload_n hx hb dX5_parts_12 rfl (lv_at hl 1 rfl) ?_
  refine zcVi h hH (zr_5 h hH) (As := [.int (zI z)]) (rest := []) (c_X5_tone l G hG (zMo S (S 9 0) (zup (S 9 1) ((5 + 5 * z + 2)) t) (S 9 2) (S 9 3) (S 9 4) (S 9 5) (S 9 6)) z (by omega) (zM_hw hw1)) zce_X5_tone zcv_X5_tone zm_X5_71 hl.1 rfl rfl ⟨rfl, rfl⟩ ⟨Nat.le_of_ble_eq_true rfl, Nat.le_of_ble_eq_true rfl⟩ (Nat.le_of_ble_eq_true rfl) ⟨Nat.zero_le _, Nat.zero_le _⟩ dX5_parts_13 (fun r_13 S_13 H locs hq hH => ?_)
  obtain ⟨rfl, M_13, rfl⟩ := hq
  simp only [zM_M, zM_0, zM_1, zM_2, zM_3, zM_4, zM_5, zM_6] at hH
  rw [zM_1]
  refine zri h hr hH ?_ dX5_parts_16
  exact ⟨rfl, _, rfl⟩
def q_X5_parts_ho (S : zM) (z t : Int) : Int32 → zM → Prop := fun r S1 => r = zI (tTo (zup (S 9 1) (5 + 5 * z + 3) t) z) ∧ ∃ M', zMo S (S 9 0) (zup (S 9 1) (5 + 5 * z + 3) t) (S 9 2) (S 9 3) (S 9 4) M' (S 9 6) = S1
def r_X5_parts_ho : Room := { frames := 4, cells := 0, slots := 0, locals := 90 }
set_option maxHeartbeats 4000000 in
set_option maxRecDepth 100000 in
theorem c_X5_parts_ho (l : Launch) (G : zG) (hG : zok G) (S : zM) (z t : Int) (hz : 0 ≤ z ∧ z < 8) (ht : 0 ≤ t ∧ t ≤ 999) (hw : zW (S 9 1)) : Met l yX5_parts (Cond.code yX5_parts cX5_parts 4 (some FieldType.int) :: zTbl) r_X5_parts_ho (va_Pc [.ref (za G 9 0), .int (zI z), .int (zI 3), .int (zI t)] (zB G S)) (va_Qi (q_X5_parts_ho S z t) (zB G) (zA G)) 0 0 (zA G) := by
  refine zMet [(0, .ref (za G 9 0)), (1, .int (zI z)), (2, .int (zI 3)), (3, .int (zI t))] hG (by decide) (Nat.le_of_ble_eq_true rfl) rfl (fun p e s m args below meth c ls h hx hb hr hH hl => ?_)
  rw [← zM_id S] at hH
  refine lv_aload_n hx hb dX5_parts_0 rfl (lv_at hl 0 rfl) ?_
  refine zg_5_1 h hH zf_X5_7 dX5_parts_1 ?_
  refine lv_iload_n hx hb dX5_parts_4 rfl (lv_at hl 1 rfl) ?_
  refine lv_iload_n hx hb dX5_parts_5 rfl (lv_at hl 2 rfl) ?_
  refine zcSi h hH (As := [.int (zI z), .int (zI 3)]) (rest := [.ref (za G 9 1)]) (c_X5_of l G hG (zMo S (S 9 0) (S 9 1) (S 9 2) (S 9 3) (S 9 4) (S 9 5) (S 9 6)) z 3) zce_X5_of zt_X5_of zm_X5_51 hl.1 rfl rfl ⟨rfl, rfl⟩ ⟨Nat.le_of_ble_eq_true rfl, Nat.le_of_ble_eq_true rfl⟩ (Nat.le_of_ble_eq_true rfl) ⟨Nat.zero_le _, Nat.zero_le _⟩ dX5_parts_6 (fun r_6 S_6 H locs hq hH => ?_)
  obtain ⟨rfl, rfl⟩ := hq
  refine lv_iload_n hx hb dX5_parts_9 rfl (lv_at hl 3 rfl) ?_
  refine zst_ar_s h hH (by omega) dX5_parts_10 (fun H locs hH => ?_)
  rw [zs_M1] at hH
  have hw1 := zW_upz hw (z := z) (w := 3) (v := t) hz.1 (by omega) (by omega) rfl
  refine lv_aload_n hx hb dX5_parts_11 rfl (lv_at hl 0 rfl) ?_
  refine lv_iload_n hx hb dX5_parts_12 rfl (lv_at hl 1 rfl) ?_
  refine zcVi h hH (zr_5 h hH) (As := [.int (zI z)]) (rest := []) (c_X5_tone l G hG (zMo S (S 9 0) (zup (S 9 1) ((5 + 5 * z + 3)) t) (S 9 2) (S 9 3) (S 9 4) (S 9 5) (S 9 6)) z (by omega) (zM_hw hw1)) zce_X5_tone zcv_X5_tone zm_X5_71 hl.1 rfl rfl ⟨rfl, rfl⟩ ⟨Nat.le_of_ble_eq_true rfl, Nat.le_of_ble_eq_true rfl⟩ (Nat.le_of_ble_eq_true rfl) ⟨Nat.zero_le _, Nat.zero_le _⟩ dX5_parts_13 (fun r_13 S_13 H locs hq hH => ?_)
  obtain ⟨rfl, M_13, rfl⟩ := hq
  simp only [zM_M, zM_0, zM_1, zM_2, zM_3, zM_4, zM_5, zM_6] at hH
  rw [zM_1]
  refine zri h hr hH ?_ dX5_parts_16
  exact ⟨rfl, _, rfl⟩
theorem dX5_middleTime_0 : decode cX5_middleTime 0 = .ok (.iconst 0, 1) := by decide +kernel
theorem dX5_middleTime_1 : decode cX5_middleTime 1 = .ok (.istore_n 1, 1) := by decide +kernel
theorem dX5_middleTime_2 : decode cX5_middleTime 2 = .ok (.iconst 0, 1) := by decide +kernel
theorem dX5_middleTime_3 : decode cX5_middleTime 3 = .ok (.istore_n 2, 1) := by decide +kernel
theorem dX5_middleTime_4 : decode cX5_middleTime 4 = .ok (.iload_n 2, 1) := by decide +kernel
theorem dX5_middleTime_5 : decode cX5_middleTime 5 = .ok (.aload_n 0, 1) := by decide +kernel
theorem dX5_middleTime_6 : decode cX5_middleTime 6 = .ok (.getfield 7, 3) := by decide +kernel
theorem dX5_middleTime_9 : decode cX5_middleTime 9 = .ok (.iconst 4, 1) := by decide +kernel
theorem dX5_middleTime_10 : decode cX5_middleTime 10 = .ok (.iaload, 1) := by decide +kernel
theorem dX5_middleTime_11 : decode cX5_middleTime 11 = .ok (.if_icmp .ge 74, 3) := by decide +kernel
theorem dX5_middleTime_14 : decode cX5_middleTime 14 = .ok (.aload_n 0, 1) := by decide +kernel
theorem dX5_middleTime_15 : decode cX5_middleTime 15 = .ok (.iload_n 2, 1) := by decide +kernel
theorem dX5_middleTime_16 : decode cX5_middleTime 16 = .ok (.invokevirtual 81, 3) := by decide +kernel
theorem dX5_middleTime_19 : decode cX5_middleTime 19 = .ok (.istore_n 3, 1) := by decide +kernel
theorem dX5_middleTime_20 : decode cX5_middleTime 20 = .ok (.iload_n 3, 1) := by decide +kernel
theorem dX5_middleTime_21 : decode cX5_middleTime 21 = .ok (.iconst (-1), 1) := by decide +kernel
theorem dX5_middleTime_22 : decode cX5_middleTime 22 = .ok (.if_icmp .eq 57, 3) := by decide +kernel
theorem dX5_middleTime_25 : decode cX5_middleTime 25 = .ok (.iload_n 1, 1) := by decide +kernel
theorem dX5_middleTime_26 : decode cX5_middleTime 26 = .ok (.istore 4, 2) := by decide +kernel
theorem dX5_middleTime_28 : decode cX5_middleTime 28 = .ok (.iload 4, 2) := by decide +kernel
theorem dX5_middleTime_30 : decode cX5_middleTime 30 = .ok (.ifCond .le 38, 3) := by decide +kernel
theorem dX5_middleTime_33 : decode cX5_middleTime 33 = .ok (.aload_n 0, 1) := by decide +kernel
theorem dX5_middleTime_34 : decode cX5_middleTime 34 = .ok (.getfield 25, 3) := by decide +kernel
theorem dX5_middleTime_37 : decode cX5_middleTime 37 = .ok (.iload 4, 2) := by decide +kernel
theorem dX5_middleTime_39 : decode cX5_middleTime 39 = .ok (.iconst 1, 1) := by decide +kernel
theorem dX5_middleTime_40 : decode cX5_middleTime 40 = .ok (.isub, 1) := by decide +kernel
theorem dX5_middleTime_41 : decode cX5_middleTime 41 = .ok (.iaload, 1) := by decide +kernel
theorem dX5_middleTime_42 : decode cX5_middleTime 42 = .ok (.iload_n 3, 1) := by decide +kernel
theorem dX5_middleTime_43 : decode cX5_middleTime 43 = .ok (.if_icmp .le 25, 3) := by decide +kernel
theorem dX5_middleTime_46 : decode cX5_middleTime 46 = .ok (.aload_n 0, 1) := by decide +kernel
theorem dX5_middleTime_47 : decode cX5_middleTime 47 = .ok (.getfield 25, 3) := by decide +kernel
theorem dX5_middleTime_50 : decode cX5_middleTime 50 = .ok (.iload 4, 2) := by decide +kernel
theorem dX5_middleTime_52 : decode cX5_middleTime 52 = .ok (.aload_n 0, 1) := by decide +kernel
theorem dX5_middleTime_53 : decode cX5_middleTime 53 = .ok (.getfield 25, 3) := by decide +kernel
theorem dX5_middleTime_56 : decode cX5_middleTime 56 = .ok (.iload 4, 2) := by decide +kernel
theorem dX5_middleTime_58 : decode cX5_middleTime 58 = .ok (.iconst 1, 1) := by decide +kernel
theorem dX5_middleTime_59 : decode cX5_middleTime 59 = .ok (.isub, 1) := by decide +kernel
theorem dX5_middleTime_60 : decode cX5_middleTime 60 = .ok (.iaload, 1) := by decide +kernel
theorem dX5_middleTime_61 : decode cX5_middleTime 61 = .ok (.iastore, 1) := by decide +kernel
theorem dX5_middleTime_62 : decode cX5_middleTime 62 = .ok (.iinc 4 (-1), 3) := by decide +kernel
theorem dX5_middleTime_65 : decode cX5_middleTime 65 = .ok (.goto (-37), 3) := by decide +kernel
theorem dX5_middleTime_68 : decode cX5_middleTime 68 = .ok (.aload_n 0, 1) := by decide +kernel
theorem dX5_middleTime_69 : decode cX5_middleTime 69 = .ok (.getfield 25, 3) := by decide +kernel
theorem dX5_middleTime_72 : decode cX5_middleTime 72 = .ok (.iload 4, 2) := by decide +kernel
theorem dX5_middleTime_74 : decode cX5_middleTime 74 = .ok (.iload_n 3, 1) := by decide +kernel
theorem dX5_middleTime_75 : decode cX5_middleTime 75 = .ok (.iastore, 1) := by decide +kernel
theorem dX5_middleTime_76 : decode cX5_middleTime 76 = .ok (.iinc 1 1, 3) := by decide +kernel
theorem dX5_middleTime_79 : decode cX5_middleTime 79 = .ok (.iinc 2 1, 3) := by decide +kernel
theorem dX5_middleTime_82 : decode cX5_middleTime 82 = .ok (.goto (-78), 3) := by decide +kernel
theorem dX5_middleTime_85 : decode cX5_middleTime 85 = .ok (.iload_n 1, 1) := by decide +kernel
theorem dX5_middleTime_86 : decode cX5_middleTime 86 = .ok (.ifCond .ne 7, 3) := by decide +kernel
theorem dX5_middleTime_89 : decode cX5_middleTime 89 = .ok (.iconst (-1), 1) := by decide +kernel
theorem dX5_middleTime_90 : decode cX5_middleTime 90 = .ok (.goto 13, 3) := by decide +kernel
theorem dX5_middleTime_93 : decode cX5_middleTime 93 = .ok (.aload_n 0, 1) := by decide +kernel
theorem dX5_middleTime_94 : decode cX5_middleTime 94 = .ok (.getfield 25, 3) := by decide +kernel
theorem dX5_middleTime_97 : decode cX5_middleTime 97 = .ok (.iload_n 1, 1) := by decide +kernel
theorem dX5_middleTime_98 : decode cX5_middleTime 98 = .ok (.iconst 1, 1) := by decide +kernel
theorem dX5_middleTime_99 : decode cX5_middleTime 99 = .ok (.isub, 1) := by decide +kernel
theorem dX5_middleTime_100 : decode cX5_middleTime 100 = .ok (.iconst 2, 1) := by decide +kernel
theorem dX5_middleTime_101 : decode cX5_middleTime 101 = .ok (.idiv, 1) := by decide +kernel
theorem dX5_middleTime_102 : decode cX5_middleTime 102 = .ok (.iaload, 1) := by decide +kernel
theorem dX5_middleTime_103 : decode cX5_middleTime 103 = .ok (.ireturn, 1) := by decide +kernel
def q_X5_middleTime (S : zM) : Int32 → zM → Prop := fun r S1 => r = zI (tMid (S 9 1)) ∧ ∃ M' L', zMo S (S 9 0) (S 9 1) (S 9 2) (S 9 3) (S 9 4) M' L' = S1
def r_X5_middleTime : Room := { frames := 5, cells := 0, slots := 0, locals := 116 }
set_option maxHeartbeats 4000000 in
set_option maxRecDepth 100000 in
theorem c_X5_middleTime (l : Launch) (G : zG) (hG : zok G) (S : zM) (hw : zW (S 9 1)) : Met l yX5_middleTime (Cond.code yX5_middleTime cX5_middleTime 5 (some FieldType.int) :: zTbl) r_X5_middleTime (va_Pc [.ref (za G 9 0)] (zB G S)) (va_Qi (q_X5_middleTime S) (zB G) (zA G)) 0 0 (zA G) := by
  refine zMet [(0, .ref (za G 9 0))] hG (by decide) (Nat.le_of_ble_eq_true rfl) rfl (fun p e s m args below meth c ls h hx hb hr hH hl => ?_)
  rw [← zM_id S] at hH
  have f4 := zW_4 hw
  have C4 : ∀ (fu : Nat) (o n : Int) (M L : Int → Int) (H : Heap) (locs : List Loc) (ls : Array Slot), (S 9 1 4 - o).toNat < fu → (0 ≤ o ∧ o ≤ S 9 1 4) → (n = zmsC (S 9 1) o.toNat) → (L = zmsQ (S 9 1) (S 9 6) o.toNat) → zH G (zMo S (S 9 0) (S 9 1) (S 9 2) (S 9 3) (S 9 4) M L) s H locs → lv_has ls 5 [(0, .ref (za G 9 0)), (1, .int (zI n)), (2, .int (zI o))] → W p l e r_X5_middleTime s m args below meth c H locs 0 0 (MQ below (va_Qi (q_X5_middleTime S) (zB G) (zA G)) args s 0 0 (zA G)) (F0 m 4 ls []) := by
    intro fu
    induction fu with
    | zero => intro o n M L H locs ls hfu; omega
    | succ fu ih4 =>
      intro o n M L H locs ls hfu ho hn hL hH hl
      have bn := zmsC_in (S 9 1) o.toNat
      have C28 : ∀ (fu : Nat) (j x : Int) (M2 L2 : Int → Int) (H : Heap) (locs : List Loc) (ls : Array Slot), (j).toNat < fu → (0 ≤ j ∧ j ≤ n) → (x = tLn (S 9 1) o) → (tLn (S 9 1) o ≠ -1) → (o < S 9 1 4) → (zins L2 x j.toNat = zins L x n.toNat) → (∀ i : Int, 0 ≤ i → i < j → L2 i = L i) → zH G (zMo S (S 9 0) (S 9 1) (S 9 2) (S 9 3) (S 9 4) M2 L2) s H locs → lv_has ls 5 [(0, .ref (za G 9 0)), (1, .int (zI n)), (2, .int (zI o)), (3, .int (zI x)), (4, .int (zI j))] → W p l e r_X5_middleTime s m args below meth c H locs 0 0 (MQ below (va_Qi (q_X5_middleTime S) (zB G) (zA G)) args s 0 0 (zA G)) (F0 m 28 ls []) := by
        intro fu
        induction fu with
        | zero => intro j x M2 L2 H locs ls hfu; omega
        | succ fu ih28 =>
          intro j x M2 L2 H locs ls hfu hj hx2 c_22 hol hLq hLj hH hl
          have b_20 := tLn_in hw o
          refine lv_iload hx hb dX5_middleTime_28 (lv_at hl 4 rfl) ?_
          refine zb_ile (tgt := 68) h (by omega) dX5_middleTime_30 (by decide) (fun c_30 => ?_) (fun c_30 => ?_)
          · have hLe : zup L2 j x = zins L x n.toNat := by rw [← hLq]; first | (rw [zins_s _ _ (by omega), if_neg (by omega)]; done) | (obtain rfl : j = 0 := (by omega); rfl)
            refine lv_aload_n hx hb dX5_middleTime_68 rfl (lv_at hl 0 rfl) ?_
            refine zg_5_8 h hH zf_X5_25 dX5_middleTime_69 ?_
            refine lv_iload hx hb dX5_middleTime_72 (lv_at hl 4 rfl) ?_
            refine lv_iload_n hx hb dX5_middleTime_74 rfl (lv_at hl 3 rfl) ?_
            refine zst_ar_ls h hH (by omega) dX5_middleTime_75 (fun H locs hH => ?_)
            rw [zs_M6] at hH
            refine lv_iinc (v := zI (n + 1)) (lv' := [(1, .int (zI (n + 1))), (0, .ref (za G 9 0)), (2, .int (zI o)), (3, .int (zI x)), (4, .int (zI j))]) hx hb dX5_middleTime_76 hl (k := 1) rfl (zI_add _ _) (by decide) rfl (fun ls hl => ?_)
            refine lv_iinc (v := zI (o + 1)) (lv' := [(2, .int (zI (o + 1))), (1, .int (zI (n + 1))), (0, .ref (za G 9 0)), (3, .int (zI x)), (4, .int (zI j))]) hx hb dX5_middleTime_79 hl (k := 2) rfl (zI_add _ _) (by decide) rfl (fun ls hl => ?_)
            refine lv_goto (tgt := 4) hx hb dX5_middleTime_82 (by decide) ?_
            exact ih4 (o + 1) (n + 1) M2 (zup L2 (j) x) _ _ _ (by omega) (by omega) (by rw [zmsC_s _ ho.1]; first | (rw [if_pos c_22]; exact hn) | (rw [if_neg c_22, hn])) (by rw [zmsQ_s _ _ ho.1]; first | (rw [if_pos c_22]; exact hL) | (rw [if_neg c_22, ← hL, ← hn, ← hx2]; exact hLe)) hH (lv_sub hl [2, 1, 0] rfl)
          · refine lv_aload_n hx hb dX5_middleTime_33 rfl (lv_at hl 0 rfl) ?_
            refine zg_5_8 h hH zf_X5_25 dX5_middleTime_34 ?_
            refine lv_iload hx hb dX5_middleTime_37 (lv_at hl 4 rfl) ?_
            refine zb_ic h dX5_middleTime_39 ?_
            refine zb_isub h dX5_middleTime_40 ?_
            refine zld_ar_ls h hH (by omega) dX5_middleTime_41 ?_
            rw [zM_6]
            refine lv_iload_n hx hb dX5_middleTime_42 rfl (lv_at hl 3 rfl) ?_
            have b_41 : 1 ≤ L2 (j - 1) ∧ L2 (j - 1) ≤ 9999 := by rw [hLj (j - 1) (by omega) (by omega), hL]; exact zmsQ_in hw (S 9 6) o.toNat (j - 1) (by omega) (by omega)
            refine zb_cle (tgt := 68) h (by omega) (by omega) dX5_middleTime_43 (by decide) (fun c_43 => ?_) (fun c_43 => ?_)
            · have hLe : zup L2 j x = zins L x n.toNat := by rw [← hLq]; first | (rw [zins_s _ _ (by omega), if_neg (by omega)]; done) | (obtain rfl : j = 0 := (by omega); rfl)
              refine lv_aload_n hx hb dX5_middleTime_68 rfl (lv_at hl 0 rfl) ?_
              refine zg_5_8 h hH zf_X5_25 dX5_middleTime_69 ?_
              refine lv_iload hx hb dX5_middleTime_72 (lv_at hl 4 rfl) ?_
              refine lv_iload_n hx hb dX5_middleTime_74 rfl (lv_at hl 3 rfl) ?_
              refine zst_ar_ls h hH (by omega) dX5_middleTime_75 (fun H locs hH => ?_)
              rw [zs_M6] at hH
              refine lv_iinc (v := zI (n + 1)) (lv' := [(1, .int (zI (n + 1))), (0, .ref (za G 9 0)), (2, .int (zI o)), (3, .int (zI x)), (4, .int (zI j))]) hx hb dX5_middleTime_76 hl (k := 1) rfl (zI_add _ _) (by decide) rfl (fun ls hl => ?_)
              refine lv_iinc (v := zI (o + 1)) (lv' := [(2, .int (zI (o + 1))), (1, .int (zI (n + 1))), (0, .ref (za G 9 0)), (3, .int (zI x)), (4, .int (zI j))]) hx hb dX5_middleTime_79 hl (k := 2) rfl (zI_add _ _) (by decide) rfl (fun ls hl => ?_)
              refine lv_goto (tgt := 4) hx hb dX5_middleTime_82 (by decide) ?_
              exact ih4 (o + 1) (n + 1) M2 (zup L2 (j) x) _ _ _ (by omega) (by omega) (by rw [zmsC_s _ ho.1]; first | (rw [if_pos c_22]; exact hn) | (rw [if_neg c_22, hn])) (by rw [zmsQ_s _ _ ho.1]; first | (rw [if_pos c_22]; exact hL) | (rw [if_neg c_22, ← hL, ← hn, ← hx2]; exact hLe)) hH (lv_sub hl [2, 1, 0] rfl)
            · refine lv_aload_n hx hb dX5_middleTime_46 rfl (lv_at hl 0 rfl) ?_
              refine zg_5_8 h hH zf_X5_25 dX5_middleTime_47 ?_
              refine lv_iload hx hb dX5_middleTime_50 (lv_at hl 4 rfl) ?_
              refine lv_aload_n hx hb dX5_middleTime_52 rfl (lv_at hl 0 rfl) ?_
              refine zg_5_8 h hH zf_X5_25 dX5_middleTime_53 ?_
              refine lv_iload hx hb dX5_middleTime_56 (lv_at hl 4 rfl) ?_
              refine zb_ic h dX5_middleTime_58 ?_
              refine zb_isub h dX5_middleTime_59 ?_
              refine zld_ar_ls h hH (by omega) dX5_middleTime_60 ?_
              rw [zM_6]
              refine zst_ar_ls h hH (by omega) dX5_middleTime_61 (fun H locs hH => ?_)
              rw [zs_M6] at hH
              refine lv_iinc (v := zI (j + (-1))) (lv' := [(4, .int (zI (j + (-1)))), (0, .ref (za G 9 0)), (1, .int (zI n)), (2, .int (zI o)), (3, .int (zI x))]) hx hb dX5_middleTime_62 hl (k := 4) rfl (zI_add _ _) (by decide) rfl (fun ls hl => ?_)
              refine lv_goto (tgt := 28) hx hb dX5_middleTime_65 (by decide) ?_
              exact ih28 (j + (-1)) x M2 (zup L2 (j) (L2 (j - 1))) _ _ _ (by omega) (by omega) (by first | rfl | assumption) c_22 (by omega) (by rw [← hLq, zins_s _ _ (by omega : 0 < j), if_pos (by omega), show j + (-1) = j - 1 by omega]) (fun i h1 h2 => by rw [zup_n (by omega)]; exact hLj i h1 (by omega)) hH (lv_sub hl [1, 2, 3, 4, 0] rfl)
      refine lv_iload_n hx hb dX5_middleTime_4 rfl (lv_at hl 2 rfl) ?_
      refine lv_aload_n hx hb dX5_middleTime_5 rfl (lv_at hl 0 rfl) ?_
      refine zg_5_1 h hH zf_X5_7 dX5_middleTime_6 ?_
      refine zb_ic h dX5_middleTime_9 ?_
      refine zld_ar_s h hH (by omega) dX5_middleTime_10 ?_
      rw [zM_1]
      have f_10 := zW_4 hw
      refine zb_cge (tgt := 85) h (by omega) (by omega) dX5_middleTime_11 (by decide) (fun c_11 => ?_) (fun c_11 => ?_)
      · obtain rfl : o = S 9 1 4 := by omega
        refine lv_iload_n hx hb dX5_middleTime_85 rfl (lv_at hl 1 rfl) ?_
        refine zb_ine (tgt := 93) h (by omega) dX5_middleTime_86 (by decide) (fun c_86 => ?_) (fun c_86 => ?_)
        · refine lv_aload_n hx hb dX5_middleTime_93 rfl (lv_at hl 0 rfl) ?_
          refine zg_5_8 h hH zf_X5_25 dX5_middleTime_94 ?_
          refine lv_iload_n hx hb dX5_middleTime_97 rfl (lv_at hl 1 rfl) ?_
          refine zb_ic h dX5_middleTime_98 ?_
          refine zb_isub h dX5_middleTime_99 ?_
          refine zb_ic h dX5_middleTime_100 ?_
          refine zb_idiv h (by omega) (by omega) dX5_middleTime_101 ?_
          refine zld_ar_ls h hH (by omega) dX5_middleTime_102 ?_
          rw [zM_6]
          refine zri h hr hH ?_ dX5_middleTime_103
          first | exact ⟨congrArg zI (by unfold tMid; rw [if_pos (by omega)]), _, _, rfl⟩ | exact ⟨congrArg zI (by unfold tMid; rw [if_neg (by omega), zmsQ_congr _ _ (S 9 6) _ _ (by omega) (by omega), ← hL, ← hn]), _, _, rfl⟩
        · refine zb_ic h dX5_middleTime_89 ?_
          refine lv_goto (tgt := 103) hx hb dX5_middleTime_90 (by decide) ?_
          refine zri h hr hH ?_ dX5_middleTime_103
          first | exact ⟨congrArg zI (by unfold tMid; rw [if_pos (by omega)]), _, _, rfl⟩ | exact ⟨congrArg zI (by unfold tMid; rw [if_neg (by omega), zmsQ_congr _ _ (S 9 6) _ _ (by omega) (by omega), ← hL, ← hn]), _, _, rfl⟩
      · refine lv_aload_n hx hb dX5_middleTime_14 rfl (lv_at hl 0 rfl) ?_
        refine lv_iload_n hx hb dX5_middleTime_15 rfl (lv_at hl 2 rfl) ?_
        refine zcVi h hH (zr_5 h hH) (As := [.int (zI o)]) (rest := []) (c_X5_leastNeeded l G hG (zMo S (S 9 0) (S 9 1) (S 9 2) (S 9 3) (S 9 4) M L) o (by omega) (zM_hw hw)) zce_X5_leastNeeded zcv_X5_leastNeeded zm_X5_81 hl.1 rfl rfl ⟨rfl, rfl⟩ ⟨Nat.le_of_ble_eq_true rfl, Nat.le_of_ble_eq_true rfl⟩ (Nat.le_of_ble_eq_true rfl) ⟨Nat.zero_le _, Nat.zero_le _⟩ dX5_middleTime_16 (fun r_16 S_16 H locs hq hH => ?_)
        obtain ⟨rfl, M_16, rfl⟩ := hq
        simp only [zM_M, zM_0, zM_1, zM_2, zM_3, zM_4, zM_5, zM_6] at hH
        rw [zM_1]
        refine lv_istore_n (lv' := [(3, .int (zI (tLn (S 9 1) o))), (0, .ref (za G 9 0)), (1, .int (zI n)), (2, .int (zI o))]) hx hb dX5_middleTime_19 rfl hl (by decide) rfl (fun ls hl => ?_)
        have b_20 := tLn_in hw o
        refine lv_iload_n hx hb dX5_middleTime_20 rfl (lv_at hl 0 rfl) ?_
        refine zb_ic h dX5_middleTime_21 ?_
        refine zb_ceq (tgt := 79) h (by omega) (by omega) dX5_middleTime_22 (by decide) (fun c_22 => ?_) (fun c_22 => ?_)
        · refine lv_iinc (v := zI (o + 1)) (lv' := [(2, .int (zI (o + 1))), (3, .int (zI (tLn (S 9 1) o))), (0, .ref (za G 9 0)), (1, .int (zI n))]) hx hb dX5_middleTime_79 hl (k := 3) rfl (zI_add _ _) (by decide) rfl (fun ls hl => ?_)
          refine lv_goto (tgt := 4) hx hb dX5_middleTime_82 (by decide) ?_
          exact ih4 (o + 1) n M_16 L _ _ _ (by omega) (by omega) (by rw [zmsC_s _ ho.1]; first | (rw [if_pos c_22]; exact hn) | (rw [if_neg c_22, hn])) (by rw [zmsQ_s _ _ ho.1]; first | (rw [if_pos c_22]; exact hL) | (rw [if_neg c_22, ← hL, ← hn, ← hx2]; exact hLe)) hH (lv_sub hl [2, 3, 0] rfl)
        · refine lv_iload_n hx hb dX5_middleTime_25 rfl (lv_at hl 2 rfl) ?_
          refine lv_istore (lv' := [(4, .int (zI n)), (3, .int (zI (tLn (S 9 1) o))), (0, .ref (za G 9 0)), (1, .int (zI n)), (2, .int (zI o))]) hx hb dX5_middleTime_26 hl (by decide) rfl (fun ls hl => ?_)
          exact C28 ((n : Int).toNat + 1) n (tLn (S 9 1) o) M_16 L _ _ _ (by omega) (by omega) (by first | rfl | assumption) c_22 (by omega) rfl (fun _ _ _ => rfl) hH (lv_sub hl [2, 3, 4, 1, 0] rfl)
  refine zb_ic h dX5_middleTime_0 ?_
  refine lv_istore_n (lv' := [(1, .int (zI 0)), (0, .ref (za G 9 0))]) hx hb dX5_middleTime_1 rfl hl (by decide) rfl (fun ls hl => ?_)
  refine zb_ic h dX5_middleTime_2 ?_
  refine lv_istore_n (lv' := [(2, .int (zI 0)), (1, .int (zI 0)), (0, .ref (za G 9 0))]) hx hb dX5_middleTime_3 rfl hl (by decide) rfl (fun ls hl => ?_)
  exact C4 ((S 9 1 4 - 0 : Int).toNat + 1) 0 0 (S 9 5) (S 9 6) _ _ _ (by omega) (by omega) rfl rfl hH (lv_sub hl [2, 1, 0] rfl)
