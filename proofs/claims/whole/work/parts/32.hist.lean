theorem dJ9_floorMod_7cf53_0 : decode cJ9_floorMod_7cf53 0 = .ok (.iload_n 0, 1) := by decide +kernel
theorem dJ9_floorMod_7cf53_1 : decode cJ9_floorMod_7cf53 1 = .ok (.iload_n 1, 1) := by decide +kernel
theorem dJ9_floorMod_7cf53_2 : decode cJ9_floorMod_7cf53 2 = .ok (.irem, 1) := by decide +kernel
theorem dJ9_floorMod_7cf53_3 : decode cJ9_floorMod_7cf53 3 = .ok (.istore_n 2, 1) := by decide +kernel
theorem dJ9_floorMod_7cf53_4 : decode cJ9_floorMod_7cf53 4 = .ok (.iload_n 0, 1) := by decide +kernel
theorem dJ9_floorMod_7cf53_5 : decode cJ9_floorMod_7cf53 5 = .ok (.iload_n 1, 1) := by decide +kernel
theorem dJ9_floorMod_7cf53_6 : decode cJ9_floorMod_7cf53 6 = .ok (.ixor, 1) := by decide +kernel
theorem dJ9_floorMod_7cf53_7 : decode cJ9_floorMod_7cf53 7 = .ok (.ifCond .ge 11, 3) := by decide +kernel
theorem dJ9_floorMod_7cf53_18 : decode cJ9_floorMod_7cf53 18 = .ok (.iload_n 2, 1) := by decide +kernel
theorem dJ9_floorMod_7cf53_19 : decode cJ9_floorMod_7cf53 19 = .ok (.ireturn, 1) := by decide +kernel
def q_J9_floorMod_7cf53 (S : zM) (a : Int) : Int32 → zM → Prop := fun r S1 => r = zI (a % 6) ∧ S = S1
def r_J9_floorMod_7cf53 : Room := { frames := 0, cells := 0, slots := 0, locals := 0 }
set_option maxHeartbeats 4000000 in
set_option maxRecDepth 100000 in
theorem c_J9_floorMod_7cf53 (l : Launch) (G : zG) (hG : zok G) (S : zM) (a : Int) (ha : 0 ≤ a ∧ a < 1000) : Met l yJ9_floorMod_7cf53 (Cond.code yJ9_floorMod_7cf53 cJ9_floorMod_7cf53 3 (some FieldType.int) :: zTbl) r_J9_floorMod_7cf53 (va_Pc [.int (zI a), .int (zI 6)] (zB G S)) (va_Qi (q_J9_floorMod_7cf53 S a) (zB G) (zA G)) 0 0 (zA G) := by
  refine zMetF [(0, .int (zI a)), (1, .int (zI 6))] hG (by decide +kernel) (Nat.le_of_ble_eq_true rfl) rfl (fun p e s m args below meth c ls h hx hb hr hH hl => ?_)
  refine lv_iload_n hx hb dJ9_floorMod_7cf53_0 rfl (lv_at hl 0 rfl) ?_
  refine lv_iload_n hx hb dJ9_floorMod_7cf53_1 rfl (lv_at hl 1 rfl) ?_
  refine zb_irem h (by omega) (by omega) dJ9_floorMod_7cf53_2 ?_
  refine lv_istore_n (lv' := [(2, .int (zI (a % 6))), (0, .int (zI a)), (1, .int (zI 6))]) hx hb dJ9_floorMod_7cf53_3 rfl hl (by decide) rfl (fun ls hl => ?_)
  refine lv_iload_n hx hb dJ9_floorMod_7cf53_4 rfl (lv_at hl 1 rfl) ?_
  refine lv_iload_n hx hb dJ9_floorMod_7cf53_5 rfl (lv_at hl 2 rfl) ?_
  refine zb_ixor h dJ9_floorMod_7cf53_6 ?_
  have b_6 := zxor6 ha
  refine zb_ige (tgt := 18) h (by omega) dJ9_floorMod_7cf53_7 (by decide) (fun c_7 => ?_) (fun c_7 => ?_)
  · refine lv_iload_n hx hb dJ9_floorMod_7cf53_18 rfl (lv_at hl 0 rfl) ?_
    refine zri h hr hH ?_ dJ9_floorMod_7cf53_19
    exact ⟨rfl, rfl⟩
  · exact absurd c_7 (by omega)
theorem dX0_size_0 : decode cX0_size 0 = .ok (.aload_n 0, 1) := by decide +kernel
theorem dX0_size_1 : decode cX0_size 1 = .ok (.getfield 18, 3) := by decide +kernel
theorem dX0_size_4 : decode cX0_size 4 = .ok (.ireturn, 1) := by decide +kernel
def q_X0_size (S : zM) : Int32 → zM → Prop := fun r S1 => r = zI (S 8 1 1) ∧ S = S1
def r_X0_size : Room := { frames := 0, cells := 0, slots := 0, locals := 0 }
set_option maxHeartbeats 4000000 in
set_option maxRecDepth 100000 in
theorem c_X0_size (l : Launch) (G : zG) (hG : zok G) (S : zM) : Met l yX0_size (Cond.code yX0_size cX0_size 1 (some FieldType.int) :: zTbl) r_X0_size (va_Pc [.ref (za G 8 1)] (zB G S)) (va_Qi (q_X0_size S) (zB G) (zA G)) 0 0 (zA G) := by
  refine zMet [(0, .ref (za G 8 1))] hG (by decide) (Nat.le_of_ble_eq_true rfl) rfl (fun p e s m args below meth c ls h hx hb hr hH hl => ?_)
  refine lv_aload_n hx hb dX0_size_0 rfl (lv_at hl 0 rfl) ?_
  refine zg_0_1 h hH zf_X0_18 dX0_size_1 ?_
  refine zri h hr hH ?_ dX0_size_4
  exact ⟨rfl, rfl⟩
theorem dX0_keep_0 : decode cX0_keep 0 = .ok (.aload_n 0, 1) := by decide +kernel
theorem dX0_keep_1 : decode cX0_keep 1 = .ok (.getfield 11, 3) := by decide +kernel
theorem dX0_keep_4 : decode cX0_keep 4 = .ok (.aload_n 0, 1) := by decide +kernel
theorem dX0_keep_5 : decode cX0_keep 5 = .ok (.getfield 22, 3) := by decide +kernel
theorem dX0_keep_8 : decode cX0_keep 8 = .ok (.bipush 6, 2) := by decide +kernel
theorem dX0_keep_10 : decode cX0_keep 10 = .ok (.invokestatic 25, 3) := by decide +kernel
theorem dX0_keep_13 : decode cX0_keep 13 = .ok (.aaload, 1) := by decide +kernel
theorem dX0_keep_14 : decode cX0_keep 14 = .ok (.astore_n 2, 1) := by decide +kernel
theorem dX0_keep_15 : decode cX0_keep 15 = .ok (.aload_n 2, 1) := by decide +kernel
theorem dX0_keep_16 : decode cX0_keep 16 = .ok (.ifnonnull 4, 3) := by decide +kernel
theorem dX0_keep_20 : decode cX0_keep 20 = .ok (.aload_n 2, 1) := by decide +kernel
theorem dX0_keep_21 : decode cX0_keep 21 = .ok (.aload_n 1, 1) := by decide +kernel
theorem dX0_keep_22 : decode cX0_keep 22 = .ok (.invokevirtual 31, 3) := by decide +kernel
theorem dX0_keep_25 : decode cX0_keep 25 = .ok (.aload_n 0, 1) := by decide +kernel
theorem dX0_keep_26 : decode cX0_keep 26 = .ok (.dup, 1) := by decide +kernel
theorem dX0_keep_27 : decode cX0_keep 27 = .ok (.getfield 22, 3) := by decide +kernel
theorem dX0_keep_30 : decode cX0_keep 30 = .ok (.iconst 1, 1) := by decide +kernel
theorem dX0_keep_31 : decode cX0_keep 31 = .ok (.iadd, 1) := by decide +kernel
theorem dX0_keep_32 : decode cX0_keep 32 = .ok (.putfield 22, 3) := by decide +kernel
theorem dX0_keep_35 : decode cX0_keep 35 = .ok (.aload_n 0, 1) := by decide +kernel
theorem dX0_keep_36 : decode cX0_keep 36 = .ok (.aload_n 0, 1) := by decide +kernel
theorem dX0_keep_37 : decode cX0_keep 37 = .ok (.getfield 18, 3) := by decide +kernel
theorem dX0_keep_40 : decode cX0_keep 40 = .ok (.iconst 1, 1) := by decide +kernel
theorem dX0_keep_41 : decode cX0_keep 41 = .ok (.iadd, 1) := by decide +kernel
theorem dX0_keep_42 : decode cX0_keep 42 = .ok (.bipush 6, 2) := by decide +kernel
theorem dX0_keep_44 : decode cX0_keep 44 = .ok (.invokestatic 35, 3) := by decide +kernel
theorem dX0_keep_47 : decode cX0_keep 47 = .ok (.putfield 18, 3) := by decide +kernel
theorem dX0_keep_50 : decode cX0_keep 50 = .ok (.return_, 1) := by decide +kernel
def q_X0_keep (S : zM) : zM → Prop := fun S1 => zCl (zPut S ((S 8 1 2 % 6).toNat + 2) (S 0 0) (zMk (S 0 0 1) (S 0 0 2)) (S ((S 8 1 2 % 6).toNat + 2) 8)) (S 8 0) (zup (zup (S 8 1) 2 (S 8 1 2 + 1)) 1 (min (S 8 1 1 + 1) 6)) (S 8 3) (S 8 4) (S 8 5) = S1
def r_X0_keep : Room := { frames := 3, cells := 0, slots := 0, locals := 70 }
set_option maxHeartbeats 4000000 in
set_option maxRecDepth 100000 in
theorem c_X0_keep (l : Launch) (G : zG) (hG : zok G) (S : zM) (hnx : 0 ≤ S 8 1 2 ∧ S 8 1 2 ≤ 600) (hsz : 0 ≤ S 8 1 1 ∧ S 8 1 1 ≤ 6) (hw : zW (S 0 0)) : Met l yX0_keep (Cond.code yX0_keep cX0_keep 3 (none : Option FieldType) :: zTbl) r_X0_keep (va_Pc [.ref (za G 8 1), .ref (za G 0 0)] (zB G S)) (va_Qv (q_X0_keep S) (zB G) (zA G)) 0 0 (zA G) := by
  refine zMet [(0, .ref (za G 8 1)), (1, .ref (za G 0 0))] hG (by decide) (Nat.le_of_ble_eq_true rfl) rfl (fun p e s m args below meth c ls h hx hb hr hH hl => ?_)
  refine lv_aload_n hx hb dX0_keep_0 rfl (lv_at hl 0 rfl) ?_
  refine zg_0_0 h hH zf_X0_11 dX0_keep_1 ?_
  refine lv_aload_n hx hb dX0_keep_4 rfl (lv_at hl 0 rfl) ?_
  refine zg_0_2 h hH zf_X0_22 dX0_keep_5 ?_
  refine zb_bi h dX0_keep_8 (by decide) (by decide) ?_
  refine zcSi h hH (As := [.int (zI (S 8 1 2)), .int (zI 6)]) (rest := [.ref (za G 8 2)]) (c_J9_floorMod_7cf53 l G hG S (S 8 1 2) (by omega)) zce_J9_floorMod_7cf53 zt_J9_floorMod_7cf53 zm_X0_25 hl.1 rfl rfl ⟨rfl, rfl⟩ ⟨Nat.le_of_ble_eq_true rfl, Nat.le_of_ble_eq_true rfl⟩ (Nat.le_of_ble_eq_true rfl) ⟨Nat.zero_le _, Nat.zero_le _⟩ dX0_keep_10 (fun r_10 S_10 H locs hq hH => ?_)
  obtain ⟨rfl, rfl⟩ := hq
  refine zld_st h hH (by omega) dX0_keep_13 (fun k13 e_13 => ?_)
  have hk13 : k13 < 8 := by omega
  refine lv_astore_n (lv' := [(2, .ref (za G k13 0)), (0, .ref (za G 8 1)), (1, .ref (za G 0 0))]) hx hb dX0_keep_14 rfl hl (by decide) rfl (fun ls hl => ?_)
  refine lv_aload_n hx hb dX0_keep_15 rfl (lv_at hl 0 rfl) ?_
  refine lv_ifnonnull (tgt := 20) hx hb dX0_keep_16 (by decide) ?_
  refine lv_aload_n hx hb dX0_keep_20 rfl (lv_at hl 0 rfl) ?_
  refine lv_aload_n hx hb dX0_keep_21 rfl (lv_at hl 2 rfl) ?_
  refine zcVv h hH (zr_3 h hH hk13) (As := [.ref (za G 0 0)]) (rest := []) (c_X3_copyFrom l G hG k13 0 hk13 (by omega) (by omega) S hw) zce_X3_copyFrom zcv_X3_copyFrom zm_X0_31 hl.1 rfl rfl ⟨rfl, rfl⟩ ⟨Nat.le_of_ble_eq_true rfl, Nat.le_of_ble_eq_true rfl⟩ (Nat.le_of_ble_eq_true rfl) ⟨Nat.zero_le _, Nat.zero_le _⟩ dX0_keep_22 (fun S_22 H locs hq hH => ?_)
  obtain rfl := hq
  rw [← zC_id (zPut S k13 (S 0 0) (zMk (S 0 0 1) (S 0 0 2)) (S k13 8))] at hH
  rw [zP_n (by omega)] at hH
  refine lv_aload_n hx hb dX0_keep_25 rfl (lv_at hl 1 rfl) ?_
  refine lv_dup hx hb dX0_keep_26 rfl ?_
  refine zg_0_2 h hH zf_X0_22 dX0_keep_27 ?_
  rw [zC_1]
  refine zb_ic h dX0_keep_30 ?_
  refine zb_iadd h dX0_keep_31 ?_
  refine zu_0_2 h hH zf_X0_22 dX0_keep_32 (fun H locs hH => ?_)
  rw [zs_C1] at hH
  refine lv_aload_n hx hb dX0_keep_35 rfl (lv_at hl 1 rfl) ?_
  refine lv_aload_n hx hb dX0_keep_36 rfl (lv_at hl 1 rfl) ?_
  refine zg_0_1 h hH zf_X0_18 dX0_keep_37 ?_
  rw [zC_1]
  rw [show (zup (S 8 1) 2 ((S 8 1 2) + 1) 1 : Int) = S 8 1 1 from by (first | rw [zup_s] | rw [zup_n (by omega)])]
  refine zb_ic h dX0_keep_40 ?_
  refine zb_iadd h dX0_keep_41 ?_
  refine zb_bi h dX0_keep_42 (by decide) (by decide) ?_
  refine zminI h hl.1 zm_X0_35 (Nat.le_of_ble_eq_true rfl) (Nat.le_of_ble_eq_true rfl) ⟨Nat.zero_le _, Nat.zero_le _⟩ (by omega) (by omega) (Nat.le_of_ble_eq_true rfl) dX0_keep_44 ?_
  refine zu_0_1 h hH zf_X0_18 dX0_keep_47 (fun H locs hH => ?_)
  rw [zs_C1] at hH
  refine zrv h hr hH ?_ dX0_keep_50
  rw [e_13]
  exact rfl
theorem dX0_giveBack_0 : decode cX0_giveBack 0 = .ok (.aload_n 0, 1) := by decide +kernel
theorem dX0_giveBack_1 : decode cX0_giveBack 1 = .ok (.getfield 11, 3) := by decide +kernel
theorem dX0_giveBack_4 : decode cX0_giveBack 4 = .ok (.aload_n 0, 1) := by decide +kernel
theorem dX0_giveBack_5 : decode cX0_giveBack 5 = .ok (.getfield 22, 3) := by decide +kernel
theorem dX0_giveBack_8 : decode cX0_giveBack 8 = .ok (.iconst 1, 1) := by decide +kernel
theorem dX0_giveBack_9 : decode cX0_giveBack 9 = .ok (.isub, 1) := by decide +kernel
theorem dX0_giveBack_10 : decode cX0_giveBack 10 = .ok (.bipush 6, 2) := by decide +kernel
theorem dX0_giveBack_12 : decode cX0_giveBack 12 = .ok (.invokestatic 25, 3) := by decide +kernel
theorem dX0_giveBack_15 : decode cX0_giveBack 15 = .ok (.aaload, 1) := by decide +kernel
theorem dX0_giveBack_16 : decode cX0_giveBack 16 = .ok (.astore_n 2, 1) := by decide +kernel
theorem dX0_giveBack_17 : decode cX0_giveBack 17 = .ok (.aload_n 2, 1) := by decide +kernel
theorem dX0_giveBack_18 : decode cX0_giveBack 18 = .ok (.ifnull 11, 3) := by decide +kernel
theorem dX0_giveBack_21 : decode cX0_giveBack 21 = .ok (.aload_n 0, 1) := by decide +kernel
theorem dX0_giveBack_22 : decode cX0_giveBack 22 = .ok (.getfield 18, 3) := by decide +kernel
theorem dX0_giveBack_25 : decode cX0_giveBack 25 = .ok (.iconst 1, 1) := by decide +kernel
theorem dX0_giveBack_26 : decode cX0_giveBack 26 = .ok (.if_icmp .ge 4, 3) := by decide +kernel
theorem dX0_giveBack_30 : decode cX0_giveBack 30 = .ok (.aload_n 1, 1) := by decide +kernel
theorem dX0_giveBack_31 : decode cX0_giveBack 31 = .ok (.aload_n 2, 1) := by decide +kernel
theorem dX0_giveBack_32 : decode cX0_giveBack 32 = .ok (.invokevirtual 31, 3) := by decide +kernel
theorem dX0_giveBack_35 : decode cX0_giveBack 35 = .ok (.aload_n 0, 1) := by decide +kernel
theorem dX0_giveBack_36 : decode cX0_giveBack 36 = .ok (.dup, 1) := by decide +kernel
theorem dX0_giveBack_37 : decode cX0_giveBack 37 = .ok (.getfield 22, 3) := by decide +kernel
theorem dX0_giveBack_40 : decode cX0_giveBack 40 = .ok (.iconst 1, 1) := by decide +kernel
theorem dX0_giveBack_41 : decode cX0_giveBack 41 = .ok (.isub, 1) := by decide +kernel
theorem dX0_giveBack_42 : decode cX0_giveBack 42 = .ok (.putfield 22, 3) := by decide +kernel
theorem dX0_giveBack_45 : decode cX0_giveBack 45 = .ok (.aload_n 0, 1) := by decide +kernel
theorem dX0_giveBack_46 : decode cX0_giveBack 46 = .ok (.dup, 1) := by decide +kernel
theorem dX0_giveBack_47 : decode cX0_giveBack 47 = .ok (.getfield 18, 3) := by decide +kernel
theorem dX0_giveBack_50 : decode cX0_giveBack 50 = .ok (.iconst 1, 1) := by decide +kernel
theorem dX0_giveBack_51 : decode cX0_giveBack 51 = .ok (.isub, 1) := by decide +kernel
theorem dX0_giveBack_52 : decode cX0_giveBack 52 = .ok (.putfield 18, 3) := by decide +kernel
theorem dX0_giveBack_55 : decode cX0_giveBack 55 = .ok (.return_, 1) := by decide +kernel
def q_X0_giveBack (S : zM) : zM → Prop := fun S1 => zCl (zPut S 0 (S (((S 8 1 2 - 1) % 6).toNat + 2) 0) (zMk (S (((S 8 1 2 - 1) % 6).toNat + 2) 0 1) (S (((S 8 1 2 - 1) % 6).toNat + 2) 0 2)) (S 0 8)) (S 8 0) (zup (zup (S 8 1) 2 (S 8 1 2 - 1)) 1 (S 8 1 1 - 1)) (S 8 3) (S 8 4) (S 8 5) = S1
def r_X0_giveBack : Room := { frames := 3, cells := 0, slots := 0, locals := 70 }
set_option maxHeartbeats 4000000 in
set_option maxRecDepth 100000 in
theorem c_X0_giveBack (l : Launch) (G : zG) (hG : zok G) (S : zM) (hnx : 1 ≤ S 8 1 2 ∧ S 8 1 2 ≤ 600) (hsz : 1 ≤ S 8 1 1 ∧ S 8 1 1 ≤ 6) (hwk : zW (S (((S 8 1 2 - 1) % 6).toNat + 2) 0)) : Met l yX0_giveBack (Cond.code yX0_giveBack cX0_giveBack 3 (none : Option FieldType) :: zTbl) r_X0_giveBack (va_Pc [.ref (za G 8 1), .ref (za G 0 0)] (zB G S)) (va_Qv (q_X0_giveBack S) (zB G) (zA G)) 0 0 (zA G) := by
  refine zMet [(0, .ref (za G 8 1)), (1, .ref (za G 0 0))] hG (by decide) (Nat.le_of_ble_eq_true rfl) rfl (fun p e s m args below meth c ls h hx hb hr hH hl => ?_)
  refine lv_aload_n hx hb dX0_giveBack_0 rfl (lv_at hl 0 rfl) ?_
  refine zg_0_0 h hH zf_X0_11 dX0_giveBack_1 ?_
  refine lv_aload_n hx hb dX0_giveBack_4 rfl (lv_at hl 0 rfl) ?_
  refine zg_0_2 h hH zf_X0_22 dX0_giveBack_5 ?_
  refine zb_ic h dX0_giveBack_8 ?_
  refine zb_isub h dX0_giveBack_9 ?_
  refine zb_bi h dX0_giveBack_10 (by decide) (by decide) ?_
  refine zcSi h hH (As := [.int (zI ((S 8 1 2) - 1)), .int (zI 6)]) (rest := [.ref (za G 8 2)]) (c_J9_floorMod_7cf53 l G hG S ((S 8 1 2) - 1) (by omega)) zce_J9_floorMod_7cf53 zt_J9_floorMod_7cf53 zm_X0_25 hl.1 rfl rfl ⟨rfl, rfl⟩ ⟨Nat.le_of_ble_eq_true rfl, Nat.le_of_ble_eq_true rfl⟩ (Nat.le_of_ble_eq_true rfl) ⟨Nat.zero_le _, Nat.zero_le _⟩ dX0_giveBack_12 (fun r_12 S_12 H locs hq hH => ?_)
  obtain ⟨rfl, rfl⟩ := hq
  refine zld_st h hH (by omega) dX0_giveBack_15 (fun k15 e_15 => ?_)
  have hk15 : k15 < 8 := by omega
  refine lv_astore_n (lv' := [(2, .ref (za G k15 0)), (0, .ref (za G 8 1)), (1, .ref (za G 0 0))]) hx hb dX0_giveBack_16 rfl hl (by decide) rfl (fun ls hl => ?_)
  refine lv_aload_n hx hb dX0_giveBack_17 rfl (lv_at hl 0 rfl) ?_
  refine lv_ifnull hx hb dX0_giveBack_18 ?_
  refine lv_aload_n hx hb dX0_giveBack_21 rfl (lv_at hl 1 rfl) ?_
  refine zg_0_1 h hH zf_X0_18 dX0_giveBack_22 ?_
  refine zb_ic h dX0_giveBack_25 ?_
  refine zb_cge (tgt := 30) h (by omega) (by omega) dX0_giveBack_26 (by decide) (fun c_26 => ?_) (fun c_26 => ?_)
  · refine lv_aload_n hx hb dX0_giveBack_30 rfl (lv_at hl 2 rfl) ?_
    refine lv_aload_n hx hb dX0_giveBack_31 rfl (lv_at hl 0 rfl) ?_
    refine zcVv h hH (zr_3 h hH (by omega)) (As := [.ref (za G k15 0)]) (rest := []) (c_X3_copyFrom l G hG 0 k15 (by omega) hk15 (by omega) S (by rw [e_15]; exact hwk)) zce_X3_copyFrom zcv_X3_copyFrom zm_X0_31 hl.1 rfl rfl ⟨rfl, rfl⟩ ⟨Nat.le_of_ble_eq_true rfl, Nat.le_of_ble_eq_true rfl⟩ (Nat.le_of_ble_eq_true rfl) ⟨Nat.zero_le _, Nat.zero_le _⟩ dX0_giveBack_32 (fun S_32 H locs hq hH => ?_)
    obtain rfl := hq
    rw [← zC_id (zPut S 0 (S k15 0) (zMk (S k15 0 1) (S k15 0 2)) (S 0 8))] at hH
    rw [zP_n (by omega)] at hH
    refine lv_aload_n hx hb dX0_giveBack_35 rfl (lv_at hl 1 rfl) ?_
    refine lv_dup hx hb dX0_giveBack_36 rfl ?_
    refine zg_0_2 h hH zf_X0_22 dX0_giveBack_37 ?_
    rw [zC_1]
    refine zb_ic h dX0_giveBack_40 ?_
    refine zb_isub h dX0_giveBack_41 ?_
    refine zu_0_2 h hH zf_X0_22 dX0_giveBack_42 (fun H locs hH => ?_)
    rw [zs_C1] at hH
    refine lv_aload_n hx hb dX0_giveBack_45 rfl (lv_at hl 1 rfl) ?_
    refine lv_dup hx hb dX0_giveBack_46 rfl ?_
    refine zg_0_1 h hH zf_X0_18 dX0_giveBack_47 ?_
    rw [zC_1]
    rw [show (zup (S 8 1) 2 ((S 8 1 2) - 1) 1 : Int) = S 8 1 1 from by (first | rw [zup_s] | rw [zup_n (by omega)])]
    refine zb_ic h dX0_giveBack_50 ?_
    refine zb_isub h dX0_giveBack_51 ?_
    refine zu_0_1 h hH zf_X0_18 dX0_giveBack_52 (fun H locs hH => ?_)
    rw [zs_C1] at hH
    refine zrv h hr hH ?_ dX0_giveBack_55
    rw [e_15]
    exact rfl
  · exact absurd c_26 (by omega)
