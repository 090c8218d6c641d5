theorem dX4_mixed_0 : decode cX4_mixed 0 = .ok (.ldc2_w 236, 3) := by decide +kernel
theorem dX4_mixed_3 : decode cX4_mixed 3 = .ok (.lload_n 0, 1) := by decide +kernel
theorem dX4_mixed_4 : decode cX4_mixed 4 = .ok (.lmul, 1) := by decide +kernel
theorem dX4_mixed_5 : decode cX4_mixed 5 = .ok (.lload_n 2, 1) := by decide +kernel
theorem dX4_mixed_6 : decode cX4_mixed 6 = .ok (.ladd, 1) := by decide +kernel
theorem dX4_mixed_7 : decode cX4_mixed 7 = .ok (.lreturn, 1) := by decide +kernel
def q_X4_mixed (S : zM) (a b : Int) : Int64 → zM → Prop := fun r S1 => r = zL (31 * a + b) ∧ S = S1
def r_X4_mixed : Room := { frames := 0, cells := 0, slots := 0, locals := 0 }
set_option maxHeartbeats 4000000 in
set_option maxRecDepth 100000 in
theorem c_X4_mixed (l : Launch) (G : zG) (hG : zok G) (S : zM) (a b : Int) : Met l yX4_mixed (Cond.code yX4_mixed cX4_mixed 4 (some FieldType.long) :: zTbl) r_X4_mixed (va_Pc [.long (zL a), .long (zL b)] (zB G S)) (va_Ql (q_X4_mixed S a b) (zB G) (zA G)) 0 0 (zA G) := by
  refine zMet [(0, .long (zL a)), (2, .long (zL b))] hG (by decide) (Nat.le_of_ble_eq_true rfl) rfl (fun p e s m args below meth c ls h hx hb hr hH hl => ?_)
  refine zb_ldc2 (n := 31) h zk_X4_236 (by decide +kernel) dX4_mixed_0 ?_
  refine lv_lload_n hx hb dX4_mixed_3 rfl (lv_at hl 0 rfl) ?_
  refine zb_lmul h dX4_mixed_4 ?_
  refine lv_lload_n hx hb dX4_mixed_5 rfl (lv_at hl 1 rfl) ?_
  refine zb_ladd h dX4_mixed_6 ?_
  refine zrl h hr hH ?_ dX4_mixed_7
  exact ⟨rfl, rfl⟩
theorem dX5_digestOne_0 : decode cX5_digestOne 0 = .ok (.aload_n 0, 1) := by decide +kernel
theorem dX5_digestOne_1 : decode cX5_digestOne 1 = .ok (.ldc2_w 221, 3) := by decide +kernel
theorem dX5_digestOne_4 : decode cX5_digestOne 4 = .ok (.aload_n 0, 1) := by decide +kernel
theorem dX5_digestOne_5 : decode cX5_digestOne 5 = .ok (.getfield 223, 3) := by decide +kernel
theorem dX5_digestOne_8 : decode cX5_digestOne 8 = .ok (.lmul, 1) := by decide +kernel
theorem dX5_digestOne_9 : decode cX5_digestOne 9 = .ok (.lload_n 1, 1) := by decide +kernel
theorem dX5_digestOne_10 : decode cX5_digestOne 10 = .ok (.ladd, 1) := by decide +kernel
theorem dX5_digestOne_11 : decode cX5_digestOne 11 = .ok (.putfield 223, 3) := by decide +kernel
theorem dX5_digestOne_14 : decode cX5_digestOne 14 = .ok (.return_, 1) := by decide +kernel
def q_X5_digestOne (S : zM) (b : Int) : zM → Prop := fun S1 => zMo S (zup (S 9 0) 14 (31 * (S 9 0 14) + b)) (S 9 1) (S 9 2) (S 9 3) (S 9 4) (S 9 5) (S 9 6) = S1
def r_X5_digestOne : Room := { frames := 0, cells := 0, slots := 0, locals := 0 }
set_option maxHeartbeats 4000000 in
set_option maxRecDepth 100000 in
theorem c_X5_digestOne (l : Launch) (G : zG) (hG : zok G) (S : zM) (b : Int) : Met l yX5_digestOne (Cond.code yX5_digestOne cX5_digestOne 3 (none : Option FieldType) :: zTbl) r_X5_digestOne (va_Pc [.ref (za G 9 0), .long (zL b)] (zB G S)) (va_Qv (q_X5_digestOne S b) (zB G) (zA G)) 0 0 (zA G) := by
  refine zMet [(0, .ref (za G 9 0)), (1, .long (zL b))] hG (by decide) (Nat.le_of_ble_eq_true rfl) rfl (fun p e s m args below meth c ls h hx hb hr hH hl => ?_)
  rw [← zM_id S] at hH
  refine lv_aload_n hx hb dX5_digestOne_0 rfl (lv_at hl 0 rfl) ?_
  refine zb_ldc2 (n := 31) h zk_X5_221 (by decide +kernel) dX5_digestOne_1 ?_
  refine lv_aload_n hx hb dX5_digestOne_4 rfl (lv_at hl 0 rfl) ?_
  refine zg_5_14 h hH zf_X5_223 dX5_digestOne_5 ?_
  rw [zM_0]
  refine zb_lmul h dX5_digestOne_8 ?_
  refine lv_lload_n hx hb dX5_digestOne_9 rfl (lv_at hl 1 rfl) ?_
  refine zb_ladd h dX5_digestOne_10 ?_
  refine zu_5_14 h hH zf_X5_223 dX5_digestOne_11 (fun H locs hH => ?_)
  rw [zs_M0] at hH
  refine zrv h hr hH ?_ dX5_digestOne_14
  exact rfl
