theorem dX1_withDigit_0 : decode cX1_withDigit 0 = .ok (.iload_n 1, 1) := by decide +kernel
theorem dX1_withDigit_1 : decode cX1_withDigit 1 = .ok (.bipush 48, 2) := by decide +kernel
theorem dX1_withDigit_3 : decode cX1_withDigit 3 = .ok (.if_icmp .lt 13, 3) := by decide +kernel
theorem dX1_withDigit_6 : decode cX1_withDigit 6 = .ok (.iload_n 1, 1) := by decide +kernel
theorem dX1_withDigit_7 : decode cX1_withDigit 7 = .ok (.bipush 57, 2) := by decide +kernel
theorem dX1_withDigit_9 : decode cX1_withDigit 9 = .ok (.if_icmp .gt 7, 3) := by decide +kernel
theorem dX1_withDigit_12 : decode cX1_withDigit 12 = .ok (.iload_n 0, 1) := by decide +kernel
theorem dX1_withDigit_13 : decode cX1_withDigit 13 = .ok (.ifCond .ne 5, 3) := by decide +kernel
theorem dX1_withDigit_16 : decode cX1_withDigit 16 = .ok (.iconst (-1), 1) := by decide +kernel
theorem dX1_withDigit_17 : decode cX1_withDigit 17 = .ok (.ireturn, 1) := by decide +kernel
theorem dX1_withDigit_18 : decode cX1_withDigit 18 = .ok (.iload_n 0, 1) := by decide +kernel
theorem dX1_withDigit_19 : decode cX1_withDigit 19 = .ok (.iconst (-1), 1) := by decide +kernel
theorem dX1_withDigit_20 : decode cX1_withDigit 20 = .ok (.if_icmp .ne 10, 3) := by decide +kernel
theorem dX1_withDigit_23 : decode cX1_withDigit 23 = .ok (.iload_n 1, 1) := by decide +kernel
theorem dX1_withDigit_24 : decode cX1_withDigit 24 = .ok (.bipush 48, 2) := by decide +kernel
theorem dX1_withDigit_26 : decode cX1_withDigit 26 = .ok (.isub, 1) := by decide +kernel
theorem dX1_withDigit_27 : decode cX1_withDigit 27 = .ok (.goto 12, 3) := by decide +kernel
theorem dX1_withDigit_30 : decode cX1_withDigit 30 = .ok (.iload_n 0, 1) := by decide +kernel
theorem dX1_withDigit_31 : decode cX1_withDigit 31 = .ok (.bipush 10, 2) := by decide +kernel
theorem dX1_withDigit_33 : decode cX1_withDigit 33 = .ok (.imul, 1) := by decide +kernel
theorem dX1_withDigit_34 : decode cX1_withDigit 34 = .ok (.iload_n 1, 1) := by decide +kernel
theorem dX1_withDigit_35 : decode cX1_withDigit 35 = .ok (.iadd, 1) := by decide +kernel
theorem dX1_withDigit_36 : decode cX1_withDigit 36 = .ok (.bipush 48, 2) := by decide +kernel
theorem dX1_withDigit_38 : decode cX1_withDigit 38 = .ok (.isub, 1) := by decide +kernel
theorem dX1_withDigit_39 : decode cX1_withDigit 39 = .ok (.ireturn, 1) := by decide +kernel
def q_X1_withDigit (S : zM) (n t : Int) : Int32 → zM → Prop := fun r S1 => r = zI (oWd n t) ∧ S = S1
def r_X1_withDigit : Room := { frames := 0, cells := 0, slots := 0, locals := 0 }
set_option maxHeartbeats 4000000 in
set_option maxRecDepth 100000 in
theorem c_X1_withDigit (l : Launch) (G : zG) (hG : zok G) (S : zM) (n t : Int) (hn : -1 ≤ n ∧ n ≤ 2000) (ht : -1 ≤ t ∧ t ≤ 126) : Met l yX1_withDigit (Cond.code yX1_withDigit cX1_withDigit 2 (some FieldType.int) :: zTbl) r_X1_withDigit (va_Pc [.int (zI n), .int (zI t)] (zB G S)) (va_Qi (q_X1_withDigit S n t) (zB G) (zA G)) 0 0 (zA G) := by
  refine zMet [(0, .int (zI n)), (1, .int (zI t))] hG (by decide) (Nat.le_of_ble_eq_true rfl) rfl (fun p e s m args below meth c ls h hx hb hr hH hl => ?_)
  refine lv_iload_n hx hb dX1_withDigit_0 rfl (lv_at hl 1 rfl) ?_
  refine zb_bi h dX1_withDigit_1 (by decide) (by decide) ?_
  refine zb_clt (tgt := 16) h (by omega) (by omega) dX1_withDigit_3 (by decide) (fun c_3 => ?_) (fun c_3 => ?_)
  · refine zb_ic h dX1_withDigit_16 ?_
    refine zri h hr hH ?_ dX1_withDigit_17
    exact ⟨congrArg zI (by unfold oWd; (repeat split) <;> omega), rfl⟩
  · refine lv_iload_n hx hb dX1_withDigit_6 rfl (lv_at hl 1 rfl) ?_
    refine zb_bi h dX1_withDigit_7 (by decide) (by decide) ?_
    refine zb_cgt (tgt := 16) h (by omega) (by omega) dX1_withDigit_9 (by decide) (fun c_9 => ?_) (fun c_9 => ?_)
    · refine zb_ic h dX1_withDigit_16 ?_
      refine zri h hr hH ?_ dX1_withDigit_17
      exact ⟨congrArg zI (by unfold oWd; (repeat split) <;> omega), rfl⟩
    · refine lv_iload_n hx hb dX1_withDigit_12 rfl (lv_at hl 0 rfl) ?_
      refine zb_ine (tgt := 18) h (by omega) dX1_withDigit_13 (by decide) (fun c_13 => ?_) (fun c_13 => ?_)
      · refine lv_iload_n hx hb dX1_withDigit_18 rfl (lv_at hl 0 rfl) ?_
        refine zb_ic h dX1_withDigit_19 ?_
        refine zb_cne (tgt := 30) h (by omega) (by omega) dX1_withDigit_20 (by decide) (fun c_20 => ?_) (fun c_20 => ?_)
        · refine lv_iload_n hx hb dX1_withDigit_30 rfl (lv_at hl 0 rfl) ?_
          refine zb_bi h dX1_withDigit_31 (by decide) (by decide) ?_
          refine zb_imul h dX1_withDigit_33 ?_
          refine lv_iload_n hx hb dX1_withDigit_34 rfl (lv_at hl 1 rfl) ?_
          refine zb_iadd h dX1_withDigit_35 ?_
          refine zb_bi h dX1_withDigit_36 (by decide) (by decide) ?_
          refine zb_isub h dX1_withDigit_38 ?_
          refine zri h hr hH ?_ dX1_withDigit_39
          exact ⟨congrArg zI (by unfold oWd; (repeat split) <;> omega), rfl⟩
        · refine lv_iload_n hx hb dX1_withDigit_23 rfl (lv_at hl 1 rfl) ?_
          refine zb_bi h dX1_withDigit_24 (by decide) (by decide) ?_
          refine zb_isub h dX1_withDigit_26 ?_
          refine lv_goto (tgt := 39) hx hb dX1_withDigit_27 (by decide) ?_
          refine zri h hr hH ?_ dX1_withDigit_39
          exact ⟨congrArg zI (by unfold oWd; (repeat split) <;> omega), rfl⟩
      · refine zb_ic h dX1_withDigit_16 ?_
        refine zri h hr hH ?_ dX1_withDigit_17
        exact ⟨congrArg zI (by unfold oWd; (repeat split) <;> omega), rfl⟩
theorem dX1_separator_0 : decode cX1_separator 0 = .ok (.aload_n 0, 1) := by decide +kernel
theorem dX1_separator_1 : decode cX1_separator 1 = .ok (.getfield 15, 3) := by decide +kernel
theorem dX1_separator_4 : decode cX1_separator 4 = .ok (.bipush 122, 2) := by decide +kernel
theorem dX1_separator_6 : decode cX1_separator 6 = .ok (.if_icmp .ne 8, 3) := by decide +kernel
theorem dX1_separator_9 : decode cX1_separator 9 = .ok (.bipush 61, 2) := by decide +kernel
theorem dX1_separator_11 : decode cX1_separator 11 = .ok (.goto 5, 3) := by decide +kernel
theorem dX1_separator_14 : decode cX1_separator 14 = .ok (.bipush 58, 2) := by decide +kernel
theorem dX1_separator_16 : decode cX1_separator 16 = .ok (.ireturn, 1) := by decide +kernel
def q_X1_separator (S : zM) : Int32 → zM → Prop := fun r S1 => r = zI (oSep (S 8 3 1)) ∧ S = S1
def r_X1_separator : Room := { frames := 0, cells := 0, slots := 0, locals := 0 }
set_option maxHeartbeats 4000000 in
set_option maxRecDepth 100000 in
theorem c_X1_separator (l : Launch) (G : zG) (hG : zok G) (S : zM) (hrd : zRd (S 8 3)) : Met l yX1_separator (Cond.code yX1_separator cX1_separator 1 (some FieldType.int) :: zTbl) r_X1_separator (va_Pc [.ref (za G 8 3)] (zB G S)) (va_Qi (q_X1_separator S) (zB G) (zA G)) 0 0 (zA G) := by
  refine zMet [(0, .ref (za G 8 3))] hG (by decide) (Nat.le_of_ble_eq_true rfl) rfl (fun p e s m args below meth c ls h hx hb hr hH hl => ?_)
  obtain ⟨g0, g1, g2, g3⟩ := id hrd
  refine lv_aload_n hx hb dX1_separator_0 rfl (lv_at hl 0 rfl) ?_
  refine zg_1_1 h hH zf_X1_15 dX1_separator_1 ?_
  refine zb_bi h dX1_separator_4 (by decide) (by decide) ?_
  refine zb_cne (tgt := 14) h (by omega) (by omega) dX1_separator_6 (by decide) (fun c_6 => ?_) (fun c_6 => ?_)
  · refine zb_bi h dX1_separator_14 (by decide) (by decide) ?_
    refine zri h hr hH ?_ dX1_separator_16
    exact ⟨congrArg zI (by unfold oSep; (repeat split) <;> omega), rfl⟩
  · refine zb_bi h dX1_separator_9 (by decide) (by decide) ?_
    refine lv_goto (tgt := 16) hx hb dX1_separator_11 (by decide) ?_
    refine zri h hr hH ?_ dX1_separator_16
    exact ⟨congrArg zI (by unfold oSep; (repeat split) <;> omega), rfl⟩
theorem dX1_mostFirst_0 : decode cX1_mostFirst 0 = .ok (.aload_n 0, 1) := by decide +kernel
theorem dX1_mostFirst_1 : decode cX1_mostFirst 1 = .ok (.getfield 15, 3) := by decide +kernel
theorem dX1_mostFirst_4 : decode cX1_mostFirst 4 = .ok (.lookupswitch 34 #[(110, 31), (122, 28)], 28) := by decide +kernel
theorem dX1_mostFirst_32 : decode cX1_mostFirst 32 = .ok (.bipush 24, 2) := by decide +kernel
theorem dX1_mostFirst_34 : decode cX1_mostFirst 34 = .ok (.ireturn, 1) := by decide +kernel
theorem dX1_mostFirst_35 : decode cX1_mostFirst 35 = .ok (.bipush 6, 2) := by decide +kernel
theorem dX1_mostFirst_37 : decode cX1_mostFirst 37 = .ok (.ireturn, 1) := by decide +kernel
theorem dX1_mostFirst_38 : decode cX1_mostFirst 38 = .ok (.bipush 7, 2) := by decide +kernel
theorem dX1_mostFirst_40 : decode cX1_mostFirst 40 = .ok (.ireturn, 1) := by decide +kernel
def q_X1_mostFirst (S : zM) : Int32 → zM → Prop := fun r S1 => r = zI (oMf (S 8 3 1)) ∧ S = S1
def r_X1_mostFirst : Room := { frames := 0, cells := 0, slots := 0, locals := 0 }
set_option maxHeartbeats 4000000 in
set_option maxRecDepth 100000 in
theorem c_X1_mostFirst (l : Launch) (G : zG) (hG : zok G) (S : zM) (hrd : zRd (S 8 3)) : Met l yX1_mostFirst (Cond.code yX1_mostFirst cX1_mostFirst 1 (some FieldType.int) :: zTbl) r_X1_mostFirst (va_Pc [.ref (za G 8 3)] (zB G S)) (va_Qi (q_X1_mostFirst S) (zB G) (zA G)) 0 0 (zA G) := by
  refine zMet [(0, .ref (za G 8 3))] hG (by decide) (Nat.le_of_ble_eq_true rfl) rfl (fun p e s m args below meth c ls h hx hb hr hH hl => ?_)
  obtain ⟨g0, g1, g2, g3⟩ := id hrd
  refine lv_aload_n hx hb dX1_mostFirst_0 rfl (lv_at hl 0 rfl) ?_
  refine zg_1_1 h hH zf_X1_15 dX1_mostFirst_1 ?_
  have x_4 : (zI (S 8 3 1)).toInt = (S 8 3 1) := zI_toInt (by omega) (by omega)
  by_cases e_4_110 : S 8 3 1 = 110
  · refine lv_lookup (off := 31) (tgt := 35) hx hb dX1_mostFirst_4 (by decide) (by rw [x_4, e_4_110]; rfl) (by decide) ?_
    refine zb_bi h dX1_mostFirst_35 (by decide) (by decide) ?_
    refine zri h hr hH ?_ dX1_mostFirst_37
    exact ⟨congrArg zI (by unfold oMf; (repeat split) <;> omega), rfl⟩
  by_cases e_4_122 : S 8 3 1 = 122
  · refine lv_lookup (off := 28) (tgt := 32) hx hb dX1_mostFirst_4 (by decide) (by rw [x_4, e_4_122]; rfl) (by decide) ?_
    refine zb_bi h dX1_mostFirst_32 (by decide) (by decide) ?_
    refine zri h hr hH ?_ dX1_mostFirst_34
    exact ⟨congrArg zI (by unfold oMf; (repeat split) <;> omega), rfl⟩
  refine lv_lookup (off := 34) (tgt := 38) hx hb dX1_mostFirst_4 (by decide) (by rw [x_4]; exact zlk_out [(110, 31), (122, 28)] _ _ (by intro q hq; simp only [List.mem_cons, List.not_mem_nil, or_false] at hq; rcases hq with rfl | rfl <;> (dsimp only; omega))) (by decide) ?_
  refine zb_bi h dX1_mostFirst_38 (by decide) (by decide) ?_
  refine zri h hr hH ?_ dX1_mostFirst_40
  exact ⟨congrArg zI (by unfold oMf; (repeat split) <;> omega), rfl⟩
theorem dX1_leastLast_0 : decode cX1_leastLast 0 = .ok (.aload_n 0, 1) := by decide +kernel
theorem dX1_leastLast_1 : decode cX1_leastLast 1 = .ok (.getfield 15, 3) := by decide +kernel
theorem dX1_leastLast_4 : decode cX1_leastLast 4 = .ok (.lookupswitch 37 #[(110, 28), (116, 35)], 28) := by decide +kernel
theorem dX1_leastLast_32 : decode cX1_leastLast 32 = .ok (.aload_n 0, 1) := by decide +kernel
theorem dX1_leastLast_33 : decode cX1_leastLast 33 = .ok (.getfield 18, 3) := by decide +kernel
theorem dX1_leastLast_36 : decode cX1_leastLast 36 = .ok (.iconst 1, 1) := by decide +kernel
theorem dX1_leastLast_37 : decode cX1_leastLast 37 = .ok (.iadd, 1) := by decide +kernel
theorem dX1_leastLast_38 : decode cX1_leastLast 38 = .ok (.ireturn, 1) := by decide +kernel
theorem dX1_leastLast_39 : decode cX1_leastLast 39 = .ok (.iconst 1, 1) := by decide +kernel
theorem dX1_leastLast_40 : decode cX1_leastLast 40 = .ok (.ireturn, 1) := by decide +kernel
theorem dX1_leastLast_41 : decode cX1_leastLast 41 = .ok (.iconst 0, 1) := by decide +kernel
theorem dX1_leastLast_42 : decode cX1_leastLast 42 = .ok (.ireturn, 1) := by decide +kernel
def q_X1_leastLast (S : zM) : Int32 → zM → Prop := fun r S1 => r = zI (oLl (S 8 3)) ∧ S = S1
def r_X1_leastLast : Room := { frames := 0, cells := 0, slots := 0, locals := 0 }
set_option maxHeartbeats 4000000 in
set_option maxRecDepth 100000 in
theorem c_X1_leastLast (l : Launch) (G : zG) (hG : zok G) (S : zM) (hrd : zRd (S 8 3)) : Met l yX1_leastLast (Cond.code yX1_leastLast cX1_leastLast 1 (some FieldType.int) :: zTbl) r_X1_leastLast (va_Pc [.ref (za G 8 3)] (zB G S)) (va_Qi (q_X1_leastLast S) (zB G) (zA G)) 0 0 (zA G) := by
  refine zMet [(0, .ref (za G 8 3))] hG (by decide) (Nat.le_of_ble_eq_true rfl) rfl (fun p e s m args below meth c ls h hx hb hr hH hl => ?_)
  obtain ⟨g0, g1, g2, g3⟩ := id hrd
  refine lv_aload_n hx hb dX1_leastLast_0 rfl (lv_at hl 0 rfl) ?_
  refine zg_1_1 h hH zf_X1_15 dX1_leastLast_1 ?_
  have x_4 : (zI (S 8 3 1)).toInt = (S 8 3 1) := zI_toInt (by omega) (by omega)
  by_cases e_4_110 : S 8 3 1 = 110
  · refine lv_lookup (off := 28) (tgt := 32) hx hb dX1_leastLast_4 (by decide) (by rw [x_4, e_4_110]; rfl) (by decide) ?_
    refine lv_aload_n hx hb dX1_leastLast_32 rfl (lv_at hl 0 rfl) ?_
    refine zg_1_2 h hH zf_X1_18 dX1_leastLast_33 ?_
    refine zb_ic h dX1_leastLast_36 ?_
    refine zb_iadd h dX1_leastLast_37 ?_
    refine zri h hr hH ?_ dX1_leastLast_38
    exact ⟨congrArg zI (by unfold oLl; (repeat split) <;> omega), rfl⟩
  by_cases e_4_116 : S 8 3 1 = 116
  · refine lv_lookup (off := 35) (tgt := 39) hx hb dX1_leastLast_4 (by decide) (by rw [x_4, e_4_116]; rfl) (by decide) ?_
    refine zb_ic h dX1_leastLast_39 ?_
    refine zri h hr hH ?_ dX1_leastLast_40
    exact ⟨congrArg zI (by unfold oLl; (repeat split) <;> omega), rfl⟩
  refine lv_lookup (off := 37) (tgt := 41) hx hb dX1_leastLast_4 (by decide) (by rw [x_4]; exact zlk_out [(110, 28), (116, 35)] _ _ (by intro q hq; simp only [List.mem_cons, List.not_mem_nil, or_false] at hq; rcases hq with rfl | rfl <;> (dsimp only; omega))) (by decide) ?_
  refine zb_ic h dX1_leastLast_41 ?_
  refine zri h hr hH ?_ dX1_leastLast_42
  exact ⟨congrArg zI (by unfold oLl; (repeat split) <;> omega), rfl⟩
theorem dX1_mostLast_0 : decode cX1_mostLast 0 = .ok (.aload_n 0, 1) := by decide +kernel
theorem dX1_mostLast_1 : decode cX1_mostLast 1 = .ok (.getfield 15, 3) := by decide +kernel
theorem dX1_mostLast_4 : decode cX1_mostLast 4 = .ok (.lookupswitch 46 #[(110, 39), (116, 42), (122, 36)], 36) := by decide +kernel
theorem dX1_mostLast_40 : decode cX1_mostLast 40 = .ok (.bipush 10, 2) := by decide +kernel
theorem dX1_mostLast_42 : decode cX1_mostLast 42 = .ok (.ireturn, 1) := by decide +kernel
theorem dX1_mostLast_43 : decode cX1_mostLast 43 = .ok (.bipush 7, 2) := by decide +kernel
theorem dX1_mostLast_45 : decode cX1_mostLast 45 = .ok (.ireturn, 1) := by decide +kernel
theorem dX1_mostLast_46 : decode cX1_mostLast 46 = .ok (.sipush 2000, 3) := by decide +kernel
theorem dX1_mostLast_49 : decode cX1_mostLast 49 = .ok (.ireturn, 1) := by decide +kernel
theorem dX1_mostLast_50 : decode cX1_mostLast 50 = .ok (.sipush 999, 3) := by decide +kernel
theorem dX1_mostLast_53 : decode cX1_mostLast 53 = .ok (.ireturn, 1) := by decide +kernel
def q_X1_mostLast (S : zM) : Int32 → zM → Prop := fun r S1 => r = zI (oMl (S 8 3 1)) ∧ S = S1
def r_X1_mostLast : Room := { frames := 0, cells := 0, slots := 0, locals := 0 }
set_option maxHeartbeats 4000000 in
set_option maxRecDepth 100000 in
theorem c_X1_mostLast (l : Launch) (G : zG) (hG : zok G) (S : zM) (hrd : zRd (S 8 3)) : Met l yX1_mostLast (Cond.code yX1_mostLast cX1_mostLast 1 (some FieldType.int) :: zTbl) r_X1_mostLast (va_Pc [.ref (za G 8 3)] (zB G S)) (va_Qi (q_X1_mostLast S) (zB G) (zA G)) 0 0 (zA G) := by
  refine zMet [(0, .ref (za G 8 3))] hG (by decide) (Nat.le_of_ble_eq_true rfl) rfl (fun p e s m args below meth c ls h hx hb hr hH hl => ?_)
  obtain ⟨g0, g1, g2, g3⟩ := id hrd
  refine lv_aload_n hx hb dX1_mostLast_0 rfl (lv_at hl 0 rfl) ?_
  refine zg_1_1 h hH zf_X1_15 dX1_mostLast_1 ?_
  have x_4 : (zI (S 8 3 1)).toInt = (S 8 3 1) := zI_toInt (by omega) (by omega)
  by_cases e_4_110 : S 8 3 1 = 110
  · refine lv_lookup (off := 39) (tgt := 43) hx hb dX1_mostLast_4 (by decide) (by rw [x_4, e_4_110]; rfl) (by decide) ?_
    refine zb_bi h dX1_mostLast_43 (by decide) (by decide) ?_
    refine zri h hr hH ?_ dX1_mostLast_45
    exact ⟨congrArg zI (by unfold oMl; (repeat split) <;> omega), rfl⟩
  by_cases e_4_116 : S 8 3 1 = 116
  · refine lv_lookup (off := 42) (tgt := 46) hx hb dX1_mostLast_4 (by decide) (by rw [x_4, e_4_116]; rfl) (by decide) ?_
    refine zb_si h dX1_mostLast_46 (by decide) (by decide) ?_
    refine zri h hr hH ?_ dX1_mostLast_49
    exact ⟨congrArg zI (by unfold oMl; (repeat split) <;> omega), rfl⟩
  by_cases e_4_122 : S 8 3 1 = 122
  · refine lv_lookup (off := 36) (tgt := 40) hx hb dX1_mostLast_4 (by decide) (by rw [x_4, e_4_122]; rfl) (by decide) ?_
    refine zb_bi h dX1_mostLast_40 (by decide) (by decide) ?_
    refine zri h hr hH ?_ dX1_mostLast_42
    exact ⟨congrArg zI (by unfold oMl; (repeat split) <;> omega), rfl⟩
  refine lv_lookup (off := 46) (tgt := 50) hx hb dX1_mostLast_4 (by decide) (by rw [x_4]; exact zlk_out [(110, 39), (116, 42), (122, 36)] _ _ (by intro q hq; simp only [List.mem_cons, List.not_mem_nil, or_false] at hq; rcases hq with rfl | rfl | rfl <;> (dsimp only; omega))) (by decide) ?_
  refine zb_si h dX1_mostLast_50 (by decide) (by decide) ?_
  refine zri h hr hH ?_ dX1_mostLast_53
  exact ⟨congrArg zI (by unfold oMl; (repeat split) <;> omega), rfl⟩
theorem dX1_endsAnOrder_0 : decode cX1_endsAnOrder 0 = .ok (.aload_n 0, 1) := by decide +kernel
theorem dX1_endsAnOrder_1 : decode cX1_endsAnOrder 1 = .ok (.getfield 11, 3) := by decide +kernel
theorem dX1_endsAnOrder_4 : decode cX1_endsAnOrder 4 = .ok (.iconst 2, 1) := by decide +kernel
theorem dX1_endsAnOrder_5 : decode cX1_endsAnOrder 5 = .ok (.if_icmp .ne 15, 3) := by decide +kernel
theorem dX1_endsAnOrder_8 : decode cX1_endsAnOrder 8 = .ok (.aload_n 0, 1) := by decide +kernel
theorem dX1_endsAnOrder_9 : decode cX1_endsAnOrder 9 = .ok (.getfield 21, 3) := by decide +kernel
theorem dX1_endsAnOrder_12 : decode cX1_endsAnOrder 12 = .ok (.iconst (-1), 1) := by decide +kernel
theorem dX1_endsAnOrder_13 : decode cX1_endsAnOrder 13 = .ok (.if_icmp .eq 7, 3) := by decide +kernel
theorem dX1_endsAnOrder_16 : decode cX1_endsAnOrder 16 = .ok (.iconst 1, 1) := by decide +kernel
theorem dX1_endsAnOrder_17 : decode cX1_endsAnOrder 17 = .ok (.goto 4, 3) := by decide +kernel
theorem dX1_endsAnOrder_20 : decode cX1_endsAnOrder 20 = .ok (.iconst 0, 1) := by decide +kernel
theorem dX1_endsAnOrder_21 : decode cX1_endsAnOrder 21 = .ok (.ireturn, 1) := by decide +kernel
def q_X1_endsAnOrder (S : zM) : Int32 → zM → Prop := fun r S1 => ∃ bb : Int, r = zI bb ∧ (bb = 1 ∧ (S 8 3 0 = 2 ∧ S 8 3 3 ≠ -1) ∨ bb = 0 ∧ ¬ (S 8 3 0 = 2 ∧ S 8 3 3 ≠ -1)) ∧ S = S1
def r_X1_endsAnOrder : Room := { frames := 0, cells := 0, slots := 0, locals := 0 }
set_option maxHeartbeats 4000000 in
set_option maxRecDepth 100000 in
theorem c_X1_endsAnOrder (l : Launch) (G : zG) (hG : zok G) (S : zM) (hrd : zRd (S 8 3)) : Met l yX1_endsAnOrder (Cond.code yX1_endsAnOrder cX1_endsAnOrder 1 (some FieldType.boolean) :: zTbl) r_X1_endsAnOrder (va_Pc [.ref (za G 8 3)] (zB G S)) (va_Qi (q_X1_endsAnOrder S) (zB G) (zA G)) 0 0 (zA G) := by
  refine zMet [(0, .ref (za G 8 3))] hG (by decide) (Nat.le_of_ble_eq_true rfl) rfl (fun p e s m args below meth c ls h hx hb hr hH hl => ?_)
  obtain ⟨g0, g1, g2, g3⟩ := id hrd
  refine lv_aload_n hx hb dX1_endsAnOrder_0 rfl (lv_at hl 0 rfl) ?_
  refine zg_1_0 h hH zf_X1_11 dX1_endsAnOrder_1 ?_
  refine zb_ic h dX1_endsAnOrder_4 ?_
  refine zb_cne (tgt := 20) h (by omega) (by omega) dX1_endsAnOrder_5 (by decide) (fun c_5 => ?_) (fun c_5 => ?_)
  · refine zb_ic h dX1_endsAnOrder_20 ?_
    refine zrz h hr hH (by omega) ?_ dX1_endsAnOrder_21
    exact ⟨_, rfl, by omega, rfl⟩
  · refine lv_aload_n hx hb dX1_endsAnOrder_8 rfl (lv_at hl 0 rfl) ?_
    refine zg_1_3 h hH zf_X1_21 dX1_endsAnOrder_9 ?_
    refine zb_ic h dX1_endsAnOrder_12 ?_
    refine zb_ceq (tgt := 20) h (by omega) (by omega) dX1_endsAnOrder_13 (by decide) (fun c_13 => ?_) (fun c_13 => ?_)
    · refine zb_ic h dX1_endsAnOrder_20 ?_
      refine zrz h hr hH (by omega) ?_ dX1_endsAnOrder_21
      exact ⟨_, rfl, by omega, rfl⟩
    · refine zb_ic h dX1_endsAnOrder_16 ?_
      refine lv_goto (tgt := 21) hx hb dX1_endsAnOrder_17 (by decide) ?_
      refine zrz h hr hH (by omega) ?_ dX1_endsAnOrder_21
      exact ⟨_, rfl, by omega, rfl⟩
theorem dX1_restart_0 : decode cX1_restart 0 = .ok (.aload_n 0, 1) := by decide +kernel
theorem dX1_restart_1 : decode cX1_restart 1 = .ok (.iconst 0, 1) := by decide +kernel
theorem dX1_restart_2 : decode cX1_restart 2 = .ok (.putfield 11, 3) := by decide +kernel
theorem dX1_restart_5 : decode cX1_restart 5 = .ok (.return_, 1) := by decide +kernel
def q_X1_restart (S : zM) : zM → Prop := fun S1 => zCl S (S 8 0) (S 8 1) (zup (S 8 3) 0 0) (S 8 4) (S 8 5) = S1
def r_X1_restart : Room := { frames := 0, cells := 0, slots := 0, locals := 0 }
set_option maxHeartbeats 4000000 in
set_option maxRecDepth 100000 in
theorem c_X1_restart (l : Launch) (G : zG) (hG : zok G) (S : zM)  : Met l yX1_restart (Cond.code yX1_restart cX1_restart 1 (none : Option FieldType) :: zTbl) r_X1_restart (va_Pc [.ref (za G 8 3)] (zB G S)) (va_Qv (q_X1_restart S) (zB G) (zA G)) 0 0 (zA G) := by
  refine zMet [(0, .ref (za G 8 3))] hG (by decide) (Nat.le_of_ble_eq_true rfl) rfl (fun p e s m args below meth c ls h hx hb hr hH hl => ?_)
  rw [← zC_id S] at hH
  refine lv_aload_n hx hb dX1_restart_0 rfl (lv_at hl 0 rfl) ?_
  refine zb_ic h dX1_restart_1 ?_
  refine zu_1_0 h hH zf_X1_11 dX1_restart_2 (fun H locs hH => ?_)
  rw [zs_C3] at hH
  refine zrv h hr hH ?_ dX1_restart_5
  exact rfl
