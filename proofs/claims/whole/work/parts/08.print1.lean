theorem dX4_isWithin_0 : decode cX4_isWithin 0 = .ok (.iload_n 0, 1) := by decide +kernel
theorem dX4_isWithin_1 : decode cX4_isWithin 1 = .ok (.iload_n 1, 1) := by decide +kernel
theorem dX4_isWithin_2 : decode cX4_isWithin 2 = .ok (.if_icmp .lt 12, 3) := by decide +kernel
theorem dX4_isWithin_5 : decode cX4_isWithin 5 = .ok (.iload_n 0, 1) := by decide +kernel
theorem dX4_isWithin_6 : decode cX4_isWithin 6 = .ok (.iload_n 2, 1) := by decide +kernel
theorem dX4_isWithin_7 : decode cX4_isWithin 7 = .ok (.if_icmp .gt 7, 3) := by decide +kernel
theorem dX4_isWithin_10 : decode cX4_isWithin 10 = .ok (.iconst 1, 1) := by decide +kernel
theorem dX4_isWithin_11 : decode cX4_isWithin 11 = .ok (.goto 4, 3) := by decide +kernel
theorem dX4_isWithin_14 : decode cX4_isWithin 14 = .ok (.iconst 0, 1) := by decide +kernel
theorem dX4_isWithin_15 : decode cX4_isWithin 15 = .ok (.ireturn, 1) := by decide +kernel
def q_X4_isWithin (S : zM) (a b d : Int) : Int32 → zM → Prop := fun r S1 => ∃ bb : Int, r = zI bb ∧ (bb = 1 ∧ (b ≤ a ∧ a ≤ d) ∨ bb = 0 ∧ ¬ (b ≤ a ∧ a ≤ d)) ∧ S = S1
def r_X4_isWithin : Room := { frames := 0, cells := 0, slots := 0, locals := 0 }
set_option maxHeartbeats 4000000 in
set_option maxRecDepth 100000 in
/-- isWithin -/
theorem c_X4_isWithin (l : Launch) (G : zG) (hG : zok G) (S : zM) (a b d : Int) (ha : -2147483648 ≤ a ∧ a ≤ 2147483647) (hb : -2147483648 ≤ b ∧ b ≤ 2147483647) (hd : -2147483648 ≤ d ∧ d ≤ 2147483647) : Met l yX4_isWithin (Cond.code yX4_isWithin cX4_isWithin 3 (some FieldType.boolean) :: zTbl) r_X4_isWithin (va_Pc [.int (zI a), .int (zI b), .int (zI d)] (zB G S)) (va_Qi (q_X4_isWithin S a b d) (zB G) (zA G)) 0 0 (zA G) := by
  refine zMet [(0, .int (zI a)), (1, .int (zI b)), (2, .int (zI d))] hG (by decide) (Nat.le_of_ble_eq_true rfl) rfl (fun p e s m args below meth c ls h hx hb hr hH hl => ?_)
  refine lv_iload_n hx hb dX4_isWithin_0 rfl (lv_at hl 0 rfl) ?_
  refine lv_iload_n hx hb dX4_isWithin_1 rfl (lv_at hl 1 rfl) ?_
  refine zb_clt (tgt := 14) h (by omega) (by omega) dX4_isWithin_2 (by decide) (fun c_2 => ?_) (fun c_2 => ?_)
  · refine zb_ic h dX4_isWithin_14 ?_
    refine zrz h hr hH (by omega) ?_ dX4_isWithin_15
    exact ⟨_, rfl, by omega, rfl⟩
  · refine lv_iload_n hx hb dX4_isWithin_5 rfl (lv_at hl 0 rfl) ?_
    refine lv_iload_n hx hb dX4_isWithin_6 rfl (lv_at hl 2 rfl) ?_
    refine zb_cgt (tgt := 14) h (by omega) (by omega) dX4_isWithin_7 (by decide) (fun c_7 => ?_) (fun c_7 => ?_)
    · refine zb_ic h dX4_isWithin_14 ?_
      refine zrz h hr hH (by omega) ?_ dX4_isWithin_15
      exact ⟨_, rfl, by omega, rfl⟩
    · refine zb_ic h dX4_isWithin_10 ?_
      refine lv_goto (tgt := 15) hx hb dX4_isWithin_11 (by decide) ?_
      refine zrz h hr hH (by omega) ?_ dX4_isWithin_15
      exact ⟨_, rfl, by omega, rfl⟩
theorem dJ6_compare_7cf53_0 : decode cJ6_compare_7cf53 0 = .ok (.iload_n 0, 1) := by decide +kernel
theorem dJ6_compare_7cf53_1 : decode cJ6_compare_7cf53 1 = .ok (.iload_n 1, 1) := by decide +kernel
theorem dJ6_compare_7cf53_2 : decode cJ6_compare_7cf53 2 = .ok (.if_icmp .ge 7, 3) := by decide +kernel
theorem dJ6_compare_7cf53_5 : decode cJ6_compare_7cf53 5 = .ok (.iconst (-1), 1) := by decide +kernel
theorem dJ6_compare_7cf53_6 : decode cJ6_compare_7cf53 6 = .ok (.goto 13, 3) := by decide +kernel
theorem dJ6_compare_7cf53_9 : decode cJ6_compare_7cf53 9 = .ok (.iload_n 0, 1) := by decide +kernel
theorem dJ6_compare_7cf53_10 : decode cJ6_compare_7cf53 10 = .ok (.iload_n 1, 1) := by decide +kernel
theorem dJ6_compare_7cf53_11 : decode cJ6_compare_7cf53 11 = .ok (.if_icmp .ne 7, 3) := by decide +kernel
theorem dJ6_compare_7cf53_14 : decode cJ6_compare_7cf53 14 = .ok (.iconst 0, 1) := by decide +kernel
theorem dJ6_compare_7cf53_15 : decode cJ6_compare_7cf53 15 = .ok (.goto 4, 3) := by decide +kernel
theorem dJ6_compare_7cf53_18 : decode cJ6_compare_7cf53 18 = .ok (.iconst 1, 1) := by decide +kernel
theorem dJ6_compare_7cf53_19 : decode cJ6_compare_7cf53 19 = .ok (.ireturn, 1) := by decide +kernel
def q_J6_compare_7cf53 (S : zM) (a b : Int) : Int32 → zM → Prop := fun r S1 => r = zI (zsg (a - b)) ∧ S = S1
def r_J6_compare_7cf53 : Room := { frames := 0, cells := 0, slots := 0, locals := 0 }
set_option maxHeartbeats 4000000 in
set_option maxRecDepth 100000 in
/-- Integer.compare -/
theorem c_J6_compare_7cf53 (l : Launch) (G : zG) (hG : zok G) (S : zM) (a b : Int) (ha : -2147483648 ≤ a ∧ a ≤ 2147483647) (hb : -2147483648 ≤ b ∧ b ≤ 2147483647) : Met l yJ6_compare_7cf53 (Cond.code yJ6_compare_7cf53 cJ6_compare_7cf53 2 (some FieldType.int) :: zTbl) r_J6_compare_7cf53 (va_Pc [.int (zI a), .int (zI b)] (zB G S)) (va_Qi (q_J6_compare_7cf53 S a b) (zB G) (zA G)) 0 0 (zA G) := by
  refine zMet [(0, .int (zI a)), (1, .int (zI b))] hG (by decide) (Nat.le_of_ble_eq_true rfl) rfl (fun p e s m args below meth c ls h hx hb hr hH hl => ?_)
  refine lv_iload_n hx hb dJ6_compare_7cf53_0 rfl (lv_at hl 0 rfl) ?_
  refine lv_iload_n hx hb dJ6_compare_7cf53_1 rfl (lv_at hl 1 rfl) ?_
  refine zb_cge (tgt := 9) h (by omega) (by omega) dJ6_compare_7cf53_2 (by decide) (fun c_2 => ?_) (fun c_2 => ?_)
  · refine lv_iload_n hx hb dJ6_compare_7cf53_9 rfl (lv_at hl 0 rfl) ?_
    refine lv_iload_n hx hb dJ6_compare_7cf53_10 rfl (lv_at hl 1 rfl) ?_
    refine zb_cne (tgt := 18) h (by omega) (by omega) dJ6_compare_7cf53_11 (by decide) (fun c_11 => ?_) (fun c_11 => ?_)
    · refine zb_ic h dJ6_compare_7cf53_18 ?_
      refine zri h hr hH ?_ dJ6_compare_7cf53_19
      exact ⟨by congr 1; unfold zsg; repeat (first | omega | split), rfl⟩
    · refine zb_ic h dJ6_compare_7cf53_14 ?_
      refine lv_goto (tgt := 19) hx hb dJ6_compare_7cf53_15 (by decide) ?_
      refine zri h hr hH ?_ dJ6_compare_7cf53_19
      exact ⟨by congr 1; unfold zsg; repeat (first | omega | split), rfl⟩
  · refine zb_ic h dJ6_compare_7cf53_5 ?_
    refine lv_goto (tgt := 19) hx hb dJ6_compare_7cf53_6 (by decide) ?_
    refine zri h hr hH ?_ dJ6_compare_7cf53_19
    exact ⟨by congr 1; unfold zsg; repeat (first | omega | split), rfl⟩
theorem dX3_isFull_0 : decode cX3_isFull 0 = .ok (.aload_n 0, 1) := by decide +kernel
theorem dX3_isFull_1 : decode cX3_isFull 1 = .ok (.getfield 37, 3) := by decide +kernel
theorem dX3_isFull_4 : decode cX3_isFull 4 = .ok (.bipush 8, 2) := by decide +kernel
theorem dX3_isFull_6 : decode cX3_isFull 6 = .ok (.if_icmp .lt 7, 3) := by decide +kernel
theorem dX3_isFull_9 : decode cX3_isFull 9 = .ok (.iconst 1, 1) := by decide +kernel
theorem dX3_isFull_10 : decode cX3_isFull 10 = .ok (.goto 4, 3) := by decide +kernel
theorem dX3_isFull_13 : decode cX3_isFull 13 = .ok (.iconst 0, 1) := by decide +kernel
theorem dX3_isFull_14 : decode cX3_isFull 14 = .ok (.ireturn, 1) := by decide +kernel
def q_X3_isFull (k : Nat) (S : zM) : Int32 → zM → Prop := fun r S1 => ∃ bb : Int, r = zI bb ∧ (bb = 1 ∧ (8 ≤ S k 0 4) ∨ bb = 0 ∧ ¬ (8 ≤ S k 0 4)) ∧ S = S1
def r_X3_isFull : Room := { frames := 0, cells := 0, slots := 0, locals := 0 }
set_option maxHeartbeats 4000000 in
set_option maxRecDepth 100000 in
theorem c_X3_isFull (l : Launch) (G : zG) (hG : zok G) (k : Nat) (hk : k < 8) (S : zM) (hw : zW (S k 0)) : Met l yX3_isFull (Cond.code yX3_isFull cX3_isFull 1 (some FieldType.boolean) :: zTbl) r_X3_isFull (va_Pc [.ref (za G k 0)] (zB G S)) (va_Qi (q_X3_isFull k S) (zB G) (zA G)) 0 0 (zA G) := by
  refine zMet [(0, .ref (za G k 0))] hG (by decide) (Nat.le_of_ble_eq_true rfl) rfl (fun p e s m args below meth c ls h hx hb hr hH hl => ?_)
  refine lv_aload_n hx hb dX3_isFull_0 rfl (lv_at hl 0 rfl) ?_
  refine zg_3_7 h hH hk zf_X3_37 dX3_isFull_1 ?_
  have f_1 := zW_4 hw
  refine zb_bi h dX3_isFull_4 (by decide) (by decide) ?_
  refine zb_clt (tgt := 13) h (by omega) (by omega) dX3_isFull_6 (by decide) (fun c_6 => ?_) (fun c_6 => ?_)
  · refine zb_ic h dX3_isFull_13 ?_
    refine zrz h hr hH (by omega) ?_ dX3_isFull_14
    exact ⟨_, rfl, by omega, rfl⟩
  · refine zb_ic h dX3_isFull_9 ?_
    refine lv_goto (tgt := 14) hx hb dX3_isFull_10 (by decide) ?_
    refine zrz h hr hH (by omega) ?_ dX3_isFull_14
    exact ⟨_, rfl, by omega, rfl⟩
theorem dX3_hasZone_0 : decode cX3_hasZone 0 = .ok (.iload_n 1, 1) := by decide +kernel
theorem dX3_hasZone_1 : decode cX3_hasZone 1 = .ok (.ifCond .lt 21, 3) := by decide +kernel
theorem dX3_hasZone_4 : decode cX3_hasZone 4 = .ok (.iload_n 1, 1) := by decide +kernel
theorem dX3_hasZone_5 : decode cX3_hasZone 5 = .ok (.aload_n 0, 1) := by decide +kernel
theorem dX3_hasZone_6 : decode cX3_hasZone 6 = .ok (.getfield 37, 3) := by decide +kernel
theorem dX3_hasZone_9 : decode cX3_hasZone 9 = .ok (.if_icmp .ge 13, 3) := by decide +kernel
theorem dX3_hasZone_12 : decode cX3_hasZone 12 = .ok (.iload_n 1, 1) := by decide +kernel
theorem dX3_hasZone_13 : decode cX3_hasZone 13 = .ok (.bipush 8, 2) := by decide +kernel
theorem dX3_hasZone_15 : decode cX3_hasZone 15 = .ok (.if_icmp .ge 7, 3) := by decide +kernel
theorem dX3_hasZone_18 : decode cX3_hasZone 18 = .ok (.iconst 1, 1) := by decide +kernel
theorem dX3_hasZone_19 : decode cX3_hasZone 19 = .ok (.goto 4, 3) := by decide +kernel
theorem dX3_hasZone_22 : decode cX3_hasZone 22 = .ok (.iconst 0, 1) := by decide +kernel
theorem dX3_hasZone_23 : decode cX3_hasZone 23 = .ok (.ireturn, 1) := by decide +kernel
def q_X3_hasZone (k : Nat) (S : zM) (z : Int) : Int32 → zM → Prop := fun r S1 => ∃ bb : Int, r = zI bb ∧ (bb = 1 ∧ (0 ≤ z ∧ z < S k 0 4) ∨ bb = 0 ∧ ¬ (0 ≤ z ∧ z < S k 0 4)) ∧ S = S1
def r_X3_hasZone : Room := { frames := 0, cells := 0, slots := 0, locals := 0 }
set_option maxHeartbeats 4000000 in
set_option maxRecDepth 100000 in
theorem c_X3_hasZone (l : Launch) (G : zG) (hG : zok G) (k : Nat) (hk : k < 8) (S : zM) (z : Int) (hz : -2147483648 ≤ z ∧ z ≤ 2147483647) (hw : zW (S k 0)) : Met l yX3_hasZone (Cond.code yX3_hasZone cX3_hasZone 2 (some FieldType.boolean) :: zTbl) r_X3_hasZone (va_Pc [.ref (za G k 0), .int (zI z)] (zB G S)) (va_Qi (q_X3_hasZone k S z) (zB G) (zA G)) 0 0 (zA G) := by
  refine zMet [(0, .ref (za G k 0)), (1, .int (zI z))] hG (by decide) (Nat.le_of_ble_eq_true rfl) rfl (fun p e s m args below meth c ls h hx hb hr hH hl => ?_)
  refine lv_iload_n hx hb dX3_hasZone_0 rfl (lv_at hl 1 rfl) ?_
  refine zb_ilt (tgt := 22) h (by omega) dX3_hasZone_1 (by decide) (fun c_1 => ?_) (fun c_1 => ?_)
  · refine zb_ic h dX3_hasZone_22 ?_
    refine zrz h hr hH (by omega) ?_ dX3_hasZone_23
    exact ⟨_, rfl, by omega, rfl⟩
  · refine lv_iload_n hx hb dX3_hasZone_4 rfl (lv_at hl 1 rfl) ?_
    refine lv_aload_n hx hb dX3_hasZone_5 rfl (lv_at hl 0 rfl) ?_
    refine zg_3_7 h hH hk zf_X3_37 dX3_hasZone_6 ?_
    have f_6 := zW_4 hw
    refine zb_cge (tgt := 22) h (by omega) (by omega) dX3_hasZone_9 (by decide) (fun c_9 => ?_) (fun c_9 => ?_)
    · refine zb_ic h dX3_hasZone_22 ?_
      refine zrz h hr hH (by omega) ?_ dX3_hasZone_23
      exact ⟨_, rfl, by omega, rfl⟩
    · refine lv_iload_n hx hb dX3_hasZone_12 rfl (lv_at hl 1 rfl) ?_
      refine zb_bi h dX3_hasZone_13 (by decide) (by decide) ?_
      refine zb_cge (tgt := 22) h (by omega) (by omega) dX3_hasZone_15 (by decide) (fun c_15 => ?_) (fun c_15 => ?_)
      · refine zb_ic h dX3_hasZone_22 ?_
        refine zrz h hr hH (by omega) ?_ dX3_hasZone_23
        exact ⟨_, rfl, by omega, rfl⟩
      · refine zb_ic h dX3_hasZone_18 ?_
        refine lv_goto (tgt := 23) hx hb dX3_hasZone_19 (by decide) ?_
        refine zrz h hr hH (by omega) ?_ dX3_hasZone_23
        exact ⟨_, rfl, by omega, rfl⟩
theorem dX3_spillOnto_0 : decode cX3_spillOnto 0 = .ok (.iload_n 1, 1) := by decide +kernel
theorem dX3_spillOnto_1 : decode cX3_spillOnto 1 = .ok (.ifCond .lt 9, 3) := by decide +kernel
theorem dX3_spillOnto_4 : decode cX3_spillOnto 4 = .ok (.iload_n 1, 1) := by decide +kernel
theorem dX3_spillOnto_5 : decode cX3_spillOnto 5 = .ok (.bipush 8, 2) := by decide +kernel
theorem dX3_spillOnto_7 : decode cX3_spillOnto 7 = .ok (.if_icmp .lt 5, 3) := by decide +kernel
theorem dX3_spillOnto_12 : decode cX3_spillOnto 12 = .ok (.iconst 0, 1) := by decide +kernel
theorem dX3_spillOnto_13 : decode cX3_spillOnto 13 = .ok (.istore_n 2, 1) := by decide +kernel
theorem dX3_spillOnto_14 : decode cX3_spillOnto 14 = .ok (.iconst 0, 1) := by decide +kernel
theorem dX3_spillOnto_15 : decode cX3_spillOnto 15 = .ok (.istore_n 3, 1) := by decide +kernel
theorem dX3_spillOnto_16 : decode cX3_spillOnto 16 = .ok (.iload_n 3, 1) := by decide +kernel
theorem dX3_spillOnto_17 : decode cX3_spillOnto 17 = .ok (.aload_n 0, 1) := by decide +kernel
theorem dX3_spillOnto_18 : decode cX3_spillOnto 18 = .ok (.getfield 37, 3) := by decide +kernel
theorem dX3_spillOnto_21 : decode cX3_spillOnto 21 = .ok (.if_icmp .ge 46, 3) := by decide +kernel
theorem dX3_spillOnto_24 : decode cX3_spillOnto 24 = .ok (.iload_n 3, 1) := by decide +kernel
theorem dX3_spillOnto_25 : decode cX3_spillOnto 25 = .ok (.bipush 8, 2) := by decide +kernel
theorem dX3_spillOnto_27 : decode cX3_spillOnto 27 = .ok (.if_icmp .ge 40, 3) := by decide +kernel
theorem dX3_spillOnto_30 : decode cX3_spillOnto 30 = .ok (.aload_n 0, 1) := by decide +kernel
theorem dX3_spillOnto_31 : decode cX3_spillOnto 31 = .ok (.getfield 31, 3) := by decide +kernel
theorem dX3_spillOnto_34 : decode cX3_spillOnto 34 = .ok (.iload_n 1, 1) := by decide +kernel
theorem dX3_spillOnto_35 : decode cX3_spillOnto 35 = .ok (.iaload, 1) := by decide +kernel
theorem dX3_spillOnto_36 : decode cX3_spillOnto 36 = .ok (.iload_n 3, 1) := by decide +kernel
theorem dX3_spillOnto_37 : decode cX3_spillOnto 37 = .ok (.ishr, 1) := by decide +kernel
theorem dX3_spillOnto_38 : decode cX3_spillOnto 38 = .ok (.iconst 1, 1) := by decide +kernel
theorem dX3_spillOnto_39 : decode cX3_spillOnto 39 = .ok (.iand, 1) := by decide +kernel
theorem dX3_spillOnto_40 : decode cX3_spillOnto 40 = .ok (.iconst 1, 1) := by decide +kernel
theorem dX3_spillOnto_41 : decode cX3_spillOnto 41 = .ok (.if_icmp .ne 20, 3) := by decide +kernel
theorem dX3_spillOnto_44 : decode cX3_spillOnto 44 = .ok (.iload_n 2, 1) := by decide +kernel
theorem dX3_spillOnto_45 : decode cX3_spillOnto 45 = .ok (.aload_n 0, 1) := by decide +kernel
theorem dX3_spillOnto_46 : decode cX3_spillOnto 46 = .ok (.getfield 25, 3) := by decide +kernel
theorem dX3_spillOnto_49 : decode cX3_spillOnto 49 = .ok (.iload_n 3, 1) := by decide +kernel
theorem dX3_spillOnto_50 : decode cX3_spillOnto 50 = .ok (.iaload, 1) := by decide +kernel
theorem dX3_spillOnto_51 : decode cX3_spillOnto 51 = .ok (.aload_n 0, 1) := by decide +kernel
theorem dX3_spillOnto_52 : decode cX3_spillOnto 52 = .ok (.getfield 44, 3) := by decide +kernel
theorem dX3_spillOnto_55 : decode cX3_spillOnto 55 = .ok (.imul, 1) := by decide +kernel
theorem dX3_spillOnto_56 : decode cX3_spillOnto 56 = .ok (.bipush 100, 2) := by decide +kernel
theorem dX3_spillOnto_58 : decode cX3_spillOnto 58 = .ok (.idiv, 1) := by decide +kernel
theorem dX3_spillOnto_59 : decode cX3_spillOnto 59 = .ok (.iadd, 1) := by decide +kernel
theorem dX3_spillOnto_60 : decode cX3_spillOnto 60 = .ok (.istore_n 2, 1) := by decide +kernel
theorem dX3_spillOnto_61 : decode cX3_spillOnto 61 = .ok (.iinc 3 1, 3) := by decide +kernel
theorem dX3_spillOnto_64 : decode cX3_spillOnto 64 = .ok (.goto (-48), 3) := by decide +kernel
theorem dX3_spillOnto_67 : decode cX3_spillOnto 67 = .ok (.iload_n 2, 1) := by decide +kernel
theorem dX3_spillOnto_68 : decode cX3_spillOnto 68 = .ok (.ireturn, 1) := by decide +kernel
def q_X3_spillOnto (k : Nat) (S : zM) (z : Int) : Int32 → zM → Prop := fun r S1 => r = zI (tSp (S k 0) z) ∧ S = S1
def r_X3_spillOnto : Room := { frames := 0, cells := 0, slots := 0, locals := 0 }
set_option maxHeartbeats 4000000 in
set_option maxRecDepth 100000 in
theorem c_X3_spillOnto (l : Launch) (G : zG) (hG : zok G) (k : Nat) (hk : k < 8) (S : zM) (z : Int) (hz : 0 ≤ z ∧ z < 8) (hw : zW (S k 0)) : Met l yX3_spillOnto (Cond.code yX3_spillOnto cX3_spillOnto 4 (some FieldType.int) :: zTbl) r_X3_spillOnto (va_Pc [.ref (za G k 0), .int (zI z)] (zB G S)) (va_Qi (q_X3_spillOnto k S z) (zB G) (zA G)) 0 0 (zA G) := by
  refine zMet [(0, .ref (za G k 0)), (1, .int (zI z))] hG (by decide) (Nat.le_of_ble_eq_true rfl) rfl (fun p e s m args below meth c ls h hx hb hr hH hl => ?_)
  have C16 : ∀ (fu : Nat) (o n : Int) (H : Heap) (locs : List Loc) (ls : Array Slot), (S k 0 4 - o).toNat < fu → (0 ≤ o ∧ o ≤ S k 0 4) → (n = zSp (S k 0) z o.toNat) → zH G S s H locs → lv_has ls 4 [(0, .ref (za G k 0)), (1, .int (zI z)), (2, .int (zI n)), (3, .int (zI o))] → W p l e r_X3_spillOnto s m args below meth c H locs 0 0 (MQ below (va_Qi (q_X3_spillOnto k S z) (zB G) (zA G)) args s 0 0 (zA G)) (F0 m 16 ls []) := by
    intro fu
    induction fu with
    | zero => intro o n H locs ls hfu; omega
    | succ fu ih16 =>
      intro o n H locs ls hfu ho hn hH hl
      have f4 := zW_4 hw
      refine lv_iload_n hx hb dX3_spillOnto_16 rfl (lv_at hl 3 rfl) ?_
      refine lv_aload_n hx hb dX3_spillOnto_17 rfl (lv_at hl 0 rfl) ?_
      refine zg_3_7 h hH hk zf_X3_37 dX3_spillOnto_18 ?_
      have f_18 := zW_4 hw
      refine zb_cge (tgt := 67) h (by omega) (by omega) dX3_spillOnto_21 (by decide) (fun c_21 => ?_) (fun c_21 => ?_)
      · refine lv_iload_n hx hb dX3_spillOnto_67 rfl (lv_at hl 2 rfl) ?_
        refine zri h hr hH ?_ dX3_spillOnto_68
        have eo : o = S k 0 4 := by omega
        subst eo
        exact ⟨by rw [hn]; rfl, rfl⟩
      · refine lv_iload_n hx hb dX3_spillOnto_24 rfl (lv_at hl 3 rfl) ?_
        refine zb_bi h dX3_spillOnto_25 (by decide) (by decide) ?_
        refine zb_cge (tgt := 67) h (by omega) (by omega) dX3_spillOnto_27 (by decide) (fun c_27 => ?_) (fun c_27 => ?_)
        · refine lv_iload_n hx hb dX3_spillOnto_67 rfl (lv_at hl 2 rfl) ?_
          refine zri h hr hH ?_ dX3_spillOnto_68
          have eo : o = S k 0 4 := by omega
          subst eo
          exact ⟨by rw [hn]; rfl, rfl⟩
        · refine lv_aload_n hx hb dX3_spillOnto_30 rfl (lv_at hl 0 rfl) ?_
          refine zg_3_5 h hH hk zf_X3_31 dX3_spillOnto_31 ?_
          refine lv_iload_n hx hb dX3_spillOnto_34 rfl (lv_at hl 1 rfl) ?_
          refine zld_ar_nb h hH hk (by omega) dX3_spillOnto_35 ?_
          have f_35 := zW_nb hw (show 0 ≤ z ∧ z < 8 by omega)
          refine lv_iload_n hx hb dX3_spillOnto_36 rfl (lv_at hl 3 rfl) ?_
          refine zb_ishr h (by omega) (by omega) dX3_spillOnto_37 ?_
          refine zb_ic h dX3_spillOnto_38 ?_
          have b_39 := zdiv_le f_35.1 (zpow_pos o.toNat)
          refine zb_and1 h (by omega) dX3_spillOnto_39 ?_
          refine zb_ic h dX3_spillOnto_40 ?_
          refine zb_cne (tgt := 61) h (by omega) (by omega) dX3_spillOnto_41 (by decide) (fun c_41 => ?_) (fun c_41 => ?_)
          · refine lv_iinc (v := zI (o + 1)) (lv' := [(3, .int (zI (o + 1))), (0, .ref (za G k 0)), (1, .int (zI z)), (2, .int (zI n))]) hx hb dX3_spillOnto_61 hl (k := 3) rfl (zI_add _ _) (by decide) rfl (fun ls hl => ?_)
            refine lv_goto (tgt := 16) hx hb dX3_spillOnto_64 (by decide) ?_
            exact ih16 (o + 1) n _ _ _ (by omega) (by have := zW_4 hw; omega) (by rw [hn, zSp_s _ _ ho.1]; first | rw [if_pos (by omega)] | (rw [if_neg (by omega)]; omega)) hH (lv_sub hl [1, 2, 3, 0] rfl)
          · refine lv_iload_n hx hb dX3_spillOnto_44 rfl (lv_at hl 2 rfl) ?_
            refine lv_aload_n hx hb dX3_spillOnto_45 rfl (lv_at hl 0 rfl) ?_
            refine zg_3_3 h hH hk zf_X3_25 dX3_spillOnto_46 ?_
            refine lv_iload_n hx hb dX3_spillOnto_49 rfl (lv_at hl 3 rfl) ?_
            refine zld_ar_bu h hH hk (by omega) dX3_spillOnto_50 ?_
            have f_50 := zW_bu hw (show 0 ≤ o ∧ o < 8 by omega)
            refine lv_aload_n hx hb dX3_spillOnto_51 rfl (lv_at hl 0 rfl) ?_
            refine zg_3_9 h hH hk zf_X3_44 dX3_spillOnto_52 ?_
            have f_52 := zW_3 hw
            have b_55 : S k 0 (5 + 5 * o + 2) * S k 0 3 ≤ 999 * 50 := Int.mul_le_mul f_50.2 f_52.2 f_52.1 (by omega)
            have b_55b : 0 ≤ S k 0 (5 + 5 * o + 2) * S k 0 3 := Int.mul_nonneg f_50.1 f_52.1
            refine zb_imul h dX3_spillOnto_55 ?_
            refine zb_bi h dX3_spillOnto_56 (by decide) (by decide) ?_
            refine zb_idiv h (by omega) (by omega) dX3_spillOnto_58 ?_
            refine zb_iadd h dX3_spillOnto_59 ?_
            refine lv_istore_n (lv' := [(2, .int (zI (n + (((S k 0 (5 + 5 * o + 2)) * (S k 0 3)) / 100)))), (0, .ref (za G k 0)), (1, .int (zI z)), (3, .int (zI o))]) hx hb dX3_spillOnto_60 rfl hl (by decide) rfl (fun ls hl => ?_)
            refine lv_iinc (v := zI (o + 1)) (lv' := [(3, .int (zI (o + 1))), (2, .int (zI (n + (((S k 0 (5 + 5 * o + 2)) * (S k 0 3)) / 100)))), (0, .ref (za G k 0)), (1, .int (zI z))]) hx hb dX3_spillOnto_61 hl (k := 3) rfl (zI_add _ _) (by decide) rfl (fun ls hl => ?_)
            refine lv_goto (tgt := 16) hx hb dX3_spillOnto_64 (by decide) ?_
            exact ih16 (o + 1) (n + (((S k 0 (5 + 5 * o + 2)) * (S k 0 3)) / 100)) _ _ _ (by omega) (by have := zW_4 hw; omega) (by rw [hn, zSp_s _ _ ho.1]; first | rw [if_pos (by omega)] | (rw [if_neg (by omega)]; omega)) hH (lv_sub hl [2, 3, 1, 0] rfl)
  refine lv_iload_n hx hb dX3_spillOnto_0 rfl (lv_at hl 1 rfl) ?_
  refine zb_ilt (tgt := 10) h (by omega) dX3_spillOnto_1 (by decide) (fun c_1 => ?_) (fun c_1 => ?_)
  · exact absurd c_1 (by omega)
  · refine lv_iload_n hx hb dX3_spillOnto_4 rfl (lv_at hl 1 rfl) ?_
    refine zb_bi h dX3_spillOnto_5 (by decide) (by decide) ?_
    refine zb_clt (tgt := 12) h (by omega) (by omega) dX3_spillOnto_7 (by decide) (fun c_7 => ?_) (fun c_7 => ?_)
    · refine zb_ic h dX3_spillOnto_12 ?_
      refine lv_istore_n (lv' := [(2, .int (zI 0)), (0, .ref (za G k 0)), (1, .int (zI z))]) hx hb dX3_spillOnto_13 rfl hl (by decide) rfl (fun ls hl => ?_)
      refine zb_ic h dX3_spillOnto_14 ?_
      refine lv_istore_n (lv' := [(3, .int (zI 0)), (2, .int (zI 0)), (0, .ref (za G k 0)), (1, .int (zI z))]) hx hb dX3_spillOnto_15 rfl hl (by decide) rfl (fun ls hl => ?_)
      exact C16 ((S k 0 4 - 0 : Int).toNat + 1) 0 0 _ _ _ (by omega) (by have := zW_4 hw; omega) rfl hH (lv_sub hl [2, 3, 1, 0] rfl)
    · exact absurd c_7 (by omega)
theorem dX3_timeOf_0 : decode cX3_timeOf 0 = .ok (.iload_n 1, 1) := by decide +kernel
theorem dX3_timeOf_1 : decode cX3_timeOf 1 = .ok (.ifCond .lt 9, 3) := by decide +kernel
theorem dX3_timeOf_4 : decode cX3_timeOf 4 = .ok (.iload_n 1, 1) := by decide +kernel
theorem dX3_timeOf_5 : decode cX3_timeOf 5 = .ok (.bipush 8, 2) := by decide +kernel
theorem dX3_timeOf_7 : decode cX3_timeOf 7 = .ok (.if_icmp .lt 5, 3) := by decide +kernel
theorem dX3_timeOf_12 : decode cX3_timeOf 12 = .ok (.aload_n 0, 1) := by decide +kernel
theorem dX3_timeOf_13 : decode cX3_timeOf 13 = .ok (.getfield 41, 3) := by decide +kernel
theorem dX3_timeOf_16 : decode cX3_timeOf 16 = .ok (.aload_n 0, 1) := by decide +kernel
theorem dX3_timeOf_17 : decode cX3_timeOf 17 = .ok (.getfield 28, 3) := by decide +kernel
theorem dX3_timeOf_20 : decode cX3_timeOf 20 = .ok (.iload_n 1, 1) := by decide +kernel
theorem dX3_timeOf_21 : decode cX3_timeOf 21 = .ok (.iaload, 1) := by decide +kernel
theorem dX3_timeOf_22 : decode cX3_timeOf 22 = .ok (.isub, 1) := by decide +kernel
theorem dX3_timeOf_23 : decode cX3_timeOf 23 = .ok (.aload_n 0, 1) := by decide +kernel
theorem dX3_timeOf_24 : decode cX3_timeOf 24 = .ok (.getfield 41, 3) := by decide +kernel
theorem dX3_timeOf_27 : decode cX3_timeOf 27 = .ok (.iconst 2, 1) := by decide +kernel
theorem dX3_timeOf_28 : decode cX3_timeOf 28 = .ok (.idiv, 1) := by decide +kernel
theorem dX3_timeOf_29 : decode cX3_timeOf 29 = .ok (.invokestatic 81, 3) := by decide +kernel
theorem dX3_timeOf_32 : decode cX3_timeOf 32 = .ok (.aload_n 0, 1) := by decide +kernel
theorem dX3_timeOf_33 : decode cX3_timeOf 33 = .ok (.getfield 25, 3) := by decide +kernel
theorem dX3_timeOf_36 : decode cX3_timeOf 36 = .ok (.iload_n 1, 1) := by decide +kernel
theorem dX3_timeOf_37 : decode cX3_timeOf 37 = .ok (.iaload, 1) := by decide +kernel
theorem dX3_timeOf_38 : decode cX3_timeOf 38 = .ok (.iadd, 1) := by decide +kernel
theorem dX3_timeOf_39 : decode cX3_timeOf 39 = .ok (.aload_n 0, 1) := by decide +kernel
theorem dX3_timeOf_40 : decode cX3_timeOf 40 = .ok (.iload_n 1, 1) := by decide +kernel
theorem dX3_timeOf_41 : decode cX3_timeOf 41 = .ok (.invokevirtual 78, 3) := by decide +kernel
theorem dX3_timeOf_44 : decode cX3_timeOf 44 = .ok (.iadd, 1) := by decide +kernel
theorem dX3_timeOf_45 : decode cX3_timeOf 45 = .ok (.ireturn, 1) := by decide +kernel
def q_X3_timeOf (k : Nat) (S : zM) (z : Int) : Int32 → zM → Prop := fun r S1 => r = zI (tTm (S k 0) z) ∧ S = S1
def r_X3_timeOf : Room := { frames := 1, cells := 0, slots := 0, locals := 23 }
set_option maxHeartbeats 4000000 in
set_option maxRecDepth 100000 in
theorem c_X3_timeOf (l : Launch) (G : zG) (hG : zok G) (k : Nat) (hk : k < 8) (S : zM) (z : Int) (hz : 0 ≤ z ∧ z < 8) (hw : zW (S k 0)) : Met l yX3_timeOf (Cond.code yX3_timeOf cX3_timeOf 2 (some FieldType.int) :: zTbl) r_X3_timeOf (va_Pc [.ref (za G k 0), .int (zI z)] (zB G S)) (va_Qi (q_X3_timeOf k S z) (zB G) (zA G)) 0 0 (zA G) := by
  refine zMet [(0, .ref (za G k 0)), (1, .int (zI z))] hG (by decide) (Nat.le_of_ble_eq_true rfl) rfl (fun p e s m args below meth c ls h hx hb hr hH hl => ?_)
  refine lv_iload_n hx hb dX3_timeOf_0 rfl (lv_at hl 1 rfl) ?_
  refine zb_ilt (tgt := 10) h (by omega) dX3_timeOf_1 (by decide) (fun c_1 => ?_) (fun c_1 => ?_)
  · exact absurd c_1 (by omega)
  · refine lv_iload_n hx hb dX3_timeOf_4 rfl (lv_at hl 1 rfl) ?_
    refine zb_bi h dX3_timeOf_5 (by decide) (by decide) ?_
    refine zb_clt (tgt := 12) h (by omega) (by omega) dX3_timeOf_7 (by decide) (fun c_7 => ?_) (fun c_7 => ?_)
    · refine lv_aload_n hx hb dX3_timeOf_12 rfl (lv_at hl 0 rfl) ?_
      refine zg_3_8 h hH hk zf_X3_41 dX3_timeOf_13 ?_
      have f_13 := zW_0 hw
      refine lv_aload_n hx hb dX3_timeOf_16 rfl (lv_at hl 0 rfl) ?_
      refine zg_3_4 h hH hk zf_X3_28 dX3_timeOf_17 ?_
      refine lv_iload_n hx hb dX3_timeOf_20 rfl (lv_at hl 1 rfl) ?_
      refine zld_ar_ho h hH hk (by omega) dX3_timeOf_21 ?_
      have f_21 := zW_ho hw (show 0 ≤ z ∧ z < 8 by omega)
      refine zb_isub h dX3_timeOf_22 ?_
      refine lv_aload_n hx hb dX3_timeOf_23 rfl (lv_at hl 0 rfl) ?_
      refine zg_3_8 h hH hk zf_X3_41 dX3_timeOf_24 ?_
      have f_24 := zW_0 hw
      refine zb_ic h dX3_timeOf_27 ?_
      refine zb_idiv h (by omega) (by omega) dX3_timeOf_28 ?_
      refine zmaxI h hl.1 zm_X3_81 (Nat.le_of_ble_eq_true rfl) (Nat.le_of_ble_eq_true rfl) ⟨Nat.zero_le _, Nat.zero_le _⟩ (by omega) (by omega) (Nat.le_of_ble_eq_true rfl) dX3_timeOf_29 ?_
      refine lv_aload_n hx hb dX3_timeOf_32 rfl (lv_at hl 0 rfl) ?_
      refine zg_3_3 h hH hk zf_X3_25 dX3_timeOf_33 ?_
      refine lv_iload_n hx hb dX3_timeOf_36 rfl (lv_at hl 1 rfl) ?_
      refine zld_ar_bu h hH hk (by omega) dX3_timeOf_37 ?_
      have f_37 := zW_bu hw (show 0 ≤ z ∧ z < 8 by omega)
      refine zb_iadd h dX3_timeOf_38 ?_
      refine lv_aload_n hx hb dX3_timeOf_39 rfl (lv_at hl 0 rfl) ?_
      refine lv_iload_n hx hb dX3_timeOf_40 rfl (lv_at hl 1 rfl) ?_
      refine zcVi h hH (zr_3 h hH hk) (As := [.int (zI z)]) (rest := [.int (zI ((max ((S k 0 0) - (S k 0 (5 + 5 * z + 3))) ((S k 0 0) / 2)) + (S k 0 (5 + 5 * z + 2))))]) (c_X3_spillOnto l G hG k hk S z (by omega) hw) zce_X3_spillOnto zcv_X3_spillOnto zm_X3_78 hl.1 rfl rfl ⟨rfl, rfl⟩ ⟨Nat.le_of_ble_eq_true rfl, Nat.le_of_ble_eq_true rfl⟩ (Nat.le_of_ble_eq_true rfl) ⟨Nat.zero_le _, Nat.zero_le _⟩ dX3_timeOf_41 (fun r_41 S_41 H locs hq hH => ?_)
      obtain ⟨rfl, rfl⟩ := hq
      refine zb_iadd h dX3_timeOf_44 ?_
      refine zri h hr hH ?_ dX3_timeOf_45
      exact ⟨rfl, rfl⟩
    · exact absurd c_7 (by omega)
theorem dX3_toneAfter_0 : decode cX3_toneAfter 0 = .ok (.iload_n 1, 1) := by decide +kernel
theorem dX3_toneAfter_1 : decode cX3_toneAfter 1 = .ok (.ifCond .lt 9, 3) := by decide +kernel
theorem dX3_toneAfter_4 : decode cX3_toneAfter 4 = .ok (.iload_n 1, 1) := by decide +kernel
theorem dX3_toneAfter_5 : decode cX3_toneAfter 5 = .ok (.bipush 8, 2) := by decide +kernel
theorem dX3_toneAfter_7 : decode cX3_toneAfter 7 = .ok (.if_icmp .lt 5, 3) := by decide +kernel
theorem dX3_toneAfter_12 : decode cX3_toneAfter 12 = .ok (.aload_n 0, 1) := by decide +kernel
theorem dX3_toneAfter_13 : decode cX3_toneAfter 13 = .ok (.getfield 12, 3) := by decide +kernel
theorem dX3_toneAfter_16 : decode cX3_toneAfter 16 = .ok (.aload_n 0, 1) := by decide +kernel
theorem dX3_toneAfter_17 : decode cX3_toneAfter 17 = .ok (.getfield 18, 3) := by decide +kernel
theorem dX3_toneAfter_20 : decode cX3_toneAfter 20 = .ok (.iload_n 1, 1) := by decide +kernel
theorem dX3_toneAfter_21 : decode cX3_toneAfter 21 = .ok (.iaload, 1) := by decide +kernel
theorem dX3_toneAfter_22 : decode cX3_toneAfter 22 = .ok (.iload_n 2, 1) := by decide +kernel
theorem dX3_toneAfter_23 : decode cX3_toneAfter 23 = .ok (.invokestatic 65, 3) := by decide +kernel
theorem dX3_toneAfter_26 : decode cX3_toneAfter 26 = .ok (.invokevirtual 89, 3) := by decide +kernel
theorem dX3_toneAfter_29 : decode cX3_toneAfter 29 = .ok (.ireturn, 1) := by decide +kernel
def q_X3_toneAfter (k : Nat) (S : zM) (z t : Int) : Int32 → zM → Prop := fun r S1 => r = zI (tAt (S k 0) z t) ∧ S = S1
def r_X3_toneAfter : Room := { frames := 1, cells := 0, slots := 0, locals := 24 }
set_option maxHeartbeats 4000000 in
set_option maxRecDepth 100000 in
theorem c_X3_toneAfter (l : Launch) (G : zG) (hG : zok G) (k : Nat) (hk : k < 8) (S : zM) (z t : Int) (hz : 0 ≤ z ∧ z < 8) (ht : 0 ≤ t ∧ t ≤ 100000) (hms : zMs S k) (hw : zW (S k 0))  : Met l yX3_toneAfter (Cond.code yX3_toneAfter cX3_toneAfter 3 (some FieldType.int) :: zTbl) r_X3_toneAfter (va_Pc [.ref (za G k 0), .int (zI z), .int (zI t)] (zB G S)) (va_Qi (q_X3_toneAfter k S z t) (zB G) (zA G)) 0 0 (zA G) := by
  refine zMet [(0, .ref (za G k 0)), (1, .int (zI z)), (2, .int (zI t))] hG (by decide) (Nat.le_of_ble_eq_true rfl) rfl (fun p e s m args below meth c ls h hx hb hr hH hl => ?_)
  refine lv_iload_n hx hb dX3_toneAfter_0 rfl (lv_at hl 1 rfl) ?_
  refine zb_ilt (tgt := 10) h (by omega) dX3_toneAfter_1 (by decide) (fun c_1 => ?_) (fun c_1 => ?_)
  · exact absurd c_1 (by omega)
  · refine lv_iload_n hx hb dX3_toneAfter_4 rfl (lv_at hl 1 rfl) ?_
    refine zb_bi h dX3_toneAfter_5 (by decide) (by decide) ?_
    refine zb_clt (tgt := 12) h (by omega) (by omega) dX3_toneAfter_7 (by decide) (fun c_7 => ?_) (fun c_7 => ?_)
    · refine lv_aload_n hx hb dX3_toneAfter_12 rfl (lv_at hl 0 rfl) ?_
      refine zg_3_0 h hH hk zf_X3_12 dX3_toneAfter_13 ?_
      refine lv_aload_n hx hb dX3_toneAfter_16 rfl (lv_at hl 0 rfl) ?_
      refine zg_3_1 h hH hk zf_X3_18 dX3_toneAfter_17 ?_
      refine lv_iload_n hx hb dX3_toneAfter_20 rfl (lv_at hl 1 rfl) ?_
      refine zld_ar_de h hH hk (by omega) dX3_toneAfter_21 ?_
      have f_21 := zW_de hw (show 0 ≤ z ∧ z < 8 by omega)
      refine lv_iload_n hx hb dX3_toneAfter_22 rfl (lv_at hl 2 rfl) ?_
      refine zcSi h hH (As := [.int (zI (S k 0 (5 + 5 * z))), .int (zI t)]) (rest := [.ref (za G k 1)]) (c_X2_lightThrough l G hG S (S k 0 (5 + 5 * z)) t (by omega) (by omega)) zce_X2_lightThrough zt_X2_lightThrough zm_X3_65 hl.1 rfl rfl ⟨rfl, rfl⟩ ⟨Nat.le_of_ble_eq_true rfl, Nat.le_of_ble_eq_true rfl⟩ (Nat.le_of_ble_eq_true rfl) ⟨Nat.zero_le _, Nat.zero_le _⟩ dX3_toneAfter_23 (fun r_23 S_23 H locs hq hH => ?_)
      obtain ⟨rfl, rfl⟩ := hq
      have b_26 := zLt_in (d := S k 0 (5 + 5 * z)) ht
      refine zcVi h hH (zr_2 h hH hk) (As := [.int (zI (zLt (S k 0 (5 + 5 * z)) t))]) (rest := []) (c_X2_toneOf l G hG k hk S (zLt (S k 0 (5 + 5 * z)) t) (by omega) hms hw) zce_X2_toneOf zcv_X2_toneOf zm_X3_89 hl.1 rfl rfl ⟨rfl, rfl⟩ ⟨Nat.le_of_ble_eq_true rfl, Nat.le_of_ble_eq_true rfl⟩ (Nat.le_of_ble_eq_true rfl) ⟨Nat.zero_le _, Nat.zero_le _⟩ dX3_toneAfter_26 (fun r_26 S_26 H locs hq hH => ?_)
      obtain ⟨rfl, rfl⟩ := hq
      refine zri h hr hH ?_ dX3_toneAfter_29
      exact ⟨rfl, rfl⟩
    · exact absurd c_7 (by omega)
theorem dX3_toneOf_0 : decode cX3_toneOf 0 = .ok (.iload_n 1, 1) := by decide +kernel
theorem dX3_toneOf_1 : decode cX3_toneOf 1 = .ok (.ifCond .lt 9, 3) := by decide +kernel
theorem dX3_toneOf_4 : decode cX3_toneOf 4 = .ok (.iload_n 1, 1) := by decide +kernel
theorem dX3_toneOf_5 : decode cX3_toneOf 5 = .ok (.bipush 8, 2) := by decide +kernel
theorem dX3_toneOf_7 : decode cX3_toneOf 7 = .ok (.if_icmp .lt 5, 3) := by decide +kernel
theorem dX3_toneOf_12 : decode cX3_toneOf 12 = .ok (.aload_n 0, 1) := by decide +kernel
theorem dX3_toneOf_13 : decode cX3_toneOf 13 = .ok (.iload_n 1, 1) := by decide +kernel
theorem dX3_toneOf_14 : decode cX3_toneOf 14 = .ok (.aload_n 0, 1) := by decide +kernel
theorem dX3_toneOf_15 : decode cX3_toneOf 15 = .ok (.iload_n 1, 1) := by decide +kernel
theorem dX3_toneOf_16 : decode cX3_toneOf 16 = .ok (.invokevirtual 61, 3) := by decide +kernel
theorem dX3_toneOf_19 : decode cX3_toneOf 19 = .ok (.invokevirtual 86, 3) := by decide +kernel
theorem dX3_toneOf_22 : decode cX3_toneOf 22 = .ok (.ireturn, 1) := by decide +kernel
def q_X3_toneOf (k : Nat) (S : zM) (z : Int) : Int32 → zM → Prop := fun r S1 => r = zI (tTo (S k 0) z) ∧ S = S1
def r_X3_toneOf : Room := { frames := 2, cells := 0, slots := 0, locals := 46 }
set_option maxHeartbeats 4000000 in
set_option maxRecDepth 100000 in
theorem c_X3_toneOf (l : Launch) (G : zG) (hG : zok G) (k : Nat) (hk : k < 8) (S : zM) (z : Int) (hz : 0 ≤ z ∧ z < 8) (hms : zMs S k) (hw : zW (S k 0))  : Met l yX3_toneOf (Cond.code yX3_toneOf cX3_toneOf 2 (some FieldType.int) :: zTbl) r_X3_toneOf (va_Pc [.ref (za G k 0), .int (zI z)] (zB G S)) (va_Qi (q_X3_toneOf k S z) (zB G) (zA G)) 0 0 (zA G) := by
  refine zMet [(0, .ref (za G k 0)), (1, .int (zI z))] hG (by decide) (Nat.le_of_ble_eq_true rfl) rfl (fun p e s m args below meth c ls h hx hb hr hH hl => ?_)
  refine lv_iload_n hx hb dX3_toneOf_0 rfl (lv_at hl 1 rfl) ?_
  refine zb_ilt (tgt := 10) h (by omega) dX3_toneOf_1 (by decide) (fun c_1 => ?_) (fun c_1 => ?_)
  · exact absurd c_1 (by omega)
  · refine lv_iload_n hx hb dX3_toneOf_4 rfl (lv_at hl 1 rfl) ?_
    refine zb_bi h dX3_toneOf_5 (by decide) (by decide) ?_
    refine zb_clt (tgt := 12) h (by omega) (by omega) dX3_toneOf_7 (by decide) (fun c_7 => ?_) (fun c_7 => ?_)
    · refine lv_aload_n hx hb dX3_toneOf_12 rfl (lv_at hl 0 rfl) ?_
      refine lv_iload_n hx hb dX3_toneOf_13 rfl (lv_at hl 1 rfl) ?_
      refine lv_aload_n hx hb dX3_toneOf_14 rfl (lv_at hl 0 rfl) ?_
      refine lv_iload_n hx hb dX3_toneOf_15 rfl (lv_at hl 1 rfl) ?_
      refine zcVi h hH (zr_3 h hH hk) (As := [.int (zI z)]) (rest := [.int (zI z), .ref (za G k 0)]) (c_X3_timeOf l G hG k hk S z (by omega) hw) zce_X3_timeOf zcv_X3_timeOf zm_X3_61 hl.1 rfl rfl ⟨rfl, rfl⟩ ⟨Nat.le_of_ble_eq_true rfl, Nat.le_of_ble_eq_true rfl⟩ (Nat.le_of_ble_eq_true rfl) ⟨Nat.zero_le _, Nat.zero_le _⟩ dX3_toneOf_16 (fun r_16 S_16 H locs hq hH => ?_)
      obtain ⟨rfl, rfl⟩ := hq
      have b_19 := tTm_in hw hz
      refine zcVi h hH (zr_3 h hH hk) (As := [.int (zI z), .int (zI (tTm (S k 0) z))]) (rest := []) (c_X3_toneAfter l G hG k hk S z (tTm (S k 0) z) (by omega) (by omega) hms hw) zce_X3_toneAfter zcv_X3_toneAfter zm_X3_86 hl.1 rfl rfl ⟨rfl, rfl⟩ ⟨Nat.le_of_ble_eq_true rfl, Nat.le_of_ble_eq_true rfl⟩ (Nat.le_of_ble_eq_true rfl) ⟨Nat.zero_le _, Nat.zero_le _⟩ dX3_toneOf_19 (fun r_19 S_19 H locs hq hH => ?_)
      obtain ⟨rfl, rfl⟩ := hq
      refine zri h hr hH ?_ dX3_toneOf_22
      exact ⟨rfl, rfl⟩
    · exact absurd c_7 (by omega)
theorem dX3_tooDarkBy_0 : decode cX3_tooDarkBy 0 = .ok (.iload_n 1, 1) := by decide +kernel
theorem dX3_tooDarkBy_1 : decode cX3_tooDarkBy 1 = .ok (.ifCond .lt 9, 3) := by decide +kernel
theorem dX3_tooDarkBy_4 : decode cX3_tooDarkBy 4 = .ok (.iload_n 1, 1) := by decide +kernel
theorem dX3_tooDarkBy_5 : decode cX3_tooDarkBy 5 = .ok (.bipush 8, 2) := by decide +kernel
theorem dX3_tooDarkBy_7 : decode cX3_tooDarkBy 7 = .ok (.if_icmp .lt 5, 3) := by decide +kernel
theorem dX3_tooDarkBy_12 : decode cX3_tooDarkBy 12 = .ok (.aload_n 0, 1) := by decide +kernel
theorem dX3_tooDarkBy_13 : decode cX3_tooDarkBy 13 = .ok (.iload_n 1, 1) := by decide +kernel
theorem dX3_tooDarkBy_14 : decode cX3_tooDarkBy 14 = .ok (.aload_n 0, 1) := by decide +kernel
theorem dX3_tooDarkBy_15 : decode cX3_tooDarkBy 15 = .ok (.iload_n 1, 1) := by decide +kernel
theorem dX3_tooDarkBy_16 : decode cX3_tooDarkBy 16 = .ok (.invokevirtual 61, 3) := by decide +kernel
theorem dX3_tooDarkBy_19 : decode cX3_tooDarkBy 19 = .ok (.invokevirtual 86, 3) := by decide +kernel
theorem dX3_tooDarkBy_22 : decode cX3_tooDarkBy 22 = .ok (.aload_n 0, 1) := by decide +kernel
theorem dX3_tooDarkBy_23 : decode cX3_tooDarkBy 23 = .ok (.getfield 22, 3) := by decide +kernel
theorem dX3_tooDarkBy_26 : decode cX3_tooDarkBy 26 = .ok (.iload_n 1, 1) := by decide +kernel
theorem dX3_tooDarkBy_27 : decode cX3_tooDarkBy 27 = .ok (.iaload, 1) := by decide +kernel
theorem dX3_tooDarkBy_28 : decode cX3_tooDarkBy 28 = .ok (.isub, 1) := by decide +kernel
theorem dX3_tooDarkBy_29 : decode cX3_tooDarkBy 29 = .ok (.ireturn, 1) := by decide +kernel
def q_X3_tooDarkBy (k : Nat) (S : zM) (z : Int) : Int32 → zM → Prop := fun r S1 => r = zI (tOff (S k 0) z) ∧ S = S1
def r_X3_tooDarkBy : Room := { frames := 2, cells := 0, slots := 0, locals := 46 }
set_option maxHeartbeats 4000000 in
set_option maxRecDepth 100000 in
theorem c_X3_tooDarkBy (l : Launch) (G : zG) (hG : zok G) (k : Nat) (hk : k < 8) (S : zM) (z : Int) (hz : 0 ≤ z ∧ z < 8) (hms : zMs S k) (hw : zW (S k 0))  : Met l yX3_tooDarkBy (Cond.code yX3_tooDarkBy cX3_tooDarkBy 2 (some FieldType.int) :: zTbl) r_X3_tooDarkBy (va_Pc [.ref (za G k 0), .int (zI z)] (zB G S)) (va_Qi (q_X3_tooDarkBy k S z) (zB G) (zA G)) 0 0 (zA G) := by
  refine zMet [(0, .ref (za G k 0)), (1, .int (zI z))] hG (by decide) (Nat.le_of_ble_eq_true rfl) rfl (fun p e s m args below meth c ls h hx hb hr hH hl => ?_)
  refine lv_iload_n hx hb dX3_tooDarkBy_0 rfl (lv_at hl 1 rfl) ?_
  refine zb_ilt (tgt := 10) h (by omega) dX3_tooDarkBy_1 (by decide) (fun c_1 => ?_) (fun c_1 => ?_)
  · exact absurd c_1 (by omega)
  · refine lv_iload_n hx hb dX3_tooDarkBy_4 rfl (lv_at hl 1 rfl) ?_
    refine zb_bi h dX3_tooDarkBy_5 (by decide) (by decide) ?_
    refine zb_clt (tgt := 12) h (by omega) (by omega) dX3_tooDarkBy_7 (by decide) (fun c_7 => ?_) (fun c_7 => ?_)
    · refine lv_aload_n hx hb dX3_tooDarkBy_12 rfl (lv_at hl 0 rfl) ?_
      refine lv_iload_n hx hb dX3_tooDarkBy_13 rfl (lv_at hl 1 rfl) ?_
      refine lv_aload_n hx hb dX3_tooDarkBy_14 rfl (lv_at hl 0 rfl) ?_
      refine lv_iload_n hx hb dX3_tooDarkBy_15 rfl (lv_at hl 1 rfl) ?_
      refine zcVi h hH (zr_3 h hH hk) (As := [.int (zI z)]) (rest := [.int (zI z), .ref (za G k 0)]) (c_X3_timeOf l G hG k hk S z (by omega) hw) zce_X3_timeOf zcv_X3_timeOf zm_X3_61 hl.1 rfl rfl ⟨rfl, rfl⟩ ⟨Nat.le_of_ble_eq_true rfl, Nat.le_of_ble_eq_true rfl⟩ (Nat.le_of_ble_eq_true rfl) ⟨Nat.zero_le _, Nat.zero_le _⟩ dX3_tooDarkBy_16 (fun r_16 S_16 H locs hq hH => ?_)
      obtain ⟨rfl, rfl⟩ := hq
      have b_19 := tTm_in hw hz
      refine zcVi h hH (zr_3 h hH hk) (As := [.int (zI z), .int (zI (tTm (S k 0) z))]) (rest := []) (c_X3_toneAfter l G hG k hk S z (tTm (S k 0) z) (by omega) (by omega) hms hw) zce_X3_toneAfter zcv_X3_toneAfter zm_X3_86 hl.1 rfl rfl ⟨rfl, rfl⟩ ⟨Nat.le_of_ble_eq_true rfl, Nat.le_of_ble_eq_true rfl⟩ (Nat.le_of_ble_eq_true rfl) ⟨Nat.zero_le _, Nat.zero_le _⟩ dX3_tooDarkBy_19 (fun r_19 S_19 H locs hq hH => ?_)
      obtain ⟨rfl, rfl⟩ := hq
      refine lv_aload_n hx hb dX3_tooDarkBy_22 rfl (lv_at hl 0 rfl) ?_
      refine zg_3_2 h hH hk zf_X3_22 dX3_tooDarkBy_23 ?_
      refine lv_iload_n hx hb dX3_tooDarkBy_26 rfl (lv_at hl 1 rfl) ?_
      refine zld_ar_wa h hH hk (by omega) dX3_tooDarkBy_27 ?_
      have f_27 := zW_wa hw (show 0 ≤ z ∧ z < 8 by omega)
      refine zb_isub h dX3_tooDarkBy_28 ?_
      refine zri h hr hH ?_ dX3_tooDarkBy_29
      exact ⟨rfl, rfl⟩
    · exact absurd c_7 (by omega)
theorem dX3_zonesOff_0 : decode cX3_zonesOff 0 = .ok (.iconst 0, 1) := by decide +kernel
theorem dX3_zonesOff_1 : decode cX3_zonesOff 1 = .ok (.istore_n 2, 1) := by decide +kernel
theorem dX3_zonesOff_2 : decode cX3_zonesOff 2 = .ok (.iconst 0, 1) := by decide +kernel
theorem dX3_zonesOff_3 : decode cX3_zonesOff 3 = .ok (.istore_n 3, 1) := by decide +kernel
theorem dX3_zonesOff_4 : decode cX3_zonesOff 4 = .ok (.iload_n 3, 1) := by decide +kernel
theorem dX3_zonesOff_5 : decode cX3_zonesOff 5 = .ok (.aload_n 0, 1) := by decide +kernel
theorem dX3_zonesOff_6 : decode cX3_zonesOff 6 = .ok (.getfield 37, 3) := by decide +kernel
theorem dX3_zonesOff_9 : decode cX3_zonesOff 9 = .ok (.if_icmp .ge 25, 3) := by decide +kernel
theorem dX3_zonesOff_12 : decode cX3_zonesOff 12 = .ok (.aload_n 0, 1) := by decide +kernel
theorem dX3_zonesOff_13 : decode cX3_zonesOff 13 = .ok (.iload_n 3, 1) := by decide +kernel
theorem dX3_zonesOff_14 : decode cX3_zonesOff 14 = .ok (.invokevirtual 90, 3) := by decide +kernel
theorem dX3_zonesOff_17 : decode cX3_zonesOff 17 = .ok (.iconst 0, 1) := by decide +kernel
theorem dX3_zonesOff_18 : decode cX3_zonesOff 18 = .ok (.invokestatic 93, 3) := by decide +kernel
theorem dX3_zonesOff_21 : decode cX3_zonesOff 21 = .ok (.iload_n 1, 1) := by decide +kernel
theorem dX3_zonesOff_22 : decode cX3_zonesOff 22 = .ok (.if_icmp .ne 6, 3) := by decide +kernel
theorem dX3_zonesOff_25 : decode cX3_zonesOff 25 = .ok (.iinc 2 1, 3) := by decide +kernel
theorem dX3_zonesOff_28 : decode cX3_zonesOff 28 = .ok (.iinc 3 1, 3) := by decide +kernel
theorem dX3_zonesOff_31 : decode cX3_zonesOff 31 = .ok (.goto (-27), 3) := by decide +kernel
theorem dX3_zonesOff_34 : decode cX3_zonesOff 34 = .ok (.iload_n 2, 1) := by decide +kernel
theorem dX3_zonesOff_35 : decode cX3_zonesOff 35 = .ok (.ireturn, 1) := by decide +kernel
def q_X3_zonesOff (k : Nat) (S : zM) (side : Int) : Int32 → zM → Prop := fun r S1 => r = zI (tCnt (S k 0) side) ∧ S = S1
def r_X3_zonesOff : Room := { frames := 3, cells := 0, slots := 0, locals := 67 }
set_option maxHeartbeats 4000000 in
set_option maxRecDepth 100000 in
theorem c_X3_zonesOff (l : Launch) (G : zG) (hG : zok G) (k : Nat) (hk : k < 8) (S : zM) (side : Int) (hsd : -1 ≤ side ∧ side ≤ 1) (hms : zMs S k) (hw : zW (S k 0))  : Met l yX3_zonesOff (Cond.code yX3_zonesOff cX3_zonesOff 4 (some FieldType.int) :: zTbl) r_X3_zonesOff (va_Pc [.ref (za G k 0), .int (zI side)] (zB G S)) (va_Qi (q_X3_zonesOff k S side) (zB G) (zA G)) 0 0 (zA G) := by
  refine zMet [(0, .ref (za G k 0)), (1, .int (zI side))] hG (by decide) (Nat.le_of_ble_eq_true rfl) rfl (fun p e s m args below meth c ls h hx hb hr hH hl => ?_)
  have C4 : ∀ (fu : Nat) (o n : Int) (H : Heap) (locs : List Loc) (ls : Array Slot), (S k 0 4 - o).toNat < fu → (0 ≤ o ∧ o ≤ S k 0 4) → (n = zsum (fun z => if zsg (tOff (S k 0) z) = side then 1 else 0) o.toNat) → zH G S s H locs → lv_has ls 4 [(0, .ref (za G k 0)), (1, .int (zI side)), (2, .int (zI n)), (3, .int (zI o))] → W p l e r_X3_zonesOff s m args below meth c H locs 0 0 (MQ below (va_Qi (q_X3_zonesOff k S side) (zB G) (zA G)) args s 0 0 (zA G)) (F0 m 4 ls []) := by
    intro fu
    induction fu with
    | zero => intro o n H locs ls hfu; omega
    | succ fu ih4 =>
      intro o n H locs ls hfu ho hn hH hl
      have f4 := zW_4 hw
      refine lv_iload_n hx hb dX3_zonesOff_4 rfl (lv_at hl 3 rfl) ?_
      refine lv_aload_n hx hb dX3_zonesOff_5 rfl (lv_at hl 0 rfl) ?_
      refine zg_3_7 h hH hk zf_X3_37 dX3_zonesOff_6 ?_
      have f_6 := zW_4 hw
      refine zb_cge (tgt := 34) h (by omega) (by omega) dX3_zonesOff_9 (by decide) (fun c_9 => ?_) (fun c_9 => ?_)
      · refine lv_iload_n hx hb dX3_zonesOff_34 rfl (lv_at hl 2 rfl) ?_
        refine zri h hr hH ?_ dX3_zonesOff_35
        have eo : o = S k 0 4 := by omega
        subst eo
        exact ⟨by rw [hn]; rfl, rfl⟩
      · refine lv_aload_n hx hb dX3_zonesOff_12 rfl (lv_at hl 0 rfl) ?_
        refine lv_iload_n hx hb dX3_zonesOff_13 rfl (lv_at hl 3 rfl) ?_
        refine zcVi h hH (zr_3 h hH hk) (As := [.int (zI o)]) (rest := []) (c_X3_tooDarkBy l G hG k hk S o (by omega) hms hw) zce_X3_tooDarkBy zcv_X3_tooDarkBy zm_X3_90 hl.1 rfl rfl ⟨rfl, rfl⟩ ⟨Nat.le_of_ble_eq_true rfl, Nat.le_of_ble_eq_true rfl⟩ (Nat.le_of_ble_eq_true rfl) ⟨Nat.zero_le _, Nat.zero_le _⟩ dX3_zonesOff_14 (fun r_14 S_14 H locs hq hH => ?_)
        obtain ⟨rfl, rfl⟩ := hq
        refine zb_ic h dX3_zonesOff_17 ?_
        have b_18 := tOff_in hw (show 0 ≤ o ∧ o < 8 by omega)
        refine zcSi h hH (As := [.int (zI (tOff (S k 0) o)), .int (zI 0)]) (rest := []) (c_J6_compare_7cf53 l G hG S (tOff (S k 0) o) 0 (by omega) (by omega)) zce_J6_compare_7cf53 zt_J6_compare_7cf53 zm_X3_93 hl.1 rfl rfl ⟨rfl, rfl⟩ ⟨Nat.le_of_ble_eq_true rfl, Nat.le_of_ble_eq_true rfl⟩ (Nat.le_of_ble_eq_true rfl) ⟨Nat.zero_le _, Nat.zero_le _⟩ dX3_zonesOff_18 (fun r_18 S_18 H locs hq hH => ?_)
        obtain ⟨rfl, rfl⟩ := hq
        refine lv_iload_n hx hb dX3_zonesOff_21 rfl (lv_at hl 1 rfl) ?_
        have b_22 := zsg_in (tOff (S k 0) o - 0)
        refine zb_cne (tgt := 28) h (by omega) (by omega) dX3_zonesOff_22 (by decide) (fun c_22 => ?_) (fun c_22 => ?_)
        · refine lv_iinc (v := zI (o + 1)) (lv' := [(3, .int (zI (o + 1))), (0, .ref (za G k 0)), (1, .int (zI side)), (2, .int (zI n))]) hx hb dX3_zonesOff_28 hl (k := 3) rfl (zI_add _ _) (by decide) rfl (fun ls hl => ?_)
          refine lv_goto (tgt := 4) hx hb dX3_zonesOff_31 (by decide) ?_
          exact ih4 (o + 1) n _ _ _ (by omega) (by have := zW_4 hw; omega) (by rw [zsum_s _ ho.1, hn]; rw [Int.sub_zero] at c_22; first | rw [if_pos c_22] | (rw [if_neg c_22]; omega)) hH (lv_sub hl [1, 2, 3, 0] rfl)
        · refine lv_iinc (v := zI (n + 1)) (lv' := [(2, .int (zI (n + 1))), (0, .ref (za G k 0)), (1, .int (zI side)), (3, .int (zI o))]) hx hb dX3_zonesOff_25 hl (k := 2) rfl (zI_add _ _) (by decide) rfl (fun ls hl => ?_)
          refine lv_iinc (v := zI (o + 1)) (lv' := [(3, .int (zI (o + 1))), (2, .int (zI (n + 1))), (0, .ref (za G k 0)), (1, .int (zI side))]) hx hb dX3_zonesOff_28 hl (k := 3) rfl (zI_add _ _) (by decide) rfl (fun ls hl => ?_)
          refine lv_goto (tgt := 4) hx hb dX3_zonesOff_31 (by decide) ?_
          exact ih4 (o + 1) (n + 1) _ _ _ (by omega) (by have := zW_4 hw; omega) (by rw [zsum_s _ ho.1, hn]; rw [Int.sub_zero] at c_22; first | rw [if_pos c_22] | (rw [if_neg c_22]; omega)) hH (lv_sub hl [2, 3, 1, 0] rfl)
  refine zb_ic h dX3_zonesOff_0 ?_
  refine lv_istore_n (lv' := [(2, .int (zI 0)), (0, .ref (za G k 0)), (1, .int (zI side))]) hx hb dX3_zonesOff_1 rfl hl (by decide) rfl (fun ls hl => ?_)
  refine zb_ic h dX3_zonesOff_2 ?_
  refine lv_istore_n (lv' := [(3, .int (zI 0)), (2, .int (zI 0)), (0, .ref (za G k 0)), (1, .int (zI side))]) hx hb dX3_zonesOff_3 rfl hl (by decide) rfl (fun ls hl => ?_)
  exact C4 ((S k 0 4 - 0 : Int).toNat + 1) 0 0 _ _ _ (by omega) (by have := zW_4 hw; omega) rfl hH (lv_sub hl [2, 3, 1, 0] rfl)
theorem dX3_missedTones_0 : decode cX3_missedTones 0 = .ok (.iconst 0, 1) := by decide +kernel
theorem dX3_missedTones_1 : decode cX3_missedTones 1 = .ok (.istore_n 1, 1) := by decide +kernel
theorem dX3_missedTones_2 : decode cX3_missedTones 2 = .ok (.iconst 0, 1) := by decide +kernel
theorem dX3_missedTones_3 : decode cX3_missedTones 3 = .ok (.istore_n 2, 1) := by decide +kernel
theorem dX3_missedTones_4 : decode cX3_missedTones 4 = .ok (.iload_n 2, 1) := by decide +kernel
theorem dX3_missedTones_5 : decode cX3_missedTones 5 = .ok (.aload_n 0, 1) := by decide +kernel
theorem dX3_missedTones_6 : decode cX3_missedTones 6 = .ok (.getfield 37, 3) := by decide +kernel
theorem dX3_missedTones_9 : decode cX3_missedTones 9 = .ok (.if_icmp .ge 20, 3) := by decide +kernel
theorem dX3_missedTones_12 : decode cX3_missedTones 12 = .ok (.iload_n 1, 1) := by decide +kernel
theorem dX3_missedTones_13 : decode cX3_missedTones 13 = .ok (.aload_n 0, 1) := by decide +kernel
theorem dX3_missedTones_14 : decode cX3_missedTones 14 = .ok (.iload_n 2, 1) := by decide +kernel
theorem dX3_missedTones_15 : decode cX3_missedTones 15 = .ok (.invokevirtual 90, 3) := by decide +kernel
theorem dX3_missedTones_18 : decode cX3_missedTones 18 = .ok (.invokestatic 98, 3) := by decide +kernel
theorem dX3_missedTones_21 : decode cX3_missedTones 21 = .ok (.iadd, 1) := by decide +kernel
theorem dX3_missedTones_22 : decode cX3_missedTones 22 = .ok (.istore_n 1, 1) := by decide +kernel
theorem dX3_missedTones_23 : decode cX3_missedTones 23 = .ok (.iinc 2 1, 3) := by decide +kernel
theorem dX3_missedTones_26 : decode cX3_missedTones 26 = .ok (.goto (-22), 3) := by decide +kernel
theorem dX3_missedTones_29 : decode cX3_missedTones 29 = .ok (.iload_n 1, 1) := by decide +kernel
theorem dX3_missedTones_30 : decode cX3_missedTones 30 = .ok (.ireturn, 1) := by decide +kernel
def q_X3_missedTones (k : Nat) (S : zM) : Int32 → zM → Prop := fun r S1 => r = zI (tMis (S k 0)) ∧ S = S1
def r_X3_missedTones : Room := { frames := 3, cells := 0, slots := 0, locals := 67 }
set_option maxHeartbeats 4000000 in
set_option maxRecDepth 100000 in
theorem c_X3_missedTones (l : Launch) (G : zG) (hG : zok G) (k : Nat) (hk : k < 8) (S : zM) (hms : zMs S k) (hw : zW (S k 0))  : Met l yX3_missedTones (Cond.code yX3_missedTones cX3_missedTones 3 (some FieldType.int) :: zTbl) r_X3_missedTones (va_Pc [.ref (za G k 0)] (zB G S)) (va_Qi (q_X3_missedTones k S) (zB G) (zA G)) 0 0 (zA G) := by
  refine zMet [(0, .ref (za G k 0))] hG (by decide) (Nat.le_of_ble_eq_true rfl) rfl (fun p e s m args below meth c ls h hx hb hr hH hl => ?_)
  have C4 : ∀ (fu : Nat) (o n : Int) (H : Heap) (locs : List Loc) (ls : Array Slot), (S k 0 4 - o).toNat < fu → (0 ≤ o ∧ o ≤ S k 0 4) → (n = zsum (fun z => zabs (tOff (S k 0) z)) o.toNat) → zH G S s H locs → lv_has ls 3 [(0, .ref (za G k 0)), (1, .int (zI n)), (2, .int (zI o))] → W p l e r_X3_missedTones s m args below meth c H locs 0 0 (MQ below (va_Qi (q_X3_missedTones k S) (zB G) (zA G)) args s 0 0 (zA G)) (F0 m 4 ls []) := by
    intro fu
    induction fu with
    | zero => intro o n H locs ls hfu; omega
    | succ fu ih4 =>
      intro o n H locs ls hfu ho hn hH hl
      have f4 := zW_4 hw
      refine lv_iload_n hx hb dX3_missedTones_4 rfl (lv_at hl 2 rfl) ?_
      refine lv_aload_n hx hb dX3_missedTones_5 rfl (lv_at hl 0 rfl) ?_
      refine zg_3_7 h hH hk zf_X3_37 dX3_missedTones_6 ?_
      have f_6 := zW_4 hw
      refine zb_cge (tgt := 29) h (by omega) (by omega) dX3_missedTones_9 (by decide) (fun c_9 => ?_) (fun c_9 => ?_)
      · refine lv_iload_n hx hb dX3_missedTones_29 rfl (lv_at hl 1 rfl) ?_
        refine zri h hr hH ?_ dX3_missedTones_30
        have eo : o = S k 0 4 := by omega
        subst eo
        exact ⟨by rw [hn]; rfl, rfl⟩
      · refine lv_iload_n hx hb dX3_missedTones_12 rfl (lv_at hl 1 rfl) ?_
        refine lv_aload_n hx hb dX3_missedTones_13 rfl (lv_at hl 0 rfl) ?_
        refine lv_iload_n hx hb dX3_missedTones_14 rfl (lv_at hl 2 rfl) ?_
        refine zcVi h hH (zr_3 h hH hk) (As := [.int (zI o)]) (rest := [.int (zI n)]) (c_X3_tooDarkBy l G hG k hk S o (by omega) hms hw) zce_X3_tooDarkBy zcv_X3_tooDarkBy zm_X3_90 hl.1 rfl rfl ⟨rfl, rfl⟩ ⟨Nat.le_of_ble_eq_true rfl, Nat.le_of_ble_eq_true rfl⟩ (Nat.le_of_ble_eq_true rfl) ⟨Nat.zero_le _, Nat.zero_le _⟩ dX3_missedTones_15 (fun r_15 S_15 H locs hq hH => ?_)
        obtain ⟨rfl, rfl⟩ := hq
        have b_18 := tOff_in hw (show 0 ≤ o ∧ o < 8 by omega)
        refine zabsI h hl.1 zm_X3_98 (Nat.le_of_ble_eq_true rfl) (Nat.le_of_ble_eq_true rfl) ⟨Nat.zero_le _, Nat.zero_le _⟩ (by omega) (Nat.le_of_ble_eq_true rfl) dX3_missedTones_18 ?_
        refine zb_iadd h dX3_missedTones_21 ?_
        refine lv_istore_n (lv' := [(1, .int (zI (n + (zabs (tOff (S k 0) o))))), (0, .ref (za G k 0)), (2, .int (zI o))]) hx hb dX3_missedTones_22 rfl hl (by decide) rfl (fun ls hl => ?_)
        refine lv_iinc (v := zI (o + 1)) (lv' := [(2, .int (zI (o + 1))), (1, .int (zI (n + (zabs (tOff (S k 0) o))))), (0, .ref (za G k 0))]) hx hb dX3_missedTones_23 hl (k := 2) rfl (zI_add _ _) (by decide) rfl (fun ls hl => ?_)
        refine lv_goto (tgt := 4) hx hb dX3_missedTones_26 (by decide) ?_
        exact ih4 (o + 1) (n + (zabs (tOff (S k 0) o))) _ _ _ (by omega) (by have := zW_4 hw; omega) (by rw [zsum_s _ ho.1, hn]) hH (lv_sub hl [2, 1, 0] rfl)
  refine zb_ic h dX3_missedTones_0 ?_
  refine lv_istore_n (lv' := [(1, .int (zI 0)), (0, .ref (za G k 0))]) hx hb dX3_missedTones_1 rfl hl (by decide) rfl (fun ls hl => ?_)
  refine zb_ic h dX3_missedTones_2 ?_
  refine lv_istore_n (lv' := [(2, .int (zI 0)), (1, .int (zI 0)), (0, .ref (za G k 0))]) hx hb dX3_missedTones_3 rfl hl (by decide) rfl (fun ls hl => ?_)
  exact C4 ((S k 0 4 - 0 : Int).toNat + 1) 0 0 _ _ _ (by omega) (by have := zW_4 hw; omega) rfl hH (lv_sub hl [2, 1, 0] rfl)
theorem dX3_sumOf_0 : decode cX3_sumOf 0 = .ok (.iconst 0, 1) := by decide +kernel
theorem dX3_sumOf_1 : decode cX3_sumOf 1 = .ok (.istore_n 2, 1) := by decide +kernel
theorem dX3_sumOf_2 : decode cX3_sumOf 2 = .ok (.iconst 0, 1) := by decide +kernel
theorem dX3_sumOf_3 : decode cX3_sumOf 3 = .ok (.istore_n 3, 1) := by decide +kernel
theorem dX3_sumOf_4 : decode cX3_sumOf 4 = .ok (.iload_n 3, 1) := by decide +kernel
theorem dX3_sumOf_5 : decode cX3_sumOf 5 = .ok (.aload_n 0, 1) := by decide +kernel
theorem dX3_sumOf_6 : decode cX3_sumOf 6 = .ok (.getfield 37, 3) := by decide +kernel
theorem dX3_sumOf_9 : decode cX3_sumOf 9 = .ok (.if_icmp .ge 21, 3) := by decide +kernel
theorem dX3_sumOf_12 : decode cX3_sumOf 12 = .ok (.iload_n 3, 1) := by decide +kernel
theorem dX3_sumOf_13 : decode cX3_sumOf 13 = .ok (.aload_n 1, 1) := by decide +kernel
theorem dX3_sumOf_14 : decode cX3_sumOf 14 = .ok (.arraylength, 1) := by decide +kernel
theorem dX3_sumOf_15 : decode cX3_sumOf 15 = .ok (.if_icmp .ge 15, 3) := by decide +kernel
theorem dX3_sumOf_18 : decode cX3_sumOf 18 = .ok (.iload_n 2, 1) := by decide +kernel
theorem dX3_sumOf_19 : decode cX3_sumOf 19 = .ok (.aload_n 1, 1) := by decide +kernel
theorem dX3_sumOf_20 : decode cX3_sumOf 20 = .ok (.iload_n 3, 1) := by decide +kernel
theorem dX3_sumOf_21 : decode cX3_sumOf 21 = .ok (.iaload, 1) := by decide +kernel
theorem dX3_sumOf_22 : decode cX3_sumOf 22 = .ok (.iadd, 1) := by decide +kernel
theorem dX3_sumOf_23 : decode cX3_sumOf 23 = .ok (.istore_n 2, 1) := by decide +kernel
theorem dX3_sumOf_24 : decode cX3_sumOf 24 = .ok (.iinc 3 1, 3) := by decide +kernel
theorem dX3_sumOf_27 : decode cX3_sumOf 27 = .ok (.goto (-23), 3) := by decide +kernel
theorem dX3_sumOf_30 : decode cX3_sumOf 30 = .ok (.iload_n 2, 1) := by decide +kernel
theorem dX3_sumOf_31 : decode cX3_sumOf 31 = .ok (.ireturn, 1) := by decide +kernel
def q_X3_sumOf_bu (k : Nat) (S : zM) : Int32 → zM → Prop := fun r S1 => r = zI (tSum (S k 0) 2) ∧ S = S1
def r_X3_sumOf_bu : Room := { frames := 0, cells := 0, slots := 0, locals := 0 }
set_option maxHeartbeats 4000000 in
set_option maxRecDepth 100000 in
theorem c_X3_sumOf_bu (l : Launch) (G : zG) (hG : zok G) (k : Nat) (hk : k < 8) (S : zM) (hw : zW (S k 0)) : Met l yX3_sumOf (Cond.code yX3_sumOf cX3_sumOf 4 (some FieldType.int) :: zTbl) r_X3_sumOf_bu (va_Pc [.ref (za G k 0), .ref (za G k 5)] (zB G S)) (va_Qi (q_X3_sumOf_bu k S) (zB G) (zA G)) 0 0 (zA G) := by
  refine zMet [(0, .ref (za G k 0)), (1, .ref (za G k 5))] hG (by decide) (Nat.le_of_ble_eq_true rfl) rfl (fun p e s m args below meth c ls h hx hb hr hH hl => ?_)
  have C4 : ∀ (fu : Nat) (o n : Int) (H : Heap) (locs : List Loc) (ls : Array Slot), (S k 0 4 - o).toNat < fu → (0 ≤ o ∧ o ≤ S k 0 4) → (n = zsum (fun z => S k 0 (5 + 5 * z + 2)) o.toNat) → zH G S s H locs → lv_has ls 4 [(0, .ref (za G k 0)), (1, .ref (za G k 5)), (2, .int (zI n)), (3, .int (zI o))] → W p l e r_X3_sumOf_bu s m args below meth c H locs 0 0 (MQ below (va_Qi (q_X3_sumOf_bu k S) (zB G) (zA G)) args s 0 0 (zA G)) (F0 m 4 ls []) := by
    intro fu
    induction fu with
    | zero => intro o n H locs ls hfu; omega
    | succ fu ih4 =>
      intro o n H locs ls hfu ho hn hH hl
      have f4 := zW_4 hw
      refine lv_iload_n hx hb dX3_sumOf_4 rfl (lv_at hl 3 rfl) ?_
      refine lv_aload_n hx hb dX3_sumOf_5 rfl (lv_at hl 0 rfl) ?_
      refine zg_3_7 h hH hk zf_X3_37 dX3_sumOf_6 ?_
      have f_6 := zW_4 hw
      refine zb_cge (tgt := 30) h (by omega) (by omega) dX3_sumOf_9 (by decide) (fun c_9 => ?_) (fun c_9 => ?_)
      · refine lv_iload_n hx hb dX3_sumOf_30 rfl (lv_at hl 2 rfl) ?_
        refine zri h hr hH ?_ dX3_sumOf_31
        have eo : o = S k 0 4 := by omega
        subst eo
        exact ⟨by rw [hn]; rfl, rfl⟩
      · refine lv_iload_n hx hb dX3_sumOf_12 rfl (lv_at hl 3 rfl) ?_
        refine lv_aload_n hx hb dX3_sumOf_13 rfl (lv_at hl 1 rfl) ?_
        refine zln_ar_bu h hH hk dX3_sumOf_14 ?_
        refine zb_cge (tgt := 30) h (by omega) (by omega) dX3_sumOf_15 (by decide) (fun c_15 => ?_) (fun c_15 => ?_)
        · exact absurd c_15 (by omega)
        · have b_n := zsum_in (f := fun z => S k 0 (5 + 5 * z + 2)) (a := 0) (b := 999) o.toNat (fun j h1 h2 => zW_bu hw (by omega))
          refine lv_iload_n hx hb dX3_sumOf_18 rfl (lv_at hl 2 rfl) ?_
          refine lv_aload_n hx hb dX3_sumOf_19 rfl (lv_at hl 1 rfl) ?_
          refine lv_iload_n hx hb dX3_sumOf_20 rfl (lv_at hl 3 rfl) ?_
          refine zld_ar_bu h hH hk (by omega) dX3_sumOf_21 ?_
          have f_21 := zW_bu hw (show 0 ≤ o ∧ o < 8 by omega)
          refine zb_iadd h dX3_sumOf_22 ?_
          refine lv_istore_n (lv' := [(2, .int (zI (n + (S k 0 (5 + 5 * o + 2))))), (0, .ref (za G k 0)), (1, .ref (za G k 5)), (3, .int (zI o))]) hx hb dX3_sumOf_23 rfl hl (by decide) rfl (fun ls hl => ?_)
          refine lv_iinc (v := zI (o + 1)) (lv' := [(3, .int (zI (o + 1))), (2, .int (zI (n + (S k 0 (5 + 5 * o + 2))))), (0, .ref (za G k 0)), (1, .ref (za G k 5))]) hx hb dX3_sumOf_24 hl (k := 3) rfl (zI_add _ _) (by decide) rfl (fun ls hl => ?_)
          refine lv_goto (tgt := 4) hx hb dX3_sumOf_27 (by decide) ?_
          exact ih4 (o + 1) (n + (S k 0 (5 + 5 * o + 2))) _ _ _ (by omega) (by have := zW_4 hw; omega) (by rw [zsum_s _ ho.1, hn]) hH (lv_sub hl [2, 3, 1, 0] rfl)
  refine zb_ic h dX3_sumOf_0 ?_
  refine lv_istore_n (lv' := [(2, .int (zI 0)), (0, .ref (za G k 0)), (1, .ref (za G k 5))]) hx hb dX3_sumOf_1 rfl hl (by decide) rfl (fun ls hl => ?_)
  refine zb_ic h dX3_sumOf_2 ?_
  refine lv_istore_n (lv' := [(3, .int (zI 0)), (2, .int (zI 0)), (0, .ref (za G k 0)), (1, .ref (za G k 5))]) hx hb dX3_sumOf_3 rfl hl (by decide) rfl (fun ls hl => ?_)
  exact C4 ((S k 0 4 - 0 : Int).toNat + 1) 0 0 _ _ _ (by omega) (by have := zW_4 hw; omega) rfl hH (lv_sub hl [2, 3, 1, 0] rfl)
def q_X3_sumOf_ho (k : Nat) (S : zM) : Int32 → zM → Prop := fun r S1 => r = zI (tSum (S k 0) 3) ∧ S = S1
def r_X3_sumOf_ho : Room := { frames := 0, cells := 0, slots := 0, locals := 0 }
set_option maxHeartbeats 4000000 in
set_option maxRecDepth 100000 in
theorem c_X3_sumOf_ho (l : Launch) (G : zG) (hG : zok G) (k : Nat) (hk : k < 8) (S : zM) (hw : zW (S k 0)) : Met l yX3_sumOf (Cond.code yX3_sumOf cX3_sumOf 4 (some FieldType.int) :: zTbl) r_X3_sumOf_ho (va_Pc [.ref (za G k 0), .ref (za G k 6)] (zB G S)) (va_Qi (q_X3_sumOf_ho k S) (zB G) (zA G)) 0 0 (zA G) := by
  refine zMet [(0, .ref (za G k 0)), (1, .ref (za G k 6))] hG (by decide) (Nat.le_of_ble_eq_true rfl) rfl (fun p e s m args below meth c ls h hx hb hr hH hl => ?_)
  have C4 : ∀ (fu : Nat) (o n : Int) (H : Heap) (locs : List Loc) (ls : Array Slot), (S k 0 4 - o).toNat < fu → (0 ≤ o ∧ o ≤ S k 0 4) → (n = zsum (fun z => S k 0 (5 + 5 * z + 3)) o.toNat) → zH G S s H locs → lv_has ls 4 [(0, .ref (za G k 0)), (1, .ref (za G k 6)), (2, .int (zI n)), (3, .int (zI o))] → W p l e r_X3_sumOf_ho s m args below meth c H locs 0 0 (MQ below (va_Qi (q_X3_sumOf_ho k S) (zB G) (zA G)) args s 0 0 (zA G)) (F0 m 4 ls []) := by
    intro fu
    induction fu with
    | zero => intro o n H locs ls hfu; omega
    | succ fu ih4 =>
      intro o n H locs ls hfu ho hn hH hl
      have f4 := zW_4 hw
      refine lv_iload_n hx hb dX3_sumOf_4 rfl (lv_at hl 3 rfl) ?_
      refine lv_aload_n hx hb dX3_sumOf_5 rfl (lv_at hl 0 rfl) ?_
      refine zg_3_7 h hH hk zf_X3_37 dX3_sumOf_6 ?_
      have f_6 := zW_4 hw
      refine zb_cge (tgt := 30) h (by omega) (by omega) dX3_sumOf_9 (by decide) (fun c_9 => ?_) (fun c_9 => ?_)
      · refine lv_iload_n hx hb dX3_sumOf_30 rfl (lv_at hl 2 rfl) ?_
        refine zri h hr hH ?_ dX3_sumOf_31
        have eo : o = S k 0 4 := by omega
        subst eo
        exact ⟨by rw [hn]; rfl, rfl⟩
      · refine lv_iload_n hx hb dX3_sumOf_12 rfl (lv_at hl 3 rfl) ?_
        refine lv_aload_n hx hb dX3_sumOf_13 rfl (lv_at hl 1 rfl) ?_
        refine zln_ar_ho h hH hk dX3_sumOf_14 ?_
        refine zb_cge (tgt := 30) h (by omega) (by omega) dX3_sumOf_15 (by decide) (fun c_15 => ?_) (fun c_15 => ?_)
        · exact absurd c_15 (by omega)
        · have b_n := zsum_in (f := fun z => S k 0 (5 + 5 * z + 3)) (a := 0) (b := 999) o.toNat (fun j h1 h2 => zW_ho hw (by omega))
          refine lv_iload_n hx hb dX3_sumOf_18 rfl (lv_at hl 2 rfl) ?_
          refine lv_aload_n hx hb dX3_sumOf_19 rfl (lv_at hl 1 rfl) ?_
          refine lv_iload_n hx hb dX3_sumOf_20 rfl (lv_at hl 3 rfl) ?_
          refine zld_ar_ho h hH hk (by omega) dX3_sumOf_21 ?_
          have f_21 := zW_ho hw (show 0 ≤ o ∧ o < 8 by omega)
          refine zb_iadd h dX3_sumOf_22 ?_
          refine lv_istore_n (lv' := [(2, .int (zI (n + (S k 0 (5 + 5 * o + 3))))), (0, .ref (za G k 0)), (1, .ref (za G k 6)), (3, .int (zI o))]) hx hb dX3_sumOf_23 rfl hl (by decide) rfl (fun ls hl => ?_)
          refine lv_iinc (v := zI (o + 1)) (lv' := [(3, .int (zI (o + 1))), (2, .int (zI (n + (S k 0 (5 + 5 * o + 3))))), (0, .ref (za G k 0)), (1, .ref (za G k 6))]) hx hb dX3_sumOf_24 hl (k := 3) rfl (zI_add _ _) (by decide) rfl (fun ls hl => ?_)
          refine lv_goto (tgt := 4) hx hb dX3_sumOf_27 (by decide) ?_
          exact ih4 (o + 1) (n + (S k 0 (5 + 5 * o + 3))) _ _ _ (by omega) (by have := zW_4 hw; omega) (by rw [zsum_s _ ho.1, hn]) hH (lv_sub hl [2, 3, 1, 0] rfl)
  refine zb_ic h dX3_sumOf_0 ?_
  refine lv_istore_n (lv' := [(2, .int (zI 0)), (0, .ref (za G k 0)), (1, .ref (za G k 6))]) hx hb dX3_sumOf_1 rfl hl (by decide) rfl (fun ls hl => ?_)
  refine zb_ic h dX3_sumOf_2 ?_
  refine lv_istore_n (lv' := [(3, .int (zI 0)), (2, .int (zI 0)), (0, .ref (za G k 0)), (1, .ref (za G k 6))]) hx hb dX3_sumOf_3 rfl hl (by decide) rfl (fun ls hl => ?_)
  exact C4 ((S k 0 4 - 0 : Int).toNat + 1) 0 0 _ _ _ (by omega) (by have := zW_4 hw; omega) rfl hH (lv_sub hl [2, 3, 1, 0] rfl)
theorem dX3_stripTime_0 : decode cX3_stripTime 0 = .ok (.iload_n 1, 1) := by decide +kernel
theorem dX3_stripTime_1 : decode cX3_stripTime 1 = .ok (.iconst 3, 1) := by decide +kernel
theorem dX3_stripTime_2 : decode cX3_stripTime 2 = .ok (.irem, 1) := by decide +kernel
theorem dX3_stripTime_3 : decode cX3_stripTime 3 = .ok (.istore_n 2, 1) := by decide +kernel
theorem dX3_stripTime_4 : decode cX3_stripTime 4 = .ok (.iload_n 2, 1) := by decide +kernel
theorem dX3_stripTime_5 : decode cX3_stripTime 5 = .ok (.ifCond .lt 11, 3) := by decide +kernel
theorem dX3_stripTime_8 : decode cX3_stripTime 8 = .ok (.iload_n 2, 1) := by decide +kernel
theorem dX3_stripTime_9 : decode cX3_stripTime 9 = .ok (.getstatic 113, 3) := by decide +kernel
theorem dX3_stripTime_12 : decode cX3_stripTime 12 = .ok (.arraylength, 1) := by decide +kernel
theorem dX3_stripTime_13 : decode cX3_stripTime 13 = .ok (.if_icmp .lt 5, 3) := by decide +kernel
theorem dX3_stripTime_18 : decode cX3_stripTime 18 = .ok (.iload_n 0, 1) := by decide +kernel
theorem dX3_stripTime_19 : decode cX3_stripTime 19 = .ok (.iload_n 1, 1) := by decide +kernel
theorem dX3_stripTime_20 : decode cX3_stripTime 20 = .ok (.iconst 3, 1) := by decide +kernel
theorem dX3_stripTime_21 : decode cX3_stripTime 21 = .ok (.idiv, 1) := by decide +kernel
theorem dX3_stripTime_22 : decode cX3_stripTime 22 = .ok (.ishl, 1) := by decide +kernel
theorem dX3_stripTime_23 : decode cX3_stripTime 23 = .ok (.getstatic 113, 3) := by decide +kernel
theorem dX3_stripTime_26 : decode cX3_stripTime 26 = .ok (.iload_n 2, 1) := by decide +kernel
theorem dX3_stripTime_27 : decode cX3_stripTime 27 = .ok (.iaload, 1) := by decide +kernel
theorem dX3_stripTime_28 : decode cX3_stripTime 28 = .ok (.imul, 1) := by decide +kernel
theorem dX3_stripTime_29 : decode cX3_stripTime 29 = .ok (.bipush 100, 2) := by decide +kernel
theorem dX3_stripTime_31 : decode cX3_stripTime 31 = .ok (.idiv, 1) := by decide +kernel
theorem dX3_stripTime_32 : decode cX3_stripTime 32 = .ok (.ireturn, 1) := by decide +kernel
def q_X3_stripTime (S : zM) (f i : Int) : Int32 → zM → Prop := fun r S1 => r = zI (zStr f i) ∧ S = S1
def r_X3_stripTime : Room := { frames := 0, cells := 0, slots := 0, locals := 0 }
set_option maxHeartbeats 4000000 in
set_option maxRecDepth 100000 in
theorem c_X3_stripTime (l : Launch) (G : zG) (hG : zok G) (S : zM) (f i : Int) (hf : 1 ≤ f ∧ f ≤ 999) (hi : 0 ≤ i ∧ i < 9) : Met l yX3_stripTime (Cond.code yX3_stripTime cX3_stripTime 3 (some FieldType.int) :: zTbl) r_X3_stripTime (va_Pc [.int (zI f), .int (zI i)] (zB G S)) (va_Qi (q_X3_stripTime S f i) (zB G) (zA G)) 0 0 (zA G) := by
  refine zMet [(0, .int (zI f)), (1, .int (zI i))] hG (by decide) (Nat.le_of_ble_eq_true rfl) rfl (fun p e s m args below meth c ls h hx hb hr hH hl => ?_)
  have b1 := zStr_x hf hi
  have b2 := zStr_y hf hi
  refine lv_iload_n hx hb dX3_stripTime_0 rfl (lv_at hl 1 rfl) ?_
  refine zb_ic h dX3_stripTime_1 ?_
  refine zb_irem h (by omega) (by omega) dX3_stripTime_2 ?_
  refine lv_istore_n (lv' := [(2, .int (zI (i % 3))), (0, .int (zI f)), (1, .int (zI i))]) hx hb dX3_stripTime_3 rfl hl (by decide) rfl (fun ls hl => ?_)
  refine lv_iload_n hx hb dX3_stripTime_4 rfl (lv_at hl 0 rfl) ?_
  refine zb_ilt (tgt := 16) h (by omega) dX3_stripTime_5 (by decide) (fun c_5 => ?_) (fun c_5 => ?_)
  · exact absurd c_5 (by omega)
  · refine lv_iload_n hx hb dX3_stripTime_8 rfl (lv_at hl 0 rfl) ?_
    refine zgs3 h hH zf_X3_113 dX3_stripTime_9 ?_
    refine ztl3 h hH dX3_stripTime_12 ?_
    refine zb_clt (tgt := 18) h (by omega) (by omega) dX3_stripTime_13 (by decide) (fun c_13 => ?_) (fun c_13 => ?_)
    · refine lv_iload_n hx hb dX3_stripTime_18 rfl (lv_at hl 1 rfl) ?_
      refine lv_iload_n hx hb dX3_stripTime_19 rfl (lv_at hl 2 rfl) ?_
      refine zb_ic h dX3_stripTime_20 ?_
      refine zb_idiv h (by omega) (by omega) dX3_stripTime_21 ?_
      refine zb_ishl h (by omega) (by omega) (by omega) dX3_stripTime_22 ?_
      refine zgs3 h hH zf_X3_113 dX3_stripTime_23 ?_
      refine lv_iload_n hx hb dX3_stripTime_26 rfl (lv_at hl 0 rfl) ?_
      refine ztd3 h hH (by omega) (by omega) dX3_stripTime_27 ?_
      refine zb_imul h dX3_stripTime_28 ?_
      refine zb_bi h dX3_stripTime_29 (by decide) (by decide) ?_
      refine zb_idiv h (by omega) (by omega) dX3_stripTime_31 ?_
      refine zri h hr hH ?_ dX3_stripTime_32
      exact ⟨rfl, rfl⟩
    · exact absurd c_13 (by omega)
