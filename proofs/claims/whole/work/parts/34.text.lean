theorem dX5_sign_0 : decode cX5_sign 0 = .ok (.aload_n 0, 1) := by decide +kernel
theorem dX5_sign_1 : decode cX5_sign 1 = .ok (.getfield 130, 3) := by decide +kernel
theorem dX5_sign_4 : decode cX5_sign 4 = .ok (.aload_n 0, 1) := by decide +kernel
theorem dX5_sign_5 : decode cX5_sign 5 = .ok (.getfield 127, 3) := by decide +kernel
theorem dX5_sign_8 : decode cX5_sign 8 = .ok (.if_icmp .ge 15, 3) := by decide +kernel
theorem dX5_sign_11 : decode cX5_sign 11 = .ok (.aload_n 0, 1) := by decide +kernel
theorem dX5_sign_12 : decode cX5_sign 12 = .ok (.getfield 19, 3) := by decide +kernel
theorem dX5_sign_15 : decode cX5_sign 15 = .ok (.aload_n 0, 1) := by decide +kernel
theorem dX5_sign_16 : decode cX5_sign 16 = .ok (.getfield 130, 3) := by decide +kernel
theorem dX5_sign_19 : decode cX5_sign 19 = .ok (.iaload, 1) := by decide +kernel
theorem dX5_sign_20 : decode cX5_sign 20 = .ok (.goto 4, 3) := by decide +kernel
theorem dX5_sign_23 : decode cX5_sign 23 = .ok (.iconst 0, 1) := by decide +kernel
theorem dX5_sign_24 : decode cX5_sign 24 = .ok (.istore_n 3, 1) := by decide +kernel
theorem dX5_sign_25 : decode cX5_sign 25 = .ok (.aload_n 0, 1) := by decide +kernel
theorem dX5_sign_26 : decode cX5_sign 26 = .ok (.aload_n 0, 1) := by decide +kernel
theorem dX5_sign_27 : decode cX5_sign 27 = .ok (.getfield 133, 3) := by decide +kernel
theorem dX5_sign_30 : decode cX5_sign 30 = .ok (.ifCond .ne 12, 3) := by decide +kernel
theorem dX5_sign_33 : decode cX5_sign 33 = .ok (.iload_n 3, 1) := by decide +kernel
theorem dX5_sign_34 : decode cX5_sign 34 = .ok (.iload_n 1, 1) := by decide +kernel
theorem dX5_sign_35 : decode cX5_sign 35 = .ok (.iload_n 2, 1) := by decide +kernel
theorem dX5_sign_36 : decode cX5_sign 36 = .ok (.invokestatic 32, 3) := by decide +kernel
theorem dX5_sign_39 : decode cX5_sign 39 = .ok (.ifCond .ne 7, 3) := by decide +kernel
theorem dX5_sign_42 : decode cX5_sign 42 = .ok (.iconst 1, 1) := by decide +kernel
theorem dX5_sign_43 : decode cX5_sign 43 = .ok (.goto 4, 3) := by decide +kernel
theorem dX5_sign_46 : decode cX5_sign 46 = .ok (.iconst 0, 1) := by decide +kernel
theorem dX5_sign_47 : decode cX5_sign 47 = .ok (.putfield 133, 3) := by decide +kernel
theorem dX5_sign_50 : decode cX5_sign 50 = .ok (.aload_n 0, 1) := by decide +kernel
theorem dX5_sign_51 : decode cX5_sign 51 = .ok (.dup, 1) := by decide +kernel
theorem dX5_sign_52 : decode cX5_sign 52 = .ok (.getfield 130, 3) := by decide +kernel
theorem dX5_sign_55 : decode cX5_sign 55 = .ok (.aload_n 0, 1) := by decide +kernel
theorem dX5_sign_56 : decode cX5_sign 56 = .ok (.getfield 133, 3) := by decide +kernel
theorem dX5_sign_59 : decode cX5_sign 59 = .ok (.ifCond .eq 7, 3) := by decide +kernel
theorem dX5_sign_62 : decode cX5_sign 62 = .ok (.iconst 0, 1) := by decide +kernel
theorem dX5_sign_63 : decode cX5_sign 63 = .ok (.goto 4, 3) := by decide +kernel
theorem dX5_sign_66 : decode cX5_sign 66 = .ok (.iconst 1, 1) := by decide +kernel
theorem dX5_sign_67 : decode cX5_sign 67 = .ok (.iadd, 1) := by decide +kernel
theorem dX5_sign_68 : decode cX5_sign 68 = .ok (.putfield 130, 3) := by decide +kernel
theorem dX5_sign_71 : decode cX5_sign 71 = .ok (.iload_n 3, 1) := by decide +kernel
theorem dX5_sign_72 : decode cX5_sign 72 = .ok (.ireturn, 1) := by decide +kernel
def q_X5_sign (S : zM) (lo hi : Int) : Int32 → zM → Prop := fun r S1 => r = zI (pC (S 9 0) (S 9 4)) ∧ zMo S (pF (S 9 0) (S 9 4) lo hi) (S 9 1) (S 9 2) (S 9 3) (S 9 4) (S 9 5) (S 9 6) = S1
def r_X5_sign : Room := { frames := 1, cells := 0, slots := 0, locals := 22 }
set_option maxHeartbeats 4000000 in
set_option maxRecDepth 100000 in
theorem c_X5_sign (l : Launch) (G : zG) (hG : zok G) (S : zM) (lo hi : Int) (hlo : 0 ≤ lo ∧ lo ≤ 1000) (hhi : 0 ≤ hi ∧ hi ≤ 1000) (hpi : pI (S 9 0) (S 9 4)) : Met l yX5_sign (Cond.code yX5_sign cX5_sign 4 (some FieldType.int) :: zTbl) r_X5_sign (va_Pc [.ref (za G 9 0), .int (zI lo), .int (zI hi)] (zB G S)) (va_Qi (q_X5_sign S lo hi) (zB G) (zA G)) 0 0 (zA G) := by
  refine zMet [(0, .ref (za G 9 0)), (1, .int (zI lo)), (2, .int (zI hi))] hG (by decide) (Nat.le_of_ble_eq_true rfl) rfl (fun p e s m args below meth c ls h hx hb hr hH hl => ?_)
  obtain ⟨p1, p2, p3, p4⟩ := id hpi
  rw [← zM_id S] at hH
  have C47 : ∀ (w0 : Int) (H : Heap) (locs : List Loc) (ls : Array Slot), (w0 = pW (S 9 0) (S 9 4) lo hi) → zH G (zMo S (S 9 0) (S 9 1) (S 9 2) (S 9 3) (S 9 4) (S 9 5) (S 9 6)) s H locs → lv_has ls 4 [(0, .ref (za G 9 0)), (1, .int (zI lo)), (2, .int (zI hi)), (3, .int (zI (pC (S 9 0) (S 9 4))))] → W p l e r_X5_sign s m args below meth c H locs 0 0 (MQ below (va_Qi (q_X5_sign S lo hi) (zB G) (zA G)) args s 0 0 (zA G)) (F0 m 47 ls [.int (zI w0), .ref (za G 9 0)]) := by
    intro w0 H locs ls hw0 hH hl
    have bw := pW_in (S 9 0) (S 9 4) lo hi
    refine zu_5_10 h hH (by omega) zf_X5_133 dX5_sign_47 (fun H locs hH => ?_)
    rw [zs_M0] at hH
    refine lv_aload_n hx hb dX5_sign_50 rfl (lv_at hl 0 rfl) ?_
    refine lv_dup hx hb dX5_sign_51 rfl ?_
    refine zg_5_9 h hH zf_X5_130 dX5_sign_52 ?_
    rw [zM_0]
    rw [show (zup (S 9 0) 10 w0 9 : Int) = S 9 0 9 from by (first | rw [zup_s] | rw [zup_n (by omega)])]
    refine lv_aload_n hx hb dX5_sign_55 rfl (lv_at hl 0 rfl) ?_
    refine zg_5_10 h hH zf_X5_133 dX5_sign_56 ?_
    rw [zM_0]
    rw [show (zup (S 9 0) 10 w0 10 : Int) = w0 from by (first | rw [zup_s] | rw [zup_n (by omega)])]
    refine zb_ieq (tgt := 66) h (by omega) dX5_sign_59 (by decide) (fun c_59 => ?_) (fun c_59 => ?_)
    · refine zb_ic h dX5_sign_66 ?_
      refine zb_iadd h dX5_sign_67 ?_
      refine zu_5_9 h hH zf_X5_130 dX5_sign_68 (fun H locs hH => ?_)
      rw [zs_M0] at hH
      refine lv_iload_n hx hb dX5_sign_71 rfl (lv_at hl 3 rfl) ?_
      refine zri h hr hH ?_ dX5_sign_72
      exact ⟨rfl, congrArg (fun f => zMo S f (S 9 1) (S 9 2) (S 9 3) (S 9 4) (S 9 5) (S 9 6)) (by unfold pF; rw [← hw0]; first | rw [show (1 : Int) - w0 = 0 by omega] | rw [show (1 : Int) - w0 = 1 by omega])⟩
    · refine zb_ic h dX5_sign_62 ?_
      refine lv_goto (tgt := 67) hx hb dX5_sign_63 (by decide) ?_
      refine zb_iadd h dX5_sign_67 ?_
      refine zu_5_9 h hH zf_X5_130 dX5_sign_68 (fun H locs hH => ?_)
      rw [zs_M0] at hH
      refine lv_iload_n hx hb dX5_sign_71 rfl (lv_at hl 3 rfl) ?_
      refine zri h hr hH ?_ dX5_sign_72
      exact ⟨rfl, congrArg (fun f => zMo S f (S 9 1) (S 9 2) (S 9 3) (S 9 4) (S 9 5) (S 9 6)) (by unfold pF; rw [← hw0]; first | rw [show (1 : Int) - w0 = 0 by omega] | rw [show (1 : Int) - w0 = 1 by omega])⟩
  have C24 : ∀ (x : Int) (H : Heap) (locs : List Loc) (ls : Array Slot), (x = pC (S 9 0) (S 9 4)) → zH G (zMo S (S 9 0) (S 9 1) (S 9 2) (S 9 3) (S 9 4) (S 9 5) (S 9 6)) s H locs → lv_has ls 4 [(0, .ref (za G 9 0)), (1, .int (zI lo)), (2, .int (zI hi))] → W p l e r_X5_sign s m args below meth c H locs 0 0 (MQ below (va_Qi (q_X5_sign S lo hi) (zB G) (zA G)) args s 0 0 (zA G)) (F0 m 24 ls [.int (zI x)]) := by
    intro x H locs ls hx0 hH hl
    have bx := pC_in hpi
    subst hx0
    refine lv_istore_n (lv' := [(3, .int (zI (pC (S 9 0) (S 9 4)))), (0, .ref (za G 9 0)), (1, .int (zI lo)), (2, .int (zI hi))]) hx hb dX5_sign_24 rfl hl (by decide) rfl (fun ls hl => ?_)
    refine lv_aload_n hx hb dX5_sign_25 rfl (lv_at hl 1 rfl) ?_
    refine lv_aload_n hx hb dX5_sign_26 rfl (lv_at hl 1 rfl) ?_
    refine zg_5_10 h hH zf_X5_133 dX5_sign_27 ?_
    rw [zM_0]
    refine zb_ine (tgt := 42) h (by omega) dX5_sign_30 (by decide) (fun c_30 => ?_) (fun c_30 => ?_)
    · refine zb_ic h dX5_sign_42 ?_
      refine lv_goto (tgt := 47) hx hb dX5_sign_43 (by decide) ?_
      exact C47 1 _ _ _  (by unfold pW; first | rw [if_pos (by omega)] | rw [if_neg (by omega)]) hH (lv_sub hl [1, 2, 3, 0] rfl)
    · refine lv_iload_n hx hb dX5_sign_33 rfl (lv_at hl 0 rfl) ?_
      refine lv_iload_n hx hb dX5_sign_34 rfl (lv_at hl 2 rfl) ?_
      refine lv_iload_n hx hb dX5_sign_35 rfl (lv_at hl 3 rfl) ?_
      refine zcSi h hH (As := [.int (zI (pC (S 9 0) (S 9 4))), .int (zI lo), .int (zI hi)]) (rest := [.ref (za G 9 0)]) (c_X5_in l G hG (zMo S (S 9 0) (S 9 1) (S 9 2) (S 9 3) (S 9 4) (S 9 5) (S 9 6)) (pC (S 9 0) (S 9 4)) lo hi (by omega) (by omega) (by omega)) zce_X5_in zt_X5_in zm_X5_32 hl.1 rfl rfl ⟨rfl, rfl⟩ ⟨Nat.le_of_ble_eq_true rfl, Nat.le_of_ble_eq_true rfl⟩ (Nat.le_of_ble_eq_true rfl) ⟨Nat.zero_le _, Nat.zero_le _⟩ dX5_sign_36 (fun r_36 S_36 H locs hq hH => ?_)
      obtain ⟨b_36, rfl, hb_36, rfl⟩ := hq
      (try rw [zM_1] at hb_36)
      refine zb_ine (tgt := 46) h (by omega) dX5_sign_39 (by decide) (fun c_39 => ?_) (fun c_39 => ?_)
      · refine zb_ic h dX5_sign_46 ?_
        exact C47 0 _ _ _  (by unfold pW; first | rw [if_pos (by omega)] | rw [if_neg (by omega)]) hH (lv_sub hl [1, 2, 3, 0] rfl)
      · refine zb_ic h dX5_sign_42 ?_
        refine lv_goto (tgt := 47) hx hb dX5_sign_43 (by decide) ?_
        exact C47 1 _ _ _  (by unfold pW; first | rw [if_pos (by omega)] | rw [if_neg (by omega)]) hH (lv_sub hl [1, 2, 3, 0] rfl)
  refine lv_aload_n hx hb dX5_sign_0 rfl (lv_at hl 0 rfl) ?_
  refine zg_5_9 h hH zf_X5_130 dX5_sign_1 ?_
  rw [zM_0]
  refine lv_aload_n hx hb dX5_sign_4 rfl (lv_at hl 0 rfl) ?_
  refine zg_5_6 h hH zf_X5_127 dX5_sign_5 ?_
  rw [zM_0]
  refine zb_cge (tgt := 23) h (by omega) (by omega) dX5_sign_8 (by decide) (fun c_8 => ?_) (fun c_8 => ?_)
  · refine zb_ic h dX5_sign_23 ?_
    exact C24 0 _ _ _  (by unfold pC; first | rw [if_pos (by omega)] | rw [if_neg (by omega)]) hH (lv_sub hl [0, 1, 2] rfl)
  · refine lv_aload_n hx hb dX5_sign_11 rfl (lv_at hl 0 rfl) ?_
    refine zg_5_5 h hH zf_X5_19 dX5_sign_12 ?_
    refine lv_aload_n hx hb dX5_sign_15 rfl (lv_at hl 0 rfl) ?_
    refine zg_5_9 h hH zf_X5_130 dX5_sign_16 ?_
    rw [zM_0]
    refine zld_ar_tx h hH (by omega) dX5_sign_19 ?_
    rw [zM_4]
    refine lv_goto (tgt := 24) hx hb dX5_sign_20 (by decide) ?_
    exact C24 (S 9 4 (S 9 0 9)) _ _ _  (by unfold pC; first | rw [if_pos (by omega)] | rw [if_neg (by omega)]) hH (lv_sub hl [0, 1, 2] rfl)
theorem dX5_number_0 : decode cX5_number 0 = .ok (.aload_n 0, 1) := by decide +kernel
theorem dX5_number_1 : decode cX5_number 1 = .ok (.bipush 48, 2) := by decide +kernel
theorem dX5_number_3 : decode cX5_number 3 = .ok (.iload_n 1, 1) := by decide +kernel
theorem dX5_number_4 : decode cX5_number 4 = .ok (.iadd, 1) := by decide +kernel
theorem dX5_number_5 : decode cX5_number 5 = .ok (.bipush 57, 2) := by decide +kernel
theorem dX5_number_7 : decode cX5_number 7 = .ok (.invokevirtual 137, 3) := by decide +kernel
theorem dX5_number_10 : decode cX5_number 10 = .ok (.bipush 48, 2) := by decide +kernel
theorem dX5_number_12 : decode cX5_number 12 = .ok (.isub, 1) := by decide +kernel
theorem dX5_number_13 : decode cX5_number 13 = .ok (.istore_n 3, 1) := by decide +kernel
theorem dX5_number_14 : decode cX5_number 14 = .ok (.aload_n 0, 1) := by decide +kernel
theorem dX5_number_15 : decode cX5_number 15 = .ok (.getfield 133, 3) := by decide +kernel
theorem dX5_number_18 : decode cX5_number 18 = .ok (.ifCond .ne 78, 3) := by decide +kernel
theorem dX5_number_21 : decode cX5_number 21 = .ok (.iload_n 3, 1) := by decide +kernel
theorem dX5_number_22 : decode cX5_number 22 = .ok (.ifCond .le 74, 3) := by decide +kernel
theorem dX5_number_25 : decode cX5_number 25 = .ok (.aload_n 0, 1) := by decide +kernel
theorem dX5_number_26 : decode cX5_number 26 = .ok (.getfield 130, 3) := by decide +kernel
theorem dX5_number_29 : decode cX5_number 29 = .ok (.aload_n 0, 1) := by decide +kernel
theorem dX5_number_30 : decode cX5_number 30 = .ok (.getfield 127, 3) := by decide +kernel
theorem dX5_number_33 : decode cX5_number 33 = .ok (.if_icmp .ge 63, 3) := by decide +kernel
theorem dX5_number_36 : decode cX5_number 36 = .ok (.aload_n 0, 1) := by decide +kernel
theorem dX5_number_37 : decode cX5_number 37 = .ok (.getfield 19, 3) := by decide +kernel
theorem dX5_number_40 : decode cX5_number 40 = .ok (.aload_n 0, 1) := by decide +kernel
theorem dX5_number_41 : decode cX5_number 41 = .ok (.getfield 130, 3) := by decide +kernel
theorem dX5_number_44 : decode cX5_number 44 = .ok (.iaload, 1) := by decide +kernel
theorem dX5_number_45 : decode cX5_number 45 = .ok (.bipush 48, 2) := by decide +kernel
theorem dX5_number_47 : decode cX5_number 47 = .ok (.bipush 57, 2) := by decide +kernel
theorem dX5_number_49 : decode cX5_number 49 = .ok (.invokestatic 32, 3) := by decide +kernel
theorem dX5_number_52 : decode cX5_number 52 = .ok (.ifCond .eq 44, 3) := by decide +kernel
theorem dX5_number_55 : decode cX5_number 55 = .ok (.bipush 10, 2) := by decide +kernel
theorem dX5_number_57 : decode cX5_number 57 = .ok (.iload_n 3, 1) := by decide +kernel
theorem dX5_number_58 : decode cX5_number 58 = .ok (.imul, 1) := by decide +kernel
theorem dX5_number_59 : decode cX5_number 59 = .ok (.aload_n 0, 1) := by decide +kernel
theorem dX5_number_60 : decode cX5_number 60 = .ok (.getfield 19, 3) := by decide +kernel
theorem dX5_number_63 : decode cX5_number 63 = .ok (.aload_n 0, 1) := by decide +kernel
theorem dX5_number_64 : decode cX5_number 64 = .ok (.getfield 130, 3) := by decide +kernel
theorem dX5_number_67 : decode cX5_number 67 = .ok (.iaload, 1) := by decide +kernel
theorem dX5_number_68 : decode cX5_number 68 = .ok (.iadd, 1) := by decide +kernel
theorem dX5_number_69 : decode cX5_number 69 = .ok (.bipush 48, 2) := by decide +kernel
theorem dX5_number_71 : decode cX5_number 71 = .ok (.isub, 1) := by decide +kernel
theorem dX5_number_72 : decode cX5_number 72 = .ok (.iload_n 2, 1) := by decide +kernel
theorem dX5_number_73 : decode cX5_number 73 = .ok (.if_icmp .gt 23, 3) := by decide +kernel
theorem dX5_number_76 : decode cX5_number 76 = .ok (.bipush 10, 2) := by decide +kernel
theorem dX5_number_78 : decode cX5_number 78 = .ok (.iload_n 3, 1) := by decide +kernel
theorem dX5_number_79 : decode cX5_number 79 = .ok (.imul, 1) := by decide +kernel
theorem dX5_number_80 : decode cX5_number 80 = .ok (.aload_n 0, 1) := by decide +kernel
theorem dX5_number_81 : decode cX5_number 81 = .ok (.bipush 48, 2) := by decide +kernel
theorem dX5_number_83 : decode cX5_number 83 = .ok (.bipush 57, 2) := by decide +kernel
theorem dX5_number_85 : decode cX5_number 85 = .ok (.invokevirtual 137, 3) := by decide +kernel
theorem dX5_number_88 : decode cX5_number 88 = .ok (.iadd, 1) := by decide +kernel
theorem dX5_number_89 : decode cX5_number 89 = .ok (.bipush 48, 2) := by decide +kernel
theorem dX5_number_91 : decode cX5_number 91 = .ok (.isub, 1) := by decide +kernel
theorem dX5_number_92 : decode cX5_number 92 = .ok (.istore_n 3, 1) := by decide +kernel
theorem dX5_number_93 : decode cX5_number 93 = .ok (.goto (-79), 3) := by decide +kernel
theorem dX5_number_96 : decode cX5_number 96 = .ok (.iload_n 3, 1) := by decide +kernel
theorem dX5_number_97 : decode cX5_number 97 = .ok (.ireturn, 1) := by decide +kernel
def q_X5_number (S : zM) (a b : Int) : Int32 → zM → Prop := fun r S1 => r = zI ((pNum (S 9 0) (S 9 4) a b).1) ∧ zMo S (pNum (S 9 0) (S 9 4) a b).2 (S 9 1) (S 9 2) (S 9 3) (S 9 4) (S 9 5) (S 9 6) = S1
def r_X5_number : Room := { frames := 2, cells := 0, slots := 0, locals := 45 }
set_option maxHeartbeats 4000000 in
set_option maxRecDepth 100000 in
theorem c_X5_number (l : Launch) (G : zG) (hG : zok G) (S : zM) (a b : Int) (ha : 0 ≤ a ∧ a ≤ 9) (hb2 : 0 ≤ b ∧ b ≤ 2000) (hpi : pI (S 9 0) (S 9 4)) : Met l yX5_number (Cond.code yX5_number cX5_number 4 (some FieldType.int) :: zTbl) r_X5_number (va_Pc [.ref (za G 9 0), .int (zI a), .int (zI b)] (zB G S)) (va_Qi (q_X5_number S a b) (zB G) (zA G)) 0 0 (zA G) := by
  refine zMet [(0, .ref (za G 9 0)), (1, .int (zI a)), (2, .int (zI b))] hG (by decide) (Nat.le_of_ble_eq_true rfl) rfl (fun p e s m args below meth c ls h hx hb hr hH hl => ?_)
  obtain ⟨p1, p2, p3, p4⟩ := id hpi
  rw [← zM_id S] at hH
  have C14 : ∀ (fu : Nat) (v n : Int) (f1 : Int → Int) (H : Heap) (locs : List Loc) (ls : Array Slot), (n).toNat < fu → (pI f1 (S 9 4)) → (-48 ≤ v ∧ v ≤ 2000) → (f1 6 - f1 9 < n) → (pNl (S 9 4) b n.toNat v f1 = pNum (S 9 0) (S 9 4) a b) → zH G (zMo S f1 (S 9 1) (S 9 2) (S 9 3) (S 9 4) (S 9 5) (S 9 6)) s H locs → lv_has ls 4 [(0, .ref (za G 9 0)), (1, .int (zI a)), (2, .int (zI b)), (3, .int (zI v))] → W p l e r_X5_number s m args below meth c H locs 0 0 (MQ below (va_Qi (q_X5_number S a b) (zB G) (zA G)) args s 0 0 (zA G)) (F0 m 14 ls []) := by
    intro fu
    induction fu with
    | zero => intro v n f1 H locs ls hfu; omega
    | succ fu ih14 =>
      intro v n f1 H locs ls hfu hp1 hv hn hp hH hl
      have hp2 := hp1.1
      have hp3 := hp1.2.1
      have hp4 := hp1.2.2.1
      refine lv_aload_n hx hb dX5_number_14 rfl (lv_at hl 0 rfl) ?_
      refine zg_5_10 h hH zf_X5_133 dX5_number_15 ?_
      rw [zM_0]
      refine zb_ine (tgt := 96) h (by omega) dX5_number_18 (by decide) (fun c_18 => ?_) (fun c_18 => ?_)
      · refine lv_iload_n hx hb dX5_number_96 rfl (lv_at hl 3 rfl) ?_
        refine zri h hr hH ?_ dX5_number_97
        have q := pNl_s (S 9 4) b v f1 (show 0 < n by omega)
        rw [if_neg (by omega), hp] at q
        exact ⟨by rw [q], by rw [q]⟩
      · refine lv_iload_n hx hb dX5_number_21 rfl (lv_at hl 3 rfl) ?_
        refine zb_ile (tgt := 96) h (by omega) dX5_number_22 (by decide) (fun c_22 => ?_) (fun c_22 => ?_)
        · refine lv_iload_n hx hb dX5_number_96 rfl (lv_at hl 3 rfl) ?_
          refine zri h hr hH ?_ dX5_number_97
          have q := pNl_s (S 9 4) b v f1 (show 0 < n by omega)
          rw [if_neg (by omega), hp] at q
          exact ⟨by rw [q], by rw [q]⟩
        · refine lv_aload_n hx hb dX5_number_25 rfl (lv_at hl 0 rfl) ?_
          refine zg_5_9 h hH zf_X5_130 dX5_number_26 ?_
          rw [zM_0]
          refine lv_aload_n hx hb dX5_number_29 rfl (lv_at hl 0 rfl) ?_
          refine zg_5_6 h hH zf_X5_127 dX5_number_30 ?_
          rw [zM_0]
          refine zb_cge (tgt := 96) h (by omega) (by omega) dX5_number_33 (by decide) (fun c_33 => ?_) (fun c_33 => ?_)
          · refine lv_iload_n hx hb dX5_number_96 rfl (lv_at hl 3 rfl) ?_
            refine zri h hr hH ?_ dX5_number_97
            have q := pNl_s (S 9 4) b v f1 (show 0 < n by omega)
            rw [if_neg (by omega), hp] at q
            exact ⟨by rw [q], by rw [q]⟩
          · refine lv_aload_n hx hb dX5_number_36 rfl (lv_at hl 0 rfl) ?_
            refine zg_5_5 h hH zf_X5_19 dX5_number_37 ?_
            refine lv_aload_n hx hb dX5_number_40 rfl (lv_at hl 0 rfl) ?_
            refine zg_5_9 h hH zf_X5_130 dX5_number_41 ?_
            rw [zM_0]
            refine zld_ar_tx h hH (by omega) dX5_number_44 ?_
            rw [zM_4]
            have b_44 := hp1.2.2.2 (f1 9) (by omega) (by have := hp1.2.1; omega)
            refine zb_bi h dX5_number_45 (by decide) (by decide) ?_
            refine zb_bi h dX5_number_47 (by decide) (by decide) ?_
            refine zcSi h hH (As := [.int (zI (S 9 4 (f1 9))), .int (zI 48), .int (zI 57)]) (rest := []) (c_X5_in l G hG (zMo S f1 (S 9 1) (S 9 2) (S 9 3) (S 9 4) (S 9 5) (S 9 6)) (S 9 4 (f1 9)) 48 57 (by omega) (by omega) (by omega)) zce_X5_in zt_X5_in zm_X5_32 hl.1 rfl rfl ⟨rfl, rfl⟩ ⟨Nat.le_of_ble_eq_true rfl, Nat.le_of_ble_eq_true rfl⟩ (Nat.le_of_ble_eq_true rfl) ⟨Nat.zero_le _, Nat.zero_le _⟩ dX5_number_49 (fun r_49 S_49 H locs hq hH => ?_)
            obtain ⟨b_49, rfl, hb_49, rfl⟩ := hq
            (try rw [zM_1] at hb_49)
            refine zb_ieq (tgt := 96) h (by omega) dX5_number_52 (by decide) (fun c_52 => ?_) (fun c_52 => ?_)
            · refine lv_iload_n hx hb dX5_number_96 rfl (lv_at hl 3 rfl) ?_
              refine zri h hr hH ?_ dX5_number_97
              have q := pNl_s (S 9 4) b v f1 (show 0 < n by omega)
              rw [if_neg (by omega), hp] at q
              exact ⟨by rw [q], by rw [q]⟩
            · refine zb_bi h dX5_number_55 (by decide) (by decide) ?_
              refine lv_iload_n hx hb dX5_number_57 rfl (lv_at hl 3 rfl) ?_
              refine zb_imul h dX5_number_58 ?_
              refine lv_aload_n hx hb dX5_number_59 rfl (lv_at hl 0 rfl) ?_
              refine zg_5_5 h hH zf_X5_19 dX5_number_60 ?_
              refine lv_aload_n hx hb dX5_number_63 rfl (lv_at hl 0 rfl) ?_
              refine zg_5_9 h hH zf_X5_130 dX5_number_64 ?_
              rw [zM_0]
              refine zld_ar_tx h hH (by omega) dX5_number_67 ?_
              rw [zM_4]
              refine zb_iadd h dX5_number_68 ?_
              refine zb_bi h dX5_number_69 (by decide) (by decide) ?_
              refine zb_isub h dX5_number_71 ?_
              refine lv_iload_n hx hb dX5_number_72 rfl (lv_at hl 2 rfl) ?_
              refine zb_cgt (tgt := 96) h (by omega) (by omega) dX5_number_73 (by decide) (fun c_73 => ?_) (fun c_73 => ?_)
              · refine lv_iload_n hx hb dX5_number_96 rfl (lv_at hl 3 rfl) ?_
                refine zri h hr hH ?_ dX5_number_97
                have q := pNl_s (S 9 4) b v f1 (show 0 < n by omega)
                rw [if_neg (by omega), hp] at q
                exact ⟨by rw [q], by rw [q]⟩
              · refine zb_bi h dX5_number_76 (by decide) (by decide) ?_
                refine lv_iload_n hx hb dX5_number_78 rfl (lv_at hl 3 rfl) ?_
                refine zb_imul h dX5_number_79 ?_
                refine lv_aload_n hx hb dX5_number_80 rfl (lv_at hl 0 rfl) ?_
                refine zb_bi h dX5_number_81 (by decide) (by decide) ?_
                refine zb_bi h dX5_number_83 (by decide) (by decide) ?_
                refine zcVi h hH (zr_5 h hH) (As := [.int (zI 48), .int (zI 57)]) (rest := [.int (zI (10 * v))]) (c_X5_sign l G hG (zMo S f1 (S 9 1) (S 9 2) (S 9 3) (S 9 4) (S 9 5) (S 9 6)) 48 57 (by omega) (by omega) (by rw [zM_0, zM_4]; exact hp1)) zce_X5_sign zcv_X5_sign zm_X5_137 hl.1 rfl rfl ⟨rfl, rfl⟩ ⟨Nat.le_of_ble_eq_true rfl, Nat.le_of_ble_eq_true rfl⟩ (Nat.le_of_ble_eq_true rfl) ⟨Nat.zero_le _, Nat.zero_le _⟩ dX5_number_85 (fun r_85 S_85 H locs hq hH => ?_)
                obtain ⟨rfl, rfl⟩ := hq
                simp only [zM_M, zM_0, zM_1, zM_2, zM_3, zM_4, zM_5, zM_6] at hH
                rw [zM_0, zM_4]
                refine zb_iadd h dX5_number_88 ?_
                refine zb_bi h dX5_number_89 (by decide) (by decide) ?_
                refine zb_isub h dX5_number_91 ?_
                refine lv_istore_n (lv' := [(3, .int (zI (((10 * v) + (pC f1 (S 9 4))) - 48))), (0, .ref (za G 9 0)), (1, .int (zI a)), (2, .int (zI b))]) hx hb dX5_number_92 rfl hl (by decide) rfl (fun ls hl => ?_)
                refine lv_goto (tgt := 14) hx hb dX5_number_93 (by decide) ?_
                exact ih14 (((10 * v) + (pC f1 (S 9 4))) - 48) (n - 1) (pF f1 (S 9 4) 48 57) _ _ _ (by omega) (pF_in hp1 (by omega)) (by have q := pW_0 (f := f1) (t := S 9 4) (lo := 48) (hi := 57) (by omega) (by omega) (by omega); omega) (by have q := pW_0 (f := f1) (t := S 9 4) (lo := 48) (hi := 57) (by omega) (by omega) (by omega); rw [pF_6, pF_9, q.1]; omega) (by have q := pW_0 (f := f1) (t := S 9 4) (lo := 48) (hi := 57) (by omega) (by omega) (by omega); rw [← hp, pNl_s _ _ _ _ (show 0 < n by omega), if_pos (by omega), q.2]) hH (lv_sub hl [1, 2, 3, 0] rfl)
  refine lv_aload_n hx hb dX5_number_0 rfl (lv_at hl 0 rfl) ?_
  refine zb_bi h dX5_number_1 (by decide) (by decide) ?_
  refine lv_iload_n hx hb dX5_number_3 rfl (lv_at hl 1 rfl) ?_
  refine zb_iadd h dX5_number_4 ?_
  refine zb_bi h dX5_number_5 (by decide) (by decide) ?_
  refine zcVi h hH (zr_5 h hH) (As := [.int (zI (48 + a)), .int (zI 57)]) (rest := []) (c_X5_sign l G hG (zMo S (S 9 0) (S 9 1) (S 9 2) (S 9 3) (S 9 4) (S 9 5) (S 9 6)) (48 + a) 57 (by omega) (by omega) (by rw [zM_0, zM_4]; exact hpi)) zce_X5_sign zcv_X5_sign zm_X5_137 hl.1 rfl rfl ⟨rfl, rfl⟩ ⟨Nat.le_of_ble_eq_true rfl, Nat.le_of_ble_eq_true rfl⟩ (Nat.le_of_ble_eq_true rfl) ⟨Nat.zero_le _, Nat.zero_le _⟩ dX5_number_7 (fun r_7 S_7 H locs hq hH => ?_)
  obtain ⟨rfl, rfl⟩ := hq
  simp only [zM_M, zM_0, zM_1, zM_2, zM_3, zM_4, zM_5, zM_6] at hH
  rw [zM_0, zM_4]
  have bc := pC_in hpi
  refine zb_bi h dX5_number_10 (by decide) (by decide) ?_
  refine zb_isub h dX5_number_12 ?_
  refine lv_istore_n (lv' := [(3, .int (zI ((pC (S 9 0) (S 9 4)) - 48))), (0, .ref (za G 9 0)), (1, .int (zI a)), (2, .int (zI b))]) hx hb dX5_number_13 rfl hl (by decide) rfl (fun ls hl => ?_)
  exact C14 ((61 : Int).toNat + 1) ((pC (S 9 0) (S 9 4)) - 48) 61 (pF (S 9 0) (S 9 4) (48 + a) 57) _ _ _ (by omega) (pF_in hpi (by omega)) (by omega) (by have q1 := pF_6 (S 9 0) (S 9 4) (48 + a) 57; have q2 := (pF_in hpi (lo := 48 + a) (hi := 57) (by omega)).1; omega) rfl hH (lv_sub hl [1, 2, 3, 0] rfl)
