theorem dX5_off_0 : decode cX5_off 0 = .ok (.iconst 0, 1) := by decide +kernel
theorem dX5_off_1 : decode cX5_off 1 = .ok (.istore_n 1, 1) := by decide +kernel
theorem dX5_off_2 : decode cX5_off 2 = .ok (.iconst 0, 1) := by decide +kernel
theorem dX5_off_3 : decode cX5_off 3 = .ok (.istore_n 2, 1) := by decide +kernel
theorem dX5_off_4 : decode cX5_off 4 = .ok (.iload_n 2, 1) := by decide +kernel
theorem dX5_off_5 : decode cX5_off 5 = .ok (.aload_n 0, 1) := by decide +kernel
theorem dX5_off_6 : decode cX5_off 6 = .ok (.getfield 7, 3) := by decide +kernel
theorem dX5_off_9 : decode cX5_off 9 = .ok (.iconst 4, 1) := by decide +kernel
theorem dX5_off_10 : decode cX5_off 10 = .ok (.iaload, 1) := by decide +kernel
theorem dX5_off_11 : decode cX5_off 11 = .ok (.if_icmp .ge 39, 3) := by decide +kernel
theorem dX5_off_14 : decode cX5_off 14 = .ok (.aload_n 0, 1) := by decide +kernel
theorem dX5_off_15 : decode cX5_off 15 = .ok (.iload_n 2, 1) := by decide +kernel
theorem dX5_off_16 : decode cX5_off 16 = .ok (.invokevirtual 71, 3) := by decide +kernel
theorem dX5_off_19 : decode cX5_off 19 = .ok (.aload_n 0, 1) := by decide +kernel
theorem dX5_off_20 : decode cX5_off 20 = .ok (.getfield 7, 3) := by decide +kernel
theorem dX5_off_23 : decode cX5_off 23 = .ok (.iload_n 2, 1) := by decide +kernel
theorem dX5_off_24 : decode cX5_off 24 = .ok (.iconst 1, 1) := by decide +kernel
theorem dX5_off_25 : decode cX5_off 25 = .ok (.invokestatic 51, 3) := by decide +kernel
theorem dX5_off_28 : decode cX5_off 28 = .ok (.iaload, 1) := by decide +kernel
theorem dX5_off_29 : decode cX5_off 29 = .ok (.isub, 1) := by decide +kernel
theorem dX5_off_30 : decode cX5_off 30 = .ok (.istore_n 3, 1) := by decide +kernel
theorem dX5_off_31 : decode cX5_off 31 = .ok (.iload_n 1, 1) := by decide +kernel
theorem dX5_off_32 : decode cX5_off 32 = .ok (.iload_n 3, 1) := by decide +kernel
theorem dX5_off_33 : decode cX5_off 33 = .ok (.ifCond .ge 8, 3) := by decide +kernel
theorem dX5_off_36 : decode cX5_off 36 = .ok (.iload_n 3, 1) := by decide +kernel
theorem dX5_off_37 : decode cX5_off 37 = .ok (.ineg, 1) := by decide +kernel
theorem dX5_off_38 : decode cX5_off 38 = .ok (.goto 4, 3) := by decide +kernel
theorem dX5_off_41 : decode cX5_off 41 = .ok (.iload_n 3, 1) := by decide +kernel
theorem dX5_off_42 : decode cX5_off 42 = .ok (.iadd, 1) := by decide +kernel
theorem dX5_off_43 : decode cX5_off 43 = .ok (.istore_n 1, 1) := by decide +kernel
theorem dX5_off_44 : decode cX5_off 44 = .ok (.iinc 2 1, 3) := by decide +kernel
theorem dX5_off_47 : decode cX5_off 47 = .ok (.goto (-43), 3) := by decide +kernel
theorem dX5_off_50 : decode cX5_off 50 = .ok (.iload_n 1, 1) := by decide +kernel
theorem dX5_off_51 : decode cX5_off 51 = .ok (.ireturn, 1) := by decide +kernel
def q_X5_off (S : zM) : Int32 → zM → Prop := fun r S1 => r = zI (tMis (S 9 1)) ∧ ∃ M', zMo S (S 9 0) (S 9 1) (S 9 2) (S 9 3) (S 9 4) M' (S 9 6) = S1
def r_X5_off : Room := { frames := 4, cells := 0, slots := 0, locals := 90 }
set_option maxHeartbeats 4000000 in
set_option maxRecDepth 100000 in
theorem c_X5_off (l : Launch) (G : zG) (hG : zok G) (S : zM) (hw : zW (S 9 1)) : Met l yX5_off (Cond.code yX5_off cX5_off 4 (some FieldType.int) :: zTbl) r_X5_off (va_Pc [.ref (za G 9 0)] (zB G S)) (va_Qi (q_X5_off S) (zB G) (zA G)) 0 0 (zA G) := by
  refine zMet [(0, .ref (za G 9 0))] hG (by decide) (Nat.le_of_ble_eq_true rfl) rfl (fun p e s m args below meth c ls h hx hb hr hH hl => ?_)
  rw [← zM_id S] at hH
  have C4 : ∀ (fu : Nat) (o n : Int) (M : Int → Int) (H : Heap) (locs : List Loc) (ls : Array Slot), (S 9 1 4 - o).toNat < fu → (0 ≤ o ∧ o ≤ S 9 1 4) → (n = zsum (fun z => zabs (tOff (S 9 1) z)) o.toNat) → zH G (zMo S (S 9 0) (S 9 1) (S 9 2) (S 9 3) (S 9 4) M (S 9 6)) s H locs → lv_has ls 4 [(0, .ref (za G 9 0)), (1, .int (zI n)), (2, .int (zI o))] → W p l e r_X5_off s m args below meth c H locs 0 0 (MQ below (va_Qi (q_X5_off S) (zB G) (zA G)) args s 0 0 (zA G)) (F0 m 4 ls []) := by
    intro fu
    induction fu with
    | zero => intro o n M H locs ls hfu; omega
    | succ fu ih4 =>
      intro o n M H locs ls hfu ho hn hH hl
      refine lv_iload_n hx hb dX5_off_4 rfl (lv_at hl 2 rfl) ?_
      refine lv_aload_n hx hb dX5_off_5 rfl (lv_at hl 0 rfl) ?_
      refine zg_5_1 h hH zf_X5_7 dX5_off_6 ?_
      refine zb_ic h dX5_off_9 ?_
      refine zld_ar_s h hH (by omega) dX5_off_10 ?_
      rw [zM_1]
      have f_10 := zW_4 hw
      refine zb_cge (tgt := 50) h (by omega) (by omega) dX5_off_11 (by decide) (fun c_11 => ?_) (fun c_11 => ?_)
      · refine lv_iload_n hx hb dX5_off_50 rfl (lv_at hl 1 rfl) ?_
        refine zri h hr hH ?_ dX5_off_51
        obtain rfl : o = S 9 1 4 := by omega
        exact ⟨by rw [hn]; rfl, _, rfl⟩
      · refine lv_aload_n hx hb dX5_off_14 rfl (lv_at hl 0 rfl) ?_
        refine lv_iload_n hx hb dX5_off_15 rfl (lv_at hl 2 rfl) ?_
        refine zcVi h hH (zr_5 h hH) (As := [.int (zI o)]) (rest := []) (c_X5_tone l G hG (zMo S (S 9 0) (S 9 1) (S 9 2) (S 9 3) (S 9 4) M (S 9 6)) o (by omega) (zM_hw hw)) zce_X5_tone zcv_X5_tone zm_X5_71 hl.1 rfl rfl ⟨rfl, rfl⟩ ⟨Nat.le_of_ble_eq_true rfl, Nat.le_of_ble_eq_true rfl⟩ (Nat.le_of_ble_eq_true rfl) ⟨Nat.zero_le _, Nat.zero_le _⟩ dX5_off_16 (fun r_16 S_16 H locs hq hH => ?_)
        obtain ⟨rfl, M_16, rfl⟩ := hq
        simp only [zM_M, zM_0, zM_1, zM_2, zM_3, zM_4, zM_5, zM_6] at hH
        rw [zM_1]
        have b_16 := tTo_in (S 9 1) o
        refine lv_aload_n hx hb dX5_off_19 rfl (lv_at hl 0 rfl) ?_
        refine zg_5_1 h hH zf_X5_7 dX5_off_20 ?_
        refine lv_iload_n hx hb dX5_off_23 rfl (lv_at hl 2 rfl) ?_
        refine zb_ic h dX5_off_24 ?_
        refine zcSi h hH (As := [.int (zI o), .int (zI 1)]) (rest := [.ref (za G 9 1), .int (zI (tTo (S 9 1) o))]) (c_X5_of l G hG (zMo S (S 9 0) (S 9 1) (S 9 2) (S 9 3) (S 9 4) M_16 (S 9 6)) o 1) zce_X5_of zt_X5_of zm_X5_51 hl.1 rfl rfl ⟨rfl, rfl⟩ ⟨Nat.le_of_ble_eq_true rfl, Nat.le_of_ble_eq_true rfl⟩ (Nat.le_of_ble_eq_true rfl) ⟨Nat.zero_le _, Nat.zero_le _⟩ dX5_off_25 (fun r_25 S_25 H locs hq hH => ?_)
        obtain ⟨rfl, rfl⟩ := hq
        refine zld_ar_s h hH (by omega) dX5_off_28 ?_
        rw [zM_1]
        have f_28 := zW_wa hw (show 0 ≤ o ∧ o < 8 by omega)
        refine zb_isub h dX5_off_29 ?_
        refine lv_istore_n (lv' := [(3, .int (zI ((tTo (S 9 1) o) - (S 9 1 (5 + 5 * o + 1))))), (0, .ref (za G 9 0)), (1, .int (zI n)), (2, .int (zI o))]) hx hb dX5_off_30 rfl hl (by decide) rfl (fun ls hl => ?_)
        refine lv_iload_n hx hb dX5_off_31 rfl (lv_at hl 2 rfl) ?_
        refine lv_iload_n hx hb dX5_off_32 rfl (lv_at hl 0 rfl) ?_
        refine zb_ige (tgt := 41) h (by omega) dX5_off_33 (by decide) (fun c_33 => ?_) (fun c_33 => ?_)
        · refine lv_iload_n hx hb dX5_off_41 rfl (lv_at hl 0 rfl) ?_
          refine zb_iadd h dX5_off_42 ?_
          refine lv_istore_n (lv' := [(1, .int (zI (n + ((tTo (S 9 1) o) - (S 9 1 (5 + 5 * o + 1)))))), (3, .int (zI ((tTo (S 9 1) o) - (S 9 1 (5 + 5 * o + 1))))), (0, .ref (za G 9 0)), (2, .int (zI o))]) hx hb dX5_off_43 rfl hl (by decide) rfl (fun ls hl => ?_)
          refine lv_iinc (v := zI (o + 1)) (lv' := [(2, .int (zI (o + 1))), (1, .int (zI (n + ((tTo (S 9 1) o) - (S 9 1 (5 + 5 * o + 1)))))), (3, .int (zI ((tTo (S 9 1) o) - (S 9 1 (5 + 5 * o + 1))))), (0, .ref (za G 9 0))]) hx hb dX5_off_44 hl (k := 3) rfl (zI_add _ _) (by decide) rfl (fun ls hl => ?_)
          refine lv_goto (tgt := 4) hx hb dX5_off_47 (by decide) ?_
          exact ih4 (o + 1) (n + ((tTo (S 9 1) o) - (S 9 1 (5 + 5 * o + 1)))) M_16 _ _ _ (by omega) (by have := zW_4 hw; omega) (by rw [zsum_s _ ho.1, hn]; unfold zabs tOff; first | rw [if_pos (by omega)] | rw [if_neg (by omega)]) hH (lv_sub hl [3, 1, 0] rfl)
        · refine lv_iload_n hx hb dX5_off_36 rfl (lv_at hl 0 rfl) ?_
          refine zb_ineg h dX5_off_37 ?_
          refine lv_goto (tgt := 42) hx hb dX5_off_38 (by decide) ?_
          refine zb_iadd h dX5_off_42 ?_
          refine lv_istore_n (lv' := [(1, .int (zI (n + (-((tTo (S 9 1) o) - (S 9 1 (5 + 5 * o + 1))))))), (3, .int (zI ((tTo (S 9 1) o) - (S 9 1 (5 + 5 * o + 1))))), (0, .ref (za G 9 0)), (2, .int (zI o))]) hx hb dX5_off_43 rfl hl (by decide) rfl (fun ls hl => ?_)
          refine lv_iinc (v := zI (o + 1)) (lv' := [(2, .int (zI (o + 1))), (1, .int (zI (n + (-((tTo (S 9 1) o) - (S 9 1 (5 + 5 * o + 1))))))), (3, .int (zI ((tTo (S 9 1) o) - (S 9 1 (5 + 5 * o + 1))))), (0, .ref (za G 9 0))]) hx hb dX5_off_44 hl (k := 3) rfl (zI_add _ _) (by decide) rfl (fun ls hl => ?_)
          refine lv_goto (tgt := 4) hx hb dX5_off_47 (by decide) ?_
          exact ih4 (o + 1) (n + (-((tTo (S 9 1) o) - (S 9 1 (5 + 5 * o + 1))))) M_16 _ _ _ (by omega) (by have := zW_4 hw; omega) (by rw [zsum_s _ ho.1, hn]; unfold zabs tOff; first | rw [if_pos (by omega)] | rw [if_neg (by omega)]) hH (lv_sub hl [3, 1, 0] rfl)
  refine zb_ic h dX5_off_0 ?_
  refine lv_istore_n (lv' := [(1, .int (zI 0)), (0, .ref (za G 9 0))]) hx hb dX5_off_1 rfl hl (by decide) rfl (fun ls hl => ?_)
  refine zb_ic h dX5_off_2 ?_
  refine lv_istore_n (lv' := [(2, .int (zI 0)), (1, .int (zI 0)), (0, .ref (za G 9 0))]) hx hb dX5_off_3 rfl hl (by decide) rfl (fun ls hl => ?_)
  exact C4 ((S 9 1 4 - 0 : Int).toNat + 1) 0 0 (S 9 5) _ _ _ (by omega) (by have := zW_4 hw; omega) rfl hH (lv_sub hl [2, 1, 0] rfl)
theorem dX5_exposed_0 : decode cX5_exposed 0 = .ok (.aload_n 0, 1) := by decide +kernel
theorem dX5_exposed_1 : decode cX5_exposed 1 = .ok (.getfield 7, 3) := by decide +kernel
theorem dX5_exposed_4 : decode cX5_exposed 4 = .ok (.iconst 0, 1) := by decide +kernel
theorem dX5_exposed_5 : decode cX5_exposed 5 = .ok (.iaload, 1) := by decide +kernel
theorem dX5_exposed_6 : decode cX5_exposed 6 = .ok (.istore_n 3, 1) := by decide +kernel
theorem dX5_exposed_7 : decode cX5_exposed 7 = .ok (.aload_n 0, 1) := by decide +kernel
theorem dX5_exposed_8 : decode cX5_exposed 8 = .ok (.getfield 7, 3) := by decide +kernel
theorem dX5_exposed_11 : decode cX5_exposed 11 = .ok (.iconst 0, 1) := by decide +kernel
theorem dX5_exposed_12 : decode cX5_exposed 12 = .ok (.iload_n 1, 1) := by decide +kernel
theorem dX5_exposed_13 : decode cX5_exposed 13 = .ok (.iastore, 1) := by decide +kernel
theorem dX5_exposed_14 : decode cX5_exposed 14 = .ok (.iload_n 2, 1) := by decide +kernel
theorem dX5_exposed_15 : decode cX5_exposed 15 = .ok (.ifCond .ne 10, 3) := by decide +kernel
theorem dX5_exposed_18 : decode cX5_exposed 18 = .ok (.aload_n 0, 1) := by decide +kernel
theorem dX5_exposed_19 : decode cX5_exposed 19 = .ok (.invokevirtual 107, 3) := by decide +kernel
theorem dX5_exposed_22 : decode cX5_exposed 22 = .ok (.goto 7, 3) := by decide +kernel
theorem dX5_exposed_25 : decode cX5_exposed 25 = .ok (.aload_n 0, 1) := by decide +kernel
theorem dX5_exposed_26 : decode cX5_exposed 26 = .ok (.invokevirtual 185, 3) := by decide +kernel
theorem dX5_exposed_29 : decode cX5_exposed 29 = .ok (.istore 4, 2) := by decide +kernel
theorem dX5_exposed_31 : decode cX5_exposed 31 = .ok (.aload_n 0, 1) := by decide +kernel
theorem dX5_exposed_32 : decode cX5_exposed 32 = .ok (.getfield 7, 3) := by decide +kernel
theorem dX5_exposed_35 : decode cX5_exposed 35 = .ok (.iconst 0, 1) := by decide +kernel
theorem dX5_exposed_36 : decode cX5_exposed 36 = .ok (.iload_n 3, 1) := by decide +kernel
theorem dX5_exposed_37 : decode cX5_exposed 37 = .ok (.iastore, 1) := by decide +kernel
theorem dX5_exposed_38 : decode cX5_exposed 38 = .ok (.iload 4, 2) := by decide +kernel
theorem dX5_exposed_40 : decode cX5_exposed 40 = .ok (.ireturn, 1) := by decide +kernel
def q_X5_exposed (S : zM) (t w : Int) : Int32 → zM → Prop := fun r S1 => r = zI (tEx (S 9 1) t w) ∧ ∃ M', zMo S (S 9 0) (S 9 1) (S 9 2) (S 9 3) (S 9 4) M' (S 9 6) = S1
def r_X5_exposed : Room := { frames := 6, cells := 0, slots := 0, locals := 133 }
set_option maxHeartbeats 4000000 in
set_option maxRecDepth 100000 in
theorem c_X5_exposed (l : Launch) (G : zG) (hG : zok G) (S : zM) (t w : Int) (ht : 1 ≤ t ∧ t ≤ 2000) (hwh : 0 ≤ w ∧ w ≤ 1) (hw : zW (S 9 1)) : Met l yX5_exposed (Cond.code yX5_exposed cX5_exposed 5 (some FieldType.int) :: zTbl) r_X5_exposed (va_Pc [.ref (za G 9 0), .int (zI t), .int (zI w)] (zB G S)) (va_Qi (q_X5_exposed S t w) (zB G) (zA G)) 0 0 (zA G) := by
  refine zMet [(0, .ref (za G 9 0)), (1, .int (zI t)), (2, .int (zI w))] hG (by decide) (Nat.le_of_ble_eq_true rfl) rfl (fun p e s m args below meth c ls h hx hb hr hH hl => ?_)
  rw [← zM_id S] at hH
  refine lv_aload_n hx hb dX5_exposed_0 rfl (lv_at hl 0 rfl) ?_
  refine zg_5_1 h hH zf_X5_7 dX5_exposed_1 ?_
  refine zb_ic h dX5_exposed_4 ?_
  refine zld_ar_s h hH (by omega) dX5_exposed_5 ?_
  rw [zM_1]
  have f_5 := zW_0 hw
  refine lv_istore_n (lv' := [(3, .int (zI (S 9 1 0))), (0, .ref (za G 9 0)), (1, .int (zI t)), (2, .int (zI w))]) hx hb dX5_exposed_6 rfl hl (by decide) rfl (fun ls hl => ?_)
  refine lv_aload_n hx hb dX5_exposed_7 rfl (lv_at hl 1 rfl) ?_
  refine zg_5_1 h hH zf_X5_7 dX5_exposed_8 ?_
  refine zb_ic h dX5_exposed_11 ?_
  refine lv_iload_n hx hb dX5_exposed_12 rfl (lv_at hl 2 rfl) ?_
  refine zst_ar_s h hH (by omega) dX5_exposed_13 (fun H locs hH => ?_)
  rw [zs_M1] at hH
  have hw1 := zW_up0 hw ht
  refine lv_iload_n hx hb dX5_exposed_14 rfl (lv_at hl 3 rfl) ?_
  refine zb_ine (tgt := 25) h (by omega) dX5_exposed_15 (by decide) (fun c_15 => ?_) (fun c_15 => ?_)
  · refine lv_aload_n hx hb dX5_exposed_25 rfl (lv_at hl 1 rfl) ?_
    refine zcVi h hH (zr_5 h hH) (As := []) (rest := []) (c_X5_off l G hG (zMo S (S 9 0) (zup (S 9 1) (0) t) (S 9 2) (S 9 3) (S 9 4) (S 9 5) (S 9 6)) (zM_hw hw1)) zce_X5_off zcv_X5_off zm_X5_185 hl.1 rfl rfl ⟨rfl, rfl⟩ ⟨Nat.le_of_ble_eq_true rfl, Nat.le_of_ble_eq_true rfl⟩ (Nat.le_of_ble_eq_true rfl) ⟨Nat.zero_le _, Nat.zero_le _⟩ dX5_exposed_26 (fun r_26 S_26 H locs hq hH => ?_)
    obtain ⟨rfl, M_26, rfl⟩ := hq
    simp only [zM_M, zM_0, zM_1, zM_2, zM_3, zM_4, zM_5, zM_6] at hH
    rw [zM_1]
    refine lv_istore (lv' := [(4, .int (zI (tMis (zup (S 9 1) (0) t)))), (3, .int (zI (S 9 1 0))), (0, .ref (za G 9 0)), (1, .int (zI t)), (2, .int (zI w))]) hx hb dX5_exposed_29 hl (by decide) rfl (fun ls hl => ?_)
    refine lv_aload_n hx hb dX5_exposed_31 rfl (lv_at hl 2 rfl) ?_
    refine zg_5_1 h hH zf_X5_7 dX5_exposed_32 ?_
    refine zb_ic h dX5_exposed_35 ?_
    refine lv_iload_n hx hb dX5_exposed_36 rfl (lv_at hl 1 rfl) ?_
    refine zst_ar_s h hH (by omega) dX5_exposed_37 (fun H locs hH => ?_)
    rw [zs_M1] at hH
    rw [zup_back] at hH
    refine lv_iload hx hb dX5_exposed_38 (lv_at hl 0 rfl) ?_
    refine zri h hr hH ?_ dX5_exposed_40
    exact ⟨congrArg zI (by unfold tEx; first | rw [if_pos (by omega)] | rw [if_neg (by omega)]), _, rfl⟩
  · refine lv_aload_n hx hb dX5_exposed_18 rfl (lv_at hl 1 rfl) ?_
    refine zcVi h hH (zr_5 h hH) (As := []) (rest := []) (c_X5_right l G hG (zMo S (S 9 0) (zup (S 9 1) (0) t) (S 9 2) (S 9 3) (S 9 4) (S 9 5) (S 9 6)) (zM_hw hw1)) zce_X5_right zcv_X5_right zm_X5_107 hl.1 rfl rfl ⟨rfl, rfl⟩ ⟨Nat.le_of_ble_eq_true rfl, Nat.le_of_ble_eq_true rfl⟩ (Nat.le_of_ble_eq_true rfl) ⟨Nat.zero_le _, Nat.zero_le _⟩ dX5_exposed_19 (fun r_19 S_19 H locs hq hH => ?_)
    obtain ⟨rfl, M_19, rfl⟩ := hq
    simp only [zM_M, zM_0, zM_1, zM_2, zM_3, zM_4, zM_5, zM_6] at hH
    rw [zM_1]
    refine lv_goto (tgt := 29) hx hb dX5_exposed_22 (by decide) ?_
    refine lv_istore (lv' := [(4, .int (zI (tCnt (zup (S 9 1) (0) t) 0))), (3, .int (zI (S 9 1 0))), (0, .ref (za G 9 0)), (1, .int (zI t)), (2, .int (zI w))]) hx hb dX5_exposed_29 hl (by decide) rfl (fun ls hl => ?_)
    refine lv_aload_n hx hb dX5_exposed_31 rfl (lv_at hl 2 rfl) ?_
    refine zg_5_1 h hH zf_X5_7 dX5_exposed_32 ?_
    refine zb_ic h dX5_exposed_35 ?_
    refine lv_iload_n hx hb dX5_exposed_36 rfl (lv_at hl 1 rfl) ?_
    refine zst_ar_s h hH (by omega) dX5_exposed_37 (fun H locs hH => ?_)
    rw [zs_M1] at hH
    rw [zup_back] at hH
    refine lv_iload hx hb dX5_exposed_38 (lv_at hl 0 rfl) ?_
    refine zri h hr hH ?_ dX5_exposed_40
    exact ⟨congrArg zI (by unfold tEx; first | rw [if_pos (by omega)] | rw [if_neg (by omega)]), _, rfl⟩
theorem dX5_best_0 : decode cX5_best 0 = .ok (.bipush 10, 2) := by decide +kernel
theorem dX5_best_2 : decode cX5_best 2 = .ok (.istore_n 1, 1) := by decide +kernel
theorem dX5_best_3 : decode cX5_best 3 = .ok (.aload_n 0, 1) := by decide +kernel
theorem dX5_best_4 : decode cX5_best 4 = .ok (.bipush 10, 2) := by decide +kernel
theorem dX5_best_6 : decode cX5_best 6 = .ok (.iconst 1, 1) := by decide +kernel
theorem dX5_best_7 : decode cX5_best 7 = .ok (.invokevirtual 188, 3) := by decide +kernel
theorem dX5_best_10 : decode cX5_best 10 = .ok (.istore_n 2, 1) := by decide +kernel
theorem dX5_best_11 : decode cX5_best 11 = .ok (.bipush 20, 2) := by decide +kernel
theorem dX5_best_13 : decode cX5_best 13 = .ok (.istore_n 3, 1) := by decide +kernel
theorem dX5_best_14 : decode cX5_best 14 = .ok (.iload_n 3, 1) := by decide +kernel
theorem dX5_best_15 : decode cX5_best 15 = .ok (.sipush 2000, 3) := by decide +kernel
theorem dX5_best_18 : decode cX5_best 18 = .ok (.if_icmp .gt 42, 3) := by decide +kernel
theorem dX5_best_21 : decode cX5_best 21 = .ok (.aload_n 0, 1) := by decide +kernel
theorem dX5_best_22 : decode cX5_best 22 = .ok (.iload_n 3, 1) := by decide +kernel
theorem dX5_best_23 : decode cX5_best 23 = .ok (.iconst 1, 1) := by decide +kernel
theorem dX5_best_24 : decode cX5_best 24 = .ok (.invokevirtual 188, 3) := by decide +kernel
theorem dX5_best_27 : decode cX5_best 27 = .ok (.istore 4, 2) := by decide +kernel
theorem dX5_best_29 : decode cX5_best 29 = .ok (.iload 4, 2) := by decide +kernel
theorem dX5_best_31 : decode cX5_best 31 = .ok (.iload_n 2, 1) := by decide +kernel
theorem dX5_best_32 : decode cX5_best 32 = .ok (.if_icmp .ge 7, 3) := by decide +kernel
theorem dX5_best_35 : decode cX5_best 35 = .ok (.iload_n 3, 1) := by decide +kernel
theorem dX5_best_36 : decode cX5_best 36 = .ok (.goto 4, 3) := by decide +kernel
theorem dX5_best_39 : decode cX5_best 39 = .ok (.iload_n 1, 1) := by decide +kernel
theorem dX5_best_40 : decode cX5_best 40 = .ok (.istore_n 1, 1) := by decide +kernel
theorem dX5_best_41 : decode cX5_best 41 = .ok (.iload 4, 2) := by decide +kernel
theorem dX5_best_43 : decode cX5_best 43 = .ok (.iload_n 2, 1) := by decide +kernel
theorem dX5_best_44 : decode cX5_best 44 = .ok (.if_icmp .ge 8, 3) := by decide +kernel
theorem dX5_best_47 : decode cX5_best 47 = .ok (.iload 4, 2) := by decide +kernel
theorem dX5_best_49 : decode cX5_best 49 = .ok (.goto 4, 3) := by decide +kernel
theorem dX5_best_52 : decode cX5_best 52 = .ok (.iload_n 2, 1) := by decide +kernel
theorem dX5_best_53 : decode cX5_best 53 = .ok (.istore_n 2, 1) := by decide +kernel
theorem dX5_best_54 : decode cX5_best 54 = .ok (.iinc 3 10, 3) := by decide +kernel
theorem dX5_best_57 : decode cX5_best 57 = .ok (.goto (-43), 3) := by decide +kernel
theorem dX5_best_60 : decode cX5_best 60 = .ok (.iload_n 1, 1) := by decide +kernel
theorem dX5_best_61 : decode cX5_best 61 = .ok (.ireturn, 1) := by decide +kernel
def q_X5_best (S : zM) : Int32 → zM → Prop := fun r S1 => r = zI (tBt (S 9 1)) ∧ ∃ M', zMo S (S 9 0) (S 9 1) (S 9 2) (S 9 3) (S 9 4) M' (S 9 6) = S1
def r_X5_best : Room := { frames := 7, cells := 0, slots := 0, locals := 157 }
set_option maxHeartbeats 4000000 in
set_option maxRecDepth 100000 in
theorem c_X5_best (l : Launch) (G : zG) (hG : zok G) (S : zM) (hw : zW (S 9 1)) : Met l yX5_best (Cond.code yX5_best cX5_best 5 (some FieldType.int) :: zTbl) r_X5_best (va_Pc [.ref (za G 9 0)] (zB G S)) (va_Qi (q_X5_best S) (zB G) (zA G)) 0 0 (zA G) := by
  refine zMet [(0, .ref (za G 9 0))] hG (by decide) (Nat.le_of_ble_eq_true rfl) rfl (fun p e s m args below meth c ls h hx hb hr hH hl => ?_)
  rw [← zM_id S] at hH
  have C14 : ∀ (fu : Nat) (a b t n : Int) (M : Int → Int) (H : Heap) (locs : List Loc) (ls : Array Slot), (199 - n).toNat < fu → (0 ≤ n ∧ n ≤ 199) → (t = 20 + 10 * n) → (a = tBF (S 9 1) n.toNat) → (b = tBL (S 9 1) n.toNat) → (0 ≤ b ∧ b ≤ 80) → zH G (zMo S (S 9 0) (S 9 1) (S 9 2) (S 9 3) (S 9 4) M (S 9 6)) s H locs → lv_has ls 5 [(0, .ref (za G 9 0)), (1, .int (zI a)), (2, .int (zI b)), (3, .int (zI t))] → W p l e r_X5_best s m args below meth c H locs 0 0 (MQ below (va_Qi (q_X5_best S) (zB G) (zA G)) args s 0 0 (zA G)) (F0 m 14 ls []) := by
    intro fu
    induction fu with
    | zero => intro a b t n M H locs ls hfu; omega
    | succ fu ih14 =>
      intro a b t n M H locs ls hfu hn ht ha hb2 hbb hH hl
      refine lv_iload_n hx hb dX5_best_14 rfl (lv_at hl 3 rfl) ?_
      refine zb_si h dX5_best_15 (by decide) (by decide) ?_
      refine zb_cgt (tgt := 60) h (by omega) (by omega) dX5_best_18 (by decide) (fun c_18 => ?_) (fun c_18 => ?_)
      · refine lv_iload_n hx hb dX5_best_60 rfl (lv_at hl 1 rfl) ?_
        refine zri h hr hH ?_ dX5_best_61
        obtain rfl : n = 199 := by omega
        exact ⟨by rw [ha]; rfl, _, rfl⟩
      · refine lv_aload_n hx hb dX5_best_21 rfl (lv_at hl 0 rfl) ?_
        refine lv_iload_n hx hb dX5_best_22 rfl (lv_at hl 3 rfl) ?_
        refine zb_ic h dX5_best_23 ?_
        refine zcVi h hH (zr_5 h hH) (As := [.int (zI t), .int (zI 1)]) (rest := []) (c_X5_exposed l G hG (zMo S (S 9 0) (S 9 1) (S 9 2) (S 9 3) (S 9 4) M (S 9 6)) t 1 (by omega) (by omega) (zM_hw hw)) zce_X5_exposed zcv_X5_exposed zm_X5_188 hl.1 rfl rfl ⟨rfl, rfl⟩ ⟨Nat.le_of_ble_eq_true rfl, Nat.le_of_ble_eq_true rfl⟩ (Nat.le_of_ble_eq_true rfl) ⟨Nat.zero_le _, Nat.zero_le _⟩ dX5_best_24 (fun r_24 S_24 H locs hq hH => ?_)
        obtain ⟨rfl, M_24, rfl⟩ := hq
        simp only [zM_M, zM_0, zM_1, zM_2, zM_3, zM_4, zM_5, zM_6] at hH
        rw [zM_1]
        have b_24 := tEx_in hw (show 1 ≤ t ∧ t ≤ 2000 by omega) 1
        refine lv_istore (lv' := [(4, .int (zI (tEx (S 9 1) t 1))), (0, .ref (za G 9 0)), (1, .int (zI a)), (2, .int (zI b)), (3, .int (zI t))]) hx hb dX5_best_27 hl (by decide) rfl (fun ls hl => ?_)
        refine lv_iload hx hb dX5_best_29 (lv_at hl 0 rfl) ?_
        refine lv_iload_n hx hb dX5_best_31 rfl (lv_at hl 3 rfl) ?_
        refine zb_cge (tgt := 39) h (by omega) (by omega) dX5_best_32 (by decide) (fun c_32 => ?_) (fun c_32 => ?_)
        · refine lv_iload_n hx hb dX5_best_39 rfl (lv_at hl 2 rfl) ?_
          refine lv_istore_n (lv' := [(1, .int (zI a)), (4, .int (zI (tEx (S 9 1) t 1))), (0, .ref (za G 9 0)), (2, .int (zI b)), (3, .int (zI t))]) hx hb dX5_best_40 rfl hl (by decide) rfl (fun ls hl => ?_)
          refine lv_iload hx hb dX5_best_41 (lv_at hl 1 rfl) ?_
          refine lv_iload_n hx hb dX5_best_43 rfl (lv_at hl 3 rfl) ?_
          refine zb_cge (tgt := 52) h (by omega) (by omega) dX5_best_44 (by decide) (fun c_44 => ?_) (fun c_44 => ?_)
          · refine lv_iload_n hx hb dX5_best_52 rfl (lv_at hl 3 rfl) ?_
            refine lv_istore_n (lv' := [(2, .int (zI b)), (1, .int (zI a)), (4, .int (zI (tEx (S 9 1) t 1))), (0, .ref (za G 9 0)), (3, .int (zI t))]) hx hb dX5_best_53 rfl hl (by decide) rfl (fun ls hl => ?_)
            refine lv_iinc (v := zI (t + 10)) (lv' := [(3, .int (zI (t + 10))), (2, .int (zI b)), (1, .int (zI a)), (4, .int (zI (tEx (S 9 1) t 1))), (0, .ref (za G 9 0))]) hx hb dX5_best_54 hl (k := 4) rfl (zI_add _ _) (by decide) rfl (fun ls hl => ?_)
            refine lv_goto (tgt := 14) hx hb dX5_best_57 (by decide) ?_
            exact ih14 a b (t + 10) (n + 1) M_24 _ _ _ (by omega) (by omega) (by omega) (by rw [tBF_s _ hn.1, ← ht, ← hb2]; first | (exfalso; omega) | rw [if_pos (by omega)] | (rw [if_neg (by omega)]; exact ha)) (by rw [tBL_s _ hn.1, ← ht, ← hb2]; first | (exfalso; omega) | (rw [if_pos (by omega)]; done) | (rw [if_neg (by omega)]; done)) (by omega) hH (lv_sub hl [4, 2, 1, 0] rfl)
          · refine lv_iload hx hb dX5_best_47 (lv_at hl 1 rfl) ?_
            refine lv_goto (tgt := 53) hx hb dX5_best_49 (by decide) ?_
            refine lv_istore_n (lv' := [(2, .int (zI (tEx (S 9 1) t 1))), (1, .int (zI a)), (4, .int (zI (tEx (S 9 1) t 1))), (0, .ref (za G 9 0)), (3, .int (zI t))]) hx hb dX5_best_53 rfl hl (by decide) rfl (fun ls hl => ?_)
            refine lv_iinc (v := zI (t + 10)) (lv' := [(3, .int (zI (t + 10))), (2, .int (zI (tEx (S 9 1) t 1))), (1, .int (zI a)), (4, .int (zI (tEx (S 9 1) t 1))), (0, .ref (za G 9 0))]) hx hb dX5_best_54 hl (k := 4) rfl (zI_add _ _) (by decide) rfl (fun ls hl => ?_)
            refine lv_goto (tgt := 14) hx hb dX5_best_57 (by decide) ?_
            exact ih14 a (tEx (S 9 1) t 1) (t + 10) (n + 1) M_24 _ _ _ (by omega) (by omega) (by omega) (by rw [tBF_s _ hn.1, ← ht, ← hb2]; first | (exfalso; omega) | rw [if_pos (by omega)] | (rw [if_neg (by omega)]; exact ha)) (by rw [tBL_s _ hn.1, ← ht, ← hb2]; first | (exfalso; omega) | (rw [if_pos (by omega)]; done) | (rw [if_neg (by omega)]; done)) (by omega) hH (lv_sub hl [4, 2, 1, 0] rfl)
        · refine lv_iload_n hx hb dX5_best_35 rfl (lv_at hl 4 rfl) ?_
          refine lv_goto (tgt := 40) hx hb dX5_best_36 (by decide) ?_
          refine lv_istore_n (lv' := [(1, .int (zI t)), (4, .int (zI (tEx (S 9 1) t 1))), (0, .ref (za G 9 0)), (2, .int (zI b)), (3, .int (zI t))]) hx hb dX5_best_40 rfl hl (by decide) rfl (fun ls hl => ?_)
          refine lv_iload hx hb dX5_best_41 (lv_at hl 1 rfl) ?_
          refine lv_iload_n hx hb dX5_best_43 rfl (lv_at hl 3 rfl) ?_
          refine zb_cge (tgt := 52) h (by omega) (by omega) dX5_best_44 (by decide) (fun c_44 => ?_) (fun c_44 => ?_)
          · refine lv_iload_n hx hb dX5_best_52 rfl (lv_at hl 3 rfl) ?_
            refine lv_istore_n (lv' := [(2, .int (zI b)), (1, .int (zI t)), (4, .int (zI (tEx (S 9 1) t 1))), (0, .ref (za G 9 0)), (3, .int (zI t))]) hx hb dX5_best_53 rfl hl (by decide) rfl (fun ls hl => ?_)
            refine lv_iinc (v := zI (t + 10)) (lv' := [(3, .int (zI (t + 10))), (2, .int (zI b)), (1, .int (zI t)), (4, .int (zI (tEx (S 9 1) t 1))), (0, .ref (za G 9 0))]) hx hb dX5_best_54 hl (k := 4) rfl (zI_add _ _) (by decide) rfl (fun ls hl => ?_)
            refine lv_goto (tgt := 14) hx hb dX5_best_57 (by decide) ?_
            exact ih14 t b (t + 10) (n + 1) M_24 _ _ _ (by omega) (by omega) (by omega) (by rw [tBF_s _ hn.1, ← ht, ← hb2]; first | (exfalso; omega) | rw [if_pos (by omega)] | (rw [if_neg (by omega)]; exact ha)) (by rw [tBL_s _ hn.1, ← ht, ← hb2]; first | (exfalso; omega) | (rw [if_pos (by omega)]; done) | (rw [if_neg (by omega)]; done)) (by omega) hH (lv_sub hl [4, 2, 1, 0] rfl)
          · refine lv_iload hx hb dX5_best_47 (lv_at hl 1 rfl) ?_
            refine lv_goto (tgt := 53) hx hb dX5_best_49 (by decide) ?_
            refine lv_istore_n (lv' := [(2, .int (zI (tEx (S 9 1) t 1))), (1, .int (zI t)), (4, .int (zI (tEx (S 9 1) t 1))), (0, .ref (za G 9 0)), (3, .int (zI t))]) hx hb dX5_best_53 rfl hl (by decide) rfl (fun ls hl => ?_)
            refine lv_iinc (v := zI (t + 10)) (lv' := [(3, .int (zI (t + 10))), (2, .int (zI (tEx (S 9 1) t 1))), (1, .int (zI t)), (4, .int (zI (tEx (S 9 1) t 1))), (0, .ref (za G 9 0))]) hx hb dX5_best_54 hl (k := 4) rfl (zI_add _ _) (by decide) rfl (fun ls hl => ?_)
            refine lv_goto (tgt := 14) hx hb dX5_best_57 (by decide) ?_
            exact ih14 t (tEx (S 9 1) t 1) (t + 10) (n + 1) M_24 _ _ _ (by omega) (by omega) (by omega) (by rw [tBF_s _ hn.1, ← ht, ← hb2]; first | (exfalso; omega) | rw [if_pos (by omega)] | (rw [if_neg (by omega)]; exact ha)) (by rw [tBL_s _ hn.1, ← ht, ← hb2]; first | (exfalso; omega) | (rw [if_pos (by omega)]; done) | (rw [if_neg (by omega)]; done)) (by omega) hH (lv_sub hl [4, 2, 1, 0] rfl)
  refine zb_bi h dX5_best_0 (by decide) (by decide) ?_
  refine lv_istore_n (lv' := [(1, .int (zI 10)), (0, .ref (za G 9 0))]) hx hb dX5_best_2 rfl hl (by decide) rfl (fun ls hl => ?_)
  refine lv_aload_n hx hb dX5_best_3 rfl (lv_at hl 1 rfl) ?_
  refine zb_bi h dX5_best_4 (by decide) (by decide) ?_
  refine zb_ic h dX5_best_6 ?_
  refine zcVi h hH (zr_5 h hH) (As := [.int (zI 10), .int (zI 1)]) (rest := []) (c_X5_exposed l G hG (zMo S (S 9 0) (S 9 1) (S 9 2) (S 9 3) (S 9 4) (S 9 5) (S 9 6)) 10 1 (by omega) (by omega) (zM_hw hw)) zce_X5_exposed zcv_X5_exposed zm_X5_188 hl.1 rfl rfl ⟨rfl, rfl⟩ ⟨Nat.le_of_ble_eq_true rfl, Nat.le_of_ble_eq_true rfl⟩ (Nat.le_of_ble_eq_true rfl) ⟨Nat.zero_le _, Nat.zero_le _⟩ dX5_best_7 (fun r_7 S_7 H locs hq hH => ?_)
  obtain ⟨rfl, M_7, rfl⟩ := hq
  simp only [zM_M, zM_0, zM_1, zM_2, zM_3, zM_4, zM_5, zM_6] at hH
  rw [zM_1]
  refine lv_istore_n (lv' := [(2, .int (zI (tEx (S 9 1) 10 1))), (1, .int (zI 10)), (0, .ref (za G 9 0))]) hx hb dX5_best_10 rfl hl (by decide) rfl (fun ls hl => ?_)
  refine zb_bi h dX5_best_11 (by decide) (by decide) ?_
  refine lv_istore_n (lv' := [(3, .int (zI 20)), (2, .int (zI (tEx (S 9 1) 10 1))), (1, .int (zI 10)), (0, .ref (za G 9 0))]) hx hb dX5_best_13 rfl hl (by decide) rfl (fun ls hl => ?_)
  exact C14 ((199 - 0 : Int).toNat + 1) 10 (tEx (S 9 1) 10 1) 20 0 M_7 _ _ _ (by omega) (by omega) (by omega) rfl rfl (tEx_in hw (by omega) 1) hH (lv_sub hl [3, 2, 1, 0] rfl)
theorem dX5_burned_0 : decode cX5_burned 0 = .ok (.aload_n 0, 1) := by decide +kernel
theorem dX5_burned_1 : decode cX5_burned 1 = .ok (.getfield 7, 3) := by decide +kernel
theorem dX5_burned_4 : decode cX5_burned 4 = .ok (.iload_n 1, 1) := by decide +kernel
theorem dX5_burned_5 : decode cX5_burned 5 = .ok (.iconst 2, 1) := by decide +kernel
theorem dX5_burned_6 : decode cX5_burned 6 = .ok (.invokestatic 51, 3) := by decide +kernel
theorem dX5_burned_9 : decode cX5_burned 9 = .ok (.iaload, 1) := by decide +kernel
theorem dX5_burned_10 : decode cX5_burned 10 = .ok (.istore 4, 2) := by decide +kernel
theorem dX5_burned_12 : decode cX5_burned 12 = .ok (.aload_n 0, 1) := by decide +kernel
theorem dX5_burned_13 : decode cX5_burned 13 = .ok (.getfield 7, 3) := by decide +kernel
theorem dX5_burned_16 : decode cX5_burned 16 = .ok (.iload_n 1, 1) := by decide +kernel
theorem dX5_burned_17 : decode cX5_burned 17 = .ok (.iconst 2, 1) := by decide +kernel
theorem dX5_burned_18 : decode cX5_burned 18 = .ok (.invokestatic 51, 3) := by decide +kernel
theorem dX5_burned_21 : decode cX5_burned 21 = .ok (.iload_n 2, 1) := by decide +kernel
theorem dX5_burned_22 : decode cX5_burned 22 = .ok (.iastore, 1) := by decide +kernel
theorem dX5_burned_23 : decode cX5_burned 23 = .ok (.iload_n 3, 1) := by decide +kernel
theorem dX5_burned_24 : decode cX5_burned 24 = .ok (.ifCond .ne 11, 3) := by decide +kernel
theorem dX5_burned_27 : decode cX5_burned 27 = .ok (.aload_n 0, 1) := by decide +kernel
theorem dX5_burned_28 : decode cX5_burned 28 = .ok (.iload_n 1, 1) := by decide +kernel
theorem dX5_burned_29 : decode cX5_burned 29 = .ok (.invokevirtual 71, 3) := by decide +kernel
theorem dX5_burned_32 : decode cX5_burned 32 = .ok (.goto 7, 3) := by decide +kernel
theorem dX5_burned_35 : decode cX5_burned 35 = .ok (.aload_n 0, 1) := by decide +kernel
theorem dX5_burned_36 : decode cX5_burned 36 = .ok (.invokevirtual 107, 3) := by decide +kernel
theorem dX5_burned_39 : decode cX5_burned 39 = .ok (.istore 5, 2) := by decide +kernel
theorem dX5_burned_41 : decode cX5_burned 41 = .ok (.aload_n 0, 1) := by decide +kernel
theorem dX5_burned_42 : decode cX5_burned 42 = .ok (.getfield 7, 3) := by decide +kernel
theorem dX5_burned_45 : decode cX5_burned 45 = .ok (.iload_n 1, 1) := by decide +kernel
theorem dX5_burned_46 : decode cX5_burned 46 = .ok (.iconst 2, 1) := by decide +kernel
theorem dX5_burned_47 : decode cX5_burned 47 = .ok (.invokestatic 51, 3) := by decide +kernel
theorem dX5_burned_50 : decode cX5_burned 50 = .ok (.iload 4, 2) := by decide +kernel
theorem dX5_burned_52 : decode cX5_burned 52 = .ok (.iastore, 1) := by decide +kernel
theorem dX5_burned_53 : decode cX5_burned 53 = .ok (.iload 5, 2) := by decide +kernel
theorem dX5_burned_55 : decode cX5_burned 55 = .ok (.ireturn, 1) := by decide +kernel
def q_X5_burned (S : zM) (z t w : Int) : Int32 → zM → Prop := fun r S1 => r = zI (tBu (S 9 1) z t w) ∧ ∃ M', zMo S (S 9 0) (S 9 1) (S 9 2) (S 9 3) (S 9 4) M' (S 9 6) = S1
def r_X5_burned : Room := { frames := 6, cells := 0, slots := 0, locals := 133 }
set_option maxHeartbeats 4000000 in
set_option maxRecDepth 100000 in
theorem c_X5_burned (l : Launch) (G : zG) (hG : zok G) (S : zM) (z t w : Int) (hz : 0 ≤ z ∧ z < 8) (ht : 0 ≤ t ∧ t ≤ 999) (hwh : 0 ≤ w ∧ w ≤ 1) (hw : zW (S 9 1)) : Met l yX5_burned (Cond.code yX5_burned cX5_burned 6 (some FieldType.int) :: zTbl) r_X5_burned (va_Pc [.ref (za G 9 0), .int (zI z), .int (zI t), .int (zI w)] (zB G S)) (va_Qi (q_X5_burned S z t w) (zB G) (zA G)) 0 0 (zA G) := by
  refine zMet [(0, .ref (za G 9 0)), (1, .int (zI z)), (2, .int (zI t)), (3, .int (zI w))] hG (by decide) (Nat.le_of_ble_eq_true rfl) rfl (fun p e s m args below meth c ls h hx hb hr hH hl => ?_)
  rw [← zM_id S] at hH
  refine lv_aload_n hx hb dX5_burned_0 rfl (lv_at hl 0 rfl) ?_
  refine zg_5_1 h hH zf_X5_7 dX5_burned_1 ?_
  refine lv_iload_n hx hb dX5_burned_4 rfl (lv_at hl 1 rfl) ?_
  refine zb_ic h dX5_burned_5 ?_
  refine zcSi h hH (As := [.int (zI z), .int (zI 2)]) (rest := [.ref (za G 9 1)]) (c_X5_of l G hG (zMo S (S 9 0) (S 9 1) (S 9 2) (S 9 3) (S 9 4) (S 9 5) (S 9 6)) z 2) zce_X5_of zt_X5_of zm_X5_51 hl.1 rfl rfl ⟨rfl, rfl⟩ ⟨Nat.le_of_ble_eq_true rfl, Nat.le_of_ble_eq_true rfl⟩ (Nat.le_of_ble_eq_true rfl) ⟨Nat.zero_le _, Nat.zero_le _⟩ dX5_burned_6 (fun r_6 S_6 H locs hq hH => ?_)
  obtain ⟨rfl, rfl⟩ := hq
  refine zld_ar_s h hH (by omega) dX5_burned_9 ?_
  rw [zM_1]
  have f_9 := zW_bu hw (show 0 ≤ z ∧ z < 8 by omega)
  refine lv_istore (lv' := [(4, .int (zI (S 9 1 (5 + 5 * z + 2)))), (0, .ref (za G 9 0)), (1, .int (zI z)), (2, .int (zI t)), (3, .int (zI w))]) hx hb dX5_burned_10 hl (by decide) rfl (fun ls hl => ?_)
  refine lv_aload_n hx hb dX5_burned_12 rfl (lv_at hl 1 rfl) ?_
  refine zg_5_1 h hH zf_X5_7 dX5_burned_13 ?_
  refine lv_iload_n hx hb dX5_burned_16 rfl (lv_at hl 2 rfl) ?_
  refine zb_ic h dX5_burned_17 ?_
  refine zcSi h hH (As := [.int (zI z), .int (zI 2)]) (rest := [.ref (za G 9 1)]) (c_X5_of l G hG (zMo S (S 9 0) (S 9 1) (S 9 2) (S 9 3) (S 9 4) (S 9 5) (S 9 6)) z 2) zce_X5_of zt_X5_of zm_X5_51 hl.1 rfl rfl ⟨rfl, rfl⟩ ⟨Nat.le_of_ble_eq_true rfl, Nat.le_of_ble_eq_true rfl⟩ (Nat.le_of_ble_eq_true rfl) ⟨Nat.zero_le _, Nat.zero_le _⟩ dX5_burned_18 (fun r_18 S_18 H locs hq hH => ?_)
  obtain ⟨rfl, rfl⟩ := hq
  refine lv_iload_n hx hb dX5_burned_21 rfl (lv_at hl 3 rfl) ?_
  refine zst_ar_s h hH (by omega) dX5_burned_22 (fun H locs hH => ?_)
  rw [zs_M1] at hH
  have hw1 := zW_upz hw (z := z) (w := 2) (v := t) hz.1 (by omega) (by omega) rfl
  refine lv_iload_n hx hb dX5_burned_23 rfl (lv_at hl 4 rfl) ?_
  refine zb_ine (tgt := 35) h (by omega) dX5_burned_24 (by decide) (fun c_24 => ?_) (fun c_24 => ?_)
  · refine lv_aload_n hx hb dX5_burned_35 rfl (lv_at hl 1 rfl) ?_
    refine zcVi h hH (zr_5 h hH) (As := []) (rest := []) (c_X5_right l G hG (zMo S (S 9 0) (zup (S 9 1) ((5 + 5 * z + 2)) t) (S 9 2) (S 9 3) (S 9 4) (S 9 5) (S 9 6)) (zM_hw hw1)) zce_X5_right zcv_X5_right zm_X5_107 hl.1 rfl rfl ⟨rfl, rfl⟩ ⟨Nat.le_of_ble_eq_true rfl, Nat.le_of_ble_eq_true rfl⟩ (Nat.le_of_ble_eq_true rfl) ⟨Nat.zero_le _, Nat.zero_le _⟩ dX5_burned_36 (fun r_36 S_36 H locs hq hH => ?_)
    obtain ⟨rfl, M_36, rfl⟩ := hq
    simp only [zM_M, zM_0, zM_1, zM_2, zM_3, zM_4, zM_5, zM_6] at hH
    rw [zM_1]
    refine lv_istore (lv' := [(5, .int (zI (tCnt (zup (S 9 1) ((5 + 5 * z + 2)) t) 0))), (4, .int (zI (S 9 1 (5 + 5 * z + 2)))), (0, .ref (za G 9 0)), (1, .int (zI z)), (2, .int (zI t)), (3, .int (zI w))]) hx hb dX5_burned_39 hl (by decide) rfl (fun ls hl => ?_)
    refine lv_aload_n hx hb dX5_burned_41 rfl (lv_at hl 2 rfl) ?_
    refine zg_5_1 h hH zf_X5_7 dX5_burned_42 ?_
    refine lv_iload_n hx hb dX5_burned_45 rfl (lv_at hl 3 rfl) ?_
    refine zb_ic h dX5_burned_46 ?_
    refine zcSi h hH (As := [.int (zI z), .int (zI 2)]) (rest := [.ref (za G 9 1)]) (c_X5_of l G hG (zMo S (S 9 0) (zup (S 9 1) ((5 + 5 * z + 2)) t) (S 9 2) (S 9 3) (S 9 4) M_36 (S 9 6)) z 2) zce_X5_of zt_X5_of zm_X5_51 hl.1 rfl rfl ⟨rfl, rfl⟩ ⟨Nat.le_of_ble_eq_true rfl, Nat.le_of_ble_eq_true rfl⟩ (Nat.le_of_ble_eq_true rfl) ⟨Nat.zero_le _, Nat.zero_le _⟩ dX5_burned_47 (fun r_47 S_47 H locs hq hH => ?_)
    obtain ⟨rfl, rfl⟩ := hq
    refine lv_iload hx hb dX5_burned_50 (lv_at hl 1 rfl) ?_
    refine zst_ar_s h hH (by omega) dX5_burned_52 (fun H locs hH => ?_)
    rw [zs_M1] at hH
    rw [zup_back] at hH
    refine lv_iload hx hb dX5_burned_53 (lv_at hl 0 rfl) ?_
    refine zri h hr hH ?_ dX5_burned_55
    exact ⟨congrArg zI (by unfold tBu; first | rw [if_pos (by omega)] | rw [if_neg (by omega)]), _, rfl⟩
  · refine lv_aload_n hx hb dX5_burned_27 rfl (lv_at hl 1 rfl) ?_
    refine lv_iload_n hx hb dX5_burned_28 rfl (lv_at hl 2 rfl) ?_
    refine zcVi h hH (zr_5 h hH) (As := [.int (zI z)]) (rest := []) (c_X5_tone l G hG (zMo S (S 9 0) (zup (S 9 1) ((5 + 5 * z + 2)) t) (S 9 2) (S 9 3) (S 9 4) (S 9 5) (S 9 6)) z (by omega) (zM_hw hw1)) zce_X5_tone zcv_X5_tone zm_X5_71 hl.1 rfl rfl ⟨rfl, rfl⟩ ⟨Nat.le_of_ble_eq_true rfl, Nat.le_of_ble_eq_true rfl⟩ (Nat.le_of_ble_eq_true rfl) ⟨Nat.zero_le _, Nat.zero_le _⟩ dX5_burned_29 (fun r_29 S_29 H locs hq hH => ?_)
    obtain ⟨rfl, M_29, rfl⟩ := hq
    simp only [zM_M, zM_0, zM_1, zM_2, zM_3, zM_4, zM_5, zM_6] at hH
    rw [zM_1]
    refine lv_goto (tgt := 39) hx hb dX5_burned_32 (by decide) ?_
    refine lv_istore (lv' := [(5, .int (zI (tTo (zup (S 9 1) ((5 + 5 * z + 2)) t) z))), (4, .int (zI (S 9 1 (5 + 5 * z + 2)))), (0, .ref (za G 9 0)), (1, .int (zI z)), (2, .int (zI t)), (3, .int (zI w))]) hx hb dX5_burned_39 hl (by decide) rfl (fun ls hl => ?_)
    refine lv_aload_n hx hb dX5_burned_41 rfl (lv_at hl 2 rfl) ?_
    refine zg_5_1 h hH zf_X5_7 dX5_burned_42 ?_
    refine lv_iload_n hx hb dX5_burned_45 rfl (lv_at hl 3 rfl) ?_
    refine zb_ic h dX5_burned_46 ?_
    refine zcSi h hH (As := [.int (zI z), .int (zI 2)]) (rest := [.ref (za G 9 1)]) (c_X5_of l G hG (zMo S (S 9 0) (zup (S 9 1) ((5 + 5 * z + 2)) t) (S 9 2) (S 9 3) (S 9 4) M_29 (S 9 6)) z 2) zce_X5_of zt_X5_of zm_X5_51 hl.1 rfl rfl ⟨rfl, rfl⟩ ⟨Nat.le_of_ble_eq_true rfl, Nat.le_of_ble_eq_true rfl⟩ (Nat.le_of_ble_eq_true rfl) ⟨Nat.zero_le _, Nat.zero_le _⟩ dX5_burned_47 (fun r_47 S_47 H locs hq hH => ?_)
    obtain ⟨rfl, rfl⟩ := hq
    refine lv_iload hx hb dX5_burned_50 (lv_at hl 1 rfl) ?_
    refine zst_ar_s h hH (by omega) dX5_burned_52 (fun H locs hH => ?_)
    rw [zs_M1] at hH
    rw [zup_back] at hH
    refine lv_iload hx hb dX5_burned_53 (lv_at hl 0 rfl) ?_
    refine zri h hr hH ?_ dX5_burned_55
    exact ⟨congrArg zI (by unfold tBu; first | rw [if_pos (by omega)] | rw [if_neg (by omega)]), _, rfl⟩
theorem dX5_together_0 : decode cX5_together 0 = .ok (.iconst (-1), 1) := by decide +kernel
theorem dX5_together_1 : decode cX5_together 1 = .ok (.istore_n 2, 1) := by decide +kernel
theorem dX5_together_2 : decode cX5_together 2 = .ok (.sipush 9999, 3) := by decide +kernel
theorem dX5_together_5 : decode cX5_together 5 = .ok (.istore_n 3, 1) := by decide +kernel
theorem dX5_together_6 : decode cX5_together 6 = .ok (.iconst 0, 1) := by decide +kernel
theorem dX5_together_7 : decode cX5_together 7 = .ok (.istore 4, 2) := by decide +kernel
theorem dX5_together_9 : decode cX5_together 9 = .ok (.iload 4, 2) := by decide +kernel
theorem dX5_together_11 : decode cX5_together 11 = .ok (.aload_n 0, 1) := by decide +kernel
theorem dX5_together_12 : decode cX5_together 12 = .ok (.getfield 7, 3) := by decide +kernel
theorem dX5_together_15 : decode cX5_together 15 = .ok (.iconst 4, 1) := by decide +kernel
theorem dX5_together_16 : decode cX5_together 16 = .ok (.iaload, 1) := by decide +kernel
theorem dX5_together_17 : decode cX5_together 17 = .ok (.if_icmp .ge 57, 3) := by decide +kernel
theorem dX5_together_20 : decode cX5_together 20 = .ok (.aload_n 0, 1) := by decide +kernel
theorem dX5_together_21 : decode cX5_together 21 = .ok (.iload 4, 2) := by decide +kernel
theorem dX5_together_23 : decode cX5_together 23 = .ok (.invokevirtual 81, 3) := by decide +kernel
theorem dX5_together_26 : decode cX5_together 26 = .ok (.istore 5, 2) := by decide +kernel
theorem dX5_together_28 : decode cX5_together 28 = .ok (.aload_n 0, 1) := by decide +kernel
theorem dX5_together_29 : decode cX5_together 29 = .ok (.iload 4, 2) := by decide +kernel
theorem dX5_together_31 : decode cX5_together 31 = .ok (.invokevirtual 163, 3) := by decide +kernel
theorem dX5_together_34 : decode cX5_together 34 = .ok (.istore 6, 2) := by decide +kernel
theorem dX5_together_36 : decode cX5_together 36 = .ok (.iload 5, 2) := by decide +kernel
theorem dX5_together_38 : decode cX5_together 38 = .ok (.iload_n 2, 1) := by decide +kernel
theorem dX5_together_39 : decode cX5_together 39 = .ok (.if_icmp .le 8, 3) := by decide +kernel
theorem dX5_together_42 : decode cX5_together 42 = .ok (.iload 5, 2) := by decide +kernel
theorem dX5_together_44 : decode cX5_together 44 = .ok (.goto 4, 3) := by decide +kernel
theorem dX5_together_47 : decode cX5_together 47 = .ok (.iload_n 2, 1) := by decide +kernel
theorem dX5_together_48 : decode cX5_together 48 = .ok (.istore_n 2, 1) := by decide +kernel
theorem dX5_together_49 : decode cX5_together 49 = .ok (.iload 5, 2) := by decide +kernel
theorem dX5_together_51 : decode cX5_together 51 = .ok (.iconst (-1), 1) := by decide +kernel
theorem dX5_together_52 : decode cX5_together 52 = .ok (.if_icmp .eq 14, 3) := by decide +kernel
theorem dX5_together_55 : decode cX5_together 55 = .ok (.iload 6, 2) := by decide +kernel
theorem dX5_together_57 : decode cX5_together 57 = .ok (.iload_n 3, 1) := by decide +kernel
theorem dX5_together_58 : decode cX5_together 58 = .ok (.if_icmp .ge 8, 3) := by decide +kernel
theorem dX5_together_61 : decode cX5_together 61 = .ok (.iload 6, 2) := by decide +kernel
theorem dX5_together_63 : decode cX5_together 63 = .ok (.goto 4, 3) := by decide +kernel
theorem dX5_together_66 : decode cX5_together 66 = .ok (.iload_n 3, 1) := by decide +kernel
theorem dX5_together_67 : decode cX5_together 67 = .ok (.istore_n 3, 1) := by decide +kernel
theorem dX5_together_68 : decode cX5_together 68 = .ok (.iinc 4 1, 3) := by decide +kernel
theorem dX5_together_71 : decode cX5_together 71 = .ok (.goto (-62), 3) := by decide +kernel
theorem dX5_together_74 : decode cX5_together 74 = .ok (.iload_n 2, 1) := by decide +kernel
theorem dX5_together_75 : decode cX5_together 75 = .ok (.iconst (-1), 1) := by decide +kernel
theorem dX5_together_76 : decode cX5_together 76 = .ok (.if_icmp .eq 8, 3) := by decide +kernel
theorem dX5_together_79 : decode cX5_together 79 = .ok (.iload_n 2, 1) := by decide +kernel
theorem dX5_together_80 : decode cX5_together 80 = .ok (.iload_n 3, 1) := by decide +kernel
theorem dX5_together_81 : decode cX5_together 81 = .ok (.if_icmp .le 7, 3) := by decide +kernel
theorem dX5_together_84 : decode cX5_together 84 = .ok (.iconst (-1), 1) := by decide +kernel
theorem dX5_together_85 : decode cX5_together 85 = .ok (.goto 12, 3) := by decide +kernel
theorem dX5_together_88 : decode cX5_together 88 = .ok (.iload_n 1, 1) := by decide +kernel
theorem dX5_together_89 : decode cX5_together 89 = .ok (.ifCond .ne 7, 3) := by decide +kernel
theorem dX5_together_92 : decode cX5_together 92 = .ok (.iload_n 2, 1) := by decide +kernel
theorem dX5_together_93 : decode cX5_together 93 = .ok (.goto 4, 3) := by decide +kernel
theorem dX5_together_96 : decode cX5_together 96 = .ok (.iload_n 3, 1) := by decide +kernel
theorem dX5_together_97 : decode cX5_together 97 = .ok (.ireturn, 1) := by decide +kernel
def q_X5_together (S : zM) (what : Int) : Int32 → zM → Prop := fun r S1 => r = zI (tCo (S 9 1) what) ∧ ∃ M', zMo S (S 9 0) (S 9 1) (S 9 2) (S 9 3) (S 9 4) M' (S 9 6) = S1
def r_X5_together : Room := { frames := 6, cells := 0, slots := 0, locals := 137 }
set_option maxHeartbeats 4000000 in
set_option maxRecDepth 100000 in
theorem c_X5_together (l : Launch) (G : zG) (hG : zok G) (S : zM) (what : Int) (hwh : 0 ≤ what ∧ what ≤ 1) (hw : zW (S 9 1)) : Met l yX5_together (Cond.code yX5_together cX5_together 7 (some FieldType.int) :: zTbl) r_X5_together (va_Pc [.ref (za G 9 0), .int (zI what)] (zB G S)) (va_Qi (q_X5_together S what) (zB G) (zA G)) 0 0 (zA G) := by
  refine zMet [(0, .ref (za G 9 0)), (1, .int (zI what))] hG (by decide) (Nat.le_of_ble_eq_true rfl) rfl (fun p e s m args below meth c ls h hx hb hr hH hl => ?_)
  rw [← zM_id S] at hH
  have C9 : ∀ (fu : Nat) (o a b : Int) (M : Int → Int) (H : Heap) (locs : List Loc) (ls : Array Slot), (S 9 1 4 - o).toNat < fu → (0 ≤ o ∧ o ≤ S 9 1 4) → (a = tCL (S 9 1) o.toNat) → (b = tCG (S 9 1) o.toNat) → zH G (zMo S (S 9 0) (S 9 1) (S 9 2) (S 9 3) (S 9 4) M (S 9 6)) s H locs → lv_has ls 7 [(0, .ref (za G 9 0)), (1, .int (zI what)), (2, .int (zI a)), (3, .int (zI b)), (4, .int (zI o))] → W p l e r_X5_together s m args below meth c H locs 0 0 (MQ below (va_Qi (q_X5_together S what) (zB G) (zA G)) args s 0 0 (zA G)) (F0 m 9 ls []) := by
    intro fu
    induction fu with
    | zero => intro o a b M H locs ls hfu; omega
    | succ fu ih9 =>
      intro o a b M H locs ls hfu ho ha hb2 hH hl
      have ba := tCL_in hw o.toNat
      have bb := tCG_in hw o.toNat
      refine lv_iload hx hb dX5_together_9 (lv_at hl 4 rfl) ?_
      refine lv_aload_n hx hb dX5_together_11 rfl (lv_at hl 0 rfl) ?_
      refine zg_5_1 h hH zf_X5_7 dX5_together_12 ?_
      refine zb_ic h dX5_together_15 ?_
      refine zld_ar_s h hH (by omega) dX5_together_16 ?_
      rw [zM_1]
      have f_16 := zW_4 hw
      refine zb_cge (tgt := 74) h (by omega) (by omega) dX5_together_17 (by decide) (fun c_17 => ?_) (fun c_17 => ?_)
      · refine lv_iload_n hx hb dX5_together_74 rfl (lv_at hl 2 rfl) ?_
        refine zb_ic h dX5_together_75 ?_
        refine zb_ceq (tgt := 84) h (by omega) (by omega) dX5_together_76 (by decide) (fun c_76 => ?_) (fun c_76 => ?_)
        · refine zb_ic h dX5_together_84 ?_
          refine lv_goto (tgt := 97) hx hb dX5_together_85 (by decide) ?_
          refine zri h hr hH ?_ dX5_together_97
          obtain rfl : o = S 9 1 4 := by omega
          exact ⟨congrArg zI (by unfold tCo; rw [← ha, ← hb2]; (repeat split) <;> omega), _, rfl⟩
        · refine lv_iload_n hx hb dX5_together_79 rfl (lv_at hl 2 rfl) ?_
          refine lv_iload_n hx hb dX5_together_80 rfl (lv_at hl 3 rfl) ?_
          refine zb_cle (tgt := 88) h (by omega) (by omega) dX5_together_81 (by decide) (fun c_81 => ?_) (fun c_81 => ?_)
          · refine lv_iload_n hx hb dX5_together_88 rfl (lv_at hl 1 rfl) ?_
            refine zb_ine (tgt := 96) h (by omega) dX5_together_89 (by decide) (fun c_89 => ?_) (fun c_89 => ?_)
            · refine lv_iload_n hx hb dX5_together_96 rfl (lv_at hl 3 rfl) ?_
              refine zri h hr hH ?_ dX5_together_97
              obtain rfl : o = S 9 1 4 := by omega
              exact ⟨congrArg zI (by unfold tCo; rw [← ha, ← hb2]; (repeat split) <;> omega), _, rfl⟩
            · refine lv_iload_n hx hb dX5_together_92 rfl (lv_at hl 2 rfl) ?_
              refine lv_goto (tgt := 97) hx hb dX5_together_93 (by decide) ?_
              refine zri h hr hH ?_ dX5_together_97
              obtain rfl : o = S 9 1 4 := by omega
              exact ⟨congrArg zI (by unfold tCo; rw [← ha, ← hb2]; (repeat split) <;> omega), _, rfl⟩
          · refine zb_ic h dX5_together_84 ?_
            refine lv_goto (tgt := 97) hx hb dX5_together_85 (by decide) ?_
            refine zri h hr hH ?_ dX5_together_97
            obtain rfl : o = S 9 1 4 := by omega
            exact ⟨congrArg zI (by unfold tCo; rw [← ha, ← hb2]; (repeat split) <;> omega), _, rfl⟩
      · refine lv_aload_n hx hb dX5_together_20 rfl (lv_at hl 0 rfl) ?_
        refine lv_iload hx hb dX5_together_21 (lv_at hl 4 rfl) ?_
        refine zcVi h hH (zr_5 h hH) (As := [.int (zI o)]) (rest := []) (c_X5_leastNeeded l G hG (zMo S (S 9 0) (S 9 1) (S 9 2) (S 9 3) (S 9 4) M (S 9 6)) o (by omega) (zM_hw hw)) zce_X5_leastNeeded zcv_X5_leastNeeded zm_X5_81 hl.1 rfl rfl ⟨rfl, rfl⟩ ⟨Nat.le_of_ble_eq_true rfl, Nat.le_of_ble_eq_true rfl⟩ (Nat.le_of_ble_eq_true rfl) ⟨Nat.zero_le _, Nat.zero_le _⟩ dX5_together_23 (fun r_23 S_23 H locs hq hH => ?_)
        obtain ⟨rfl, M_23, rfl⟩ := hq
        simp only [zM_M, zM_0, zM_1, zM_2, zM_3, zM_4, zM_5, zM_6] at hH
        rw [zM_1]
        have b_23 := tLn_in hw o
        refine lv_istore (lv' := [(5, .int (zI (tLn (S 9 1) o))), (0, .ref (za G 9 0)), (1, .int (zI what)), (2, .int (zI a)), (3, .int (zI b)), (4, .int (zI o))]) hx hb dX5_together_26 hl (by decide) rfl (fun ls hl => ?_)
        refine lv_aload_n hx hb dX5_together_28 rfl (lv_at hl 1 rfl) ?_
        refine lv_iload hx hb dX5_together_29 (lv_at hl 5 rfl) ?_
        refine zcVi h hH (zr_5 h hH) (As := [.int (zI o)]) (rest := []) (c_X5_greatestNeeded l G hG (zMo S (S 9 0) (S 9 1) (S 9 2) (S 9 3) (S 9 4) M_23 (S 9 6)) o (by omega) (zM_hw hw)) zce_X5_greatestNeeded zcv_X5_greatestNeeded zm_X5_163 hl.1 rfl rfl ⟨rfl, rfl⟩ ⟨Nat.le_of_ble_eq_true rfl, Nat.le_of_ble_eq_true rfl⟩ (Nat.le_of_ble_eq_true rfl) ⟨Nat.zero_le _, Nat.zero_le _⟩ dX5_together_31 (fun r_31 S_31 H locs hq hH => ?_)
        obtain ⟨rfl, M_31, rfl⟩ := hq
        simp only [zM_M, zM_0, zM_1, zM_2, zM_3, zM_4, zM_5, zM_6] at hH
        rw [zM_1]
        have b_31 := tGn_in hw o
        refine lv_istore (lv' := [(6, .int (zI (tGn (S 9 1) o))), (5, .int (zI (tLn (S 9 1) o))), (0, .ref (za G 9 0)), (1, .int (zI what)), (2, .int (zI a)), (3, .int (zI b)), (4, .int (zI o))]) hx hb dX5_together_34 hl (by decide) rfl (fun ls hl => ?_)
        refine lv_iload hx hb dX5_together_36 (lv_at hl 1 rfl) ?_
        refine lv_iload_n hx hb dX5_together_38 rfl (lv_at hl 4 rfl) ?_
        refine zb_cle (tgt := 47) h (by omega) (by omega) dX5_together_39 (by decide) (fun c_39 => ?_) (fun c_39 => ?_)
        · refine lv_iload_n hx hb dX5_together_47 rfl (lv_at hl 4 rfl) ?_
          refine lv_istore_n (lv' := [(2, .int (zI a)), (6, .int (zI (tGn (S 9 1) o))), (5, .int (zI (tLn (S 9 1) o))), (0, .ref (za G 9 0)), (1, .int (zI what)), (3, .int (zI b)), (4, .int (zI o))]) hx hb dX5_together_48 rfl hl (by decide) rfl (fun ls hl => ?_)
          refine lv_iload hx hb dX5_together_49 (lv_at hl 2 rfl) ?_
          refine zb_ic h dX5_together_51 ?_
          refine zb_ceq (tgt := 66) h (by omega) (by omega) dX5_together_52 (by decide) (fun c_52 => ?_) (fun c_52 => ?_)
          · refine lv_iload_n hx hb dX5_together_66 rfl (lv_at hl 5 rfl) ?_
            refine lv_istore_n (lv' := [(3, .int (zI b)), (2, .int (zI a)), (6, .int (zI (tGn (S 9 1) o))), (5, .int (zI (tLn (S 9 1) o))), (0, .ref (za G 9 0)), (1, .int (zI what)), (4, .int (zI o))]) hx hb dX5_together_67 rfl hl (by decide) rfl (fun ls hl => ?_)
            refine lv_iinc (v := zI (o + 1)) (lv' := [(4, .int (zI (o + 1))), (3, .int (zI b)), (2, .int (zI a)), (6, .int (zI (tGn (S 9 1) o))), (5, .int (zI (tLn (S 9 1) o))), (0, .ref (za G 9 0)), (1, .int (zI what))]) hx hb dX5_together_68 hl (k := 6) rfl (zI_add _ _) (by decide) rfl (fun ls hl => ?_)
            refine lv_goto (tgt := 9) hx hb dX5_together_71 (by decide) ?_
            exact ih9 (o + 1) a b M_31 _ _ _ (by omega) (by have := zW_4 hw; omega) (by rw [tCL_s _ ho.1]; split <;> omega) (by rw [tCG_s _ ho.1]; split <;> omega) hH (lv_sub hl [5, 6, 2, 1, 0] rfl)
          · refine lv_iload hx hb dX5_together_55 (lv_at hl 1 rfl) ?_
            refine lv_iload_n hx hb dX5_together_57 rfl (lv_at hl 5 rfl) ?_
            refine zb_cge (tgt := 66) h (by omega) (by omega) dX5_together_58 (by decide) (fun c_58 => ?_) (fun c_58 => ?_)
            · refine lv_iload_n hx hb dX5_together_66 rfl (lv_at hl 5 rfl) ?_
              refine lv_istore_n (lv' := [(3, .int (zI b)), (2, .int (zI a)), (6, .int (zI (tGn (S 9 1) o))), (5, .int (zI (tLn (S 9 1) o))), (0, .ref (za G 9 0)), (1, .int (zI what)), (4, .int (zI o))]) hx hb dX5_together_67 rfl hl (by decide) rfl (fun ls hl => ?_)
              refine lv_iinc (v := zI (o + 1)) (lv' := [(4, .int (zI (o + 1))), (3, .int (zI b)), (2, .int (zI a)), (6, .int (zI (tGn (S 9 1) o))), (5, .int (zI (tLn (S 9 1) o))), (0, .ref (za G 9 0)), (1, .int (zI what))]) hx hb dX5_together_68 hl (k := 6) rfl (zI_add _ _) (by decide) rfl (fun ls hl => ?_)
              refine lv_goto (tgt := 9) hx hb dX5_together_71 (by decide) ?_
              exact ih9 (o + 1) a b M_31 _ _ _ (by omega) (by have := zW_4 hw; omega) (by rw [tCL_s _ ho.1]; split <;> omega) (by rw [tCG_s _ ho.1]; split <;> omega) hH (lv_sub hl [5, 6, 2, 1, 0] rfl)
            · refine lv_iload hx hb dX5_together_61 (lv_at hl 1 rfl) ?_
              refine lv_goto (tgt := 67) hx hb dX5_together_63 (by decide) ?_
              refine lv_istore_n (lv' := [(3, .int (zI (tGn (S 9 1) o))), (2, .int (zI a)), (6, .int (zI (tGn (S 9 1) o))), (5, .int (zI (tLn (S 9 1) o))), (0, .ref (za G 9 0)), (1, .int (zI what)), (4, .int (zI o))]) hx hb dX5_together_67 rfl hl (by decide) rfl (fun ls hl => ?_)
              refine lv_iinc (v := zI (o + 1)) (lv' := [(4, .int (zI (o + 1))), (3, .int (zI (tGn (S 9 1) o))), (2, .int (zI a)), (6, .int (zI (tGn (S 9 1) o))), (5, .int (zI (tLn (S 9 1) o))), (0, .ref (za G 9 0)), (1, .int (zI what))]) hx hb dX5_together_68 hl (k := 6) rfl (zI_add _ _) (by decide) rfl (fun ls hl => ?_)
              refine lv_goto (tgt := 9) hx hb dX5_together_71 (by decide) ?_
              exact ih9 (o + 1) a (tGn (S 9 1) o) M_31 _ _ _ (by omega) (by have := zW_4 hw; omega) (by rw [tCL_s _ ho.1]; split <;> omega) (by rw [tCG_s _ ho.1]; split <;> omega) hH (lv_sub hl [5, 6, 2, 1, 0] rfl)
        · refine lv_iload hx hb dX5_together_42 (lv_at hl 1 rfl) ?_
          refine lv_goto (tgt := 48) hx hb dX5_together_44 (by decide) ?_
          refine lv_istore_n (lv' := [(2, .int (zI (tLn (S 9 1) o))), (6, .int (zI (tGn (S 9 1) o))), (5, .int (zI (tLn (S 9 1) o))), (0, .ref (za G 9 0)), (1, .int (zI what)), (3, .int (zI b)), (4, .int (zI o))]) hx hb dX5_together_48 rfl hl (by decide) rfl (fun ls hl => ?_)
          refine lv_iload hx hb dX5_together_49 (lv_at hl 2 rfl) ?_
          refine zb_ic h dX5_together_51 ?_
          refine zb_ceq (tgt := 66) h (by omega) (by omega) dX5_together_52 (by decide) (fun c_52 => ?_) (fun c_52 => ?_)
          · refine lv_iload_n hx hb dX5_together_66 rfl (lv_at hl 5 rfl) ?_
            refine lv_istore_n (lv' := [(3, .int (zI b)), (2, .int (zI (tLn (S 9 1) o))), (6, .int (zI (tGn (S 9 1) o))), (5, .int (zI (tLn (S 9 1) o))), (0, .ref (za G 9 0)), (1, .int (zI what)), (4, .int (zI o))]) hx hb dX5_together_67 rfl hl (by decide) rfl (fun ls hl => ?_)
            refine lv_iinc (v := zI (o + 1)) (lv' := [(4, .int (zI (o + 1))), (3, .int (zI b)), (2, .int (zI (tLn (S 9 1) o))), (6, .int (zI (tGn (S 9 1) o))), (5, .int (zI (tLn (S 9 1) o))), (0, .ref (za G 9 0)), (1, .int (zI what))]) hx hb dX5_together_68 hl (k := 6) rfl (zI_add _ _) (by decide) rfl (fun ls hl => ?_)
            refine lv_goto (tgt := 9) hx hb dX5_together_71 (by decide) ?_
            exact ih9 (o + 1) (tLn (S 9 1) o) b M_31 _ _ _ (by omega) (by have := zW_4 hw; omega) (by rw [tCL_s _ ho.1]; split <;> omega) (by rw [tCG_s _ ho.1]; split <;> omega) hH (lv_sub hl [5, 6, 2, 1, 0] rfl)
          · refine lv_iload hx hb dX5_together_55 (lv_at hl 1 rfl) ?_
            refine lv_iload_n hx hb dX5_together_57 rfl (lv_at hl 5 rfl) ?_
            refine zb_cge (tgt := 66) h (by omega) (by omega) dX5_together_58 (by decide) (fun c_58 => ?_) (fun c_58 => ?_)
            · refine lv_iload_n hx hb dX5_together_66 rfl (lv_at hl 5 rfl) ?_
              refine lv_istore_n (lv' := [(3, .int (zI b)), (2, .int (zI (tLn (S 9 1) o))), (6, .int (zI (tGn (S 9 1) o))), (5, .int (zI (tLn (S 9 1) o))), (0, .ref (za G 9 0)), (1, .int (zI what)), (4, .int (zI o))]) hx hb dX5_together_67 rfl hl (by decide) rfl (fun ls hl => ?_)
              refine lv_iinc (v := zI (o + 1)) (lv' := [(4, .int (zI (o + 1))), (3, .int (zI b)), (2, .int (zI (tLn (S 9 1) o))), (6, .int (zI (tGn (S 9 1) o))), (5, .int (zI (tLn (S 9 1) o))), (0, .ref (za G 9 0)), (1, .int (zI what))]) hx hb dX5_together_68 hl (k := 6) rfl (zI_add _ _) (by decide) rfl (fun ls hl => ?_)
              refine lv_goto (tgt := 9) hx hb dX5_together_71 (by decide) ?_
              exact ih9 (o + 1) (tLn (S 9 1) o) b M_31 _ _ _ (by omega) (by have := zW_4 hw; omega) (by rw [tCL_s _ ho.1]; split <;> omega) (by rw [tCG_s _ ho.1]; split <;> omega) hH (lv_sub hl [5, 6, 2, 1, 0] rfl)
            · refine lv_iload hx hb dX5_together_61 (lv_at hl 1 rfl) ?_
              refine lv_goto (tgt := 67) hx hb dX5_together_63 (by decide) ?_
              refine lv_istore_n (lv' := [(3, .int (zI (tGn (S 9 1) o))), (2, .int (zI (tLn (S 9 1) o))), (6, .int (zI (tGn (S 9 1) o))), (5, .int (zI (tLn (S 9 1) o))), (0, .ref (za G 9 0)), (1, .int (zI what)), (4, .int (zI o))]) hx hb dX5_together_67 rfl hl (by decide) rfl (fun ls hl => ?_)
              refine lv_iinc (v := zI (o + 1)) (lv' := [(4, .int (zI (o + 1))), (3, .int (zI (tGn (S 9 1) o))), (2, .int (zI (tLn (S 9 1) o))), (6, .int (zI (tGn (S 9 1) o))), (5, .int (zI (tLn (S 9 1) o))), (0, .ref (za G 9 0)), (1, .int (zI what))]) hx hb dX5_together_68 hl (k := 6) rfl (zI_add _ _) (by decide) rfl (fun ls hl => ?_)
              refine lv_goto (tgt := 9) hx hb dX5_together_71 (by decide) ?_
              exact ih9 (o + 1) (tLn (S 9 1) o) (tGn (S 9 1) o) M_31 _ _ _ (by omega) (by have := zW_4 hw; omega) (by rw [tCL_s _ ho.1]; split <;> omega) (by rw [tCG_s _ ho.1]; split <;> omega) hH (lv_sub hl [5, 6, 2, 1, 0] rfl)
  refine zb_ic h dX5_together_0 ?_
  refine lv_istore_n (lv' := [(2, .int (zI (-1))), (0, .ref (za G 9 0)), (1, .int (zI what))]) hx hb dX5_together_1 rfl hl (by decide) rfl (fun ls hl => ?_)
  refine zb_si h dX5_together_2 (by decide) (by decide) ?_
  refine lv_istore_n (lv' := [(3, .int (zI 9999)), (2, .int (zI (-1))), (0, .ref (za G 9 0)), (1, .int (zI what))]) hx hb dX5_together_5 rfl hl (by decide) rfl (fun ls hl => ?_)
  refine zb_ic h dX5_together_6 ?_
  refine lv_istore (lv' := [(4, .int (zI 0)), (3, .int (zI 9999)), (2, .int (zI (-1))), (0, .ref (za G 9 0)), (1, .int (zI what))]) hx hb dX5_together_7 hl (by decide) rfl (fun ls hl => ?_)
  exact C9 ((S 9 1 4 - 0 : Int).toNat + 1) 0 (-1) 9999 (S 9 5) _ _ _ (by omega) (by have := zW_4 hw; omega) rfl rfl hH (lv_sub hl [3, 4, 2, 1, 0] rfl)
theorem dX5_stripTime_0 : decode cX5_stripTime 0 = .ok (.iload_n 0, 1) := by decide +kernel
theorem dX5_stripTime_1 : decode cX5_stripTime 1 = .ok (.iload_n 1, 1) := by decide +kernel
theorem dX5_stripTime_2 : decode cX5_stripTime 2 = .ok (.iconst 3, 1) := by decide +kernel
theorem dX5_stripTime_3 : decode cX5_stripTime 3 = .ok (.idiv, 1) := by decide +kernel
theorem dX5_stripTime_4 : decode cX5_stripTime 4 = .ok (.ishl, 1) := by decide +kernel
theorem dX5_stripTime_5 : decode cX5_stripTime 5 = .ok (.istore_n 2, 1) := by decide +kernel
theorem dX5_stripTime_6 : decode cX5_stripTime 6 = .ok (.iload_n 1, 1) := by decide +kernel
theorem dX5_stripTime_7 : decode cX5_stripTime 7 = .ok (.iconst 3, 1) := by decide +kernel
theorem dX5_stripTime_8 : decode cX5_stripTime 8 = .ok (.irem, 1) := by decide +kernel
theorem dX5_stripTime_9 : decode cX5_stripTime 9 = .ok (.ifCond .ne 7, 3) := by decide +kernel
theorem dX5_stripTime_12 : decode cX5_stripTime 12 = .ok (.iload_n 2, 1) := by decide +kernel
theorem dX5_stripTime_13 : decode cX5_stripTime 13 = .ok (.goto 23, 3) := by decide +kernel
theorem dX5_stripTime_16 : decode cX5_stripTime 16 = .ok (.iload_n 2, 1) := by decide +kernel
theorem dX5_stripTime_17 : decode cX5_stripTime 17 = .ok (.iload_n 1, 1) := by decide +kernel
theorem dX5_stripTime_18 : decode cX5_stripTime 18 = .ok (.iconst 3, 1) := by decide +kernel
theorem dX5_stripTime_19 : decode cX5_stripTime 19 = .ok (.irem, 1) := by decide +kernel
theorem dX5_stripTime_20 : decode cX5_stripTime 20 = .ok (.iconst 1, 1) := by decide +kernel
theorem dX5_stripTime_21 : decode cX5_stripTime 21 = .ok (.if_icmp .ne 8, 3) := by decide +kernel
theorem dX5_stripTime_24 : decode cX5_stripTime 24 = .ok (.bipush 126, 2) := by decide +kernel
theorem dX5_stripTime_26 : decode cX5_stripTime 26 = .ok (.goto 6, 3) := by decide +kernel
theorem dX5_stripTime_29 : decode cX5_stripTime 29 = .ok (.sipush 159, 3) := by decide +kernel
theorem dX5_stripTime_32 : decode cX5_stripTime 32 = .ok (.imul, 1) := by decide +kernel
theorem dX5_stripTime_33 : decode cX5_stripTime 33 = .ok (.bipush 100, 2) := by decide +kernel
theorem dX5_stripTime_35 : decode cX5_stripTime 35 = .ok (.idiv, 1) := by decide +kernel
theorem dX5_stripTime_36 : decode cX5_stripTime 36 = .ok (.ireturn, 1) := by decide +kernel
def q_X5_stripTime (S : zM) (f i : Int) : Int32 → zM → Prop := fun r S1 => r = zI (zStr f i) ∧ S = S1
def r_X5_stripTime : Room := { frames := 0, cells := 0, slots := 0, locals := 0 }
set_option maxHeartbeats 4000000 in
set_option maxRecDepth 100000 in
theorem c_X5_stripTime (l : Launch) (G : zG) (hG : zok G) (S : zM) (f i : Int) (hf : 1 ≤ f ∧ f ≤ 999) (hi : 0 ≤ i ∧ i < 9) : Met l yX5_stripTime (Cond.code yX5_stripTime cX5_stripTime 3 (some FieldType.int) :: zTbl) r_X5_stripTime (va_Pc [.int (zI f), .int (zI i)] (zB G S)) (va_Qi (q_X5_stripTime S f i) (zB G) (zA G)) 0 0 (zA G) := by
  refine zMet [(0, .int (zI f)), (1, .int (zI i))] hG (by decide) (Nat.le_of_ble_eq_true rfl) rfl (fun p e s m args below meth c ls h hx hb hr hH hl => ?_)
  have b1 := zStr_x hf hi
  refine lv_iload_n hx hb dX5_stripTime_0 rfl (lv_at hl 0 rfl) ?_
  refine lv_iload_n hx hb dX5_stripTime_1 rfl (lv_at hl 1 rfl) ?_
  refine zb_ic h dX5_stripTime_2 ?_
  refine zb_idiv h (by omega) (by omega) dX5_stripTime_3 ?_
  refine zb_ishl h (by omega) (by omega) (by omega) dX5_stripTime_4 ?_
  refine lv_istore_n (lv' := [(2, .int (zI (f * 2 ^ (i / 3).toNat))), (0, .int (zI f)), (1, .int (zI i))]) hx hb dX5_stripTime_5 rfl hl (by decide) rfl (fun ls hl => ?_)
  refine lv_iload_n hx hb dX5_stripTime_6 rfl (lv_at hl 2 rfl) ?_
  refine zb_ic h dX5_stripTime_7 ?_
  refine zb_irem h (by omega) (by omega) dX5_stripTime_8 ?_
  refine zb_ine (tgt := 16) h (by omega) dX5_stripTime_9 (by decide) (fun c_9 => ?_) (fun c_9 => ?_)
  · refine lv_iload_n hx hb dX5_stripTime_16 rfl (lv_at hl 0 rfl) ?_
    refine lv_iload_n hx hb dX5_stripTime_17 rfl (lv_at hl 2 rfl) ?_
    refine zb_ic h dX5_stripTime_18 ?_
    refine zb_irem h (by omega) (by omega) dX5_stripTime_19 ?_
    refine zb_ic h dX5_stripTime_20 ?_
    refine zb_cne (tgt := 29) h (by omega) (by omega) dX5_stripTime_21 (by decide) (fun c_21 => ?_) (fun c_21 => ?_)
    · refine zb_si h dX5_stripTime_29 (by decide) (by decide) ?_
      refine zb_imul h dX5_stripTime_32 ?_
      refine zb_bi h dX5_stripTime_33 (by decide) (by decide) ?_
      refine zb_idiv h (by omega) (by omega) dX5_stripTime_35 ?_
      refine zri h hr hH ?_ dX5_stripTime_36
      first | exact ⟨congrArg zI (zTh_0 (by omega) _).symm, rfl⟩ | exact ⟨congrArg zI (by unfold zStr zThi; rw [if_neg (by omega), if_pos (by omega)]), rfl⟩ | exact ⟨congrArg zI (by unfold zStr zThi; rw [if_neg (by omega), if_neg (by omega)]), rfl⟩
    · refine zb_bi h dX5_stripTime_24 (by decide) (by decide) ?_
      refine lv_goto (tgt := 32) hx hb dX5_stripTime_26 (by decide) ?_
      refine zb_imul h dX5_stripTime_32 ?_
      refine zb_bi h dX5_stripTime_33 (by decide) (by decide) ?_
      refine zb_idiv h (by omega) (by omega) dX5_stripTime_35 ?_
      refine zri h hr hH ?_ dX5_stripTime_36
      first | exact ⟨congrArg zI (zTh_0 (by omega) _).symm, rfl⟩ | exact ⟨congrArg zI (by unfold zStr zThi; rw [if_neg (by omega), if_pos (by omega)]), rfl⟩ | exact ⟨congrArg zI (by unfold zStr zThi; rw [if_neg (by omega), if_neg (by omega)]), rfl⟩
  · refine lv_iload_n hx hb dX5_stripTime_12 rfl (lv_at hl 0 rfl) ?_
    refine lv_goto (tgt := 36) hx hb dX5_stripTime_13 (by decide) ?_
    refine zri h hr hH ?_ dX5_stripTime_36
    first | exact ⟨congrArg zI (zTh_0 (by omega) _).symm, rfl⟩ | exact ⟨congrArg zI (by unfold zStr zThi; rw [if_neg (by omega), if_pos (by omega)]), rfl⟩ | exact ⟨congrArg zI (by unfold zStr zThi; rw [if_neg (by omega), if_neg (by omega)]), rfl⟩
theorem dX5_stripOf_0 : decode cX5_stripOf 0 = .ok (.aload_n 0, 1) := by decide +kernel
theorem dX5_stripOf_1 : decode cX5_stripOf 1 = .ok (.getfield 7, 3) := by decide +kernel
theorem dX5_stripOf_4 : decode cX5_stripOf 4 = .ok (.iload_n 1, 1) := by decide +kernel
theorem dX5_stripOf_5 : decode cX5_stripOf 5 = .ok (.iconst 1, 1) := by decide +kernel
theorem dX5_stripOf_6 : decode cX5_stripOf 6 = .ok (.invokestatic 51, 3) := by decide +kernel
theorem dX5_stripOf_9 : decode cX5_stripOf 9 = .ok (.iaload, 1) := by decide +kernel
theorem dX5_stripOf_10 : decode cX5_stripOf 10 = .ok (.istore 5, 2) := by decide +kernel
theorem dX5_stripOf_12 : decode cX5_stripOf 12 = .ok (.iconst (-1), 1) := by decide +kernel
theorem dX5_stripOf_13 : decode cX5_stripOf 13 = .ok (.istore 6, 2) := by decide +kernel
theorem dX5_stripOf_15 : decode cX5_stripOf 15 = .ok (.iconst 0, 1) := by decide +kernel
theorem dX5_stripOf_16 : decode cX5_stripOf 16 = .ok (.istore 7, 2) := by decide +kernel
theorem dX5_stripOf_18 : decode cX5_stripOf 18 = .ok (.iconst 0, 1) := by decide +kernel
theorem dX5_stripOf_19 : decode cX5_stripOf 19 = .ok (.istore 8, 2) := by decide +kernel
theorem dX5_stripOf_21 : decode cX5_stripOf 21 = .ok (.iconst 0, 1) := by decide +kernel
theorem dX5_stripOf_22 : decode cX5_stripOf 22 = .ok (.istore 9, 2) := by decide +kernel
theorem dX5_stripOf_24 : decode cX5_stripOf 24 = .ok (.iload 9, 2) := by decide +kernel
theorem dX5_stripOf_26 : decode cX5_stripOf 26 = .ok (.iload_n 3, 1) := by decide +kernel
theorem dX5_stripOf_27 : decode cX5_stripOf 27 = .ok (.if_icmp .ge 61, 3) := by decide +kernel
theorem dX5_stripOf_30 : decode cX5_stripOf 30 = .ok (.aload_n 0, 1) := by decide +kernel
theorem dX5_stripOf_31 : decode cX5_stripOf 31 = .ok (.iload_n 1, 1) := by decide +kernel
theorem dX5_stripOf_32 : decode cX5_stripOf 32 = .ok (.iload_n 2, 1) := by decide +kernel
theorem dX5_stripOf_33 : decode cX5_stripOf 33 = .ok (.iload 9, 2) := by decide +kernel
theorem dX5_stripOf_35 : decode cX5_stripOf 35 = .ok (.invokestatic 172, 3) := by decide +kernel
theorem dX5_stripOf_38 : decode cX5_stripOf 38 = .ok (.invokevirtual 68, 3) := by decide +kernel
theorem dX5_stripOf_41 : decode cX5_stripOf 41 = .ok (.istore 8, 2) := by decide +kernel
theorem dX5_stripOf_43 : decode cX5_stripOf 43 = .ok (.iload 6, 2) := by decide +kernel
theorem dX5_stripOf_45 : decode cX5_stripOf 45 = .ok (.iconst (-1), 1) := by decide +kernel
theorem dX5_stripOf_46 : decode cX5_stripOf 46 = .ok (.if_icmp .ne 15, 3) := by decide +kernel
theorem dX5_stripOf_49 : decode cX5_stripOf 49 = .ok (.iload 8, 2) := by decide +kernel
theorem dX5_stripOf_51 : decode cX5_stripOf 51 = .ok (.iload 5, 2) := by decide +kernel
theorem dX5_stripOf_53 : decode cX5_stripOf 53 = .ok (.if_icmp .lt 8, 3) := by decide +kernel
theorem dX5_stripOf_56 : decode cX5_stripOf 56 = .ok (.iload 9, 2) := by decide +kernel
theorem dX5_stripOf_58 : decode cX5_stripOf 58 = .ok (.goto 5, 3) := by decide +kernel
theorem dX5_stripOf_61 : decode cX5_stripOf 61 = .ok (.iload 6, 2) := by decide +kernel
theorem dX5_stripOf_63 : decode cX5_stripOf 63 = .ok (.istore 6, 2) := by decide +kernel
theorem dX5_stripOf_65 : decode cX5_stripOf 65 = .ok (.iload 7, 2) := by decide +kernel
theorem dX5_stripOf_67 : decode cX5_stripOf 67 = .ok (.iload 8, 2) := by decide +kernel
theorem dX5_stripOf_69 : decode cX5_stripOf 69 = .ok (.iload 5, 2) := by decide +kernel
theorem dX5_stripOf_71 : decode cX5_stripOf 71 = .ok (.if_icmp .ne 7, 3) := by decide +kernel
theorem dX5_stripOf_74 : decode cX5_stripOf 74 = .ok (.iconst 1, 1) := by decide +kernel
theorem dX5_stripOf_75 : decode cX5_stripOf 75 = .ok (.goto 4, 3) := by decide +kernel
theorem dX5_stripOf_78 : decode cX5_stripOf 78 = .ok (.iconst 0, 1) := by decide +kernel
theorem dX5_stripOf_79 : decode cX5_stripOf 79 = .ok (.iadd, 1) := by decide +kernel
theorem dX5_stripOf_80 : decode cX5_stripOf 80 = .ok (.istore 7, 2) := by decide +kernel
theorem dX5_stripOf_82 : decode cX5_stripOf 82 = .ok (.iinc 9 1, 3) := by decide +kernel
theorem dX5_stripOf_85 : decode cX5_stripOf 85 = .ok (.goto (-61), 3) := by decide +kernel
theorem dX5_stripOf_88 : decode cX5_stripOf 88 = .ok (.iload 4, 2) := by decide +kernel
theorem dX5_stripOf_90 : decode cX5_stripOf 90 = .ok (.iconst 2, 1) := by decide +kernel
theorem dX5_stripOf_91 : decode cX5_stripOf 91 = .ok (.if_icmp .ne 8, 3) := by decide +kernel
theorem dX5_stripOf_94 : decode cX5_stripOf 94 = .ok (.iload 7, 2) := by decide +kernel
theorem dX5_stripOf_96 : decode cX5_stripOf 96 = .ok (.goto 37, 3) := by decide +kernel
theorem dX5_stripOf_99 : decode cX5_stripOf 99 = .ok (.iload 4, 2) := by decide +kernel
theorem dX5_stripOf_101 : decode cX5_stripOf 101 = .ok (.iconst 3, 1) := by decide +kernel
theorem dX5_stripOf_102 : decode cX5_stripOf 102 = .ok (.if_icmp .ne 8, 3) := by decide +kernel
theorem dX5_stripOf_105 : decode cX5_stripOf 105 = .ok (.iload 8, 2) := by decide +kernel
theorem dX5_stripOf_107 : decode cX5_stripOf 107 = .ok (.goto 26, 3) := by decide +kernel
theorem dX5_stripOf_110 : decode cX5_stripOf 110 = .ok (.iload 4, 2) := by decide +kernel
theorem dX5_stripOf_112 : decode cX5_stripOf 112 = .ok (.iconst 1, 1) := by decide +kernel
theorem dX5_stripOf_113 : decode cX5_stripOf 113 = .ok (.if_icmp .eq 9, 3) := by decide +kernel
theorem dX5_stripOf_116 : decode cX5_stripOf 116 = .ok (.iload 6, 2) := by decide +kernel
theorem dX5_stripOf_118 : decode cX5_stripOf 118 = .ok (.iconst (-1), 1) := by decide +kernel
theorem dX5_stripOf_119 : decode cX5_stripOf 119 = .ok (.if_icmp .ne 8, 3) := by decide +kernel
theorem dX5_stripOf_122 : decode cX5_stripOf 122 = .ok (.iload 6, 2) := by decide +kernel
theorem dX5_stripOf_124 : decode cX5_stripOf 124 = .ok (.goto 9, 3) := by decide +kernel
theorem dX5_stripOf_127 : decode cX5_stripOf 127 = .ok (.iload_n 2, 1) := by decide +kernel
theorem dX5_stripOf_128 : decode cX5_stripOf 128 = .ok (.iload 6, 2) := by decide +kernel
theorem dX5_stripOf_130 : decode cX5_stripOf 130 = .ok (.invokestatic 172, 3) := by decide +kernel
theorem dX5_stripOf_133 : decode cX5_stripOf 133 = .ok (.ireturn, 1) := by decide +kernel
def q_X5_stripOf (S : zM) (z f n what : Int) : Int32 → zM → Prop := fun r S1 => r = zI (tStr (S 9 1) z f n what) ∧ ∃ M', zMo S (S 9 0) (S 9 1) (S 9 2) (S 9 3) (S 9 4) M' (S 9 6) = S1
def r_X5_stripOf : Room := { frames := 3, cells := 0, slots := 0, locals := 69 }
set_option maxHeartbeats 4000000 in
set_option maxRecDepth 100000 in
theorem c_X5_stripOf (l : Launch) (G : zG) (hG : zok G) (S : zM) (z f n what : Int) (hz : 0 ≤ z ∧ z < 8) (hf : 1 ≤ f ∧ f ≤ 999) (hn : 1 ≤ n ∧ n ≤ 9) (hwh : 0 ≤ what ∧ what ≤ 3) (hw : zW (S 9 1)) : Met l yX5_stripOf (Cond.code yX5_stripOf cX5_stripOf 10 (some FieldType.int) :: zTbl) r_X5_stripOf (va_Pc [.ref (za G 9 0), .int (zI z), .int (zI f), .int (zI n), .int (zI what)] (zB G S)) (va_Qi (q_X5_stripOf S z f n what) (zB G) (zA G)) 0 0 (zA G) := by
  refine zMet [(0, .ref (za G 9 0)), (1, .int (zI z)), (2, .int (zI f)), (3, .int (zI n)), (4, .int (zI what))] hG (by decide) (Nat.le_of_ble_eq_true rfl) rfl (fun p e s m args below meth c ls h hx hb hr hH hl => ?_)
  rw [← zM_id S] at hH
  have f_9 := zW_wa hw hz
  have C24 : ∀ (fu : Nat) (i fo t la : Int) (M : Int → Int) (H : Heap) (locs : List Loc) (ls : Array Slot), (n - i).toNat < fu → (0 ≤ i ∧ i ≤ n) → (fo = tSf (S 9 1) z f i.toNat) → (t = tSh (S 9 1) z f i.toNat) → (1 ≤ i → la = tAt (S 9 1) z (zStr f (i - 1))) → zH G (zMo S (S 9 0) (S 9 1) (S 9 2) (S 9 3) (S 9 4) M (S 9 6)) s H locs → lv_has ls 10 [(0, .ref (za G 9 0)), (1, .int (zI z)), (2, .int (zI f)), (3, .int (zI n)), (4, .int (zI what)), (5, .int (zI (S 9 1 (5 + 5 * z + 1)))), (6, .int (zI fo)), (7, .int (zI t)), (8, .int (zI la)), (9, .int (zI i))] → W p l e r_X5_stripOf s m args below meth c H locs 0 0 (MQ below (va_Qi (q_X5_stripOf S z f n what) (zB G) (zA G)) args s 0 0 (zA G)) (F0 m 24 ls []) := by
    intro fu
    induction fu with
    | zero => intro i fo t la M H locs ls hfu; omega
    | succ fu ih24 =>
      intro i fo t la M H locs ls hfu hi hfo hh hla hH hl
      have b_fo := tSf_in (S 9 1) z f i.toNat
      refine lv_iload hx hb dX5_stripOf_24 (lv_at hl 9 rfl) ?_
      refine lv_iload_n hx hb dX5_stripOf_26 rfl (lv_at hl 3 rfl) ?_
      refine zb_cge (tgt := 88) h (by omega) (by omega) dX5_stripOf_27 (by decide) (fun c_27 => ?_) (fun c_27 => ?_)
      · refine lv_iload hx hb dX5_stripOf_88 (lv_at hl 4 rfl) ?_
        refine zb_ic h dX5_stripOf_90 ?_
        refine zb_cne (tgt := 99) h (by omega) (by omega) dX5_stripOf_91 (by decide) (fun c_91 => ?_) (fun c_91 => ?_)
        · refine lv_iload hx hb dX5_stripOf_99 (lv_at hl 4 rfl) ?_
          refine zb_ic h dX5_stripOf_101 ?_
          refine zb_cne (tgt := 110) h (by omega) (by omega) dX5_stripOf_102 (by decide) (fun c_102 => ?_) (fun c_102 => ?_)
          · refine lv_iload hx hb dX5_stripOf_110 (lv_at hl 4 rfl) ?_
            refine zb_ic h dX5_stripOf_112 ?_
            refine zb_ceq (tgt := 122) h (by omega) (by omega) dX5_stripOf_113 (by decide) (fun c_113 => ?_) (fun c_113 => ?_)
            · refine lv_iload hx hb dX5_stripOf_122 (lv_at hl 6 rfl) ?_
              refine lv_goto (tgt := 133) hx hb dX5_stripOf_124 (by decide) ?_
              refine zri h hr hH ?_ dX5_stripOf_133
              obtain rfl : i = n := by omega
              exact ⟨congrArg zI (by unfold tStr; rw [← hfo, ← hh]; first | rw [if_pos (by omega)] | rw [if_neg (by omega), if_pos (by omega), hla (by omega)] | rw [if_neg (by omega), if_neg (by omega), if_pos (by omega)] | rw [if_neg (by omega), if_neg (by omega), if_neg (by omega)]), _, rfl⟩
            · refine lv_iload hx hb dX5_stripOf_116 (lv_at hl 6 rfl) ?_
              refine zb_ic h dX5_stripOf_118 ?_
              refine zb_cne (tgt := 127) h (by omega) (by omega) dX5_stripOf_119 (by decide) (fun c_119 => ?_) (fun c_119 => ?_)
              · refine lv_iload_n hx hb dX5_stripOf_127 rfl (lv_at hl 2 rfl) ?_
                refine lv_iload hx hb dX5_stripOf_128 (lv_at hl 6 rfl) ?_
                refine zcSi h hH (As := [.int (zI f), .int (zI fo)]) (rest := []) (c_X5_stripTime l G hG (zMo S (S 9 0) (S 9 1) (S 9 2) (S 9 3) (S 9 4) M (S 9 6)) f fo (by omega) (by omega)) zce_X5_stripTime zt_X5_stripTime zm_X5_172 hl.1 rfl rfl ⟨rfl, rfl⟩ ⟨Nat.le_of_ble_eq_true rfl, Nat.le_of_ble_eq_true rfl⟩ (Nat.le_of_ble_eq_true rfl) ⟨Nat.zero_le _, Nat.zero_le _⟩ dX5_stripOf_130 (fun r_130 S_130 H locs hq hH => ?_)
                obtain ⟨rfl, rfl⟩ := hq
                refine zri h hr hH ?_ dX5_stripOf_133
                obtain rfl : i = n := by omega
                exact ⟨congrArg zI (by unfold tStr; rw [← hfo, ← hh]; first | rw [if_pos (by omega)] | rw [if_neg (by omega), if_pos (by omega), hla (by omega)] | rw [if_neg (by omega), if_neg (by omega), if_pos (by omega)] | rw [if_neg (by omega), if_neg (by omega), if_neg (by omega)]), _, rfl⟩
              · refine lv_iload hx hb dX5_stripOf_122 (lv_at hl 6 rfl) ?_
                refine lv_goto (tgt := 133) hx hb dX5_stripOf_124 (by decide) ?_
                refine zri h hr hH ?_ dX5_stripOf_133
                obtain rfl : i = n := by omega
                exact ⟨congrArg zI (by unfold tStr; rw [← hfo, ← hh]; first | rw [if_pos (by omega)] | rw [if_neg (by omega), if_pos (by omega), hla (by omega)] | rw [if_neg (by omega), if_neg (by omega), if_pos (by omega)] | rw [if_neg (by omega), if_neg (by omega), if_neg (by omega)]), _, rfl⟩
          · refine lv_iload hx hb dX5_stripOf_105 (lv_at hl 8 rfl) ?_
            refine lv_goto (tgt := 133) hx hb dX5_stripOf_107 (by decide) ?_
            refine zri h hr hH ?_ dX5_stripOf_133
            obtain rfl : i = n := by omega
            exact ⟨congrArg zI (by unfold tStr; rw [← hfo, ← hh]; first | rw [if_pos (by omega)] | rw [if_neg (by omega), if_pos (by omega), hla (by omega)] | rw [if_neg (by omega), if_neg (by omega), if_pos (by omega)] | rw [if_neg (by omega), if_neg (by omega), if_neg (by omega)]), _, rfl⟩
        · refine lv_iload hx hb dX5_stripOf_94 (lv_at hl 7 rfl) ?_
          refine lv_goto (tgt := 133) hx hb dX5_stripOf_96 (by decide) ?_
          refine zri h hr hH ?_ dX5_stripOf_133
          obtain rfl : i = n := by omega
          exact ⟨congrArg zI (by unfold tStr; rw [← hfo, ← hh]; first | rw [if_pos (by omega)] | rw [if_neg (by omega), if_pos (by omega), hla (by omega)] | rw [if_neg (by omega), if_neg (by omega), if_pos (by omega)] | rw [if_neg (by omega), if_neg (by omega), if_neg (by omega)]), _, rfl⟩
      · refine lv_aload_n hx hb dX5_stripOf_30 rfl (lv_at hl 0 rfl) ?_
        refine lv_iload_n hx hb dX5_stripOf_31 rfl (lv_at hl 1 rfl) ?_
        refine lv_iload_n hx hb dX5_stripOf_32 rfl (lv_at hl 2 rfl) ?_
        refine lv_iload hx hb dX5_stripOf_33 (lv_at hl 9 rfl) ?_
        refine zcSi h hH (As := [.int (zI f), .int (zI i)]) (rest := [.int (zI z), .ref (za G 9 0)]) (c_X5_stripTime l G hG (zMo S (S 9 0) (S 9 1) (S 9 2) (S 9 3) (S 9 4) M (S 9 6)) f i (by omega) (by omega)) zce_X5_stripTime zt_X5_stripTime zm_X5_172 hl.1 rfl rfl ⟨rfl, rfl⟩ ⟨Nat.le_of_ble_eq_true rfl, Nat.le_of_ble_eq_true rfl⟩ (Nat.le_of_ble_eq_true rfl) ⟨Nat.zero_le _, Nat.zero_le _⟩ dX5_stripOf_35 (fun r_35 S_35 H locs hq hH => ?_)
        obtain ⟨rfl, rfl⟩ := hq
        have b_35 := zStr_in hf (show 0 ≤ i ∧ i < 9 by omega)
        refine zcVi h hH (zr_5 h hH) (As := [.int (zI z), .int (zI (zStr f i))]) (rest := []) (c_X5_toneBy l G hG (zMo S (S 9 0) (S 9 1) (S 9 2) (S 9 3) (S 9 4) M (S 9 6)) z (zStr f i) (by omega) (by omega) (zM_hw hw)) zce_X5_toneBy zcv_X5_toneBy zm_X5_68 hl.1 rfl rfl ⟨rfl, rfl⟩ ⟨Nat.le_of_ble_eq_true rfl, Nat.le_of_ble_eq_true rfl⟩ (Nat.le_of_ble_eq_true rfl) ⟨Nat.zero_le _, Nat.zero_le _⟩ dX5_stripOf_38 (fun r_38 S_38 H locs hq hH => ?_)
        obtain ⟨rfl, M_38, rfl⟩ := hq
        simp only [zM_M, zM_0, zM_1, zM_2, zM_3, zM_4, zM_5, zM_6] at hH
        rw [zM_1]
        have b_38 := tAt_in (S 9 1) z (zStr f i)
        refine lv_istore (lv' := [(8, .int (zI (tAt (S 9 1) z (zStr f i)))), (0, .ref (za G 9 0)), (1, .int (zI z)), (2, .int (zI f)), (3, .int (zI n)), (4, .int (zI what)), (5, .int (zI (S 9 1 (5 + 5 * z + 1)))), (6, .int (zI fo)), (7, .int (zI t)), (9, .int (zI i))]) hx hb dX5_stripOf_41 hl (by decide) rfl (fun ls hl => ?_)
        refine lv_iload hx hb dX5_stripOf_43 (lv_at hl 7 rfl) ?_
        refine zb_ic h dX5_stripOf_45 ?_
        refine zb_cne (tgt := 61) h (by omega) (by omega) dX5_stripOf_46 (by decide) (fun c_46 => ?_) (fun c_46 => ?_)
        · refine lv_iload hx hb dX5_stripOf_61 (lv_at hl 7 rfl) ?_
          refine lv_istore (lv' := [(6, .int (zI fo)), (8, .int (zI (tAt (S 9 1) z (zStr f i)))), (0, .ref (za G 9 0)), (1, .int (zI z)), (2, .int (zI f)), (3, .int (zI n)), (4, .int (zI what)), (5, .int (zI (S 9 1 (5 + 5 * z + 1)))), (7, .int (zI t)), (9, .int (zI i))]) hx hb dX5_stripOf_63 hl (by decide) rfl (fun ls hl => ?_)
          refine lv_iload hx hb dX5_stripOf_65 (lv_at hl 8 rfl) ?_
          refine lv_iload hx hb dX5_stripOf_67 (lv_at hl 1 rfl) ?_
          refine lv_iload hx hb dX5_stripOf_69 (lv_at hl 7 rfl) ?_
          refine zb_cne (tgt := 78) h (by omega) (by omega) dX5_stripOf_71 (by decide) (fun c_71 => ?_) (fun c_71 => ?_)
          · refine zb_ic h dX5_stripOf_78 ?_
            refine zb_iadd h dX5_stripOf_79 ?_
            refine lv_istore (lv' := [(7, .int (zI (t + 0))), (6, .int (zI fo)), (8, .int (zI (tAt (S 9 1) z (zStr f i)))), (0, .ref (za G 9 0)), (1, .int (zI z)), (2, .int (zI f)), (3, .int (zI n)), (4, .int (zI what)), (5, .int (zI (S 9 1 (5 + 5 * z + 1)))), (9, .int (zI i))]) hx hb dX5_stripOf_80 hl (by decide) rfl (fun ls hl => ?_)
            refine lv_iinc (v := zI (i + 1)) (lv' := [(9, .int (zI (i + 1))), (7, .int (zI (t + 0))), (6, .int (zI fo)), (8, .int (zI (tAt (S 9 1) z (zStr f i)))), (0, .ref (za G 9 0)), (1, .int (zI z)), (2, .int (zI f)), (3, .int (zI n)), (4, .int (zI what)), (5, .int (zI (S 9 1 (5 + 5 * z + 1))))]) hx hb dX5_stripOf_82 hl (k := 9) rfl (zI_add _ _) (by decide) rfl (fun ls hl => ?_)
            refine lv_goto (tgt := 24) hx hb dX5_stripOf_85 (by decide) ?_
            exact ih24 (i + 1) fo (t + 0) (tAt (S 9 1) z (zStr f i)) M_38 _ _ _ (by omega) (by omega) (by rw [tSf_s _ _ _ hi.1, ← hfo]; first | (exfalso; omega) | rw [if_pos (by omega)] | rw [if_neg (by omega)]) (by unfold tSh; rw [zsum_s _ hi.1, hh]; first | (exfalso; omega) | (rw [if_pos (by omega)]; rfl) | (rw [if_neg (by omega)]; rfl)) (fun _ => by rw [show i + 1 - 1 = i by omega]) hH (lv_sub hl [4, 5, 6, 7, 8, 9, 2, 1, 3, 0] rfl)
          · refine zb_ic h dX5_stripOf_74 ?_
            refine lv_goto (tgt := 79) hx hb dX5_stripOf_75 (by decide) ?_
            refine zb_iadd h dX5_stripOf_79 ?_
            refine lv_istore (lv' := [(7, .int (zI (t + 1))), (6, .int (zI fo)), (8, .int (zI (tAt (S 9 1) z (zStr f i)))), (0, .ref (za G 9 0)), (1, .int (zI z)), (2, .int (zI f)), (3, .int (zI n)), (4, .int (zI what)), (5, .int (zI (S 9 1 (5 + 5 * z + 1)))), (9, .int (zI i))]) hx hb dX5_stripOf_80 hl (by decide) rfl (fun ls hl => ?_)
            refine lv_iinc (v := zI (i + 1)) (lv' := [(9, .int (zI (i + 1))), (7, .int (zI (t + 1))), (6, .int (zI fo)), (8, .int (zI (tAt (S 9 1) z (zStr f i)))), (0, .ref (za G 9 0)), (1, .int (zI z)), (2, .int (zI f)), (3, .int (zI n)), (4, .int (zI what)), (5, .int (zI (S 9 1 (5 + 5 * z + 1))))]) hx hb dX5_stripOf_82 hl (k := 9) rfl (zI_add _ _) (by decide) rfl (fun ls hl => ?_)
            refine lv_goto (tgt := 24) hx hb dX5_stripOf_85 (by decide) ?_
            exact ih24 (i + 1) fo (t + 1) (tAt (S 9 1) z (zStr f i)) M_38 _ _ _ (by omega) (by omega) (by rw [tSf_s _ _ _ hi.1, ← hfo]; first | (exfalso; omega) | rw [if_pos (by omega)] | rw [if_neg (by omega)]) (by unfold tSh; rw [zsum_s _ hi.1, hh]; first | (exfalso; omega) | (rw [if_pos (by omega)]; rfl) | (rw [if_neg (by omega)]; rfl)) (fun _ => by rw [show i + 1 - 1 = i by omega]) hH (lv_sub hl [4, 5, 6, 7, 8, 9, 2, 1, 3, 0] rfl)
        · refine lv_iload hx hb dX5_stripOf_49 (lv_at hl 0 rfl) ?_
          refine lv_iload hx hb dX5_stripOf_51 (lv_at hl 6 rfl) ?_
          refine zb_clt (tgt := 61) h (by omega) (by omega) dX5_stripOf_53 (by decide) (fun c_53 => ?_) (fun c_53 => ?_)
          · refine lv_iload hx hb dX5_stripOf_61 (lv_at hl 7 rfl) ?_
            refine lv_istore (lv' := [(6, .int (zI fo)), (8, .int (zI (tAt (S 9 1) z (zStr f i)))), (0, .ref (za G 9 0)), (1, .int (zI z)), (2, .int (zI f)), (3, .int (zI n)), (4, .int (zI what)), (5, .int (zI (S 9 1 (5 + 5 * z + 1)))), (7, .int (zI t)), (9, .int (zI i))]) hx hb dX5_stripOf_63 hl (by decide) rfl (fun ls hl => ?_)
            refine lv_iload hx hb dX5_stripOf_65 (lv_at hl 8 rfl) ?_
            refine lv_iload hx hb dX5_stripOf_67 (lv_at hl 1 rfl) ?_
            refine lv_iload hx hb dX5_stripOf_69 (lv_at hl 7 rfl) ?_
            refine zb_cne (tgt := 78) h (by omega) (by omega) dX5_stripOf_71 (by decide) (fun c_71 => ?_) (fun c_71 => ?_)
            · refine zb_ic h dX5_stripOf_78 ?_
              refine zb_iadd h dX5_stripOf_79 ?_
              refine lv_istore (lv' := [(7, .int (zI (t + 0))), (6, .int (zI fo)), (8, .int (zI (tAt (S 9 1) z (zStr f i)))), (0, .ref (za G 9 0)), (1, .int (zI z)), (2, .int (zI f)), (3, .int (zI n)), (4, .int (zI what)), (5, .int (zI (S 9 1 (5 + 5 * z + 1)))), (9, .int (zI i))]) hx hb dX5_stripOf_80 hl (by decide) rfl (fun ls hl => ?_)
              refine lv_iinc (v := zI (i + 1)) (lv' := [(9, .int (zI (i + 1))), (7, .int (zI (t + 0))), (6, .int (zI fo)), (8, .int (zI (tAt (S 9 1) z (zStr f i)))), (0, .ref (za G 9 0)), (1, .int (zI z)), (2, .int (zI f)), (3, .int (zI n)), (4, .int (zI what)), (5, .int (zI (S 9 1 (5 + 5 * z + 1))))]) hx hb dX5_stripOf_82 hl (k := 9) rfl (zI_add _ _) (by decide) rfl (fun ls hl => ?_)
              refine lv_goto (tgt := 24) hx hb dX5_stripOf_85 (by decide) ?_
              exact ih24 (i + 1) fo (t + 0) (tAt (S 9 1) z (zStr f i)) M_38 _ _ _ (by omega) (by omega) (by rw [tSf_s _ _ _ hi.1, ← hfo]; first | (exfalso; omega) | rw [if_pos (by omega)] | rw [if_neg (by omega)]) (by unfold tSh; rw [zsum_s _ hi.1, hh]; first | (exfalso; omega) | (rw [if_pos (by omega)]; rfl) | (rw [if_neg (by omega)]; rfl)) (fun _ => by rw [show i + 1 - 1 = i by omega]) hH (lv_sub hl [4, 5, 6, 7, 8, 9, 2, 1, 3, 0] rfl)
            · refine zb_ic h dX5_stripOf_74 ?_
              refine lv_goto (tgt := 79) hx hb dX5_stripOf_75 (by decide) ?_
              refine zb_iadd h dX5_stripOf_79 ?_
              refine lv_istore (lv' := [(7, .int (zI (t + 1))), (6, .int (zI fo)), (8, .int (zI (tAt (S 9 1) z (zStr f i)))), (0, .ref (za G 9 0)), (1, .int (zI z)), (2, .int (zI f)), (3, .int (zI n)), (4, .int (zI what)), (5, .int (zI (S 9 1 (5 + 5 * z + 1)))), (9, .int (zI i))]) hx hb dX5_stripOf_80 hl (by decide) rfl (fun ls hl => ?_)
              refine lv_iinc (v := zI (i + 1)) (lv' := [(9, .int (zI (i + 1))), (7, .int (zI (t + 1))), (6, .int (zI fo)), (8, .int (zI (tAt (S 9 1) z (zStr f i)))), (0, .ref (za G 9 0)), (1, .int (zI z)), (2, .int (zI f)), (3, .int (zI n)), (4, .int (zI what)), (5, .int (zI (S 9 1 (5 + 5 * z + 1))))]) hx hb dX5_stripOf_82 hl (k := 9) rfl (zI_add _ _) (by decide) rfl (fun ls hl => ?_)
              refine lv_goto (tgt := 24) hx hb dX5_stripOf_85 (by decide) ?_
              exact ih24 (i + 1) fo (t + 1) (tAt (S 9 1) z (zStr f i)) M_38 _ _ _ (by omega) (by omega) (by rw [tSf_s _ _ _ hi.1, ← hfo]; first | (exfalso; omega) | rw [if_pos (by omega)] | rw [if_neg (by omega)]) (by unfold tSh; rw [zsum_s _ hi.1, hh]; first | (exfalso; omega) | (rw [if_pos (by omega)]; rfl) | (rw [if_neg (by omega)]; rfl)) (fun _ => by rw [show i + 1 - 1 = i by omega]) hH (lv_sub hl [4, 5, 6, 7, 8, 9, 2, 1, 3, 0] rfl)
          · refine lv_iload hx hb dX5_stripOf_56 (lv_at hl 9 rfl) ?_
            refine lv_goto (tgt := 63) hx hb dX5_stripOf_58 (by decide) ?_
            refine lv_istore (lv' := [(6, .int (zI i)), (8, .int (zI (tAt (S 9 1) z (zStr f i)))), (0, .ref (za G 9 0)), (1, .int (zI z)), (2, .int (zI f)), (3, .int (zI n)), (4, .int (zI what)), (5, .int (zI (S 9 1 (5 + 5 * z + 1)))), (7, .int (zI t)), (9, .int (zI i))]) hx hb dX5_stripOf_63 hl (by decide) rfl (fun ls hl => ?_)
            refine lv_iload hx hb dX5_stripOf_65 (lv_at hl 8 rfl) ?_
            refine lv_iload hx hb dX5_stripOf_67 (lv_at hl 1 rfl) ?_
            refine lv_iload hx hb dX5_stripOf_69 (lv_at hl 7 rfl) ?_
            refine zb_cne (tgt := 78) h (by omega) (by omega) dX5_stripOf_71 (by decide) (fun c_71 => ?_) (fun c_71 => ?_)
            · refine zb_ic h dX5_stripOf_78 ?_
              refine zb_iadd h dX5_stripOf_79 ?_
              refine lv_istore (lv' := [(7, .int (zI (t + 0))), (6, .int (zI i)), (8, .int (zI (tAt (S 9 1) z (zStr f i)))), (0, .ref (za G 9 0)), (1, .int (zI z)), (2, .int (zI f)), (3, .int (zI n)), (4, .int (zI what)), (5, .int (zI (S 9 1 (5 + 5 * z + 1)))), (9, .int (zI i))]) hx hb dX5_stripOf_80 hl (by decide) rfl (fun ls hl => ?_)
              refine lv_iinc (v := zI (i + 1)) (lv' := [(9, .int (zI (i + 1))), (7, .int (zI (t + 0))), (6, .int (zI i)), (8, .int (zI (tAt (S 9 1) z (zStr f i)))), (0, .ref (za G 9 0)), (1, .int (zI z)), (2, .int (zI f)), (3, .int (zI n)), (4, .int (zI what)), (5, .int (zI (S 9 1 (5 + 5 * z + 1))))]) hx hb dX5_stripOf_82 hl (k := 9) rfl (zI_add _ _) (by decide) rfl (fun ls hl => ?_)
              refine lv_goto (tgt := 24) hx hb dX5_stripOf_85 (by decide) ?_
              exact ih24 (i + 1) i (t + 0) (tAt (S 9 1) z (zStr f i)) M_38 _ _ _ (by omega) (by omega) (by rw [tSf_s _ _ _ hi.1, ← hfo]; first | (exfalso; omega) | rw [if_pos (by omega)] | rw [if_neg (by omega)]) (by unfold tSh; rw [zsum_s _ hi.1, hh]; first | (exfalso; omega) | (rw [if_pos (by omega)]; rfl) | (rw [if_neg (by omega)]; rfl)) (fun _ => by rw [show i + 1 - 1 = i by omega]) hH (lv_sub hl [4, 5, 6, 7, 8, 9, 2, 1, 3, 0] rfl)
            · refine zb_ic h dX5_stripOf_74 ?_
              refine lv_goto (tgt := 79) hx hb dX5_stripOf_75 (by decide) ?_
              refine zb_iadd h dX5_stripOf_79 ?_
              refine lv_istore (lv' := [(7, .int (zI (t + 1))), (6, .int (zI i)), (8, .int (zI (tAt (S 9 1) z (zStr f i)))), (0, .ref (za G 9 0)), (1, .int (zI z)), (2, .int (zI f)), (3, .int (zI n)), (4, .int (zI what)), (5, .int (zI (S 9 1 (5 + 5 * z + 1)))), (9, .int (zI i))]) hx hb dX5_stripOf_80 hl (by decide) rfl (fun ls hl => ?_)
              refine lv_iinc (v := zI (i + 1)) (lv' := [(9, .int (zI (i + 1))), (7, .int (zI (t + 1))), (6, .int (zI i)), (8, .int (zI (tAt (S 9 1) z (zStr f i)))), (0, .ref (za G 9 0)), (1, .int (zI z)), (2, .int (zI f)), (3, .int (zI n)), (4, .int (zI what)), (5, .int (zI (S 9 1 (5 + 5 * z + 1))))]) hx hb dX5_stripOf_82 hl (k := 9) rfl (zI_add _ _) (by decide) rfl (fun ls hl => ?_)
              refine lv_goto (tgt := 24) hx hb dX5_stripOf_85 (by decide) ?_
              exact ih24 (i + 1) i (t + 1) (tAt (S 9 1) z (zStr f i)) M_38 _ _ _ (by omega) (by omega) (by rw [tSf_s _ _ _ hi.1, ← hfo]; first | (exfalso; omega) | rw [if_pos (by omega)] | rw [if_neg (by omega)]) (by unfold tSh; rw [zsum_s _ hi.1, hh]; first | (exfalso; omega) | (rw [if_pos (by omega)]; rfl) | (rw [if_neg (by omega)]; rfl)) (fun _ => by rw [show i + 1 - 1 = i by omega]) hH (lv_sub hl [4, 5, 6, 7, 8, 9, 2, 1, 3, 0] rfl)
  refine lv_aload_n hx hb dX5_stripOf_0 rfl (lv_at hl 0 rfl) ?_
  refine zg_5_1 h hH zf_X5_7 dX5_stripOf_1 ?_
  refine lv_iload_n hx hb dX5_stripOf_4 rfl (lv_at hl 1 rfl) ?_
  refine zb_ic h dX5_stripOf_5 ?_
  refine zcSi h hH (As := [.int (zI z), .int (zI 1)]) (rest := [.ref (za G 9 1)]) (c_X5_of l G hG (zMo S (S 9 0) (S 9 1) (S 9 2) (S 9 3) (S 9 4) (S 9 5) (S 9 6)) z 1) zce_X5_of zt_X5_of zm_X5_51 hl.1 rfl rfl ⟨rfl, rfl⟩ ⟨Nat.le_of_ble_eq_true rfl, Nat.le_of_ble_eq_true rfl⟩ (Nat.le_of_ble_eq_true rfl) ⟨Nat.zero_le _, Nat.zero_le _⟩ dX5_stripOf_6 (fun r_6 S_6 H locs hq hH => ?_)
  obtain ⟨rfl, rfl⟩ := hq
  refine zld_ar_s h hH (by omega) dX5_stripOf_9 ?_
  rw [zM_1]
  have f_9 := zW_wa hw (show 0 ≤ z ∧ z < 8 by omega)
  refine lv_istore (lv' := [(5, .int (zI (S 9 1 (5 + 5 * z + 1)))), (0, .ref (za G 9 0)), (1, .int (zI z)), (2, .int (zI f)), (3, .int (zI n)), (4, .int (zI what))]) hx hb dX5_stripOf_10 hl (by decide) rfl (fun ls hl => ?_)
  refine zb_ic h dX5_stripOf_12 ?_
  refine lv_istore (lv' := [(6, .int (zI (-1))), (5, .int (zI (S 9 1 (5 + 5 * z + 1)))), (0, .ref (za G 9 0)), (1, .int (zI z)), (2, .int (zI f)), (3, .int (zI n)), (4, .int (zI what))]) hx hb dX5_stripOf_13 hl (by decide) rfl (fun ls hl => ?_)
  refine zb_ic h dX5_stripOf_15 ?_
  refine lv_istore (lv' := [(7, .int (zI 0)), (6, .int (zI (-1))), (5, .int (zI (S 9 1 (5 + 5 * z + 1)))), (0, .ref (za G 9 0)), (1, .int (zI z)), (2, .int (zI f)), (3, .int (zI n)), (4, .int (zI what))]) hx hb dX5_stripOf_16 hl (by decide) rfl (fun ls hl => ?_)
  refine zb_ic h dX5_stripOf_18 ?_
  refine lv_istore (lv' := [(8, .int (zI 0)), (7, .int (zI 0)), (6, .int (zI (-1))), (5, .int (zI (S 9 1 (5 + 5 * z + 1)))), (0, .ref (za G 9 0)), (1, .int (zI z)), (2, .int (zI f)), (3, .int (zI n)), (4, .int (zI what))]) hx hb dX5_stripOf_19 hl (by decide) rfl (fun ls hl => ?_)
  refine zb_ic h dX5_stripOf_21 ?_
  refine lv_istore (lv' := [(9, .int (zI 0)), (8, .int (zI 0)), (7, .int (zI 0)), (6, .int (zI (-1))), (5, .int (zI (S 9 1 (5 + 5 * z + 1)))), (0, .ref (za G 9 0)), (1, .int (zI z)), (2, .int (zI f)), (3, .int (zI n)), (4, .int (zI what))]) hx hb dX5_stripOf_22 hl (by decide) rfl (fun ls hl => ?_)
  exact C24 ((n - 0 : Int).toNat + 1) 0 (-1) 0 0 (S 9 5) _ _ _ (by omega) (by omega) rfl rfl (fun q => absurd q (by omega)) hH (lv_sub hl [5, 6, 7, 8, 9, 4, 3, 2, 1, 0] rfl)
theorem dX5_ofZone_0 : decode cX5_ofZone 0 = .ok (.iload_n 2, 1) := by decide +kernel
theorem dX5_ofZone_1 : decode cX5_ofZone 1 = .ok (.tableswitch 103 4 10 #[43, 49, 68, 74, 85, 91, 97], 43) := by decide +kernel
theorem dX5_ofZone_44 : decode cX5_ofZone 44 = .ok (.aload_n 0, 1) := by decide +kernel
theorem dX5_ofZone_45 : decode cX5_ofZone 45 = .ok (.iload_n 1, 1) := by decide +kernel
theorem dX5_ofZone_46 : decode cX5_ofZone 46 = .ok (.invokevirtual 65, 3) := by decide +kernel
theorem dX5_ofZone_49 : decode cX5_ofZone 49 = .ok (.ireturn, 1) := by decide +kernel
theorem dX5_ofZone_50 : decode cX5_ofZone 50 = .ok (.aload_n 0, 1) := by decide +kernel
theorem dX5_ofZone_51 : decode cX5_ofZone 51 = .ok (.iload_n 1, 1) := by decide +kernel
theorem dX5_ofZone_52 : decode cX5_ofZone 52 = .ok (.invokevirtual 65, 3) := by decide +kernel
theorem dX5_ofZone_55 : decode cX5_ofZone 55 = .ok (.aload_n 0, 1) := by decide +kernel
theorem dX5_ofZone_56 : decode cX5_ofZone 56 = .ok (.getfield 7, 3) := by decide +kernel
theorem dX5_ofZone_59 : decode cX5_ofZone 59 = .ok (.iload_n 1, 1) := by decide +kernel
theorem dX5_ofZone_60 : decode cX5_ofZone 60 = .ok (.iconst 0, 1) := by decide +kernel
theorem dX5_ofZone_61 : decode cX5_ofZone 61 = .ok (.invokestatic 51, 3) := by decide +kernel
theorem dX5_ofZone_64 : decode cX5_ofZone 64 = .ok (.iaload, 1) := by decide +kernel
theorem dX5_ofZone_65 : decode cX5_ofZone 65 = .ok (.invokestatic 55, 3) := by decide +kernel
theorem dX5_ofZone_68 : decode cX5_ofZone 68 = .ok (.ireturn, 1) := by decide +kernel
theorem dX5_ofZone_69 : decode cX5_ofZone 69 = .ok (.aload_n 0, 1) := by decide +kernel
theorem dX5_ofZone_70 : decode cX5_ofZone 70 = .ok (.iload_n 1, 1) := by decide +kernel
theorem dX5_ofZone_71 : decode cX5_ofZone 71 = .ok (.invokevirtual 71, 3) := by decide +kernel
theorem dX5_ofZone_74 : decode cX5_ofZone 74 = .ok (.ireturn, 1) := by decide +kernel
theorem dX5_ofZone_75 : decode cX5_ofZone 75 = .ok (.aload_n 0, 1) := by decide +kernel
theorem dX5_ofZone_76 : decode cX5_ofZone 76 = .ok (.getfield 7, 3) := by decide +kernel
theorem dX5_ofZone_79 : decode cX5_ofZone 79 = .ok (.iload_n 1, 1) := by decide +kernel
theorem dX5_ofZone_80 : decode cX5_ofZone 80 = .ok (.iconst 4, 1) := by decide +kernel
theorem dX5_ofZone_81 : decode cX5_ofZone 81 = .ok (.invokestatic 51, 3) := by decide +kernel
theorem dX5_ofZone_84 : decode cX5_ofZone 84 = .ok (.iaload, 1) := by decide +kernel
theorem dX5_ofZone_85 : decode cX5_ofZone 85 = .ok (.ireturn, 1) := by decide +kernel
theorem dX5_ofZone_86 : decode cX5_ofZone 86 = .ok (.aload_n 0, 1) := by decide +kernel
theorem dX5_ofZone_87 : decode cX5_ofZone 87 = .ok (.iload_n 1, 1) := by decide +kernel
theorem dX5_ofZone_88 : decode cX5_ofZone 88 = .ok (.invokevirtual 81, 3) := by decide +kernel
theorem dX5_ofZone_91 : decode cX5_ofZone 91 = .ok (.ireturn, 1) := by decide +kernel
theorem dX5_ofZone_92 : decode cX5_ofZone 92 = .ok (.aload_n 0, 1) := by decide +kernel
theorem dX5_ofZone_93 : decode cX5_ofZone 93 = .ok (.iload_n 1, 1) := by decide +kernel
theorem dX5_ofZone_94 : decode cX5_ofZone 94 = .ok (.invokevirtual 163, 3) := by decide +kernel
theorem dX5_ofZone_97 : decode cX5_ofZone 97 = .ok (.ireturn, 1) := by decide +kernel
theorem dX5_ofZone_98 : decode cX5_ofZone 98 = .ok (.aload_n 0, 1) := by decide +kernel
theorem dX5_ofZone_99 : decode cX5_ofZone 99 = .ok (.iload_n 1, 1) := by decide +kernel
theorem dX5_ofZone_100 : decode cX5_ofZone 100 = .ok (.invokevirtual 62, 3) := by decide +kernel
theorem dX5_ofZone_103 : decode cX5_ofZone 103 = .ok (.ireturn, 1) := by decide +kernel
theorem dX5_ofZone_104 : decode cX5_ofZone 104 = .ok (.aload_n 0, 1) := by decide +kernel
theorem dX5_ofZone_105 : decode cX5_ofZone 105 = .ok (.getfield 7, 3) := by decide +kernel
theorem dX5_ofZone_108 : decode cX5_ofZone 108 = .ok (.iload_n 1, 1) := by decide +kernel
theorem dX5_ofZone_109 : decode cX5_ofZone 109 = .ok (.iload_n 2, 1) := by decide +kernel
theorem dX5_ofZone_110 : decode cX5_ofZone 110 = .ok (.invokestatic 51, 3) := by decide +kernel
theorem dX5_ofZone_113 : decode cX5_ofZone 113 = .ok (.iaload, 1) := by decide +kernel
theorem dX5_ofZone_114 : decode cX5_ofZone 114 = .ok (.ireturn, 1) := by decide +kernel
def q_X5_ofZone (S : zM) (z what : Int) : Int32 → zM → Prop := fun r S1 => r = zI (tPr (S 9 1) z what) ∧ ∃ M', zMo S (S 9 0) (S 9 1) (S 9 2) (S 9 3) (S 9 4) M' (S 9 6) = S1
def r_X5_ofZone : Room := { frames := 6, cells := 0, slots := 0, locals := 137 }
set_option maxHeartbeats 4000000 in
set_option maxRecDepth 100000 in
theorem c_X5_ofZone (l : Launch) (G : zG) (hG : zok G) (S : zM) (z what : Int) (hz : 0 ≤ z ∧ z < 8) (hwh : 0 ≤ what ∧ what ≤ 10) (hw : zW (S 9 1)) : Met l yX5_ofZone (Cond.code yX5_ofZone cX5_ofZone 3 (some FieldType.int) :: zTbl) r_X5_ofZone (va_Pc [.ref (za G 9 0), .int (zI z), .int (zI what)] (zB G S)) (va_Qi (q_X5_ofZone S z what) (zB G) (zA G)) 0 0 (zA G) := by
  refine zMet [(0, .ref (za G 9 0)), (1, .int (zI z)), (2, .int (zI what))] hG (by decide) (Nat.le_of_ble_eq_true rfl) rfl (fun p e s m args below meth c ls h hx hb hr hH hl => ?_)
  rw [← zM_id S] at hH
  have bt := tTm_in hw hz
  refine lv_iload_n hx hb dX5_ofZone_0 rfl (lv_at hl 2 rfl) ?_
  have x_1 : (zI what).toInt = what := zI_toInt (by omega) (by omega)
  by_cases e_1_4 : what = 4
  · refine lv_tableIn (tgt := 44) hx hb dX5_ofZone_1 (by omega) (by omega) (show _ = some (43 : Int) by rw [x_1, e_1_4]; rfl) (by decide) ?_
    refine lv_aload_n hx hb dX5_ofZone_44 rfl (lv_at hl 0 rfl) ?_
    refine lv_iload_n hx hb dX5_ofZone_45 rfl (lv_at hl 1 rfl) ?_
    refine zcVi h hH (zr_5 h hH) (As := [.int (zI z)]) (rest := []) (c_X5_timeOf l G hG (zMo S (S 9 0) (S 9 1) (S 9 2) (S 9 3) (S 9 4) (S 9 5) (S 9 6)) z (by omega) (zM_hw hw)) zce_X5_timeOf zcv_X5_timeOf zm_X5_65 hl.1 rfl rfl ⟨rfl, rfl⟩ ⟨Nat.le_of_ble_eq_true rfl, Nat.le_of_ble_eq_true rfl⟩ (Nat.le_of_ble_eq_true rfl) ⟨Nat.zero_le _, Nat.zero_le _⟩ dX5_ofZone_46 (fun r_46 S_46 H locs hq hH => ?_)
    obtain ⟨rfl, M_46, rfl⟩ := hq
    simp only [zM_M, zM_0, zM_1, zM_2, zM_3, zM_4, zM_5, zM_6] at hH
    rw [zM_1]
    refine zri h hr hH ?_ dX5_ofZone_49
    exact ⟨congrArg zI (by unfold tPr; simp only [e_1_4]; rfl), _, rfl⟩
  by_cases e_1_5 : what = 5
  · refine lv_tableIn (tgt := 50) hx hb dX5_ofZone_1 (by omega) (by omega) (show _ = some (49 : Int) by rw [x_1, e_1_5]; rfl) (by decide) ?_
    refine lv_aload_n hx hb dX5_ofZone_50 rfl (lv_at hl 0 rfl) ?_
    refine lv_iload_n hx hb dX5_ofZone_51 rfl (lv_at hl 1 rfl) ?_
    refine zcVi h hH (zr_5 h hH) (As := [.int (zI z)]) (rest := []) (c_X5_timeOf l G hG (zMo S (S 9 0) (S 9 1) (S 9 2) (S 9 3) (S 9 4) (S 9 5) (S 9 6)) z (by omega) (zM_hw hw)) zce_X5_timeOf zcv_X5_timeOf zm_X5_65 hl.1 rfl rfl ⟨rfl, rfl⟩ ⟨Nat.le_of_ble_eq_true rfl, Nat.le_of_ble_eq_true rfl⟩ (Nat.le_of_ble_eq_true rfl) ⟨Nat.zero_le _, Nat.zero_le _⟩ dX5_ofZone_52 (fun r_52 S_52 H locs hq hH => ?_)
    obtain ⟨rfl, M_52, rfl⟩ := hq
    simp only [zM_M, zM_0, zM_1, zM_2, zM_3, zM_4, zM_5, zM_6] at hH
    rw [zM_1]
    refine lv_aload_n hx hb dX5_ofZone_55 rfl (lv_at hl 0 rfl) ?_
    refine zg_5_1 h hH zf_X5_7 dX5_ofZone_56 ?_
    refine lv_iload_n hx hb dX5_ofZone_59 rfl (lv_at hl 1 rfl) ?_
    refine zb_ic h dX5_ofZone_60 ?_
    refine zcSi h hH (As := [.int (zI z), .int (zI 0)]) (rest := [.ref (za G 9 1), .int (zI (tTm (S 9 1) z))]) (c_X5_of l G hG (zMo S (S 9 0) (S 9 1) (S 9 2) (S 9 3) (S 9 4) M_52 (S 9 6)) z 0) zce_X5_of zt_X5_of zm_X5_51 hl.1 rfl rfl ⟨rfl, rfl⟩ ⟨Nat.le_of_ble_eq_true rfl, Nat.le_of_ble_eq_true rfl⟩ (Nat.le_of_ble_eq_true rfl) ⟨Nat.zero_le _, Nat.zero_le _⟩ dX5_ofZone_61 (fun r_61 S_61 H locs hq hH => ?_)
    obtain ⟨rfl, rfl⟩ := hq
    refine zb_top (y := 5 + 5 * z) (by omega) ?_
    refine zld_ar_s h hH (by omega) dX5_ofZone_64 ?_
    rw [zM_1]
    have f_64 := zW_de hw (show 0 ≤ z ∧ z < 8 by omega)
    refine zcSi h hH (As := [.int (zI (tTm (S 9 1) z)), .int (zI (S 9 1 (5 + 5 * z)))]) (rest := []) (c_X5_lightOf l G hG (zMo S (S 9 0) (S 9 1) (S 9 2) (S 9 3) (S 9 4) M_52 (S 9 6)) (tTm (S 9 1) z) (S 9 1 (5 + 5 * z)) (by omega) (by omega)) zce_X5_lightOf zt_X5_lightOf zm_X5_55 hl.1 rfl rfl ⟨rfl, rfl⟩ ⟨Nat.le_of_ble_eq_true rfl, Nat.le_of_ble_eq_true rfl⟩ (Nat.le_of_ble_eq_true rfl) ⟨Nat.zero_le _, Nat.zero_le _⟩ dX5_ofZone_65 (fun r_65 S_65 H locs hq hH => ?_)
    obtain ⟨rfl, rfl⟩ := hq
    refine zri h hr hH ?_ dX5_ofZone_68
    exact ⟨congrArg zI (by unfold tPr; simp only [e_1_5]; rfl), _, rfl⟩
  by_cases e_1_6 : what = 6
  · refine lv_tableIn (tgt := 69) hx hb dX5_ofZone_1 (by omega) (by omega) (show _ = some (68 : Int) by rw [x_1, e_1_6]; rfl) (by decide) ?_
    refine lv_aload_n hx hb dX5_ofZone_69 rfl (lv_at hl 0 rfl) ?_
    refine lv_iload_n hx hb dX5_ofZone_70 rfl (lv_at hl 1 rfl) ?_
    refine zcVi h hH (zr_5 h hH) (As := [.int (zI z)]) (rest := []) (c_X5_tone l G hG (zMo S (S 9 0) (S 9 1) (S 9 2) (S 9 3) (S 9 4) (S 9 5) (S 9 6)) z (by omega) (zM_hw hw)) zce_X5_tone zcv_X5_tone zm_X5_71 hl.1 rfl rfl ⟨rfl, rfl⟩ ⟨Nat.le_of_ble_eq_true rfl, Nat.le_of_ble_eq_true rfl⟩ (Nat.le_of_ble_eq_true rfl) ⟨Nat.zero_le _, Nat.zero_le _⟩ dX5_ofZone_71 (fun r_71 S_71 H locs hq hH => ?_)
    obtain ⟨rfl, M_71, rfl⟩ := hq
    simp only [zM_M, zM_0, zM_1, zM_2, zM_3, zM_4, zM_5, zM_6] at hH
    rw [zM_1]
    refine zri h hr hH ?_ dX5_ofZone_74
    exact ⟨congrArg zI (by unfold tPr; simp only [e_1_6]; rfl), _, rfl⟩
  by_cases e_1_7 : what = 7
  · refine lv_tableIn (tgt := 75) hx hb dX5_ofZone_1 (by omega) (by omega) (show _ = some (74 : Int) by rw [x_1, e_1_7]; rfl) (by decide) ?_
    refine lv_aload_n hx hb dX5_ofZone_75 rfl (lv_at hl 0 rfl) ?_
    refine zg_5_1 h hH zf_X5_7 dX5_ofZone_76 ?_
    refine lv_iload_n hx hb dX5_ofZone_79 rfl (lv_at hl 1 rfl) ?_
    refine zb_ic h dX5_ofZone_80 ?_
    refine zcSi h hH (As := [.int (zI z), .int (zI 4)]) (rest := [.ref (za G 9 1)]) (c_X5_of l G hG (zMo S (S 9 0) (S 9 1) (S 9 2) (S 9 3) (S 9 4) (S 9 5) (S 9 6)) z 4) zce_X5_of zt_X5_of zm_X5_51 hl.1 rfl rfl ⟨rfl, rfl⟩ ⟨Nat.le_of_ble_eq_true rfl, Nat.le_of_ble_eq_true rfl⟩ (Nat.le_of_ble_eq_true rfl) ⟨Nat.zero_le _, Nat.zero_le _⟩ dX5_ofZone_81 (fun r_81 S_81 H locs hq hH => ?_)
    obtain ⟨rfl, rfl⟩ := hq
    refine zld_ar_s h hH (by omega) dX5_ofZone_84 ?_
    rw [zM_1]
    have f_84 := zW_nb hw (show 0 ≤ z ∧ z < 8 by omega)
    refine zri h hr hH ?_ dX5_ofZone_85
    exact ⟨congrArg zI (by unfold tPr; simp only [e_1_7]; rfl), _, rfl⟩
  by_cases e_1_8 : what = 8
  · refine lv_tableIn (tgt := 86) hx hb dX5_ofZone_1 (by omega) (by omega) (show _ = some (85 : Int) by rw [x_1, e_1_8]; rfl) (by decide) ?_
    refine lv_aload_n hx hb dX5_ofZone_86 rfl (lv_at hl 0 rfl) ?_
    refine lv_iload_n hx hb dX5_ofZone_87 rfl (lv_at hl 1 rfl) ?_
    refine zcVi h hH (zr_5 h hH) (As := [.int (zI z)]) (rest := []) (c_X5_leastNeeded l G hG (zMo S (S 9 0) (S 9 1) (S 9 2) (S 9 3) (S 9 4) (S 9 5) (S 9 6)) z (by omega) (zM_hw hw)) zce_X5_leastNeeded zcv_X5_leastNeeded zm_X5_81 hl.1 rfl rfl ⟨rfl, rfl⟩ ⟨Nat.le_of_ble_eq_true rfl, Nat.le_of_ble_eq_true rfl⟩ (Nat.le_of_ble_eq_true rfl) ⟨Nat.zero_le _, Nat.zero_le _⟩ dX5_ofZone_88 (fun r_88 S_88 H locs hq hH => ?_)
    obtain ⟨rfl, M_88, rfl⟩ := hq
    simp only [zM_M, zM_0, zM_1, zM_2, zM_3, zM_4, zM_5, zM_6] at hH
    rw [zM_1]
    refine zri h hr hH ?_ dX5_ofZone_91
    exact ⟨congrArg zI (by unfold tPr; simp only [e_1_8]; rfl), _, rfl⟩
  by_cases e_1_9 : what = 9
  · refine lv_tableIn (tgt := 92) hx hb dX5_ofZone_1 (by omega) (by omega) (show _ = some (91 : Int) by rw [x_1, e_1_9]; rfl) (by decide) ?_
    refine lv_aload_n hx hb dX5_ofZone_92 rfl (lv_at hl 0 rfl) ?_
    refine lv_iload_n hx hb dX5_ofZone_93 rfl (lv_at hl 1 rfl) ?_
    refine zcVi h hH (zr_5 h hH) (As := [.int (zI z)]) (rest := []) (c_X5_greatestNeeded l G hG (zMo S (S 9 0) (S 9 1) (S 9 2) (S 9 3) (S 9 4) (S 9 5) (S 9 6)) z (by omega) (zM_hw hw)) zce_X5_greatestNeeded zcv_X5_greatestNeeded zm_X5_163 hl.1 rfl rfl ⟨rfl, rfl⟩ ⟨Nat.le_of_ble_eq_true rfl, Nat.le_of_ble_eq_true rfl⟩ (Nat.le_of_ble_eq_true rfl) ⟨Nat.zero_le _, Nat.zero_le _⟩ dX5_ofZone_94 (fun r_94 S_94 H locs hq hH => ?_)
    obtain ⟨rfl, M_94, rfl⟩ := hq
    simp only [zM_M, zM_0, zM_1, zM_2, zM_3, zM_4, zM_5, zM_6] at hH
    rw [zM_1]
    refine zri h hr hH ?_ dX5_ofZone_97
    exact ⟨congrArg zI (by unfold tPr; simp only [e_1_9]; rfl), _, rfl⟩
  by_cases e_1_10 : what = 10
  · refine lv_tableIn (tgt := 98) hx hb dX5_ofZone_1 (by omega) (by omega) (show _ = some (97 : Int) by rw [x_1, e_1_10]; rfl) (by decide) ?_
    refine lv_aload_n hx hb dX5_ofZone_98 rfl (lv_at hl 0 rfl) ?_
    refine lv_iload_n hx hb dX5_ofZone_99 rfl (lv_at hl 1 rfl) ?_
    refine zcVi h hH (zr_5 h hH) (As := [.int (zI z)]) (rest := []) (c_X5_spilled l G hG (zMo S (S 9 0) (S 9 1) (S 9 2) (S 9 3) (S 9 4) (S 9 5) (S 9 6)) z (by omega) (zM_hw hw)) zce_X5_spilled zcv_X5_spilled zm_X5_62 hl.1 rfl rfl ⟨rfl, rfl⟩ ⟨Nat.le_of_ble_eq_true rfl, Nat.le_of_ble_eq_true rfl⟩ (Nat.le_of_ble_eq_true rfl) ⟨Nat.zero_le _, Nat.zero_le _⟩ dX5_ofZone_100 (fun r_100 S_100 H locs hq hH => ?_)
    obtain ⟨rfl, M_100, rfl⟩ := hq
    simp only [zM_M, zM_0, zM_1, zM_2, zM_3, zM_4, zM_5, zM_6] at hH
    rw [zM_1]
    refine zri h hr hH ?_ dX5_ofZone_103
    exact ⟨congrArg zI (by unfold tPr; simp only [e_1_10]; rfl), _, rfl⟩
  refine lv_tableOut (tgt := 104) hx hb dX5_ofZone_1 (by omega) (by decide) ?_
  refine lv_aload_n hx hb dX5_ofZone_104 rfl (lv_at hl 0 rfl) ?_
  refine zg_5_1 h hH zf_X5_7 dX5_ofZone_105 ?_
  refine lv_iload_n hx hb dX5_ofZone_108 rfl (lv_at hl 1 rfl) ?_
  refine lv_iload_n hx hb dX5_ofZone_109 rfl (lv_at hl 2 rfl) ?_
  refine zcSi h hH (As := [.int (zI z), .int (zI what)]) (rest := [.ref (za G 9 1)]) (c_X5_of l G hG (zMo S (S 9 0) (S 9 1) (S 9 2) (S 9 3) (S 9 4) (S 9 5) (S 9 6)) z what) zce_X5_of zt_X5_of zm_X5_51 hl.1 rfl rfl ⟨rfl, rfl⟩ ⟨Nat.le_of_ble_eq_true rfl, Nat.le_of_ble_eq_true rfl⟩ (Nat.le_of_ble_eq_true rfl) ⟨Nat.zero_le _, Nat.zero_le _⟩ dX5_ofZone_110 (fun r_110 S_110 H locs hq hH => ?_)
  obtain ⟨rfl, rfl⟩ := hq
  refine zld_ar_s h hH (by omega) dX5_ofZone_113 ?_
  rw [zM_1]
  refine zri h hr hH ?_ dX5_ofZone_114
  rcases (show what = 0 ∨ what = 1 ∨ what = 2 ∨ what = 3 by omega) with rfl | rfl | rfl | rfl
  · exact ⟨congrArg zI (by unfold tPr; rw [if_pos rfl, Int.add_zero]), _, rfl⟩
  · exact ⟨rfl, _, rfl⟩
  · exact ⟨rfl, _, rfl⟩
  · exact ⟨rfl, _, rfl⟩
theorem dX5_markOf_0 : decode cX5_markOf 0 = .ok (.aload_n 0, 1) := by decide +kernel
theorem dX5_markOf_1 : decode cX5_markOf 1 = .ok (.invokevirtual 48, 3) := by decide +kernel
theorem dX5_markOf_4 : decode cX5_markOf 4 = .ok (.aload_n 0, 1) := by decide +kernel
theorem dX5_markOf_5 : decode cX5_markOf 5 = .ok (.getfield 22, 3) := by decide +kernel
theorem dX5_markOf_8 : decode cX5_markOf 8 = .ok (.iload_n 1, 1) := by decide +kernel
theorem dX5_markOf_9 : decode cX5_markOf 9 = .ok (.iconst 1, 1) := by decide +kernel
theorem dX5_markOf_10 : decode cX5_markOf 10 = .ok (.isub, 1) := by decide +kernel
theorem dX5_markOf_11 : decode cX5_markOf 11 = .ok (.iaload, 1) := by decide +kernel
theorem dX5_markOf_12 : decode cX5_markOf 12 = .ok (.ireturn, 1) := by decide +kernel
def q_X5_markOf (S : zM) (n : Int) : Int32 → zM → Prop := fun r S1 => r = zI (zMk (S 9 1 1) (S 9 1 2) (n - 1)) ∧ ∃ M', zMo S (S 9 0) (S 9 1) (S 9 2) (S 9 3) (S 9 4) M' (S 9 6) = S1
def r_X5_markOf : Room := { frames := 1, cells := 0, slots := 0, locals := 24 }
set_option maxHeartbeats 4000000 in
set_option maxRecDepth 100000 in
theorem c_X5_markOf (l : Launch) (G : zG) (hG : zok G) (S : zM) (n : Int) (hn : 1 ≤ n ∧ n ≤ 10) (hw : zW (S 9 1)) : Met l yX5_markOf (Cond.code yX5_markOf cX5_markOf 2 (some FieldType.int) :: zTbl) r_X5_markOf (va_Pc [.ref (za G 9 0), .int (zI n)] (zB G S)) (va_Qi (q_X5_markOf S n) (zB G) (zA G)) 0 0 (zA G) := by
  refine zMet [(0, .ref (za G 9 0)), (1, .int (zI n))] hG (by decide) (Nat.le_of_ble_eq_true rfl) rfl (fun p e s m args below meth c ls h hx hb hr hH hl => ?_)
  rw [← zM_id S] at hH
  refine lv_aload_n hx hb dX5_markOf_0 rfl (lv_at hl 0 rfl) ?_
  refine zcVv h hH (zr_5 h hH) (As := []) (rest := []) (c_X5_findMarks l G hG (zMo S (S 9 0) (S 9 1) (S 9 2) (S 9 3) (S 9 4) (S 9 5) (S 9 6)) (zM_hw hw)) zce_X5_findMarks zcv_X5_findMarks zm_X5_48 hl.1 rfl rfl ⟨rfl, rfl⟩ ⟨Nat.le_of_ble_eq_true rfl, Nat.le_of_ble_eq_true rfl⟩ (Nat.le_of_ble_eq_true rfl) ⟨Nat.zero_le _, Nat.zero_le _⟩ dX5_markOf_1 (fun S_1 H locs hq hH => ?_)
  obtain rfl := hq
  simp only [zM_M, zM_0, zM_1, zM_2, zM_3, zM_4, zM_5, zM_6] at hH
  refine lv_aload_n hx hb dX5_markOf_4 rfl (lv_at hl 0 rfl) ?_
  refine zg_5_7 h hH zf_X5_22 dX5_markOf_5 ?_
  refine lv_iload_n hx hb dX5_markOf_8 rfl (lv_at hl 1 rfl) ?_
  refine zb_ic h dX5_markOf_9 ?_
  refine zb_isub h dX5_markOf_10 ?_
  refine zld_ar_mm h hH (by omega) dX5_markOf_11 ?_
  rw [zM_5]
  refine zri h hr hH ?_ dX5_markOf_12
  exact ⟨rfl, _, rfl⟩
