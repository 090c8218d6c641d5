/-! the law: its rows, what its calls need -/
set_option maxHeartbeats 4000000 in
set_option maxRecDepth 100000 in
theorem c_X5_link2 (l : Launch) (G : zG) (hG : zok G) (S : zM) (a : Int) (ha_ : -2147483648 ≤ a ∧ a ≤ 2147483647) (b : Int) (hb_ : -2147483648 ≤ b ∧ b ≤ 2147483647) (hsm : 0 ≤ S 9 0 4 ∧ S 9 0 4 ≤ 6) (hw : zW (S 9 1)) : Met l yX5_link (Cond.code yX5_link cX5_link 3 (some FieldType.int) :: zTbl) r_X5_link (va_Pc [.ref (za G 9 0), .int (zI a), .int (zI b)] (zB G S)) (va_Qi (q_X5_link S a b) (zB G) (zA G)) 0 0 (zA G) := by
  refine zMet [(0, .ref (za G 9 0)), (1, .int (zI a)), (2, .int (zI b))] hG (by decide) (Nat.le_of_ble_eq_true rfl) rfl (fun p e s m args below meth c ls h hx hb hr hH hl => ?_)
  rw [← zM_id S] at hH
  refine lv_aload_n hx hb dX5_link_0 rfl (lv_at hl 0 rfl) ?_
  refine lv_aload_n hx hb dX5_link_1 rfl (lv_at hl 0 rfl) ?_
  refine lv_iload_n hx hb dX5_link_2 rfl (lv_at hl 1 rfl) ?_
  refine zcVi h hH (zr_5 h hH) (As := [.int (zI a)]) (rest := [.ref (za G 9 0)]) (c_X5_isZone l G hG (zMo S (S 9 0) (S 9 1) (S 9 2) (S 9 3) (S 9 4) (S 9 5) (S 9 6)) a (by omega) (zM_hw hw)) zce_X5_isZone zcv_X5_isZone zm_X5_96 hl.1 rfl rfl ⟨rfl, rfl⟩ ⟨Nat.le_of_ble_eq_true rfl, Nat.le_of_ble_eq_true rfl⟩ (Nat.le_of_ble_eq_true rfl) ⟨Nat.zero_le _, Nat.zero_le _⟩ dX5_link_3 (fun r_3 S_3 H locs hq hH => ?_)
  obtain ⟨b_3, rfl, hb_3, rfl⟩ := hq
  (try rw [zM_1] at hb_3)
  refine zb_ieq (tgt := 17) h (by omega) dX5_link_6 (by decide) (fun c_6 => ?_) (fun c_6 => ?_)
  · refine zb_ic h dX5_link_17 ?_
    refine lv_goto (tgt := 31) hx hb dX5_link_18 (by decide) ?_
    refine zcVi h hH (zr_5 h hH) (As := [.int (zI 1)]) (rest := []) (c_X5_holds l G hG (zMo S (S 9 0) (S 9 1) (S 9 2) (S 9 3) (S 9 4) (S 9 5) (S 9 6)) 1 (by omega)) zce_X5_holds zcv_X5_holds zm_X5_87 hl.1 rfl rfl ⟨rfl, rfl⟩ ⟨Nat.le_of_ble_eq_true rfl, Nat.le_of_ble_eq_true rfl⟩ (Nat.le_of_ble_eq_true rfl) ⟨Nat.zero_le _, Nat.zero_le _⟩ dX5_link_31 (fun r_31 S_31 H locs hq hH => ?_)
    obtain ⟨b_31, rfl, hb_31, rfl⟩ := hq
    (try rw [zM_1] at hb_31)
    simp only [zM_M, zM_0, zM_1, zM_2, zM_3, zM_4, zM_5, zM_6] at hH
    refine zb_ine (tgt := 39) h (by omega) dX5_link_34 (by decide) (fun c_34 => ?_) (fun c_34 => ?_)
    · exact absurd c_34 (by omega)
    · refine zb_ic h dX5_link_37 ?_
      refine zri h hr hH ?_ dX5_link_38
      exact Or.inl ⟨by omega, rfl⟩
  · refine lv_aload_n hx hb dX5_link_9 rfl (lv_at hl 0 rfl) ?_
    refine lv_iload_n hx hb dX5_link_10 rfl (lv_at hl 2 rfl) ?_
    refine zcVi h hH (zr_5 h hH) (As := [.int (zI b)]) (rest := [.ref (za G 9 0)]) (c_X5_isZone l G hG (zMo S (S 9 0) (S 9 1) (S 9 2) (S 9 3) (S 9 4) (S 9 5) (S 9 6)) b (by omega) (zM_hw hw)) zce_X5_isZone zcv_X5_isZone zm_X5_96 hl.1 rfl rfl ⟨rfl, rfl⟩ ⟨Nat.le_of_ble_eq_true rfl, Nat.le_of_ble_eq_true rfl⟩ (Nat.le_of_ble_eq_true rfl) ⟨Nat.zero_le _, Nat.zero_le _⟩ dX5_link_11 (fun r_11 S_11 H locs hq hH => ?_)
    obtain ⟨b_11, rfl, hb_11, rfl⟩ := hq
    (try rw [zM_1] at hb_11)
    refine zb_ine (tgt := 21) h (by omega) dX5_link_14 (by decide) (fun c_14 => ?_) (fun c_14 => ?_)
    · refine lv_iload_n hx hb dX5_link_21 rfl (lv_at hl 1 rfl) ?_
      refine lv_iload_n hx hb dX5_link_22 rfl (lv_at hl 2 rfl) ?_
      refine zb_cne (tgt := 30) h (by omega) (by omega) dX5_link_23 (by decide) (fun c_23 => ?_) (fun c_23 => ?_)
      · refine zb_ic h dX5_link_30 ?_
        refine zcVi h hH (zr_5 h hH) (As := [.int (zI 0)]) (rest := []) (c_X5_holds l G hG (zMo S (S 9 0) (S 9 1) (S 9 2) (S 9 3) (S 9 4) (S 9 5) (S 9 6)) 0 (by omega)) zce_X5_holds zcv_X5_holds zm_X5_87 hl.1 rfl rfl ⟨rfl, rfl⟩ ⟨Nat.le_of_ble_eq_true rfl, Nat.le_of_ble_eq_true rfl⟩ (Nat.le_of_ble_eq_true rfl) ⟨Nat.zero_le _, Nat.zero_le _⟩ dX5_link_31 (fun r_31 S_31 H locs hq hH => ?_)
        obtain ⟨b_31, rfl, hb_31, rfl⟩ := hq
        (try rw [zM_1] at hb_31)
        simp only [zM_M, zM_0, zM_1, zM_2, zM_3, zM_4, zM_5, zM_6] at hH
        refine zb_ine (tgt := 39) h (by omega) dX5_link_34 (by decide) (fun c_34 => ?_) (fun c_34 => ?_)
        · have f4 := zW_4 hw
          refine lv_aload_n hx hb dX5_link_39 rfl (lv_at hl 0 rfl) ?_
          refine zcVv h hH (zr_5 h hH) (As := []) (rest := []) (c_X5_save l G hG (zMo S (zup (S 9 0) 0 0) (S 9 1) (S 9 2) (S 9 3) (S 9 4) (S 9 5) (S 9 6)) (by rw [zM_0, zup_n (by omega)]; exact hsm)) zce_X5_save zcv_X5_save zm_X5_90 hl.1 rfl rfl ⟨rfl, rfl⟩ ⟨Nat.le_of_ble_eq_true rfl, Nat.le_of_ble_eq_true rfl⟩ (Nat.le_of_ble_eq_true rfl) ⟨Nat.zero_le _, Nat.zero_le _⟩ dX5_link_40 (fun S_40 H locs hq hH => ?_)
          obtain rfl := hq
          simp only [zM_M, zM_0, zM_1, zM_2, zM_3, zM_4, zM_5, zM_6] at hH
          refine lv_aload_n hx hb dX5_link_43 rfl (lv_at hl 0 rfl) ?_
          refine lv_iload_n hx hb dX5_link_44 rfl (lv_at hl 1 rfl) ?_
          refine lv_iload_n hx hb dX5_link_45 rfl (lv_at hl 2 rfl) ?_
          refine zcVv h hH (zr_5 h hH) (As := [.int (zI a), .int (zI b)]) (rest := []) (c_X5_turnLink l G hG (zMo S (zup (zup (S 9 0) 0 0) 4 (zSm ((zup (S 9 0) 0 0) 4))) (S 9 1) (S 9 2) (zSv (S 9 3) (S 9 1) ((zup (S 9 0) 0 0) 4)) (S 9 4) (S 9 5) (S 9 6)) a b (by omega) (by omega) (by omega) (zM_hw hw)) zce_X5_turnLink zcv_X5_turnLink zm_X5_99 hl.1 rfl rfl ⟨rfl, rfl⟩ ⟨Nat.le_of_ble_eq_true rfl, Nat.le_of_ble_eq_true rfl⟩ (Nat.le_of_ble_eq_true rfl) ⟨Nat.zero_le _, Nat.zero_le _⟩ dX5_link_46 (fun S_46 H locs hq hH => ?_)
          obtain rfl := hq
          simp only [zM_M, zM_0, zM_1, zM_2, zM_3, zM_4, zM_5, zM_6] at hH
          refine lv_aload_n hx hb dX5_link_49 rfl (lv_at hl 0 rfl) ?_
          refine lv_iload_n hx hb dX5_link_50 rfl (lv_at hl 1 rfl) ?_
          refine lv_iload_n hx hb dX5_link_51 rfl (lv_at hl 2 rfl) ?_
          have hw1 : zW (tTw (S 9 1) a b) := tTw_zW hw (by have := zW_4 hw; omega) (by have := zW_4 hw; omega)
          refine zcVi h hH (zr_5 h hH) (As := [.int (zI a), .int (zI b)]) (rest := []) (c_X5_areLinked l G hG (zMo S (zup (zup (S 9 0) 0 0) 4 (zSm ((zup (S 9 0) 0 0) 4))) (tTw (S 9 1) a b) (S 9 2) (zSv (S 9 3) (S 9 1) ((zup (S 9 0) 0 0) 4)) (S 9 4) (S 9 5) (S 9 6)) a b (by omega) (by omega) (zM_hw hw1)) zce_X5_areLinked zcv_X5_areLinked zm_X5_103 hl.1 rfl rfl ⟨rfl, rfl⟩ ⟨Nat.le_of_ble_eq_true rfl, Nat.le_of_ble_eq_true rfl⟩ (Nat.le_of_ble_eq_true rfl) ⟨Nat.zero_le _, Nat.zero_le _⟩ dX5_link_52 (fun r_52 S_52 H locs hq hH => ?_)
          obtain ⟨b_52, rfl, hb_52, rfl⟩ := hq
          (try rw [zM_1] at hb_52)
          refine zb_ieq (tgt := 62) h (by omega) dX5_link_55 (by decide) (fun c_55 => ?_) (fun c_55 => ?_)
          · refine zb_ic h dX5_link_62 ?_
            refine zri h hr hH ?_ dX5_link_63
            exact Or.inr (Or.inr ⟨by omega, congrArg zI (by first | rw [if_pos (by omega)] | rw [if_neg (by omega)]), rfl⟩)
          · refine zb_ic h dX5_link_58 ?_
            refine lv_goto (tgt := 63) hx hb dX5_link_59 (by decide) ?_
            refine zri h hr hH ?_ dX5_link_63
            exact Or.inr (Or.inr ⟨by omega, congrArg zI (by first | rw [if_pos (by omega)] | rw [if_neg (by omega)]), rfl⟩)
        · exact absurd c_34 (by omega)
      · refine zb_ic h dX5_link_26 ?_
        refine lv_goto (tgt := 31) hx hb dX5_link_27 (by decide) ?_
        refine zcVi h hH (zr_5 h hH) (As := [.int (zI 2)]) (rest := []) (c_X5_holds l G hG (zMo S (S 9 0) (S 9 1) (S 9 2) (S 9 3) (S 9 4) (S 9 5) (S 9 6)) 2 (by omega)) zce_X5_holds zcv_X5_holds zm_X5_87 hl.1 rfl rfl ⟨rfl, rfl⟩ ⟨Nat.le_of_ble_eq_true rfl, Nat.le_of_ble_eq_true rfl⟩ (Nat.le_of_ble_eq_true rfl) ⟨Nat.zero_le _, Nat.zero_le _⟩ dX5_link_31 (fun r_31 S_31 H locs hq hH => ?_)
        obtain ⟨b_31, rfl, hb_31, rfl⟩ := hq
        (try rw [zM_1] at hb_31)
        simp only [zM_M, zM_0, zM_1, zM_2, zM_3, zM_4, zM_5, zM_6] at hH
        refine zb_ine (tgt := 39) h (by omega) dX5_link_34 (by decide) (fun c_34 => ?_) (fun c_34 => ?_)
        · exact absurd c_34 (by omega)
        · refine zb_ic h dX5_link_37 ?_
          refine zri h hr hH ?_ dX5_link_38
          exact Or.inr (Or.inl ⟨by omega, rfl⟩)
    · refine zb_ic h dX5_link_17 ?_
      refine lv_goto (tgt := 31) hx hb dX5_link_18 (by decide) ?_
      refine zcVi h hH (zr_5 h hH) (As := [.int (zI 1)]) (rest := []) (c_X5_holds l G hG (zMo S (S 9 0) (S 9 1) (S 9 2) (S 9 3) (S 9 4) (S 9 5) (S 9 6)) 1 (by omega)) zce_X5_holds zcv_X5_holds zm_X5_87 hl.1 rfl rfl ⟨rfl, rfl⟩ ⟨Nat.le_of_ble_eq_true rfl, Nat.le_of_ble_eq_true rfl⟩ (Nat.le_of_ble_eq_true rfl) ⟨Nat.zero_le _, Nat.zero_le _⟩ dX5_link_31 (fun r_31 S_31 H locs hq hH => ?_)
      obtain ⟨b_31, rfl, hb_31, rfl⟩ := hq
      (try rw [zM_1] at hb_31)
      simp only [zM_M, zM_0, zM_1, zM_2, zM_3, zM_4, zM_5, zM_6] at hH
      refine zb_ine (tgt := 39) h (by omega) dX5_link_34 (by decide) (fun c_34 => ?_) (fun c_34 => ?_)
      · exact absurd c_34 (by omega)
      · refine zb_ic h dX5_link_37 ?_
        refine zri h hr hH ?_ dX5_link_38
        exact Or.inl ⟨by omega, rfl⟩
/-- the class is ready for a call -/
def zRl (S : zM) : Prop := (0 ≤ S 8 1 2 ∧ S 8 1 2 ≤ 600) ∧ (0 ≤ S 8 1 1 ∧ S 8 1 1 ≤ 6) ∧ (zMs S 0) ∧ (zW (S 0 0)) ∧ (zOk (S 0 0)) ∧ (0 ≤ S 8 0 5 ∧ S 8 0 5 ≤ 60) ∧ (∀ i : Int, 0 ≤ i → i < 60 → 0 ≤ S 8 4 i ∧ S 8 4 i ≤ 126) ∧ (zRd (S 8 3)) ∧ (S 8 1 1 ≤ S 8 1 2 ∧ S 8 1 2 ≤ 600) ∧ (1 ≤ S 8 1 1 → zW (S (((S 8 1 2 - 1) % 6).toNat + 2) 0))
theorem zRl.nx {S : zM} (h9 : zRl S) : 0 ≤ S 8 1 2 ∧ S 8 1 2 ≤ 600 := h9.1
theorem zRl.sz {S : zM} (h9 : zRl S) : 0 ≤ S 8 1 1 ∧ S 8 1 1 ≤ 6 := h9.2.1
theorem zRl.ms {S : zM} (h9 : zRl S) : zMs S 0 := h9.2.2.1
theorem zRl.w {S : zM} (h9 : zRl S) : zW (S 0 0) := h9.2.2.2.1
theorem zRl.ok {S : zM} (h9 : zRl S) : zOk (S 0 0) := h9.2.2.2.2.1
theorem zRl.len {S : zM} (h9 : zRl S) : 0 ≤ S 8 0 5 ∧ S 8 0 5 ≤ 60 := h9.2.2.2.2.2.1
theorem zRl.bf {S : zM} (h9 : zRl S) : ∀ i : Int, 0 ≤ i → i < 60 → 0 ≤ S 8 4 i ∧ S 8 4 i ≤ 126 := h9.2.2.2.2.2.2.1
theorem zRl.rd {S : zM} (h9 : zRl S) : zRd (S 8 3) := h9.2.2.2.2.2.2.2.1
theorem zRl.nxu {S : zM} (h9 : zRl S) : S 8 1 1 ≤ S 8 1 2 ∧ S 8 1 2 ≤ 600 := h9.2.2.2.2.2.2.2.2.1
theorem zRl.wk {S : zM} (h9 : zRl S) : 1 ≤ S 8 1 1 → zW (S (((S 8 1 2 - 1) % 6).toNat + 2) 0) := h9.2.2.2.2.2.2.2.2.2
theorem zRl_of {S : zM} {n : Int} (hI : zInv S n) (hn : n ≤ 600) : zRl S := by
  obtain ⟨iok, ims, i91, ⟨i94, i96, ilen, ibf⟩, ird, ⟨i04, isz, inx1, inx2⟩, isv⟩ := hI
  refine ⟨by omega, isz, ims, iok.1, iok, ilen, ibf, ird, ⟨inx1, by omega⟩, fun h1 => ?_⟩
  have h6 := (isv (S 8 1 1 - 1) (by omega) (by omega)).1.1
  have ez : zsl S (S 8 1 1 - 1) = ((S 8 1 2 - 1) % 6).toNat + 2 := by unfold zsl; rw [show S 8 1 2 - S 8 1 1 + (S 8 1 1 - 1) = S 8 1 2 - 1 by omega]
  rw [ez] at h6
  exact h6
/-- the reference is -/
def zRx (S : zM) : Prop := (0 ≤ S 9 0 4 ∧ S 9 0 4 ≤ 6) ∧ (zW (S 9 1)) ∧ (zOk (S 9 1)) ∧ (zNl (S 9 1)) ∧ (0 ≤ S 9 0 6 ∧ S 9 0 6 ≤ 60) ∧ (∀ i : Int, 0 ≤ i → i < 60 → 0 ≤ S 9 4 i ∧ S 9 4 i ≤ 126)
theorem zRx.sm {S : zM} (h9 : zRx S) : 0 ≤ S 9 0 4 ∧ S 9 0 4 ≤ 6 := h9.1
theorem zRx.w {S : zM} (h9 : zRx S) : zW (S 9 1) := h9.2.1
theorem zRx.ok {S : zM} (h9 : zRx S) : zOk (S 9 1) := h9.2.2.1
theorem zRx.nl {S : zM} (h9 : zRx S) : zNl (S 9 1) := h9.2.2.2.1
theorem zRx.len {S : zM} (h9 : zRx S) : 0 ≤ S 9 0 6 ∧ S 9 0 6 ≤ 60 := h9.2.2.2.2.1
theorem zRx.tx {S : zM} (h9 : zRx S) : ∀ i : Int, 0 ≤ i → i < 60 → 0 ≤ S 9 4 i ∧ S 9 4 i ≤ 126 := h9.2.2.2.2.2
theorem zRx_of {S S1 : zM} {n : Int} (hI : zInv S n) (e : S1 9 = S 9) : zRx S1 := by
  obtain ⟨iok, ims, i91, ⟨i94, i96, ilen, ibf⟩, ird, ⟨i04, isz, inx1, inx2⟩, isv⟩ := hI
  refine ⟨?_, ?_, ?_, ?_, ?_, ?_⟩ <;> rw [e]
  · rw [i04]; exact isz
  · rw [i91]; exact iok.1
  · rw [i91]; exact iok
  · rw [i91]; exact iok.2.1
  · rw [i96]; exact ilen
  · rw [i94]; exact ibf
theorem k9_zone {S S1 : zM} {a0 : Int} {a1 : Int} {r : Int32} (h4 : q_L_zone S a0 a1 r S1) : S1 9 = S 9 := by
  rcases h4 with ⟨-, -, rfl⟩ | ⟨-, -, rfl⟩ | ⟨-, y9, T, -, ⟨-, -, hq⟩, h1⟩
  · rfl
  · rfl
  · rw [← h1, zs_k (by omega), ← hq, zP_n (by omega), zKp_9]
theorem k9_want {S S1 : zM} {a0 : Int} {a1 : Int} {r : Int32} (h4 : q_L_want S a0 a1 r S1) : S1 9 = S 9 := by
  rcases h4 with ⟨-, -, rfl⟩ | ⟨-, -, rfl⟩ | ⟨-, y9, T, -, ⟨-, -, hq⟩, h1⟩
  · rfl
  · rfl
  · rw [← h1, zs_k (by omega), ← hq, zP_n (by omega), zKp_9]
theorem k9_link {S S1 : zM} {a0 : Int} {a1 : Int} {r : Int32} (h4 : q_L_link S a0 a1 r S1) : S1 9 = S 9 := by
  rcases h4 with ⟨-, -, rfl⟩ | ⟨-, -, rfl⟩ | ⟨-, y9, T, -, ⟨-, -, hq⟩, h1⟩
  · rfl
  · rfl
  · rw [← h1, zs_k (by omega), ← hq, zP_n (by omega), zKp_9]
theorem k9_expose {S S1 : zM} {a0 : Int} {r : Int32} (h4 : q_L_expose S a0 r S1) : S1 9 = S 9 := by
  rcases h4 with ⟨-, -, rfl⟩ | ⟨-, y9, T, -, ⟨-, -, hq⟩, h1⟩
  · rfl
  · rw [← h1, zs_k (by omega), ← hq, zP_n (by omega), zKp_9]
theorem k9_burn {S S1 : zM} {a0 : Int} {a1 : Int} {r : Int32} (h4 : q_L_burn S a0 a1 r S1) : S1 9 = S 9 := by
  rcases h4 with ⟨-, -, rfl⟩ | ⟨-, -, rfl⟩ | ⟨-, y9, T, -, ⟨-, -, hq⟩, h1⟩
  · rfl
  · rfl
  · rw [← h1, zs_k (by omega), ← hq, zP_n (by omega), zKp_9]
theorem k9_hold {S S1 : zM} {a0 : Int} {a1 : Int} {r : Int32} (h4 : q_L_hold S a0 a1 r S1) : S1 9 = S 9 := by
  rcases h4 with ⟨-, -, rfl⟩ | ⟨-, -, rfl⟩ | ⟨-, y9, T, -, ⟨-, -, hq⟩, h1⟩
  · rfl
  · rfl
  · rw [← h1, zs_k (by omega), ← hq, zP_n (by omega), zKp_9]
theorem k9_paper {S S1 : zM} {a0 : Int} {a1 : Int} {r : Int32} (h4 : q_L_paper S a0 a1 r S1) : S1 9 = S 9 := by
  rcases h4 with ⟨-, -, rfl⟩ | ⟨-, y9, T, -, ⟨-, -, hq⟩, h1⟩
  · rfl
  · rw [← h1, zs_k (by omega), ← hq, zP_n (by omega), zKp_9]
theorem k9_set {S S1 : zM} {a0 : Int} {r : Int32} (h4 : q_L_set S a0 r S1) : S1 9 = S 9 := by
  rcases h4 with ⟨-, -, rfl⟩ | ⟨-, y9, T, -, ⟨-, -, hq⟩, h1⟩
  · rfl
  · rw [← h1, zs_k (by omega), ← hq, zP_n (by omega), zKp_9]
theorem k9_append {S S1 : zM} {a0 : Int} {r : Int32} (h4 : q_L_append S a0 r S1) : S1 9 = S 9 := by
  rcases h4 with ⟨-, -, rfl⟩ | ⟨-, -, rfl⟩ | ⟨-, y9, T, -, ⟨-, -, hq⟩, h1⟩
  · rfl
  · rfl
  · rw [← h1, zs_k (by omega), ← hq, zC_n (by omega)]
theorem k9_undo {S S1 : zM}  {r : Int32} (h4 : q_L_undo S  r S1) : S1 9 = S 9 := by
  rcases h4 with ⟨-, -, rfl⟩ | ⟨-, y9, T, -, ⟨-, -, hq⟩, h1⟩
  · rfl
  · rw [← h1, zs_k (by omega), ← hq]; unfold zGive; rw [zC_n (by omega), zP_n (by omega)]
theorem k9_zoneOf {S S1 : zM} {a0 : Int} {a1 : Int} {r : Int32} (h4 : q_L_zoneOf S a0 a1 r S1) : S1 9 = S 9 := by
  rcases h4 with ⟨-, -, rfl⟩ | ⟨-, -, rfl⟩ | ⟨-, y9, T, -, ⟨-, -, hq⟩, h1⟩
  · rfl
  · rfl
  · rw [← h1, zs_k (by omega), ← hq]
theorem k9_mark {S S1 : zM} {a0 : Int} {r : Int32} (h4 : q_L_mark S a0 r S1) : S1 9 = S 9 := by
  rcases h4 with ⟨-, -, rfl⟩ | ⟨-, y9, T, -, ⟨-, -, hq⟩, h1⟩
  · rfl
  · rw [← h1, zs_k (by omega), ← hq]
theorem k9_strip {S S1 : zM} {a0 : Int} {a1 : Int} {a2 : Int} {a3 : Int} {r : Int32} (h4 : q_L_strip S a0 a1 a2 a3 r S1) : S1 9 = S 9 := by
  rcases h4 with ⟨-, -, rfl⟩ | ⟨-, -, rfl⟩ | ⟨-, y9, T, -, ⟨-, -, hq⟩, h1⟩
  · rfl
  · rfl
  · rw [← h1, zs_k (by omega), ← hq]
theorem k9_count {S S1 : zM} {a0 : Int} {r : Int32} (h4 : q_L_count S a0 r S1) : S1 9 = S 9 := by
  rcases h4 with ⟨-, -, rfl⟩ | ⟨-, y9, T, -, ⟨-, -, hq⟩, h1⟩
  · rfl
  · rw [← h1, zs_k (by omega), ← hq]
theorem k9_ifExposed {S S1 : zM} {a0 : Int} {a1 : Int} {r : Int32} (h4 : q_L_ifExposed S a0 a1 r S1) : S1 9 = S 9 := by
  rcases h4 with ⟨-, -, rfl⟩ | ⟨-, y9, T, -, ⟨-, -, hq⟩, h1⟩
  · rfl
  · obtain ⟨σ', M', q', hq⟩ := hq
    rw [← h1, zs_k (by omega), ← hq, zP_n (by omega)]
theorem k9_ifBurned {S S1 : zM} {a0 : Int} {a1 : Int} {a2 : Int} {r : Int32} (h4 : q_L_ifBurned S a0 a1 a2 r S1) : S1 9 = S 9 := by
  rcases h4 with ⟨-, -, rfl⟩ | ⟨-, -, rfl⟩ | ⟨-, y9, T, -, ⟨-, -, hq⟩, h1⟩
  · rfl
  · rfl
  · obtain ⟨σ', M', q', hq⟩ := hq
    rw [← h1, zs_k (by omega), ← hq, zP_n (by omega)]
theorem k9_common {S S1 : zM} {a0 : Int} {r : Int32} (h4 : q_L_common S a0 r S1) : S1 9 = S 9 := by
  rcases h4 with ⟨-, -, rfl⟩ | ⟨-, y9, T, -, ⟨-, -, hq⟩, h1⟩
  · rfl
  · rw [← h1, zs_k (by omega), ← hq]
theorem k9_run {S S1 : zM} {r : Int32} (h4 : q_L_run S r S1) : S1 9 = S 9 := by
  rcases h4 with ⟨-, -, ρ', -, h1⟩ | ⟨-, y9, T, -, ⟨-, -, ρ', -, hq⟩, h1⟩
  · rw [← h1, zC_n (by omega)]
  · rw [← h1, ← hq, zs_k (by omega), zs_k (by omega)]; unfold zDM; rw [zC_n (by omega), zP_n (by omega), zKp_9]
theorem k9_plan {S S1 : zM} {r : Int32} (h4 : q_X4_plan S r S1) : S1 9 = S 9 := by
  obtain ⟨-, q', h1⟩ := h4
  rw [← h1, zP_n (by omega), zKp_9]
theorem k9_bestTime {S S1 : zM} {r : Int32} (h4 : q_X4_bestTime S r S1) : S1 9 = S 9 := by
  obtain ⟨-, _, _, _, h1⟩ := h4
  rw [← h1, zP_n (by omega)]
theorem k9_bestGrade {S S1 : zM} {r : Int32} (h4 : q_X4_bestGrade S r S1) : S1 9 = S 9 := by
  obtain ⟨-, _, _, _, h1⟩ := h4
  rw [← h1, zP_n (by omega)]
theorem k9_digest {S S1 : zM} {r : Int64} (h4 : q_X4_digest S r S1) : S1 9 = S 9 := by
  obtain ⟨-, _, _, _, h1⟩ := h4
  rw [← h1, zP_n (by omega)]
theorem k9_rightShare {S S1 : zM} {r : UInt64} (h4 : q_X4_rightShare S r S1) : S1 9 = S 9 := by
  obtain ⟨-, h1⟩ := h4
  rw [← h1]
theorem k9_clearBuffer {S S1 : zM} {r : Int32} (h4 : q_X4_clearBuffer S r S1) : S1 9 = S 9 := by
  obtain ⟨-, h1⟩ := h4
  rw [← h1, zC_n (by omega)]
theorem k9_firstError {S S1 : zM} {r : Int32} (h4 : q_X4_firstError S r S1) : S1 9 = S 9 := by
  obtain ⟨_, _, -, -, -, -, -, -, h1⟩ := h4
  rw [← h1, zC_n (by omega)]
/-- the script's numbers -/
def zx (xs : Nat → Int32) (i : Int) : Int := (xs i.toNat).toInt
theorem zx_in (xs : Nat → Int32) (i : Int) : -2147483648 ≤ zx xs i ∧ zx xs i ≤ 2147483647 := by
  have h1 := (xs i.toNat).le_toInt
  have h2 := (xs i.toNat).toInt_lt
  unfold zx; omega
/-- what the law's body stands in -/
def zLw (p : Program) (l : Launch) (s : State) (m : MethodId) (args : Array Value) (meth : Method) (c : Code) (G : zG) (b L : Nat) (xs : Nat → Int32) : Prop := (zE p s m args meth c code 9 RL G) ∧ (zXw G s) ∧ (l.stackTraces = false) ∧ (va_X b L xs s s.heap) ∧ (b < s.heap.size) ∧ (b < zn G) ∧ (L ≤ 2560)
theorem zLw.h {p : Program} {l : Launch} {s : State} {m : MethodId} {args : Array Value} {meth : Method} {c : Code} {G : zG} {b L : Nat} {xs : Nat → Int32} (h9 : zLw p l s m args meth c G b L xs) : zE p s m args meth c code 9 RL G := h9.1
theorem zLw.hX {p : Program} {l : Launch} {s : State} {m : MethodId} {args : Array Value} {meth : Method} {c : Code} {G : zG} {b L : Nat} {xs : Nat → Int32} (h9 : zLw p l s m args meth c G b L xs) : zXw G s := h9.2.1
theorem zLw.hl {p : Program} {l : Launch} {s : State} {m : MethodId} {args : Array Value} {meth : Method} {c : Code} {G : zG} {b L : Nat} {xs : Nat → Int32} (h9 : zLw p l s m args meth c G b L xs) : l.stackTraces = false := h9.2.2.1
theorem zLw.hs {p : Program} {l : Launch} {s : State} {m : MethodId} {args : Array Value} {meth : Method} {c : Code} {G : zG} {b L : Nat} {xs : Nat → Int32} (h9 : zLw p l s m args meth c G b L xs) : va_X b L xs s s.heap := h9.2.2.2.1
theorem zLw.hb {p : Program} {l : Launch} {s : State} {m : MethodId} {args : Array Value} {meth : Method} {c : Code} {G : zG} {b L : Nat} {xs : Nat → Int32} (h9 : zLw p l s m args meth c G b L xs) : b < s.heap.size := h9.2.2.2.2.1
theorem zLw.hA {p : Program} {l : Launch} {s : State} {m : MethodId} {args : Array Value} {meth : Method} {c : Code} {G : zG} {b L : Nat} {xs : Nat → Int32} (h9 : zLw p l s m args meth c G b L xs) : b < zn G := h9.2.2.2.2.2.1
theorem zLw.hL {p : Program} {l : Launch} {s : State} {m : MethodId} {args : Array Value} {meth : Method} {c : Code} {G : zG} {b L : Nat} {xs : Nat → Int32} (h9 : zLw p l s m args meth c G b L xs) : L ≤ 2560 := h9.2.2.2.2.2.2
section ZW
variable {p : Program} {l : Launch} {e : Env} {s : State} {m : MethodId} {args : Array Value} {below : List Frame} {meth : Method} {c : Code} {H : Heap} {locs : List Loc} {cells slots : Nat} {Q : State → Prop} {pc : Nat} {ls : Array Slot} {rest : List Value} {G : zG} {S : zM} {b L : Nat} {xs : Nat → Int32}
theorem zld (C : zLw p l s m args meth c G b L xs) (hH : zH G S s H locs) {i : Int} (hi : 0 ≤ i ∧ i < L) (hdg : decode code pc = .ok (.iaload, 1)) (k : W p l e room_1 s m args below meth c H locs cells slots Q (F0 m (pc + 1) ls (.int (zI (zx xs i)) :: rest))) : W p l e room_1 s m args below meth c H locs cells slots Q (F0 m pc ls (.int (zI i) :: .ref b :: rest)) := by
  have hL := C.hL
  refine va_sld C.h.1 C.h.2.1 C.hs C.hb (A := zA G) (Nat.not_le.mpr C.hA) hH.2 (i := zI i) (zI_in hi.1 hi.2 (by omega)) hdg ?_
  have e : (zI i).toNatClampNeg = i.toNat := by
    have := zI_clamp hi.1 (by omega)
    omega
  rw [e, show xs i.toNat = zI (zx xs i) from (Int32.ofInt_toInt _).symm]
  exact k
theorem zxl (C : zLw p l s m args meth c G b L xs) (hH : zH G S s H locs) (hdg : decode code pc = .ok (.arraylength, 1)) (k : W p l e room_1 s m args below meth c H locs cells slots Q (F0 m (pc + 1) ls (.int (zI (L : Int)) :: rest))) : W p l e room_1 s m args below meth c H locs cells slots Q (F0 m pc ls (.ref b :: rest)) := by
  refine va_slen C.h.1 C.h.2.1 C.hs C.hb (A := zA G) (Nat.not_le.mpr C.hA) hH.2 hdg ?_
  rw [zI_nat]
  exact k
theorem zlc0 (v : Int) : (if v > v then (1 : Int) else if v = v then 0 else -1) = 0 := by rw [if_neg (by omega), if_pos rfl]
/-- behind both calls: the reference's throw, then the numbers -/
theorem ztail (C : zLw p l s m args meth c G b L xs) {S2 : zM} {n i : Int} {r r2 : Int32} {off : Int} (hg : zGl r r2 S2 n) (hH : zH G S2 s H locs) (hls : lv_has ls 9 [(6, .int r2), (5, .int r), (0, .ref b), (1, .ref (za G 8 0)), (2, .ref (za G 9 0)), (3, .ref (za G 8 5)), (4, .int (zI i))]) (hcs : cells ≤ 629837 ∧ slots ≤ 7206592)
    (d0 : decode code pc = .ok (.aload_n 2, 1)) (d1 : decode code (pc + 1) = .ok (.invokevirtual 84, 3)) (d4 : decode code (pc + 4) = .ok (.iload 5, 2)) (d6 : decode code (pc + 6) = .ok (.if_icmp .eq 5, 3)) (d11 : decode code (pc + 11) = .ok (.iload 5, 2)) (d13 : decode code (pc + 13) = .ok (.ifCond .ne 15, 3)) (d16 : decode code (pc + 16) = .ok (.aload_n 3, 1)) (d17 : decode code (pc + 17) = .ok (.iconst 0, 1)) (d18 : decode code (pc + 18) = .ok (.laload, 1)) (d19 : decode code (pc + 19) = .ok (.iload 6, 2)) (d21 : decode code (pc + 21) = .ok (.i2l, 1)) (d22 : decode code (pc + 22) = .ok (.lcmp, 1)) (d23 : decode code (pc + 23) = .ok (.ifCond .eq 5, 3)) (d28 : decode code (pc + 28) = .ok (.goto off, 3)) (ht : ((pc + 28 : Nat) : Int) + off = (1412 : Nat))
    (K : ∀ (S' : zM) (ls' : Array Slot), zInv S' (n + 1) → lv_has ls' 9 [(0, .ref b), (1, .ref (za G 8 0)), (2, .ref (za G 9 0)), (3, .ref (za G 8 5)), (4, .int (zI i))] → ∀ (H1 : Heap) (locs1 : List Loc), zH G S' s H1 locs1 → W p l e room_1 s m args below meth c H1 locs1 cells slots Q (F0 m 1412 ls' [])) :
    W p l e room_1 s m args below meth c H locs cells slots Q (F0 m pc ls []) := by
  have h := C.h
  obtain ⟨k, hk, er, e0, hr, S3, hev, hI3⟩ := hg
  subst er
  refine lv_aload_n h.1 h.2.1 d0 rfl (lv_at hls 4 rfl) ?_
  refine zcVi h hH (zr_5 h hH) (As := []) (rest := []) (c_X5_thrown l G h.2.2.2.2.2.2.2 S2) zce_X5_thrown zcv_X5_thrown zm_L_84 hls.1 rfl rfl ⟨rfl, rfl⟩ ⟨Nat.le_of_ble_eq_true rfl, Nat.le_of_ble_eq_true rfl⟩ (Nat.le_of_ble_eq_true rfl) hcs d1 (fun r_1 S_1 H locs hq hH => ?_)
  obtain ⟨rfl, rfl⟩ := hq
  rw [e0]
  refine lv_iload h.1 h.2.1 d4 (lv_at hls 1 rfl) ?_
  refine lv_icmp_eq (tgt := pc + 11) h.1 h.2.1 d6 (by omega) (fun _ => ?_) (fun c9 => absurd rfl c9)
  refine lv_iload h.1 h.2.1 d11 (lv_at hls 1 rfl) ?_
  have hH3 : zH G S3 s H locs := zH_eqv hev hH
  have hfin : W p l e room_1 s m args below meth c H locs cells slots Q (F0 m (pc + 28) ls []) := by
    refine lv_goto (tgt := 1412) h.1 h.2.1 d28 ht ?_
    exact K S3 ls hI3 (lv_sub hls [2, 3, 4, 5, 6] rfl) H locs hH3
  refine zb_ine (tgt := pc + 28) h (by omega) d13 (by omega) (fun _ => hfin) (fun ck => ?_)
  obtain ⟨er2, hv1, hv2⟩ := hr ck
  subst er2
  refine lv_aload_n h.1 h.2.1 d16 rfl (lv_at hls 5 rfl) ?_
  refine zb_ic h d17 ?_
  refine zout_ld h hH d18 ?_
  refine lv_iload h.1 h.2.1 d19 (lv_at hls 0 rfl) ?_
  refine zb_i2l h ⟨hv1, hv2⟩ d21 ?_
  refine zb_lcmp h (by omega) (by omega) d22 ?_
  rw [zlc0]
  exact zb_ieq (tgt := pc + 28) h (by omega) d23 (by omega) (fun _ => hfin) (fun c9 => absurd rfl c9)
end ZW
