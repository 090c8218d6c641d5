theorem dX4_clearBuffer_0 : decode cX4_clearBuffer 0 = .ok (.aload_n 0, 1) := by decide +kernel
theorem dX4_clearBuffer_1 : decode cX4_clearBuffer 1 = .ok (.getfield 37, 3) := by decide +kernel
theorem dX4_clearBuffer_4 : decode cX4_clearBuffer 4 = .ok (.istore_n 1, 1) := by decide +kernel
theorem dX4_clearBuffer_5 : decode cX4_clearBuffer 5 = .ok (.aload_n 0, 1) := by decide +kernel
theorem dX4_clearBuffer_6 : decode cX4_clearBuffer 6 = .ok (.iconst 0, 1) := by decide +kernel
theorem dX4_clearBuffer_7 : decode cX4_clearBuffer 7 = .ok (.putfield 37, 3) := by decide +kernel
theorem dX4_clearBuffer_10 : decode cX4_clearBuffer 10 = .ok (.iload_n 1, 1) := by decide +kernel
theorem dX4_clearBuffer_11 : decode cX4_clearBuffer 11 = .ok (.ireturn, 1) := by decide +kernel
def q_X4_clearBuffer (S : zM) : Int32 → zM → Prop := fun r S1 => r = zI (S 8 0 5) ∧ zCl S (zup (S 8 0) 5 0) (S 8 1) (S 8 3) (S 8 4) (S 8 5) = S1
def r_X4_clearBuffer : Room := { frames := 0, cells := 0, slots := 0, locals := 0 }
set_option maxHeartbeats 4000000 in
set_option maxRecDepth 100000 in
theorem c_X4_clearBuffer (l : Launch) (G : zG) (hG : zok G) (S : zM) : Met l yX4_clearBuffer (Cond.code yX4_clearBuffer cX4_clearBuffer 2 (some FieldType.int) :: zTbl) r_X4_clearBuffer (va_Pc [.ref (za G 8 0)] (zB G S)) (va_Qi (q_X4_clearBuffer S) (zB G) (zA G)) 0 0 (zA G) := by
  refine zMet [(0, .ref (za G 8 0))] hG (by decide) (Nat.le_of_ble_eq_true rfl) rfl (fun p e s m args below meth c ls h hx hb hr hH hl => ?_)
  rw [← zC_id S] at hH
  refine lv_aload_n hx hb dX4_clearBuffer_0 rfl (lv_at hl 0 rfl) ?_
  refine zg_4_5 h hH zf_X4_37 dX4_clearBuffer_1 ?_
  rw [zC_0]
  refine lv_istore_n (lv' := [(1, .int (zI (S 8 0 5))), (0, .ref (za G 8 0))]) hx hb dX4_clearBuffer_4 rfl hl (by decide) rfl (fun ls hl => ?_)
  refine lv_aload_n hx hb dX4_clearBuffer_5 rfl (lv_at hl 1 rfl) ?_
  refine zb_ic h dX4_clearBuffer_6 ?_
  refine zu_4_5 h hH zf_X4_37 dX4_clearBuffer_7 (fun H locs hH => ?_)
  rw [zs_C0] at hH
  refine lv_iload_n hx hb dX4_clearBuffer_10 rfl (lv_at hl 0 rfl) ?_
  refine zri h hr hH ?_ dX4_clearBuffer_11
  exact ⟨rfl, rfl⟩
theorem dX4_isLastOfOrder_0 : decode cX4_isLastOfOrder 0 = .ok (.iload_n 1, 1) := by decide +kernel
theorem dX4_isLastOfOrder_1 : decode cX4_isLastOfOrder 1 = .ok (.iconst 1, 1) := by decide +kernel
theorem dX4_isLastOfOrder_2 : decode cX4_isLastOfOrder 2 = .ok (.iadd, 1) := by decide +kernel
theorem dX4_isLastOfOrder_3 : decode cX4_isLastOfOrder 3 = .ok (.istore_n 2, 1) := by decide +kernel
theorem dX4_isLastOfOrder_4 : decode cX4_isLastOfOrder 4 = .ok (.iload_n 2, 1) := by decide +kernel
theorem dX4_isLastOfOrder_5 : decode cX4_isLastOfOrder 5 = .ok (.ifCond .lt 31, 3) := by decide +kernel
theorem dX4_isLastOfOrder_8 : decode cX4_isLastOfOrder 8 = .ok (.iload_n 2, 1) := by decide +kernel
theorem dX4_isLastOfOrder_9 : decode cX4_isLastOfOrder 9 = .ok (.aload_n 0, 1) := by decide +kernel
theorem dX4_isLastOfOrder_10 : decode cX4_isLastOfOrder 10 = .ok (.getfield 37, 3) := by decide +kernel
theorem dX4_isLastOfOrder_13 : decode cX4_isLastOfOrder 13 = .ok (.if_icmp .ge 23, 3) := by decide +kernel
theorem dX4_isLastOfOrder_16 : decode cX4_isLastOfOrder 16 = .ok (.iload_n 2, 1) := by decide +kernel
theorem dX4_isLastOfOrder_17 : decode cX4_isLastOfOrder 17 = .ok (.aload_n 0, 1) := by decide +kernel
theorem dX4_isLastOfOrder_18 : decode cX4_isLastOfOrder 18 = .ok (.getfield 33, 3) := by decide +kernel
theorem dX4_isLastOfOrder_21 : decode cX4_isLastOfOrder 21 = .ok (.arraylength, 1) := by decide +kernel
theorem dX4_isLastOfOrder_22 : decode cX4_isLastOfOrder 22 = .ok (.if_icmp .ge 14, 3) := by decide +kernel
theorem dX4_isLastOfOrder_25 : decode cX4_isLastOfOrder 25 = .ok (.aload_n 0, 1) := by decide +kernel
theorem dX4_isLastOfOrder_26 : decode cX4_isLastOfOrder 26 = .ok (.getfield 33, 3) := by decide +kernel
theorem dX4_isLastOfOrder_29 : decode cX4_isLastOfOrder 29 = .ok (.iload_n 2, 1) := by decide +kernel
theorem dX4_isLastOfOrder_30 : decode cX4_isLastOfOrder 30 = .ok (.iaload, 1) := by decide +kernel
theorem dX4_isLastOfOrder_31 : decode cX4_isLastOfOrder 31 = .ok (.bipush 59, 2) := by decide +kernel
theorem dX4_isLastOfOrder_33 : decode cX4_isLastOfOrder 33 = .ok (.if_icmp .ne 7, 3) := by decide +kernel
theorem dX4_isLastOfOrder_36 : decode cX4_isLastOfOrder 36 = .ok (.iconst 1, 1) := by decide +kernel
theorem dX4_isLastOfOrder_37 : decode cX4_isLastOfOrder 37 = .ok (.goto 4, 3) := by decide +kernel
theorem dX4_isLastOfOrder_40 : decode cX4_isLastOfOrder 40 = .ok (.iconst 0, 1) := by decide +kernel
theorem dX4_isLastOfOrder_41 : decode cX4_isLastOfOrder 41 = .ok (.ireturn, 1) := by decide +kernel
def q_X4_isLastOfOrder (S : zM) (i : Int) : Int32 → zM → Prop := fun r S1 => ∃ bb : Int, r = zI bb ∧ (bb = 1 ∧ (S 8 0 5 ≤ i + 1 ∨ S 8 4 (i + 1) = 59) ∨ bb = 0 ∧ ¬ (S 8 0 5 ≤ i + 1 ∨ S 8 4 (i + 1) = 59)) ∧ S = S1
def r_X4_isLastOfOrder : Room := { frames := 0, cells := 0, slots := 0, locals := 0 }
set_option maxHeartbeats 4000000 in
set_option maxRecDepth 100000 in
theorem c_X4_isLastOfOrder (l : Launch) (G : zG) (hG : zok G) (S : zM) (i : Int) (hi : 0 ≤ i ∧ i < 60) (hlen : 0 ≤ S 8 0 5 ∧ S 8 0 5 ≤ 60) (hbf : ∀ i : Int, 0 ≤ i → i < 60 → 0 ≤ S 8 4 i ∧ S 8 4 i ≤ 126)  : Met l yX4_isLastOfOrder (Cond.code yX4_isLastOfOrder cX4_isLastOfOrder 3 (some FieldType.boolean) :: zTbl) r_X4_isLastOfOrder (va_Pc [.ref (za G 8 0), .int (zI i)] (zB G S)) (va_Qi (q_X4_isLastOfOrder S i) (zB G) (zA G)) 0 0 (zA G) := by
  refine zMet [(0, .ref (za G 8 0)), (1, .int (zI i))] hG (by decide) (Nat.le_of_ble_eq_true rfl) rfl (fun p e s m args below meth c ls h hx hb hr hH hl => ?_)
  refine lv_iload_n hx hb dX4_isLastOfOrder_0 rfl (lv_at hl 1 rfl) ?_
  refine zb_ic h dX4_isLastOfOrder_1 ?_
  refine zb_iadd h dX4_isLastOfOrder_2 ?_
  refine lv_istore_n (lv' := [(2, .int (zI (i + 1))), (0, .ref (za G 8 0)), (1, .int (zI i))]) hx hb dX4_isLastOfOrder_3 rfl hl (by decide) rfl (fun ls hl => ?_)
  refine lv_iload_n hx hb dX4_isLastOfOrder_4 rfl (lv_at hl 0 rfl) ?_
  refine zb_ilt (tgt := 36) h (by omega) dX4_isLastOfOrder_5 (by decide) (fun c_5 => ?_) (fun c_5 => ?_)
  · exact absurd c_5 (by omega)
  · refine lv_iload_n hx hb dX4_isLastOfOrder_8 rfl (lv_at hl 0 rfl) ?_
    refine lv_aload_n hx hb dX4_isLastOfOrder_9 rfl (lv_at hl 1 rfl) ?_
    refine zg_4_5 h hH zf_X4_37 dX4_isLastOfOrder_10 ?_
    refine zb_cge (tgt := 36) h (by omega) (by omega) dX4_isLastOfOrder_13 (by decide) (fun c_13 => ?_) (fun c_13 => ?_)
    · refine zb_ic h dX4_isLastOfOrder_36 ?_
      refine lv_goto (tgt := 41) hx hb dX4_isLastOfOrder_37 (by decide) ?_
      refine zrz h hr hH (by omega) ?_ dX4_isLastOfOrder_41
      exact ⟨_, rfl, by omega, rfl⟩
    · refine lv_iload_n hx hb dX4_isLastOfOrder_16 rfl (lv_at hl 0 rfl) ?_
      refine lv_aload_n hx hb dX4_isLastOfOrder_17 rfl (lv_at hl 1 rfl) ?_
      refine zg_4_4 h hH zf_X4_33 dX4_isLastOfOrder_18 ?_
      refine zln_ar_bf h hH dX4_isLastOfOrder_21 ?_
      refine zb_cge (tgt := 36) h (by omega) (by omega) dX4_isLastOfOrder_22 (by decide) (fun c_22 => ?_) (fun c_22 => ?_)
      · exact absurd c_22 (by omega)
      · refine lv_aload_n hx hb dX4_isLastOfOrder_25 rfl (lv_at hl 1 rfl) ?_
        refine zg_4_4 h hH zf_X4_33 dX4_isLastOfOrder_26 ?_
        refine lv_iload_n hx hb dX4_isLastOfOrder_29 rfl (lv_at hl 0 rfl) ?_
        refine zld_ar_bf h hH (by omega) dX4_isLastOfOrder_30 ?_
        have b_30 := hbf (i + 1) (by omega) (by omega)
        refine zb_bi h dX4_isLastOfOrder_31 (by decide) (by decide) ?_
        refine zb_cne (tgt := 40) h (by omega) (by omega) dX4_isLastOfOrder_33 (by decide) (fun c_33 => ?_) (fun c_33 => ?_)
        · refine zb_ic h dX4_isLastOfOrder_40 ?_
          refine zrz h hr hH (by omega) ?_ dX4_isLastOfOrder_41
          exact ⟨_, rfl, by omega, rfl⟩
        · refine zb_ic h dX4_isLastOfOrder_36 ?_
          refine lv_goto (tgt := 41) hx hb dX4_isLastOfOrder_37 (by decide) ?_
          refine zrz h hr hH (by omega) ?_ dX4_isLastOfOrder_41
          exact ⟨_, rfl, by omega, rfl⟩
theorem dX4_firstError_0 : decode cX4_firstError 0 = .ok (.aload_n 0, 1) := by decide +kernel
theorem dX4_firstError_1 : decode cX4_firstError 1 = .ok (.getfield 29, 3) := by decide +kernel
theorem dX4_firstError_4 : decode cX4_firstError 4 = .ok (.invokevirtual 137, 3) := by decide +kernel
theorem dX4_firstError_7 : decode cX4_firstError 7 = .ok (.iconst 0, 1) := by decide +kernel
theorem dX4_firstError_8 : decode cX4_firstError 8 = .ok (.istore_n 1, 1) := by decide +kernel
theorem dX4_firstError_9 : decode cX4_firstError 9 = .ok (.iload_n 1, 1) := by decide +kernel
theorem dX4_firstError_10 : decode cX4_firstError 10 = .ok (.aload_n 0, 1) := by decide +kernel
theorem dX4_firstError_11 : decode cX4_firstError 11 = .ok (.getfield 37, 3) := by decide +kernel
theorem dX4_firstError_14 : decode cX4_firstError 14 = .ok (.if_icmp .ge 36, 3) := by decide +kernel
theorem dX4_firstError_17 : decode cX4_firstError 17 = .ok (.iload_n 1, 1) := by decide +kernel
theorem dX4_firstError_18 : decode cX4_firstError 18 = .ok (.aload_n 0, 1) := by decide +kernel
theorem dX4_firstError_19 : decode cX4_firstError 19 = .ok (.getfield 33, 3) := by decide +kernel
theorem dX4_firstError_22 : decode cX4_firstError 22 = .ok (.arraylength, 1) := by decide +kernel
theorem dX4_firstError_23 : decode cX4_firstError 23 = .ok (.if_icmp .ge 27, 3) := by decide +kernel
theorem dX4_firstError_26 : decode cX4_firstError 26 = .ok (.aload_n 0, 1) := by decide +kernel
theorem dX4_firstError_27 : decode cX4_firstError 27 = .ok (.getfield 29, 3) := by decide +kernel
theorem dX4_firstError_30 : decode cX4_firstError 30 = .ok (.aload_n 0, 1) := by decide +kernel
theorem dX4_firstError_31 : decode cX4_firstError 31 = .ok (.getfield 33, 3) := by decide +kernel
theorem dX4_firstError_34 : decode cX4_firstError 34 = .ok (.iload_n 1, 1) := by decide +kernel
theorem dX4_firstError_35 : decode cX4_firstError 35 = .ok (.iaload, 1) := by decide +kernel
theorem dX4_firstError_36 : decode cX4_firstError 36 = .ok (.invokevirtual 140, 3) := by decide +kernel
theorem dX4_firstError_39 : decode cX4_firstError 39 = .ok (.ifCond .ne 5, 3) := by decide +kernel
theorem dX4_firstError_42 : decode cX4_firstError 42 = .ok (.iload_n 1, 1) := by decide +kernel
theorem dX4_firstError_43 : decode cX4_firstError 43 = .ok (.ireturn, 1) := by decide +kernel
theorem dX4_firstError_44 : decode cX4_firstError 44 = .ok (.iinc 1 1, 3) := by decide +kernel
theorem dX4_firstError_47 : decode cX4_firstError 47 = .ok (.goto (-38), 3) := by decide +kernel
theorem dX4_firstError_50 : decode cX4_firstError 50 = .ok (.aload_n 0, 1) := by decide +kernel
theorem dX4_firstError_51 : decode cX4_firstError 51 = .ok (.getfield 37, 3) := by decide +kernel
theorem dX4_firstError_54 : decode cX4_firstError 54 = .ok (.ireturn, 1) := by decide +kernel
def q_X4_firstError (S : zM) : Int32 → zM → Prop := fun r S1 => ∃ (e : Int) (ρ' : Int → Int), r = zI e ∧ (0 ≤ e ∧ e ≤ S 8 0 5) ∧ (∀ j : Int, 0 ≤ j → j < e → oK (oRow (S 8 4) (zup (S 8 3) 0 0) j.toNat) (S 8 4 j)) ∧ (e < S 8 0 5 → ¬ oK (oRow (S 8 4) (zup (S 8 3) 0 0) e.toNat) (S 8 4 e)) ∧ zRd ρ' ∧ (e = S 8 0 5 → ρ' = (oRow (S 8 4) (zup (S 8 3) 0 0) (S 8 0 5).toNat)) ∧ zCl S (S 8 0) (S 8 1) ρ' (S 8 4) (S 8 5) = S1
def r_X4_firstError : Room := { frames := 3, cells := 0, slots := 0, locals := 64 }
set_option maxHeartbeats 4000000 in
set_option maxRecDepth 100000 in
theorem c_X4_firstError (l : Launch) (G : zG) (hG : zok G) (S : zM) (hlen : 0 ≤ S 8 0 5 ∧ S 8 0 5 ≤ 60) (hbf : ∀ i : Int, 0 ≤ i → i < 60 → 0 ≤ S 8 4 i ∧ S 8 4 i ≤ 126) (hrd : zRd (S 8 3)) : Met l yX4_firstError (Cond.code yX4_firstError cX4_firstError 2 (some FieldType.int) :: zTbl) r_X4_firstError (va_Pc [.ref (za G 8 0)] (zB G S)) (va_Qi (q_X4_firstError S) (zB G) (zA G)) 0 0 (zA G) := by
  refine zMet [(0, .ref (za G 8 0))] hG (by decide) (Nat.le_of_ble_eq_true rfl) rfl (fun p e s m args below meth c ls h hx hb hr hH hl => ?_)
  have C9 : ∀ (fu : Nat) (i : Int) (ρ : Int → Int) (H : Heap) (locs : List Loc) (ls : Array Slot), (S 8 0 5 - i).toNat < fu → (0 ≤ i ∧ i ≤ S 8 0 5) → (ρ = (oRow (S 8 4) (zup (S 8 3) 0 0) i.toNat)) → (zRd ρ) → (∀ j : Int, 0 ≤ j → j < i → oK (oRow (S 8 4) (zup (S 8 3) 0 0) j.toNat) (S 8 4 j)) → zH G (zCl S (S 8 0) (S 8 1) ρ (S 8 4) (S 8 5)) s H locs → lv_has ls 2 [(0, .ref (za G 8 0)), (1, .int (zI i))] → W p l e r_X4_firstError s m args below meth c H locs 0 0 (MQ below (va_Qi (q_X4_firstError S) (zB G) (zA G)) args s 0 0 (zA G)) (F0 m 9 ls []) := by
    intro fu
    induction fu with
    | zero => intro i ρ H locs ls hfu; omega
    | succ fu ih9 =>
      intro i ρ H locs ls hfu hi hr2 hrd2 hok hH hl
      refine lv_iload_n hx hb dX4_firstError_9 rfl (lv_at hl 1 rfl) ?_
      refine lv_aload_n hx hb dX4_firstError_10 rfl (lv_at hl 0 rfl) ?_
      refine zg_4_5 h hH zf_X4_37 dX4_firstError_11 ?_
      rw [zC_0]
      refine zb_cge (tgt := 50) h (by omega) (by omega) dX4_firstError_14 (by decide) (fun c_14 => ?_) (fun c_14 => ?_)
      · refine lv_aload_n hx hb dX4_firstError_50 rfl (lv_at hl 0 rfl) ?_
        refine zg_4_5 h hH zf_X4_37 dX4_firstError_51 ?_
        rw [zC_0]
        refine zri h hr hH ?_ dX4_firstError_54
        obtain rfl : i = S 8 0 5 := by omega
        exact ⟨_, ρ, rfl, by omega, hok, fun q => absurd q (by omega), hrd2, fun _ => hr2, rfl⟩
      · refine lv_iload_n hx hb dX4_firstError_17 rfl (lv_at hl 1 rfl) ?_
        refine lv_aload_n hx hb dX4_firstError_18 rfl (lv_at hl 0 rfl) ?_
        refine zg_4_4 h hH zf_X4_33 dX4_firstError_19 ?_
        refine zln_ar_bf h hH dX4_firstError_22 ?_
        refine zb_cge (tgt := 50) h (by omega) (by omega) dX4_firstError_23 (by decide) (fun c_23 => ?_) (fun c_23 => ?_)
        · refine lv_aload_n hx hb dX4_firstError_50 rfl (lv_at hl 0 rfl) ?_
          refine zg_4_5 h hH zf_X4_37 dX4_firstError_51 ?_
          rw [zC_0]
          refine zri h hr hH ?_ dX4_firstError_54
          obtain rfl : i = S 8 0 5 := by omega
          exact ⟨_, ρ, rfl, by omega, hok, fun q => absurd q (by omega), hrd2, fun _ => hr2, rfl⟩
        · refine lv_aload_n hx hb dX4_firstError_26 rfl (lv_at hl 0 rfl) ?_
          refine zg_4_3 h hH zf_X4_29 dX4_firstError_27 ?_
          refine lv_aload_n hx hb dX4_firstError_30 rfl (lv_at hl 0 rfl) ?_
          refine zg_4_4 h hH zf_X4_33 dX4_firstError_31 ?_
          refine lv_iload_n hx hb dX4_firstError_34 rfl (lv_at hl 1 rfl) ?_
          refine zld_ar_bf h hH (by omega) dX4_firstError_35 ?_
          rw [zC_4]
          have b_35 := hbf i (by omega) (by omega)
          refine zcVi h hH (zr_1 h hH) (As := [.int (zI (S 8 4 i))]) (rest := []) (c_X1_accepts l G hG (zCl S (S 8 0) (S 8 1) ρ (S 8 4) (S 8 5)) (S 8 4 i) (by omega) (by rw [zC_3]; exact hrd2)) zce_X1_accepts zcv_X1_accepts zm_X4_140 hl.1 rfl rfl ⟨rfl, rfl⟩ ⟨Nat.le_of_ble_eq_true rfl, Nat.le_of_ble_eq_true rfl⟩ (Nat.le_of_ble_eq_true rfl) ⟨Nat.zero_le _, Nat.zero_le _⟩ dX4_firstError_36 (fun r_36 S_36 H locs hq hH => ?_)
          obtain ⟨b_36, rfl, hb_36⟩ := hq
          refine zb_ine (tgt := 44) h (by omega) dX4_firstError_39 (by decide) (fun c_39 => ?_) (fun c_39 => ?_)
          · obtain ⟨_, hk, rfl⟩ := hb_36.resolve_right (fun q => c_39 q.1)
            simp only [zC_C, zC_0, zC_1, zC_3, zC_4, zC_5] at hH hk
            refine lv_iinc (v := zI (i + 1)) (lv' := [(1, .int (zI (i + 1))), (0, .ref (za G 8 0))]) hx hb dX4_firstError_44 hl (k := 1) rfl (zI_add _ _) (by decide) rfl (fun ls hl => ?_)
            refine lv_goto (tgt := 9) hx hb dX4_firstError_47 (by decide) ?_
            exact ih9 (i + 1) (oN ρ (S 8 4 i)) _ _ _ (by omega) (by omega) (by rw [oRow_s _ _ hi.1, hr2]) (oN_in hrd2 (by omega) hk) (fun j h1 h2 => if q : j = i then (by rw [q, ← hr2]; exact hk) else hok j h1 (by omega)) hH (lv_sub hl [1, 0] rfl)
          · obtain ⟨_, hk, rfl⟩ := hb_36.resolve_left (fun q => by have := q.1; omega)
            rw [zC_3] at hk
            refine lv_iload_n hx hb dX4_firstError_42 rfl (lv_at hl 1 rfl) ?_
            refine zri h hr hH ?_ dX4_firstError_43
            exact ⟨i, ρ, rfl, by omega, hok, fun _ => by rw [← hr2]; exact hk, hrd2, fun q => absurd q (by omega), rfl⟩
  refine lv_aload_n hx hb dX4_firstError_0 rfl (lv_at hl 0 rfl) ?_
  refine zg_4_3 h hH zf_X4_29 dX4_firstError_1 ?_
  refine zcVv h hH (zr_1 h hH) (As := []) (rest := []) (c_X1_restart l G hG S) zce_X1_restart zcv_X1_restart zm_X4_137 hl.1 rfl rfl ⟨rfl, rfl⟩ ⟨Nat.le_of_ble_eq_true rfl, Nat.le_of_ble_eq_true rfl⟩ (Nat.le_of_ble_eq_true rfl) ⟨Nat.zero_le _, Nat.zero_le _⟩ dX4_firstError_4 (fun S_4 H locs hq hH => ?_)
  obtain rfl := hq
  refine zb_ic h dX4_firstError_7 ?_
  refine lv_istore_n (lv' := [(1, .int (zI 0)), (0, .ref (za G 8 0))]) hx hb dX4_firstError_8 rfl hl (by decide) rfl (fun ls hl => ?_)
  exact C9 ((S 8 0 5 - 0 : Int).toNat + 1) 0 (zup (S 8 3) 0 0) _ _ _ (by omega) (by omega) rfl (by obtain ⟨g0, g1, g2, g3⟩ := id hrd; exact ⟨by rw [zup_s]; omega, by rw [zup_n (by omega)]; exact g1, by rw [zup_n (by omega)]; exact g2, by rw [zup_n (by omega)]; exact g3⟩) (fun j h1 h2 => absurd h1 (by omega)) hH (lv_sub hl [1, 0] rfl)
