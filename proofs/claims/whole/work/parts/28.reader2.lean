theorem dX1_acceptsLetter_0 : decode cX1_acceptsLetter 0 = .ok (.iload_n 1, 1) := by decide +kernel
theorem dX1_acceptsLetter_1 : decode cX1_acceptsLetter 1 = .ok (.bipush 122, 2) := by decide +kernel
theorem dX1_acceptsLetter_3 : decode cX1_acceptsLetter 3 = .ok (.if_icmp .eq 29, 3) := by decide +kernel
theorem dX1_acceptsLetter_6 : decode cX1_acceptsLetter 6 = .ok (.iload_n 1, 1) := by decide +kernel
theorem dX1_acceptsLetter_7 : decode cX1_acceptsLetter 7 = .ok (.bipush 110, 2) := by decide +kernel
theorem dX1_acceptsLetter_9 : decode cX1_acceptsLetter 9 = .ok (.if_icmp .eq 23, 3) := by decide +kernel
theorem dX1_acceptsLetter_12 : decode cX1_acceptsLetter 12 = .ok (.iload_n 1, 1) := by decide +kernel
theorem dX1_acceptsLetter_13 : decode cX1_acceptsLetter 13 = .ok (.bipush 116, 2) := by decide +kernel
theorem dX1_acceptsLetter_15 : decode cX1_acceptsLetter 15 = .ok (.if_icmp .eq 17, 3) := by decide +kernel
theorem dX1_acceptsLetter_18 : decode cX1_acceptsLetter 18 = .ok (.iload_n 1, 1) := by decide +kernel
theorem dX1_acceptsLetter_19 : decode cX1_acceptsLetter 19 = .ok (.bipush 98, 2) := by decide +kernel
theorem dX1_acceptsLetter_21 : decode cX1_acceptsLetter 21 = .ok (.if_icmp .eq 11, 3) := by decide +kernel
theorem dX1_acceptsLetter_24 : decode cX1_acceptsLetter 24 = .ok (.iload_n 1, 1) := by decide +kernel
theorem dX1_acceptsLetter_25 : decode cX1_acceptsLetter 25 = .ok (.bipush 104, 2) := by decide +kernel
theorem dX1_acceptsLetter_27 : decode cX1_acceptsLetter 27 = .ok (.if_icmp .eq 5, 3) := by decide +kernel
theorem dX1_acceptsLetter_30 : decode cX1_acceptsLetter 30 = .ok (.iconst 0, 1) := by decide +kernel
theorem dX1_acceptsLetter_31 : decode cX1_acceptsLetter 31 = .ok (.ireturn, 1) := by decide +kernel
theorem dX1_acceptsLetter_32 : decode cX1_acceptsLetter 32 = .ok (.aload_n 0, 1) := by decide +kernel
theorem dX1_acceptsLetter_33 : decode cX1_acceptsLetter 33 = .ok (.iload_n 1, 1) := by decide +kernel
theorem dX1_acceptsLetter_34 : decode cX1_acceptsLetter 34 = .ok (.putfield 15, 3) := by decide +kernel
theorem dX1_acceptsLetter_37 : decode cX1_acceptsLetter 37 = .ok (.aload_n 0, 1) := by decide +kernel
theorem dX1_acceptsLetter_38 : decode cX1_acceptsLetter 38 = .ok (.iconst (-1), 1) := by decide +kernel
theorem dX1_acceptsLetter_39 : decode cX1_acceptsLetter 39 = .ok (.putfield 18, 3) := by decide +kernel
theorem dX1_acceptsLetter_42 : decode cX1_acceptsLetter 42 = .ok (.aload_n 0, 1) := by decide +kernel
theorem dX1_acceptsLetter_43 : decode cX1_acceptsLetter 43 = .ok (.iconst (-1), 1) := by decide +kernel
theorem dX1_acceptsLetter_44 : decode cX1_acceptsLetter 44 = .ok (.putfield 21, 3) := by decide +kernel
theorem dX1_acceptsLetter_47 : decode cX1_acceptsLetter 47 = .ok (.aload_n 0, 1) := by decide +kernel
theorem dX1_acceptsLetter_48 : decode cX1_acceptsLetter 48 = .ok (.iload_n 1, 1) := by decide +kernel
theorem dX1_acceptsLetter_49 : decode cX1_acceptsLetter 49 = .ok (.bipush 116, 2) := by decide +kernel
theorem dX1_acceptsLetter_51 : decode cX1_acceptsLetter 51 = .ok (.if_icmp .ne 7, 3) := by decide +kernel
theorem dX1_acceptsLetter_54 : decode cX1_acceptsLetter 54 = .ok (.iconst 2, 1) := by decide +kernel
theorem dX1_acceptsLetter_55 : decode cX1_acceptsLetter 55 = .ok (.goto 4, 3) := by decide +kernel
theorem dX1_acceptsLetter_58 : decode cX1_acceptsLetter 58 = .ok (.iconst 1, 1) := by decide +kernel
theorem dX1_acceptsLetter_59 : decode cX1_acceptsLetter 59 = .ok (.putfield 11, 3) := by decide +kernel
theorem dX1_acceptsLetter_62 : decode cX1_acceptsLetter 62 = .ok (.iconst 1, 1) := by decide +kernel
theorem dX1_acceptsLetter_63 : decode cX1_acceptsLetter 63 = .ok (.ireturn, 1) := by decide +kernel
def q_X1_acceptsLetter (S : zM) (t : Int) : Int32 → zM → Prop := fun r S1 => ∃ bb : Int, r = zI bb ∧ ((bb = 1 ∧ oKL t ∧ zCl S (S 8 0) (S 8 1) (oL (S 8 3) t) (S 8 4) (S 8 5) = S1) ∨ (bb = 0 ∧ ¬ oKL t ∧ S = S1))
def r_X1_acceptsLetter : Room := { frames := 0, cells := 0, slots := 0, locals := 0 }
set_option maxHeartbeats 4000000 in
set_option maxRecDepth 100000 in
theorem c_X1_acceptsLetter (l : Launch) (G : zG) (hG : zok G) (S : zM) (t : Int) (ht : -1 ≤ t ∧ t ≤ 126) (hrd : zRd (S 8 3)) : Met l yX1_acceptsLetter (Cond.code yX1_acceptsLetter cX1_acceptsLetter 2 (some FieldType.boolean) :: zTbl) r_X1_acceptsLetter (va_Pc [.ref (za G 8 3), .int (zI t)] (zB G S)) (va_Qi (q_X1_acceptsLetter S t) (zB G) (zA G)) 0 0 (zA G) := by
  refine zMet [(0, .ref (za G 8 3)), (1, .int (zI t))] hG (by decide) (Nat.le_of_ble_eq_true rfl) rfl (fun p e s m args below meth c ls h hx hb hr hH hl => ?_)
  obtain ⟨g0, g1, g2, g3⟩ := id hrd
  refine lv_iload_n hx hb dX1_acceptsLetter_0 rfl (lv_at hl 1 rfl) ?_
  refine zb_bi h dX1_acceptsLetter_1 (by decide) (by decide) ?_
  refine zb_ceq (tgt := 32) h (by omega) (by omega) dX1_acceptsLetter_3 (by decide) (fun c_3 => ?_) (fun c_3 => ?_)
  · rw [← zC_id S] at hH
    refine lv_aload_n hx hb dX1_acceptsLetter_32 rfl (lv_at hl 0 rfl) ?_
    refine lv_iload_n hx hb dX1_acceptsLetter_33 rfl (lv_at hl 1 rfl) ?_
    refine zu_1_1 h hH zf_X1_15 dX1_acceptsLetter_34 (fun H locs hH => ?_)
    rw [zs_C3] at hH
    refine lv_aload_n hx hb dX1_acceptsLetter_37 rfl (lv_at hl 0 rfl) ?_
    refine zb_ic h dX1_acceptsLetter_38 ?_
    refine zu_1_2 h hH zf_X1_18 dX1_acceptsLetter_39 (fun H locs hH => ?_)
    rw [zs_C3] at hH
    refine lv_aload_n hx hb dX1_acceptsLetter_42 rfl (lv_at hl 0 rfl) ?_
    refine zb_ic h dX1_acceptsLetter_43 ?_
    refine zu_1_3 h hH zf_X1_21 dX1_acceptsLetter_44 (fun H locs hH => ?_)
    rw [zs_C3] at hH
    refine lv_aload_n hx hb dX1_acceptsLetter_47 rfl (lv_at hl 0 rfl) ?_
    refine lv_iload_n hx hb dX1_acceptsLetter_48 rfl (lv_at hl 1 rfl) ?_
    refine zb_bi h dX1_acceptsLetter_49 (by decide) (by decide) ?_
    refine zb_cne (tgt := 58) h (by omega) (by omega) dX1_acceptsLetter_51 (by decide) (fun c_51 => ?_) (fun c_51 => ?_)
    · refine zb_ic h dX1_acceptsLetter_58 ?_
      refine zu_1_0 h hH zf_X1_11 dX1_acceptsLetter_59 (fun H locs hH => ?_)
      rw [zs_C3] at hH
      refine zb_ic h dX1_acceptsLetter_62 ?_
      refine zrz h hr hH (by omega) ?_ dX1_acceptsLetter_63
      exact ⟨1, rfl, Or.inl ⟨rfl, by unfold oKL; omega, by unfold oL; first | (exfalso; omega) | rw [if_pos (by omega)] | rw [if_neg (by omega)]⟩⟩
    · refine zb_ic h dX1_acceptsLetter_54 ?_
      refine lv_goto (tgt := 59) hx hb dX1_acceptsLetter_55 (by decide) ?_
      refine zu_1_0 h hH zf_X1_11 dX1_acceptsLetter_59 (fun H locs hH => ?_)
      rw [zs_C3] at hH
      refine zb_ic h dX1_acceptsLetter_62 ?_
      refine zrz h hr hH (by omega) ?_ dX1_acceptsLetter_63
      exact ⟨1, rfl, Or.inl ⟨rfl, by unfold oKL; omega, by unfold oL; first | (exfalso; omega) | rw [if_pos (by omega)] | rw [if_neg (by omega)]⟩⟩
  · refine lv_iload_n hx hb dX1_acceptsLetter_6 rfl (lv_at hl 1 rfl) ?_
    refine zb_bi h dX1_acceptsLetter_7 (by decide) (by decide) ?_
    refine zb_ceq (tgt := 32) h (by omega) (by omega) dX1_acceptsLetter_9 (by decide) (fun c_9 => ?_) (fun c_9 => ?_)
    · rw [← zC_id S] at hH
      refine lv_aload_n hx hb dX1_acceptsLetter_32 rfl (lv_at hl 0 rfl) ?_
      refine lv_iload_n hx hb dX1_acceptsLetter_33 rfl (lv_at hl 1 rfl) ?_
      refine zu_1_1 h hH zf_X1_15 dX1_acceptsLetter_34 (fun H locs hH => ?_)
      rw [zs_C3] at hH
      refine lv_aload_n hx hb dX1_acceptsLetter_37 rfl (lv_at hl 0 rfl) ?_
      refine zb_ic h dX1_acceptsLetter_38 ?_
      refine zu_1_2 h hH zf_X1_18 dX1_acceptsLetter_39 (fun H locs hH => ?_)
      rw [zs_C3] at hH
      refine lv_aload_n hx hb dX1_acceptsLetter_42 rfl (lv_at hl 0 rfl) ?_
      refine zb_ic h dX1_acceptsLetter_43 ?_
      refine zu_1_3 h hH zf_X1_21 dX1_acceptsLetter_44 (fun H locs hH => ?_)
      rw [zs_C3] at hH
      refine lv_aload_n hx hb dX1_acceptsLetter_47 rfl (lv_at hl 0 rfl) ?_
      refine lv_iload_n hx hb dX1_acceptsLetter_48 rfl (lv_at hl 1 rfl) ?_
      refine zb_bi h dX1_acceptsLetter_49 (by decide) (by decide) ?_
      refine zb_cne (tgt := 58) h (by omega) (by omega) dX1_acceptsLetter_51 (by decide) (fun c_51 => ?_) (fun c_51 => ?_)
      · refine zb_ic h dX1_acceptsLetter_58 ?_
        refine zu_1_0 h hH zf_X1_11 dX1_acceptsLetter_59 (fun H locs hH => ?_)
        rw [zs_C3] at hH
        refine zb_ic h dX1_acceptsLetter_62 ?_
        refine zrz h hr hH (by omega) ?_ dX1_acceptsLetter_63
        exact ⟨1, rfl, Or.inl ⟨rfl, by unfold oKL; omega, by unfold oL; first | (exfalso; omega) | rw [if_pos (by omega)] | rw [if_neg (by omega)]⟩⟩
      · refine zb_ic h dX1_acceptsLetter_54 ?_
        refine lv_goto (tgt := 59) hx hb dX1_acceptsLetter_55 (by decide) ?_
        refine zu_1_0 h hH zf_X1_11 dX1_acceptsLetter_59 (fun H locs hH => ?_)
        rw [zs_C3] at hH
        refine zb_ic h dX1_acceptsLetter_62 ?_
        refine zrz h hr hH (by omega) ?_ dX1_acceptsLetter_63
        exact ⟨1, rfl, Or.inl ⟨rfl, by unfold oKL; omega, by unfold oL; first | (exfalso; omega) | rw [if_pos (by omega)] | rw [if_neg (by omega)]⟩⟩
    · refine lv_iload_n hx hb dX1_acceptsLetter_12 rfl (lv_at hl 1 rfl) ?_
      refine zb_bi h dX1_acceptsLetter_13 (by decide) (by decide) ?_
      refine zb_ceq (tgt := 32) h (by omega) (by omega) dX1_acceptsLetter_15 (by decide) (fun c_15 => ?_) (fun c_15 => ?_)
      · rw [← zC_id S] at hH
        refine lv_aload_n hx hb dX1_acceptsLetter_32 rfl (lv_at hl 0 rfl) ?_
        refine lv_iload_n hx hb dX1_acceptsLetter_33 rfl (lv_at hl 1 rfl) ?_
        refine zu_1_1 h hH zf_X1_15 dX1_acceptsLetter_34 (fun H locs hH => ?_)
        rw [zs_C3] at hH
        refine lv_aload_n hx hb dX1_acceptsLetter_37 rfl (lv_at hl 0 rfl) ?_
        refine zb_ic h dX1_acceptsLetter_38 ?_
        refine zu_1_2 h hH zf_X1_18 dX1_acceptsLetter_39 (fun H locs hH => ?_)
        rw [zs_C3] at hH
        refine lv_aload_n hx hb dX1_acceptsLetter_42 rfl (lv_at hl 0 rfl) ?_
        refine zb_ic h dX1_acceptsLetter_43 ?_
        refine zu_1_3 h hH zf_X1_21 dX1_acceptsLetter_44 (fun H locs hH => ?_)
        rw [zs_C3] at hH
        refine lv_aload_n hx hb dX1_acceptsLetter_47 rfl (lv_at hl 0 rfl) ?_
        refine lv_iload_n hx hb dX1_acceptsLetter_48 rfl (lv_at hl 1 rfl) ?_
        refine zb_bi h dX1_acceptsLetter_49 (by decide) (by decide) ?_
        refine zb_cne (tgt := 58) h (by omega) (by omega) dX1_acceptsLetter_51 (by decide) (fun c_51 => ?_) (fun c_51 => ?_)
        · refine zb_ic h dX1_acceptsLetter_58 ?_
          refine zu_1_0 h hH zf_X1_11 dX1_acceptsLetter_59 (fun H locs hH => ?_)
          rw [zs_C3] at hH
          refine zb_ic h dX1_acceptsLetter_62 ?_
          refine zrz h hr hH (by omega) ?_ dX1_acceptsLetter_63
          exact ⟨1, rfl, Or.inl ⟨rfl, by unfold oKL; omega, by unfold oL; first | (exfalso; omega) | rw [if_pos (by omega)] | rw [if_neg (by omega)]⟩⟩
        · refine zb_ic h dX1_acceptsLetter_54 ?_
          refine lv_goto (tgt := 59) hx hb dX1_acceptsLetter_55 (by decide) ?_
          refine zu_1_0 h hH zf_X1_11 dX1_acceptsLetter_59 (fun H locs hH => ?_)
          rw [zs_C3] at hH
          refine zb_ic h dX1_acceptsLetter_62 ?_
          refine zrz h hr hH (by omega) ?_ dX1_acceptsLetter_63
          exact ⟨1, rfl, Or.inl ⟨rfl, by unfold oKL; omega, by unfold oL; first | (exfalso; omega) | rw [if_pos (by omega)] | rw [if_neg (by omega)]⟩⟩
      · refine lv_iload_n hx hb dX1_acceptsLetter_18 rfl (lv_at hl 1 rfl) ?_
        refine zb_bi h dX1_acceptsLetter_19 (by decide) (by decide) ?_
        refine zb_ceq (tgt := 32) h (by omega) (by omega) dX1_acceptsLetter_21 (by decide) (fun c_21 => ?_) (fun c_21 => ?_)
        · rw [← zC_id S] at hH
          refine lv_aload_n hx hb dX1_acceptsLetter_32 rfl (lv_at hl 0 rfl) ?_
          refine lv_iload_n hx hb dX1_acceptsLetter_33 rfl (lv_at hl 1 rfl) ?_
          refine zu_1_1 h hH zf_X1_15 dX1_acceptsLetter_34 (fun H locs hH => ?_)
          rw [zs_C3] at hH
          refine lv_aload_n hx hb dX1_acceptsLetter_37 rfl (lv_at hl 0 rfl) ?_
          refine zb_ic h dX1_acceptsLetter_38 ?_
          refine zu_1_2 h hH zf_X1_18 dX1_acceptsLetter_39 (fun H locs hH => ?_)
          rw [zs_C3] at hH
          refine lv_aload_n hx hb dX1_acceptsLetter_42 rfl (lv_at hl 0 rfl) ?_
          refine zb_ic h dX1_acceptsLetter_43 ?_
          refine zu_1_3 h hH zf_X1_21 dX1_acceptsLetter_44 (fun H locs hH => ?_)
          rw [zs_C3] at hH
          refine lv_aload_n hx hb dX1_acceptsLetter_47 rfl (lv_at hl 0 rfl) ?_
          refine lv_iload_n hx hb dX1_acceptsLetter_48 rfl (lv_at hl 1 rfl) ?_
          refine zb_bi h dX1_acceptsLetter_49 (by decide) (by decide) ?_
          refine zb_cne (tgt := 58) h (by omega) (by omega) dX1_acceptsLetter_51 (by decide) (fun c_51 => ?_) (fun c_51 => ?_)
          · refine zb_ic h dX1_acceptsLetter_58 ?_
            refine zu_1_0 h hH zf_X1_11 dX1_acceptsLetter_59 (fun H locs hH => ?_)
            rw [zs_C3] at hH
            refine zb_ic h dX1_acceptsLetter_62 ?_
            refine zrz h hr hH (by omega) ?_ dX1_acceptsLetter_63
            exact ⟨1, rfl, Or.inl ⟨rfl, by unfold oKL; omega, by unfold oL; first | (exfalso; omega) | rw [if_pos (by omega)] | rw [if_neg (by omega)]⟩⟩
          · refine zb_ic h dX1_acceptsLetter_54 ?_
            refine lv_goto (tgt := 59) hx hb dX1_acceptsLetter_55 (by decide) ?_
            refine zu_1_0 h hH zf_X1_11 dX1_acceptsLetter_59 (fun H locs hH => ?_)
            rw [zs_C3] at hH
            refine zb_ic h dX1_acceptsLetter_62 ?_
            refine zrz h hr hH (by omega) ?_ dX1_acceptsLetter_63
            exact ⟨1, rfl, Or.inl ⟨rfl, by unfold oKL; omega, by unfold oL; first | (exfalso; omega) | rw [if_pos (by omega)] | rw [if_neg (by omega)]⟩⟩
        · refine lv_iload_n hx hb dX1_acceptsLetter_24 rfl (lv_at hl 1 rfl) ?_
          refine zb_bi h dX1_acceptsLetter_25 (by decide) (by decide) ?_
          refine zb_ceq (tgt := 32) h (by omega) (by omega) dX1_acceptsLetter_27 (by decide) (fun c_27 => ?_) (fun c_27 => ?_)
          · rw [← zC_id S] at hH
            refine lv_aload_n hx hb dX1_acceptsLetter_32 rfl (lv_at hl 0 rfl) ?_
            refine lv_iload_n hx hb dX1_acceptsLetter_33 rfl (lv_at hl 1 rfl) ?_
            refine zu_1_1 h hH zf_X1_15 dX1_acceptsLetter_34 (fun H locs hH => ?_)
            rw [zs_C3] at hH
            refine lv_aload_n hx hb dX1_acceptsLetter_37 rfl (lv_at hl 0 rfl) ?_
            refine zb_ic h dX1_acceptsLetter_38 ?_
            refine zu_1_2 h hH zf_X1_18 dX1_acceptsLetter_39 (fun H locs hH => ?_)
            rw [zs_C3] at hH
            refine lv_aload_n hx hb dX1_acceptsLetter_42 rfl (lv_at hl 0 rfl) ?_
            refine zb_ic h dX1_acceptsLetter_43 ?_
            refine zu_1_3 h hH zf_X1_21 dX1_acceptsLetter_44 (fun H locs hH => ?_)
            rw [zs_C3] at hH
            refine lv_aload_n hx hb dX1_acceptsLetter_47 rfl (lv_at hl 0 rfl) ?_
            refine lv_iload_n hx hb dX1_acceptsLetter_48 rfl (lv_at hl 1 rfl) ?_
            refine zb_bi h dX1_acceptsLetter_49 (by decide) (by decide) ?_
            refine zb_cne (tgt := 58) h (by omega) (by omega) dX1_acceptsLetter_51 (by decide) (fun c_51 => ?_) (fun c_51 => ?_)
            · refine zb_ic h dX1_acceptsLetter_58 ?_
              refine zu_1_0 h hH zf_X1_11 dX1_acceptsLetter_59 (fun H locs hH => ?_)
              rw [zs_C3] at hH
              refine zb_ic h dX1_acceptsLetter_62 ?_
              refine zrz h hr hH (by omega) ?_ dX1_acceptsLetter_63
              exact ⟨1, rfl, Or.inl ⟨rfl, by unfold oKL; omega, by unfold oL; first | (exfalso; omega) | rw [if_pos (by omega)] | rw [if_neg (by omega)]⟩⟩
            · refine zb_ic h dX1_acceptsLetter_54 ?_
              refine lv_goto (tgt := 59) hx hb dX1_acceptsLetter_55 (by decide) ?_
              refine zu_1_0 h hH zf_X1_11 dX1_acceptsLetter_59 (fun H locs hH => ?_)
              rw [zs_C3] at hH
              refine zb_ic h dX1_acceptsLetter_62 ?_
              refine zrz h hr hH (by omega) ?_ dX1_acceptsLetter_63
              exact ⟨1, rfl, Or.inl ⟨rfl, by unfold oKL; omega, by unfold oL; first | (exfalso; omega) | rw [if_pos (by omega)] | rw [if_neg (by omega)]⟩⟩
          · refine zb_ic h dX1_acceptsLetter_30 ?_
            refine zrz h hr hH (by omega) ?_ dX1_acceptsLetter_31
            exact ⟨0, rfl, Or.inr ⟨rfl, by unfold oKL; omega, rfl⟩⟩
theorem dX1_acceptsFirst_0 : decode cX1_acceptsFirst 0 = .ok (.aload_n 0, 1) := by decide +kernel
theorem dX1_acceptsFirst_1 : decode cX1_acceptsFirst 1 = .ok (.getfield 18, 3) := by decide +kernel
theorem dX1_acceptsFirst_4 : decode cX1_acceptsFirst 4 = .ok (.iconst (-1), 1) := by decide +kernel
theorem dX1_acceptsFirst_5 : decode cX1_acceptsFirst 5 = .ok (.if_icmp .eq 18, 3) := by decide +kernel
theorem dX1_acceptsFirst_8 : decode cX1_acceptsFirst 8 = .ok (.iload_n 1, 1) := by decide +kernel
theorem dX1_acceptsFirst_9 : decode cX1_acceptsFirst 9 = .ok (.aload_n 0, 1) := by decide +kernel
theorem dX1_acceptsFirst_10 : decode cX1_acceptsFirst 10 = .ok (.invokevirtual 34, 3) := by decide +kernel
theorem dX1_acceptsFirst_13 : decode cX1_acceptsFirst 13 = .ok (.if_icmp .ne 10, 3) := by decide +kernel
theorem dX1_acceptsFirst_16 : decode cX1_acceptsFirst 16 = .ok (.aload_n 0, 1) := by decide +kernel
theorem dX1_acceptsFirst_17 : decode cX1_acceptsFirst 17 = .ok (.iconst 2, 1) := by decide +kernel
theorem dX1_acceptsFirst_18 : decode cX1_acceptsFirst 18 = .ok (.putfield 11, 3) := by decide +kernel
theorem dX1_acceptsFirst_21 : decode cX1_acceptsFirst 21 = .ok (.iconst 1, 1) := by decide +kernel
theorem dX1_acceptsFirst_22 : decode cX1_acceptsFirst 22 = .ok (.ireturn, 1) := by decide +kernel
theorem dX1_acceptsFirst_23 : decode cX1_acceptsFirst 23 = .ok (.aload_n 0, 1) := by decide +kernel
theorem dX1_acceptsFirst_24 : decode cX1_acceptsFirst 24 = .ok (.getfield 18, 3) := by decide +kernel
theorem dX1_acceptsFirst_27 : decode cX1_acceptsFirst 27 = .ok (.iload_n 1, 1) := by decide +kernel
theorem dX1_acceptsFirst_28 : decode cX1_acceptsFirst 28 = .ok (.invokestatic 38, 3) := by decide +kernel
theorem dX1_acceptsFirst_31 : decode cX1_acceptsFirst 31 = .ok (.istore_n 2, 1) := by decide +kernel
theorem dX1_acceptsFirst_32 : decode cX1_acceptsFirst 32 = .ok (.iload_n 2, 1) := by decide +kernel
theorem dX1_acceptsFirst_33 : decode cX1_acceptsFirst 33 = .ok (.iconst (-1), 1) := by decide +kernel
theorem dX1_acceptsFirst_34 : decode cX1_acceptsFirst 34 = .ok (.if_icmp .eq 11, 3) := by decide +kernel
theorem dX1_acceptsFirst_37 : decode cX1_acceptsFirst 37 = .ok (.iload_n 2, 1) := by decide +kernel
theorem dX1_acceptsFirst_38 : decode cX1_acceptsFirst 38 = .ok (.aload_n 0, 1) := by decide +kernel
theorem dX1_acceptsFirst_39 : decode cX1_acceptsFirst 39 = .ok (.invokevirtual 42, 3) := by decide +kernel
theorem dX1_acceptsFirst_42 : decode cX1_acceptsFirst 42 = .ok (.if_icmp .le 5, 3) := by decide +kernel
theorem dX1_acceptsFirst_45 : decode cX1_acceptsFirst 45 = .ok (.iconst 0, 1) := by decide +kernel
theorem dX1_acceptsFirst_46 : decode cX1_acceptsFirst 46 = .ok (.ireturn, 1) := by decide +kernel
theorem dX1_acceptsFirst_47 : decode cX1_acceptsFirst 47 = .ok (.aload_n 0, 1) := by decide +kernel
theorem dX1_acceptsFirst_48 : decode cX1_acceptsFirst 48 = .ok (.iload_n 2, 1) := by decide +kernel
theorem dX1_acceptsFirst_49 : decode cX1_acceptsFirst 49 = .ok (.putfield 18, 3) := by decide +kernel
theorem dX1_acceptsFirst_52 : decode cX1_acceptsFirst 52 = .ok (.aload_n 0, 1) := by decide +kernel
theorem dX1_acceptsFirst_53 : decode cX1_acceptsFirst 53 = .ok (.getfield 15, 3) := by decide +kernel
theorem dX1_acceptsFirst_56 : decode cX1_acceptsFirst 56 = .ok (.bipush 110, 2) := by decide +kernel
theorem dX1_acceptsFirst_58 : decode cX1_acceptsFirst 58 = .ok (.if_icmp .ne 8, 3) := by decide +kernel
theorem dX1_acceptsFirst_61 : decode cX1_acceptsFirst 61 = .ok (.aload_n 0, 1) := by decide +kernel
theorem dX1_acceptsFirst_62 : decode cX1_acceptsFirst 62 = .ok (.iconst 2, 1) := by decide +kernel
theorem dX1_acceptsFirst_63 : decode cX1_acceptsFirst 63 = .ok (.putfield 11, 3) := by decide +kernel
theorem dX1_acceptsFirst_66 : decode cX1_acceptsFirst 66 = .ok (.iconst 1, 1) := by decide +kernel
theorem dX1_acceptsFirst_67 : decode cX1_acceptsFirst 67 = .ok (.ireturn, 1) := by decide +kernel
def q_X1_acceptsFirst (S : zM) (t : Int) : Int32 → zM → Prop := fun r S1 => ∃ bb : Int, r = zI bb ∧ ((bb = 1 ∧ oKF (S 8 3) t ∧ zCl S (S 8 0) (S 8 1) (oF (S 8 3) t) (S 8 4) (S 8 5) = S1) ∨ (bb = 0 ∧ ¬ oKF (S 8 3) t ∧ S = S1))
def r_X1_acceptsFirst : Room := { frames := 1, cells := 0, slots := 0, locals := 21 }
set_option maxHeartbeats 4000000 in
set_option maxRecDepth 100000 in
theorem c_X1_acceptsFirst (l : Launch) (G : zG) (hG : zok G) (S : zM) (t : Int) (ht : -1 ≤ t ∧ t ≤ 126) (hrd : zRd (S 8 3)) : Met l yX1_acceptsFirst (Cond.code yX1_acceptsFirst cX1_acceptsFirst 3 (some FieldType.boolean) :: zTbl) r_X1_acceptsFirst (va_Pc [.ref (za G 8 3), .int (zI t)] (zB G S)) (va_Qi (q_X1_acceptsFirst S t) (zB G) (zA G)) 0 0 (zA G) := by
  refine zMet [(0, .ref (za G 8 3)), (1, .int (zI t))] hG (by decide) (Nat.le_of_ble_eq_true rfl) rfl (fun p e s m args below meth c ls h hx hb hr hH hl => ?_)
  obtain ⟨g0, g1, g2, g3⟩ := id hrd
  refine lv_aload_n hx hb dX1_acceptsFirst_0 rfl (lv_at hl 0 rfl) ?_
  refine zg_1_2 h hH zf_X1_18 dX1_acceptsFirst_1 ?_
  refine zb_ic h dX1_acceptsFirst_4 ?_
  refine zb_ceq (tgt := 23) h (by omega) (by omega) dX1_acceptsFirst_5 (by decide) (fun c_5 => ?_) (fun c_5 => ?_)
  · refine lv_aload_n hx hb dX1_acceptsFirst_23 rfl (lv_at hl 0 rfl) ?_
    refine zg_1_2 h hH zf_X1_18 dX1_acceptsFirst_24 ?_
    refine lv_iload_n hx hb dX1_acceptsFirst_27 rfl (lv_at hl 1 rfl) ?_
    refine zcSi h hH (As := [.int (zI (S 8 3 2)), .int (zI t)]) (rest := []) (c_X1_withDigit l G hG S (S 8 3 2) t (by omega) (by omega)) zce_X1_withDigit zt_X1_withDigit zm_X1_38 hl.1 rfl rfl ⟨rfl, rfl⟩ ⟨Nat.le_of_ble_eq_true rfl, Nat.le_of_ble_eq_true rfl⟩ (Nat.le_of_ble_eq_true rfl) ⟨Nat.zero_le _, Nat.zero_le _⟩ dX1_acceptsFirst_28 (fun r_28 S_28 H locs hq hH => ?_)
    obtain ⟨rfl, rfl⟩ := hq
    have b_28 := oWd_in (n := S 8 3 2) (t := t) (by omega) ht
    have b_39 := oMf_in (S 8 3 1)
    refine lv_istore_n (lv' := [(2, .int (zI (oWd (S 8 3 2) t))), (0, .ref (za G 8 3)), (1, .int (zI t))]) hx hb dX1_acceptsFirst_31 rfl hl (by decide) rfl (fun ls hl => ?_)
    refine lv_iload_n hx hb dX1_acceptsFirst_32 rfl (lv_at hl 0 rfl) ?_
    refine zb_ic h dX1_acceptsFirst_33 ?_
    refine zb_ceq (tgt := 45) h (by omega) (by omega) dX1_acceptsFirst_34 (by decide) (fun c_34 => ?_) (fun c_34 => ?_)
    · refine zb_ic h dX1_acceptsFirst_45 ?_
      refine zrz h hr hH (by omega) ?_ dX1_acceptsFirst_46
      exact ⟨0, rfl, Or.inr ⟨rfl, by unfold oKF; omega, rfl⟩⟩
    · refine lv_iload_n hx hb dX1_acceptsFirst_37 rfl (lv_at hl 0 rfl) ?_
      refine lv_aload_n hx hb dX1_acceptsFirst_38 rfl (lv_at hl 1 rfl) ?_
      refine zcVi h hH (zr_1 h hH) (As := []) (rest := [.int (zI (oWd (S 8 3 2) t))]) (c_X1_mostFirst l G hG S hrd) zce_X1_mostFirst zcv_X1_mostFirst zm_X1_42 hl.1 rfl rfl ⟨rfl, rfl⟩ ⟨Nat.le_of_ble_eq_true rfl, Nat.le_of_ble_eq_true rfl⟩ (Nat.le_of_ble_eq_true rfl) ⟨Nat.zero_le _, Nat.zero_le _⟩ dX1_acceptsFirst_39 (fun r_39 S_39 H locs hq hH => ?_)
      obtain ⟨rfl, rfl⟩ := hq
      refine zb_cle (tgt := 47) h (by omega) (by omega) dX1_acceptsFirst_42 (by decide) (fun c_42 => ?_) (fun c_42 => ?_)
      · rw [← zC_id S] at hH
        refine lv_aload_n hx hb dX1_acceptsFirst_47 rfl (lv_at hl 1 rfl) ?_
        refine lv_iload_n hx hb dX1_acceptsFirst_48 rfl (lv_at hl 0 rfl) ?_
        refine zu_1_2 h hH zf_X1_18 dX1_acceptsFirst_49 (fun H locs hH => ?_)
        rw [zs_C3] at hH
        refine lv_aload_n hx hb dX1_acceptsFirst_52 rfl (lv_at hl 1 rfl) ?_
        refine zg_1_1 h hH zf_X1_15 dX1_acceptsFirst_53 ?_
        rw [zC_3]
        rw [show (zup (S 8 3) 2 (oWd (S 8 3 2) t) 1 : Int) = S 8 3 1 from by (first | rw [zup_s] | rw [zup_n (by omega)])]
        refine zb_bi h dX1_acceptsFirst_56 (by decide) (by decide) ?_
        refine zb_cne (tgt := 66) h (by omega) (by omega) dX1_acceptsFirst_58 (by decide) (fun c_58 => ?_) (fun c_58 => ?_)
        · refine zb_ic h dX1_acceptsFirst_66 ?_
          refine zrz h hr hH (by omega) ?_ dX1_acceptsFirst_67
          exact ⟨1, rfl, Or.inl ⟨rfl, by unfold oKF; omega, by unfold oF; rw [if_neg (by omega)]; first | rw [if_pos (by omega)] | rw [if_neg (by omega)]⟩⟩
        · refine lv_aload_n hx hb dX1_acceptsFirst_61 rfl (lv_at hl 1 rfl) ?_
          refine zb_ic h dX1_acceptsFirst_62 ?_
          refine zu_1_0 h hH zf_X1_11 dX1_acceptsFirst_63 (fun H locs hH => ?_)
          rw [zs_C3] at hH
          refine zb_ic h dX1_acceptsFirst_66 ?_
          refine zrz h hr hH (by omega) ?_ dX1_acceptsFirst_67
          exact ⟨1, rfl, Or.inl ⟨rfl, by unfold oKF; omega, by unfold oF; rw [if_neg (by omega)]; first | rw [if_pos (by omega)] | rw [if_neg (by omega)]⟩⟩
      · refine zb_ic h dX1_acceptsFirst_45 ?_
        refine zrz h hr hH (by omega) ?_ dX1_acceptsFirst_46
        exact ⟨0, rfl, Or.inr ⟨rfl, by unfold oKF; omega, rfl⟩⟩
  · refine lv_iload_n hx hb dX1_acceptsFirst_8 rfl (lv_at hl 1 rfl) ?_
    refine lv_aload_n hx hb dX1_acceptsFirst_9 rfl (lv_at hl 0 rfl) ?_
    refine zcVi h hH (zr_1 h hH) (As := []) (rest := [.int (zI t)]) (c_X1_separator l G hG S hrd) zce_X1_separator zcv_X1_separator zm_X1_34 hl.1 rfl rfl ⟨rfl, rfl⟩ ⟨Nat.le_of_ble_eq_true rfl, Nat.le_of_ble_eq_true rfl⟩ (Nat.le_of_ble_eq_true rfl) ⟨Nat.zero_le _, Nat.zero_le _⟩ dX1_acceptsFirst_10 (fun r_10 S_10 H locs hq hH => ?_)
    obtain ⟨rfl, rfl⟩ := hq
    have b_10 := oSep_in (S 8 3 1)
    refine zb_cne (tgt := 23) h (by omega) (by omega) dX1_acceptsFirst_13 (by decide) (fun c_13 => ?_) (fun c_13 => ?_)
    · refine lv_aload_n hx hb dX1_acceptsFirst_23 rfl (lv_at hl 0 rfl) ?_
      refine zg_1_2 h hH zf_X1_18 dX1_acceptsFirst_24 ?_
      refine lv_iload_n hx hb dX1_acceptsFirst_27 rfl (lv_at hl 1 rfl) ?_
      refine zcSi h hH (As := [.int (zI (S 8 3 2)), .int (zI t)]) (rest := []) (c_X1_withDigit l G hG S (S 8 3 2) t (by omega) (by omega)) zce_X1_withDigit zt_X1_withDigit zm_X1_38 hl.1 rfl rfl ⟨rfl, rfl⟩ ⟨Nat.le_of_ble_eq_true rfl, Nat.le_of_ble_eq_true rfl⟩ (Nat.le_of_ble_eq_true rfl) ⟨Nat.zero_le _, Nat.zero_le _⟩ dX1_acceptsFirst_28 (fun r_28 S_28 H locs hq hH => ?_)
      obtain ⟨rfl, rfl⟩ := hq
      have b_28 := oWd_in (n := S 8 3 2) (t := t) (by omega) ht
      have b_39 := oMf_in (S 8 3 1)
      refine lv_istore_n (lv' := [(2, .int (zI (oWd (S 8 3 2) t))), (0, .ref (za G 8 3)), (1, .int (zI t))]) hx hb dX1_acceptsFirst_31 rfl hl (by decide) rfl (fun ls hl => ?_)
      refine lv_iload_n hx hb dX1_acceptsFirst_32 rfl (lv_at hl 0 rfl) ?_
      refine zb_ic h dX1_acceptsFirst_33 ?_
      refine zb_ceq (tgt := 45) h (by omega) (by omega) dX1_acceptsFirst_34 (by decide) (fun c_34 => ?_) (fun c_34 => ?_)
      · refine zb_ic h dX1_acceptsFirst_45 ?_
        refine zrz h hr hH (by omega) ?_ dX1_acceptsFirst_46
        exact ⟨0, rfl, Or.inr ⟨rfl, by unfold oKF; omega, rfl⟩⟩
      · refine lv_iload_n hx hb dX1_acceptsFirst_37 rfl (lv_at hl 0 rfl) ?_
        refine lv_aload_n hx hb dX1_acceptsFirst_38 rfl (lv_at hl 1 rfl) ?_
        refine zcVi h hH (zr_1 h hH) (As := []) (rest := [.int (zI (oWd (S 8 3 2) t))]) (c_X1_mostFirst l G hG S hrd) zce_X1_mostFirst zcv_X1_mostFirst zm_X1_42 hl.1 rfl rfl ⟨rfl, rfl⟩ ⟨Nat.le_of_ble_eq_true rfl, Nat.le_of_ble_eq_true rfl⟩ (Nat.le_of_ble_eq_true rfl) ⟨Nat.zero_le _, Nat.zero_le _⟩ dX1_acceptsFirst_39 (fun r_39 S_39 H locs hq hH => ?_)
        obtain ⟨rfl, rfl⟩ := hq
        refine zb_cle (tgt := 47) h (by omega) (by omega) dX1_acceptsFirst_42 (by decide) (fun c_42 => ?_) (fun c_42 => ?_)
        · rw [← zC_id S] at hH
          refine lv_aload_n hx hb dX1_acceptsFirst_47 rfl (lv_at hl 1 rfl) ?_
          refine lv_iload_n hx hb dX1_acceptsFirst_48 rfl (lv_at hl 0 rfl) ?_
          refine zu_1_2 h hH zf_X1_18 dX1_acceptsFirst_49 (fun H locs hH => ?_)
          rw [zs_C3] at hH
          refine lv_aload_n hx hb dX1_acceptsFirst_52 rfl (lv_at hl 1 rfl) ?_
          refine zg_1_1 h hH zf_X1_15 dX1_acceptsFirst_53 ?_
          rw [zC_3]
          rw [show (zup (S 8 3) 2 (oWd (S 8 3 2) t) 1 : Int) = S 8 3 1 from by (first | rw [zup_s] | rw [zup_n (by omega)])]
          refine zb_bi h dX1_acceptsFirst_56 (by decide) (by decide) ?_
          refine zb_cne (tgt := 66) h (by omega) (by omega) dX1_acceptsFirst_58 (by decide) (fun c_58 => ?_) (fun c_58 => ?_)
          · refine zb_ic h dX1_acceptsFirst_66 ?_
            refine zrz h hr hH (by omega) ?_ dX1_acceptsFirst_67
            exact ⟨1, rfl, Or.inl ⟨rfl, by unfold oKF; omega, by unfold oF; rw [if_neg (by omega)]; first | rw [if_pos (by omega)] | rw [if_neg (by omega)]⟩⟩
          · refine lv_aload_n hx hb dX1_acceptsFirst_61 rfl (lv_at hl 1 rfl) ?_
            refine zb_ic h dX1_acceptsFirst_62 ?_
            refine zu_1_0 h hH zf_X1_11 dX1_acceptsFirst_63 (fun H locs hH => ?_)
            rw [zs_C3] at hH
            refine zb_ic h dX1_acceptsFirst_66 ?_
            refine zrz h hr hH (by omega) ?_ dX1_acceptsFirst_67
            exact ⟨1, rfl, Or.inl ⟨rfl, by unfold oKF; omega, by unfold oF; rw [if_neg (by omega)]; first | rw [if_pos (by omega)] | rw [if_neg (by omega)]⟩⟩
        · refine zb_ic h dX1_acceptsFirst_45 ?_
          refine zrz h hr hH (by omega) ?_ dX1_acceptsFirst_46
          exact ⟨0, rfl, Or.inr ⟨rfl, by unfold oKF; omega, rfl⟩⟩
    · rw [← zC_id S] at hH
      refine lv_aload_n hx hb dX1_acceptsFirst_16 rfl (lv_at hl 0 rfl) ?_
      refine zb_ic h dX1_acceptsFirst_17 ?_
      refine zu_1_0 h hH zf_X1_11 dX1_acceptsFirst_18 (fun H locs hH => ?_)
      rw [zs_C3] at hH
      refine zb_ic h dX1_acceptsFirst_21 ?_
      refine zrz h hr hH (by omega) ?_ dX1_acceptsFirst_22
      exact ⟨1, rfl, Or.inl ⟨rfl, by unfold oKF; omega, by unfold oF; rw [if_pos (by omega)]⟩⟩
theorem dX1_acceptsLast_0 : decode cX1_acceptsLast 0 = .ok (.aload_n 0, 1) := by decide +kernel
theorem dX1_acceptsLast_1 : decode cX1_acceptsLast 1 = .ok (.getfield 21, 3) := by decide +kernel
theorem dX1_acceptsLast_4 : decode cX1_acceptsLast 4 = .ok (.iconst (-1), 1) := by decide +kernel
theorem dX1_acceptsLast_5 : decode cX1_acceptsLast 5 = .ok (.if_icmp .eq 16, 3) := by decide +kernel
theorem dX1_acceptsLast_8 : decode cX1_acceptsLast 8 = .ok (.iload_n 1, 1) := by decide +kernel
theorem dX1_acceptsLast_9 : decode cX1_acceptsLast 9 = .ok (.bipush 59, 2) := by decide +kernel
theorem dX1_acceptsLast_11 : decode cX1_acceptsLast 11 = .ok (.if_icmp .ne 10, 3) := by decide +kernel
theorem dX1_acceptsLast_14 : decode cX1_acceptsLast 14 = .ok (.aload_n 0, 1) := by decide +kernel
theorem dX1_acceptsLast_15 : decode cX1_acceptsLast 15 = .ok (.iconst 0, 1) := by decide +kernel
theorem dX1_acceptsLast_16 : decode cX1_acceptsLast 16 = .ok (.putfield 11, 3) := by decide +kernel
theorem dX1_acceptsLast_19 : decode cX1_acceptsLast 19 = .ok (.iconst 1, 1) := by decide +kernel
theorem dX1_acceptsLast_20 : decode cX1_acceptsLast 20 = .ok (.ireturn, 1) := by decide +kernel
theorem dX1_acceptsLast_21 : decode cX1_acceptsLast 21 = .ok (.aload_n 0, 1) := by decide +kernel
theorem dX1_acceptsLast_22 : decode cX1_acceptsLast 22 = .ok (.getfield 21, 3) := by decide +kernel
theorem dX1_acceptsLast_25 : decode cX1_acceptsLast 25 = .ok (.iload_n 1, 1) := by decide +kernel
theorem dX1_acceptsLast_26 : decode cX1_acceptsLast 26 = .ok (.invokestatic 38, 3) := by decide +kernel
theorem dX1_acceptsLast_29 : decode cX1_acceptsLast 29 = .ok (.istore_n 2, 1) := by decide +kernel
theorem dX1_acceptsLast_30 : decode cX1_acceptsLast 30 = .ok (.iload_n 2, 1) := by decide +kernel
theorem dX1_acceptsLast_31 : decode cX1_acceptsLast 31 = .ok (.iconst (-1), 1) := by decide +kernel
theorem dX1_acceptsLast_32 : decode cX1_acceptsLast 32 = .ok (.if_icmp .eq 19, 3) := by decide +kernel
theorem dX1_acceptsLast_35 : decode cX1_acceptsLast 35 = .ok (.iload_n 2, 1) := by decide +kernel
theorem dX1_acceptsLast_36 : decode cX1_acceptsLast 36 = .ok (.aload_n 0, 1) := by decide +kernel
theorem dX1_acceptsLast_37 : decode cX1_acceptsLast 37 = .ok (.invokevirtual 45, 3) := by decide +kernel
theorem dX1_acceptsLast_40 : decode cX1_acceptsLast 40 = .ok (.if_icmp .lt 11, 3) := by decide +kernel
theorem dX1_acceptsLast_43 : decode cX1_acceptsLast 43 = .ok (.iload_n 2, 1) := by decide +kernel
theorem dX1_acceptsLast_44 : decode cX1_acceptsLast 44 = .ok (.aload_n 0, 1) := by decide +kernel
theorem dX1_acceptsLast_45 : decode cX1_acceptsLast 45 = .ok (.invokevirtual 48, 3) := by decide +kernel
theorem dX1_acceptsLast_48 : decode cX1_acceptsLast 48 = .ok (.if_icmp .le 5, 3) := by decide +kernel
theorem dX1_acceptsLast_51 : decode cX1_acceptsLast 51 = .ok (.iconst 0, 1) := by decide +kernel
theorem dX1_acceptsLast_52 : decode cX1_acceptsLast 52 = .ok (.ireturn, 1) := by decide +kernel
theorem dX1_acceptsLast_53 : decode cX1_acceptsLast 53 = .ok (.aload_n 0, 1) := by decide +kernel
theorem dX1_acceptsLast_54 : decode cX1_acceptsLast 54 = .ok (.iload_n 2, 1) := by decide +kernel
theorem dX1_acceptsLast_55 : decode cX1_acceptsLast 55 = .ok (.putfield 21, 3) := by decide +kernel
theorem dX1_acceptsLast_58 : decode cX1_acceptsLast 58 = .ok (.iconst 1, 1) := by decide +kernel
theorem dX1_acceptsLast_59 : decode cX1_acceptsLast 59 = .ok (.ireturn, 1) := by decide +kernel
def q_X1_acceptsLast (S : zM) (t : Int) : Int32 → zM → Prop := fun r S1 => ∃ bb : Int, r = zI bb ∧ ((bb = 1 ∧ oKA (S 8 3) t ∧ zCl S (S 8 0) (S 8 1) (oA (S 8 3) t) (S 8 4) (S 8 5) = S1) ∨ (bb = 0 ∧ ¬ oKA (S 8 3) t ∧ S = S1))
def r_X1_acceptsLast : Room := { frames := 1, cells := 0, slots := 0, locals := 21 }
set_option maxHeartbeats 4000000 in
set_option maxRecDepth 100000 in
theorem c_X1_acceptsLast (l : Launch) (G : zG) (hG : zok G) (S : zM) (t : Int) (ht : -1 ≤ t ∧ t ≤ 126) (hrd : zRd (S 8 3)) : Met l yX1_acceptsLast (Cond.code yX1_acceptsLast cX1_acceptsLast 3 (some FieldType.boolean) :: zTbl) r_X1_acceptsLast (va_Pc [.ref (za G 8 3), .int (zI t)] (zB G S)) (va_Qi (q_X1_acceptsLast S t) (zB G) (zA G)) 0 0 (zA G) := by
  refine zMet [(0, .ref (za G 8 3)), (1, .int (zI t))] hG (by decide) (Nat.le_of_ble_eq_true rfl) rfl (fun p e s m args below meth c ls h hx hb hr hH hl => ?_)
  obtain ⟨g0, g1, g2, g3⟩ := id hrd
  refine lv_aload_n hx hb dX1_acceptsLast_0 rfl (lv_at hl 0 rfl) ?_
  refine zg_1_3 h hH zf_X1_21 dX1_acceptsLast_1 ?_
  refine zb_ic h dX1_acceptsLast_4 ?_
  refine zb_ceq (tgt := 21) h (by omega) (by omega) dX1_acceptsLast_5 (by decide) (fun c_5 => ?_) (fun c_5 => ?_)
  · refine lv_aload_n hx hb dX1_acceptsLast_21 rfl (lv_at hl 0 rfl) ?_
    refine zg_1_3 h hH zf_X1_21 dX1_acceptsLast_22 ?_
    refine lv_iload_n hx hb dX1_acceptsLast_25 rfl (lv_at hl 1 rfl) ?_
    refine zcSi h hH (As := [.int (zI (S 8 3 3)), .int (zI t)]) (rest := []) (c_X1_withDigit l G hG S (S 8 3 3) t (by omega) (by omega)) zce_X1_withDigit zt_X1_withDigit zm_X1_38 hl.1 rfl rfl ⟨rfl, rfl⟩ ⟨Nat.le_of_ble_eq_true rfl, Nat.le_of_ble_eq_true rfl⟩ (Nat.le_of_ble_eq_true rfl) ⟨Nat.zero_le _, Nat.zero_le _⟩ dX1_acceptsLast_26 (fun r_26 S_26 H locs hq hH => ?_)
    obtain ⟨rfl, rfl⟩ := hq
    have b_26 := oWd_in (n := S 8 3 3) (t := t) (by omega) ht
    have b_39 := oLl_in g2
    have b_48 := oMl_in (S 8 3 1)
    refine lv_istore_n (lv' := [(2, .int (zI (oWd (S 8 3 3) t))), (0, .ref (za G 8 3)), (1, .int (zI t))]) hx hb dX1_acceptsLast_29 rfl hl (by decide) rfl (fun ls hl => ?_)
    refine lv_iload_n hx hb dX1_acceptsLast_30 rfl (lv_at hl 0 rfl) ?_
    refine zb_ic h dX1_acceptsLast_31 ?_
    refine zb_ceq (tgt := 51) h (by omega) (by omega) dX1_acceptsLast_32 (by decide) (fun c_32 => ?_) (fun c_32 => ?_)
    · refine zb_ic h dX1_acceptsLast_51 ?_
      refine zrz h hr hH (by omega) ?_ dX1_acceptsLast_52
      exact ⟨0, rfl, Or.inr ⟨rfl, by unfold oKA; omega, rfl⟩⟩
    · refine lv_iload_n hx hb dX1_acceptsLast_35 rfl (lv_at hl 0 rfl) ?_
      refine lv_aload_n hx hb dX1_acceptsLast_36 rfl (lv_at hl 1 rfl) ?_
      refine zcVi h hH (zr_1 h hH) (As := []) (rest := [.int (zI (oWd (S 8 3 3) t))]) (c_X1_leastLast l G hG S hrd) zce_X1_leastLast zcv_X1_leastLast zm_X1_45 hl.1 rfl rfl ⟨rfl, rfl⟩ ⟨Nat.le_of_ble_eq_true rfl, Nat.le_of_ble_eq_true rfl⟩ (Nat.le_of_ble_eq_true rfl) ⟨Nat.zero_le _, Nat.zero_le _⟩ dX1_acceptsLast_37 (fun r_37 S_37 H locs hq hH => ?_)
      obtain ⟨rfl, rfl⟩ := hq
      refine zb_clt (tgt := 51) h (by omega) (by omega) dX1_acceptsLast_40 (by decide) (fun c_40 => ?_) (fun c_40 => ?_)
      · refine zb_ic h dX1_acceptsLast_51 ?_
        refine zrz h hr hH (by omega) ?_ dX1_acceptsLast_52
        exact ⟨0, rfl, Or.inr ⟨rfl, by unfold oKA; omega, rfl⟩⟩
      · refine lv_iload_n hx hb dX1_acceptsLast_43 rfl (lv_at hl 0 rfl) ?_
        refine lv_aload_n hx hb dX1_acceptsLast_44 rfl (lv_at hl 1 rfl) ?_
        refine zcVi h hH (zr_1 h hH) (As := []) (rest := [.int (zI (oWd (S 8 3 3) t))]) (c_X1_mostLast l G hG S hrd) zce_X1_mostLast zcv_X1_mostLast zm_X1_48 hl.1 rfl rfl ⟨rfl, rfl⟩ ⟨Nat.le_of_ble_eq_true rfl, Nat.le_of_ble_eq_true rfl⟩ (Nat.le_of_ble_eq_true rfl) ⟨Nat.zero_le _, Nat.zero_le _⟩ dX1_acceptsLast_45 (fun r_45 S_45 H locs hq hH => ?_)
        obtain ⟨rfl, rfl⟩ := hq
        refine zb_cle (tgt := 53) h (by omega) (by omega) dX1_acceptsLast_48 (by decide) (fun c_48 => ?_) (fun c_48 => ?_)
        · rw [← zC_id S] at hH
          refine lv_aload_n hx hb dX1_acceptsLast_53 rfl (lv_at hl 1 rfl) ?_
          refine lv_iload_n hx hb dX1_acceptsLast_54 rfl (lv_at hl 0 rfl) ?_
          refine zu_1_3 h hH zf_X1_21 dX1_acceptsLast_55 (fun H locs hH => ?_)
          rw [zs_C3] at hH
          refine zb_ic h dX1_acceptsLast_58 ?_
          refine zrz h hr hH (by omega) ?_ dX1_acceptsLast_59
          exact ⟨1, rfl, Or.inl ⟨rfl, by unfold oKA; omega, by unfold oA; rw [if_neg (by omega)]⟩⟩
        · refine zb_ic h dX1_acceptsLast_51 ?_
          refine zrz h hr hH (by omega) ?_ dX1_acceptsLast_52
          exact ⟨0, rfl, Or.inr ⟨rfl, by unfold oKA; omega, rfl⟩⟩
  · refine lv_iload_n hx hb dX1_acceptsLast_8 rfl (lv_at hl 1 rfl) ?_
    refine zb_bi h dX1_acceptsLast_9 (by decide) (by decide) ?_
    refine zb_cne (tgt := 21) h (by omega) (by omega) dX1_acceptsLast_11 (by decide) (fun c_11 => ?_) (fun c_11 => ?_)
    · refine lv_aload_n hx hb dX1_acceptsLast_21 rfl (lv_at hl 0 rfl) ?_
      refine zg_1_3 h hH zf_X1_21 dX1_acceptsLast_22 ?_
      refine lv_iload_n hx hb dX1_acceptsLast_25 rfl (lv_at hl 1 rfl) ?_
      refine zcSi h hH (As := [.int (zI (S 8 3 3)), .int (zI t)]) (rest := []) (c_X1_withDigit l G hG S (S 8 3 3) t (by omega) (by omega)) zce_X1_withDigit zt_X1_withDigit zm_X1_38 hl.1 rfl rfl ⟨rfl, rfl⟩ ⟨Nat.le_of_ble_eq_true rfl, Nat.le_of_ble_eq_true rfl⟩ (Nat.le_of_ble_eq_true rfl) ⟨Nat.zero_le _, Nat.zero_le _⟩ dX1_acceptsLast_26 (fun r_26 S_26 H locs hq hH => ?_)
      obtain ⟨rfl, rfl⟩ := hq
      have b_26 := oWd_in (n := S 8 3 3) (t := t) (by omega) ht
      have b_39 := oLl_in g2
      have b_48 := oMl_in (S 8 3 1)
      refine lv_istore_n (lv' := [(2, .int (zI (oWd (S 8 3 3) t))), (0, .ref (za G 8 3)), (1, .int (zI t))]) hx hb dX1_acceptsLast_29 rfl hl (by decide) rfl (fun ls hl => ?_)
      refine lv_iload_n hx hb dX1_acceptsLast_30 rfl (lv_at hl 0 rfl) ?_
      refine zb_ic h dX1_acceptsLast_31 ?_
      refine zb_ceq (tgt := 51) h (by omega) (by omega) dX1_acceptsLast_32 (by decide) (fun c_32 => ?_) (fun c_32 => ?_)
      · refine zb_ic h dX1_acceptsLast_51 ?_
        refine zrz h hr hH (by omega) ?_ dX1_acceptsLast_52
        exact ⟨0, rfl, Or.inr ⟨rfl, by unfold oKA; omega, rfl⟩⟩
      · refine lv_iload_n hx hb dX1_acceptsLast_35 rfl (lv_at hl 0 rfl) ?_
        refine lv_aload_n hx hb dX1_acceptsLast_36 rfl (lv_at hl 1 rfl) ?_
        refine zcVi h hH (zr_1 h hH) (As := []) (rest := [.int (zI (oWd (S 8 3 3) t))]) (c_X1_leastLast l G hG S hrd) zce_X1_leastLast zcv_X1_leastLast zm_X1_45 hl.1 rfl rfl ⟨rfl, rfl⟩ ⟨Nat.le_of_ble_eq_true rfl, Nat.le_of_ble_eq_true rfl⟩ (Nat.le_of_ble_eq_true rfl) ⟨Nat.zero_le _, Nat.zero_le _⟩ dX1_acceptsLast_37 (fun r_37 S_37 H locs hq hH => ?_)
        obtain ⟨rfl, rfl⟩ := hq
        refine zb_clt (tgt := 51) h (by omega) (by omega) dX1_acceptsLast_40 (by decide) (fun c_40 => ?_) (fun c_40 => ?_)
        · refine zb_ic h dX1_acceptsLast_51 ?_
          refine zrz h hr hH (by omega) ?_ dX1_acceptsLast_52
          exact ⟨0, rfl, Or.inr ⟨rfl, by unfold oKA; omega, rfl⟩⟩
        · refine lv_iload_n hx hb dX1_acceptsLast_43 rfl (lv_at hl 0 rfl) ?_
          refine lv_aload_n hx hb dX1_acceptsLast_44 rfl (lv_at hl 1 rfl) ?_
          refine zcVi h hH (zr_1 h hH) (As := []) (rest := [.int (zI (oWd (S 8 3 3) t))]) (c_X1_mostLast l G hG S hrd) zce_X1_mostLast zcv_X1_mostLast zm_X1_48 hl.1 rfl rfl ⟨rfl, rfl⟩ ⟨Nat.le_of_ble_eq_true rfl, Nat.le_of_ble_eq_true rfl⟩ (Nat.le_of_ble_eq_true rfl) ⟨Nat.zero_le _, Nat.zero_le _⟩ dX1_acceptsLast_45 (fun r_45 S_45 H locs hq hH => ?_)
          obtain ⟨rfl, rfl⟩ := hq
          refine zb_cle (tgt := 53) h (by omega) (by omega) dX1_acceptsLast_48 (by decide) (fun c_48 => ?_) (fun c_48 => ?_)
          · rw [← zC_id S] at hH
            refine lv_aload_n hx hb dX1_acceptsLast_53 rfl (lv_at hl 1 rfl) ?_
            refine lv_iload_n hx hb dX1_acceptsLast_54 rfl (lv_at hl 0 rfl) ?_
            refine zu_1_3 h hH zf_X1_21 dX1_acceptsLast_55 (fun H locs hH => ?_)
            rw [zs_C3] at hH
            refine zb_ic h dX1_acceptsLast_58 ?_
            refine zrz h hr hH (by omega) ?_ dX1_acceptsLast_59
            exact ⟨1, rfl, Or.inl ⟨rfl, by unfold oKA; omega, by unfold oA; rw [if_neg (by omega)]⟩⟩
          · refine zb_ic h dX1_acceptsLast_51 ?_
            refine zrz h hr hH (by omega) ?_ dX1_acceptsLast_52
            exact ⟨0, rfl, Or.inr ⟨rfl, by unfold oKA; omega, rfl⟩⟩
    · rw [← zC_id S] at hH
      refine lv_aload_n hx hb dX1_acceptsLast_14 rfl (lv_at hl 0 rfl) ?_
      refine zb_ic h dX1_acceptsLast_15 ?_
      refine zu_1_0 h hH zf_X1_11 dX1_acceptsLast_16 (fun H locs hH => ?_)
      rw [zs_C3] at hH
      refine zb_ic h dX1_acceptsLast_19 ?_
      refine zrz h hr hH (by omega) ?_ dX1_acceptsLast_20
      exact ⟨1, rfl, Or.inl ⟨rfl, by unfold oKA; omega, by unfold oA; rw [if_pos (by omega)]⟩⟩
theorem dX1_accepts_0 : decode cX1_accepts 0 = .ok (.aload_n 0, 1) := by decide +kernel
theorem dX1_accepts_1 : decode cX1_accepts 1 = .ok (.getfield 11, 3) := by decide +kernel
theorem dX1_accepts_4 : decode cX1_accepts 4 = .ok (.lookupswitch 40 #[(0, 28), (1, 34)], 28) := by decide +kernel
theorem dX1_accepts_32 : decode cX1_accepts 32 = .ok (.aload_n 0, 1) := by decide +kernel
theorem dX1_accepts_33 : decode cX1_accepts 33 = .ok (.iload_n 1, 1) := by decide +kernel
theorem dX1_accepts_34 : decode cX1_accepts 34 = .ok (.invokevirtual 24, 3) := by decide +kernel
theorem dX1_accepts_37 : decode cX1_accepts 37 = .ok (.ireturn, 1) := by decide +kernel
theorem dX1_accepts_38 : decode cX1_accepts 38 = .ok (.aload_n 0, 1) := by decide +kernel
theorem dX1_accepts_39 : decode cX1_accepts 39 = .ok (.iload_n 1, 1) := by decide +kernel
theorem dX1_accepts_40 : decode cX1_accepts 40 = .ok (.invokevirtual 28, 3) := by decide +kernel
theorem dX1_accepts_43 : decode cX1_accepts 43 = .ok (.ireturn, 1) := by decide +kernel
theorem dX1_accepts_44 : decode cX1_accepts 44 = .ok (.aload_n 0, 1) := by decide +kernel
theorem dX1_accepts_45 : decode cX1_accepts 45 = .ok (.iload_n 1, 1) := by decide +kernel
theorem dX1_accepts_46 : decode cX1_accepts 46 = .ok (.invokevirtual 31, 3) := by decide +kernel
theorem dX1_accepts_49 : decode cX1_accepts 49 = .ok (.ireturn, 1) := by decide +kernel
def q_X1_accepts (S : zM) (t : Int) : Int32 → zM → Prop := fun r S1 => ∃ bb : Int, r = zI bb ∧ ((bb = 1 ∧ oK (S 8 3) t ∧ zCl S (S 8 0) (S 8 1) (oN (S 8 3) t) (S 8 4) (S 8 5) = S1) ∨ (bb = 0 ∧ ¬ oK (S 8 3) t ∧ S = S1))
def r_X1_accepts : Room := { frames := 2, cells := 0, slots := 0, locals := 43 }
set_option maxHeartbeats 4000000 in
set_option maxRecDepth 100000 in
theorem c_X1_accepts (l : Launch) (G : zG) (hG : zok G) (S : zM) (t : Int) (ht : -1 ≤ t ∧ t ≤ 126) (hrd : zRd (S 8 3)) : Met l yX1_accepts (Cond.code yX1_accepts cX1_accepts 2 (some FieldType.boolean) :: zTbl) r_X1_accepts (va_Pc [.ref (za G 8 3), .int (zI t)] (zB G S)) (va_Qi (q_X1_accepts S t) (zB G) (zA G)) 0 0 (zA G) := by
  refine zMet [(0, .ref (za G 8 3)), (1, .int (zI t))] hG (by decide) (Nat.le_of_ble_eq_true rfl) rfl (fun p e s m args below meth c ls h hx hb hr hH hl => ?_)
  obtain ⟨g0, g1, g2, g3⟩ := id hrd
  refine lv_aload_n hx hb dX1_accepts_0 rfl (lv_at hl 0 rfl) ?_
  refine zg_1_0 h hH zf_X1_11 dX1_accepts_1 ?_
  have x_4 : (zI (S 8 3 0)).toInt = (S 8 3 0) := zI_toInt (by omega) (by omega)
  by_cases e_4_0 : S 8 3 0 = 0
  · refine lv_lookup (off := 28) (tgt := 32) hx hb dX1_accepts_4 (by decide) (by rw [x_4, e_4_0]; rfl) (by decide) ?_
    refine lv_aload_n hx hb dX1_accepts_32 rfl (lv_at hl 0 rfl) ?_
    refine lv_iload_n hx hb dX1_accepts_33 rfl (lv_at hl 1 rfl) ?_
    refine zcVi h hH (zr_1 h hH) (As := [.int (zI t)]) (rest := []) (c_X1_acceptsLetter l G hG S t (by omega) hrd) zce_X1_acceptsLetter zcv_X1_acceptsLetter zm_X1_24 hl.1 rfl rfl ⟨rfl, rfl⟩ ⟨Nat.le_of_ble_eq_true rfl, Nat.le_of_ble_eq_true rfl⟩ (Nat.le_of_ble_eq_true rfl) ⟨Nat.zero_le _, Nat.zero_le _⟩ dX1_accepts_34 (fun r_34 S_34 H locs hq hH => ?_)
    obtain ⟨b_34, rfl, hb_34⟩ := hq
    refine zrz h hr hH (by omega) ?_ dX1_accepts_37
    exact ⟨b_34, rfl, by unfold oK oN; rw [if_pos e_4_0, if_pos e_4_0]; exact hb_34⟩
  by_cases e_4_1 : S 8 3 0 = 1
  · refine lv_lookup (off := 34) (tgt := 38) hx hb dX1_accepts_4 (by decide) (by rw [x_4, e_4_1]; rfl) (by decide) ?_
    refine lv_aload_n hx hb dX1_accepts_38 rfl (lv_at hl 0 rfl) ?_
    refine lv_iload_n hx hb dX1_accepts_39 rfl (lv_at hl 1 rfl) ?_
    refine zcVi h hH (zr_1 h hH) (As := [.int (zI t)]) (rest := []) (c_X1_acceptsFirst l G hG S t (by omega) hrd) zce_X1_acceptsFirst zcv_X1_acceptsFirst zm_X1_28 hl.1 rfl rfl ⟨rfl, rfl⟩ ⟨Nat.le_of_ble_eq_true rfl, Nat.le_of_ble_eq_true rfl⟩ (Nat.le_of_ble_eq_true rfl) ⟨Nat.zero_le _, Nat.zero_le _⟩ dX1_accepts_40 (fun r_40 S_40 H locs hq hH => ?_)
    obtain ⟨b_40, rfl, hb_40⟩ := hq
    refine zrz h hr hH (by omega) ?_ dX1_accepts_43
    exact ⟨b_40, rfl, by unfold oK oN; rw [if_neg e_4_0, if_neg e_4_0, if_pos e_4_1, if_pos e_4_1]; exact hb_40⟩
  refine lv_lookup (off := 40) (tgt := 44) hx hb dX1_accepts_4 (by decide) (by rw [x_4]; exact zlk_out [(0, 28), (1, 34)] _ _ (by intro q hq; simp only [List.mem_cons, List.not_mem_nil, or_false] at hq; rcases hq with rfl | rfl <;> (dsimp only; omega))) (by decide) ?_
  refine lv_aload_n hx hb dX1_accepts_44 rfl (lv_at hl 0 rfl) ?_
  refine lv_iload_n hx hb dX1_accepts_45 rfl (lv_at hl 1 rfl) ?_
  refine zcVi h hH (zr_1 h hH) (As := [.int (zI t)]) (rest := []) (c_X1_acceptsLast l G hG S t (by omega) hrd) zce_X1_acceptsLast zcv_X1_acceptsLast zm_X1_31 hl.1 rfl rfl ⟨rfl, rfl⟩ ⟨Nat.le_of_ble_eq_true rfl, Nat.le_of_ble_eq_true rfl⟩ (Nat.le_of_ble_eq_true rfl) ⟨Nat.zero_le _, Nat.zero_le _⟩ dX1_accepts_46 (fun r_46 S_46 H locs hq hH => ?_)
  obtain ⟨b_46, rfl, hb_46⟩ := hq
  refine zrz h hr hH (by omega) ?_ dX1_accepts_49
  exact ⟨b_46, rfl, by unfold oK oN; rw [if_neg e_4_0, if_neg e_4_0, if_neg e_4_1, if_neg e_4_1]; exact hb_46⟩
