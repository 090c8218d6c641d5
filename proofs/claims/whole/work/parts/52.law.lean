theorem dL_zone_0 : decode cL_zone 0 = .ok (.aload_n 3, 1) := by decide +kernel
theorem dL_zone_1 : decode cL_zone 1 = .ok (.iconst 0, 1) := by decide +kernel
theorem dL_zone_2 : decode cL_zone 2 = .ok (.aload_n 0, 1) := by decide +kernel
theorem dL_zone_3 : decode cL_zone 3 = .ok (.iload_n 1, 1) := by decide +kernel
theorem dL_zone_4 : decode cL_zone 4 = .ok (.iload_n 2, 1) := by decide +kernel
theorem dL_zone_5 : decode cL_zone 5 = .ok (.invokevirtual 7, 3) := by decide +kernel
theorem dL_zone_8 : decode cL_zone 8 = .ok (.i2l, 1) := by decide +kernel
theorem dL_zone_9 : decode cL_zone 9 = .ok (.lastore, 1) := by decide +kernel
theorem dL_zone_10 : decode cL_zone 10 = .ok (.goto 11, 3) := by decide +kernel
theorem dL_zone_13 : decode cL_zone 13 = .ok (.astore 4, 2) := by decide +kernel
theorem dL_zone_15 : decode cL_zone 15 = .ok (.iconst 1, 1) := by decide +kernel
theorem dL_zone_16 : decode cL_zone 16 = .ok (.ireturn, 1) := by decide +kernel
theorem dL_zone_17 : decode cL_zone 17 = .ok (.astore 4, 2) := by decide +kernel
theorem dL_zone_19 : decode cL_zone 19 = .ok (.iconst 2, 1) := by decide +kernel
theorem dL_zone_20 : decode cL_zone 20 = .ok (.ireturn, 1) := by decide +kernel
theorem dL_zone_21 : decode cL_zone 21 = .ok (.iconst 0, 1) := by decide +kernel
theorem dL_zone_22 : decode cL_zone 22 = .ok (.ireturn, 1) := by decide +kernel
def q_L_zone (S : zM) (d : Int) (w : Int) : Int32 → zM → Prop := fun r S1 => (x_X4_zone S d w "java/lang/IllegalArgumentException" ∧ r = zI 1 ∧ S = S1) ∨ (x_X4_zone S d w "java/lang/IllegalStateException" ∧ r = zI 2 ∧ S = S1) ∨ (r = zI 0 ∧ ∃ (y9 : Int) (S2 : zM), (-2147483648 ≤ y9 ∧ y9 ≤ 2147483647) ∧ q_X4_zone S d w (zI y9) S2 ∧ zs S2 8 5 0 y9 = S1)
def r_L_zone : Room := { frames := 7, cells := 1, slots := 6, locals := 114 }
set_option maxHeartbeats 4000000 in
set_option maxRecDepth 100000 in
theorem c_L_zone (l : Launch) (hlx : l.stackTraces = false) (G : zG) (hG : zok G) (S : zM) (d : Int) (hd_ : -2147483648 ≤ d ∧ d ≤ 2147483647) (w : Int) (hw_ : -2147483648 ≤ w ∧ w ≤ 2147483647) (hnx : 0 ≤ S 8 1 2 ∧ S 8 1 2 ≤ 600) (hsz : 0 ≤ S 8 1 1 ∧ S 8 1 1 ≤ 6) (hms : zMs S 0) (hw : zW (S 0 0))  : vx_Met l yL_zone (Cond.codeWith yL_zone cL_zone 5 (some FieldType.int) [(0, 10, 13, 13), (0, 10, 17, 15)] :: zTbl) r_L_zone (va_Pc [.ref (za G 8 0), .int (zI d), .int (zI w), .ref (za G 8 5)] (zBX G S)) (va_Qi (q_L_zone S d w) (zB G) (zA G)) (zXC G (fun _ => False) (fun _ => False)) 1 6 (zA G) := by
  refine zXMetH [(0, .ref (za G 8 0)), (1, .int (zI d)), (2, .int (zI w)), (3, .ref (za G 8 5))] hG (by decide) (Nat.le_of_ble_eq_true rfl) rfl (fun p e s m args below meth c ls h hX hT hx hb hr hH hl => ?_)
  refine lv_aload_n hx hb dL_zone_0 rfl (lv_at hl 3 rfl) ?_
  refine zb_ic h dL_zone_1 ?_
  refine lv_aload_n hx hb dL_zone_2 rfl (lv_at hl 0 rfl) ?_
  refine lv_iload_n hx hb dL_zone_3 rfl (lv_at hl 1 rfl) ?_
  refine lv_iload_n hx hb dL_zone_4 rfl (lv_at hl 2 rfl) ?_
  refine zcXV h hX hH (zr_4 h hH) (As := [.int (zI d), .int (zI w)]) (rest := [.int (zI 0), .ref (za G 8 5)]) (c_X4_zone l hlx G hG S d hd_ w hw_ hnx hsz hms hw) zce_X4_zone zcv_X4_zone zm_L_7 hl.1 rfl rfl ⟨rfl, rfl⟩ ⟨Nat.le_of_ble_eq_true rfl, Nat.le_of_ble_eq_true rfl⟩ (Nat.le_of_ble_eq_true rfl) ⟨Nat.le_of_ble_eq_true rfl, Nat.le_of_ble_eq_true rfl⟩ dL_zone_5 (fun E ce q9 S1 H locs hp hf hH hc1 hc2 hc3 => ?_) (fun r_5 S_5 H locs hq hH => ?_)
  · have hp : S1 = S := hp
    rw [hp] at hH
    unfold x_X4_zone at hf
    rcases hf with ⟨rfl, hf⟩ | ⟨rfl, hf⟩
    · refine zct1 h hX ⟨0, 10, 13, 13⟩ _ hT (by decide) (by decide) zl_L_13 zxl_IA hc1 hc2 hc3 ?_
      refine lv_astore (lv' := [(4, .ref q9), (0, .ref (za G 8 0)), (1, .int (zI d)), (2, .int (zI w)), (3, .ref (za G 8 5))]) hx hb dL_zone_13 hl (by decide) rfl (fun ls hl => ?_)
      refine zb_ic h dL_zone_15 ?_
      refine vx_ret ?_
      refine zri h hr hH ?_ dL_zone_16
      exact Or.inl ⟨show x_X4_zone S d w "java/lang/IllegalArgumentException" from (Or.inl ⟨rfl, hf⟩), rfl, rfl⟩
    · refine zct2 h hX ⟨0, 10, 13, 13⟩ ⟨0, 10, 17, 15⟩ _ hT (by decide) zl_L_13 znc_IS_IA (by decide) (by decide) zl_L_15 zxl_IS hc1 hc2 hc3 ?_
      refine lv_astore (lv' := [(4, .ref q9), (0, .ref (za G 8 0)), (1, .int (zI d)), (2, .int (zI w)), (3, .ref (za G 8 5))]) hx hb dL_zone_17 hl (by decide) rfl (fun ls hl => ?_)
      refine zb_ic h dL_zone_19 ?_
      refine vx_ret ?_
      refine zri h hr hH ?_ dL_zone_20
      exact Or.inr (Or.inl ⟨show x_X4_zone S d w "java/lang/IllegalStateException" from (Or.inr ⟨rfl, hf⟩), rfl, rfl⟩)
  · obtain ⟨v_5, hv1, hv2, rfl⟩ := zI_of r_5
    refine zb_i2l h (by omega) dL_zone_8 ?_
    refine zout_st h hH dL_zone_9 (fun H locs hH => ?_)
    refine lv_goto (tgt := 21) hx hb dL_zone_10 (by decide) ?_
    refine zb_ic h dL_zone_21 ?_
    refine vx_ret ?_
    refine zri h hr hH ?_ dL_zone_22
    exact Or.inr (Or.inr (⟨rfl, _, _, ⟨hv1, hv2⟩, hq, rfl⟩))
theorem dL_want_0 : decode cL_want 0 = .ok (.aload_n 3, 1) := by decide +kernel
theorem dL_want_1 : decode cL_want 1 = .ok (.iconst 0, 1) := by decide +kernel
theorem dL_want_2 : decode cL_want 2 = .ok (.aload_n 0, 1) := by decide +kernel
theorem dL_want_3 : decode cL_want 3 = .ok (.iload_n 1, 1) := by decide +kernel
theorem dL_want_4 : decode cL_want 4 = .ok (.iload_n 2, 1) := by decide +kernel
theorem dL_want_5 : decode cL_want 5 = .ok (.invokevirtual 17, 3) := by decide +kernel
theorem dL_want_8 : decode cL_want 8 = .ok (.i2l, 1) := by decide +kernel
theorem dL_want_9 : decode cL_want 9 = .ok (.lastore, 1) := by decide +kernel
theorem dL_want_10 : decode cL_want 10 = .ok (.goto 11, 3) := by decide +kernel
theorem dL_want_13 : decode cL_want 13 = .ok (.astore 4, 2) := by decide +kernel
theorem dL_want_15 : decode cL_want 15 = .ok (.iconst 1, 1) := by decide +kernel
theorem dL_want_16 : decode cL_want 16 = .ok (.ireturn, 1) := by decide +kernel
theorem dL_want_17 : decode cL_want 17 = .ok (.astore 4, 2) := by decide +kernel
theorem dL_want_19 : decode cL_want 19 = .ok (.iconst 2, 1) := by decide +kernel
theorem dL_want_20 : decode cL_want 20 = .ok (.ireturn, 1) := by decide +kernel
theorem dL_want_21 : decode cL_want 21 = .ok (.iconst 0, 1) := by decide +kernel
theorem dL_want_22 : decode cL_want 22 = .ok (.ireturn, 1) := by decide +kernel
def q_L_want (S : zM) (z : Int) (w : Int) : Int32 → zM → Prop := fun r S1 => (x_X4_want S z w "java/lang/IndexOutOfBoundsException" ∧ r = zI 1 ∧ S = S1) ∨ (x_X4_want S z w "java/lang/IllegalArgumentException" ∧ r = zI 2 ∧ S = S1) ∨ (r = zI 0 ∧ ∃ (y9 : Int) (S2 : zM), (-2147483648 ≤ y9 ∧ y9 ≤ 2147483647) ∧ q_X4_want S z w (zI y9) S2 ∧ zs S2 8 5 0 y9 = S1)
def r_L_want : Room := { frames := 7, cells := 1, slots := 6, locals := 115 }
set_option maxHeartbeats 4000000 in
set_option maxRecDepth 100000 in
theorem c_L_want (l : Launch) (hlx : l.stackTraces = false) (G : zG) (hG : zok G) (S : zM) (z : Int) (hz_ : -2147483648 ≤ z ∧ z ≤ 2147483647) (w : Int) (hw_ : -2147483648 ≤ w ∧ w ≤ 2147483647) (hnx : 0 ≤ S 8 1 2 ∧ S 8 1 2 ≤ 600) (hsz : 0 ≤ S 8 1 1 ∧ S 8 1 1 ≤ 6) (hms : zMs S 0) (hw : zW (S 0 0))  : vx_Met l yL_want (Cond.codeWith yL_want cL_want 5 (some FieldType.int) [(0, 10, 13, 20), (0, 10, 17, 13)] :: zTbl) r_L_want (va_Pc [.ref (za G 8 0), .int (zI z), .int (zI w), .ref (za G 8 5)] (zBX G S)) (va_Qi (q_L_want S z w) (zB G) (zA G)) (zXC G (fun _ => False) (fun _ => False)) 1 6 (zA G) := by
  refine zXMetH [(0, .ref (za G 8 0)), (1, .int (zI z)), (2, .int (zI w)), (3, .ref (za G 8 5))] hG (by decide) (Nat.le_of_ble_eq_true rfl) rfl (fun p e s m args below meth c ls h hX hT hx hb hr hH hl => ?_)
  refine lv_aload_n hx hb dL_want_0 rfl (lv_at hl 3 rfl) ?_
  refine zb_ic h dL_want_1 ?_
  refine lv_aload_n hx hb dL_want_2 rfl (lv_at hl 0 rfl) ?_
  refine lv_iload_n hx hb dL_want_3 rfl (lv_at hl 1 rfl) ?_
  refine lv_iload_n hx hb dL_want_4 rfl (lv_at hl 2 rfl) ?_
  refine zcXV h hX hH (zr_4 h hH) (As := [.int (zI z), .int (zI w)]) (rest := [.int (zI 0), .ref (za G 8 5)]) (c_X4_want l hlx G hG S z hz_ w hw_ hnx hsz hms hw) zce_X4_want zcv_X4_want zm_L_17 hl.1 rfl rfl ⟨rfl, rfl⟩ ⟨Nat.le_of_ble_eq_true rfl, Nat.le_of_ble_eq_true rfl⟩ (Nat.le_of_ble_eq_true rfl) ⟨Nat.le_of_ble_eq_true rfl, Nat.le_of_ble_eq_true rfl⟩ dL_want_5 (fun E ce q9 S1 H locs hp hf hH hc1 hc2 hc3 => ?_) (fun r_5 S_5 H locs hq hH => ?_)
  · have hp : S1 = S := hp
    rw [hp] at hH
    unfold x_X4_want at hf
    rcases hf with ⟨rfl, hf⟩ | ⟨rfl, hf⟩
    · refine zct1 h hX ⟨0, 10, 13, 20⟩ _ hT (by decide) (by decide) zl_L_20 zxl_IO hc1 hc2 hc3 ?_
      refine lv_astore (lv' := [(4, .ref q9), (0, .ref (za G 8 0)), (1, .int (zI z)), (2, .int (zI w)), (3, .ref (za G 8 5))]) hx hb dL_want_13 hl (by decide) rfl (fun ls hl => ?_)
      refine zb_ic h dL_want_15 ?_
      refine vx_ret ?_
      refine zri h hr hH ?_ dL_want_16
      exact Or.inl ⟨show x_X4_want S z w "java/lang/IndexOutOfBoundsException" from (Or.inl ⟨rfl, hf⟩), rfl, rfl⟩
    · refine zct2 h hX ⟨0, 10, 13, 20⟩ ⟨0, 10, 17, 13⟩ _ hT (by decide) zl_L_20 znc_IA_IO (by decide) (by decide) zl_L_13 zxl_IA hc1 hc2 hc3 ?_
      refine lv_astore (lv' := [(4, .ref q9), (0, .ref (za G 8 0)), (1, .int (zI z)), (2, .int (zI w)), (3, .ref (za G 8 5))]) hx hb dL_want_17 hl (by decide) rfl (fun ls hl => ?_)
      refine zb_ic h dL_want_19 ?_
      refine vx_ret ?_
      refine zri h hr hH ?_ dL_want_20
      exact Or.inr (Or.inl ⟨show x_X4_want S z w "java/lang/IllegalArgumentException" from (Or.inr ⟨rfl, hf⟩), rfl, rfl⟩)
  · obtain ⟨v_5, hv1, hv2, rfl⟩ := zI_of r_5
    refine zb_i2l h (by omega) dL_want_8 ?_
    refine zout_st h hH dL_want_9 (fun H locs hH => ?_)
    refine lv_goto (tgt := 21) hx hb dL_want_10 (by decide) ?_
    refine zb_ic h dL_want_21 ?_
    refine vx_ret ?_
    refine zri h hr hH ?_ dL_want_22
    exact Or.inr (Or.inr (⟨rfl, _, _, ⟨hv1, hv2⟩, hq, rfl⟩))
theorem dL_link_0 : decode cL_link 0 = .ok (.aload_n 3, 1) := by decide +kernel
theorem dL_link_1 : decode cL_link 1 = .ok (.iconst 0, 1) := by decide +kernel
theorem dL_link_2 : decode cL_link 2 = .ok (.aload_n 0, 1) := by decide +kernel
theorem dL_link_3 : decode cL_link 3 = .ok (.iload_n 1, 1) := by decide +kernel
theorem dL_link_4 : decode cL_link 4 = .ok (.iload_n 2, 1) := by decide +kernel
theorem dL_link_5 : decode cL_link 5 = .ok (.invokevirtual 22, 3) := by decide +kernel
theorem dL_link_8 : decode cL_link 8 = .ok (.i2l, 1) := by decide +kernel
theorem dL_link_9 : decode cL_link 9 = .ok (.lastore, 1) := by decide +kernel
theorem dL_link_10 : decode cL_link 10 = .ok (.goto 11, 3) := by decide +kernel
theorem dL_link_13 : decode cL_link 13 = .ok (.astore 4, 2) := by decide +kernel
theorem dL_link_15 : decode cL_link 15 = .ok (.iconst 1, 1) := by decide +kernel
theorem dL_link_16 : decode cL_link 16 = .ok (.ireturn, 1) := by decide +kernel
theorem dL_link_17 : decode cL_link 17 = .ok (.astore 4, 2) := by decide +kernel
theorem dL_link_19 : decode cL_link 19 = .ok (.iconst 2, 1) := by decide +kernel
theorem dL_link_20 : decode cL_link 20 = .ok (.ireturn, 1) := by decide +kernel
theorem dL_link_21 : decode cL_link 21 = .ok (.iconst 0, 1) := by decide +kernel
theorem dL_link_22 : decode cL_link 22 = .ok (.ireturn, 1) := by decide +kernel
def q_L_link (S : zM) (a : Int) (b : Int) : Int32 → zM → Prop := fun r S1 => (x_X4_link S a b "java/lang/IndexOutOfBoundsException" ∧ r = zI 1 ∧ S = S1) ∨ (x_X4_link S a b "java/lang/IllegalArgumentException" ∧ r = zI 2 ∧ S = S1) ∨ (r = zI 0 ∧ ∃ (y9 : Int) (S2 : zM), (-2147483648 ≤ y9 ∧ y9 ≤ 2147483647) ∧ q_X4_link S a b (zI y9) S2 ∧ zs S2 8 5 0 y9 = S1)
def r_L_link : Room := { frames := 7, cells := 1, slots := 6, locals := 115 }
set_option maxHeartbeats 4000000 in
set_option maxRecDepth 100000 in
theorem c_L_link (l : Launch) (hlx : l.stackTraces = false) (G : zG) (hG : zok G) (S : zM) (a : Int) (ha_ : -2147483648 ≤ a ∧ a ≤ 2147483647) (b : Int) (hb_ : -2147483648 ≤ b ∧ b ≤ 2147483647) (hnx : 0 ≤ S 8 1 2 ∧ S 8 1 2 ≤ 600) (hsz : 0 ≤ S 8 1 1 ∧ S 8 1 1 ≤ 6) (hms : zMs S 0) (hw : zW (S 0 0))  : vx_Met l yL_link (Cond.codeWith yL_link cL_link 5 (some FieldType.int) [(0, 10, 13, 20), (0, 10, 17, 13)] :: zTbl) r_L_link (va_Pc [.ref (za G 8 0), .int (zI a), .int (zI b), .ref (za G 8 5)] (zBX G S)) (va_Qi (q_L_link S a b) (zB G) (zA G)) (zXC G (fun _ => False) (fun _ => False)) 1 6 (zA G) := by
  refine zXMetH [(0, .ref (za G 8 0)), (1, .int (zI a)), (2, .int (zI b)), (3, .ref (za G 8 5))] hG (by decide) (Nat.le_of_ble_eq_true rfl) rfl (fun p e s m args below meth c ls h hX hT hx hb hr hH hl => ?_)
  refine lv_aload_n hx hb dL_link_0 rfl (lv_at hl 3 rfl) ?_
  refine zb_ic h dL_link_1 ?_
  refine lv_aload_n hx hb dL_link_2 rfl (lv_at hl 0 rfl) ?_
  refine lv_iload_n hx hb dL_link_3 rfl (lv_at hl 1 rfl) ?_
  refine lv_iload_n hx hb dL_link_4 rfl (lv_at hl 2 rfl) ?_
  refine zcXV h hX hH (zr_4 h hH) (As := [.int (zI a), .int (zI b)]) (rest := [.int (zI 0), .ref (za G 8 5)]) (c_X4_link l hlx G hG S a ha_ b hb_ hnx hsz hms hw) zce_X4_link zcv_X4_link zm_L_22 hl.1 rfl rfl ⟨rfl, rfl⟩ ⟨Nat.le_of_ble_eq_true rfl, Nat.le_of_ble_eq_true rfl⟩ (Nat.le_of_ble_eq_true rfl) ⟨Nat.le_of_ble_eq_true rfl, Nat.le_of_ble_eq_true rfl⟩ dL_link_5 (fun E ce q9 S1 H locs hp hf hH hc1 hc2 hc3 => ?_) (fun r_5 S_5 H locs hq hH => ?_)
  · have hp : S1 = S := hp
    rw [hp] at hH
    unfold x_X4_link at hf
    rcases hf with ⟨rfl, hf⟩ | ⟨rfl, hf⟩
    · refine zct1 h hX ⟨0, 10, 13, 20⟩ _ hT (by decide) (by decide) zl_L_20 zxl_IO hc1 hc2 hc3 ?_
      refine lv_astore (lv' := [(4, .ref q9), (0, .ref (za G 8 0)), (1, .int (zI a)), (2, .int (zI b)), (3, .ref (za G 8 5))]) hx hb dL_link_13 hl (by decide) rfl (fun ls hl => ?_)
      refine zb_ic h dL_link_15 ?_
      refine vx_ret ?_
      refine zri h hr hH ?_ dL_link_16
      exact Or.inl ⟨show x_X4_link S a b "java/lang/IndexOutOfBoundsException" from (Or.inl ⟨rfl, hf⟩), rfl, rfl⟩
    · refine zct2 h hX ⟨0, 10, 13, 20⟩ ⟨0, 10, 17, 13⟩ _ hT (by decide) zl_L_20 znc_IA_IO (by decide) (by decide) zl_L_13 zxl_IA hc1 hc2 hc3 ?_
      refine lv_astore (lv' := [(4, .ref q9), (0, .ref (za G 8 0)), (1, .int (zI a)), (2, .int (zI b)), (3, .ref (za G 8 5))]) hx hb dL_link_17 hl (by decide) rfl (fun ls hl => ?_)
      refine zb_ic h dL_link_19 ?_
      refine vx_ret ?_
      refine zri h hr hH ?_ dL_link_20
      exact Or.inr (Or.inl ⟨show x_X4_link S a b "java/lang/IllegalArgumentException" from (Or.inr ⟨rfl, hf⟩), rfl, rfl⟩)
  · obtain ⟨v_5, hv1, hv2, rfl⟩ := zI_of r_5
    refine zb_i2l h (by omega) dL_link_8 ?_
    refine zout_st h hH dL_link_9 (fun H locs hH => ?_)
    refine lv_goto (tgt := 21) hx hb dL_link_10 (by decide) ?_
    refine zb_ic h dL_link_21 ?_
    refine vx_ret ?_
    refine zri h hr hH ?_ dL_link_22
    exact Or.inr (Or.inr (⟨rfl, _, _, ⟨hv1, hv2⟩, hq, rfl⟩))
theorem dL_expose_0 : decode cL_expose 0 = .ok (.aload_n 2, 1) := by decide +kernel
theorem dL_expose_1 : decode cL_expose 1 = .ok (.iconst 0, 1) := by decide +kernel
theorem dL_expose_2 : decode cL_expose 2 = .ok (.aload_n 0, 1) := by decide +kernel
theorem dL_expose_3 : decode cL_expose 3 = .ok (.iload_n 1, 1) := by decide +kernel
theorem dL_expose_4 : decode cL_expose 4 = .ok (.invokevirtual 25, 3) := by decide +kernel
theorem dL_expose_7 : decode cL_expose 7 = .ok (.i2l, 1) := by decide +kernel
theorem dL_expose_8 : decode cL_expose 8 = .ok (.lastore, 1) := by decide +kernel
theorem dL_expose_9 : decode cL_expose 9 = .ok (.goto 6, 3) := by decide +kernel
theorem dL_expose_12 : decode cL_expose 12 = .ok (.astore_n 3, 1) := by decide +kernel
theorem dL_expose_13 : decode cL_expose 13 = .ok (.iconst 1, 1) := by decide +kernel
theorem dL_expose_14 : decode cL_expose 14 = .ok (.ireturn, 1) := by decide +kernel
theorem dL_expose_15 : decode cL_expose 15 = .ok (.iconst 0, 1) := by decide +kernel
theorem dL_expose_16 : decode cL_expose 16 = .ok (.ireturn, 1) := by decide +kernel
def q_L_expose (S : zM) (t : Int) : Int32 → zM → Prop := fun r S1 => (x_X4_expose S t "java/lang/IllegalArgumentException" ∧ r = zI 1 ∧ S = S1) ∨ (r = zI 0 ∧ ∃ (y9 : Int) (S2 : zM), (-2147483648 ≤ y9 ∧ y9 ≤ 2147483647) ∧ q_X4_expose S t (zI y9) S2 ∧ zs S2 8 5 0 y9 = S1)
def r_L_expose : Room := { frames := 7, cells := 1, slots := 6, locals := 113 }
set_option maxHeartbeats 4000000 in
set_option maxRecDepth 100000 in
theorem c_L_expose (l : Launch) (hlx : l.stackTraces = false) (G : zG) (hG : zok G) (S : zM) (t : Int) (ht_ : -2147483648 ≤ t ∧ t ≤ 2147483647) (hnx : 0 ≤ S 8 1 2 ∧ S 8 1 2 ≤ 600) (hsz : 0 ≤ S 8 1 1 ∧ S 8 1 1 ≤ 6) (hms : zMs S 0) (hw : zW (S 0 0))  : vx_Met l yL_expose (Cond.codeWith yL_expose cL_expose 4 (some FieldType.int) [(0, 9, 12, 13)] :: zTbl) r_L_expose (va_Pc [.ref (za G 8 0), .int (zI t), .ref (za G 8 5)] (zBX G S)) (va_Qi (q_L_expose S t) (zB G) (zA G)) (zXC G (fun _ => False) (fun _ => False)) 1 6 (zA G) := by
  refine zXMetH [(0, .ref (za G 8 0)), (1, .int (zI t)), (2, .ref (za G 8 5))] hG (by decide) (Nat.le_of_ble_eq_true rfl) rfl (fun p e s m args below meth c ls h hX hT hx hb hr hH hl => ?_)
  refine lv_aload_n hx hb dL_expose_0 rfl (lv_at hl 2 rfl) ?_
  refine zb_ic h dL_expose_1 ?_
  refine lv_aload_n hx hb dL_expose_2 rfl (lv_at hl 0 rfl) ?_
  refine lv_iload_n hx hb dL_expose_3 rfl (lv_at hl 1 rfl) ?_
  refine zcXV h hX hH (zr_4 h hH) (As := [.int (zI t)]) (rest := [.int (zI 0), .ref (za G 8 5)]) (c_X4_expose l hlx G hG S t ht_ hnx hsz hms hw) zce_X4_expose zcv_X4_expose zm_L_25 hl.1 rfl rfl ⟨rfl, rfl⟩ ⟨Nat.le_of_ble_eq_true rfl, Nat.le_of_ble_eq_true rfl⟩ (Nat.le_of_ble_eq_true rfl) ⟨Nat.le_of_ble_eq_true rfl, Nat.le_of_ble_eq_true rfl⟩ dL_expose_4 (fun E ce q9 S1 H locs hp hf hH hc1 hc2 hc3 => ?_) (fun r_4 S_4 H locs hq hH => ?_)
  · have hp : S1 = S := hp
    rw [hp] at hH
    unfold x_X4_expose at hf
    rcases hf with ⟨rfl, hf⟩
    · refine zct1 h hX ⟨0, 9, 12, 13⟩ _ hT (by decide) (by decide) zl_L_13 zxl_IA hc1 hc2 hc3 ?_
      refine lv_astore_n (lv' := [(3, .ref q9), (0, .ref (za G 8 0)), (1, .int (zI t)), (2, .ref (za G 8 5))]) hx hb dL_expose_12 rfl hl (by decide) rfl (fun ls hl => ?_)
      refine zb_ic h dL_expose_13 ?_
      refine vx_ret ?_
      refine zri h hr hH ?_ dL_expose_14
      exact Or.inl ⟨show x_X4_expose S t "java/lang/IllegalArgumentException" from ⟨rfl, hf⟩, rfl, rfl⟩
  · obtain ⟨v_4, hv1, hv2, rfl⟩ := zI_of r_4
    refine zb_i2l h (by omega) dL_expose_7 ?_
    refine zout_st h hH dL_expose_8 (fun H locs hH => ?_)
    refine lv_goto (tgt := 15) hx hb dL_expose_9 (by decide) ?_
    refine zb_ic h dL_expose_15 ?_
    refine vx_ret ?_
    refine zri h hr hH ?_ dL_expose_16
    exact Or.inr (⟨rfl, _, _, ⟨hv1, hv2⟩, hq, rfl⟩)
theorem dL_burn_0 : decode cL_burn 0 = .ok (.aload_n 3, 1) := by decide +kernel
theorem dL_burn_1 : decode cL_burn 1 = .ok (.iconst 0, 1) := by decide +kernel
theorem dL_burn_2 : decode cL_burn 2 = .ok (.aload_n 0, 1) := by decide +kernel
theorem dL_burn_3 : decode cL_burn 3 = .ok (.iload_n 1, 1) := by decide +kernel
theorem dL_burn_4 : decode cL_burn 4 = .ok (.iload_n 2, 1) := by decide +kernel
theorem dL_burn_5 : decode cL_burn 5 = .ok (.invokevirtual 29, 3) := by decide +kernel
theorem dL_burn_8 : decode cL_burn 8 = .ok (.i2l, 1) := by decide +kernel
theorem dL_burn_9 : decode cL_burn 9 = .ok (.lastore, 1) := by decide +kernel
theorem dL_burn_10 : decode cL_burn 10 = .ok (.goto 11, 3) := by decide +kernel
theorem dL_burn_13 : decode cL_burn 13 = .ok (.astore 4, 2) := by decide +kernel
theorem dL_burn_15 : decode cL_burn 15 = .ok (.iconst 1, 1) := by decide +kernel
theorem dL_burn_16 : decode cL_burn 16 = .ok (.ireturn, 1) := by decide +kernel
theorem dL_burn_17 : decode cL_burn 17 = .ok (.astore 4, 2) := by decide +kernel
theorem dL_burn_19 : decode cL_burn 19 = .ok (.iconst 2, 1) := by decide +kernel
theorem dL_burn_20 : decode cL_burn 20 = .ok (.ireturn, 1) := by decide +kernel
theorem dL_burn_21 : decode cL_burn 21 = .ok (.iconst 0, 1) := by decide +kernel
theorem dL_burn_22 : decode cL_burn 22 = .ok (.ireturn, 1) := by decide +kernel
def q_L_burn (S : zM) (z : Int) (t : Int) : Int32 → zM → Prop := fun r S1 => (x_X4_burn S z t "java/lang/IndexOutOfBoundsException" ∧ r = zI 1 ∧ S = S1) ∨ (x_X4_burn S z t "java/lang/IllegalArgumentException" ∧ r = zI 2 ∧ S = S1) ∨ (r = zI 0 ∧ ∃ (y9 : Int) (S2 : zM), (-2147483648 ≤ y9 ∧ y9 ≤ 2147483647) ∧ q_X4_burn S z t (zI y9) S2 ∧ zs S2 8 5 0 y9 = S1)
def r_L_burn : Room := { frames := 7, cells := 1, slots := 6, locals := 114 }
set_option maxHeartbeats 4000000 in
set_option maxRecDepth 100000 in
theorem c_L_burn (l : Launch) (hlx : l.stackTraces = false) (G : zG) (hG : zok G) (S : zM) (z : Int) (hz_ : -2147483648 ≤ z ∧ z ≤ 2147483647) (t : Int) (ht_ : -2147483648 ≤ t ∧ t ≤ 2147483647) (hnx : 0 ≤ S 8 1 2 ∧ S 8 1 2 ≤ 600) (hsz : 0 ≤ S 8 1 1 ∧ S 8 1 1 ≤ 6) (hms : zMs S 0) (hw : zW (S 0 0))  : vx_Met l yL_burn (Cond.codeWith yL_burn cL_burn 5 (some FieldType.int) [(0, 10, 13, 20), (0, 10, 17, 13)] :: zTbl) r_L_burn (va_Pc [.ref (za G 8 0), .int (zI z), .int (zI t), .ref (za G 8 5)] (zBX G S)) (va_Qi (q_L_burn S z t) (zB G) (zA G)) (zXC G (fun _ => False) (fun _ => False)) 1 6 (zA G) := by
  refine zXMetH [(0, .ref (za G 8 0)), (1, .int (zI z)), (2, .int (zI t)), (3, .ref (za G 8 5))] hG (by decide) (Nat.le_of_ble_eq_true rfl) rfl (fun p e s m args below meth c ls h hX hT hx hb hr hH hl => ?_)
  refine lv_aload_n hx hb dL_burn_0 rfl (lv_at hl 3 rfl) ?_
  refine zb_ic h dL_burn_1 ?_
  refine lv_aload_n hx hb dL_burn_2 rfl (lv_at hl 0 rfl) ?_
  refine lv_iload_n hx hb dL_burn_3 rfl (lv_at hl 1 rfl) ?_
  refine lv_iload_n hx hb dL_burn_4 rfl (lv_at hl 2 rfl) ?_
  refine zcXV h hX hH (zr_4 h hH) (As := [.int (zI z), .int (zI t)]) (rest := [.int (zI 0), .ref (za G 8 5)]) (c_X4_burn l hlx G hG S z hz_ t ht_ hnx hsz hms hw) zce_X4_burn zcv_X4_burn zm_L_29 hl.1 rfl rfl ⟨rfl, rfl⟩ ⟨Nat.le_of_ble_eq_true rfl, Nat.le_of_ble_eq_true rfl⟩ (Nat.le_of_ble_eq_true rfl) ⟨Nat.le_of_ble_eq_true rfl, Nat.le_of_ble_eq_true rfl⟩ dL_burn_5 (fun E ce q9 S1 H locs hp hf hH hc1 hc2 hc3 => ?_) (fun r_5 S_5 H locs hq hH => ?_)
  · have hp : S1 = S := hp
    rw [hp] at hH
    unfold x_X4_burn at hf
    rcases hf with ⟨rfl, hf⟩ | ⟨rfl, hf⟩
    · refine zct1 h hX ⟨0, 10, 13, 20⟩ _ hT (by decide) (by decide) zl_L_20 zxl_IO hc1 hc2 hc3 ?_
      refine lv_astore (lv' := [(4, .ref q9), (0, .ref (za G 8 0)), (1, .int (zI z)), (2, .int (zI t)), (3, .ref (za G 8 5))]) hx hb dL_burn_13 hl (by decide) rfl (fun ls hl => ?_)
      refine zb_ic h dL_burn_15 ?_
      refine vx_ret ?_
      refine zri h hr hH ?_ dL_burn_16
      exact Or.inl ⟨show x_X4_burn S z t "java/lang/IndexOutOfBoundsException" from (Or.inl ⟨rfl, hf⟩), rfl, rfl⟩
    · refine zct2 h hX ⟨0, 10, 13, 20⟩ ⟨0, 10, 17, 13⟩ _ hT (by decide) zl_L_20 znc_IA_IO (by decide) (by decide) zl_L_13 zxl_IA hc1 hc2 hc3 ?_
      refine lv_astore (lv' := [(4, .ref q9), (0, .ref (za G 8 0)), (1, .int (zI z)), (2, .int (zI t)), (3, .ref (za G 8 5))]) hx hb dL_burn_17 hl (by decide) rfl (fun ls hl => ?_)
      refine zb_ic h dL_burn_19 ?_
      refine vx_ret ?_
      refine zri h hr hH ?_ dL_burn_20
      exact Or.inr (Or.inl ⟨show x_X4_burn S z t "java/lang/IllegalArgumentException" from (Or.inr ⟨rfl, hf⟩), rfl, rfl⟩)
  · obtain ⟨v_5, hv1, hv2, rfl⟩ := zI_of r_5
    refine zb_i2l h (by omega) dL_burn_8 ?_
    refine zout_st h hH dL_burn_9 (fun H locs hH => ?_)
    refine lv_goto (tgt := 21) hx hb dL_burn_10 (by decide) ?_
    refine zb_ic h dL_burn_21 ?_
    refine vx_ret ?_
    refine zri h hr hH ?_ dL_burn_22
    exact Or.inr (Or.inr (⟨rfl, _, _, ⟨hv1, hv2⟩, hq, rfl⟩))
theorem dL_hold_0 : decode cL_hold 0 = .ok (.aload_n 3, 1) := by decide +kernel
theorem dL_hold_1 : decode cL_hold 1 = .ok (.iconst 0, 1) := by decide +kernel
theorem dL_hold_2 : decode cL_hold 2 = .ok (.aload_n 0, 1) := by decide +kernel
theorem dL_hold_3 : decode cL_hold 3 = .ok (.iload_n 1, 1) := by decide +kernel
theorem dL_hold_4 : decode cL_hold 4 = .ok (.iload_n 2, 1) := by decide +kernel
theorem dL_hold_5 : decode cL_hold 5 = .ok (.invokevirtual 32, 3) := by decide +kernel
theorem dL_hold_8 : decode cL_hold 8 = .ok (.i2l, 1) := by decide +kernel
theorem dL_hold_9 : decode cL_hold 9 = .ok (.lastore, 1) := by decide +kernel
theorem dL_hold_10 : decode cL_hold 10 = .ok (.goto 11, 3) := by decide +kernel
theorem dL_hold_13 : decode cL_hold 13 = .ok (.astore 4, 2) := by decide +kernel
theorem dL_hold_15 : decode cL_hold 15 = .ok (.iconst 1, 1) := by decide +kernel
theorem dL_hold_16 : decode cL_hold 16 = .ok (.ireturn, 1) := by decide +kernel
theorem dL_hold_17 : decode cL_hold 17 = .ok (.astore 4, 2) := by decide +kernel
theorem dL_hold_19 : decode cL_hold 19 = .ok (.iconst 2, 1) := by decide +kernel
theorem dL_hold_20 : decode cL_hold 20 = .ok (.ireturn, 1) := by decide +kernel
theorem dL_hold_21 : decode cL_hold 21 = .ok (.iconst 0, 1) := by decide +kernel
theorem dL_hold_22 : decode cL_hold 22 = .ok (.ireturn, 1) := by decide +kernel
def q_L_hold (S : zM) (z : Int) (t : Int) : Int32 → zM → Prop := fun r S1 => (x_X4_hold S z t "java/lang/IndexOutOfBoundsException" ∧ r = zI 1 ∧ S = S1) ∨ (x_X4_hold S z t "java/lang/IllegalArgumentException" ∧ r = zI 2 ∧ S = S1) ∨ (r = zI 0 ∧ ∃ (y9 : Int) (S2 : zM), (-2147483648 ≤ y9 ∧ y9 ≤ 2147483647) ∧ q_X4_hold S z t (zI y9) S2 ∧ zs S2 8 5 0 y9 = S1)
def r_L_hold : Room := { frames := 7, cells := 1, slots := 6, locals := 114 }
set_option maxHeartbeats 4000000 in
set_option maxRecDepth 100000 in
theorem c_L_hold (l : Launch) (hlx : l.stackTraces = false) (G : zG) (hG : zok G) (S : zM) (z : Int) (hz_ : -2147483648 ≤ z ∧ z ≤ 2147483647) (t : Int) (ht_ : -2147483648 ≤ t ∧ t ≤ 2147483647) (hnx : 0 ≤ S 8 1 2 ∧ S 8 1 2 ≤ 600) (hsz : 0 ≤ S 8 1 1 ∧ S 8 1 1 ≤ 6) (hms : zMs S 0) (hw : zW (S 0 0))  : vx_Met l yL_hold (Cond.codeWith yL_hold cL_hold 5 (some FieldType.int) [(0, 10, 13, 20), (0, 10, 17, 13)] :: zTbl) r_L_hold (va_Pc [.ref (za G 8 0), .int (zI z), .int (zI t), .ref (za G 8 5)] (zBX G S)) (va_Qi (q_L_hold S z t) (zB G) (zA G)) (zXC G (fun _ => False) (fun _ => False)) 1 6 (zA G) := by
  refine zXMetH [(0, .ref (za G 8 0)), (1, .int (zI z)), (2, .int (zI t)), (3, .ref (za G 8 5))] hG (by decide) (Nat.le_of_ble_eq_true rfl) rfl (fun p e s m args below meth c ls h hX hT hx hb hr hH hl => ?_)
  refine lv_aload_n hx hb dL_hold_0 rfl (lv_at hl 3 rfl) ?_
  refine zb_ic h dL_hold_1 ?_
  refine lv_aload_n hx hb dL_hold_2 rfl (lv_at hl 0 rfl) ?_
  refine lv_iload_n hx hb dL_hold_3 rfl (lv_at hl 1 rfl) ?_
  refine lv_iload_n hx hb dL_hold_4 rfl (lv_at hl 2 rfl) ?_
  refine zcXV h hX hH (zr_4 h hH) (As := [.int (zI z), .int (zI t)]) (rest := [.int (zI 0), .ref (za G 8 5)]) (c_X4_hold l hlx G hG S z hz_ t ht_ hnx hsz hms hw) zce_X4_hold zcv_X4_hold zm_L_32 hl.1 rfl rfl ⟨rfl, rfl⟩ ⟨Nat.le_of_ble_eq_true rfl, Nat.le_of_ble_eq_true rfl⟩ (Nat.le_of_ble_eq_true rfl) ⟨Nat.le_of_ble_eq_true rfl, Nat.le_of_ble_eq_true rfl⟩ dL_hold_5 (fun E ce q9 S1 H locs hp hf hH hc1 hc2 hc3 => ?_) (fun r_5 S_5 H locs hq hH => ?_)
  · have hp : S1 = S := hp
    rw [hp] at hH
    unfold x_X4_hold at hf
    rcases hf with ⟨rfl, hf⟩ | ⟨rfl, hf⟩
    · refine zct1 h hX ⟨0, 10, 13, 20⟩ _ hT (by decide) (by decide) zl_L_20 zxl_IO hc1 hc2 hc3 ?_
      refine lv_astore (lv' := [(4, .ref q9), (0, .ref (za G 8 0)), (1, .int (zI z)), (2, .int (zI t)), (3, .ref (za G 8 5))]) hx hb dL_hold_13 hl (by decide) rfl (fun ls hl => ?_)
      refine zb_ic h dL_hold_15 ?_
      refine vx_ret ?_
      refine zri h hr hH ?_ dL_hold_16
      exact Or.inl ⟨show x_X4_hold S z t "java/lang/IndexOutOfBoundsException" from (Or.inl ⟨rfl, hf⟩), rfl, rfl⟩
    · refine zct2 h hX ⟨0, 10, 13, 20⟩ ⟨0, 10, 17, 13⟩ _ hT (by decide) zl_L_20 znc_IA_IO (by decide) (by decide) zl_L_13 zxl_IA hc1 hc2 hc3 ?_
      refine lv_astore (lv' := [(4, .ref q9), (0, .ref (za G 8 0)), (1, .int (zI z)), (2, .int (zI t)), (3, .ref (za G 8 5))]) hx hb dL_hold_17 hl (by decide) rfl (fun ls hl => ?_)
      refine zb_ic h dL_hold_19 ?_
      refine vx_ret ?_
      refine zri h hr hH ?_ dL_hold_20
      exact Or.inr (Or.inl ⟨show x_X4_hold S z t "java/lang/IllegalArgumentException" from (Or.inr ⟨rfl, hf⟩), rfl, rfl⟩)
  · obtain ⟨v_5, hv1, hv2, rfl⟩ := zI_of r_5
    refine zb_i2l h (by omega) dL_hold_8 ?_
    refine zout_st h hH dL_hold_9 (fun H locs hH => ?_)
    refine lv_goto (tgt := 21) hx hb dL_hold_10 (by decide) ?_
    refine zb_ic h dL_hold_21 ?_
    refine vx_ret ?_
    refine zri h hr hH ?_ dL_hold_22
    exact Or.inr (Or.inr (⟨rfl, _, _, ⟨hv1, hv2⟩, hq, rfl⟩))
theorem dL_paper_0 : decode cL_paper 0 = .ok (.aload_n 3, 1) := by decide +kernel
theorem dL_paper_1 : decode cL_paper 1 = .ok (.iconst 0, 1) := by decide +kernel
theorem dL_paper_2 : decode cL_paper 2 = .ok (.aload_n 0, 1) := by decide +kernel
theorem dL_paper_3 : decode cL_paper 3 = .ok (.iload_n 1, 1) := by decide +kernel
theorem dL_paper_4 : decode cL_paper 4 = .ok (.iload_n 2, 1) := by decide +kernel
theorem dL_paper_5 : decode cL_paper 5 = .ok (.invokevirtual 35, 3) := by decide +kernel
theorem dL_paper_8 : decode cL_paper 8 = .ok (.i2l, 1) := by decide +kernel
theorem dL_paper_9 : decode cL_paper 9 = .ok (.lastore, 1) := by decide +kernel
theorem dL_paper_10 : decode cL_paper 10 = .ok (.goto 7, 3) := by decide +kernel
theorem dL_paper_13 : decode cL_paper 13 = .ok (.astore 4, 2) := by decide +kernel
theorem dL_paper_15 : decode cL_paper 15 = .ok (.iconst 1, 1) := by decide +kernel
theorem dL_paper_16 : decode cL_paper 16 = .ok (.ireturn, 1) := by decide +kernel
theorem dL_paper_17 : decode cL_paper 17 = .ok (.iconst 0, 1) := by decide +kernel
theorem dL_paper_18 : decode cL_paper 18 = .ok (.ireturn, 1) := by decide +kernel
def q_L_paper (S : zM) (g : Int) (v : Int) : Int32 → zM → Prop := fun r S1 => (x_X4_paper S g v "java/lang/IllegalArgumentException" ∧ r = zI 1 ∧ S = S1) ∨ (r = zI 0 ∧ ∃ (y9 : Int) (S2 : zM), (-2147483648 ≤ y9 ∧ y9 ≤ 2147483647) ∧ q_X4_paper S g v (zI y9) S2 ∧ zs S2 8 5 0 y9 = S1)
def r_L_paper : Room := { frames := 7, cells := 1, slots := 6, locals := 114 }
set_option maxHeartbeats 4000000 in
set_option maxRecDepth 100000 in
theorem c_L_paper (l : Launch) (hlx : l.stackTraces = false) (G : zG) (hG : zok G) (S : zM) (g : Int) (hg_ : -2147483648 ≤ g ∧ g ≤ 2147483647) (v : Int) (hv_ : -2147483648 ≤ v ∧ v ≤ 2147483647) (hnx : 0 ≤ S 8 1 2 ∧ S 8 1 2 ≤ 600) (hsz : 0 ≤ S 8 1 1 ∧ S 8 1 1 ≤ 6) (hms : zMs S 0) (hw : zW (S 0 0))  : vx_Met l yL_paper (Cond.codeWith yL_paper cL_paper 5 (some FieldType.int) [(0, 10, 13, 13)] :: zTbl) r_L_paper (va_Pc [.ref (za G 8 0), .int (zI g), .int (zI v), .ref (za G 8 5)] (zBX G S)) (va_Qi (q_L_paper S g v) (zB G) (zA G)) (zXC G (fun _ => False) (fun _ => False)) 1 6 (zA G) := by
  refine zXMetH [(0, .ref (za G 8 0)), (1, .int (zI g)), (2, .int (zI v)), (3, .ref (za G 8 5))] hG (by decide) (Nat.le_of_ble_eq_true rfl) rfl (fun p e s m args below meth c ls h hX hT hx hb hr hH hl => ?_)
  refine lv_aload_n hx hb dL_paper_0 rfl (lv_at hl 3 rfl) ?_
  refine zb_ic h dL_paper_1 ?_
  refine lv_aload_n hx hb dL_paper_2 rfl (lv_at hl 0 rfl) ?_
  refine lv_iload_n hx hb dL_paper_3 rfl (lv_at hl 1 rfl) ?_
  refine lv_iload_n hx hb dL_paper_4 rfl (lv_at hl 2 rfl) ?_
  refine zcXV h hX hH (zr_4 h hH) (As := [.int (zI g), .int (zI v)]) (rest := [.int (zI 0), .ref (za G 8 5)]) (c_X4_paper l hlx G hG S g hg_ v hv_ hnx hsz hms hw) zce_X4_paper zcv_X4_paper zm_L_35 hl.1 rfl rfl ⟨rfl, rfl⟩ ⟨Nat.le_of_ble_eq_true rfl, Nat.le_of_ble_eq_true rfl⟩ (Nat.le_of_ble_eq_true rfl) ⟨Nat.le_of_ble_eq_true rfl, Nat.le_of_ble_eq_true rfl⟩ dL_paper_5 (fun E ce q9 S1 H locs hp hf hH hc1 hc2 hc3 => ?_) (fun r_5 S_5 H locs hq hH => ?_)
  · have hp : S1 = S := hp
    rw [hp] at hH
    unfold x_X4_paper at hf
    rcases hf with ⟨rfl, hf⟩
    · refine zct1 h hX ⟨0, 10, 13, 13⟩ _ hT (by decide) (by decide) zl_L_13 zxl_IA hc1 hc2 hc3 ?_
      refine lv_astore (lv' := [(4, .ref q9), (0, .ref (za G 8 0)), (1, .int (zI g)), (2, .int (zI v)), (3, .ref (za G 8 5))]) hx hb dL_paper_13 hl (by decide) rfl (fun ls hl => ?_)
      refine zb_ic h dL_paper_15 ?_
      refine vx_ret ?_
      refine zri h hr hH ?_ dL_paper_16
      exact Or.inl ⟨show x_X4_paper S g v "java/lang/IllegalArgumentException" from ⟨rfl, hf⟩, rfl, rfl⟩
  · obtain ⟨v_5, hv1, hv2, rfl⟩ := zI_of r_5
    refine zb_i2l h (by omega) dL_paper_8 ?_
    refine zout_st h hH dL_paper_9 (fun H locs hH => ?_)
    refine lv_goto (tgt := 17) hx hb dL_paper_10 (by decide) ?_
    refine zb_ic h dL_paper_17 ?_
    refine vx_ret ?_
    refine zri h hr hH ?_ dL_paper_18
    exact Or.inr (⟨rfl, _, _, ⟨hv1, hv2⟩, hq, rfl⟩)
theorem dL_set_0 : decode cL_set 0 = .ok (.aload_n 2, 1) := by decide +kernel
theorem dL_set_1 : decode cL_set 1 = .ok (.iconst 0, 1) := by decide +kernel
theorem dL_set_2 : decode cL_set 2 = .ok (.aload_n 0, 1) := by decide +kernel
theorem dL_set_3 : decode cL_set 3 = .ok (.iload_n 1, 1) := by decide +kernel
theorem dL_set_4 : decode cL_set 4 = .ok (.invokevirtual 38, 3) := by decide +kernel
theorem dL_set_7 : decode cL_set 7 = .ok (.i2l, 1) := by decide +kernel
theorem dL_set_8 : decode cL_set 8 = .ok (.lastore, 1) := by decide +kernel
theorem dL_set_9 : decode cL_set 9 = .ok (.goto 6, 3) := by decide +kernel
theorem dL_set_12 : decode cL_set 12 = .ok (.astore_n 3, 1) := by decide +kernel
theorem dL_set_13 : decode cL_set 13 = .ok (.iconst 1, 1) := by decide +kernel
theorem dL_set_14 : decode cL_set 14 = .ok (.ireturn, 1) := by decide +kernel
theorem dL_set_15 : decode cL_set 15 = .ok (.iconst 0, 1) := by decide +kernel
theorem dL_set_16 : decode cL_set 16 = .ok (.ireturn, 1) := by decide +kernel
def q_L_set (S : zM) (t : Int) : Int32 → zM → Prop := fun r S1 => (x_X4_set S t "java/lang/IllegalArgumentException" ∧ r = zI 1 ∧ S = S1) ∨ (r = zI 0 ∧ ∃ (y9 : Int) (S2 : zM), (-2147483648 ≤ y9 ∧ y9 ≤ 2147483647) ∧ q_X4_set S t (zI y9) S2 ∧ zs S2 8 5 0 y9 = S1)
def r_L_set : Room := { frames := 7, cells := 1, slots := 6, locals := 114 }
set_option maxHeartbeats 4000000 in
set_option maxRecDepth 100000 in
theorem c_L_set (l : Launch) (hlx : l.stackTraces = false) (G : zG) (hG : zok G) (S : zM) (t : Int) (ht_ : -2147483648 ≤ t ∧ t ≤ 2147483647) (hnx : 0 ≤ S 8 1 2 ∧ S 8 1 2 ≤ 600) (hsz : 0 ≤ S 8 1 1 ∧ S 8 1 1 ≤ 6) (hms : zMs S 0) (hw : zW (S 0 0))  : vx_Met l yL_set (Cond.codeWith yL_set cL_set 4 (some FieldType.int) [(0, 9, 12, 13)] :: zTbl) r_L_set (va_Pc [.ref (za G 8 0), .int (zI t), .ref (za G 8 5)] (zBX G S)) (va_Qi (q_L_set S t) (zB G) (zA G)) (zXC G (fun _ => False) (fun _ => False)) 1 6 (zA G) := by
  refine zXMetH [(0, .ref (za G 8 0)), (1, .int (zI t)), (2, .ref (za G 8 5))] hG (by decide) (Nat.le_of_ble_eq_true rfl) rfl (fun p e s m args below meth c ls h hX hT hx hb hr hH hl => ?_)
  refine lv_aload_n hx hb dL_set_0 rfl (lv_at hl 2 rfl) ?_
  refine zb_ic h dL_set_1 ?_
  refine lv_aload_n hx hb dL_set_2 rfl (lv_at hl 0 rfl) ?_
  refine lv_iload_n hx hb dL_set_3 rfl (lv_at hl 1 rfl) ?_
  refine zcXV h hX hH (zr_4 h hH) (As := [.int (zI t)]) (rest := [.int (zI 0), .ref (za G 8 5)]) (c_X4_set l hlx G hG S t ht_ hnx hsz hms hw) zce_X4_set zcv_X4_set zm_L_38 hl.1 rfl rfl ⟨rfl, rfl⟩ ⟨Nat.le_of_ble_eq_true rfl, Nat.le_of_ble_eq_true rfl⟩ (Nat.le_of_ble_eq_true rfl) ⟨Nat.le_of_ble_eq_true rfl, Nat.le_of_ble_eq_true rfl⟩ dL_set_4 (fun E ce q9 S1 H locs hp hf hH hc1 hc2 hc3 => ?_) (fun r_4 S_4 H locs hq hH => ?_)
  · have hp : S1 = S := hp
    rw [hp] at hH
    unfold x_X4_set at hf
    rcases hf with ⟨rfl, hf⟩
    · refine zct1 h hX ⟨0, 9, 12, 13⟩ _ hT (by decide) (by decide) zl_L_13 zxl_IA hc1 hc2 hc3 ?_
      refine lv_astore_n (lv' := [(3, .ref q9), (0, .ref (za G 8 0)), (1, .int (zI t)), (2, .ref (za G 8 5))]) hx hb dL_set_12 rfl hl (by decide) rfl (fun ls hl => ?_)
      refine zb_ic h dL_set_13 ?_
      refine vx_ret ?_
      refine zri h hr hH ?_ dL_set_14
      exact Or.inl ⟨show x_X4_set S t "java/lang/IllegalArgumentException" from ⟨rfl, hf⟩, rfl, rfl⟩
  · obtain ⟨v_4, hv1, hv2, rfl⟩ := zI_of r_4
    refine zb_i2l h (by omega) dL_set_7 ?_
    refine zout_st h hH dL_set_8 (fun H locs hH => ?_)
    refine lv_goto (tgt := 15) hx hb dL_set_9 (by decide) ?_
    refine zb_ic h dL_set_15 ?_
    refine vx_ret ?_
    refine zri h hr hH ?_ dL_set_16
    exact Or.inr (⟨rfl, _, _, ⟨hv1, hv2⟩, hq, rfl⟩)
theorem dL_append_0 : decode cL_append 0 = .ok (.aload_n 2, 1) := by decide +kernel
theorem dL_append_1 : decode cL_append 1 = .ok (.iconst 0, 1) := by decide +kernel
theorem dL_append_2 : decode cL_append 2 = .ok (.aload_n 0, 1) := by decide +kernel
theorem dL_append_3 : decode cL_append 3 = .ok (.iload_n 1, 1) := by decide +kernel
theorem dL_append_4 : decode cL_append 4 = .ok (.invokevirtual 41, 3) := by decide +kernel
theorem dL_append_7 : decode cL_append 7 = .ok (.i2l, 1) := by decide +kernel
theorem dL_append_8 : decode cL_append 8 = .ok (.lastore, 1) := by decide +kernel
theorem dL_append_9 : decode cL_append 9 = .ok (.goto 9, 3) := by decide +kernel
theorem dL_append_12 : decode cL_append 12 = .ok (.astore_n 3, 1) := by decide +kernel
theorem dL_append_13 : decode cL_append 13 = .ok (.iconst 1, 1) := by decide +kernel
theorem dL_append_14 : decode cL_append 14 = .ok (.ireturn, 1) := by decide +kernel
theorem dL_append_15 : decode cL_append 15 = .ok (.astore_n 3, 1) := by decide +kernel
theorem dL_append_16 : decode cL_append 16 = .ok (.iconst 2, 1) := by decide +kernel
theorem dL_append_17 : decode cL_append 17 = .ok (.ireturn, 1) := by decide +kernel
theorem dL_append_18 : decode cL_append 18 = .ok (.iconst 0, 1) := by decide +kernel
theorem dL_append_19 : decode cL_append 19 = .ok (.ireturn, 1) := by decide +kernel
def q_L_append (S : zM) (t : Int) : Int32 → zM → Prop := fun r S1 => (x_X4_append S t "java/lang/IllegalArgumentException" ∧ r = zI 1 ∧ S = S1) ∨ (x_X4_append S t "java/lang/IllegalStateException" ∧ r = zI 2 ∧ S = S1) ∨ (r = zI 0 ∧ ∃ (y9 : Int) (S2 : zM), (-2147483648 ≤ y9 ∧ y9 ≤ 2147483647) ∧ q_X4_append S t (zI y9) S2 ∧ zs S2 8 5 0 y9 = S1)
def r_L_append : Room := { frames := 7, cells := 1, slots := 6, locals := 103 }
set_option maxHeartbeats 4000000 in
set_option maxRecDepth 100000 in
theorem c_L_append (l : Launch) (hlx : l.stackTraces = false) (G : zG) (hG : zok G) (S : zM) (t : Int) (ht_ : -2147483648 ≤ t ∧ t ≤ 2147483647) (hlen : 0 ≤ S 8 0 5 ∧ S 8 0 5 ≤ 60)  : vx_Met l yL_append (Cond.codeWith yL_append cL_append 4 (some FieldType.int) [(0, 9, 12, 13), (0, 9, 15, 15)] :: zTbl) r_L_append (va_Pc [.ref (za G 8 0), .int (zI t), .ref (za G 8 5)] (zBX G S)) (va_Qi (q_L_append S t) (zB G) (zA G)) (zXC G (fun _ => False) (fun _ => False)) 1 6 (zA G) := by
  refine zXMetH [(0, .ref (za G 8 0)), (1, .int (zI t)), (2, .ref (za G 8 5))] hG (by decide) (Nat.le_of_ble_eq_true rfl) rfl (fun p e s m args below meth c ls h hX hT hx hb hr hH hl => ?_)
  refine lv_aload_n hx hb dL_append_0 rfl (lv_at hl 2 rfl) ?_
  refine zb_ic h dL_append_1 ?_
  refine lv_aload_n hx hb dL_append_2 rfl (lv_at hl 0 rfl) ?_
  refine lv_iload_n hx hb dL_append_3 rfl (lv_at hl 1 rfl) ?_
  refine zcXV h hX hH (zr_4 h hH) (As := [.int (zI t)]) (rest := [.int (zI 0), .ref (za G 8 5)]) (c_X4_append l hlx G hG S t ht_ hlen) zce_X4_append zcv_X4_append zm_L_41 hl.1 rfl rfl ⟨rfl, rfl⟩ ⟨Nat.le_of_ble_eq_true rfl, Nat.le_of_ble_eq_true rfl⟩ (Nat.le_of_ble_eq_true rfl) ⟨Nat.le_of_ble_eq_true rfl, Nat.le_of_ble_eq_true rfl⟩ dL_append_4 (fun E ce q9 S1 H locs hp hf hH hc1 hc2 hc3 => ?_) (fun r_4 S_4 H locs hq hH => ?_)
  · have hp : S1 = S := hp
    rw [hp] at hH
    unfold x_X4_append at hf
    rcases hf with ⟨rfl, hf⟩ | ⟨rfl, hf⟩
    · refine zct1 h hX ⟨0, 9, 12, 13⟩ _ hT (by decide) (by decide) zl_L_13 zxl_IA hc1 hc2 hc3 ?_
      refine lv_astore_n (lv' := [(3, .ref q9), (0, .ref (za G 8 0)), (1, .int (zI t)), (2, .ref (za G 8 5))]) hx hb dL_append_12 rfl hl (by decide) rfl (fun ls hl => ?_)
      refine zb_ic h dL_append_13 ?_
      refine vx_ret ?_
      refine zri h hr hH ?_ dL_append_14
      exact Or.inl ⟨show x_X4_append S t "java/lang/IllegalArgumentException" from (Or.inl ⟨rfl, hf⟩), rfl, rfl⟩
    · refine zct2 h hX ⟨0, 9, 12, 13⟩ ⟨0, 9, 15, 15⟩ _ hT (by decide) zl_L_13 znc_IS_IA (by decide) (by decide) zl_L_15 zxl_IS hc1 hc2 hc3 ?_
      refine lv_astore_n (lv' := [(3, .ref q9), (0, .ref (za G 8 0)), (1, .int (zI t)), (2, .ref (za G 8 5))]) hx hb dL_append_15 rfl hl (by decide) rfl (fun ls hl => ?_)
      refine zb_ic h dL_append_16 ?_
      refine vx_ret ?_
      refine zri h hr hH ?_ dL_append_17
      exact Or.inr (Or.inl ⟨show x_X4_append S t "java/lang/IllegalStateException" from (Or.inr ⟨rfl, hf⟩), rfl, rfl⟩)
  · obtain ⟨v_4, hv1, hv2, rfl⟩ := zI_of r_4
    refine zb_i2l h (by omega) dL_append_7 ?_
    refine zout_st h hH dL_append_8 (fun H locs hH => ?_)
    refine lv_goto (tgt := 18) hx hb dL_append_9 (by decide) ?_
    refine zb_ic h dL_append_18 ?_
    refine vx_ret ?_
    refine zri h hr hH ?_ dL_append_19
    exact Or.inr (Or.inr (⟨rfl, _, _, ⟨hv1, hv2⟩, hq, rfl⟩))
theorem dL_undo_0 : decode cL_undo 0 = .ok (.aload_n 1, 1) := by decide +kernel
theorem dL_undo_1 : decode cL_undo 1 = .ok (.iconst 0, 1) := by decide +kernel
theorem dL_undo_2 : decode cL_undo 2 = .ok (.aload_n 0, 1) := by decide +kernel
theorem dL_undo_3 : decode cL_undo 3 = .ok (.invokevirtual 48, 3) := by decide +kernel
theorem dL_undo_6 : decode cL_undo 6 = .ok (.i2l, 1) := by decide +kernel
theorem dL_undo_7 : decode cL_undo 7 = .ok (.lastore, 1) := by decide +kernel
theorem dL_undo_8 : decode cL_undo 8 = .ok (.goto 6, 3) := by decide +kernel
theorem dL_undo_11 : decode cL_undo 11 = .ok (.astore_n 2, 1) := by decide +kernel
theorem dL_undo_12 : decode cL_undo 12 = .ok (.iconst 1, 1) := by decide +kernel
theorem dL_undo_13 : decode cL_undo 13 = .ok (.ireturn, 1) := by decide +kernel
theorem dL_undo_14 : decode cL_undo 14 = .ok (.iconst 0, 1) := by decide +kernel
theorem dL_undo_15 : decode cL_undo 15 = .ok (.ireturn, 1) := by decide +kernel
def q_L_undo (S : zM) : Int32 → zM → Prop := fun r S1 => (x_X4_undo S "java/lang/IllegalStateException" ∧ r = zI 1 ∧ S = S1) ∨ (r = zI 0 ∧ ∃ (y9 : Int) (S2 : zM), (-2147483648 ≤ y9 ∧ y9 ≤ 2147483647) ∧ q_X4_undo S (zI y9) S2 ∧ zs S2 8 5 0 y9 = S1)
def r_L_undo : Room := { frames := 7, cells := 1, slots := 6, locals := 112 }
set_option maxHeartbeats 4000000 in
set_option maxRecDepth 100000 in
theorem c_L_undo (l : Launch) (hlx : l.stackTraces = false) (G : zG) (hG : zok G) (S : zM) (hsz : 0 ≤ S 8 1 1 ∧ S 8 1 1 ≤ 6) (hnx : S 8 1 1 ≤ S 8 1 2 ∧ S 8 1 2 ≤ 600) (hwk : 1 ≤ S 8 1 1 → zW (S (((S 8 1 2 - 1) % 6).toNat + 2) 0))  : vx_Met l yL_undo (Cond.codeWith yL_undo cL_undo 3 (some FieldType.int) [(0, 8, 11, 15)] :: zTbl) r_L_undo (va_Pc [.ref (za G 8 0), .ref (za G 8 5)] (zBX G S)) (va_Qi (q_L_undo S) (zB G) (zA G)) (zXC G (fun _ => False) (fun _ => False)) 1 6 (zA G) := by
  refine zXMetH [(0, .ref (za G 8 0)), (1, .ref (za G 8 5))] hG (by decide) (Nat.le_of_ble_eq_true rfl) rfl (fun p e s m args below meth c ls h hX hT hx hb hr hH hl => ?_)
  refine lv_aload_n hx hb dL_undo_0 rfl (lv_at hl 1 rfl) ?_
  refine zb_ic h dL_undo_1 ?_
  refine lv_aload_n hx hb dL_undo_2 rfl (lv_at hl 0 rfl) ?_
  refine zcXV h hX hH (zr_4 h hH) (As := []) (rest := [.int (zI 0), .ref (za G 8 5)]) (c_X4_undo l hlx G hG S hsz hnx hwk) zce_X4_undo zcv_X4_undo zm_L_48 hl.1 rfl rfl ⟨rfl, rfl⟩ ⟨Nat.le_of_ble_eq_true rfl, Nat.le_of_ble_eq_true rfl⟩ (Nat.le_of_ble_eq_true rfl) ⟨Nat.le_of_ble_eq_true rfl, Nat.le_of_ble_eq_true rfl⟩ dL_undo_3 (fun E ce q9 S1 H locs hp hf hH hc1 hc2 hc3 => ?_) (fun r_3 S_3 H locs hq hH => ?_)
  · have hp : S1 = S := hp
    rw [hp] at hH
    unfold x_X4_undo at hf
    rcases hf with ⟨rfl, hf⟩
    · refine zct1 h hX ⟨0, 8, 11, 15⟩ _ hT (by decide) (by decide) zl_L_15 zxl_IS hc1 hc2 hc3 ?_
      refine lv_astore_n (lv' := [(2, .ref q9), (0, .ref (za G 8 0)), (1, .ref (za G 8 5))]) hx hb dL_undo_11 rfl hl (by decide) rfl (fun ls hl => ?_)
      refine zb_ic h dL_undo_12 ?_
      refine vx_ret ?_
      refine zri h hr hH ?_ dL_undo_13
      exact Or.inl ⟨show x_X4_undo S "java/lang/IllegalStateException" from ⟨rfl, hf⟩, rfl, rfl⟩
  · obtain ⟨v_3, hv1, hv2, rfl⟩ := zI_of r_3
    refine zb_i2l h (by omega) dL_undo_6 ?_
    refine zout_st h hH dL_undo_7 (fun H locs hH => ?_)
    refine lv_goto (tgt := 14) hx hb dL_undo_8 (by decide) ?_
    refine zb_ic h dL_undo_14 ?_
    refine vx_ret ?_
    refine zri h hr hH ?_ dL_undo_15
    exact Or.inr (⟨rfl, _, _, ⟨hv1, hv2⟩, hq, rfl⟩)
theorem dL_zoneOf_0 : decode cL_zoneOf 0 = .ok (.aload_n 3, 1) := by decide +kernel
theorem dL_zoneOf_1 : decode cL_zoneOf 1 = .ok (.iconst 0, 1) := by decide +kernel
theorem dL_zoneOf_2 : decode cL_zoneOf 2 = .ok (.aload_n 0, 1) := by decide +kernel
theorem dL_zoneOf_3 : decode cL_zoneOf 3 = .ok (.iload_n 1, 1) := by decide +kernel
theorem dL_zoneOf_4 : decode cL_zoneOf 4 = .ok (.iload_n 2, 1) := by decide +kernel
theorem dL_zoneOf_5 : decode cL_zoneOf 5 = .ok (.invokevirtual 51, 3) := by decide +kernel
theorem dL_zoneOf_8 : decode cL_zoneOf 8 = .ok (.i2l, 1) := by decide +kernel
theorem dL_zoneOf_9 : decode cL_zoneOf 9 = .ok (.lastore, 1) := by decide +kernel
theorem dL_zoneOf_10 : decode cL_zoneOf 10 = .ok (.goto 11, 3) := by decide +kernel
theorem dL_zoneOf_13 : decode cL_zoneOf 13 = .ok (.astore 4, 2) := by decide +kernel
theorem dL_zoneOf_15 : decode cL_zoneOf 15 = .ok (.iconst 1, 1) := by decide +kernel
theorem dL_zoneOf_16 : decode cL_zoneOf 16 = .ok (.ireturn, 1) := by decide +kernel
theorem dL_zoneOf_17 : decode cL_zoneOf 17 = .ok (.astore 4, 2) := by decide +kernel
theorem dL_zoneOf_19 : decode cL_zoneOf 19 = .ok (.iconst 2, 1) := by decide +kernel
theorem dL_zoneOf_20 : decode cL_zoneOf 20 = .ok (.ireturn, 1) := by decide +kernel
theorem dL_zoneOf_21 : decode cL_zoneOf 21 = .ok (.iconst 0, 1) := by decide +kernel
theorem dL_zoneOf_22 : decode cL_zoneOf 22 = .ok (.ireturn, 1) := by decide +kernel
def q_L_zoneOf (S : zM) (z : Int) (what : Int) : Int32 → zM → Prop := fun r S1 => (x_X4_zoneOf S z what "java/lang/IndexOutOfBoundsException" ∧ r = zI 1 ∧ S = S1) ∨ (x_X4_zoneOf S z what "java/lang/IllegalArgumentException" ∧ r = zI 2 ∧ S = S1) ∨ (r = zI 0 ∧ ∃ (y9 : Int) (S2 : zM), (-2147483648 ≤ y9 ∧ y9 ≤ 2147483647) ∧ q_X4_zoneOf S z what (zI y9) S2 ∧ zs S2 8 5 0 y9 = S1)
def r_L_zoneOf : Room := { frames := 7, cells := 1, slots := 6, locals := 115 }
set_option maxHeartbeats 4000000 in
set_option maxRecDepth 100000 in
theorem c_L_zoneOf (l : Launch) (hlx : l.stackTraces = false) (G : zG) (hG : zok G) (S : zM) (z : Int) (hz_ : -2147483648 ≤ z ∧ z ≤ 2147483647) (what : Int) (hwhat_ : -2147483648 ≤ what ∧ what ≤ 2147483647) (hms : zMs S 0) (hw : zW (S 0 0))  : vx_Met l yL_zoneOf (Cond.codeWith yL_zoneOf cL_zoneOf 5 (some FieldType.int) [(0, 10, 13, 20), (0, 10, 17, 13)] :: zTbl) r_L_zoneOf (va_Pc [.ref (za G 8 0), .int (zI z), .int (zI what), .ref (za G 8 5)] (zBX G S)) (va_Qi (q_L_zoneOf S z what) (zB G) (zA G)) (zXC G (fun _ => False) (fun _ => False)) 1 6 (zA G) := by
  refine zXMetH [(0, .ref (za G 8 0)), (1, .int (zI z)), (2, .int (zI what)), (3, .ref (za G 8 5))] hG (by decide) (Nat.le_of_ble_eq_true rfl) rfl (fun p e s m args below meth c ls h hX hT hx hb hr hH hl => ?_)
  refine lv_aload_n hx hb dL_zoneOf_0 rfl (lv_at hl 3 rfl) ?_
  refine zb_ic h dL_zoneOf_1 ?_
  refine lv_aload_n hx hb dL_zoneOf_2 rfl (lv_at hl 0 rfl) ?_
  refine lv_iload_n hx hb dL_zoneOf_3 rfl (lv_at hl 1 rfl) ?_
  refine lv_iload_n hx hb dL_zoneOf_4 rfl (lv_at hl 2 rfl) ?_
  refine zcXV h hX hH (zr_4 h hH) (As := [.int (zI z), .int (zI what)]) (rest := [.int (zI 0), .ref (za G 8 5)]) (c_X4_zoneOf l hlx G hG S z hz_ what hwhat_ hms hw) zce_X4_zoneOf zcv_X4_zoneOf zm_L_51 hl.1 rfl rfl ⟨rfl, rfl⟩ ⟨Nat.le_of_ble_eq_true rfl, Nat.le_of_ble_eq_true rfl⟩ (Nat.le_of_ble_eq_true rfl) ⟨Nat.le_of_ble_eq_true rfl, Nat.le_of_ble_eq_true rfl⟩ dL_zoneOf_5 (fun E ce q9 S1 H locs hp hf hH hc1 hc2 hc3 => ?_) (fun r_5 S_5 H locs hq hH => ?_)
  · have hp : S1 = S := hp
    rw [hp] at hH
    unfold x_X4_zoneOf at hf
    rcases hf with ⟨rfl, hf⟩ | ⟨rfl, hf⟩
    · refine zct1 h hX ⟨0, 10, 13, 20⟩ _ hT (by decide) (by decide) zl_L_20 zxl_IO hc1 hc2 hc3 ?_
      refine lv_astore (lv' := [(4, .ref q9), (0, .ref (za G 8 0)), (1, .int (zI z)), (2, .int (zI what)), (3, .ref (za G 8 5))]) hx hb dL_zoneOf_13 hl (by decide) rfl (fun ls hl => ?_)
      refine zb_ic h dL_zoneOf_15 ?_
      refine vx_ret ?_
      refine zri h hr hH ?_ dL_zoneOf_16
      exact Or.inl ⟨show x_X4_zoneOf S z what "java/lang/IndexOutOfBoundsException" from (Or.inl ⟨rfl, hf⟩), rfl, rfl⟩
    · refine zct2 h hX ⟨0, 10, 13, 20⟩ ⟨0, 10, 17, 13⟩ _ hT (by decide) zl_L_20 znc_IA_IO (by decide) (by decide) zl_L_13 zxl_IA hc1 hc2 hc3 ?_
      refine lv_astore (lv' := [(4, .ref q9), (0, .ref (za G 8 0)), (1, .int (zI z)), (2, .int (zI what)), (3, .ref (za G 8 5))]) hx hb dL_zoneOf_17 hl (by decide) rfl (fun ls hl => ?_)
      refine zb_ic h dL_zoneOf_19 ?_
      refine vx_ret ?_
      refine zri h hr hH ?_ dL_zoneOf_20
      exact Or.inr (Or.inl ⟨show x_X4_zoneOf S z what "java/lang/IllegalArgumentException" from (Or.inr ⟨rfl, hf⟩), rfl, rfl⟩)
  · obtain ⟨v_5, hv1, hv2, rfl⟩ := zI_of r_5
    refine zb_i2l h (by omega) dL_zoneOf_8 ?_
    refine zout_st h hH dL_zoneOf_9 (fun H locs hH => ?_)
    refine lv_goto (tgt := 21) hx hb dL_zoneOf_10 (by decide) ?_
    refine zb_ic h dL_zoneOf_21 ?_
    refine vx_ret ?_
    refine zri h hr hH ?_ dL_zoneOf_22
    exact Or.inr (Or.inr (⟨rfl, _, _, ⟨hv1, hv2⟩, hq, rfl⟩))
theorem dL_mark_0 : decode cL_mark 0 = .ok (.aload_n 2, 1) := by decide +kernel
theorem dL_mark_1 : decode cL_mark 1 = .ok (.iconst 0, 1) := by decide +kernel
theorem dL_mark_2 : decode cL_mark 2 = .ok (.aload_n 0, 1) := by decide +kernel
theorem dL_mark_3 : decode cL_mark 3 = .ok (.iload_n 1, 1) := by decide +kernel
theorem dL_mark_4 : decode cL_mark 4 = .ok (.invokevirtual 54, 3) := by decide +kernel
theorem dL_mark_7 : decode cL_mark 7 = .ok (.i2l, 1) := by decide +kernel
theorem dL_mark_8 : decode cL_mark 8 = .ok (.lastore, 1) := by decide +kernel
theorem dL_mark_9 : decode cL_mark 9 = .ok (.goto 6, 3) := by decide +kernel
theorem dL_mark_12 : decode cL_mark 12 = .ok (.astore_n 3, 1) := by decide +kernel
theorem dL_mark_13 : decode cL_mark 13 = .ok (.iconst 1, 1) := by decide +kernel
theorem dL_mark_14 : decode cL_mark 14 = .ok (.ireturn, 1) := by decide +kernel
theorem dL_mark_15 : decode cL_mark 15 = .ok (.iconst 0, 1) := by decide +kernel
theorem dL_mark_16 : decode cL_mark 16 = .ok (.ireturn, 1) := by decide +kernel
def q_L_mark (S : zM) (n : Int) : Int32 → zM → Prop := fun r S1 => (x_X4_mark S n "java/lang/IllegalArgumentException" ∧ r = zI 1 ∧ S = S1) ∨ (r = zI 0 ∧ ∃ (y9 : Int) (S2 : zM), (-2147483648 ≤ y9 ∧ y9 ≤ 2147483647) ∧ q_X4_mark S n (zI y9) S2 ∧ zs S2 8 5 0 y9 = S1)
def r_L_mark : Room := { frames := 7, cells := 1, slots := 6, locals := 103 }
set_option maxHeartbeats 4000000 in
set_option maxRecDepth 100000 in
theorem c_L_mark (l : Launch) (hlx : l.stackTraces = false) (G : zG) (hG : zok G) (S : zM) (n : Int) (hn_ : -2147483648 ≤ n ∧ n ≤ 2147483647) (hms : zMs S 0) (hw : zW (S 0 0))  : vx_Met l yL_mark (Cond.codeWith yL_mark cL_mark 4 (some FieldType.int) [(0, 9, 12, 13)] :: zTbl) r_L_mark (va_Pc [.ref (za G 8 0), .int (zI n), .ref (za G 8 5)] (zBX G S)) (va_Qi (q_L_mark S n) (zB G) (zA G)) (zXC G (fun _ => False) (fun _ => False)) 1 6 (zA G) := by
  refine zXMetH [(0, .ref (za G 8 0)), (1, .int (zI n)), (2, .ref (za G 8 5))] hG (by decide) (Nat.le_of_ble_eq_true rfl) rfl (fun p e s m args below meth c ls h hX hT hx hb hr hH hl => ?_)
  refine lv_aload_n hx hb dL_mark_0 rfl (lv_at hl 2 rfl) ?_
  refine zb_ic h dL_mark_1 ?_
  refine lv_aload_n hx hb dL_mark_2 rfl (lv_at hl 0 rfl) ?_
  refine lv_iload_n hx hb dL_mark_3 rfl (lv_at hl 1 rfl) ?_
  refine zcXV h hX hH (zr_4 h hH) (As := [.int (zI n)]) (rest := [.int (zI 0), .ref (za G 8 5)]) (c_X4_mark l hlx G hG S n hn_ hms hw) zce_X4_mark zcv_X4_mark zm_L_54 hl.1 rfl rfl ⟨rfl, rfl⟩ ⟨Nat.le_of_ble_eq_true rfl, Nat.le_of_ble_eq_true rfl⟩ (Nat.le_of_ble_eq_true rfl) ⟨Nat.le_of_ble_eq_true rfl, Nat.le_of_ble_eq_true rfl⟩ dL_mark_4 (fun E ce q9 S1 H locs hp hf hH hc1 hc2 hc3 => ?_) (fun r_4 S_4 H locs hq hH => ?_)
  · have hp : S1 = S := hp
    rw [hp] at hH
    unfold x_X4_mark at hf
    rcases hf with ⟨rfl, hf⟩
    · refine zct1 h hX ⟨0, 9, 12, 13⟩ _ hT (by decide) (by decide) zl_L_13 zxl_IA hc1 hc2 hc3 ?_
      refine lv_astore_n (lv' := [(3, .ref q9), (0, .ref (za G 8 0)), (1, .int (zI n)), (2, .ref (za G 8 5))]) hx hb dL_mark_12 rfl hl (by decide) rfl (fun ls hl => ?_)
      refine zb_ic h dL_mark_13 ?_
      refine vx_ret ?_
      refine zri h hr hH ?_ dL_mark_14
      exact Or.inl ⟨show x_X4_mark S n "java/lang/IllegalArgumentException" from ⟨rfl, hf⟩, rfl, rfl⟩
  · obtain ⟨v_4, hv1, hv2, rfl⟩ := zI_of r_4
    refine zb_i2l h (by omega) dL_mark_7 ?_
    refine zout_st h hH dL_mark_8 (fun H locs hH => ?_)
    refine lv_goto (tgt := 15) hx hb dL_mark_9 (by decide) ?_
    refine zb_ic h dL_mark_15 ?_
    refine vx_ret ?_
    refine zri h hr hH ?_ dL_mark_16
    exact Or.inr (⟨rfl, _, _, ⟨hv1, hv2⟩, hq, rfl⟩)
theorem dL_strip_0 : decode cL_strip 0 = .ok (.aload 5, 2) := by decide +kernel
theorem dL_strip_2 : decode cL_strip 2 = .ok (.iconst 0, 1) := by decide +kernel
theorem dL_strip_3 : decode cL_strip 3 = .ok (.aload_n 0, 1) := by decide +kernel
theorem dL_strip_4 : decode cL_strip 4 = .ok (.iload_n 1, 1) := by decide +kernel
theorem dL_strip_5 : decode cL_strip 5 = .ok (.iload_n 2, 1) := by decide +kernel
theorem dL_strip_6 : decode cL_strip 6 = .ok (.iload_n 3, 1) := by decide +kernel
theorem dL_strip_7 : decode cL_strip 7 = .ok (.iload 4, 2) := by decide +kernel
theorem dL_strip_9 : decode cL_strip 9 = .ok (.invokevirtual 57, 3) := by decide +kernel
theorem dL_strip_12 : decode cL_strip 12 = .ok (.i2l, 1) := by decide +kernel
theorem dL_strip_13 : decode cL_strip 13 = .ok (.lastore, 1) := by decide +kernel
theorem dL_strip_14 : decode cL_strip 14 = .ok (.goto 11, 3) := by decide +kernel
theorem dL_strip_17 : decode cL_strip 17 = .ok (.astore 6, 2) := by decide +kernel
theorem dL_strip_19 : decode cL_strip 19 = .ok (.iconst 1, 1) := by decide +kernel
theorem dL_strip_20 : decode cL_strip 20 = .ok (.ireturn, 1) := by decide +kernel
theorem dL_strip_21 : decode cL_strip 21 = .ok (.astore 6, 2) := by decide +kernel
theorem dL_strip_23 : decode cL_strip 23 = .ok (.iconst 2, 1) := by decide +kernel
theorem dL_strip_24 : decode cL_strip 24 = .ok (.ireturn, 1) := by decide +kernel
theorem dL_strip_25 : decode cL_strip 25 = .ok (.iconst 0, 1) := by decide +kernel
theorem dL_strip_26 : decode cL_strip 26 = .ok (.ireturn, 1) := by decide +kernel
def q_L_strip (S : zM) (z : Int) (f : Int) (n : Int) (what : Int) : Int32 → zM → Prop := fun r S1 => (x_X4_strip S z f n what "java/lang/IndexOutOfBoundsException" ∧ r = zI 1 ∧ S = S1) ∨ (x_X4_strip S z f n what "java/lang/IllegalArgumentException" ∧ r = zI 2 ∧ S = S1) ∨ (r = zI 0 ∧ ∃ (y9 : Int) (S2 : zM), (-2147483648 ≤ y9 ∧ y9 ≤ 2147483647) ∧ q_X4_strip S z f n what (zI y9) S2 ∧ zs S2 8 5 0 y9 = S1)
def r_L_strip : Room := { frames := 7, cells := 1, slots := 6, locals := 106 }
set_option maxHeartbeats 4000000 in
set_option maxRecDepth 100000 in
theorem c_L_strip (l : Launch) (hlx : l.stackTraces = false) (G : zG) (hG : zok G) (S : zM) (z : Int) (hz_ : -2147483648 ≤ z ∧ z ≤ 2147483647) (f : Int) (hf_ : -2147483648 ≤ f ∧ f ≤ 2147483647) (n : Int) (hn_ : -2147483648 ≤ n ∧ n ≤ 2147483647) (what : Int) (hwhat_ : -2147483648 ≤ what ∧ what ≤ 2147483647) (hms : zMs S 0) (hw : zW (S 0 0))  : vx_Met l yL_strip (Cond.codeWith yL_strip cL_strip 7 (some FieldType.int) [(0, 14, 17, 20), (0, 14, 21, 13)] :: zTbl) r_L_strip (va_Pc [.ref (za G 8 0), .int (zI z), .int (zI f), .int (zI n), .int (zI what), .ref (za G 8 5)] (zBX G S)) (va_Qi (q_L_strip S z f n what) (zB G) (zA G)) (zXC G (fun _ => False) (fun _ => False)) 1 6 (zA G) := by
  refine zXMetH [(0, .ref (za G 8 0)), (1, .int (zI z)), (2, .int (zI f)), (3, .int (zI n)), (4, .int (zI what)), (5, .ref (za G 8 5))] hG (by decide) (Nat.le_of_ble_eq_true rfl) rfl (fun p e s m args below meth c ls h hX hT hx hb hr hH hl => ?_)
  refine lv_aload hx hb dL_strip_0 (lv_at hl 5 rfl) ?_
  refine zb_ic h dL_strip_2 ?_
  refine lv_aload_n hx hb dL_strip_3 rfl (lv_at hl 0 rfl) ?_
  refine lv_iload_n hx hb dL_strip_4 rfl (lv_at hl 1 rfl) ?_
  refine lv_iload_n hx hb dL_strip_5 rfl (lv_at hl 2 rfl) ?_
  refine lv_iload_n hx hb dL_strip_6 rfl (lv_at hl 3 rfl) ?_
  refine lv_iload hx hb dL_strip_7 (lv_at hl 4 rfl) ?_
  refine zcXV h hX hH (zr_4 h hH) (As := [.int (zI z), .int (zI f), .int (zI n), .int (zI what)]) (rest := [.int (zI 0), .ref (za G 8 5)]) (c_X4_strip l hlx G hG S z hz_ f hf_ n hn_ what hwhat_ hms hw) zce_X4_strip zcv_X4_strip zm_L_57 hl.1 rfl rfl ⟨rfl, rfl⟩ ⟨Nat.le_of_ble_eq_true rfl, Nat.le_of_ble_eq_true rfl⟩ (Nat.le_of_ble_eq_true rfl) ⟨Nat.le_of_ble_eq_true rfl, Nat.le_of_ble_eq_true rfl⟩ dL_strip_9 (fun E ce q9 S1 H locs hp hf hH hc1 hc2 hc3 => ?_) (fun r_9 S_9 H locs hq hH => ?_)
  · have hp : S1 = S := hp
    rw [hp] at hH
    unfold x_X4_strip at hf
    rcases hf with ⟨rfl, hf⟩ | ⟨rfl, hf⟩
    · refine zct1 h hX ⟨0, 14, 17, 20⟩ _ hT (by decide) (by decide) zl_L_20 zxl_IO hc1 hc2 hc3 ?_
      refine lv_astore (lv' := [(6, .ref q9), (0, .ref (za G 8 0)), (1, .int (zI z)), (2, .int (zI f)), (3, .int (zI n)), (4, .int (zI what)), (5, .ref (za G 8 5))]) hx hb dL_strip_17 hl (by decide) rfl (fun ls hl => ?_)
      refine zb_ic h dL_strip_19 ?_
      refine vx_ret ?_
      refine zri h hr hH ?_ dL_strip_20
      exact Or.inl ⟨show x_X4_strip S z f n what "java/lang/IndexOutOfBoundsException" from (Or.inl ⟨rfl, hf⟩), rfl, rfl⟩
    · refine zct2 h hX ⟨0, 14, 17, 20⟩ ⟨0, 14, 21, 13⟩ _ hT (by decide) zl_L_20 znc_IA_IO (by decide) (by decide) zl_L_13 zxl_IA hc1 hc2 hc3 ?_
      refine lv_astore (lv' := [(6, .ref q9), (0, .ref (za G 8 0)), (1, .int (zI z)), (2, .int (zI f)), (3, .int (zI n)), (4, .int (zI what)), (5, .ref (za G 8 5))]) hx hb dL_strip_21 hl (by decide) rfl (fun ls hl => ?_)
      refine zb_ic h dL_strip_23 ?_
      refine vx_ret ?_
      refine zri h hr hH ?_ dL_strip_24
      exact Or.inr (Or.inl ⟨show x_X4_strip S z f n what "java/lang/IllegalArgumentException" from (Or.inr ⟨rfl, hf⟩), rfl, rfl⟩)
  · obtain ⟨v_9, hv1, hv2, rfl⟩ := zI_of r_9
    refine zb_i2l h (by omega) dL_strip_12 ?_
    refine zout_st h hH dL_strip_13 (fun H locs hH => ?_)
    refine lv_goto (tgt := 25) hx hb dL_strip_14 (by decide) ?_
    refine zb_ic h dL_strip_25 ?_
    refine vx_ret ?_
    refine zri h hr hH ?_ dL_strip_26
    exact Or.inr (Or.inr (⟨rfl, _, _, ⟨hv1, hv2⟩, hq, rfl⟩))
theorem dL_count_0 : decode cL_count 0 = .ok (.aload_n 2, 1) := by decide +kernel
theorem dL_count_1 : decode cL_count 1 = .ok (.iconst 0, 1) := by decide +kernel
theorem dL_count_2 : decode cL_count 2 = .ok (.aload_n 0, 1) := by decide +kernel
theorem dL_count_3 : decode cL_count 3 = .ok (.iload_n 1, 1) := by decide +kernel
theorem dL_count_4 : decode cL_count 4 = .ok (.invokevirtual 61, 3) := by decide +kernel
theorem dL_count_7 : decode cL_count 7 = .ok (.i2l, 1) := by decide +kernel
theorem dL_count_8 : decode cL_count 8 = .ok (.lastore, 1) := by decide +kernel
theorem dL_count_9 : decode cL_count 9 = .ok (.goto 6, 3) := by decide +kernel
theorem dL_count_12 : decode cL_count 12 = .ok (.astore_n 3, 1) := by decide +kernel
theorem dL_count_13 : decode cL_count 13 = .ok (.iconst 1, 1) := by decide +kernel
theorem dL_count_14 : decode cL_count 14 = .ok (.ireturn, 1) := by decide +kernel
theorem dL_count_15 : decode cL_count 15 = .ok (.iconst 0, 1) := by decide +kernel
theorem dL_count_16 : decode cL_count 16 = .ok (.ireturn, 1) := by decide +kernel
def q_L_count (S : zM) (what : Int) : Int32 → zM → Prop := fun r S1 => (x_X4_count S what "java/lang/IllegalArgumentException" ∧ r = zI 1 ∧ S = S1) ∨ (r = zI 0 ∧ ∃ (y9 : Int) (S2 : zM), (-2147483648 ≤ y9 ∧ y9 ≤ 2147483647) ∧ q_X4_count S what (zI y9) S2 ∧ zs S2 8 5 0 y9 = S1)
def r_L_count : Room := { frames := 7, cells := 1, slots := 6, locals := 135 }
set_option maxHeartbeats 4000000 in
set_option maxRecDepth 100000 in
theorem c_L_count (l : Launch) (hlx : l.stackTraces = false) (G : zG) (hG : zok G) (S : zM) (what : Int) (hwhat_ : -2147483648 ≤ what ∧ what ≤ 2147483647) (hok : zOk (S 0 0)) (hms : zMs S 0) (hw : zW (S 0 0))  : vx_Met l yL_count (Cond.codeWith yL_count cL_count 4 (some FieldType.int) [(0, 9, 12, 13)] :: zTbl) r_L_count (va_Pc [.ref (za G 8 0), .int (zI what), .ref (za G 8 5)] (zBX G S)) (va_Qi (q_L_count S what) (zB G) (zA G)) (zXC G (fun _ => False) (fun _ => False)) 1 6 (zA G) := by
  refine zXMetH [(0, .ref (za G 8 0)), (1, .int (zI what)), (2, .ref (za G 8 5))] hG (by decide) (Nat.le_of_ble_eq_true rfl) rfl (fun p e s m args below meth c ls h hX hT hx hb hr hH hl => ?_)
  refine lv_aload_n hx hb dL_count_0 rfl (lv_at hl 2 rfl) ?_
  refine zb_ic h dL_count_1 ?_
  refine lv_aload_n hx hb dL_count_2 rfl (lv_at hl 0 rfl) ?_
  refine lv_iload_n hx hb dL_count_3 rfl (lv_at hl 1 rfl) ?_
  refine zcXV h hX hH (zr_4 h hH) (As := [.int (zI what)]) (rest := [.int (zI 0), .ref (za G 8 5)]) (c_X4_count l hlx G hG S what hwhat_ hok hms hw) zce_X4_count zcv_X4_count zm_L_61 hl.1 rfl rfl ⟨rfl, rfl⟩ ⟨Nat.le_of_ble_eq_true rfl, Nat.le_of_ble_eq_true rfl⟩ (Nat.le_of_ble_eq_true rfl) ⟨Nat.le_of_ble_eq_true rfl, Nat.le_of_ble_eq_true rfl⟩ dL_count_4 (fun E ce q9 S1 H locs hp hf hH hc1 hc2 hc3 => ?_) (fun r_4 S_4 H locs hq hH => ?_)
  · have hp : S1 = S := hp
    rw [hp] at hH
    unfold x_X4_count at hf
    rcases hf with ⟨rfl, hf⟩
    · refine zct1 h hX ⟨0, 9, 12, 13⟩ _ hT (by decide) (by decide) zl_L_13 zxl_IA hc1 hc2 hc3 ?_
      refine lv_astore_n (lv' := [(3, .ref q9), (0, .ref (za G 8 0)), (1, .int (zI what)), (2, .ref (za G 8 5))]) hx hb dL_count_12 rfl hl (by decide) rfl (fun ls hl => ?_)
      refine zb_ic h dL_count_13 ?_
      refine vx_ret ?_
      refine zri h hr hH ?_ dL_count_14
      exact Or.inl ⟨show x_X4_count S what "java/lang/IllegalArgumentException" from ⟨rfl, hf⟩, rfl, rfl⟩
  · obtain ⟨v_4, hv1, hv2, rfl⟩ := zI_of r_4
    refine zb_i2l h (by omega) dL_count_7 ?_
    refine zout_st h hH dL_count_8 (fun H locs hH => ?_)
    refine lv_goto (tgt := 15) hx hb dL_count_9 (by decide) ?_
    refine zb_ic h dL_count_15 ?_
    refine vx_ret ?_
    refine zri h hr hH ?_ dL_count_16
    exact Or.inr (⟨rfl, _, _, ⟨hv1, hv2⟩, hq, rfl⟩)
theorem dL_ifExposed_0 : decode cL_ifExposed 0 = .ok (.aload_n 3, 1) := by decide +kernel
theorem dL_ifExposed_1 : decode cL_ifExposed 1 = .ok (.iconst 0, 1) := by decide +kernel
theorem dL_ifExposed_2 : decode cL_ifExposed 2 = .ok (.aload_n 0, 1) := by decide +kernel
theorem dL_ifExposed_3 : decode cL_ifExposed 3 = .ok (.iload_n 1, 1) := by decide +kernel
theorem dL_ifExposed_4 : decode cL_ifExposed 4 = .ok (.iload_n 2, 1) := by decide +kernel
theorem dL_ifExposed_5 : decode cL_ifExposed 5 = .ok (.invokevirtual 64, 3) := by decide +kernel
theorem dL_ifExposed_8 : decode cL_ifExposed 8 = .ok (.i2l, 1) := by decide +kernel
theorem dL_ifExposed_9 : decode cL_ifExposed 9 = .ok (.lastore, 1) := by decide +kernel
theorem dL_ifExposed_10 : decode cL_ifExposed 10 = .ok (.goto 7, 3) := by decide +kernel
theorem dL_ifExposed_13 : decode cL_ifExposed 13 = .ok (.astore 4, 2) := by decide +kernel
theorem dL_ifExposed_15 : decode cL_ifExposed 15 = .ok (.iconst 1, 1) := by decide +kernel
theorem dL_ifExposed_16 : decode cL_ifExposed 16 = .ok (.ireturn, 1) := by decide +kernel
theorem dL_ifExposed_17 : decode cL_ifExposed 17 = .ok (.iconst 0, 1) := by decide +kernel
theorem dL_ifExposed_18 : decode cL_ifExposed 18 = .ok (.ireturn, 1) := by decide +kernel
def q_L_ifExposed (S : zM) (t : Int) (w : Int) : Int32 → zM → Prop := fun r S1 => (x_X4_ifExposed S t w "java/lang/IllegalArgumentException" ∧ r = zI 1 ∧ S = S1) ∨ (r = zI 0 ∧ ∃ (y9 : Int) (S2 : zM), (-2147483648 ≤ y9 ∧ y9 ≤ 2147483647) ∧ q_X4_ifExposed S t w (zI y9) S2 ∧ zs S2 8 5 0 y9 = S1)
def r_L_ifExposed : Room := { frames := 7, cells := 1, slots := 6, locals := 134 }
set_option maxHeartbeats 4000000 in
set_option maxRecDepth 100000 in
theorem c_L_ifExposed (l : Launch) (hlx : l.stackTraces = false) (G : zG) (hG : zok G) (S : zM) (t : Int) (ht_ : -2147483648 ≤ t ∧ t ≤ 2147483647) (w : Int) (hw_ : -2147483648 ≤ w ∧ w ≤ 2147483647) (hw : zW (S 0 0))  : vx_Met l yL_ifExposed (Cond.codeWith yL_ifExposed cL_ifExposed 5 (some FieldType.int) [(0, 10, 13, 13)] :: zTbl) r_L_ifExposed (va_Pc [.ref (za G 8 0), .int (zI t), .int (zI w), .ref (za G 8 5)] (zBX G S)) (va_Qi (q_L_ifExposed S t w) (zB G) (zA G)) (zXC G (fun _ => False) (fun _ => False)) 1 6 (zA G) := by
  refine zXMetH [(0, .ref (za G 8 0)), (1, .int (zI t)), (2, .int (zI w)), (3, .ref (za G 8 5))] hG (by decide) (Nat.le_of_ble_eq_true rfl) rfl (fun p e s m args below meth c ls h hX hT hx hb hr hH hl => ?_)
  refine lv_aload_n hx hb dL_ifExposed_0 rfl (lv_at hl 3 rfl) ?_
  refine zb_ic h dL_ifExposed_1 ?_
  refine lv_aload_n hx hb dL_ifExposed_2 rfl (lv_at hl 0 rfl) ?_
  refine lv_iload_n hx hb dL_ifExposed_3 rfl (lv_at hl 1 rfl) ?_
  refine lv_iload_n hx hb dL_ifExposed_4 rfl (lv_at hl 2 rfl) ?_
  refine zcXV h hX hH (zr_4 h hH) (As := [.int (zI t), .int (zI w)]) (rest := [.int (zI 0), .ref (za G 8 5)]) (c_X4_ifExposed l hlx G hG S t ht_ w hw_ hw) zce_X4_ifExposed zcv_X4_ifExposed zm_L_64 hl.1 rfl rfl ⟨rfl, rfl⟩ ⟨Nat.le_of_ble_eq_true rfl, Nat.le_of_ble_eq_true rfl⟩ (Nat.le_of_ble_eq_true rfl) ⟨Nat.le_of_ble_eq_true rfl, Nat.le_of_ble_eq_true rfl⟩ dL_ifExposed_5 (fun E ce q9 S1 H locs hp hf hH hc1 hc2 hc3 => ?_) (fun r_5 S_5 H locs hq hH => ?_)
  · have hp : S1 = S := hp
    rw [hp] at hH
    unfold x_X4_ifExposed at hf
    rcases hf with ⟨rfl, hf⟩
    · refine zct1 h hX ⟨0, 10, 13, 13⟩ _ hT (by decide) (by decide) zl_L_13 zxl_IA hc1 hc2 hc3 ?_
      refine lv_astore (lv' := [(4, .ref q9), (0, .ref (za G 8 0)), (1, .int (zI t)), (2, .int (zI w)), (3, .ref (za G 8 5))]) hx hb dL_ifExposed_13 hl (by decide) rfl (fun ls hl => ?_)
      refine zb_ic h dL_ifExposed_15 ?_
      refine vx_ret ?_
      refine zri h hr hH ?_ dL_ifExposed_16
      exact Or.inl ⟨show x_X4_ifExposed S t w "java/lang/IllegalArgumentException" from ⟨rfl, hf⟩, rfl, rfl⟩
  · obtain ⟨v_5, hv1, hv2, rfl⟩ := zI_of r_5
    refine zb_i2l h (by omega) dL_ifExposed_8 ?_
    refine zout_st h hH dL_ifExposed_9 (fun H locs hH => ?_)
    refine lv_goto (tgt := 17) hx hb dL_ifExposed_10 (by decide) ?_
    refine zb_ic h dL_ifExposed_17 ?_
    refine vx_ret ?_
    refine zri h hr hH ?_ dL_ifExposed_18
    exact Or.inr (⟨rfl, _, _, ⟨hv1, hv2⟩, hq, rfl⟩)
theorem dL_ifBurned_0 : decode cL_ifBurned 0 = .ok (.aload 4, 2) := by decide +kernel
theorem dL_ifBurned_2 : decode cL_ifBurned 2 = .ok (.iconst 0, 1) := by decide +kernel
theorem dL_ifBurned_3 : decode cL_ifBurned 3 = .ok (.aload_n 0, 1) := by decide +kernel
theorem dL_ifBurned_4 : decode cL_ifBurned 4 = .ok (.iload_n 1, 1) := by decide +kernel
theorem dL_ifBurned_5 : decode cL_ifBurned 5 = .ok (.iload_n 2, 1) := by decide +kernel
theorem dL_ifBurned_6 : decode cL_ifBurned 6 = .ok (.iload_n 3, 1) := by decide +kernel
theorem dL_ifBurned_7 : decode cL_ifBurned 7 = .ok (.invokevirtual 67, 3) := by decide +kernel
theorem dL_ifBurned_10 : decode cL_ifBurned 10 = .ok (.i2l, 1) := by decide +kernel
theorem dL_ifBurned_11 : decode cL_ifBurned 11 = .ok (.lastore, 1) := by decide +kernel
theorem dL_ifBurned_12 : decode cL_ifBurned 12 = .ok (.goto 11, 3) := by decide +kernel
theorem dL_ifBurned_15 : decode cL_ifBurned 15 = .ok (.astore 5, 2) := by decide +kernel
theorem dL_ifBurned_17 : decode cL_ifBurned 17 = .ok (.iconst 1, 1) := by decide +kernel
theorem dL_ifBurned_18 : decode cL_ifBurned 18 = .ok (.ireturn, 1) := by decide +kernel
theorem dL_ifBurned_19 : decode cL_ifBurned 19 = .ok (.astore 5, 2) := by decide +kernel
theorem dL_ifBurned_21 : decode cL_ifBurned 21 = .ok (.iconst 2, 1) := by decide +kernel
theorem dL_ifBurned_22 : decode cL_ifBurned 22 = .ok (.ireturn, 1) := by decide +kernel
theorem dL_ifBurned_23 : decode cL_ifBurned 23 = .ok (.iconst 0, 1) := by decide +kernel
theorem dL_ifBurned_24 : decode cL_ifBurned 24 = .ok (.ireturn, 1) := by decide +kernel
def q_L_ifBurned (S : zM) (z : Int) (t : Int) (w : Int) : Int32 → zM → Prop := fun r S1 => (x_X4_ifBurned S z t w "java/lang/IndexOutOfBoundsException" ∧ r = zI 1 ∧ S = S1) ∨ (x_X4_ifBurned S z t w "java/lang/IllegalArgumentException" ∧ r = zI 2 ∧ S = S1) ∨ (r = zI 0 ∧ ∃ (y9 : Int) (S2 : zM), (-2147483648 ≤ y9 ∧ y9 ≤ 2147483647) ∧ q_X4_ifBurned S z t w (zI y9) S2 ∧ zs S2 8 5 0 y9 = S1)
def r_L_ifBurned : Room := { frames := 7, cells := 1, slots := 6, locals := 136 }
set_option maxHeartbeats 4000000 in
set_option maxRecDepth 100000 in
theorem c_L_ifBurned (l : Launch) (hlx : l.stackTraces = false) (G : zG) (hG : zok G) (S : zM) (z : Int) (hz_ : -2147483648 ≤ z ∧ z ≤ 2147483647) (t : Int) (ht_ : -2147483648 ≤ t ∧ t ≤ 2147483647) (w : Int) (hw_ : -2147483648 ≤ w ∧ w ≤ 2147483647) (hw : zW (S 0 0))  : vx_Met l yL_ifBurned (Cond.codeWith yL_ifBurned cL_ifBurned 6 (some FieldType.int) [(0, 12, 15, 20), (0, 12, 19, 13)] :: zTbl) r_L_ifBurned (va_Pc [.ref (za G 8 0), .int (zI z), .int (zI t), .int (zI w), .ref (za G 8 5)] (zBX G S)) (va_Qi (q_L_ifBurned S z t w) (zB G) (zA G)) (zXC G (fun _ => False) (fun _ => False)) 1 6 (zA G) := by
  refine zXMetH [(0, .ref (za G 8 0)), (1, .int (zI z)), (2, .int (zI t)), (3, .int (zI w)), (4, .ref (za G 8 5))] hG (by decide) (Nat.le_of_ble_eq_true rfl) rfl (fun p e s m args below meth c ls h hX hT hx hb hr hH hl => ?_)
  refine lv_aload hx hb dL_ifBurned_0 (lv_at hl 4 rfl) ?_
  refine zb_ic h dL_ifBurned_2 ?_
  refine lv_aload_n hx hb dL_ifBurned_3 rfl (lv_at hl 0 rfl) ?_
  refine lv_iload_n hx hb dL_ifBurned_4 rfl (lv_at hl 1 rfl) ?_
  refine lv_iload_n hx hb dL_ifBurned_5 rfl (lv_at hl 2 rfl) ?_
  refine lv_iload_n hx hb dL_ifBurned_6 rfl (lv_at hl 3 rfl) ?_
  refine zcXV h hX hH (zr_4 h hH) (As := [.int (zI z), .int (zI t), .int (zI w)]) (rest := [.int (zI 0), .ref (za G 8 5)]) (c_X4_ifBurned l hlx G hG S z hz_ t ht_ w hw_ hw) zce_X4_ifBurned zcv_X4_ifBurned zm_L_67 hl.1 rfl rfl ⟨rfl, rfl⟩ ⟨Nat.le_of_ble_eq_true rfl, Nat.le_of_ble_eq_true rfl⟩ (Nat.le_of_ble_eq_true rfl) ⟨Nat.le_of_ble_eq_true rfl, Nat.le_of_ble_eq_true rfl⟩ dL_ifBurned_7 (fun E ce q9 S1 H locs hp hf hH hc1 hc2 hc3 => ?_) (fun r_7 S_7 H locs hq hH => ?_)
  · have hp : S1 = S := hp
    rw [hp] at hH
    unfold x_X4_ifBurned at hf
    rcases hf with ⟨rfl, hf⟩ | ⟨rfl, hf⟩
    · refine zct1 h hX ⟨0, 12, 15, 20⟩ _ hT (by decide) (by decide) zl_L_20 zxl_IO hc1 hc2 hc3 ?_
      refine lv_astore (lv' := [(5, .ref q9), (0, .ref (za G 8 0)), (1, .int (zI z)), (2, .int (zI t)), (3, .int (zI w)), (4, .ref (za G 8 5))]) hx hb dL_ifBurned_15 hl (by decide) rfl (fun ls hl => ?_)
      refine zb_ic h dL_ifBurned_17 ?_
      refine vx_ret ?_
      refine zri h hr hH ?_ dL_ifBurned_18
      exact Or.inl ⟨show x_X4_ifBurned S z t w "java/lang/IndexOutOfBoundsException" from (Or.inl ⟨rfl, hf⟩), rfl, rfl⟩
    · refine zct2 h hX ⟨0, 12, 15, 20⟩ ⟨0, 12, 19, 13⟩ _ hT (by decide) zl_L_20 znc_IA_IO (by decide) (by decide) zl_L_13 zxl_IA hc1 hc2 hc3 ?_
      refine lv_astore (lv' := [(5, .ref q9), (0, .ref (za G 8 0)), (1, .int (zI z)), (2, .int (zI t)), (3, .int (zI w)), (4, .ref (za G 8 5))]) hx hb dL_ifBurned_19 hl (by decide) rfl (fun ls hl => ?_)
      refine zb_ic h dL_ifBurned_21 ?_
      refine vx_ret ?_
      refine zri h hr hH ?_ dL_ifBurned_22
      exact Or.inr (Or.inl ⟨show x_X4_ifBurned S z t w "java/lang/IllegalArgumentException" from (Or.inr ⟨rfl, hf⟩), rfl, rfl⟩)
  · obtain ⟨v_7, hv1, hv2, rfl⟩ := zI_of r_7
    refine zb_i2l h (by omega) dL_ifBurned_10 ?_
    refine zout_st h hH dL_ifBurned_11 (fun H locs hH => ?_)
    refine lv_goto (tgt := 23) hx hb dL_ifBurned_12 (by decide) ?_
    refine zb_ic h dL_ifBurned_23 ?_
    refine vx_ret ?_
    refine zri h hr hH ?_ dL_ifBurned_24
    exact Or.inr (Or.inr (⟨rfl, _, _, ⟨hv1, hv2⟩, hq, rfl⟩))
theorem dL_common_0 : decode cL_common 0 = .ok (.aload_n 2, 1) := by decide +kernel
theorem dL_common_1 : decode cL_common 1 = .ok (.iconst 0, 1) := by decide +kernel
theorem dL_common_2 : decode cL_common 2 = .ok (.aload_n 0, 1) := by decide +kernel
theorem dL_common_3 : decode cL_common 3 = .ok (.iload_n 1, 1) := by decide +kernel
theorem dL_common_4 : decode cL_common 4 = .ok (.invokevirtual 71, 3) := by decide +kernel
theorem dL_common_7 : decode cL_common 7 = .ok (.i2l, 1) := by decide +kernel
theorem dL_common_8 : decode cL_common 8 = .ok (.lastore, 1) := by decide +kernel
theorem dL_common_9 : decode cL_common 9 = .ok (.goto 6, 3) := by decide +kernel
theorem dL_common_12 : decode cL_common 12 = .ok (.astore_n 3, 1) := by decide +kernel
theorem dL_common_13 : decode cL_common 13 = .ok (.iconst 1, 1) := by decide +kernel
theorem dL_common_14 : decode cL_common 14 = .ok (.ireturn, 1) := by decide +kernel
theorem dL_common_15 : decode cL_common 15 = .ok (.iconst 0, 1) := by decide +kernel
theorem dL_common_16 : decode cL_common 16 = .ok (.ireturn, 1) := by decide +kernel
def q_L_common (S : zM) (what : Int) : Int32 → zM → Prop := fun r S1 => (x_X4_common S what "java/lang/IllegalArgumentException" ∧ r = zI 1 ∧ S = S1) ∨ (r = zI 0 ∧ ∃ (y9 : Int) (S2 : zM), (-2147483648 ≤ y9 ∧ y9 ≤ 2147483647) ∧ q_X4_common S what (zI y9) S2 ∧ zs S2 8 5 0 y9 = S1)
def r_L_common : Room := { frames := 7, cells := 1, slots := 6, locals := 116 }
set_option maxHeartbeats 4000000 in
set_option maxRecDepth 100000 in
theorem c_L_common (l : Launch) (hlx : l.stackTraces = false) (G : zG) (hG : zok G) (S : zM) (what : Int) (hwhat_ : -2147483648 ≤ what ∧ what ≤ 2147483647) (hms : zMs S 0) (hw : zW (S 0 0))  : vx_Met l yL_common (Cond.codeWith yL_common cL_common 4 (some FieldType.int) [(0, 9, 12, 13)] :: zTbl) r_L_common (va_Pc [.ref (za G 8 0), .int (zI what), .ref (za G 8 5)] (zBX G S)) (va_Qi (q_L_common S what) (zB G) (zA G)) (zXC G (fun _ => False) (fun _ => False)) 1 6 (zA G) := by
  refine zXMetH [(0, .ref (za G 8 0)), (1, .int (zI what)), (2, .ref (za G 8 5))] hG (by decide) (Nat.le_of_ble_eq_true rfl) rfl (fun p e s m args below meth c ls h hX hT hx hb hr hH hl => ?_)
  refine lv_aload_n hx hb dL_common_0 rfl (lv_at hl 2 rfl) ?_
  refine zb_ic h dL_common_1 ?_
  refine lv_aload_n hx hb dL_common_2 rfl (lv_at hl 0 rfl) ?_
  refine lv_iload_n hx hb dL_common_3 rfl (lv_at hl 1 rfl) ?_
  refine zcXV h hX hH (zr_4 h hH) (As := [.int (zI what)]) (rest := [.int (zI 0), .ref (za G 8 5)]) (c_X4_common l hlx G hG S what hwhat_ hms hw) zce_X4_common zcv_X4_common zm_L_71 hl.1 rfl rfl ⟨rfl, rfl⟩ ⟨Nat.le_of_ble_eq_true rfl, Nat.le_of_ble_eq_true rfl⟩ (Nat.le_of_ble_eq_true rfl) ⟨Nat.le_of_ble_eq_true rfl, Nat.le_of_ble_eq_true rfl⟩ dL_common_4 (fun E ce q9 S1 H locs hp hf hH hc1 hc2 hc3 => ?_) (fun r_4 S_4 H locs hq hH => ?_)
  · have hp : S1 = S := hp
    rw [hp] at hH
    unfold x_X4_common at hf
    rcases hf with ⟨rfl, hf⟩
    · refine zct1 h hX ⟨0, 9, 12, 13⟩ _ hT (by decide) (by decide) zl_L_13 zxl_IA hc1 hc2 hc3 ?_
      refine lv_astore_n (lv' := [(3, .ref q9), (0, .ref (za G 8 0)), (1, .int (zI what)), (2, .ref (za G 8 5))]) hx hb dL_common_12 rfl hl (by decide) rfl (fun ls hl => ?_)
      refine zb_ic h dL_common_13 ?_
      refine vx_ret ?_
      refine zri h hr hH ?_ dL_common_14
      exact Or.inl ⟨show x_X4_common S what "java/lang/IllegalArgumentException" from ⟨rfl, hf⟩, rfl, rfl⟩
  · obtain ⟨v_4, hv1, hv2, rfl⟩ := zI_of r_4
    refine zb_i2l h (by omega) dL_common_7 ?_
    refine zout_st h hH dL_common_8 (fun H locs hH => ?_)
    refine lv_goto (tgt := 15) hx hb dL_common_9 (by decide) ?_
    refine zb_ic h dL_common_15 ?_
    refine vx_ret ?_
    refine zri h hr hH ?_ dL_common_16
    exact Or.inr (⟨rfl, _, _, ⟨hv1, hv2⟩, hq, rfl⟩)
