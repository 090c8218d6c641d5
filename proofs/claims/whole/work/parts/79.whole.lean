set_option maxHeartbeats 4000000 in
set_option maxRecDepth 100000 in
theorem whole_start {p : Program} {e : Env} {s : State} {m : MethodId} {below : List Frame} {meth : Method} {c : Code} (l : Launch) (hflags : l.flags = flags0) {b L : Nat} {xs : Nat → Int32} (hL : L ≤ 2560) (C0 : lw_At p s m meth c b L xs) : W p l e room_1 s m #[Value.ref b] below meth c s.heap [] 0 0 (lw_Z below #[Value.ref b] s) (entryFrame m ([Value.ref b] : List Value).toArray 9) := by
  obtain ⟨hx, hb, hr, hml, hown, hts, hX, hbl, hlocks, hgv⟩ := id C0
  have hst : l.stackTraces = false := by unfold Launch.stackTraces; rw [hflags]; decide +kernel
  have hg := zgv_st hgv
  have hF : ∀ a : Nat, a < s.heap.size → ¬ (fun q : Nat => s.heap.size ≤ q) a := fun a h => Nat.not_le.mpr h
  obtain ⟨D, cs, hK⟩ := zgv_K hts
  obtain ⟨t1, z1, y1⟩ := zgv_STEPS hts hg hF
  obtain ⟨t2, z2, y2⟩ := zgv_THROUGH hts hg hF
  obtain ⟨t3, z3, y3⟩ := zgv_THIRDS hts hg hF
  obtain ⟨G, hG⟩ : ∃ G : zG, G = (D, cs, (fun k j => s.heap.size + zp k j), s.heap.size, t1, t2, t3) := ⟨_, rfl⟩
  have hok : zok G := by
    subst hG
    refine ⟨fun k j k' j' h1 h2 he => ?_, fun k j _ => Nat.le_add_right _ _⟩
    have this : zp k j = zp k' j' := by have he : s.heap.size + zp k j = s.heap.size + zp k' j' := he; omega
    unfold zp at this
    unfold zin at h1 h2
    split at this <;> split at this <;> (try split at this) <;> (try split at this) <;> omega
  have hU : zU G s := by
    subst hG
    exact ⟨hK, Nat.le_refl _, fun w hw => va_Nw.of (zNest_on w hw) (hts w (zNest_in w hw)), ⟨z1, y1⟩, ⟨z2, y2⟩, ⟨z3, y3⟩⟩
  have hO : va_AO "ZonePrint$Print" s := va_AO.of (hts _ zao_Print)
  have hn : zn G = s.heap.size := by subst hG; rfl
  have hxw : zXw G s := zgv_zXw hts hg (fun a h => by show ¬ zn G ≤ a; rw [hn]; exact Nat.not_le.mpr h)
  have h : zE p s m #[Value.ref b] meth c code 9 RL G := ⟨hx, hb, hml, hown, fun w hw => hts w (zTbl_in w hw), hlocks, hU, hok⟩
  have hKK := h.2.2.2.2.2.2.1.1
  have hS : va_S (zA G) s.heap s.heap [] := va_S.rf
  have hA : ∀ q, s.heap.size ≤ q → zA G q := fun q hq => by show zn G ≤ q; rw [hn]; exact hq
  have hAz : ∀ q, zA G q → zn G ≤ q := fun q hq => hq
  have hP : va_P (zD G) vwCl [] s.heap := fun k q h => by simp at h
  have hD : va_D (zA G) [] := ⟨fun i j p q h => by simp at h, fun k q h => by simp at h⟩
  have hl := lv_entry ([.ref b]) (n := 9) (Nat.le_of_ble_eq_true rfl)
  rw [lg_entry_eq]
  generalize (lg_sl ([.ref b]) ++ List.replicate (9 - (lg_sl ([.ref b])).length) Slot.unset).toArray = ls at hl ⊢
  have hl : lv_has ls 9 [(0, .ref b)] := hl
  refine va_new (D := zD G) (ci := 4) (fs := [.null, .null, .null, .null, .null, .int 0]) (C := RX4) (T := TX4) (N := 6) h.1 h.2.1 h.2.2.2.2.1 zin_X4 tyX4 tyX4_ok h.2.2.2.1 (h.2.2.2.2.1 _ zl_L_8) (h.2.2.2.2.1 _ zo_X4) (h.2.2.2.2.1 _ zn_X4) hKK hP hD hS hA rfl (zdf_X4) (Nat.le_of_ble_eq_true rfl) (Nat.le_of_ble_eq_true rfl) dL_law_0 (fun q4 H hP hD hS => ?_)
  refine lv_dup hx hb dL_law_3 rfl ?_
  refine zCtor (ws := []) (wc := [(q4, .inr (4, [.null, .null, .null, .null, .null, .int 0]))]) h hO hP hD hS hA hAz (c_X4_init l G hok q4) zce_X4_init zi_X4_init rfl zm_L_74 hl.1 (by decide +kernel) ⟨Nat.le_of_ble_eq_true rfl, Nat.le_of_ble_eq_true rfl⟩ (Nat.le_of_ble_eq_true rfl) ⟨Nat.le_of_ble_eq_true rfl, Nat.le_of_ble_eq_true rfl⟩ dL_law_4 (fun u H locs hu hP hD hS => ?_)
  have hP : va_P (zD G) vwCl (zCw G q4 u) H := hP
  have hD : va_D (zA G) (zCw G q4 u) := hD
  refine lv_astore_n (lv' := [(1, .ref q4), (0, .ref b)]) hx hb dL_law_7 rfl hl (by decide) rfl (fun ls hl => ?_)
  refine va_new (D := zD G) (ci := 5) (fs := [.int 0, .null, .null, .null, .int 0, .null, .int 0, .null, .null, .int 0, .int 0, .int 0, .int 0, .int 0, .long 0]) (C := RX5) (T := TX5) (N := 15) h.1 h.2.1 h.2.2.2.2.1 zin_X5 tyX5 tyX5_ok h.2.2.2.1 (h.2.2.2.2.1 _ zl_L_75) (h.2.2.2.2.1 _ zo_X5) (h.2.2.2.2.1 _ zn_X5) hKK hP hD hS hA rfl (zdf_X5) (Nat.le_of_ble_eq_true rfl) (Nat.le_of_ble_eq_true rfl) dL_law_8 (fun q5 H hP hD hS => ?_)
  refine lv_dup hx hb dL_law_11 rfl ?_
  refine zCtor (wc := [(q5, .inr (5, [.int 0, .null, .null, .null, .int 0, .null, .int 0, .null, .null, .int 0, .int 0, .int 0, .int 0, .int 0, .long 0]))]) h hO hP hD hS hA hAz (c_X5_init l G hok q5) zce_X5_init zi_X5_init rfl zm_L_77 hl.1 (by decide +kernel) ⟨Nat.le_of_ble_eq_true rfl, Nat.le_of_ble_eq_true rfl⟩ (Nat.le_of_ble_eq_true rfl) ⟨Nat.le_of_ble_eq_true rfl, Nat.le_of_ble_eq_true rfl⟩ dL_law_12 (fun v H locs hv hP hD hS => ?_)
  refine lv_astore_n (lv' := [(2, .ref q5), (1, .ref q4), (0, .ref b)]) hx hb dL_law_15 rfl hl (by decide) rfl (fun ls hl => ?_)
  refine zb_ic (n := 1) h dL_law_16 ?_
  refine va_newa (atype := .long) (ty := .long) (a0 := (1, .inr (.inl (fun _ => zL 0)))) (N' := 1) h.1 h.2.1 (h.2.2.2.2.1 _ za_1099) rfl hKK hP hD hS hA (fun cA => rfl) (by decide +kernel) (by decide +kernel) (by decide) (Nat.le_of_ble_eq_true rfl) (Nat.le_of_ble_eq_true rfl) dL_law_17 (fun rj cA H hK2 hP hD hS => ?_)
  have ec : cA = zcJ G := Option.some.inj ((show _ = some cA from (hK2.2 3 (cA, .long) rfl).2).symm.trans (hKK.2 2 (zcJ G, .long) rfl).2)
  subst ec
  obtain ⟨x, hxm, hP, hD⟩ := zw_start hu.1 hP hD
  refine lv_astore_n (lv' := [(3, .ref rj), (2, .ref q5), (1, .ref q4), (0, .ref b)]) hx hb dL_law_19 rfl hl (by decide) rfl (fun ls hl => ?_)
  refine zb_ic (n := 0) h dL_law_20 ?_
  refine lv_istore (lv' := [(4, .int (zI 0)), (3, .ref rj), (2, .ref q5), (1, .ref q4), (0, .ref b)]) hx hb dL_law_21 hl (by decide) rfl (fun ls hl => ?_)
  generalize hG2 : ((G.1, G.2.1, zaF q4 q5 rj u x v, G.2.2.2) : zG) = G2 at hP hD
  have hU2 : zU G2 s := by subst hG2; exact hU
  have hA2 : zA G2 = zA G := by subst hG2; rfl
  have hok2 : zok G2 := zok_of (S := zSF u x) (by rw [hA2]; exact hD)
  have h2 : zE p s m #[Value.ref b] meth c code 9 RL G2 := ⟨hx, hb, hml, hown, fun w hw => hts w (zTbl_in w hw), hlocks, hU2, hok2⟩
  have hxw2 : zXw G2 s := by subst hG2; exact hxw
  have hn2 : zn G2 = s.heap.size := by subst hG2; exact hn
  have hH : zH G2 (zSF u x) s _ _ := ⟨by subst hG2; exact hP, by rw [hA2]; exact hS⟩
  have hl2 : lv_has ls 9 [(0, .ref b), (1, .ref (za G2 8 0)), (2, .ref (za G2 9 0)), (3, .ref (za G2 8 5)), (4, .int (zI 0))] := by
    subst hG2
    exact lv_sub hl [4, 3, 2, 1, 0] rfl
  have CC : zLw p l s m #[Value.ref b] meth c G2 b L xs := ⟨h2, hxw2, hst, hX, hbl, by rw [hn2]; exact hbl, hL⟩
  refine law_loop CC ?_ 601 0 0 (zSF u x) _ _ ls _ _ (by omega) (by omega) (by omega) (by omega) ?_ (zInv_start (G := G2) hu.2.2) hH hl2
  · intro S H locs ls cells slots hc hs hH
    refine lv_iconst (v := 1) hx hb dL_law_1418 (by decide) ?_
    refine va_forget (fun q hq => by have := hH.2.2.2 q hq; rw [hA2] at this; show s.heap.size ≤ q.base; rw [← hn]; exact this) ?_
    refine W.widen (k := 629837) (n := 7206592) hc hs ?_
    refine W.base ?_
    exact lw_ret (d0 := s.drawn) (Drawn.sameBut.refl s.drawn lw_cs) hx hb hr hlocks dL_law_1419
  · refine ⟨?_, ?_⟩ <;> omega
