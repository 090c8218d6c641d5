/-! what a call of the law leaves, method by method -/
theorem g_th {S T S2 : zM} {n k : Int} {f A M L : Int → Int} {r2 : Int32} (hI : zInv S n) (hk : k = 1 ∨ k = 2) (hf : f 0 = k ∧ f 4 = S 9 0 4 ∧ f 6 = S 9 0 6) (hT : ∀ k : Nat, k < 8 → T k = S k) (h80 : T 8 0 = S 8 0) (h81 : T 8 1 = S 8 1) (h84 : T 8 4 = S 8 4) (hrd : zRd (T 8 3)) (h2 : zMo T f (S 9 1) A (S 9 3) (S 9 4) M L = S2) : zGl (zI k) r2 S2 n := by
  subst h2
  refine ⟨k, by omega, rfl, by rw [zM_0, hf.1], fun h0 => by omega, _, zeqv_rf _, inv_L hI (fun k _ h => by rw [hT k h]) (by rw [hT 0 (by omega)]) (by rw [h80]) h81 hrd h84 hf.2.1 hf.2.2⟩
theorem g_t0 {S S2 : zM} {n k : Int} {r2 : Int32} (hI : zInv S n) (hk : k = 1 ∨ k = 2) (h2 : zMo S (zup (S 9 0) 0 k) (S 9 1) (S 9 2) (S 9 3) (S 9 4) (S 9 5) (S 9 6) = S2) : zGl (zI k) r2 S2 n :=
  g_th hI hk ⟨zup_s _ _ _, zup_n (by omega), zup_n (by omega)⟩ (fun _ _ => rfl) rfl rfl rfl hI.2.2.2.2.1 h2
theorem g_lk {S S1 S2 : zM} {n y9 : Int} {σ' M' q' A M L : Int → Int} {r2 : Int32} (hI : zInv S n) (hy : -2147483648 ≤ y9 ∧ y9 ≤ 2147483647) (h1 : zs (zPut S 1 σ' M' q') 8 5 0 y9 = S1) (hr : r2 = zI y9) (h2 : zMo S1 (zup (S 9 0) 0 0) (S 9 1) A (S 9 3) (S 9 4) M L = S2) : zGl (zI 0) r2 S2 n := by
  subst h2
  have e8 : ∀ j : Nat, j ≠ 5 → S1 8 j = S 8 j := fun j h => by rw [← h1, zs_j h, zP_n (by omega)]
  refine ⟨0, by omega, rfl, by rw [zM_0, zup_s], fun _ => ?_, _, zeqv_rf _, inv_L hI (fun k hk h => by rw [← h1, zs_k (by omega), zP_n hk]) (by rw [← h1, zs_k (by omega), zP_n (by omega)]) (by rw [e8 _ (by omega)]) (e8 _ (by omega)) (by rw [e8 _ (by omega)]; exact hI.2.2.2.2.1) (e8 _ (by omega)) (zup_n (by omega)) (zup_n (by omega))⟩
  rw [zM_n (by omega), ← h1, zs_s]
  exact ⟨hr, hy⟩
theorem g_lk0 {S S1 S2 : zM} {n y9 : Int} {A M L : Int → Int} {r2 : Int32} (hI : zInv S n) (hy : -2147483648 ≤ y9 ∧ y9 ≤ 2147483647) (h1 : zs S 8 5 0 y9 = S1) (hr : r2 = zI y9) (h2 : zMo S1 (zup (S 9 0) 0 0) (S 9 1) A (S 9 3) (S 9 4) M L = S2) : zGl (zI 0) r2 S2 n :=
  g_lk (σ' := S 1 0) (M' := S 1 2) (q' := S 1 8) hI hy (by rw [zP_id]; exact h1) hr h2
theorem g_kq {S S1 S2 : zM} {n : Int} {σ σ9 Mm q f A M L : Int → Int} {len : Int} (hI : zInv S n) (hok : zOk σ) (hM : ∀ j : Int, 0 ≤ j → j < 10 → Mm j = zMk (σ 1) (σ 2) j) (h0 : S1 0 = zPut (zKeep S) 0 σ Mm q 0) (hk : ∀ k : Nat, 2 ≤ k → k < 8 → S1 k = zKeep S k) (h80 : S1 8 0 5 = len) (hlen : 0 ≤ len ∧ len ≤ 60) (h81 : S1 8 1 = zKeep S 8 1) (hrd : zRd (S1 8 3)) (h84 : S1 8 4 = S 8 4) (hs : σ9 = σ) (hf : f 4 = zSm (S 9 0 4) ∧ f 6 = len) (h2 : zMo S1 f σ9 A (zSv (S 9 3) (S 9 1) (S 9 0 4)) (S 9 4) M L = S2) : zInv S2 (n + 1) := by
  subst hs
  subst h2
  exact inv_K hI hok (by rw [h0, zP_0]) (fun j h1 h2 => by rw [h0, zP_2]; exact hM j h1 h2) (by rw [h80]; exact hf.2) (by rw [h80]; exact hlen) h81 hrd h84 hI.2.2.2.1.1 (fun k h1 h2 => by rw [hk k h1 h2]) hf.1
theorem g_kp {S S1 S2 : zM} {n y9 : Int} {σ σ9 Mm q A M L : Int → Int} {r2 : Int32} (hI : zInv S n) (hok : zOk σ) (hM : ∀ j : Int, 0 ≤ j → j < 10 → Mm j = zMk (σ 1) (σ 2) j) (hy : -2147483648 ≤ y9 ∧ y9 ≤ 2147483647) (h1 : zs (zPut (zKeep S) 0 σ Mm q) 8 5 0 y9 = S1) (hr : r2 = zI y9) (hs : σ9 = σ) (h2 : zMo S1 (zup (zup (S 9 0) 0 0) 4 (zSm ((zup (S 9 0) 0 0) 4))) σ9 A (zSv (S 9 3) (S 9 1) ((zup (S 9 0) 0 0) 4)) (S 9 4) M L = S2) : zGl (zI 0) r2 S2 n := by
  have e8 : ∀ j : Nat, j ≠ 5 → S1 8 j = zKeep S 8 j := fun j h => by rw [← h1, zs_j h, zP_n (by omega)]
  rw [zup_n (by omega)] at h2
  have hq := g_kq (q := q) hI hok hM (by rw [← h1, zs_k (by omega)]) (fun k h h' => by rw [← h1, zs_k (by omega), zP_n (by omega)]) (by rw [e8 _ (by omega), zKp_80]) hI.2.2.2.1.2.2.1 (e8 _ (by omega)) (by rw [e8 _ (by omega), zKp_83]; exact hI.2.2.2.2.1) (by rw [e8 _ (by omega), zKp_84]) hs ⟨by rw [zup_s], by rw [zup_n (by omega), zup_n (by omega)]; exact hI.2.2.2.1.2.1⟩ h2
  refine ⟨0, by omega, rfl, by rw [← h2, zM_0, zup_n (by omega), zup_s], fun _ => ?_, _, zeqv_rf _, hq⟩
  rw [← h2, zM_n (by omega), ← h1, zs_s]
  exact ⟨hr, hy⟩
theorem g_zone {S S1 S2 : zM} {n : Int} {d : Int} {w : Int} {r r2 : Int32} (hI : zInv S n) (h4 : q_L_zone S d w r S1) (h5 : q_X5_zone S1 d w r2 S2) : zGl r r2 S2 n := by
  have i91 := hI.2.2.1
  have i94 : S 9 1 4 = S 0 0 4 := by rw [i91]
  have i96 := hI.2.2.2.1.2.1
  have i04 := hI.2.2.2.2.2.1.1
  have isz := hI.2.2.2.2.2.1.2.1
  have iok := hI.1
  have i4 := zW_4 iok.1
  have ilen := hI.2.2.2.1.2.2.1
  rcases h4 with ⟨hx, hr, hS⟩ | ⟨hx, hr, hS⟩ | ⟨hr, y9, T, hy, hq, h1⟩
  · subst hS; subst hr
    rcases hx with ⟨-, c⟩ | ⟨e, -⟩
    · rcases h5 with ⟨d, h2⟩ | ⟨d, h2⟩ | ⟨d, -⟩
      · exact g_t0 hI (Or.inl rfl) h2
      · exfalso; clear i91; omega
      · exfalso; clear i91; omega
    · exact absurd e (by decide)
  · subst hS; subst hr
    rcases hx with ⟨e, -⟩ | ⟨-, c⟩
    · exact absurd e (by decide)
    · rcases h5 with ⟨d, h2⟩ | ⟨d, h2⟩ | ⟨d, -⟩
      · exfalso; clear i91; omega
      · exact g_t0 hI (Or.inr rfl) h2
      · exfalso; clear i91; omega
  · obtain ⟨c, hv, hq⟩ := hq
    subst hr
    subst hq
    have e9 : S1 9 = S 9 := by rw [← h1, zs_k (by omega), zP_n (by omega), zKp_9]
    unfold q_X5_zone at h5
    rw [e9] at h5
    rcases h5 with ⟨d, h2⟩ | ⟨d, h2⟩ | ⟨d, hv2, h2⟩
    · exfalso; clear hv; omega
    · exfalso; clear hv; omega
    · have hr2 : r2 = zI y9 := by rw [hv2, hv, i91]
      exact g_kp (A := _) hI (zOk_add iok (by omega) (by omega) (by omega)) (fun j h1 h2 => by unfold tAdd; rw [zup_n (by omega), zup_n (by omega), zup_n (by omega), zup_n (by omega), zup_n (by omega), zup_n (by omega), zup_n (by omega), zup_n (by omega), zup_n (by omega), zup_n (by omega), zup_n (by omega), zup_n (by omega)]; exact hI.2.1 j h1 h2) hy h1 hr2 (by rw [i91]) h2
theorem g_want {S S1 S2 : zM} {n : Int} {z : Int} {w : Int} {r r2 : Int32} (hI : zInv S n) (h4 : q_L_want S z w r S1) (h5 : q_X5_want S1 z w r2 S2) : zGl r r2 S2 n := by
  have i91 := hI.2.2.1
  have i94 : S 9 1 4 = S 0 0 4 := by rw [i91]
  have i96 := hI.2.2.2.1.2.1
  have i04 := hI.2.2.2.2.2.1.1
  have isz := hI.2.2.2.2.2.1.2.1
  have iok := hI.1
  have i4 := zW_4 iok.1
  have ilen := hI.2.2.2.1.2.2.1
  rcases h4 with ⟨hx, hr, hS⟩ | ⟨hx, hr, hS⟩ | ⟨hr, y9, T, hy, hq, h1⟩
  · subst hS; subst hr
    rcases hx with ⟨-, c⟩ | ⟨e, -⟩
    · rcases h5 with ⟨d, h2⟩ | ⟨d, h2⟩ | ⟨d, -⟩
      · exact g_t0 hI (Or.inl rfl) h2
      · exfalso; clear i91; omega
      · exfalso; clear i91; omega
    · exact absurd e (by decide)
  · subst hS; subst hr
    rcases hx with ⟨e, -⟩ | ⟨-, c⟩
    · exact absurd e (by decide)
    · rcases h5 with ⟨d, h2⟩ | ⟨d, h2⟩ | ⟨d, -⟩
      · exfalso; clear i91; omega
      · exact g_t0 hI (Or.inr rfl) h2
      · exfalso; clear i91; omega
  · obtain ⟨c, hv, hq⟩ := hq
    subst hr
    subst hq
    have e9 : S1 9 = S 9 := by rw [← h1, zs_k (by omega), zP_n (by omega), zKp_9]
    unfold q_X5_want at h5
    rw [e9] at h5
    rcases h5 with ⟨d, h2⟩ | ⟨d, h2⟩ | ⟨d, hv2, h2⟩
    · exfalso; clear hv; omega
    · exfalso; clear hv; omega
    · have hr2 : r2 = zI y9 := by rw [hv2, hv, i91]
      exact g_kp (A := _) hI (zOk_z (w := 1) iok (by omega) (by omega) (by omega)) (fun j h1 h2 => by rw [zup_n (by omega), zup_n (by omega)]; exact hI.2.1 j h1 h2) hy h1 hr2 (by rw [i91]) h2
theorem g_link {S S1 S2 : zM} {n : Int} {a : Int} {b : Int} {r r2 : Int32} (hI : zInv S n) (h4 : q_L_link S a b r S1) (h5 : q_X5_link S1 a b r2 S2) : zGl r r2 S2 n := by
  have i91 := hI.2.2.1
  have i94 : S 9 1 4 = S 0 0 4 := by rw [i91]
  have i96 := hI.2.2.2.1.2.1
  have i04 := hI.2.2.2.2.2.1.1
  have isz := hI.2.2.2.2.2.1.2.1
  have iok := hI.1
  have i4 := zW_4 iok.1
  have ilen := hI.2.2.2.1.2.2.1
  rcases h4 with ⟨hx, hr, hS⟩ | ⟨hx, hr, hS⟩ | ⟨hr, y9, T, hy, hq, h1⟩
  · subst hS; subst hr
    rcases hx with ⟨-, c⟩ | ⟨e, -⟩
    · rcases h5 with ⟨d, h2⟩ | ⟨d, h2⟩ | ⟨d, -⟩
      · exact g_t0 hI (Or.inl rfl) h2
      · exfalso; clear i91; omega
      · exfalso; clear i91; omega
    · exact absurd e (by decide)
  · subst hS; subst hr
    rcases hx with ⟨e, -⟩ | ⟨-, c⟩
    · exact absurd e (by decide)
    · rcases h5 with ⟨d, h2⟩ | ⟨d, h2⟩ | ⟨d, -⟩
      · exfalso; clear i91; omega
      · exact g_t0 hI (Or.inr rfl) h2
      · exfalso; clear i91; omega
  · obtain ⟨c, hv, hq⟩ := hq
    subst hr
    subst hq
    have e9 : S1 9 = S 9 := by rw [← h1, zs_k (by omega), zP_n (by omega), zKp_9]
    unfold q_X5_link at h5
    rw [e9] at h5
    rcases h5 with ⟨d, h2⟩ | ⟨d, h2⟩ | ⟨d, hv2, h2⟩
    · exfalso; clear hv; omega
    · exfalso; clear hv; omega
    · have ew := iok.1
      have hz : S 0 0 4 ≤ 8 := (zW_4 ew).2
      have eσ : tLk (S 0 0) a b (1 - tb (S 0 0) a b) = tTw (S 0 0) a b := by rw [tLk_tw ew iok.2.2 (by omega) (by omega) rfl, if_neg (by omega)]
      have hb := tTw_bit ew (a := a) (b := b) (by omega) (by omega) (by omega) (x := a) (y := b) (by omega) (by omega)
      rw [if_pos (Or.inl ⟨rfl, rfl⟩)] at hb
      have hbi := tb_in (S 0 0) a b
      have hr2 : r2 = zI y9 := by
        rw [hv2, hv, i91]
        congr 1
        unfold tb at hb hbi ⊢
        rw [hb]
        split <;> omega
      exact g_kp (A := _) hI (by rw [eσ]; exact zOk_tw iok (by omega) (by omega) (by omega)) (fun j h1 h2 => by rw [eσ]; unfold tTw; rw [zup_n (by omega), zup_n (by omega), zup_n (by omega), zup_n (by omega)]; exact hI.2.1 j h1 h2) hy h1 hr2 (by rw [eσ, i91]) h2
theorem g_expose {S S1 S2 : zM} {n : Int} {t : Int} {r r2 : Int32} (hI : zInv S n) (h4 : q_L_expose S t r S1) (h5 : q_X5_expose S1 t r2 S2) : zGl r r2 S2 n := by
  have i91 := hI.2.2.1
  have i94 : S 9 1 4 = S 0 0 4 := by rw [i91]
  have i96 := hI.2.2.2.1.2.1
  have i04 := hI.2.2.2.2.2.1.1
  have isz := hI.2.2.2.2.2.1.2.1
  have iok := hI.1
  have i4 := zW_4 iok.1
  have ilen := hI.2.2.2.1.2.2.1
  rcases h4 with ⟨hx, hr, hS⟩ | ⟨hr, y9, T, hy, hq, h1⟩
  · subst hS; subst hr
    rcases hx with ⟨-, c⟩
    rcases h5 with ⟨d, h2⟩ | ⟨d, -⟩
    · exact g_t0 hI (Or.inl rfl) h2
    · exfalso; clear i91; omega
  · obtain ⟨c, hv, hq⟩ := hq
    subst hr
    subst hq
    have e9 : S1 9 = S 9 := by rw [← h1, zs_k (by omega), zP_n (by omega), zKp_9]
    unfold q_X5_expose at h5
    rw [e9] at h5
    rcases h5 with ⟨d, h2⟩ | ⟨d, hv2, h2⟩
    · exfalso; clear hv; omega
    · obtain ⟨_, h2⟩ := h2
      have hr2 : r2 = zI y9 := by rw [hv2, hv, i91]
      exact g_kp (A := _) hI (zOk_0 iok (by omega)) (fun j h1 h2 => by rw [zup_n (by omega), zup_n (by omega)]; exact hI.2.1 j h1 h2) hy h1 hr2 (by rw [i91]) h2
theorem g_burn {S S1 S2 : zM} {n : Int} {z : Int} {t : Int} {r r2 : Int32} (hI : zInv S n) (h4 : q_L_burn S z t r S1) (h5 : q_X5_burn S1 z t r2 S2) : zGl r r2 S2 n := by
  have i91 := hI.2.2.1
  have i94 : S 9 1 4 = S 0 0 4 := by rw [i91]
  have i96 := hI.2.2.2.1.2.1
  have i04 := hI.2.2.2.2.2.1.1
  have isz := hI.2.2.2.2.2.1.2.1
  have iok := hI.1
  have i4 := zW_4 iok.1
  have ilen := hI.2.2.2.1.2.2.1
  rcases h4 with ⟨hx, hr, hS⟩ | ⟨hx, hr, hS⟩ | ⟨hr, y9, T, hy, hq, h1⟩
  · subst hS; subst hr
    rcases hx with ⟨-, c⟩ | ⟨e, -⟩
    · rcases h5 with ⟨d, h2⟩ | ⟨d, h2⟩ | ⟨d, -⟩
      · exact g_t0 hI (Or.inl rfl) h2
      · exfalso; clear i91; omega
      · exfalso; clear i91; omega
    · exact absurd e (by decide)
  · subst hS; subst hr
    rcases hx with ⟨e, -⟩ | ⟨-, c⟩
    · exact absurd e (by decide)
    · rcases h5 with ⟨d, h2⟩ | ⟨d, h2⟩ | ⟨d, -⟩
      · exfalso; clear i91; omega
      · exact g_t0 hI (Or.inr rfl) h2
      · exfalso; clear i91; omega
  · obtain ⟨c, hv, hq⟩ := hq
    subst hr
    subst hq
    have e9 : S1 9 = S 9 := by rw [← h1, zs_k (by omega), zP_n (by omega), zKp_9]
    unfold q_X5_burn at h5
    rw [e9] at h5
    rcases h5 with ⟨d, h2⟩ | ⟨d, h2⟩ | ⟨d, hv2, h2⟩
    · exfalso; clear hv; omega
    · exfalso; clear hv; omega
    · obtain ⟨_, h2⟩ := h2
      have hr2 : r2 = zI y9 := by rw [hv2, hv, i91]
      exact g_kp (A := _) hI (zOk_z (w := 2) iok (by omega) (by omega) (by omega)) (fun j h1 h2 => by rw [zup_n (by omega), zup_n (by omega)]; exact hI.2.1 j h1 h2) hy h1 hr2 (by rw [i91]) h2
theorem g_hold {S S1 S2 : zM} {n : Int} {z : Int} {t : Int} {r r2 : Int32} (hI : zInv S n) (h4 : q_L_hold S z t r S1) (h5 : q_X5_hold S1 z t r2 S2) : zGl r r2 S2 n := by
  have i91 := hI.2.2.1
  have i94 : S 9 1 4 = S 0 0 4 := by rw [i91]
  have i96 := hI.2.2.2.1.2.1
  have i04 := hI.2.2.2.2.2.1.1
  have isz := hI.2.2.2.2.2.1.2.1
  have iok := hI.1
  have i4 := zW_4 iok.1
  have ilen := hI.2.2.2.1.2.2.1
  rcases h4 with ⟨hx, hr, hS⟩ | ⟨hx, hr, hS⟩ | ⟨hr, y9, T, hy, hq, h1⟩
  · subst hS; subst hr
    rcases hx with ⟨-, c⟩ | ⟨e, -⟩
    · rcases h5 with ⟨d, h2⟩ | ⟨d, h2⟩ | ⟨d, -⟩
      · exact g_t0 hI (Or.inl rfl) h2
      · exfalso; clear i91; omega
      · exfalso; clear i91; omega
    · exact absurd e (by decide)
  · subst hS; subst hr
    rcases hx with ⟨e, -⟩ | ⟨-, c⟩
    · exact absurd e (by decide)
    · rcases h5 with ⟨d, h2⟩ | ⟨d, h2⟩ | ⟨d, -⟩
      · exfalso; clear i91; omega
      · exact g_t0 hI (Or.inr rfl) h2
      · exfalso; clear i91; omega
  · obtain ⟨c, hv, hq⟩ := hq
    subst hr
    subst hq
    have e9 : S1 9 = S 9 := by rw [← h1, zs_k (by omega), zP_n (by omega), zKp_9]
    unfold q_X5_hold at h5
    rw [e9] at h5
    rcases h5 with ⟨d, h2⟩ | ⟨d, h2⟩ | ⟨d, hv2, h2⟩
    · exfalso; clear hv; omega
    · exfalso; clear hv; omega
    · obtain ⟨_, h2⟩ := h2
      have hr2 : r2 = zI y9 := by rw [hv2, hv, i91]
      exact g_kp (A := _) hI (zOk_z (w := 3) iok (by omega) (by omega) (by omega)) (fun j h1 h2 => by rw [zup_n (by omega), zup_n (by omega)]; exact hI.2.1 j h1 h2) hy h1 hr2 (by rw [i91]) h2
theorem g_paper {S S1 S2 : zM} {n : Int} {g : Int} {v : Int} {r r2 : Int32} (hI : zInv S n) (h4 : q_L_paper S g v r S1) (h5 : q_X5_paper S1 g v r2 S2) : zGl r r2 S2 n := by
  have i91 := hI.2.2.1
  have i94 : S 9 1 4 = S 0 0 4 := by rw [i91]
  have i96 := hI.2.2.2.1.2.1
  have i04 := hI.2.2.2.2.2.1.1
  have isz := hI.2.2.2.2.2.1.2.1
  have iok := hI.1
  have i4 := zW_4 iok.1
  have ilen := hI.2.2.2.1.2.2.1
  rcases h4 with ⟨hx, hr, hS⟩ | ⟨hr, y9, T, hy, hq, h1⟩
  · subst hS; subst hr
    rcases hx with ⟨-, c⟩
    rcases h5 with ⟨d, h2⟩ | ⟨d, -⟩
    · exact g_t0 hI (Or.inl rfl) h2
    · exfalso; clear i91; omega
  · obtain ⟨c, hv, hq⟩ := hq
    subst hr
    subst hq
    have e9 : S1 9 = S 9 := by rw [← h1, zs_k (by omega), zP_n (by omega), zKp_9]
    unfold q_X5_paper at h5
    rw [e9] at h5
    rcases h5 with ⟨d, h2⟩ | ⟨d, hv2, h2⟩
    · exfalso; clear hv; omega
    · obtain ⟨_, h2⟩ := h2
      have hr2 : r2 = zI y9 := by rw [hv2, hv, i91]
      exact g_kp (A := _) hI (zOk_g iok (by omega) (by omega)) (fun j h1 h2 => by rw [zup_n (by omega), zup_s, zup_s]) hy h1 hr2 (by rw [i91]) h2
theorem g_set {S S1 S2 : zM} {n : Int} {t : Int} {r r2 : Int32} (hI : zInv S n) (h4 : q_L_set S t r S1) (h5 : q_X5_set S1 t r2 S2) : zGl r r2 S2 n := by
  have i91 := hI.2.2.1
  have i94 : S 9 1 4 = S 0 0 4 := by rw [i91]
  have i96 := hI.2.2.2.1.2.1
  have i04 := hI.2.2.2.2.2.1.1
  have isz := hI.2.2.2.2.2.1.2.1
  have iok := hI.1
  have i4 := zW_4 iok.1
  have ilen := hI.2.2.2.1.2.2.1
  rcases h4 with ⟨hx, hr, hS⟩ | ⟨hr, y9, T, hy, hq, h1⟩
  · subst hS; subst hr
    rcases hx with ⟨-, c⟩
    rcases h5 with ⟨d, h2⟩ | ⟨d, -⟩
    · exact g_t0 hI (Or.inl rfl) h2
    · exfalso; clear i91; omega
  · obtain ⟨c, hv, hq⟩ := hq
    subst hr
    subst hq
    have e9 : S1 9 = S 9 := by rw [← h1, zs_k (by omega), zP_n (by omega), zKp_9]
    unfold q_X5_set at h5
    rw [e9] at h5
    rcases h5 with ⟨d, h2⟩ | ⟨d, hv2, h2⟩
    · exfalso; clear hv; omega
    · have hr2 : r2 = zI y9 := by rw [hv2, hv, i91]
      exact g_kp (A := _) hI (zOk_3 iok (by omega)) (fun j h1 h2 => by rw [zup_n (by omega), zup_n (by omega)]; exact hI.2.1 j h1 h2) hy h1 hr2 (by rw [i91]) h2
theorem g_zoneOf {S S1 S2 : zM} {n : Int} {z : Int} {what : Int} {r r2 : Int32} (hI : zInv S n) (h4 : q_L_zoneOf S z what r S1) (h5 : q_X5_zoneOf S1 z what r2 S2) : zGl r r2 S2 n := by
  have i91 := hI.2.2.1
  have i94 : S 9 1 4 = S 0 0 4 := by rw [i91]
  have i96 := hI.2.2.2.1.2.1
  have i04 := hI.2.2.2.2.2.1.1
  have isz := hI.2.2.2.2.2.1.2.1
  have iok := hI.1
  have i4 := zW_4 iok.1
  have ilen := hI.2.2.2.1.2.2.1
  rcases h4 with ⟨hx, hr, hS⟩ | ⟨hx, hr, hS⟩ | ⟨hr, y9, T, hy, hq, h1⟩
  · subst hS; subst hr
    rcases hx with ⟨-, c⟩ | ⟨e, -⟩
    · rcases h5 with ⟨d, h2⟩ | ⟨d, h2⟩ | ⟨d, -⟩
      · exact g_t0 hI (Or.inl rfl) h2
      · exfalso; clear i91; omega
      · exfalso; clear i91; omega
    · exact absurd e (by decide)
  · subst hS; subst hr
    rcases hx with ⟨e, -⟩ | ⟨-, c⟩
    · exact absurd e (by decide)
    · rcases h5 with ⟨d, h2⟩ | ⟨d, h2⟩ | ⟨d, -⟩
      · exfalso; clear i91; omega
      · exact g_t0 hI (Or.inr rfl) h2
      · exfalso; clear i91; omega
  · obtain ⟨c, hv, hq⟩ := hq
    subst hr
    subst hq
    have e9 : S1 9 = S 9 := by rw [← h1, zs_k (by omega)]
    unfold q_X5_zoneOf at h5
    rw [e9] at h5
    rcases h5 with ⟨d, h2⟩ | ⟨d, h2⟩ | ⟨d, hv2, h2⟩
    · exfalso; clear hv; omega
    · exfalso; clear hv; omega
    · obtain ⟨_, h2⟩ := h2
      exact g_lk0 hI hy h1 (by rw [hv2, hv, i91]) h2
theorem g_mark {S S1 S2 : zM} {n : Int} {n9 : Int} {r r2 : Int32} (hI : zInv S n) (h4 : q_L_mark S n9 r S1) (h5 : q_X5_mark S1 n9 r2 S2) : zGl r r2 S2 n := by
  have i91 := hI.2.2.1
  have i94 : S 9 1 4 = S 0 0 4 := by rw [i91]
  have i96 := hI.2.2.2.1.2.1
  have i04 := hI.2.2.2.2.2.1.1
  have isz := hI.2.2.2.2.2.1.2.1
  have iok := hI.1
  have i4 := zW_4 iok.1
  have ilen := hI.2.2.2.1.2.2.1
  rcases h4 with ⟨hx, hr, hS⟩ | ⟨hr, y9, T, hy, hq, h1⟩
  · subst hS; subst hr
    rcases hx with ⟨-, c⟩
    rcases h5 with ⟨d, h2⟩ | ⟨d, -⟩
    · exact g_t0 hI (Or.inl rfl) h2
    · exfalso; clear i91; omega
  · obtain ⟨c, hv, hq⟩ := hq
    subst hr
    subst hq
    have e9 : S1 9 = S 9 := by rw [← h1, zs_k (by omega)]
    unfold q_X5_mark at h5
    rw [e9] at h5
    rcases h5 with ⟨d, h2⟩ | ⟨d, hv2, h2⟩
    · exfalso; clear hv; omega
    · obtain ⟨_, h2⟩ := h2
      exact g_lk0 hI hy h1 (by rw [hv2, hv, i91]) h2
theorem g_strip {S S1 S2 : zM} {n : Int} {z : Int} {f : Int} {m : Int} {what : Int} {r r2 : Int32} (hI : zInv S n) (h4 : q_L_strip S z f m what r S1) (h5 : q_X5_strip S1 z f m what r2 S2) : zGl r r2 S2 n := by
  have i91 := hI.2.2.1
  have i94 : S 9 1 4 = S 0 0 4 := by rw [i91]
  have i96 := hI.2.2.2.1.2.1
  have i04 := hI.2.2.2.2.2.1.1
  have isz := hI.2.2.2.2.2.1.2.1
  have iok := hI.1
  have i4 := zW_4 iok.1
  have ilen := hI.2.2.2.1.2.2.1
  rcases h4 with ⟨hx, hr, hS⟩ | ⟨hx, hr, hS⟩ | ⟨hr, y9, T, hy, hq, h1⟩
  · subst hS; subst hr
    rcases hx with ⟨-, c⟩ | ⟨e, -⟩
    · rcases h5 with ⟨d, h2⟩ | ⟨d, h2⟩ | ⟨d, -⟩
      · exact g_t0 hI (Or.inl rfl) h2
      · exfalso; clear i91; omega
      · exfalso; clear i91; omega
    · exact absurd e (by decide)
  · subst hS; subst hr
    rcases hx with ⟨e, -⟩ | ⟨-, c⟩
    · exact absurd e (by decide)
    · rcases h5 with ⟨d, h2⟩ | ⟨d, h2⟩ | ⟨d, -⟩
      · exfalso; clear i91; omega
      · exact g_t0 hI (Or.inr rfl) h2
      · exfalso; clear i91; omega
  · obtain ⟨c, hv, hq⟩ := hq
    subst hr
    subst hq
    have e9 : S1 9 = S 9 := by rw [← h1, zs_k (by omega)]
    unfold q_X5_strip at h5
    rw [e9] at h5
    rcases h5 with ⟨d, h2⟩ | ⟨d, h2⟩ | ⟨d, hv2, h2⟩
    · exfalso; clear hv; omega
    · exfalso; clear hv; omega
    · obtain ⟨_, h2⟩ := h2
      exact g_lk0 hI hy h1 (by rw [hv2, hv, i91]) h2
theorem g_count {S S1 S2 : zM} {n : Int} {what : Int} {r r2 : Int32} (hI : zInv S n) (h4 : q_L_count S what r S1) (h5 : q_X5_count S1 what r2 S2) : zGl r r2 S2 n := by
  have i91 := hI.2.2.1
  have i94 : S 9 1 4 = S 0 0 4 := by rw [i91]
  have i96 := hI.2.2.2.1.2.1
  have i04 := hI.2.2.2.2.2.1.1
  have isz := hI.2.2.2.2.2.1.2.1
  have iok := hI.1
  have i4 := zW_4 iok.1
  have ilen := hI.2.2.2.1.2.2.1
  rcases h4 with ⟨hx, hr, hS⟩ | ⟨hr, y9, T, hy, hq, h1⟩
  · subst hS; subst hr
    rcases hx with ⟨-, c⟩
    rcases h5 with ⟨d, h2⟩ | ⟨d, -⟩
    · exact g_t0 hI (Or.inl rfl) h2
    · exfalso; clear i91; omega
  · obtain ⟨c, hv, hq⟩ := hq
    subst hr
    subst hq
    have e9 : S1 9 = S 9 := by rw [← h1, zs_k (by omega)]
    unfold q_X5_count at h5
    rw [e9] at h5
    rcases h5 with ⟨d, h2⟩ | ⟨d, hv2, h2⟩
    · exfalso; clear hv; omega
    · obtain ⟨_, h2⟩ := h2
      exact g_lk0 hI hy h1 (by rw [hv2, hv, i91, zup_n (by omega), i04]) h2
theorem g_ifExposed {S S1 S2 : zM} {n : Int} {t : Int} {w : Int} {r r2 : Int32} (hI : zInv S n) (h4 : q_L_ifExposed S t w r S1) (h5 : q_X5_ifExposed S1 t w r2 S2) : zGl r r2 S2 n := by
  have i91 := hI.2.2.1
  have i94 : S 9 1 4 = S 0 0 4 := by rw [i91]
  have i96 := hI.2.2.2.1.2.1
  have i04 := hI.2.2.2.2.2.1.1
  have isz := hI.2.2.2.2.2.1.2.1
  have iok := hI.1
  have i4 := zW_4 iok.1
  have ilen := hI.2.2.2.1.2.2.1
  rcases h4 with ⟨hx, hr, hS⟩ | ⟨hr, y9, T, hy, hq, h1⟩
  · subst hS; subst hr
    rcases hx with ⟨-, c⟩
    rcases h5 with ⟨d, h2⟩ | ⟨d, -⟩
    · exact g_t0 hI (Or.inl rfl) h2
    · exfalso; clear i91; omega
  · obtain ⟨c, hv, hq⟩ := hq
    subst hr
    obtain ⟨σ', M', q', hq⟩ := hq
    subst hq
    have e9 : S1 9 = S 9 := by rw [← h1, zs_k (by omega), zP_n (by omega)]
    unfold q_X5_ifExposed at h5
    rw [e9] at h5
    rcases h5 with ⟨d, h2⟩ | ⟨d, hv2, h2⟩
    · exfalso; clear hv; omega
    · obtain ⟨_, h2⟩ := h2
      exact g_lk hI hy h1 (by rw [hv2, hv, i91]) h2
theorem g_ifBurned {S S1 S2 : zM} {n : Int} {z : Int} {t : Int} {w : Int} {r r2 : Int32} (hI : zInv S n) (h4 : q_L_ifBurned S z t w r S1) (h5 : q_X5_ifBurned S1 z t w r2 S2) : zGl r r2 S2 n := by
  have i91 := hI.2.2.1
  have i94 : S 9 1 4 = S 0 0 4 := by rw [i91]
  have i96 := hI.2.2.2.1.2.1
  have i04 := hI.2.2.2.2.2.1.1
  have isz := hI.2.2.2.2.2.1.2.1
  have iok := hI.1
  have i4 := zW_4 iok.1
  have ilen := hI.2.2.2.1.2.2.1
  rcases h4 with ⟨hx, hr, hS⟩ | ⟨hx, hr, hS⟩ | ⟨hr, y9, T, hy, hq, h1⟩
  · subst hS; subst hr
    rcases hx with ⟨-, c⟩ | ⟨e, -⟩
    · rcases h5 with ⟨d, h2⟩ | ⟨d, h2⟩ | ⟨d, -⟩
      · exact g_t0 hI (Or.inl rfl) h2
      · exfalso; clear i91; omega
      · exfalso; clear i91; omega
    · exact absurd e (by decide)
  · subst hS; subst hr
    rcases hx with ⟨e, -⟩ | ⟨-, c⟩
    · exact absurd e (by decide)
    · rcases h5 with ⟨d, h2⟩ | ⟨d, h2⟩ | ⟨d, -⟩
      · exfalso; clear i91; omega
      · exact g_t0 hI (Or.inr rfl) h2
      · exfalso; clear i91; omega
  · obtain ⟨c, hv, hq⟩ := hq
    subst hr
    obtain ⟨σ', M', q', hq⟩ := hq
    subst hq
    have e9 : S1 9 = S 9 := by rw [← h1, zs_k (by omega), zP_n (by omega)]
    unfold q_X5_ifBurned at h5
    rw [e9] at h5
    rcases h5 with ⟨d, h2⟩ | ⟨d, h2⟩ | ⟨d, hv2, h2⟩
    · exfalso; clear hv; omega
    · exfalso; clear hv; omega
    · obtain ⟨_, h2⟩ := h2
      exact g_lk hI hy h1 (by rw [hv2, hv, i91]) h2
theorem g_common {S S1 S2 : zM} {n : Int} {what : Int} {r r2 : Int32} (hI : zInv S n) (h4 : q_L_common S what r S1) (h5 : q_X5_common S1 what r2 S2) : zGl r r2 S2 n := by
  have i91 := hI.2.2.1
  have i94 : S 9 1 4 = S 0 0 4 := by rw [i91]
  have i96 := hI.2.2.2.1.2.1
  have i04 := hI.2.2.2.2.2.1.1
  have isz := hI.2.2.2.2.2.1.2.1
  have iok := hI.1
  have i4 := zW_4 iok.1
  have ilen := hI.2.2.2.1.2.2.1
  rcases h4 with ⟨hx, hr, hS⟩ | ⟨hr, y9, T, hy, hq, h1⟩
  · subst hS; subst hr
    rcases hx with ⟨-, c⟩
    rcases h5 with ⟨d, h2⟩ | ⟨d, -⟩
    · exact g_t0 hI (Or.inl rfl) h2
    · exfalso; clear i91; omega
  · obtain ⟨c, hv, hq⟩ := hq
    subst hr
    subst hq
    have e9 : S1 9 = S 9 := by rw [← h1, zs_k (by omega)]
    unfold q_X5_common at h5
    rw [e9] at h5
    rcases h5 with ⟨d, h2⟩ | ⟨d, hv2, h2⟩
    · exfalso; clear hv; omega
    · obtain ⟨_, h2⟩ := h2
      exact g_lk0 hI hy h1 (by rw [hv2, hv, i91]) h2
theorem g_append {S S1 S2 : zM} {n : Int} {t : Int} {r r2 : Int32} (hI : zInv S n) (h4 : q_L_append S t r S1) (h5 : q_X5_append S1 t r2 S2) : zGl r r2 S2 n := by
  have i91 := hI.2.2.1
  have i94 : S 9 1 4 = S 0 0 4 := by rw [i91]
  have i96 := hI.2.2.2.1.2.1
  have i04 := hI.2.2.2.2.2.1.1
  have isz := hI.2.2.2.2.2.1.2.1
  have iok := hI.1
  have i4 := zW_4 iok.1
  have ilen := hI.2.2.2.1.2.2.1
  rcases h4 with ⟨hx, hr, hS⟩ | ⟨hx, hr, hS⟩ | ⟨hr, y9, T, hy, hq, h1⟩
  · subst hS; subst hr
    rcases hx with ⟨-, c⟩ | ⟨e, -⟩
    · rcases h5 with ⟨d, h2⟩ | ⟨d, h2⟩ | ⟨d, -⟩
      · exact g_t0 hI (Or.inl rfl) h2
      · exfalso; clear i91; omega
      · exfalso; clear i91; omega
    · exact absurd e (by decide)
  · subst hS; subst hr
    rcases hx with ⟨e, -⟩ | ⟨-, c⟩
    · exact absurd e (by decide)
    · rcases h5 with ⟨d, h2⟩ | ⟨d, h2⟩ | ⟨d, -⟩
      · exfalso; clear i91; omega
      · exact g_t0 hI (Or.inr rfl) h2
      · exfalso; clear i91; omega
  · obtain ⟨c, hv, hq⟩ := hq
    subst hr
    subst hq
    have e9 : S1 9 = S 9 := by rw [← h1, zs_k (by omega), zC_n (by omega)]
    unfold q_X5_append at h5
    rw [e9] at h5
    rcases h5 with ⟨d, h2⟩ | ⟨d, h2⟩ | ⟨d, hv2, h2⟩
    · exfalso; clear hv; omega
    · exfalso; clear hv; omega
    · subst h2
      have e8 : ∀ j : Nat, j ≠ 5 → S1 8 j = zCl S (zup (S 8 0) 5 (S 8 0 5 + 1)) (S 8 1) (S 8 3) (zup (S 8 4) (S 8 0 5) t) (S 8 5) 8 j := fun j h => by rw [← h1, zs_j h]
      have ek : ∀ k : Nat, k < 8 → S1 k = S k := fun k h => by rw [← h1, zs_k (by omega), zC_n (by omega)]
      have ibf := hI.2.2.2.1.2.2.2
      refine ⟨0, by omega, rfl, by rw [zM_0, zup_n (by omega), zup_s], fun _ => ?_, _, zeqv_rf _, inv_T hI (fun k h => by rw [ek k h]) (by rw [ek 0 (by omega)]) (by rw [e8 _ (by omega), zC_0, zup_s, zup_s, i96]) (by rw [e8 _ (by omega), zC_0, zup_s]; omega) (by rw [e8 _ (by omega), zC_1]) (by rw [e8 _ (by omega), zC_3]; exact hI.2.2.2.2.1) (by rw [e8 _ (by omega), zC_4, i96, hI.2.2.2.1.1]) (fun i a1 a2 => ?_) (by rw [zup_n (by omega), zup_n (by omega)])⟩
      · rw [zM_n (by omega), ← h1, zs_s]
        exact ⟨by rw [hv2, hv, i96], hy⟩
      · rw [e8 _ (by omega), zC_4]
        by_cases e : i = S 8 0 5
        · rw [e, zup_s]; omega
        · rw [zup_n e]; exact ibf i a1 a2
theorem g_undo {S S1 S2 : zM} {n : Int}  {r r2 : Int32} (hI : zInv S n) (h4 : q_L_undo S  r S1) (h5 : q_X5_undo S1  r2 S2) : zGl r r2 S2 n := by
  have i91 := hI.2.2.1
  have i94 : S 9 1 4 = S 0 0 4 := by rw [i91]
  have i96 := hI.2.2.2.1.2.1
  have i04 := hI.2.2.2.2.2.1.1
  have isz := hI.2.2.2.2.2.1.2.1
  have iok := hI.1
  have i4 := zW_4 iok.1
  have ilen := hI.2.2.2.1.2.2.1
  rcases h4 with ⟨hx, hr, hS⟩ | ⟨hr, y9, T, hy, hq, h1⟩
  · subst hS; subst hr
    rcases hx with ⟨-, c⟩
    rcases h5 with ⟨d, h2⟩ | ⟨d, -⟩
    · exact g_t0 hI (Or.inl rfl) h2
    · exfalso; clear i91; omega
  · obtain ⟨c, hv, hq⟩ := hq
    subst hr
    subst hq
    have e9 : S1 9 = S 9 := by rw [← h1, zs_k (by omega)]; unfold zGive; rw [zC_n (by omega), zP_n (by omega)]
    unfold q_X5_undo at h5
    rw [e9] at h5
    rcases h5 with ⟨d, h2⟩ | ⟨d, hv2, h2⟩
    · exfalso; clear hv; omega
    · have e8 : ∀ j : Nat, j ≠ 5 → S1 8 j = zGive S 8 j := fun j h => by rw [← h1, zs_j h]
      have ek : ∀ k : Nat, k ≠ 8 → S1 k = zGive S k := fun k h => by rw [← h1, zs_k h]
      have ez : zsl S (S 8 1 1 - 1) = ((S 8 1 2 - 1) % 6).toNat + 2 := by unfold zsl; rw [show S 8 1 2 - S 8 1 1 + (S 8 1 1 - 1) = S 8 1 2 - 1 by omega]
      have hu := inv_U (T := S1) (f := zup (zup (S 9 0) 0 0) 4 (S 9 0 4 - 1)) (a := S 9 2) (t := S 9 4) (Mx := S 9 5) (L := S 9 6) hI c (by rw [ek 0 (by omega), ez]; unfold zGive; rw [zC_n (by omega), zP_0]) (by rw [ek 0 (by omega)]; unfold zGive; rw [zC_n (by omega), zP_2, zP_0]) (fun k a1 a2 => by rw [ek k (by omega)]; unfold zGive; rw [zC_n (by omega), zP_n (by omega)]) (by rw [e8 _ (by omega)]; unfold zGive; rw [zC_0]) (by rw [e8 _ (by omega)]; unfold zGive; rw [zC_1, zup_s]) (by rw [e8 _ (by omega)]; unfold zGive; rw [zC_1, zup_n (by omega), zup_s]) (by rw [e8 _ (by omega)]; unfold zGive; rw [zC_3]) (by rw [e8 _ (by omega)]; unfold zGive; rw [zC_4]) (zup_s _ _ _) (by rw [zup_n (by omega), zup_n (by omega)]) rfl
      subst h2
      refine ⟨0, by omega, rfl, by rw [zM_0, zup_n (by omega), zup_s], fun _ => ?_, _, hu.2, hu.1⟩
      rw [zM_n (by omega), ← h1, zs_s]
      exact ⟨by rw [hv2, hv, i04], hy⟩
theorem g_run {S S1 S2 : zM} {n : Int} {r r2 : Int32} (hI : zInv S n) (h4 : q_L_run S r S1) (h5 : q_X5_run S1 (zup (S 8 3) 0 0) r2 S2) : zGl r r2 S2 n := by
  have i91 := hI.2.2.1
  have i96 := hI.2.2.2.1.2.1
  have i94 := hI.2.2.2.1.1
  have ilen := hI.2.2.2.1.2.2.1
  rcases h4 with ⟨hx, hr, ρ', hρ, h1⟩ | ⟨hr, y9, T, hy, ⟨c, hv, ρ', hρ, hq⟩, h1⟩
  · subst hr
    rcases hx with ⟨-, c⟩
    have e9 : S1 9 = S 9 := by rw [← h1, zC_n (by omega)]
    unfold q_X5_run at h5
    rw [e9, i94, i96] at h5
    rcases h5 with ⟨d, f, hf, h2⟩ | ⟨d, -⟩
    · rw [← i94] at h2
      exact g_th (f := f) hI (Or.inl rfl) ⟨hf.1, hf.2.1, by rw [hf.2.2, i96]⟩ (fun k h => by rw [← h1, zC_n (by omega)]) (by rw [← h1, zC_0]) (by rw [← h1, zC_1]) (by rw [← h1, zC_4]) (by rw [← h1, zC_3]; exact hρ) h2
    · exact absurd d c
  · subst hr
    have e9 : S1 9 = S 9 := by rw [← h1, ← hq, zs_k (by omega), zs_k (by omega)]; unfold zDM; rw [zC_n (by omega), zP_n (by omega), zKp_9]
    unfold q_X5_run at h5
    rw [e9, i96, i94, i91] at h5
    rcases h5 with ⟨d, -⟩ | ⟨d, hv2, f, M', hf, h2⟩
    · exact absurd c d
    · have hc := cD_in (zup_s (S 8 3) 0 0) c hI.1 (S 8 0 5).toNat (by omega)
      rw [← i94] at h2
      rw [i94] at h2
      have e8 : ∀ j : Nat, j ≠ 5 → j ≠ 0 → S1 8 j = zDM (zKeep S) (cD (S 8 4) (zup (S 8 3) 0 0) (S 8 0 5) (S 0 0) (S 8 0 5).toNat).1 ρ' 8 j := fun j h h' => by rw [← h1, ← hq, zs_j h, zs_j h']
      have ek : ∀ k : Nat, k ≠ 8 → S1 k = zPut (zKeep S) 0 (cD (S 8 4) (zup (S 8 3) 0 0) (S 8 0 5) (S 0 0) (S 8 0 5).toNat).1 (zKeep S 0 2) (zKeep S 0 8) k := fun k h => by rw [← h1, ← hq, zs_k h, zs_k h]; unfold zDM; rw [zC_n h]
      have e5 : S1 8 0 5 = 0 := by rw [← h1, ← hq, zs_j (by omega), zs_s]
      have h2' : zMo S1 f (cD (S 8 4) (zup (S 8 3) 0 0) (S 8 0 5) (S 0 0) (S 8 0 5).toNat).1 (S 9 2) (zSv (S 9 3) (S 9 1) (S 9 0 4)) (S 9 4) M' (S 9 6) = S2 := by rw [i91, i94]; exact h2
      have hk := g_kq (len := 0) (Mm := zKeep S 0 2) (q := zKeep S 0 8) hI hc.1 (fun j a1 a2 => by rw [hc.2.1, hc.2.2, zKp_0]; exact hI.2.1 j a1 a2) (ek 0 (by omega)) (fun k a1 a2 => by rw [ek k (by omega), zP_n (by omega)]) e5 (by omega) (by rw [e8 _ (by omega) (by omega), zDM_81]) (by rw [e8 _ (by omega) (by omega), zDM_83]; exact hρ) (by rw [e8 _ (by omega) (by omega), zDM_84, zKp_84]) rfl ⟨hf.2.1, hf.2.2⟩ h2'
      refine ⟨0, by omega, rfl, by rw [← h2', zM_0, hf.1], fun _ => ?_, _, zeqv_rf _, hk⟩
      rw [← h2', zM_n (by omega), ← h1, zs_s]
      exact ⟨by rw [hv2, hv], hy⟩
/-! the plain ones: nothing written into the law's row -/
theorem g_plan {S S1 S2 : zM} {n : Int} {r r2 : Int32} (hI : zInv S n) (h4 : q_X4_plan S r S1) (h5 : q_X5_plan S1 r2 S2) : r = r2 ∧ zInv S2 (n + 1) := by
  have i91 := hI.2.2.1
  obtain ⟨hv, q', hq⟩ := h4
  have e9 : S1 9 = S 9 := by rw [← hq, zP_n (by omega), zKp_9]
  obtain ⟨hv2, M', L', h2⟩ := h5
  rw [e9] at hv2 h2
  rw [zup_n (by omega)] at h2
  have hw := hI.1.1
  have hp := (tPlan_in hw).2.2
  refine ⟨by rw [hv, hv2, i91], ?_⟩
  exact g_kq (len := S 8 0 5) (Mm := S 0 2) (q := q') hI (zOk_plan hI.1) (fun j a1 a2 => by rw [hp.1, hp.2]; exact hI.2.1 j a1 a2) (by rw [← hq]) (fun k a1 a2 => by rw [← hq, zP_n (by omega)]) (by rw [← hq, zP_n (by omega), zKp_80]) hI.2.2.2.1.2.2.1 (by rw [← hq, zP_n (by omega)]) (by rw [← hq, zP_n (by omega), zKp_83]; exact hI.2.2.2.2.1) (by rw [← hq, zP_n (by omega), zKp_84]) (by rw [i91]) ⟨by rw [zup_s], by rw [zup_n (by omega), zup_n (by omega)]; exact hI.2.2.2.1.2.1⟩ h2
theorem g_l1 {S S1 : zM} {n : Int} {σ' M' q' f A M L : Int → Int} (hI : zInv S n) (h1 : zPut S 1 σ' M' q' = S1) (hf : f 4 = S 9 0 4 ∧ f 6 = S 9 0 6) {S2 : zM} (h2 : zMo S1 f (S 9 1) A (S 9 3) (S 9 4) M L = S2) : zInv S2 (n + 1) := by
  subst h2
  have e : ∀ k : Nat, k ≠ 1 → S1 k = S k := fun k h => by rw [← h1, zP_n h]
  exact inv_L hI (fun k h _ => by rw [e k h]) (by rw [e 0 (by omega)]) (by rw [e 8 (by omega)]) (by rw [e 8 (by omega)]) (by rw [e 8 (by omega)]; exact hI.2.2.2.2.1) (by rw [e 8 (by omega)]) hf.1 hf.2
theorem g_bestTime {S S1 S2 : zM} {n : Int} {r r2 : Int32} (hI : zInv S n) (h4 : q_X4_bestTime S r S1) (h5 : q_X5_bestTime S1 r2 S2) : r = r2 ∧ zInv S2 (n + 1) := by
  obtain ⟨hv, σ', M', q', h1⟩ := h4
  have e9 : S1 9 = S 9 := by rw [← h1, zP_n (by omega)]
  obtain ⟨hv2, M2, h2⟩ := h5
  rw [e9] at hv2 h2
  exact ⟨by rw [hv, hv2, hI.2.2.1], g_l1 hI h1 ⟨zup_n (by omega), zup_n (by omega)⟩ h2⟩
theorem g_bestGrade {S S1 S2 : zM} {n : Int} {r r2 : Int32} (hI : zInv S n) (h4 : q_X4_bestGrade S r S1) (h5 : q_X5_bestGrade S1 r2 S2) : r = r2 ∧ zInv S2 (n + 1) := by
  obtain ⟨hv, σ', M', q', h1⟩ := h4
  have e9 : S1 9 = S 9 := by rw [← h1, zP_n (by omega)]
  obtain ⟨hv2, A2, M2, L2, h2⟩ := h5
  rw [e9] at hv2 h2
  exact ⟨by rw [hv, hv2, hI.2.2.1], g_l1 hI h1 ⟨zup_n (by omega), zup_n (by omega)⟩ h2⟩
theorem g_rightShare {S S1 S2 : zM} {n : Int} {r r2 : UInt64} (hI : zInv S n) (h4 : q_X4_rightShare S r S1) (h5 : q_X5_rightShare S1 r2 S2) : r = r2 ∧ r = zShv (tCnt (S 0 0) 0) (S 0 0 4) ∧ zInv S2 (n + 1) := by
  obtain ⟨hv, h1⟩ := h4
  subst h1
  obtain ⟨hv2, M2, h2⟩ := h5
  exact ⟨by rw [hv, hv2, hI.2.2.1], hv, g_l1 hI (zP_id S 1) ⟨zup_n (by omega), zup_n (by omega)⟩ h2⟩
theorem g_digest {S S1 S2 : zM} {n : Int} {r r2 : Int64} (hI : zInv S n) (h4 : q_X4_digest S r S1) (h5 : q_X5_digest S1 r2 S2) : r = r2 ∧ zInv S2 (n + 1) := by
  obtain ⟨hv, σ', M', q', h1⟩ := h4
  have e9 : S1 9 = S 9 := by rw [← h1, zP_n (by omega)]
  obtain ⟨hv2, f, A2, M2, L2, hf, h2⟩ := h5
  rw [e9] at hv2 h2 hf
  exact ⟨by rw [hv, hv2, hI.2.2.1, hI.2.2.2.1.1, hI.2.2.2.1.2.1, hI.2.2.2.2.2.1.1], g_l1 hI h1 hf.2 h2⟩
theorem g_clearBuffer {S S1 S2 : zM} {n : Int} {r r2 : Int32} (hI : zInv S n) (h4 : q_X4_clearBuffer S r S1) (h5 : q_X5_clearBuffer S1 r2 S2) : r = r2 ∧ zInv S2 (n + 1) := by
  obtain ⟨hv, h1⟩ := h4
  have e9 : S1 9 = S 9 := by rw [← h1, zC_n (by omega)]
  obtain ⟨hv2, h2⟩ := h5
  rw [e9] at hv2 h2
  subst h2
  exact ⟨by rw [hv, hv2, hI.2.2.2.1.2.1], inv_T hI (fun k h => by rw [← h1, zC_n (by omega)]) (by rw [← h1, zC_n (by omega)]) (by rw [← h1, zC_0, zup_s, zup_s]) (by rw [← h1, zC_0, zup_s]; omega) (by rw [← h1, zC_1]) (by rw [← h1, zC_3]; exact hI.2.2.2.2.1) (by rw [← h1, zC_4]; exact hI.2.2.2.1.1) (by rw [← h1, zC_4]; exact hI.2.2.2.1.2.2.2) (by rw [zup_n (by omega), zup_n (by omega)])⟩
theorem g_firstError {S S1 S2 : zM} {n : Int} {r r2 : Int32} (hI : zInv S n) (h4 : q_X4_firstError S r S1) (h5 : q_X5_firstError S1 (zup (S 8 3) 0 0) r2 S2) : r = r2 ∧ zInv S2 (n + 1) := by
  obtain ⟨e, ρ', hv, he, hacc, hbad, hρ, -, h1⟩ := h4
  have e9 : S1 9 = S 9 := by rw [← h1, zC_n (by omega)]
  obtain ⟨y, f, hv2, ⟨hy, hyl, hyb⟩, hf, h2⟩ := h5
  rw [e9] at hf h2
  rw [e9, hI.2.2.2.1.1] at hy hyb
  rw [e9, hI.2.2.2.1.2.1] at hyl
  rw [hI.2.2.2.1.2.1] at hyb
  have ee : e = y := by
    rcases Int.lt_trichotomy e y with a | a | a
    · exact absurd (hy e he.1 a) (hbad (by omega))
    · exact a
    · exact absurd (hacc y hyl.1 a) (hyb (by omega))
  subst h2
  refine ⟨by rw [hv, hv2, ee], inv_L hI (fun k h h' => by rw [← h1, zC_n (by omega)]) (by rw [← h1, zC_n (by omega)]) (by rw [← h1, zC_0]) (by rw [← h1, zC_1]) (by rw [← h1, zC_3]; exact hρ) (by rw [← h1, zC_4]) ?_ ?_⟩
  · rw [hf 4 (by omega), zup_n (by omega)]
  · rw [hf 6 (by omega), zup_n (by omega)]
