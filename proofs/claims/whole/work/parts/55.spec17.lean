theorem zKp_80 {S : zM} : zKeep S 8 0 = S 8 0 := by unfold zKeep; rw [zC_0]
theorem zKp_81 {S : zM} : zKeep S 8 1 = zup (zup (S 8 1) 2 (S 8 1 2 + 1)) 1 (min (S 8 1 1 + 1) 6) := by unfold zKeep; rw [zC_1]
theorem zKp_83 {S : zM} : zKeep S 8 3 = S 8 3 := by unfold zKeep; rw [zC_3]
theorem zKp_84 {S : zM} : zKeep S 8 4 = S 8 4 := by unfold zKeep; rw [zC_4]
theorem zKp_85 {S : zM} : zKeep S 8 5 = S 8 5 := by unfold zKeep; rw [zC_5]
/-- the class's reader writes its four numbers alone -/
theorem oN_x {r : Int → Int} {c x : Int} (h : x < 0 ∨ 3 < x) : oN r c x = r x := by
  unfold oN
  split
  · unfold oL; rw [zup_n (by omega), zup_n (by omega), zup_n (by omega), zup_n (by omega)]
  · split
    · unfold oF
      split
      · rw [zup_n (by omega)]
      · split
        · rw [zup_n (by omega), zup_n (by omega)]
        · rw [zup_n (by omega)]
    · unfold oA
      split
      · rw [zup_n (by omega)]
      · rw [zup_n (by omega)]
theorem oRow_x {t r : Int → Int} {x : Int} (h : x < 0 ∨ 3 < x) : ∀ n : Nat, oRow t r n x = r x := by
  intro n
  induction n with
  | zero => rfl
  | succ n ih => simp only [oRow]; rw [oN_x h, ih]
theorem oL_eq {r r' : Int → Int} (h : ∀ x : Int, x < 0 ∨ 3 < x → r x = r' x) (c : Int) : oL r c = oL r' c := by
  funext x
  unfold oL
  by_cases e0 : x = 0
  · rw [e0, zup_s, zup_s]
  · rw [zup_n e0, zup_n e0]
    by_cases e3 : x = 3
    · rw [e3, zup_s, zup_s]
    · rw [zup_n e3, zup_n e3]
      by_cases e2 : x = 2
      · rw [e2, zup_s, zup_s]
      · rw [zup_n e2, zup_n e2]
        by_cases e1 : x = 1
        · rw [e1, zup_s, zup_s]
        · rw [zup_n e1, zup_n e1, h x (by omega)]
theorem oRow_eq {t r r' : Int → Int} (h : ∀ x : Int, x < 0 ∨ 3 < x → r x = r' x) (h0 : r 0 = 0) (h0' : r' 0 = 0) : ∀ n : Nat, oRow t r (n + 1) = oRow t r' (n + 1) := by
  intro n
  induction n with
  | zero => simp only [oRow]; rw [oN_0 h0, oN_0 h0', oL_eq h]
  | succ n ih => simp only [oRow] at ih ⊢; rw [ih]
theorem cD_eq {t r r' : Int → Int} (h : ∀ x : Int, x < 0 ∨ 3 < x → r x = r' x) (h0 : r 0 = 0) (h0' : r' 0 = 0) (len : Int) (σ : Int → Int) : ∀ n : Nat, cD t r len σ n = cD t r' len σ n := by
  intro n
  induction n with
  | zero => rfl
  | succ n ih => simp only [cD]; rw [ih, oRow_eq h h0 h0']
theorem zFull_eq {t r r' : Int → Int} {len : Int} (h : ∀ x : Int, x < 0 ∨ 3 < x → r x = r' x) (h0 : r 0 = 0) (h0' : r' 0 = 0) (hl : 0 ≤ len) (hf : zFull t r len) : zFull t r' len := by
  have e : ∀ i : Int, 1 ≤ i → zR t r i = zR t r' i := by
    intro i hi
    have := oRow_eq (t := t) h h0 h0' (i.toNat - 1)
    rw [show i.toNat - 1 + 1 = i.toNat by omega] at this
    exact this
  refine ⟨fun j h1 h2 => ?_, ?_⟩
  · have h3 := hf.1 j h1 h2
    by_cases ej : 1 ≤ j
    · rw [← e j ej]; exact h3
    · have ej0 : j = 0 := by omega
      subst ej0
      have h4 : oK r (t 0) := h3
      show oK r' (t 0)
      rw [oK_0 h0]  at h4
      rw [oK_0 h0']
      exact h4
  · by_cases ej : 1 ≤ len
    · rw [← e len ej]; exact hf.2
    · have ej0 : len = 0 := by omega
      subst ej0
      have h4 : zEnds r := hf.2
      have := h4.1
      omega
/-- run's memory: where the reader stood before doesn't matter -/
theorem zRun_eq {S T : zM} {ρ : Int → Int} (hT : T = zCl S (S 8 0) (S 8 1) ρ (S 8 4) (S 8 5)) (hrd : zRd ρ) (hρ : S 8 0 5 = S 8 0 5 → ρ = zR (S 8 4) (zup (S 8 3) 0 0) (S 8 0 5)) (hf : zFull (S 8 4) (zup (S 8 3) 0 0) (S 8 0 5)) :
    zFull (zKeep T 8 4) (zup (zKeep T 8 3) 0 0) (zKeep T 8 0 5) ∧ cD (zKeep T 8 4) (zup (zKeep T 8 3) 0 0) (zKeep T 8 0 5) (zKeep T 0 0) (zKeep T 8 0 5).toNat = cD (S 8 4) (zup (S 8 3) 0 0) (S 8 0 5) (S 0 0) (S 8 0 5).toNat ∧ ∀ σ ρ2 : Int → Int, zDM (zKeep T) σ ρ2 = zDM (zKeep S) σ ρ2 := by
  have e0 : T 0 = S 0 := by rw [hT, zC_n (by omega)]
  have e80 : T 8 0 = S 8 0 := by rw [hT, zC_0]
  have e81 : T 8 1 = S 8 1 := by rw [hT, zC_1]
  have e83 : T 8 3 = ρ := by rw [hT, zC_3]
  have e84 : T 8 4 = S 8 4 := by rw [hT, zC_4]
  have e85 : T 8 5 = S 8 5 := by rw [hT, zC_5]
  have hx : ∀ x : Int, x < 0 ∨ 3 < x → zup (S 8 3) 0 0 x = zup ρ 0 0 x := by
    intro x h
    rw [zup_n (by omega), zup_n (by omega), hρ rfl]
    show _ = oRow (S 8 4) (zup (S 8 3) 0 0) (S 8 0 5).toNat x
    rw [oRow_x h, zup_n (by omega)]
  rw [zKp_84, zKp_83, zKp_80, zKp_0, e0, e80, e83, e84]
  refine ⟨zFull_eq hx (zup_s _ _ _) (zup_s _ _ _) ?_ hf, (cD_eq hx (zup_s _ _ _) (zup_s _ _ _) _ _ _).symm, fun σ ρ2 => ?_⟩
  · by_cases q : 0 ≤ S 8 0 5
    · exact q
    · have h4 := hf.2
      have e : zR (S 8 4) (zup (S 8 3) 0 0) (S 8 0 5) = zup (S 8 3) 0 0 := by
        show oRow _ _ (S 8 0 5).toNat = _
        rw [show (S 8 0 5).toNat = 0 by omega]
        rfl
      rw [e] at h4
      have := h4.1
      rw [zup_s] at this
      omega
  · unfold zDM
    rw [zKp_0, zKp_0, zKp_80, zKp_80, zKp_81, zKp_81, zKp_84, zKp_84, zKp_85, zKp_85, e0, e80, e81, e84, e85]
    funext k j
    by_cases h8 : k = 8
    · subst h8
      unfold zCl
      rw [if_pos rfl, if_pos rfl]
      by_cases j0 : j = 0
      · rw [if_pos j0, if_pos j0]
      · rw [if_neg j0, if_neg j0]
        by_cases j1 : j = 1
        · rw [if_pos j1, if_pos j1]
        · rw [if_neg j1, if_neg j1]
          by_cases j3 : j = 3
          · rw [if_pos j3, if_pos j3]
          · rw [if_neg j3, if_neg j3]
            by_cases j4 : j = 4
            · rw [if_pos j4, if_pos j4]
            · rw [if_neg j4, if_neg j4]
              by_cases j5 : j = 5
              · rw [if_pos j5, if_pos j5]
              · rw [if_neg j5, if_neg j5, zP_n (by omega), zP_n (by omega)]
                unfold zKeep zCl
                rw [if_pos rfl, if_pos rfl, if_neg j0, if_neg j0, if_neg j1, if_neg j1, if_neg j3, if_neg j3, if_neg j4, if_neg j4, if_neg j5, if_neg j5, e81, zP_n (by omega), zP_n (by omega), hT]
                unfold zCl
                rw [if_pos rfl, if_neg j0, if_neg j1, if_neg j3, if_neg j4, if_neg j5]
    · rw [zC_n h8, zC_n h8]
      have hk : ∀ k : Nat, k ≠ 8 → zKeep T k = zKeep S k := by
        intro k hk
        have hTk : T = zCl S (S 8 0) (S 8 1) ρ (S 8 4) (S 8 5) := hT
        unfold zKeep
        rw [zC_n hk, zC_n hk, e0, e81]
        have e2 : T ((S 8 1 2 % 6).toNat + 2) = S ((S 8 1 2 % 6).toNat + 2) := by rw [hT, zC_n (by omega)]
        rw [e2]
        by_cases hks : k = (S 8 1 2 % 6).toNat + 2
        · subst hks
          funext j'
          by_cases j0 : j' = 0
          · subst j0; rw [zP_0, zP_0]
          · by_cases j2 : j' = 2
            · subst j2; rw [zP_2, zP_2]
            · by_cases j8 : j' = 8
              · subst j8; rw [zP_8, zP_8]
              · rw [zP_j ⟨j0, j2, j8⟩, zP_j ⟨j0, j2, j8⟩, e2]
        · rw [zP_n hks, zP_n hks, hT, zC_n hk]
      by_cases h0 : k = 0
      · subst h0
        by_cases j0 : j = 0
        · subst j0; rw [zP_0, zP_0]
        · by_cases j2 : j = 2
          · subst j2; rw [zP_2, zP_2]
          · by_cases j8 : j = 8
            · subst j8; rw [zP_8, zP_8]
            · rw [zP_j ⟨j0, j2, j8⟩, zP_j ⟨j0, j2, j8⟩, hk 0 (by omega)]
      · rw [zP_n h0, zP_n h0, hk k h8]
/-- a plan of orders keeps the row well -/
theorem cD_in {t r : Int → Int} {len : Int} {σ : Int → Int} (h0 : r 0 = 0) (hf : zFull t r len) (h : zOk σ) : ∀ n : Nat, (n : Int) ≤ len → zOk (cD t r len σ n).1 ∧ (cD t r len σ n).1 1 = σ 1 ∧ (cD t r len σ n).1 2 = σ 2 := by
  intro n
  induction n with
  | zero => intro _; exact ⟨h, rfl, rfl⟩
  | succ n ih =>
    intro hn
    have h1 := ih (by omega)
    simp only [cD]
    split
    · next q =>
      split
      · next q2 =>
        have h2 := zFull_rv (i := n) h0 hf (by omega) q.2
        unfold zR at h2
        rw [show ((n : Int) + 1).toNat = n + 1 by omega] at h2
        have h3 := zOk_dSt h1.1 h2.1
        exact ⟨h3.1, h3.2.1.trans h1.2.1, h3.2.2.trans h1.2.2⟩
      · exact h1
    · exact h1
