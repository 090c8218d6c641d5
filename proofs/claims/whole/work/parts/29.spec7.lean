/-- one more time tried: a, b: the best before, a', b' behind -/
theorem tB_step {σ : Int → Int} {a b t n o a' b' : Int} (hn : 0 ≤ n) (ht : t = 10 + 10 * n) (hab : (n = 0 ∧ a = -1 ∧ b = 0) ∨ (1 ≤ n ∧ a = tBF σ (n - 1).toNat ∧ b = tBL σ (n - 1).toNat ∧ 10 ≤ a ∧ a ≤ 2000 ∧ 0 ≤ b ∧ b ≤ 80)) (ho : o = tEx σ t 1) (hb : 0 ≤ o ∧ o ≤ 80) (hs : t ≤ 2000 ∧ ((a' = t ∧ b' = o ∧ (a = -1 ∨ o < b)) ∨ (a' = a ∧ b' = b ∧ a ≠ -1 ∧ b ≤ o))) :
    1 ≤ n + 1 ∧ a' = tBF σ (n + 1 - 1).toNat ∧ b' = tBL σ (n + 1 - 1).toNat ∧ 10 ≤ a' ∧ a' ≤ 2000 ∧ 0 ≤ b' ∧ b' ≤ 80 := by
  rw [show n + 1 - 1 = n by omega]
  rcases hab with ⟨h0, h1, h2⟩ | ⟨h0, h1, h2, h3⟩
  · subst h0
    have e1 : a' = t ∧ b' = o := by omega
    have e2 : t = 10 := by omega
    refine ⟨by omega, ?_, ?_, by omega, by omega, by omega, by omega⟩
    · rw [e1.1, e2]; rfl
    · rw [e1.2, ho, e2]; rfl
  · have e0 : n = n - 1 + 1 := by omega
    have eF := tBF_s σ (show 0 ≤ n - 1 by omega)
    have eL := tBL_s σ (show 0 ≤ n - 1 by omega)
    rw [← e0, show 20 + 10 * (n - 1) = t by omega, ← ho, ← h1, ← h2] at eF
    rw [← e0, show 20 + 10 * (n - 1) = t by omega, ← ho, ← h2] at eL
    rw [eF, eL]
    by_cases c : o < b
    · rw [if_pos c, if_pos c]; omega
    · rw [if_neg c, if_neg c]; omega
