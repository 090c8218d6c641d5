/-! the reference's reading of the text: f its fields (6 length, 9 at, 10 isWrong, 11 letter, 12 one, 13 two), t the text -/
def pC (f t : Int → Int) : Int := if f 9 < f 6 then t (f 9) else 0
def pW (f t : Int → Int) (lo hi : Int) : Int := if f 10 = 0 ∧ lo ≤ pC f t ∧ pC f t ≤ hi then 0 else 1
def pF (f t : Int → Int) (lo hi : Int) : Int → Int := zup (zup f 10 (pW f t lo hi)) 9 (f 9 + (1 - pW f t lo hi))
def pI (f t : Int → Int) : Prop := (0 ≤ f 9 ∧ f 9 ≤ f 6) ∧ f 6 ≤ 60 ∧ (f 10 = 0 ∨ f 10 = 1) ∧ ∀ i : Int, 0 ≤ i → i < 60 → 0 ≤ t i ∧ t i ≤ 126
theorem pC_in {f t : Int → Int} (h : pI f t) : 0 ≤ pC f t ∧ pC f t ≤ 126 := by
  obtain ⟨h1, h2, h3, h4⟩ := h
  unfold pC
  split
  · exact h4 _ h1.1 (by omega)
  · omega
theorem pW_in (f t : Int → Int) (lo hi : Int) : pW f t lo hi = 0 ∨ pW f t lo hi = 1 := by unfold pW; split <;> omega
/-- a sign that is not wrong is a character of the text -/
theorem pF_in {f t : Int → Int} (h : pI f t) {lo hi : Int} (hlo : 1 ≤ lo) : pI (pF f t lo hi) t := by
  have hc := pC_in h
  obtain ⟨h1, h2, h3, h4⟩ := h
  have e9 : pF f t lo hi 9 = f 9 + (1 - pW f t lo hi) := zup_s _ _ _
  have e6 : pF f t lo hi 6 = f 6 := by unfold pF; rw [zup_n (by omega), zup_n (by omega)]
  have e10 : pF f t lo hi 10 = pW f t lo hi := by unfold pF; rw [zup_n (by omega), zup_s]
  have hw : pW f t lo hi = 0 → f 9 < f 6 := by
    intro q
    unfold pW at q
    split at q
    · next q2 =>
      refine Classical.byContradiction fun q3 => ?_
      have q4 := q2.2.1
      unfold pC at q4
      rw [if_neg q3] at q4
      omega
    · omega
  have hw2 := pW_in f t lo hi
  refine ⟨?_, ?_, ?_, h4⟩
  · rw [e9, e6]; rcases hw2 with q | q
    · have := hw q; omega
    · omega
  · rw [e6]; exact h2
  · rw [e10]; exact hw2
def pNl (t : Int → Int) (most : Int) : Nat → Int → (Int → Int) → Int × (Int → Int)
  | 0, v, f => (v, f)
  | n + 1, v, f => if f 10 = 0 ∧ 0 < v ∧ f 9 < f 6 ∧ 48 ≤ t (f 9) ∧ t (f 9) ≤ 57 ∧ 10 * v + t (f 9) - 48 ≤ most then pNl t most n (10 * v + t (f 9) - 48) (pF f t 48 57) else (v, f)
def pNum (f t : Int → Int) (least most : Int) : Int × (Int → Int) := pNl t most 61 (pC f t - 48) (pF f t (48 + least) 57)
theorem pNl_s (t : Int → Int) (most v : Int) (f : Int → Int) {n : Int} (hn : 0 < n) : pNl t most n.toNat v f = if f 10 = 0 ∧ 0 < v ∧ f 9 < f 6 ∧ 48 ≤ t (f 9) ∧ t (f 9) ≤ 57 ∧ 10 * v + t (f 9) - 48 ≤ most then pNl t most (n - 1).toNat (10 * v + t (f 9) - 48) (pF f t 48 57) else (v, f) := by
  obtain ⟨k, hk⟩ := Int.eq_ofNat_of_zero_le (show 0 ≤ n - 1 by omega)
  obtain rfl : n = (k : Int) + 1 := by omega
  have e1 : ((k : Int) + 1).toNat = k + 1 := by omega
  have e2 : ((k : Int) + 1 - 1).toNat = k := by omega
  rw [e1, e2]
  rfl
theorem pF_6 (f t : Int → Int) (lo hi : Int) : pF f t lo hi 6 = f 6 := by unfold pF; rw [zup_n (by omega), zup_n (by omega)]
theorem pF_9 (f t : Int → Int) (lo hi : Int) : pF f t lo hi 9 = f 9 + (1 - pW f t lo hi) := zup_s _ _ _
theorem pF_10 (f t : Int → Int) (lo hi : Int) : pF f t lo hi 10 = pW f t lo hi := by unfold pF; rw [zup_n (by omega), zup_s]
theorem pW_0 {f t : Int → Int} {lo hi : Int} (h : f 10 = 0) (h2 : f 9 < f 6) (h3 : lo ≤ t (f 9) ∧ t (f 9) ≤ hi) : pW f t lo hi = 0 ∧ pC f t = t (f 9) := by
  have e : pC f t = t (f 9) := if_pos h2
  exact ⟨by unfold pW; rw [if_pos ⟨h, by omega, by omega⟩], e⟩
