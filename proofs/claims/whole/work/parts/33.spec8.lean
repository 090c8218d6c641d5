/-! the reference's reading of the text: f its fields (6 length, 9 at, 10 isWrong, 11 letter, 12 one, 13 two), t the text -/
def pC (f t : Int → Int) : Int := if f 9 < f 6 then t (f 9) else 0
def pW (f t : Int → Int) (lo hi : Int) : Int := if f 10 = 0 ∧ lo ≤ pC f t ∧ pC f t ≤ hi then 0 else 1
def pF (f t : Int → Int) (lo hi : Int) : Int → Int := zup (zup f 10 (pW f t lo hi)) 9 (f 9 + (1 - pW f t lo hi))
def pI (f t : Int → Int) : Prop := (0 ≤ f 9 ∧ f 9 ≤ f 6) ∧ f 6 ≤ 60 ∧ (f 10 = 0 ∨ f 10 = 1) ∧ ∀ i : Int, 0 ≤ i → i < 60 → 0 ≤ t i ∧ t i ≤ 126
theorem pC_in {f t : Int → Int} (h : pI f t) : 0 ≤ pC f t ∧ pC f t ≤ 126 := by
  obtain ⟨h1, h2, h3, h4⟩ := h
  unfold pC
  split
  · exact h4 _ h1.1 (by omega)
  · omega
theorem pW_in (f t : Int → Int) (lo hi : Int) : pW f t lo hi = 0 ∨ pW f t lo hi = 1 := by unfold pW; split <;> omega
/-- a sign that is not wrong is a character of the text -/
theorem pF_in {f t : Int → Int} (h : pI f t) {lo hi : Int} (hlo : 1 ≤ lo) : pI (pF f t lo hi) t := by
  have hc := pC_in h
  obtain ⟨h1, h2, h3, h4⟩ := h
  have e9 : pF f t lo hi 9 = f 9 + (1 - pW f t lo hi) := zup_s _ _ _
  have e6 : pF f t lo hi 6 = f 6 := by unfold pF; rw [zup_n (by omega), zup_n (by omega)]
  have e10 : pF f t lo hi 10 = pW f t lo hi := by unfold pF; rw [zup_n (by omega), zup_s]
  have hw : pW f t lo hi = 0 → f 9 < f 6 := by
    intro q
    unfold pW at q
    split at q
    · next q2 =>
      refine Classical.byContradiction fun q3 => ?_
      have q4 := q2.2.1
      unfold pC at q4
      rw [if_neg q3] at q4
      omega
    · omega
  have hw2 := pW_in f t lo hi
  refine ⟨?_, ?_, ?_, h4⟩
  · rw [e9, e6]; rcases hw2 with q | q
    · have := hw q; omega
    · omega
  · rw [e6]; exact h2
  · rw [e10]; exact hw2
def pNl (t : Int → Int) (most : Int) : Nat → Int → (Int → Int) → Int × (Int → Int)
  | 0, v, f => (v, f)
  | n + 1, v, f => if f 10 = 0 ∧ 0 < v ∧ f 9 < f 6 ∧ 48 ≤ t (f 9) ∧ t (f 9) ≤ 57 ∧ 10 * v + t (f 9) - 48 ≤ most then pNl t most n (10 * v + t (f 9) - 48) (pF f t 48 57) else (v, f)
def pNum (f t : Int → Int) (least most : Int) : Int × (Int → Int) := pNl t most 61 (pC f t - 48) (pF f t (48 + least) 57)
theorem pNl_s (t : Int → Int) (most v : Int) (f : Int → Int) {n : Int} (hn : 0 < n) : pNl t most n.toNat v f = if f 10 = 0 ∧ 0 < v ∧ f 9 < f 6 ∧ 48 ≤ t (f 9) ∧ t (f 9) ≤ 57 ∧ 10 * v + t (f 9) - 48 ≤ most then pNl t most (n - 1).toNat (10 * v + t (f 9) - 48) (pF f t 48 57) else (v, f) := by
  obtain ⟨k, hk⟩ := Int.eq_ofNat_of_zero_le (show 0 ≤ n - 1 by omega)
  obtain rfl : n = (k : Int) + 1 := by omega
  have e1 : ((k : Int) + 1).toNat = k + 1 := by omega
  have e2 : ((k : Int) + 1 - 1).toNat = k := by omega
  rw [e1, e2]
  rfl
theorem pF_6 (f t : Int → Int) (lo hi : Int) : pF f t lo hi 6 = f 6 := by unfold pF; rw [zup_n (by omega), zup_n (by omega)]
theorem pF_9 (f t : Int → Int) (lo hi : Int) : pF f t lo hi 9 = f 9 + (1 - pW f t lo hi) := zup_s _ _ _
theorem pF_10 (f t : Int → Int) (lo hi : Int) : pF f t lo hi 10 = pW f t lo hi := by unfold pF; rw [zup_n (by omega), zup_s]
theorem pW_0 {f t : Int → Int} {lo hi : Int} (h : f 10 = 0) (h2 : f 9 < f 6) (h3 : lo ≤ t (f 9) ∧ t (f 9) ≤ hi) : pW f t lo hi = 0 ∧ pC f t = t (f 9) := by
  have e : pC f t = t (f 9) := if_pos h2
  exact ⟨by unfold pW; rw [if_pos ⟨h, by omega, by omega⟩], e⟩
theorem pI_up {f t : Int → Int} (h : pI f t) {i : Int} (hi : i = 11 ∨ i = 12 ∨ i = 13) (v : Int) : pI (zup f i v) t := by
  unfold pI
  rw [zup_n (by omega), zup_n (by omega), zup_n (by omega)]
  exact h
theorem pNl_in {t : Int → Int} {most : Int} : ∀ (n : Nat) (v : Int) (f : Int → Int), pI f t → -48 ≤ v ∧ v ≤ 2000 → most ≤ 2000 → pI (pNl t most n v f).2 t ∧ -48 ≤ (pNl t most n v f).1 ∧ (pNl t most n v f).1 ≤ 2000 := by
  intro n
  induction n with
  | zero => intro v f h hv hm; exact ⟨h, hv⟩
  | succ n ih =>
    intro v f h hv hm
    simp only [pNl]
    split
    · next q => exact ih _ _ (pF_in h (by omega)) (by omega) hm
    · exact ⟨h, hv⟩
theorem pNum_in {f t : Int → Int} (h : pI f t) {a b : Int} (ha : 0 ≤ a) (hb : b ≤ 2000) : pI (pNum f t a b).2 t ∧ -48 ≤ (pNum f t a b).1 ∧ (pNum f t a b).1 ≤ 2000 := by
  have hc := pC_in h
  exact pNl_in 61 _ _ (pF_in h (by omega)) (by omega) hb
def pLt (c : Int) : Prop := c = 122 ∨ c = 110 ∨ c = 116 ∨ c = 98 ∨ c = 104
def pO0 (f t : Int → Int) (w : Int) : Int → Int := zup (zup (zup (zup (zup f 10 w) 9 (f 9 + (1 - w))) 11 (pC f t)) 12 0) 13 0
def pO2 (f t : Int → Int) (most : Int) : Int → Int := zup (pNum f t 0 most).2 13 (pNum f t 0 most).1
def pOz (f t : Int → Int) : Int → Int := pO2 (pF (zup (pNum f t 0 24).2 12 (pNum f t 0 24).1) t 61 61) t 10
def pO1 (f t : Int → Int) (hi : Int) : Int → Int := zup (pF f t 48 hi) 12 (pC f t - 48)
def pOn (f t : Int → Int) : Int → Int := if pO1 f t 54 10 ≠ 0 then zup (pO1 f t 54) 13 0 else zup (pF (pO1 f t 54) t (49 + pO1 f t 54 12) 55) 13 (pC (pO1 f t 54) t - 48)
def pOt (f t : Int → Int) : Int → Int := zup (pNum f t 1 2000).2 12 (pNum f t 1 2000).1
def pOb (f t : Int → Int) : Int → Int := pO2 (pF (pO1 f t 55) t 58 58) t 999
/-- what reading an order leaves in the fields; w: whether its first sign is wrong -/
def pOrd (f t : Int → Int) (w : Int) : Int → Int := if pC f t = 122 then pOz (pO0 f t w) t else if pC f t = 110 then pOn (pO0 f t w) t else if pC f t = 116 then pOt (pO0 f t w) t else pOb (pO0 f t w) t
theorem pO0_in {f t : Int → Int} (h : pI f t) {w : Int} (hw : w = 0 ∧ f 9 < f 6 ∨ w = 1) : pI (pO0 f t w) t := by
  refine pI_up (pI_up (pI_up ?_ (by omega) _) (by omega) _) (by omega) _
  obtain ⟨h1, h2, h3, h4⟩ := h
  refine ⟨?_, ?_, ?_, h4⟩
  · rw [zup_s, zup_n (by omega), zup_n (by omega)]; omega
  · rw [zup_n (by omega), zup_n (by omega)]; exact h2
  · rw [zup_n (by omega), zup_s]; omega
def pWo (f t : Int → Int) : Int := if f 10 = 0 ∧ (pC f t = 122 ∨ pC f t = 110 ∨ pC f t = 116 ∨ pC f t = 98 ∨ pC f t = 104) then 0 else 1
theorem pWo_in (f t : Int → Int) : (pWo f t = 0 ∧ f 9 < f 6) ∨ pWo f t = 1 := by
  unfold pWo
  split
  · next q =>
    refine Or.inl ⟨rfl, Classical.byContradiction fun q3 => ?_⟩
    have e : pC f t = 0 := if_neg q3
    omega
  · exact Or.inr rfl
