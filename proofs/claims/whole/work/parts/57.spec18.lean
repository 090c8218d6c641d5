def zSt (t r : Int → Int) (len : Int) (f : Int → Int) : Prop := ∃ ρ : Int → Int, zAt t r len (f 9) f ρ ∧ ρ 0 = 0
theorem zSemi2 {t r f : Int → Int} {len a : Int} (hG : zGood t r len a f) (hl : f 9 < len) (ht : ∀ i : Int, 0 ≤ i → i < len → 0 ≤ t i ∧ t i ≤ 126) :
    (pF f t 59 59 10 = 0 ∧ pF f t 59 59 9 = f 9 + 1 ∧ zSt t r len (pF f t 59 59)) ∨ (pF f t 59 59 10 = 1 ∧ pF f t 59 59 9 = f 9 ∧ zBad t r len (pF f t 59 59)) := by
  rcases zSemi hG hl ht with ⟨c, w, h⟩ | ⟨c, w, h⟩
  · have e9 : pF f t 59 59 9 = f 9 + 1 := by rw [pF_9, w]; omega
    exact Or.inl ⟨by rw [pF_10, w], e9, by unfold zSt; rw [e9]; exact h⟩
  · exact Or.inr ⟨by rw [pF_10, w], by rw [pF_9, w]; omega, h⟩
theorem zGood_full {t r f : Int → Int} {len a : Int} (hG : zGood t r len a f) (hl : f 9 = len) : f 10 = 0 ∧ f 9 = len ∧ zFull t r len := by
  obtain ⟨ρ, ⟨a0, a1, a2, a3, a6, a4⟩, he, hk, hlt, hv⟩ := hG
  refine ⟨a0, hl, by rw [← hl]; exact a1, ?_⟩
  rw [← hl, a3]
  exact he
theorem zGood_pI {t r f : Int → Int} {len a : Int} (hlen : len ≤ 60) (ht : ∀ i : Int, 0 ≤ i → i < 60 → 0 ≤ t i ∧ t i ≤ 126) (hG : zGood t r len a f) : pI f t := by
  obtain ⟨ρ, hA, -⟩ := hG
  exact zAt_pI hlen ht hA
theorem dB_zi {ρ σ : Int → Int} (h : ρ 1 = 122) : (dB ρ σ = 1 ∧ σ 4 < 8) ∨ (dB ρ σ = 0 ∧ 8 ≤ σ 4) := by
  rw [dB_z h]
  by_cases c : σ 4 < 8
  · rw [if_pos c]; omega
  · rw [if_neg c]; omega
theorem dB_ni {ρ σ : Int → Int} (h : ρ 1 = 110) : (dB ρ σ = 1 ∧ ρ 2 < σ 4 ∧ ρ 3 < σ 4) ∨ (dB ρ σ = 0 ∧ ¬ (ρ 2 < σ 4 ∧ ρ 3 < σ 4)) := by
  rw [dB_n h]
  by_cases c : ρ 2 < σ 4 ∧ ρ 3 < σ 4
  · rw [if_pos c]; omega
  · rw [if_neg c]; omega
theorem dB_bi {ρ σ : Int → Int} (h : ρ 1 = 98 ∨ ρ 1 = 104) : (dB ρ σ = 1 ∧ ρ 2 < σ 4) ∨ (dB ρ σ = 0 ∧ ¬ ρ 2 < σ 4) := by
  rw [dB_b h]
  by_cases c : ρ 2 < σ 4
  · rw [if_pos c]; omega
  · rw [if_neg c]; omega
