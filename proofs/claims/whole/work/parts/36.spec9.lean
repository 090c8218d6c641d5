theorem oN_in {r : Int → Int} {t : Int} (h : zRd r) (ht : -1 ≤ t ∧ t ≤ 126) (hk : oK r t) : zRd (oN r t) := by
  obtain ⟨h0, h1, h2, h3⟩ := h
  unfold oK at hk
  unfold oN
  by_cases c0 : r 0 = 0
  · rw [if_pos c0] at hk ⊢
    unfold oL
    refine ⟨?_, ?_, ?_, ?_⟩
    · rw [zup_s]; split <;> omega
    · rw [zup_n (by omega), zup_n (by omega), zup_n (by omega), zup_s]; omega
    · rw [zup_n (by omega), zup_n (by omega), zup_s]; omega
    · rw [zup_n (by omega), zup_s]; omega
  · rw [if_neg c0] at hk ⊢
    by_cases c1 : r 0 = 1
    · rw [if_pos c1] at hk ⊢
      have b1 := oWd_in (n := r 2) (t := t) (by omega) ht
      have b2 := oMf_in (r 1)
      unfold oKF at hk
      unfold oF
      split
      · refine ⟨?_, ?_, ?_, ?_⟩ <;> first | (rw [zup_s]; omega) | (rw [zup_n (by omega)]; omega)
      · split
        · refine ⟨?_, ?_, ?_, ?_⟩
          · rw [zup_s]; omega
          · rw [zup_n (by omega), zup_n (by omega)]; omega
          · rw [zup_n (by omega), zup_s]; omega
          · rw [zup_n (by omega), zup_n (by omega)]; omega
        · refine ⟨?_, ?_, ?_, ?_⟩
          · rw [zup_n (by omega)]; omega
          · rw [zup_n (by omega)]; omega
          · rw [zup_s]; omega
          · rw [zup_n (by omega)]; omega
    · rw [if_neg c1] at hk ⊢
      have b1 := oWd_in (n := r 3) (t := t) (by omega) ht
      have b2 := oMl_in (r 1)
      unfold oKA at hk
      unfold oA
      split
      · refine ⟨?_, ?_, ?_, ?_⟩ <;> first | (rw [zup_s]; omega) | (rw [zup_n (by omega)]; omega)
      · refine ⟨?_, ?_, ?_, ?_⟩
        · rw [zup_n (by omega)]; omega
        · rw [zup_n (by omega)]; omega
        · rw [zup_n (by omega)]; omega
        · rw [zup_s]; omega
/-- the reader behind n characters -/
def oRow (b r : Int → Int) : Nat → Int → Int
  | 0 => r
  | n + 1 => oN (oRow b r n) (b n)
theorem oRow_s (b r : Int → Int) {i : Int} (hi : 0 ≤ i) : oRow b r (i + 1).toNat = oN (oRow b r i.toNat) (b i) := by
  obtain ⟨n, rfl⟩ := Int.eq_ofNat_of_zero_le hi
  rfl
