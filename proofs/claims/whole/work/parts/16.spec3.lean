theorem zhalf (x : Int) {k : Int} (hk : 0 ≤ k) : x / 2 ^ (k + 1).toNat = x / 2 ^ k.toNat / 2 := by
  obtain ⟨n, rfl⟩ := Int.eq_ofNat_of_zero_le hk
  have e : ((n : Int) + 1).toNat = n + 1 := by omega
  rw [e, Int.toNat_natCast, Int.pow_succ, Int.ediv_ediv, if_neg (fun q => by have := zpow_pos n; omega), Int.sub_zero]
theorem zmk_lt (g : Int) {v : Int} (hv : 10 ≤ v ∧ v ≤ 999) (k : Nat) : zmkN g v k < zmkN g v (k + 1) := by
  simp only [zmkN]
  omega
theorem zmk_mono (g : Int) {v : Int} (hv : 10 ≤ v ∧ v ≤ 999) (i : Nat) : ∀ d : Nat, zmkN g v i ≤ zmkN g v (i + d) := by
  intro d
  induction d with
  | zero => exact Int.le_refl _
  | succ d ih => have := zmk_lt g hv (i + d); rw [← Nat.add_assoc]; omega
theorem zMk_mono (g : Int) {v : Int} (hv : 10 ≤ v ∧ v ≤ 999) {i j : Int} (h0 : 0 ≤ i) (h : i ≤ j) : zMk g v i ≤ zMk g v j := by
  unfold zMk
  have e : j.toNat = i.toNat + (j.toNat - i.toNat) := by omega
  rw [e]
  exact zmk_mono g hv _ _
theorem zcnt_all {f : Int → Int} {x : Int} : ∀ n : Nat, (∀ j : Int, 0 ≤ j → j < n → f j ≤ x) → zcnt f x n = n := by
  intro n
  induction n with
  | zero => intro _; rfl
  | succ n ih => intro h; simp only [zcnt]; rw [ih (fun j h1 h2 => h j h1 (by omega)), if_pos (h n (by omega) (by omega))]; omega
theorem zcnt_le {f : Int → Int} {x : Int} {i : Int} (hi : 0 ≤ i) : ∀ n : Nat, (∀ j : Int, i ≤ j → j < n → ¬ f j ≤ x) → zcnt f x n ≤ i := by
  intro n
  induction n with
  | zero => intro _; simp only [zcnt]; exact hi
  | succ n ih =>
    intro h
    simp only [zcnt]
    by_cases c : i ≤ n
    · rw [if_neg (h n c (by omega))]; have := ih (fun j h1 h2 => h j h1 (by omega)); omega
    · have := (zcnt_in f x n).2; split <;> omega
/-- how many marks are at most a light: at least j, if the j-th one is -/
theorem zcnt_ge (g : Int) {v : Int} (hv : 10 ≤ v ∧ v ≤ 999) (x : Int) {j : Int} (h1 : 1 ≤ j) (h2 : j ≤ 10) : j ≤ zcnt (zMk g v) x 10 ↔ zMk g v (j - 1) ≤ x := by
  constructor
  · intro h
    refine Classical.byContradiction fun c => ?_
    have := zcnt_le (f := zMk g v) (x := x) (i := j - 1) (by omega) 10 (fun i h3 h4 h5 => c (Int.le_trans (zMk_mono g hv (by omega) h3) h5))
    omega
  · intro h
    have e : ∀ (n : Nat), j ≤ n → j ≤ zcnt (zMk g v) x n := by
      intro n
      induction n with
      | zero => intro h3; omega
      | succ n ih =>
        intro h3
        simp only [zcnt]
        by_cases c : j ≤ n
        · have := ih c; split <;> omega
        · have e2 : j - 1 = n := by omega
          rw [e2] at h
          rw [if_pos h, zcnt_all n (fun i h4 h5 => Int.le_trans (zMk_mono g hv h4 (by omega)) h)]
          omega
    exact e 10 (by omega)
theorem zLt_ge {d t m : Int} : m ≤ zLt d t ↔ m * 100 * 2 ^ (d / 3).toNat ≤ t * zThr (d % 3) := by
  unfold zLt
  rw [Int.le_ediv_iff_mul_le (by omega), Int.le_ediv_iff_mul_le (zpow_pos _)]
theorem zceil {N P t : Int} (hP : 0 < P) : (N + P - 1) / P ≤ t ↔ N ≤ t * P := by
  rw [← Int.lt_add_one_iff, Int.ediv_lt_iff_lt_mul hP, Int.add_mul]
  omega
/-- the least time with a tone, and the tone by a time -/
theorem tLe_iff {σ : Int → Int} (hw : zW σ) (z : Int) {tone t : Int} (ht : 1 ≤ t ∧ t ≤ 9999) : tone ≤ tAt σ z t ↔ tLe σ (σ (5 + 5 * z)) tone ≤ t := by
  have hb := tAt_in σ z t
  unfold tLe
  by_cases h1 : tone < 1
  · rw [if_pos h1]; constructor <;> intro _ <;> omega
  · rw [if_neg h1]
    by_cases h2 : tone > 10
    · rw [if_pos h2]; constructor <;> intro _ <;> omega
    · rw [if_neg h2]
      have hP := zThr_in (σ (5 + 5 * z) % 3)
      have hz := @zceil (zMk (σ 1) (σ 2) (tone - 1) * 100 * 2 ^ (σ (5 + 5 * z) / 3).toNat) (zThr (σ (5 + 5 * z) % 3)) t (by omega)
      have hl := @zLt_ge (σ (5 + 5 * z)) t (zMk (σ 1) (σ 2) (tone - 1))
      have hc := zcnt_ge (σ 1) (zW_2 hw) (zLt (σ (5 + 5 * z)) t) (show 1 ≤ tone by omega) (show tone ≤ 10 by omega)
      unfold tAt
      rw [hc, hl, ← hz]
      omega
theorem zsg_0 (x : Int) : zsg x = 0 ↔ x = 0 := by unfold zsg; constructor <;> intro h <;> (first | omega | (split at h <;> (first | omega | (split at h <;> omega))) | (rw [h]; rfl))
/-- the least time that a zone needs, as the tone by the least time with that tone tells it -/
theorem tLn_of {σ : Int → Int} (hw : zW σ) (z : Int) : tLn σ z = if tLe σ (σ (5 + 5 * z)) (σ (5 + 5 * z + 1)) ≤ 9999 ∧ tAt σ z (tLe σ (σ (5 + 5 * z)) (σ (5 + 5 * z + 1))) = σ (5 + 5 * z + 1) then tLe σ (σ (5 + 5 * z)) (σ (5 + 5 * z + 1)) else -1 := by
  have b1 := tLe_in hw (σ (5 + 5 * z)) (σ (5 + 5 * z + 1))
  have b2 := tLe_in hw (σ (5 + 5 * z)) (σ (5 + 5 * z + 1) + 1)
  unfold tLn
  by_cases h : tLe σ (σ (5 + 5 * z)) (σ (5 + 5 * z + 1)) ≤ 9999
  · have e1 := tLe_iff hw z (tone := σ (5 + 5 * z + 1)) (t := tLe σ (σ (5 + 5 * z)) (σ (5 + 5 * z + 1))) (by omega)
    have e2 := tLe_iff hw z (tone := σ (5 + 5 * z + 1) + 1) (t := tLe σ (σ (5 + 5 * z)) (σ (5 + 5 * z + 1))) (by omega)
    have e3 := e1.mpr (Int.le_refl _)
    by_cases c : tLe σ (σ (5 + 5 * z)) (σ (5 + 5 * z + 1)) < tLe σ (σ (5 + 5 * z)) (σ (5 + 5 * z + 1) + 1)
    · rw [if_pos c, if_pos ⟨h, by have := fun q => e2.mp q; omega⟩]
    · rw [if_neg c, if_neg (fun q => by have := e2.mpr (by omega); omega)]
  · rw [if_neg (by omega), if_neg (fun q => h q.1)]
theorem tGn_of (σ : Int → Int) (z : Int) (hw : zW σ) : tGn σ z = if tLn σ z = -1 then -1 else tLe σ (σ (5 + 5 * z)) (σ (5 + 5 * z + 1) + 1) - 1 := by
  have b1 := tLe_in hw (σ (5 + 5 * z)) (σ (5 + 5 * z + 1))
  unfold tGn tLn
  split
  · next h => rw [if_neg (by omega)]
  · rfl
