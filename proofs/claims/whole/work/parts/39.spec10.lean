/-- no zone is its own neighbour -/
def zNl (σ : Int → Int) : Prop := ∀ z : Int, 0 ≤ z → z < 8 → σ (5 + 5 * z + 4) / 2 ^ z.toNat % 2 = 0
theorem zSp_bu {σ : Int → Int} {z : Int} (t : Int) (h0 : 0 ≤ z) (hb : σ (5 + 5 * z + 4) / 2 ^ z.toNat % 2 = 0) : ∀ n : Nat, zSp (zup σ (5 + 5 * z + 2) t) z n = zSp σ z n := by
  intro n
  induction n with
  | zero => rfl
  | succ n ih =>
    simp only [zSp]
    rw [ih, zup_n (show 5 + 5 * z + 4 ≠ 5 + 5 * z + 2 by omega), zup_n (show (3 : Int) ≠ 5 + 5 * z + 2 by omega)]
    by_cases e : (n : Int) = z
    · have e2 : z.toNat = n := by omega
      rw [e2] at hb
      rw [if_neg (by omega), if_neg (by omega)]
    · rw [zup_n (show 5 + 5 * (n : Int) + 2 ≠ 5 + 5 * z + 2 by omega)]
theorem zSp_ho {σ : Int → Int} {z : Int} (t : Int) (h0 : 0 ≤ z) : ∀ n : Nat, zSp (zup σ (5 + 5 * z + 3) t) z n = zSp σ z n := by
  intro n
  induction n with
  | zero => rfl
  | succ n ih =>
    simp only [zSp]
    rw [ih, zup_n (show 5 + 5 * z + 4 ≠ 5 + 5 * z + 3 by omega), zup_n (show (3 : Int) ≠ 5 + 5 * z + 3 by omega), zup_n (show 5 + 5 * (n : Int) + 2 ≠ 5 + 5 * z + 3 by omega)]
theorem tTm_bu {σ : Int → Int} {z : Int} (t : Int) (h0 : 0 ≤ z) (hb : σ (5 + 5 * z + 4) / 2 ^ z.toNat % 2 = 0) : tTm (zup σ (5 + 5 * z + 2) t) z = tTm σ z - σ (5 + 5 * z + 2) + t := by
  unfold tTm tSp
  rw [zup_n (show (4 : Int) ≠ 5 + 5 * z + 2 by omega), zSp_bu t h0 hb, zup_n (show (0 : Int) ≠ 5 + 5 * z + 2 by omega), zup_n (show 5 + 5 * z + 3 ≠ 5 + 5 * z + 2 by omega), zup_s]
  omega
theorem tTm_ho {σ : Int → Int} {z : Int} (t : Int) (h0 : 0 ≤ z) : tTm (zup σ (5 + 5 * z + 3) t) z = max (σ 0 - t) (σ 0 / 2) + σ (5 + 5 * z + 2) + tSp σ z := by
  unfold tTm tSp
  rw [zup_n (show (4 : Int) ≠ 5 + 5 * z + 3 by omega), zSp_ho t h0, zup_n (show (0 : Int) ≠ 5 + 5 * z + 3 by omega), zup_n (show 5 + 5 * z + 2 ≠ 5 + 5 * z + 3 by omega), zup_s]
theorem tAt_up {σ : Int → Int} {z i : Int} (v T : Int) (hi : i ≠ 1 ∧ i ≠ 2 ∧ i ≠ 5 + 5 * z) : tAt (zup σ i v) z T = tAt σ z T := by
  unfold tAt
  rw [zup_n (by omega), zup_n (by omega), zup_n (by omega)]
theorem tLe_up {σ : Int → Int} {i : Int} (v d w : Int) (hi : i ≠ 1 ∧ i ≠ 2) : tLe (zup σ i v) d w = tLe σ d w := by
  unfold tLe
  rw [zup_n (by omega), zup_n (by omega)]
theorem tOff_bu {σ : Int → Int} {z : Int} (t : Int) (h0 : 0 ≤ z) (hb : σ (5 + 5 * z + 4) / 2 ^ z.toNat % 2 = 0) : tOff (zup σ (5 + 5 * z + 2) t) z = tAt σ z (tTm σ z - σ (5 + 5 * z + 2) + t) - σ (5 + 5 * z + 1) := by
  unfold tOff tTo
  rw [tTm_bu t h0 hb, tAt_up _ _ (by omega), zup_n (by omega)]
theorem tOff_ho {σ : Int → Int} {z : Int} (t : Int) (h0 : 0 ≤ z) : tOff (zup σ (5 + 5 * z + 3) t) z = tAt σ z (max (σ 0 - t) (σ 0 / 2) + σ (5 + 5 * z + 2) + tSp σ z) - σ (5 + 5 * z + 1) := by
  unfold tOff tTo
  rw [tTm_ho t h0, tAt_up _ _ (by omega), zup_n (by omega)]
theorem tAt_0 {σ : Int → Int} (hw : zW σ) (z : Int) : tAt σ z 0 = 0 := by
  have h := tAt_in σ z 0
  have e : zLt (σ (5 + 5 * z)) 0 = 0 := by unfold zLt; rw [Int.zero_mul, Int.zero_ediv]; rfl
  have := zcnt_ge (σ 1) (zW_2 hw) (zLt (σ (5 + 5 * z)) 0) (j := 1) (by omega) (by omega)
  have hm := zMk_in (g := σ 1) (zW_2 hw) (show 0 ≤ (0 : Int) ∧ (0 : Int) < 10 by omega)
  rw [e] at this
  have h2 : tAt σ z 0 = zcnt (zMk (σ 1) (σ 2)) 0 10 := by unfold tAt; rw [e]
  refine Classical.byContradiction fun c => ?_
  have h3 := this.mp (by omega)
  rw [show (1 : Int) - 1 = 0 by omega] at h3
  omega
