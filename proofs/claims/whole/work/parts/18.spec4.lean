def tTw (σ : Int → Int) (a b : Int) : Int → Int := zup (zup σ (5 + 5 * a + 4) (zxor (σ (5 + 5 * a + 4)) (1 * 2 ^ b.toNat))) (5 + 5 * b + 4) (zxor (σ (5 + 5 * b + 4)) (1 * 2 ^ a.toNat))
theorem zup_zup (f : Int → Int) (i a b : Int) : zup (zup f i a) i b = zup f i b := by
  funext x; unfold zup; split <;> rfl
/-- the saved states in their row: six of 45 numbers -/
def zshift (v : Int → Int) (i : Int) : Int → Int := fun x => if 0 ≤ x ∧ x < i then v (x + 45) else v x
def zputs (v : Int → Int) (b : Int) (σ : Int → Int) (i : Int) : Int → Int := fun x => if b ≤ x ∧ x < b + i then σ (x - b) else v x
def zSm (n : Int) : Int := if n = 6 then 6 else n + 1
def zSv (v σ : Int → Int) (n : Int) : Int → Int := zputs (if n = 6 then zshift v 225 else v) (45 * (if n = 6 then 5 else n)) σ 45
theorem zshift_0 (v : Int → Int) : zshift v 0 = v := by
  funext x; unfold zshift; rw [if_neg (by omega)]
theorem zshift_s (v : Int → Int) {i : Int} (hi : 0 ≤ i) : zshift v (i + 1) = zup (zshift v i) i (v (45 + i)) := by
  funext x; unfold zshift zup
  by_cases e : x = i
  · subst e; rw [if_pos (by omega), if_pos rfl, Int.add_comm]
  · rw [if_neg e]
    show _ = (if 0 ≤ x ∧ x < i then v (x + 45) else v x)
    by_cases h : 0 ≤ x ∧ x < i
    · rw [if_pos h, if_pos (by omega)]
    · rw [if_neg h, if_neg (by omega)]
theorem zshift_at (v : Int → Int) {i x : Int} (h : i ≤ x) : zshift v i x = v x := by unfold zshift; rw [if_neg (by omega)]
theorem zputs_0 (v : Int → Int) (b : Int) (σ : Int → Int) : zputs v b σ 0 = v := by
  funext x; unfold zputs; rw [if_neg (by omega)]
theorem zputs_s (v : Int → Int) (b : Int) (σ : Int → Int) {i : Int} (hi : 0 ≤ i) : zputs v b σ (i + 1) = zup (zputs v b σ i) (b + i) (σ i) := by
  funext x; unfold zputs zup
  by_cases e : x = b + i
  · subst e; rw [if_pos (by omega), if_pos rfl, show b + i - b = i by omega]
  · rw [if_neg e]
    show _ = (if b ≤ x ∧ x < b + i then σ (x - b) else v x)
    by_cases h : b ≤ x ∧ x < b + i
    · rw [if_pos h, if_pos (by omega)]
    · rw [if_neg h, if_neg (by omega)]
