def tTw (σ : Int → Int) (a b : Int) : Int → Int := zup (zup σ (5 + 5 * a + 4) (zxor (σ (5 + 5 * a + 4)) (1 * 2 ^ b.toNat))) (5 + 5 * b + 4) (zxor (σ (5 + 5 * b + 4)) (1 * 2 ^ a.toNat))
theorem zup_zup (f : Int → Int) (i a b : Int) : zup (zup f i a) i b = zup f i b := by
  funext x; unfold zup; split <;> rfl
/-- the saved states in their row: six of 45 numbers -/
def zshift (v : Int → Int) (i : Int) : Int → Int := fun x => if 0 ≤ x ∧ x < i then v (x + 45) else v x
def zputs (v : Int → Int) (b : Int) (σ : Int → Int) (i : Int) : Int → Int := fun x => if b ≤ x ∧ x < b + i then σ (x - b) else v x
def zSm (n : Int) : Int := if n = 6 then 6 else n + 1
def zSv (v σ : Int → Int) (n : Int) : Int → Int := zputs (if n = 6 then zshift v 225 else v) (45 * (if n = 6 then 5 else n)) σ 45
theorem zshift_0 (v : Int → Int) : zshift v 0 = v := by
  funext x; unfold zshift; rw [if_neg (by omega)]
theorem zshift_s (v : Int → Int) {i : Int} (hi : 0 ≤ i) : zshift v (i + 1) = zup (zshift v i) i (v (45 + i)) := by
  funext x; unfold zshift zup
  by_cases e : x = i
  · subst e; rw [if_pos (by omega), if_pos rfl, Int.add_comm]
  · rw [if_neg e]
    show _ = (if 0 ≤ x ∧ x < i then v (x + 45) else v x)
    by_cases h : 0 ≤ x ∧ x < i
    · rw [if_pos h, if_pos (by omega)]
    · rw [if_neg h, if_neg (by omega)]
theorem zshift_at (v : Int → Int) {i x : Int} (h : i ≤ x) : zshift v i x = v x := by unfold zshift; rw [if_neg (by omega)]
theorem zputs_0 (v : Int → Int) (b : Int) (σ : Int → Int) : zputs v b σ 0 = v := by
  funext x; unfold zputs; rw [if_neg (by omega)]
theorem zputs_s (v : Int → Int) (b : Int) (σ : Int → Int) {i : Int} (hi : 0 ≤ i) : zputs v b σ (i + 1) = zup (zputs v b σ i) (b + i) (σ i) := by
  funext x; unfold zputs zup
  by_cases e : x = b + i
  · subst e; rw [if_pos (by omega), if_pos rfl, show b + i - b = i by omega]
  · rw [if_neg e]
    show _ = (if b ≤ x ∧ x < b + i then σ (x - b) else v x)
    by_cases h : b ≤ x ∧ x < b + i
    · rw [if_pos h, if_pos (by omega)]
    · rw [if_neg h, if_neg (by omega)]
theorem zup_back (f : Int → Int) (i v : Int) : zup (zup f i v) i (f i) = f := by
  funext x; unfold zup; split
  · next h => rw [h]
  · next h => rfl
def tEx (σ : Int → Int) (t w : Int) : Int := if w = 0 then tCnt (zup σ 0 t) 0 else tMis (zup σ 0 t)
def tBu (σ : Int → Int) (z t w : Int) : Int := if w = 0 then tTo (zup σ (5 + 5 * z + 2) t) z else tCnt (zup σ (5 + 5 * z + 2) t) 0
theorem tMis_in {σ : Int → Int} (hw : zW σ) : 0 ≤ tMis σ ∧ tMis σ ≤ 80 := by
  have h4 := zW_4 hw
  have h := zsum_in (f := fun z => zabs (tOff σ z)) (a := 0) (b := 10) (σ 4).toNat (fun j h1 h2 => by have := tOff_in hw (show 0 ≤ j ∧ j < 8 by omega); unfold zabs; split <;> omega)
  unfold tMis
  omega
theorem tCnt_in {σ : Int → Int} (hw : zW σ) (side : Int) : 0 ≤ tCnt σ side ∧ tCnt σ side ≤ 8 := by
  have h4 := zW_4 hw
  have h := zsum_in (f := fun z => if zsg (tOff σ z) = side then 1 else 0) (a := 0) (b := 1) (σ 4).toNat (fun j h1 h2 => by split <;> omega)
  unfold tCnt
  omega
theorem tEx_in {σ : Int → Int} (hw : zW σ) {t : Int} (ht : 1 ≤ t ∧ t ≤ 2000) (w : Int) : 0 ≤ tEx σ t w ∧ tEx σ t w ≤ 80 := by
  have h1 := tMis_in (zW_up0 hw ht)
  have h2 := tCnt_in (zW_up0 hw ht) 0
  unfold tEx
  split <;> omega
/-- the best time out of 10, 20 .. -/
def tBL (σ : Int → Int) : Nat → Int
  | 0 => tEx σ 10 1
  | n + 1 => if tEx σ (20 + 10 * (n : Int)) 1 < tBL σ n then tEx σ (20 + 10 * (n : Int)) 1 else tBL σ n
def tBF (σ : Int → Int) : Nat → Int
  | 0 => 10
  | n + 1 => if tEx σ (20 + 10 * (n : Int)) 1 < tBL σ n then 20 + 10 * (n : Int) else tBF σ n
theorem tBL_s (σ : Int → Int) {i : Int} (hi : 0 ≤ i) : tBL σ (i + 1).toNat = if tEx σ (20 + 10 * i) 1 < tBL σ i.toNat then tEx σ (20 + 10 * i) 1 else tBL σ i.toNat := by
  obtain ⟨n, rfl⟩ := Int.eq_ofNat_of_zero_le hi
  rfl
theorem tBF_s (σ : Int → Int) {i : Int} (hi : 0 ≤ i) : tBF σ (i + 1).toNat = if tEx σ (20 + 10 * i) 1 < tBL σ i.toNat then 20 + 10 * i else tBF σ i.toNat := by
  obtain ⟨n, rfl⟩ := Int.eq_ofNat_of_zero_le hi
  rfl
def tBt (σ : Int → Int) : Int := tBF σ 199
theorem zTh_0 {k : Int} (h : k % 3 = 0) (x : Int) : x * zThi (k % 3) / 100 = x := by rw [h]; unfold zThi; rw [if_pos rfl]; omega
