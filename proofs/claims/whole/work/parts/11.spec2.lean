theorem zcp5 {σ τ : Int → Int} {i : Int} (h : ∀ x : Int, (x = 1 ∨ x = 2 ∨ 5 ≤ x ∧ x < 5 + 5 * i) → σ x = τ x) : ∀ x : Int, (x = 1 ∨ x = 2 ∨ 5 ≤ x ∧ x < 5 + 5 * (i + 1)) → zup (zup (zup (zup (zup σ (5 + 5 * i) (τ (5 + 5 * i))) (5 + 5 * i + 1) (τ (5 + 5 * i + 1))) (5 + 5 * i + 2) (τ (5 + 5 * i + 2))) (5 + 5 * i + 3) (τ (5 + 5 * i + 3))) (5 + 5 * i + 4) (τ (5 + 5 * i + 4)) x = τ x := by
  intro x hx
  unfold zup
  by_cases e4 : x = 5 + 5 * i + 4
  · rw [if_pos e4, e4]
  · rw [if_neg e4]
    by_cases e3 : x = 5 + 5 * i + 3
    · rw [if_pos e3, e3]
    · rw [if_neg e3]
      by_cases e2 : x = 5 + 5 * i + 2
      · rw [if_pos e2, e2]
      · rw [if_neg e2]
        by_cases e1 : x = 5 + 5 * i + 1
        · rw [if_pos e1, e1]
        · rw [if_neg e1]
          by_cases e0 : x = 5 + 5 * i
          · rw [if_pos e0, e0]
          · rw [if_neg e0]; exact h x (by omega)
theorem zcp3 {σ τ : Int → Int} (h : ∀ x : Int, (x = 1 ∨ x = 2 ∨ 5 ≤ x ∧ x < 45) → σ x = τ x) : ∀ x : Int, 0 ≤ x → x < 45 → zup (zup (zup σ 4 (τ 4)) 0 (τ 0)) 3 (τ 3) x = τ x := by
  intro x h0 h1
  unfold zup
  by_cases e3 : x = 3
  · rw [if_pos e3, e3]
  · rw [if_neg e3]
    by_cases e0 : x = 0
    · rw [if_pos e0, e0]
    · rw [if_neg e0]
      by_cases e4 : x = 4
      · rw [if_pos e4, e4]
      · rw [if_neg e4]; exact h x (by omega)
theorem zmk_s (g v : Int) {i : Int} (hi : 0 ≤ i) : zmkN g v (i + 1).toNat = max (zmkN g v i.toNat * zSteps g / 1000) (zmkN g v i.toNat + 1) := by
  obtain ⟨n, rfl⟩ := Int.eq_ofNat_of_zero_le hi
  rfl
theorem zmk_b {g v : Int} (hv : 10 ≤ v ∧ v ≤ 999) {i : Int} (hi : 0 ≤ i ∧ i ≤ 10) : 1000 ≤ zmkN g v i.toNat ∧ zmkN g v i.toNat ≤ 102400000 ∧ 0 ≤ zmkN g v i.toNat * zSteps g ∧ zmkN g v i.toNat * zSteps g ≤ 143360000000 := by
  have h := zmkN_in (g := g) hv i.toNat
  have h2 := (by decide : ∀ k, k < 11 → (2 : Int) ^ k ≤ 1024) i.toNat (by omega)
  have h3 := zSteps_in g
  have h4 : zmkN g v i.toNat * zSteps g ≤ 102400000 * 1400 := Int.mul_le_mul (by omega) h3.2 (by omega) (by omega)
  have h5 : 0 ≤ zmkN g v i.toNat * zSteps g := Int.mul_nonneg (by omega) (by omega)
  omega
def tAdd (σ : Int → Int) (d w : Int) : Int → Int := zup (zup (zup (zup (zup (zup σ (5 + 5 * σ 4) d) (5 + 5 * σ 4 + 1) w) (5 + 5 * σ 4 + 2) 0) (5 + 5 * σ 4 + 3) 0) (5 + 5 * σ 4 + 4) 0) 4 (σ 4 + 1)
def zset (m o : Int) : Int := zor m (1 * 2 ^ o.toNat)
def zclr (m o : Int) : Int := zand m (zxor (1 * 2 ^ o.toNat) (-1))
def tLk (σ : Int → Int) (a b l : Int) : Int → Int := if l = 1 then zup (zup σ (5 + 5 * a + 4) (zset (σ (5 + 5 * a + 4)) b)) (5 + 5 * b + 4) (zset (σ (5 + 5 * b + 4)) a) else zup (zup σ (5 + 5 * a + 4) (zclr (σ (5 + 5 * a + 4)) b)) (5 + 5 * b + 4) (zclr (σ (5 + 5 * b + 4)) a)
/-- a number put into its place among n sorted ones -/
def zins (q : Int → Int) (x : Int) : Nat → Int → Int
  | 0 => zup q 0 x
  | n + 1 => if q n > x then zins (zup q (n + 1) (q n)) x n else zup q (n + 1) x
theorem zins_0 (q : Int → Int) (x : Int) : zins q x (0 : Int).toNat = zup q 0 x := rfl
theorem zins_s (q : Int → Int) (x : Int) {n : Int} (hn : 0 < n) : zins q x n.toNat = if q (n - 1) > x then zins (zup q n (q (n - 1))) x (n - 1).toNat else zup q n x := by
  obtain ⟨m, hm⟩ := Int.eq_ofNat_of_zero_le (show 0 ≤ n - 1 by omega)
  obtain rfl : n = (m : Int) + 1 := by omega
  have e1 : ((m : Int) + 1).toNat = m + 1 := by omega
  have e2 : (m : Int) + 1 - 1 = m := by omega
  rw [e1, e2, Int.toNat_natCast]
  rfl
def zmsC (σ : Int → Int) : Nat → Int
  | 0 => 0
  | n + 1 => if tLn σ n = -1 then zmsC σ n else zmsC σ n + 1
def zmsQ (σ : Int → Int) (q0 : Int → Int) : Nat → Int → Int
  | 0 => q0
  | n + 1 => if tLn σ n = -1 then zmsQ σ q0 n else zins (zmsQ σ q0 n) (tLn σ n) (zmsC σ n).toNat
theorem zmsC_s (σ : Int → Int) {i : Int} (hi : 0 ≤ i) : zmsC σ (i + 1).toNat = if tLn σ i = -1 then zmsC σ i.toNat else zmsC σ i.toNat + 1 := by
  obtain ⟨n, rfl⟩ := Int.eq_ofNat_of_zero_le hi
  rfl
theorem zmsQ_s (σ : Int → Int) (q0 : Int → Int) {i : Int} (hi : 0 ≤ i) : zmsQ σ q0 (i + 1).toNat = if tLn σ i = -1 then zmsQ σ q0 i.toNat else zins (zmsQ σ q0 i.toNat) (tLn σ i) (zmsC σ i.toNat).toNat := by
  obtain ⟨n, rfl⟩ := Int.eq_ofNat_of_zero_le hi
  rfl
theorem zmsC_in (σ : Int → Int) : ∀ n : Nat, 0 ≤ zmsC σ n ∧ zmsC σ n ≤ n := by
  intro n
  induction n with
  | zero => exact ⟨by simp [zmsC], by simp [zmsC]⟩
  | succ n ih => simp only [zmsC]; split <;> omega
/-- what is put in depends on the first n alone -/
theorem zins_congr {x : Int} : ∀ (n : Nat) {q q' : Int → Int}, (∀ j : Int, 0 ≤ j → j < n → q j = q' j) → ∀ j : Int, 0 ≤ j → j < (n : Int) + 1 → zins q x n j = zins q' x n j := by
  intro n
  induction n with
  | zero =>
    intro q q' _ j h1 h2
    have e : j = 0 := by omega
    subst e
    simp only [zins, zup_s]
  | succ n ih =>
    intro q q' h j h1 h2
    simp only [zins]
    rw [h n (by omega) (by omega)]
    by_cases c : q' n > x
    · rw [if_pos c, if_pos c]
      by_cases ej : j < (n : Int) + 1
      · exact ih (fun i h3 h4 => by rw [zup_n (by omega), zup_n (by omega)]; exact h i h3 (by omega)) j h1 ej
      · have e : ∀ (m : Nat) (r : Int → Int) (k : Int), (m : Int) < k → zins r x m k = r k := by
          intro m
          induction m with
          | zero => intro r k hk; exact zup_n (by omega)
          | succ m ihm =>
            intro r k hk
            simp only [zins]
            split
            · rw [ihm _ _ (by omega), zup_n (by omega)]
            · exact zup_n (by omega)
        have ej2 : j = (n : Int) + 1 := by omega
        subst ej2
        rw [e n _ _ (by omega), e n _ _ (by omega)]
        show zup q ((n : Int) + 1) (q' n) ((n : Int) + 1) = zup q' ((n : Int) + 1) (q' n) ((n : Int) + 1)
        rw [zup_s, zup_s]
    · rw [if_neg c, if_neg c]
      by_cases e : j = ((n : Int) + 1)
      · subst e; rw [zup_s, zup_s]
      · rw [zup_n e, zup_n e]; exact h j h1 (by omega)
theorem zmsQ_congr (σ : Int → Int) (q q' : Int → Int) : ∀ (n : Nat) (j : Int), 0 ≤ j → j < zmsC σ n → zmsQ σ q n j = zmsQ σ q' n j := by
  intro n
  induction n with
  | zero => intro j h1 h2; simp only [zmsC] at h2; omega
  | succ n ih =>
    intro j h1 h2
    have hc := zmsC_in σ n
    simp only [zmsC] at h2
    simp only [zmsQ]
    split at h2
    · next c => rw [if_pos c, if_pos c]; exact ih j h1 h2
    · next c =>
      rw [if_neg c, if_neg c]
      exact zins_congr _ (fun i h3 h4 => ih i h3 (by omega)) j h1 (by omega)
def tMid (σ : Int → Int) : Int := if zmsC σ (σ 4).toNat = 0 then -1 else zmsQ σ (fun _ => 0) (σ 4).toNat ((zmsC σ (σ 4).toNat - 1) / 2)
theorem zins_in {x a b : Int} (hx : a ≤ x ∧ x ≤ b) : ∀ (n : Nat) (q : Int → Int), (∀ j : Int, 0 ≤ j → j < n → a ≤ q j ∧ q j ≤ b) → ∀ j : Int, 0 ≤ j → j < (n : Int) + 1 → a ≤ zins q x n j ∧ zins q x n j ≤ b := by
  intro n
  induction n with
  | zero =>
    intro q _ j h1 h2
    have e : j = 0 := by omega
    subst e
    simp only [zins, zup_s]; exact hx
  | succ n ih =>
    intro q h j h1 h2
    simp only [zins]
    split
    · by_cases ej : j < (n : Int) + 1
      · exact ih _ (fun i h3 h4 => by rw [zup_n (by omega)]; exact h i h3 (by omega)) j h1 ej
      · have e : ∀ (m : Nat) (r : Int → Int) (k : Int), (m : Int) < k → zins r x m k = r k := by
          intro m
          induction m with
          | zero => intro r k hk; exact zup_n (by omega)
          | succ m ihm =>
            intro r k hk
            simp only [zins]
            split
            · rw [ihm _ _ (by omega), zup_n (by omega)]
            · exact zup_n (by omega)
        have ej2 : j = (n : Int) + 1 := by omega
        subst ej2
        rw [e n _ _ (by omega), zup_s]
        exact h n (by omega) (by omega)
    · by_cases e : j = ((n : Int) + 1)
      · subst e; rw [zup_s]; exact hx
      · rw [zup_n e]; exact h j h1 (by omega)
theorem zmsQ_in {σ : Int → Int} (hw : zW σ) (q : Int → Int) : ∀ (n : Nat) (j : Int), 0 ≤ j → j < zmsC σ n → 1 ≤ zmsQ σ q n j ∧ zmsQ σ q n j ≤ 9999 := by
  intro n
  induction n with
  | zero => intro j h1 h2; simp only [zmsC] at h2; omega
  | succ n ih =>
    intro j h1 h2
    have hc := zmsC_in σ n
    have ht := tLn_in hw n
    simp only [zmsC] at h2
    simp only [zmsQ]
    split at h2
    · next c => rw [if_pos c]; exact ih j h1 h2
    · next c =>
      rw [if_neg c]
      have ht1 : 1 ≤ tLn σ n := by
        have h5 := tLe_in hw (σ (5 + 5 * (n : Int))) (σ (5 + 5 * (n : Int) + 1))
        unfold tLn at c ⊢
        split at c
        · next c2 => rw [if_pos c2]; omega
        · omega
      exact zins_in ⟨ht1, ht.2⟩ _ _ (fun i h3 h4 => ih i h3 (by omega)) j h1 (by omega)
def tPb (x : Int) : Int := if 1 ≤ x ∧ x ≤ 999 then x else 0
/-- a zone burned or held -/
def tCor (σ : Int → Int) (z : Int) : Int → Int :=
  if tOff σ z < 0 then
    (if tOff (zup σ (5 + 5 * z + 2) (tPb (tLe σ (σ (5 + 5 * z)) (σ (5 + 5 * z + 1)) - tTm σ z))) z = 0 then zup σ (5 + 5 * z + 2) (tPb (tLe σ (σ (5 + 5 * z)) (σ (5 + 5 * z + 1)) - tTm σ z)) else zup (zup σ (5 + 5 * z + 2) (tPb (tLe σ (σ (5 + 5 * z)) (σ (5 + 5 * z + 1)) - tTm σ z))) (5 + 5 * z + 2) 0)
  else if 0 < tOff σ z then
    (if tOff (zup σ (5 + 5 * z + 3) (tPb (tTm σ z - tLe σ (σ (5 + 5 * z)) (σ (5 + 5 * z + 1) + 1) + 1))) z = 0 then zup σ (5 + 5 * z + 3) (tPb (tTm σ z - tLe σ (σ (5 + 5 * z)) (σ (5 + 5 * z + 1) + 1) + 1)) else zup (zup σ (5 + 5 * z + 3) (tPb (tTm σ z - tLe σ (σ (5 + 5 * z)) (σ (5 + 5 * z + 1) + 1) + 1))) (5 + 5 * z + 3) 0)
  else σ
def tClr (σ : Int → Int) : Nat → Int → Int
  | 0 => σ
  | n + 1 => zup (zup (tClr σ n) (5 + 5 * (n : Int) + 2) 0) (5 + 5 * (n : Int) + 3) 0
def tCors (σ : Int → Int) : Nat → Int → Int
  | 0 => σ
  | n + 1 => tCor (tCors σ n) n
theorem tClr_s (σ : Int → Int) {i : Int} (hi : 0 ≤ i) : tClr σ (i + 1).toNat = zup (zup (tClr σ i.toNat) (5 + 5 * i + 2) 0) (5 + 5 * i + 3) 0 := by
  obtain ⟨n, rfl⟩ := Int.eq_ofNat_of_zero_le hi
  rfl
theorem tCors_s (σ : Int → Int) {i : Int} (hi : 0 ≤ i) : tCors σ (i + 1).toNat = tCor (tCors σ i.toNat) i := by
  obtain ⟨n, rfl⟩ := Int.eq_ofNat_of_zero_le hi
  rfl
def tTim (σ : Int → Int) : Int → Int := if tMid σ = -1 then σ else zup σ 0 (min (tMid σ) 2000)
def tPlan (σ : Int → Int) : Int → Int := tCors (tTim (tClr σ (σ 4).toNat)) (σ 4).toNat
/-- one number of a print changed within its bounds -/
theorem zW_up0 {σ : Int → Int} (h : zW σ) {v : Int} (hv : 1 ≤ v ∧ v ≤ 2000) : zW (zup σ 0 v) := by
  refine ⟨by rw [zup_s]; exact hv, by rw [zup_n (by omega)]; exact h.2.1, by rw [zup_n (by omega)]; exact h.2.2.1, by rw [zup_n (by omega)]; exact h.2.2.2.1, by rw [zup_n (by omega)]; exact h.2.2.2.2.1, fun z hz => ?_⟩
  rw [zup_n (by omega), zup_n (by omega), zup_n (by omega), zup_n (by omega), zup_n (by omega)]
  exact h.2.2.2.2.2 z hz
theorem zW_up3 {σ : Int → Int} (h : zW σ) {v : Int} (hv : 0 ≤ v ∧ v ≤ 50) : zW (zup σ 3 v) := by
  refine ⟨by rw [zup_n (by omega)]; exact h.1, by rw [zup_n (by omega)]; exact h.2.1, by rw [zup_n (by omega)]; exact h.2.2.1, by rw [zup_s]; exact hv, by rw [zup_n (by omega)]; exact h.2.2.2.2.1, fun z hz => ?_⟩
  rw [zup_n (by omega), zup_n (by omega), zup_n (by omega), zup_n (by omega), zup_n (by omega)]
  exact h.2.2.2.2.2 z hz
theorem zW_upg {σ : Int → Int} (h : zW σ) {g v : Int} (hg : 0 ≤ g ∧ g ≤ 5) (hv : 10 ≤ v ∧ v ≤ 999) : zW (zup (zup σ 1 g) 2 v) := by
  refine ⟨by rw [zup_n (by omega), zup_n (by omega)]; exact h.1, by rw [zup_n (by omega), zup_s]; exact hg, by rw [zup_s]; exact hv, by rw [zup_n (by omega), zup_n (by omega)]; exact h.2.2.2.1, by rw [zup_n (by omega), zup_n (by omega)]; exact h.2.2.2.2.1, fun z hz => ?_⟩
  repeat rw [zup_n (by omega)]
  exact h.2.2.2.2.2 z hz
/-- a zone's number of kind w (0 density .. 4 neighbours) changed -/
theorem zW_upz {σ : Int → Int} (h : zW σ) {z w v : Int} (hz : 0 ≤ z) (hw : 0 ≤ w ∧ w < 5) (hv : 0 ≤ v ∧ (w = 0 → v ≤ 24) ∧ (w = 1 → v ≤ 10) ∧ (w = 2 ∨ w = 3 → v ≤ 999) ∧ (w = 4 → v ≤ 255)) {i : Int} (hi : i = 5 + 5 * z + w) : zW (zup σ i v) := by
  subst hi
  refine ⟨by rw [zup_n (by omega)]; exact h.1, by rw [zup_n (by omega)]; exact h.2.1, by rw [zup_n (by omega)]; exact h.2.2.1, by rw [zup_n (by omega)]; exact h.2.2.2.1, by rw [zup_n (by omega)]; exact h.2.2.2.2.1, fun y hy => ?_⟩
  have g := h.2.2.2.2.2 y hy
  by_cases e : y = z
  · subst e
    rcases (show w = 0 ∨ w = 1 ∨ w = 2 ∨ w = 3 ∨ w = 4 by omega) with rfl | rfl | rfl | rfl | rfl
    · rw [show 5 + 5 * y + 0 = 5 + 5 * y by omega, zup_s, zup_n (by omega), zup_n (by omega), zup_n (by omega), zup_n (by omega)]; exact ⟨⟨hv.1, hv.2.1 rfl⟩, g.2⟩
    · rw [zup_s, zup_n (by omega), zup_n (by omega), zup_n (by omega), zup_n (by omega)]; exact ⟨g.1, ⟨hv.1, hv.2.2.1 rfl⟩, g.2.2⟩
    · rw [zup_s, zup_n (by omega), zup_n (by omega), zup_n (by omega), zup_n (by omega)]; exact ⟨g.1, g.2.1, ⟨hv.1, hv.2.2.2.1 (Or.inl rfl)⟩, g.2.2.2⟩
    · rw [zup_s, zup_n (by omega), zup_n (by omega), zup_n (by omega), zup_n (by omega)]; exact ⟨g.1, g.2.1, g.2.2.1, ⟨hv.1, hv.2.2.2.1 (Or.inr rfl)⟩, g.2.2.2.2⟩
    · rw [zup_s, zup_n (by omega), zup_n (by omega), zup_n (by omega), zup_n (by omega)]; exact ⟨g.1, g.2.1, g.2.2.1, g.2.2.2.1, ⟨hv.1, hv.2.2.2.2 rfl⟩⟩
  · rw [zup_n (by omega), zup_n (by omega), zup_n (by omega), zup_n (by omega), zup_n (by omega)]; exact g
theorem tPb_in (x : Int) : 0 ≤ tPb x ∧ tPb x ≤ 999 := by unfold tPb; split <;> omega
theorem tCor_in {σ : Int → Int} (h : zW σ) {z : Int} (hz : 0 ≤ z) : zW (tCor σ z) ∧ (tCor σ z) 4 = σ 4 ∧ (tCor σ z) 1 = σ 1 ∧ (tCor σ z) 2 = σ 2 := by
  have h2 : ∀ x : Int, zW (zup σ (5 + 5 * z + 2) (tPb x)) := fun x => by have := tPb_in x; exact zW_upz h hz (w := 2) (by omega) (by omega) rfl
  have h3 : ∀ x : Int, zW (zup σ (5 + 5 * z + 3) (tPb x)) := fun x => by have := tPb_in x; exact zW_upz h hz (w := 3) (by omega) (by omega) rfl
  have u : ∀ (τ : Int → Int) (w v k : Int), 2 ≤ w → 0 ≤ k ∧ k < 5 → zup τ (5 + 5 * z + w) v k = τ k := fun τ w v k h1 h2 => zup_n (by omega)
  unfold tCor
  split
  · split
    · exact ⟨h2 _, u _ _ _ _ (by omega) (by omega), u _ _ _ _ (by omega) (by omega), u _ _ _ _ (by omega) (by omega)⟩
    · refine ⟨zW_upz (h2 _) hz (w := 2) (by omega) (by omega) rfl, ?_, ?_, ?_⟩ <;> rw [u _ _ _ _ (by omega) (by omega), u _ _ _ _ (by omega) (by omega)]
  · split
    · split
      · exact ⟨h3 _, u _ _ _ _ (by omega) (by omega), u _ _ _ _ (by omega) (by omega), u _ _ _ _ (by omega) (by omega)⟩
      · refine ⟨zW_upz (h3 _) hz (w := 3) (by omega) (by omega) rfl, ?_, ?_, ?_⟩ <;> rw [u _ _ _ _ (by omega) (by omega), u _ _ _ _ (by omega) (by omega)]
    · exact ⟨h, rfl, rfl, rfl⟩
theorem tClr_in {σ : Int → Int} (h : zW σ) : ∀ n : Nat, zW (tClr σ n) ∧ (tClr σ n) 4 = σ 4 ∧ (tClr σ n) 1 = σ 1 ∧ (tClr σ n) 2 = σ 2 := by
  intro n
  induction n with
  | zero => exact ⟨h, rfl, rfl, rfl⟩
  | succ n ih =>
    simp only [tClr]
    refine ⟨zW_upz (zW_upz ih.1 (z := n) (w := 2) (by omega) (by omega) (by omega) rfl) (z := n) (w := 3) (by omega) (by omega) (by omega) rfl, ?_, ?_, ?_⟩ <;> rw [zup_n (by omega), zup_n (by omega)]
    · exact ih.2.1
    · exact ih.2.2.1
    · exact ih.2.2.2
theorem tCors_in {σ : Int → Int} (h : zW σ) : ∀ n : Nat, zW (tCors σ n) ∧ (tCors σ n) 4 = σ 4 ∧ (tCors σ n) 1 = σ 1 ∧ (tCors σ n) 2 = σ 2 := by
  intro n
  induction n with
  | zero => exact ⟨h, rfl, rfl, rfl⟩
  | succ n ih =>
    simp only [tCors]
    have h2 := tCor_in ih.1 (z := n) (by omega)
    exact ⟨h2.1, h2.2.1.trans ih.2.1, h2.2.2.1.trans ih.2.2.1, h2.2.2.2.trans ih.2.2.2⟩
theorem tMid_in {σ : Int → Int} (h : zW σ) : tMid σ = -1 ∨ 1 ≤ tMid σ ∧ tMid σ ≤ 9999 := by
  have hc := zmsC_in σ (σ 4).toNat
  unfold tMid
  split
  · exact Or.inl rfl
  · exact Or.inr (zmsQ_in h _ _ _ (by omega) (by omega))
theorem tTim_in {σ : Int → Int} (h : zW σ) : zW (tTim σ) ∧ (tTim σ) 4 = σ 4 ∧ (tTim σ) 1 = σ 1 ∧ (tTim σ) 2 = σ 2 := by
  have h2 := tMid_in h
  unfold tTim
  split
  · exact ⟨h, rfl, rfl, rfl⟩
  · exact ⟨zW_up0 h (by omega), zup_n (by omega), zup_n (by omega), zup_n (by omega)⟩
theorem tPlan_in {σ : Int → Int} (h : zW σ) : zW (tPlan σ) ∧ (tPlan σ) 4 = σ 4 ∧ (tPlan σ) 1 = σ 1 ∧ (tPlan σ) 2 = σ 2 := by
  have h1 := tClr_in h (σ 4).toNat
  have h2 := tTim_in h1.1
  have h3 := tCors_in h2.1 (σ 4).toNat
  exact ⟨h3.1, h3.2.1.trans (h2.2.1.trans h1.2.1), h3.2.2.1.trans (h2.2.2.1.trans h1.2.2.1), h3.2.2.2.trans (h2.2.2.2.trans h1.2.2.2)⟩
theorem zsh1 {o : Int} (h : 0 ≤ o ∧ o < 8) : (1 : Int) * 2 ^ o.toNat < 4294967296 := by
  have := (by decide : ∀ k, k < 8 → (1 : Int) * 2 ^ k < 4294967296) o.toNat (by omega)
  exact this
