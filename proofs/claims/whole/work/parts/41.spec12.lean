theorem zup_id (f : Int → Int) (i : Int) : zup f i (f i) = f := by
  funext x; unfold zup; split
  · next h => rw [h]
  · rfl
theorem zup_at (f : Int → Int) {i v : Int} (h : f i = v) : zup f i v = f := by rw [← h]; exact zup_id f i
/-- what a plan leaves as it was -/
theorem tCor_same {σ : Int → Int} {z x : Int} (h2 : x ≠ 5 + 5 * z + 2) (h3 : x ≠ 5 + 5 * z + 3) : tCor σ z x = σ x := by
  unfold tCor
  split
  · split <;> simp only [zup_n h2]
  · split
    · split <;> simp only [zup_n h3]
    · rfl
theorem tCors_same {σ : Int → Int} {x : Int} : ∀ n : Nat, (∀ z : Int, 0 ≤ z → z < n → x ≠ 5 + 5 * z + 2 ∧ x ≠ 5 + 5 * z + 3) → tCors σ n x = σ x := by
  intro n
  induction n with
  | zero => intro _; rfl
  | succ n ih =>
    intro h
    have h1 := h n (by omega) (by omega)
    simp only [tCors]
    rw [tCor_same h1.1 h1.2]
    exact ih (fun z h2 h3 => h z h2 (by omega))
theorem tClr_same {σ : Int → Int} {x : Int} : ∀ n : Nat, (∀ z : Int, 0 ≤ z → z < n → x ≠ 5 + 5 * z + 2 ∧ x ≠ 5 + 5 * z + 3) → tClr σ n x = σ x := by
  intro n
  induction n with
  | zero => intro _; rfl
  | succ n ih =>
    intro h
    have h1 := h n (by omega) (by omega)
    simp only [tClr]
    rw [zup_n h1.2, zup_n h1.1]
    exact ih (fun z h2 h3 => h z h2 (by omega))
theorem tClr_zero {σ : Int → Int} : ∀ (n : Nat) (z : Int), 0 ≤ z → z < n → tClr σ n (5 + 5 * z + 2) = 0 ∧ tClr σ n (5 + 5 * z + 3) = 0 := by
  intro n
  induction n with
  | zero => intro z h1 h2; omega
  | succ n ih =>
    intro z h1 h2
    simp only [tClr]
    by_cases e : z = n
    · subst e
      exact ⟨by rw [zup_n (by omega), zup_s], by rw [zup_s]⟩
    · have h := ih z h1 (by omega)
      exact ⟨by rw [zup_n (by omega), zup_n (by omega)]; exact h.1, by rw [zup_n (by omega), zup_n (by omega)]; exact h.2⟩
theorem tTim_same {σ : Int → Int} {x : Int} (h : x ≠ 0) : tTim σ x = σ x := by
  unfold tTim; split
  · rfl
  · exact zup_n h
theorem tPlan_nb (σ : Int → Int) (z : Int) : tPlan σ (5 + 5 * z + 4) = σ (5 + 5 * z + 4) ∨ z < -1 := by
  by_cases hz : -1 ≤ z
  · refine Or.inl ?_
    unfold tPlan
    rw [tCors_same _ (fun y _ _ => by omega)]
    by_cases e : 5 + 5 * z + 4 = 0
    · omega
    · rw [tTim_same e, tClr_same _ (fun y _ _ => by omega)]
  · exact Or.inr (by omega)
theorem zNl_of {σ τ : Int → Int} (h : ∀ z : Int, 0 ≤ z → z < 8 → τ (5 + 5 * z + 4) = σ (5 + 5 * z + 4)) (hn : zNl σ) : zNl τ := by
  intro z h0 h1
  rw [h z h0 h1]
  exact hn z h0 h1
/-- within a plan: the row behind the first n zones -/
theorem tPl_in {σ : Int → Int} (hw : zW σ) (hn : zNl σ) (n : Nat) : zW (tCors (tTim (tClr σ (σ 4).toNat)) n) ∧ (tCors (tTim (tClr σ (σ 4).toNat)) n) 4 = σ 4 ∧ zNl (tCors (tTim (tClr σ (σ 4).toNat)) n) ∧ ∀ z : Int, n ≤ z → z < σ 4 → (tCors (tTim (tClr σ (σ 4).toNat)) n) (5 + 5 * z + 2) = 0 ∧ (tCors (tTim (tClr σ (σ 4).toNat)) n) (5 + 5 * z + 3) = 0 := by
  have h1 := tClr_in hw (σ 4).toNat
  have h2 := tTim_in h1.1
  have h3 := tCors_in h2.1 n
  have h4 := zW_4 hw
  refine ⟨h3.1, h3.2.1.trans (h2.2.1.trans h1.2.1), zNl_of (fun z h5 h6 => ?_) hn, fun z h5 h6 => ?_⟩
  · rw [tCors_same _ (fun y _ _ => by omega), tTim_same (by omega), tClr_same _ (fun y _ _ => by omega)]
  · have h7 := tClr_zero (σ := σ) (σ 4).toNat z (by omega) (by omega)
    rw [tCors_same _ (fun y _ _ => by omega), tTim_same (by omega), tCors_same _ (fun y _ _ => by omega), tTim_same (by omega)]
    exact h7
theorem tPlan_nl {σ : Int → Int} (hw : zW σ) (hn : zNl σ) : zNl (tPlan σ) := (tPl_in hw hn (σ 4).toNat).2.2.1
/-- which number the reference tries: the burn or the hold -/
def tDir (σ : Int → Int) (z : Int) : Int := if tTo σ z < σ (5 + 5 * z + 1) then 2 else 3
/-- the reference's search in one: the first number K with which the zone is right, or 1000 -/
theorem tCor_all {σ : Int → Int} (hw : zW σ) (hnl : zNl σ) {z : Int} (hz : 0 ≤ z ∧ z < 8) (h2 : σ (5 + 5 * z + 2) = 0) (h3 : σ (5 + 5 * z + 3) = 0) :
    ∃ K : Int, 0 ≤ K ∧ K ≤ 1000 ∧ (∀ k : Int, 0 ≤ k → k < K → k ≤ 999 → tOff (zup σ (5 + 5 * z + tDir σ z) k) z ≠ 0) ∧ ((K ≤ 999 ∧ tOff (zup σ (5 + 5 * z + tDir σ z) K) z = 0 ∧ tCor σ z = zup σ (5 + 5 * z + tDir σ z) K) ∨ (K = 1000 ∧ tCor σ z = zup σ (5 + 5 * z + tDir σ z) 0)) := by
  have ho : tOff σ z = tTo σ z - σ (5 + 5 * z + 1) := rfl
  by_cases c1 : tOff σ z < 0
  · have e : tDir σ z = 2 := if_pos (by omega)
    rw [e]
    obtain ⟨K, hK1, hK2, hK3⟩ := tCor_bu hw hnl hz h2 c1
    have e0 : zup σ (5 + 5 * z + 2) 0 = σ := zup_at σ h2
    have hall : ∀ k : Int, 0 ≤ k → k < K → k ≤ 999 → tOff (zup σ (5 + 5 * z + 2) k) z ≠ 0 := by
      intro k k1 k2 k3
      by_cases ek : k = 0
      · rw [ek, e0]; omega
      · exact hK2 k (by omega) k2 k3
    rcases hK3 with ⟨q1, q2, q3⟩ | ⟨q1, q2⟩
    · exact ⟨K, by omega, by omega, hall, Or.inl ⟨q1, q2, q3⟩⟩
    · exact ⟨1000, by omega, by omega, fun k k1 k2 k3 => hall k k1 (by omega) k3, Or.inr ⟨rfl, q2⟩⟩
  · have e : tDir σ z = 3 := if_neg (by omega)
    rw [e]
    have e0 : zup σ (5 + 5 * z + 3) 0 = σ := zup_at σ h3
    by_cases c2 : 0 < tOff σ z
    · obtain ⟨K, hK1, hK2, hK3⟩ := tCor_ho hw hz h3 c2
      have hall : ∀ k : Int, 0 ≤ k → k < K → k ≤ 999 → tOff (zup σ (5 + 5 * z + 3) k) z ≠ 0 := by
        intro k k1 k2 k3
        by_cases ek : k = 0
        · rw [ek, e0]; omega
        · exact hK2 k (by omega) k2 k3
      rcases hK3 with ⟨q1, q2, q3⟩ | ⟨q1, q2⟩
      · exact ⟨K, by omega, by omega, hall, Or.inl ⟨q1, q2, q3⟩⟩
      · exact ⟨1000, by omega, by omega, fun k k1 k2 k3 => hall k k1 (by omega) k3, Or.inr ⟨rfl, q2⟩⟩
    · refine ⟨0, by omega, by omega, fun k k1 k2 => by omega, Or.inl ⟨by omega, ?_, ?_⟩⟩
      · rw [e0]; omega
      · rw [e0]; unfold tCor; rw [if_neg c1, if_neg c2]
theorem tDir_in (σ : Int → Int) (z : Int) : tDir σ z = 2 ∨ tDir σ z = 3 := by unfold tDir; split <;> omega
/-- the papers' search: how right and how much changed a grade's plan is -/
def tGR (σ : Int → Int) (g : Int) : Int := tCnt (tPlan (zup σ 1 g)) 0
def tGC (σ : Int → Int) (g : Int) : Int := tSum (tPlan (zup σ 1 g)) 2 + tSum (tPlan (zup σ 1 g)) 3
def tBg (σ : Int → Int) : Nat → Int × Int × Int
  | 0 => (0, -1, 0)
  | n + 1 => if (tBg σ n).2.1 < tGR σ n ∨ (tGR σ n = (tBg σ n).2.1 ∧ tGC σ n < (tBg σ n).2.2) then ((n : Int), tGR σ n, tGC σ n) else tBg σ n
theorem tBg_s (σ : Int → Int) {i : Int} (hi : 0 ≤ i) : tBg σ (i + 1).toNat = if (tBg σ i.toNat).2.1 < tGR σ i ∨ (tGR σ i = (tBg σ i.toNat).2.1 ∧ tGC σ i < (tBg σ i.toNat).2.2) then (i, tGR σ i, tGC σ i) else tBg σ i.toNat := by
  obtain ⟨n, rfl⟩ := Int.eq_ofNat_of_zero_le hi
  rfl
def tBgr (σ : Int → Int) : Int := (tBg σ 6).1
theorem zW_g {σ : Int → Int} (h : zW σ) {g : Int} (hg : 0 ≤ g ∧ g ≤ 5) : zW (zup σ 1 g) := by
  have e : zup (zup σ 1 g) 2 (σ 2) = zup σ 1 g := zup_at _ (zup_n (by omega))
  rw [← e]
  exact zW_upg h hg h.2.2.1
theorem zNl_g {σ : Int → Int} (h : zNl σ) (g : Int) : zNl (zup σ 1 g) := zNl_of (fun z _ _ => zup_n (by omega)) h
theorem tGR_in {σ : Int → Int} (hw : zW σ) {g : Int} (hg : 0 ≤ g ∧ g ≤ 5) : 0 ≤ tGR σ g ∧ tGR σ g ≤ 8 := tCnt_in (tPlan_in (zW_g hw hg)).1 0
theorem tSum_in {σ : Int → Int} (hw : zW σ) {w : Int} (h : w = 2 ∨ w = 3) : 0 ≤ tSum σ w ∧ tSum σ w ≤ 8000 := by
  have h4 := zW_4 hw
  have hq := zsum_in (f := fun z => σ (5 + 5 * z + w)) (a := 0) (b := 999) (σ 4).toNat (fun j h1 h2 => by
    rcases h with rfl | rfl
    · exact zW_bu hw (by omega)
    · exact zW_ho hw (by omega))
  unfold tSum
  omega
theorem tGC_in {σ : Int → Int} (hw : zW σ) {g : Int} (hg : 0 ≤ g ∧ g ≤ 5) : 0 ≤ tGC σ g ∧ tGC σ g ≤ 16000 := by
  have h1 := tSum_in (tPlan_in (zW_g hw hg)).1 (w := 2) (by omega)
  have h2 := tSum_in (tPlan_in (zW_g hw hg)).1 (w := 3) (by omega)
  unfold tGC
  omega
theorem tSu_7 (σ : Int → Int) (n : Nat) : zsum (tSu σ 7) n = zsum (fun z => σ (5 + 5 * z + 2)) n := zsum_congr n (fun z _ _ => by unfold tSu; rw [if_neg (by omega), if_neg (by omega), if_pos rfl])
theorem tSu_8 (σ : Int → Int) (n : Nat) : zsum (tSu σ 8) n = zsum (fun z => σ (5 + 5 * z + 3)) n := zsum_congr n (fun z _ _ => by unfold tSu; rw [if_neg (by omega), if_neg (by omega), if_neg (by omega), if_pos rfl])
theorem tBg_in {σ : Int → Int} (hw : zW σ) : ∀ n : Nat, n ≤ 6 → (0 ≤ (tBg σ n).1 ∧ (tBg σ n).1 ≤ 5) ∧ (-1 ≤ (tBg σ n).2.1 ∧ (tBg σ n).2.1 ≤ 8) ∧ (0 ≤ (tBg σ n).2.2 ∧ (tBg σ n).2.2 ≤ 16000) := by
  intro n
  induction n with
  | zero => intro _; simp [tBg]
  | succ n ih =>
    intro h
    have h1 := ih (by omega)
    have h2 := tGR_in hw (g := n) (by omega)
    have h3 := tGC_in hw (g := n) (by omega)
    simp only [tBg]
    split
    · dsimp only; omega
    · exact h1
/-- one more grade tried, as the class does it: a, b, d the best before, a', b', d' behind -/
theorem tBg_step {σ : Int → Int} (hw : zW σ) {n a b d r ch a' b' d' : Int} (hn : 0 ≤ n ∧ n ≤ 5) (hab : (n = 0 ∧ a = -1 ∧ b = 0 ∧ d = 0) ∨ (1 ≤ n ∧ a = (tBg σ n.toNat).1 ∧ b = (tBg σ n.toNat).2.1 ∧ d = (tBg σ n.toNat).2.2)) (hr : r = tGR σ n) (hc : ch = tGC σ n)
    (hs : (a' = n ∧ b' = r ∧ d' = ch ∧ (a = -1 ∨ b < r ∨ (r = b ∧ ch < d))) ∨ (a' = a ∧ b' = b ∧ d' = d ∧ a ≠ -1 ∧ ¬ (b < r ∨ (r = b ∧ ch < d)))) :
    1 ≤ n + 1 ∧ a' = (tBg σ (n + 1).toNat).1 ∧ b' = (tBg σ (n + 1).toNat).2.1 ∧ d' = (tBg σ (n + 1).toNat).2.2 := by
  have hb := tBg_in hw n.toNat (by omega)
  have hg := tGR_in hw (g := n) (by omega)
  refine ⟨by omega, ?_⟩
  rw [tBg_s _ hn.1]
  rcases hab with ⟨h0, h1, h2, h3⟩ | ⟨h0, h1, h2, h3⟩
  · have e0 : (tBg σ n.toNat).2.1 = -1 := by rw [h0]; rfl
    rw [if_pos (Or.inl (by omega))]
    dsimp only; omega
  · by_cases q : (tBg σ n.toNat).2.1 < tGR σ n ∨ (tGR σ n = (tBg σ n.toNat).2.1 ∧ tGC σ n < (tBg σ n.toNat).2.2)
    · rw [if_pos q]
      dsimp only; omega
    · rw [if_neg q]
      omega
/-- the class's memory behind a state kept -/
def zKeep (S : zM) : zM := zCl (zPut S ((S 8 1 2 % 6).toNat + 2) (S 0 0) (zMk (S 0 0 1) (S 0 0 2)) (S ((S 8 1 2 % 6).toNat + 2) 8)) (S 8 0) (zup (zup (S 8 1) 2 (S 8 1 2 + 1)) 1 (min (S 8 1 1 + 1) 6)) (S 8 3) (S 8 4) (S 8 5)
theorem zKp_n {S : zM} {k : Nat} (h : k < 2 ∨ 9 ≤ k) : zKeep S k = S k := by
  unfold zKeep
  rw [zC_n (by omega), zP_n (by omega)]
theorem zKp_0 {S : zM} : zKeep S 0 = S 0 := zKp_n (by omega)
theorem zKp_1 {S : zM} : zKeep S 1 = S 1 := zKp_n (by omega)
theorem zKp_9 {S : zM} : zKeep S 9 = S 9 := zKp_n (by omega)
