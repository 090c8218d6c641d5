/-! both readers: the class's reader (rows oRow t r i behind i characters) and the reference's (its fields f, at f 9) -/
section ZT
variable {t r : Int → Int} {len : Int}
abbrev zR (t r : Int → Int) (i : Int) : Int → Int := oRow t r i.toNat
def zEnds (ρ : Int → Int) : Prop := ρ 0 = 2 ∧ ρ 3 ≠ -1
/-- the class takes all characters before i -/
def zAcc (t r : Int → Int) (i : Int) : Prop := ∀ j : Int, 0 ≤ j → j < i → oK (zR t r j) (t j)
/-- the first error is at e -/
def zWr (t r : Int → Int) (len e : Int) : Prop := zAcc t r e ∧ (0 ≤ e ∧ e ≤ len) ∧ (e < len → ¬ oK (zR t r e) (t e)) ∧ (e = len → ¬ zEnds (zR t r e))
/-- the reference stands behind an accepted text, the class's reader in the row ρ; no ';' from a on -/
def zAt (t r : Int → Int) (len a : Int) (f ρ : Int → Int) : Prop := f 10 = 0 ∧ zAcc t r (f 9) ∧ (0 ≤ f 9 ∧ f 9 ≤ len) ∧ zR t r (f 9) = ρ ∧ f 6 = len ∧ ∀ j : Int, a ≤ j → j < f 9 → t j ≠ 59
def zBad (t r : Int → Int) (len : Int) (f : Int → Int) : Prop := f 10 = 1 ∧ zWr t r len (f 9)
theorem zAcc_s {i : Int} (h : zAcc t r i) (hk : oK (zR t r i) (t i)) : zAcc t r (i + 1) := fun j h1 h2 => if e : j = i then (by rw [e]; exact hk) else h j h1 (by omega)
theorem zAt_up {a : Int} {f ρ : Int → Int} {i : Int} (hi : i = 11 ∨ i = 12 ∨ i = 13) (v : Int) (h : zAt t r len a f ρ) : zAt t r len a (zup f i v) ρ := by
  unfold zAt
  rw [zup_n (by omega), zup_n (by omega), zup_n (by omega)]
  exact h
theorem zBad_up {f : Int → Int} {i : Int} (hi : i = 11 ∨ i = 12 ∨ i = 13) (v : Int) (h : zBad t r len f) : zBad t r len (zup f i v) := by
  unfold zBad
  rw [zup_n (by omega), zup_n (by omega)]
  exact h
/-- once wrong, always wrong, at the same place -/
theorem zBad_pF {f : Int → Int} (lo hi : Int) (h : zBad t r len f) : zBad t r len (pF f t lo hi) := by
  have hw : pW f t lo hi = 1 := by unfold pW; rw [if_neg (by have := h.1; omega)]
  unfold zBad
  rw [pF_10, pF_9, hw]
  exact ⟨rfl, by rw [show f 9 + (1 - 1) = f 9 by omega]; exact h.2⟩
theorem zBad_pNl {f : Int → Int} (most v : Int) (n : Nat) (h : zBad t r len f) : pNl t most n v f = (v, f) := by
  cases n with
  | zero => rfl
  | succ n => simp only [pNl]; rw [if_neg (by have := h.1; omega)]
theorem zBad_pNum {f : Int → Int} (least most : Int) (h : zBad t r len f) : zBad t r len (pNum f t least most).2 := by
  have h1 := zBad_pF (48 + least) 57 h
  unfold pNum
  rw [zBad_pNl most _ 61 h1]
  exact h1
/-- one sign -/
theorem zSign {a : Int} {f ρ : Int → Int} {lo hi : Int} (hA : zAt t r len a f ρ) (ht : ∀ i : Int, 0 ≤ i → i < len → 0 ≤ t i ∧ t i ≤ 126) (hlo : 1 ≤ lo) (h59 : hi < 59 ∨ 59 < lo) (hne : ¬ zEnds ρ) (hk : f 9 < len → (oK ρ (t (f 9)) ↔ lo ≤ t (f 9) ∧ t (f 9) ≤ hi)) :
    (pW f t lo hi = 0 ∧ (lo ≤ pC f t ∧ pC f t ≤ hi) ∧ f 9 < len ∧ zAt t r len a (pF f t lo hi) (oN ρ (pC f t))) ∨ (pW f t lo hi = 1 ∧ zBad t r len (pF f t lo hi)) := by
  obtain ⟨a0, a1, a2, a3, a6, a4⟩ := hA
  by_cases hl : f 9 < len
  · have ec : pC f t = t (f 9) := if_pos (by omega)
    have hb := ht (f 9) a2.1 hl
    have hkc := hk hl
    by_cases c : lo ≤ t (f 9) ∧ t (f 9) ≤ hi
    · have hw : pW f t lo hi = 0 := by unfold pW; rw [if_pos ⟨a0, by omega, by omega⟩]
      refine Or.inl ⟨hw, by omega, hl, ?_⟩
      unfold zAt
      rw [pF_10, pF_9, pF_6, hw, show f 9 + (1 - 0) = f 9 + 1 by omega, ec]
      refine ⟨rfl, zAcc_s a1 (by rw [a3]; exact hkc.mpr c), by omega, ?_, a6, fun j h1 h2 => ?_⟩
      · show oRow t r (f 9 + 1).toNat = _
        rw [oRow_s t r a2.1]
        exact congrArg (fun q => oN q (t (f 9))) a3
      · by_cases e : j = f 9
        · rw [e]; omega
        · exact a4 j h1 (by omega)
    · have hw : pW f t lo hi = 1 := by unfold pW; rw [if_neg (by omega)]
      refine Or.inr ⟨hw, ?_⟩
      unfold zBad
      rw [pF_10, pF_9, hw, show f 9 + (1 - 1) = f 9 by omega]
      exact ⟨rfl, a1, a2, fun _ q => c (hkc.mp (by rw [a3] at q; exact q)), fun q => by omega⟩
  · have ec : pC f t = 0 := if_neg (by omega)
    have hw : pW f t lo hi = 1 := by unfold pW; rw [if_neg (by omega)]
    refine Or.inr ⟨hw, ?_⟩
    unfold zBad
    rw [pF_10, pF_9, hw, show f 9 + (1 - 1) = f 9 by omega]
    exact ⟨rfl, a1, a2, fun q => by omega, fun _ => by rw [a3]; exact hne⟩
/-- the rest of a number -/
theorem zNum_l {a most : Int} {F : Int → Int → Int} (ht : ∀ i : Int, 0 ≤ i → i < len → 0 ≤ t i ∧ t i ≤ 126) (hK : ∀ v c : Int, 0 ≤ v → v ≤ most → 48 ≤ c → c ≤ 57 → (oK (F v) c ↔ v ≠ 0 ∧ 10 * v + c - 48 ≤ most)) (hN : ∀ v c : Int, 0 < v → 48 ≤ c → c ≤ 57 → 10 * v + c - 48 ≤ most → oN (F v) c = F (10 * v + c - 48)) :
    ∀ (n : Nat) (v : Int) (f : Int → Int), len - f 9 < n → 0 ≤ v → v ≤ most → zAt t r len a f (F v) →
      zAt t r len a (pNl t most n v f).2 (F (pNl t most n v f).1) ∧ (v ≤ (pNl t most n v f).1 ∧ (pNl t most n v f).1 ≤ most) ∧ f 9 ≤ (pNl t most n v f).2 9 ∧ ((pNl t most n v f).2 9 < len → 48 ≤ t ((pNl t most n v f).2 9) → t ((pNl t most n v f).2 9) ≤ 57 → ¬ oK (F (pNl t most n v f).1) (t ((pNl t most n v f).2 9))) := by
  intro n
  induction n with
  | zero =>
    intro v f h1 h2 h3 hA
    have := hA.2.2.1
    omega
  | succ n ih =>
    intro v f h1 h2 h3 hA
    obtain ⟨a0, a1, a2, a3, a6, a4⟩ := id hA
    simp only [pNl]
    by_cases c : f 10 = 0 ∧ 0 < v ∧ f 9 < f 6 ∧ 48 ≤ t (f 9) ∧ t (f 9) ≤ 57 ∧ 10 * v + t (f 9) - 48 ≤ most
    · rw [if_pos c]
      have q := pW_0 (f := f) (t := t) (lo := 48) (hi := 57) a0 c.2.2.1 ⟨c.2.2.2.1, c.2.2.2.2.1⟩
      have hA2 : zAt t r len a (pF f t 48 57) (F (10 * v + t (f 9) - 48)) := by
        unfold zAt
        rw [pF_10, pF_9, pF_6, q.1, show f 9 + (1 - 0) = f 9 + 1 by omega]
        refine ⟨rfl, zAcc_s a1 (by rw [a3]; exact (hK v _ h2 h3 c.2.2.2.1 c.2.2.2.2.1).mpr ⟨by omega, c.2.2.2.2.2⟩), by omega, ?_, a6, fun j h5 h6 => ?_⟩
        · show oRow t r (f 9 + 1).toNat = _
          rw [oRow_s t r a2.1, ← hN v _ c.2.1 c.2.2.2.1 c.2.2.2.2.1 c.2.2.2.2.2]
          exact congrArg (fun q => oN q (t (f 9))) a3
        · by_cases e : j = f 9
          · rw [e]; omega
          · exact a4 j h5 (by omega)
      have e9 : pF f t 48 57 9 = f 9 + 1 := by rw [pF_9, q.1]; omega
      have h7 := ih (10 * v + t (f 9) - 48) (pF f t 48 57) (by omega) (by omega) c.2.2.2.2.2 hA2
      exact ⟨h7.1, by omega, by omega, h7.2.2.2⟩
    · rw [if_neg c]
      refine ⟨hA, by dsimp only; omega, by dsimp only; omega, fun h5 h6 h7 h8 => ?_⟩
      have := (hK v _ h2 h3 h6 h7).mp h8
      exact c ⟨a0, by omega, by dsimp only at h5; omega, h6, h7, this.2⟩
/-- a number -/
theorem zNum {a least most : Int} {f ρ : Int → Int} {F : Int → Int → Int} (ht : ∀ i : Int, 0 ≤ i → i < len → 0 ≤ t i ∧ t i ≤ 126) (hlen : len ≤ 60) (hl : 0 ≤ least ∧ least ≤ 9) (hm : 9 ≤ most) (hA : zAt t r len a f ρ) (hne : ¬ zEnds ρ) (hk0 : ∀ c : Int, 0 ≤ c → c ≤ 126 → (oK ρ c ↔ 48 + least ≤ c ∧ c ≤ 57)) (hn0 : ∀ c : Int, 48 ≤ c → c ≤ 57 → oN ρ c = F (c - 48))
    (hK : ∀ v c : Int, 0 ≤ v → v ≤ most → 48 ≤ c → c ≤ 57 → (oK (F v) c ↔ v ≠ 0 ∧ 10 * v + c - 48 ≤ most)) (hN : ∀ v c : Int, 0 < v → 48 ≤ c → c ≤ 57 → 10 * v + c - 48 ≤ most → oN (F v) c = F (10 * v + c - 48)) :
    zBad t r len (pNum f t least most).2 ∨ (zAt t r len a (pNum f t least most).2 (F (pNum f t least most).1) ∧ (least ≤ (pNum f t least most).1 ∧ (pNum f t least most).1 ≤ most) ∧ f 9 < (pNum f t least most).2 9 ∧ ((pNum f t least most).2 9 < len → 48 ≤ t ((pNum f t least most).2 9) → t ((pNum f t least most).2 9) ≤ 57 → ¬ oK (F (pNum f t least most).1) (t ((pNum f t least most).2 9)))) := by
  have h9 := hA.2.2.1
  rcases zSign hA ht (lo := 48 + least) (hi := 57) (by omega) (by omega) hne (fun q => hk0 _ (ht _ h9.1 q).1 (ht _ h9.1 q).2) with ⟨w, hc, hl9, hA2⟩ | ⟨w, hB⟩
  · right
    rw [hn0 _ (by omega) hc.2] at hA2
    have e9 : pF f t (48 + least) 57 9 = f 9 + 1 := by rw [pF_9, w]; omega
    have h := zNum_l ht hK hN 61 (pC f t - 48) (pF f t (48 + least) 57) (by omega) (by omega) (by omega) hA2
    unfold pNum
    exact ⟨h.1, by omega, by omega, h.2.2.2⟩
  · left
    unfold pNum
    rw [zBad_pNl most _ 61 hB]
    exact hB

theorem oK_0 {ρ : Int → Int} (h : ρ 0 = 0) (c : Int) : oK ρ c ↔ oKL c := by unfold oK; rw [if_pos h]
theorem oK_1 {ρ : Int → Int} (h : ρ 0 = 1) (c : Int) : oK ρ c ↔ oKF ρ c := by unfold oK; rw [if_neg (by omega), if_pos h]
theorem oK_2 {ρ : Int → Int} (h : ρ 0 = 2) (c : Int) : oK ρ c ↔ oKA ρ c := by unfold oK; rw [if_neg (by omega), if_neg (by omega)]
theorem oN_0 {ρ : Int → Int} (h : ρ 0 = 0) (c : Int) : oN ρ c = oL ρ c := by unfold oN; rw [if_pos h]
theorem oN_1 {ρ : Int → Int} (h : ρ 0 = 1) (c : Int) : oN ρ c = oF ρ c := by unfold oN; rw [if_neg (by omega), if_pos h]
theorem oN_2 {ρ : Int → Int} (h : ρ 0 = 2) (c : Int) : oN ρ c = oA ρ c := by unfold oN; rw [if_neg (by omega), if_neg (by omega)]
theorem oWd_no {n c : Int} (h : c < 48 ∨ 57 < c ∨ n = 0) : oWd n c = -1 := by unfold oWd; rw [if_pos (by omega)]
theorem oWd_m {c : Int} (h : 48 ≤ c ∧ c ≤ 57) : oWd (-1) c = c - 48 := by unfold oWd; rw [if_neg (by omega), if_pos rfl]
theorem oWd_d {n c : Int} (h : 48 ≤ c ∧ c ≤ 57) (hn : 0 < n) : oWd n c = 10 * n + c - 48 := by unfold oWd; rw [if_neg (by omega), if_neg (by omega)]; omega
/-- the last number of an order -/
theorem zLast {a least most : Int} {f ρ : Int → Int} (ht : ∀ i : Int, 0 ≤ i → i < len → 0 ≤ t i ∧ t i ≤ 126) (hlen : len ≤ 60) (hl : 0 ≤ least ∧ least ≤ 1) (hm : 9 ≤ most) (hA : zAt t r len a f ρ) (h0 : ρ 0 = 2) (h3 : ρ 3 = -1) (e1 : oLl ρ = least) (e2 : oMl (ρ 1) = most) :
    zBad t r len (pNum f t least most).2 ∨ (zAt t r len a (pNum f t least most).2 (zup ρ 3 (pNum f t least most).1) ∧ (least ≤ (pNum f t least most).1 ∧ (pNum f t least most).1 ≤ most) ∧ f 9 < (pNum f t least most).2 9 ∧ ((pNum f t least most).2 9 < len → (oK (zup ρ 3 (pNum f t least most).1) (t ((pNum f t least most).2 9)) ↔ t ((pNum f t least most).2 9) = 59))) := by
  have k0 : ∀ v : Int, zup ρ 3 v 0 = 2 := fun v => by rw [zup_n (by omega)]; exact h0
  have k1 : ∀ v : Int, zup ρ 3 v 1 = ρ 1 := fun v => zup_n (by omega)
  have k3 : ∀ v : Int, zup ρ 3 v 3 = v := fun v => zup_s _ _ _
  have kl : ∀ v : Int, oLl (zup ρ 3 v) = least := fun v => by rw [← e1]; unfold oLl; rw [zup_n (by omega), zup_n (by omega)]
  have hK : ∀ v c : Int, 0 ≤ v → v ≤ most → 48 ≤ c → c ≤ 57 → (oK (zup ρ 3 v) c ↔ v ≠ 0 ∧ 10 * v + c - 48 ≤ most) := by
    intro v c h5 h6 h7 h8
    rw [oK_2 (k0 v)]
    unfold oKA
    rw [k3, k1, e2, kl]
    by_cases e : v = 0
    · rw [oWd_no (Or.inr (Or.inr e))]; omega
    · rw [oWd_d ⟨h7, h8⟩ (by omega)]; omega
  have hN : ∀ v c : Int, 0 < v → 48 ≤ c → c ≤ 57 → 10 * v + c - 48 ≤ most → oN (zup ρ 3 v) c = zup ρ 3 (10 * v + c - 48) := by
    intro v c h5 h6 h7 h8
    rw [oN_2 (k0 v)]
    unfold oA
    rw [k3, if_neg (by omega), oWd_d ⟨h6, h7⟩ h5, zup_zup]
  have h := zNum (F := fun v => zup ρ 3 v) (least := least) (most := most) ht hlen (by omega) hm hA (fun q => q.2 h3) (fun c h5 h6 => by
    rw [oK_2 h0]
    unfold oKA
    rw [h3, e1, e2]
    by_cases q : 48 ≤ c ∧ c ≤ 57
    · rw [oWd_m q]; omega
    · rw [oWd_no (by omega)]; omega) (fun c h5 h6 => by
    rw [oN_2 h0]
    unfold oA
    rw [if_neg (by omega), h3, oWd_m ⟨h5, h6⟩]) hK hN
  rcases h with h | ⟨g1, g2, g3, g4⟩
  · exact Or.inl h
  · refine Or.inr ⟨g1, g2, g3, fun q => ?_⟩
    by_cases d : 48 ≤ t ((pNum f t least most).2 9) ∧ t ((pNum f t least most).2 9) ≤ 57
    · exact ⟨fun z => absurd z (g4 q d.1 d.2), fun z => by omega⟩
    · rw [oK_2 (k0 _)]
      unfold oKA
      rw [k3, oWd_no (by omega)]
      omega
theorem pF_x (f t : Int → Int) (lo hi : Int) {x : Int} (h9 : x ≠ 9) (h10 : x ≠ 10) : pF f t lo hi x = f x := by unfold pF; rw [zup_n h9, zup_n h10]
theorem pNl_x (t : Int → Int) (most : Int) {x : Int} (h9 : x ≠ 9) (h10 : x ≠ 10) : ∀ (n : Nat) (v : Int) (f : Int → Int), (pNl t most n v f).2 x = f x := by
  intro n
  induction n with
  | zero => intro v f; rfl
  | succ n ih =>
    intro v f
    simp only [pNl]
    split
    · rw [ih, pF_x _ _ _ _ h9 h10]
    · rfl
theorem pNum_x (f t : Int → Int) (a b : Int) {x : Int} (h9 : x ≠ 9) (h10 : x ≠ 10) : (pNum f t a b).2 x = f x := by
  unfold pNum
  rw [pNl_x t b h9 h10, pF_x _ _ _ _ h9 h10]
/-- what an order that was read says, in both -/
def zVals (f ρ : Int → Int) : Prop := f 11 = ρ 1 ∧ ((ρ 1 = 122 ∧ f 12 = ρ 2 ∧ f 13 = ρ 3 ∧ (0 ≤ ρ 2 ∧ ρ 2 ≤ 24) ∧ 0 ≤ ρ 3 ∧ ρ 3 ≤ 10) ∨ (ρ 1 = 110 ∧ f 12 = ρ 2 ∧ f 13 = ρ 3 ∧ 0 ≤ ρ 2 ∧ ρ 2 < ρ 3 ∧ ρ 3 ≤ 7) ∨ (ρ 1 = 116 ∧ f 12 = ρ 3 ∧ 1 ≤ ρ 3 ∧ ρ 3 ≤ 2000) ∨ ((ρ 1 = 98 ∨ ρ 1 = 104) ∧ f 12 = ρ 2 ∧ f 13 = ρ 3 ∧ (0 ≤ ρ 2 ∧ ρ 2 ≤ 7) ∧ 0 ≤ ρ 3 ∧ ρ 3 ≤ 999))
def zGood (t r : Int → Int) (len a : Int) (f : Int → Int) : Prop := ∃ ρ : Int → Int, zAt t r len a f ρ ∧ zEnds ρ ∧ (f 9 < len → (oK ρ (t (f 9)) ↔ t (f 9) = 59)) ∧ a < f 9 ∧ zVals f ρ
theorem zEnds_3 {ρ : Int → Int} {v : Int} (h0 : ρ 0 = 2) (hv : 0 ≤ v) : zEnds (zup ρ 3 v) := ⟨by rw [zup_n (by omega)]; exact h0, by rw [zup_s]; omega⟩
theorem zOrd_z {a : Int} {f ρ : Int → Int} (ht : ∀ i : Int, 0 ≤ i → i < len → 0 ≤ t i ∧ t i ≤ 126) (hlen : len ≤ 60) (hA : zAt t r len a f ρ) (ha : a < f 9) (h0 : ρ 0 = 1) (h1 : ρ 1 = 122) (h2 : ρ 2 = -1) (h3 : ρ 3 = -1) (h11 : f 11 = 122) : zBad t r len (pOz f t) ∨ zGood t r len a (pOz f t) := by
  have k0 : ∀ v : Int, zup ρ 2 v 0 = 1 := fun v => by rw [zup_n (by omega)]; exact h0
  have k1 : ∀ v : Int, zup ρ 2 v 1 = 122 := fun v => by rw [zup_n (by omega)]; exact h1
  have k2 : ∀ v : Int, zup ρ 2 v 2 = v := fun v => zup_s _ _ _
  have m1 : oMf 122 = 24 := rfl
  have s1 : oSep 122 = 61 := rfl
  have h := zNum (F := fun v => zup ρ 2 v) (least := 0) (most := 24) ht hlen (by omega) (by omega) hA (fun q => by have := q.1; omega) (fun c h5 h6 => by
    rw [oK_1 h0]
    unfold oKF
    rw [h2, h1, m1]
    by_cases q : 48 ≤ c ∧ c ≤ 57
    · rw [oWd_m q]; omega
    · rw [oWd_no (by omega)]; omega) (fun c h5 h6 => by
    rw [oN_1 h0]
    unfold oF
    rw [if_neg (by omega), if_neg (by omega), h2, oWd_m ⟨h5, h6⟩]) (fun v c h5 h6 h7 h8 => by
    rw [oK_1 (k0 v)]
    unfold oKF
    rw [k2, k1, m1, s1]
    by_cases e : v = 0
    · rw [oWd_no (Or.inr (Or.inr e))]; omega
    · rw [oWd_d ⟨h7, h8⟩ (by omega)]; omega) (fun v c h5 h6 h7 h8 => by
    rw [oN_1 (k0 v)]
    unfold oF
    rw [k2, k1, s1, if_neg (by omega), if_neg (by omega), oWd_d ⟨h6, h7⟩ h5, zup_zup])
  unfold pOz
  rcases h with h | ⟨g1, g2, g3, g4⟩
  · exact Or.inl (zBad_up (by omega) _ (zBad_pNum 0 10 (zBad_pF 61 61 (zBad_up (by omega) _ h))))
  · generalize hv : (pNum f t 0 24).1 = v at g1 g2 g4
    have e11 : (pNum f t 0 24).2 11 = 122 := by rw [pNum_x _ _ _ _ (by omega) (by omega)]; exact h11
    generalize hf1 : (pNum f t 0 24).2 = f1 at g1 g3 g4 e11
    have g1' := zAt_up (i := 12) (by omega) v g1
    have e9 : zup f1 12 v 9 = f1 9 := zup_n (by omega)
    have x11 : zup f1 12 v 11 = 122 := by rw [zup_n (by omega)]; exact e11
    have x12 : zup f1 12 v 12 = v := zup_s _ _ _
    generalize hf2 : zup f1 12 v = f2 at g1' e9 x11 x12
    rcases zSign g1' ht (lo := 61) (hi := 61) (by omega) (by omega) (fun q => by have := q.1; rw [k0] at this; omega) (fun q => by
      rw [oK_1 (k0 v)]
      unfold oKF
      rw [k2, k1, s1, m1]
      rw [e9] at q ⊢
      by_cases d : 48 ≤ t (f1 9) ∧ t (f1 9) ≤ 57
      · have := g4 q d.1 d.2
        rw [oK_1 (k0 v)] at this
        unfold oKF at this
        rw [k2, k1, s1, m1] at this
        constructor
        · intro z; exact absurd z this
        · intro z; omega
      · rw [oWd_no (by omega)]; omega) with ⟨w, hc, hl9, hA2⟩ | ⟨w, hB⟩
    · have er : oN (zup ρ 2 v) (pC f2 t) = zup (zup ρ 2 v) 0 2 := by
        rw [oN_1 (k0 v)]; unfold oF; rw [k2, k1, s1, if_pos (by omega)]
      rw [er] at hA2
      have y9 : pF f2 t 61 61 9 = f2 9 + 1 := by rw [pF_9, w]; omega
      have y11 : pF f2 t 61 61 11 = 122 := by rw [pF_x _ _ _ _ (by omega) (by omega)]; exact x11
      have y12 : pF f2 t 61 61 12 = v := by rw [pF_x _ _ _ _ (by omega) (by omega)]; exact x12
      generalize hf3 : pF f2 t 61 61 = f3 at hA2 y9 y11 y12
      have r0 : zup (zup ρ 2 v) 0 2 0 = 2 := zup_s _ _ _
      have r1 : zup (zup ρ 2 v) 0 2 1 = 122 := by rw [zup_n (by omega)]; exact k1 v
      have r2 : zup (zup ρ 2 v) 0 2 2 = v := by rw [zup_n (by omega)]; exact k2 v
      have r3 : zup (zup ρ 2 v) 0 2 3 = -1 := by rw [zup_n (by omega), zup_n (by omega)]; exact h3
      generalize hρ2 : zup (zup ρ 2 v) 0 2 = ρ2 at hA2 r0 r1 r2 r3
      have hL := zLast (least := 0) (most := 10) ht hlen (by omega) (by omega) hA2 r0 r3 (by unfold oLl; rw [if_neg (by omega), if_neg (by omega)]) (by rw [r1]; rfl)
      unfold pO2
      rcases hL with hL | ⟨q1, q2, q3, q4⟩
      · exact Or.inl (zBad_up (by omega) _ hL)
      · right
        have z11 : (pNum f3 t 0 10).2 11 = 122 := by rw [pNum_x _ _ _ _ (by omega) (by omega)]; exact y11
        have z12 : (pNum f3 t 0 10).2 12 = v := by rw [pNum_x _ _ _ _ (by omega) (by omega)]; exact y12
        generalize hv2 : (pNum f3 t 0 10).1 = v2 at q1 q2 q4 ⊢
        generalize hf4 : (pNum f3 t 0 10).2 = f4 at q1 q3 q4 z11 z12 ⊢
        refine ⟨zup ρ2 3 v2, zAt_up (by omega) _ q1, zEnds_3 r0 q2.1, ?_, ?_, ?_, Or.inl ⟨?_, ?_, ?_, ?_⟩⟩
        · rw [zup_n (show (9 : Int) ≠ 13 by omega)]; exact q4
        · rw [zup_n (show (9 : Int) ≠ 13 by omega)]; omega
        · rw [zup_n (show (11 : Int) ≠ 13 by omega), zup_n (show (1 : Int) ≠ 3 by omega)]; omega
        · rw [zup_n (show (1 : Int) ≠ 3 by omega)]; exact r1
        · rw [zup_n (show (12 : Int) ≠ 13 by omega), zup_n (show (2 : Int) ≠ 3 by omega)]; omega
        · rw [zup_s, zup_s]
        · rw [zup_n (show (2 : Int) ≠ 3 by omega), zup_s]; omega
    · exact Or.inl (zBad_up (by omega) _ (zBad_pNum 0 10 hB))
theorem zOrd_t {a : Int} {f ρ : Int → Int} (ht : ∀ i : Int, 0 ≤ i → i < len → 0 ≤ t i ∧ t i ≤ 126) (hlen : len ≤ 60) (hA : zAt t r len a f ρ) (ha : a < f 9) (h0 : ρ 0 = 2) (h1 : ρ 1 = 116) (h3 : ρ 3 = -1) (h11 : f 11 = 116) : zBad t r len (pOt f t) ∨ zGood t r len a (pOt f t) := by
  have hL := zLast (least := 1) (most := 2000) ht hlen (by omega) (by omega) hA h0 h3 (by unfold oLl; rw [if_neg (by omega), if_pos h1]) (by rw [h1]; rfl)
  unfold pOt
  rcases hL with hL | ⟨q1, q2, q3, q4⟩
  · exact Or.inl (zBad_up (by omega) _ hL)
  · right
    have z11 : (pNum f t 1 2000).2 11 = 116 := by rw [pNum_x _ _ _ _ (by omega) (by omega)]; exact h11
    generalize hv2 : (pNum f t 1 2000).1 = v2 at q1 q2 q4 ⊢
    generalize hf4 : (pNum f t 1 2000).2 = f4 at q1 q3 q4 z11 ⊢
    refine ⟨zup ρ 3 v2, zAt_up (by omega) _ q1, zEnds_3 h0 (by omega), ?_, ?_, ?_, Or.inr (Or.inr (Or.inl ⟨?_, ?_, ?_⟩))⟩
    · rw [zup_n (show (9 : Int) ≠ 12 by omega)]; exact q4
    · rw [zup_n (show (9 : Int) ≠ 12 by omega)]; omega
    · rw [zup_n (show (11 : Int) ≠ 12 by omega), zup_n (show (1 : Int) ≠ 3 by omega)]; omega
    · rw [zup_n (show (1 : Int) ≠ 3 by omega)]; exact h1
    · rw [zup_s, zup_s]
    · rw [zup_s]; exact q2
theorem zOrd_b {a : Int} {f ρ : Int → Int} (ht : ∀ i : Int, 0 ≤ i → i < len → 0 ≤ t i ∧ t i ≤ 126) (hlen : len ≤ 60) (hA : zAt t r len a f ρ) (ha : a < f 9) (h0 : ρ 0 = 1) (h1 : ρ 1 = 98 ∨ ρ 1 = 104) (h2 : ρ 2 = -1) (h3 : ρ 3 = -1) (h11 : f 11 = ρ 1) : zBad t r len (pOb f t) ∨ zGood t r len a (pOb f t) := by
  have m1 : oMf (ρ 1) = 7 := by unfold oMf; rw [if_neg (by omega), if_neg (by omega)]
  have s1 : oSep (ρ 1) = 58 := by unfold oSep; rw [if_neg (by omega)]
  unfold pOb pO1
  rcases zSign hA ht (lo := 48) (hi := 55) (by omega) (by omega) (fun q => by have := q.1; omega) (fun q => by
    rw [oK_1 h0]
    unfold oKF
    rw [h2, m1]
    by_cases d : 48 ≤ t (f 9) ∧ t (f 9) ≤ 57
    · rw [oWd_m d]; omega
    · rw [oWd_no (by omega)]; omega) with ⟨w, hc, hl9, hA2⟩ | ⟨w, hB⟩
  · have er : oN ρ (pC f t) = zup ρ 2 (pC f t - 48) := by
      rw [oN_1 h0]; unfold oF; rw [if_neg (by omega), if_neg (by omega), h2, oWd_m (by omega)]
    rw [er] at hA2
    generalize hv : pC f t - 48 = v at hA2 ⊢
    have y9 : pF f t 48 55 9 = f 9 + 1 := by rw [pF_9, w]; omega
    have y11 : pF f t 48 55 11 = ρ 1 := by rw [pF_x _ _ _ _ (by omega) (by omega)]; exact h11
    generalize hf1 : pF f t 48 55 = f1 at hA2 y9 y11 ⊢
    have hA3 := zAt_up (i := 12) (by omega) v hA2
    have e9 : zup f1 12 v 9 = f1 9 := zup_n (by omega)
    have x11 : zup f1 12 v 11 = ρ 1 := by rw [zup_n (by omega)]; exact y11
    have x12 : zup f1 12 v 12 = v := zup_s _ _ _
    generalize hf2 : zup f1 12 v = f2 at hA3 e9 x11 x12 ⊢
    have k0 : zup ρ 2 v 0 = 1 := by rw [zup_n (by omega)]; exact h0
    have k1 : zup ρ 2 v 1 = ρ 1 := zup_n (by omega)
    have k2 : zup ρ 2 v 2 = v := zup_s _ _ _
    have k3 : zup ρ 2 v 3 = -1 := by rw [zup_n (by omega)]; exact h3
    generalize hρ1 : zup ρ 2 v = ρ1 at hA3 k0 k1 k2 k3
    rcases zSign hA3 ht (lo := 58) (hi := 58) (by omega) (by omega) (fun q => by have := q.1; omega) (fun q => by
      rw [oK_1 k0]
      unfold oKF
      rw [k2, k1, s1, m1]
      by_cases d : (48 ≤ t (f2 9) ∧ t (f2 9) ≤ 57) ∧ v ≠ 0
      · rw [oWd_d d.1 (by omega)]; omega
      · rw [oWd_no (by omega)]; omega) with ⟨w2, hc2, hl92, hA4⟩ | ⟨w2, hB⟩
    · have er2 : oN ρ1 (pC f2 t) = zup ρ1 0 2 := by
        rw [oN_1 k0]; unfold oF; rw [k2, k1, s1, if_pos (by omega)]
      rw [er2] at hA4
      have u9 : pF f2 t 58 58 9 = f2 9 + 1 := by rw [pF_9, w2]; omega
      have u11 : pF f2 t 58 58 11 = ρ 1 := by rw [pF_x _ _ _ _ (by omega) (by omega)]; exact x11
      have u12 : pF f2 t 58 58 12 = v := by rw [pF_x _ _ _ _ (by omega) (by omega)]; exact x12
      generalize hf3 : pF f2 t 58 58 = f3 at hA4 u9 u11 u12 ⊢
      have r0 : zup ρ1 0 2 0 = 2 := zup_s _ _ _
      have r1 : zup ρ1 0 2 1 = ρ 1 := by rw [zup_n (by omega)]; exact k1
      have r2 : zup ρ1 0 2 2 = v := by rw [zup_n (by omega)]; exact k2
      have r3 : zup ρ1 0 2 3 = -1 := by rw [zup_n (by omega)]; exact k3
      generalize hρ2 : zup ρ1 0 2 = ρ2 at hA4 r0 r1 r2 r3
      have hL := zLast (least := 0) (most := 999) ht hlen (by omega) (by omega) hA4 r0 r3 (by unfold oLl; rw [if_neg (by omega), if_neg (by omega)]) (by rw [r1]; unfold oMl; rw [if_neg (by omega), if_neg (by omega), if_neg (by omega)])
      unfold pO2
      rcases hL with hL | ⟨q1, q2, q3, q4⟩
      · exact Or.inl (zBad_up (by omega) _ hL)
      · right
        have z11 : (pNum f3 t 0 999).2 11 = ρ 1 := by rw [pNum_x _ _ _ _ (by omega) (by omega)]; exact u11
        have z12 : (pNum f3 t 0 999).2 12 = v := by rw [pNum_x _ _ _ _ (by omega) (by omega)]; exact u12
        generalize hv2 : (pNum f3 t 0 999).1 = v2 at q1 q2 q4 ⊢
        generalize hf4 : (pNum f3 t 0 999).2 = f4 at q1 q3 q4 z11 z12 ⊢
        refine ⟨zup ρ2 3 v2, zAt_up (by omega) _ q1, zEnds_3 r0 q2.1, ?_, ?_, ?_, Or.inr (Or.inr (Or.inr ⟨?_, ?_, ?_, ?_, ?_⟩))⟩
        · rw [zup_n (show (9 : Int) ≠ 13 by omega)]; exact q4
        · rw [zup_n (show (9 : Int) ≠ 13 by omega)]; omega
        · rw [zup_n (show (11 : Int) ≠ 13 by omega), zup_n (show (1 : Int) ≠ 3 by omega)]; omega
        · rw [zup_n (show (1 : Int) ≠ 3 by omega), r1]; exact h1
        · rw [zup_n (show (12 : Int) ≠ 13 by omega), zup_n (show (2 : Int) ≠ 3 by omega)]; omega
        · rw [zup_s, zup_s]
        · rw [zup_n (show (2 : Int) ≠ 3 by omega)]; omega
        · rw [zup_s]; exact q2
    · exact Or.inl (zBad_up (by omega) _ (zBad_pNum 0 999 hB))
  · exact Or.inl (zBad_up (by omega) _ (zBad_pNum 0 999 (zBad_pF 58 58 (zBad_up (by omega) _ hB))))
theorem zOrd_n {a : Int} {f ρ : Int → Int} (ht : ∀ i : Int, 0 ≤ i → i < len → 0 ≤ t i ∧ t i ≤ 126) (hA : zAt t r len a f ρ) (ha : a < f 9) (h0 : ρ 0 = 1) (h1 : ρ 1 = 110) (h2 : ρ 2 = -1) (h3 : ρ 3 = -1) (h11 : f 11 = 110) : zBad t r len (pOn f t) ∨ zGood t r len a (pOn f t) := by
  have m1 : oMf 110 = 6 := rfl
  unfold pOn pO1
  rcases zSign hA ht (lo := 48) (hi := 54) (by omega) (by omega) (fun q => by have := q.1; omega) (fun q => by
    rw [oK_1 h0]
    unfold oKF
    rw [h2, h1, m1]
    by_cases d : 48 ≤ t (f 9) ∧ t (f 9) ≤ 57
    · rw [oWd_m d]; omega
    · rw [oWd_no (by omega)]; omega) with ⟨w, hc, hl9, hA2⟩ | ⟨w, hB⟩
  · have er : oN ρ (pC f t) = zup (zup ρ 2 (pC f t - 48)) 0 2 := by
      rw [oN_1 h0]; unfold oF; rw [if_neg (by omega), if_pos h1, h2, oWd_m (by omega)]
    rw [er] at hA2
    generalize hv : pC f t - 48 = v at hA2 ⊢
    have y9 : pF f t 48 54 9 = f 9 + 1 := by rw [pF_9, w]; omega
    have y10 : pF f t 48 54 10 = 0 := by rw [pF_10, w]
    have y11 : pF f t 48 54 11 = 110 := by rw [pF_x _ _ _ _ (by omega) (by omega)]; exact h11
    generalize hf1 : pF f t 48 54 = f1 at hA2 y9 y10 y11 ⊢
    have hA3 := zAt_up (i := 12) (by omega) v hA2
    have e9 : zup f1 12 v 9 = f1 9 := zup_n (by omega)
    have x10 : zup f1 12 v 10 = 0 := by rw [zup_n (by omega)]; exact y10
    have x11 : zup f1 12 v 11 = 110 := by rw [zup_n (by omega)]; exact y11
    have x12 : zup f1 12 v 12 = v := zup_s _ _ _
    generalize hf2 : zup f1 12 v = f2 at hA3 e9 x10 x11 x12 ⊢
    rw [if_neg (by omega), x12]
    have r0 : zup (zup ρ 2 v) 0 2 0 = 2 := zup_s _ _ _
    have r1 : zup (zup ρ 2 v) 0 2 1 = 110 := by rw [zup_n (by omega), zup_n (by omega)]; exact h1
    have r2 : zup (zup ρ 2 v) 0 2 2 = v := by rw [zup_n (by omega), zup_s]
    have r3 : zup (zup ρ 2 v) 0 2 3 = -1 := by rw [zup_n (by omega), zup_n (by omega)]; exact h3
    generalize hρ2 : zup (zup ρ 2 v) 0 2 = ρ2 at hA3 r0 r1 r2 r3
    have ml : oMl 110 = 7 := rfl
    have ll : oLl ρ2 = v + 1 := by unfold oLl; rw [if_pos r1, r2]
    rcases zSign hA3 ht (lo := 49 + v) (hi := 55) (by omega) (by omega) (fun q => q.2 r3) (fun q => by
      rw [oK_2 r0]
      unfold oKA
      rw [r3, r1, ml, ll]
      by_cases d : 48 ≤ t (f2 9) ∧ t (f2 9) ≤ 57
      · rw [oWd_m d]; omega
      · rw [oWd_no (by omega)]; omega) with ⟨w2, hc2, hl92, hA4⟩ | ⟨w2, hB⟩
    · have er2 : oN ρ2 (pC f2 t) = zup ρ2 3 (pC f2 t - 48) := by
        rw [oN_2 r0]; unfold oA; rw [if_neg (by omega), r3, oWd_m (by omega)]
      rw [er2] at hA4
      generalize hv2 : pC f2 t - 48 = v2 at hA4 ⊢
      have u9 : pF f2 t (49 + v) 55 9 = f2 9 + 1 := by rw [pF_9, w2]; omega
      have u11 : pF f2 t (49 + v) 55 11 = 110 := by rw [pF_x _ _ _ _ (by omega) (by omega)]; exact x11
      have u12 : pF f2 t (49 + v) 55 12 = v := by rw [pF_x _ _ _ _ (by omega) (by omega)]; exact x12
      generalize hf4 : pF f2 t (49 + v) 55 = f4 at hA4 u9 u11 u12 ⊢
      right
      have s0 : zup ρ2 3 v2 0 = 2 := by rw [zup_n (by omega)]; exact r0
      have s1 : zup ρ2 3 v2 1 = 110 := by rw [zup_n (by omega)]; exact r1
      have s2 : zup ρ2 3 v2 2 = v := by rw [zup_n (by omega)]; exact r2
      have s3 : zup ρ2 3 v2 3 = v2 := zup_s _ _ _
      refine ⟨zup ρ2 3 v2, zAt_up (by omega) _ hA4, ⟨s0, by omega⟩, fun q => ?_, ?_, ?_, Or.inr (Or.inl ⟨s1, ?_, ?_, ?_⟩)⟩
      · rw [zup_n (show (9 : Int) ≠ 13 by omega)]
        rw [oK_2 s0]
        unfold oKA
        rw [s3, s1, ml]
        by_cases d : 48 ≤ t (f4 9) ∧ t (f4 9) ≤ 57
        · rw [oWd_d d (by omega)]; omega
        · rw [oWd_no (by omega)]; omega
      · rw [zup_n (show (9 : Int) ≠ 13 by omega)]; omega
      · rw [zup_n (show (11 : Int) ≠ 13 by omega)]; omega
      · rw [zup_n (show (12 : Int) ≠ 13 by omega)]; omega
      · rw [zup_s]; omega
      · omega
    · exact Or.inl (zBad_up (by omega) _ hB)
  · have hB2 := zBad_up (i := 12) (by omega) (pC f t - 48) hB
    rw [if_pos (by have := hB2.1; omega)]
    exact Or.inl (zBad_up (by omega) _ hB2)
/-- an order -/
theorem zOrd {f ρ : Int → Int} (ht : ∀ i : Int, 0 ≤ i → i < len → 0 ≤ t i ∧ t i ≤ 126) (hlen : len ≤ 60) (hA : zAt t r len (f 9) f ρ) (h0 : ρ 0 = 0) : zBad t r len (pOrd f t (pWo f t)) ∨ zGood t r len (f 9) (pOrd f t (pWo f t)) := by
  obtain ⟨a0, a1, a2, a3, a6, a4⟩ := id hA
  have hkl := oK_0 h0
  by_cases hw : f 9 < len ∧ oKL (t (f 9))
  · have ec : pC f t = t (f 9) := if_pos (by omega)
    have e0 : pWo f t = 0 := by unfold pWo; rw [ec, if_pos ⟨a0, hw.2⟩]
    have hA0 : zAt t r len (f 9) (pO0 f t 0) (oL ρ (t (f 9))) := by
      refine zAt_up (by omega) _ (zAt_up (by omega) _ (zAt_up (by omega) _ ?_))
      unfold zAt
      rw [zup_n (show (10 : Int) ≠ 9 by omega), zup_s, zup_s, zup_n (show (6 : Int) ≠ 9 by omega), zup_n (show (6 : Int) ≠ 10 by omega), show f 9 + (1 - 0) = f 9 + 1 by omega]
      refine ⟨rfl, zAcc_s a1 (by rw [a3]; exact (hkl _).mpr hw.2), by omega, ?_, a6, fun j h1 h2 => ?_⟩
      · show oRow t r (f 9 + 1).toNat = _
        rw [oRow_s t r a2.1, ← oN_0 h0]
        exact congrArg (fun q => oN q (t (f 9))) a3
      · rw [show j = f 9 by omega]
        have := hw.2
        unfold oKL at this
        omega
    have p9 : pO0 f t 0 9 = f 9 + 1 := by unfold pO0; rw [zup_n (by omega), zup_n (by omega), zup_n (by omega), zup_s]; omega
    have p11 : pO0 f t 0 11 = t (f 9) := by unfold pO0; rw [zup_n (by omega), zup_n (by omega), zup_s, ec]
    have l0 : oL ρ (t (f 9)) 0 = if t (f 9) = 116 then 2 else 1 := by unfold oL; rw [zup_s]
    have l1 : oL ρ (t (f 9)) 1 = t (f 9) := by unfold oL; rw [zup_n (by omega), zup_n (by omega), zup_n (by omega), zup_s]
    have l2 : oL ρ (t (f 9)) 2 = -1 := by unfold oL; rw [zup_n (by omega), zup_n (by omega), zup_s]
    have l3 : oL ρ (t (f 9)) 3 = -1 := by unfold oL; rw [zup_n (by omega), zup_s]
    have hl := hw.2
    unfold oKL at hl
    unfold pOrd
    rw [e0, ec]
    by_cases c1 : t (f 9) = 122
    · rw [if_pos c1]
      exact zOrd_z ht hlen hA0 (by omega) (by rw [l0, if_neg (by omega)]) (by omega) l2 l3 (by omega)
    · rw [if_neg c1]
      by_cases c2 : t (f 9) = 110
      · rw [if_pos c2]
        exact zOrd_n ht hA0 (by omega) (by rw [l0, if_neg (by omega)]) (by omega) l2 l3 (by omega)
      · rw [if_neg c2]
        by_cases c3 : t (f 9) = 116
        · rw [if_pos c3]
          exact zOrd_t ht hlen hA0 (by omega) (by rw [l0, if_pos c3]) (by omega) l3 (by omega)
        · rw [if_neg c3]
          exact zOrd_b ht hlen hA0 (by omega) (by rw [l0, if_neg c3]) (by omega) l2 l3 (by omega)
  · have hc : ¬ (pC f t = 122 ∨ pC f t = 110 ∨ pC f t = 116 ∨ pC f t = 98 ∨ pC f t = 104) := by
      by_cases q : f 9 < len
      · have ec : pC f t = t (f 9) := if_pos (by omega)
        rw [ec]
        exact fun z => hw ⟨q, z⟩
      · have ec : pC f t = 0 := if_neg (by omega)
        omega
    have e1 : pWo f t = 1 := by unfold pWo; rw [if_neg (fun z => hc z.2)]
    have hB : zBad t r len (pO0 f t 1) := by
      refine zBad_up (by omega) _ (zBad_up (by omega) _ (zBad_up (by omega) _ ?_))
      unfold zBad
      rw [zup_n (show (10 : Int) ≠ 9 by omega), zup_s, zup_s, show f 9 + (1 - 1) = f 9 by omega]
      exact ⟨rfl, a1, a2, fun q z => hw ⟨q, (hkl _).mp (by rw [a3] at z; exact z)⟩, fun _ z => by have := z.1; rw [a3] at this; omega⟩
    left
    unfold pOrd
    rw [e1, if_neg (by omega), if_neg (by omega), if_neg (by omega)]
    unfold pOb pO1 pO2
    exact zBad_up (by omega) _ (zBad_pNum 0 999 (zBad_pF 58 58 (zBad_up (by omega) _ (zBad_pF 48 55 hB))))
end ZT
