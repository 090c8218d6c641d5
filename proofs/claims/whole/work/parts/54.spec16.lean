/-! orders done: by the class as it reads, by the reference order by order -/
def dB (ρ σ : Int → Int) : Int := if ρ 1 = 122 then (if σ 4 < 8 then 1 else 0) else if ρ 1 = 110 then (if ρ 2 < σ 4 ∧ ρ 3 < σ 4 then 1 else 0) else if ρ 1 = 116 then 1 else (if ρ 2 < σ 4 then 1 else 0)
def dDo (ρ σ : Int → Int) : Int → Int := if ρ 1 = 122 then tAdd σ (ρ 2) (ρ 3) else if ρ 1 = 110 then tLk σ (ρ 2) (ρ 3) 1 else if ρ 1 = 116 then zup σ 0 (ρ 3) else if ρ 1 = 98 then zup σ (5 + 5 * ρ 2 + 2) (ρ 3) else zup σ (5 + 5 * ρ 2 + 3) (ρ 3)
def dSt (ρ σ : Int → Int) : Int → Int := if dB ρ σ = 1 then dDo ρ σ else σ
def zRv (ρ : Int → Int) : Prop := (ρ 1 = 122 ∧ (0 ≤ ρ 2 ∧ ρ 2 ≤ 24) ∧ 0 ≤ ρ 3 ∧ ρ 3 ≤ 10) ∨ (ρ 1 = 110 ∧ 0 ≤ ρ 2 ∧ ρ 2 < ρ 3 ∧ ρ 3 ≤ 7) ∨ (ρ 1 = 116 ∧ 1 ≤ ρ 3 ∧ ρ 3 ≤ 2000) ∨ ((ρ 1 = 98 ∨ ρ 1 = 104) ∧ (0 ≤ ρ 2 ∧ ρ 2 ≤ 7) ∧ 0 ≤ ρ 3 ∧ ρ 3 ≤ 999)
theorem zVals_rv {f ρ : Int → Int} (h : zVals f ρ) : zRv ρ := by
  obtain ⟨-, h⟩ := h
  unfold zRv
  rcases h with h | h | h | h
  · exact Or.inl ⟨h.1, h.2.2.2.1, h.2.2.2.2⟩
  · exact Or.inr (Or.inl ⟨h.1, h.2.2.2⟩)
  · exact Or.inr (Or.inr (Or.inl ⟨h.1, h.2.2⟩))
  · exact Or.inr (Or.inr (Or.inr ⟨h.1, h.2.2.2.1, h.2.2.2.2⟩))
theorem dB_z {ρ σ : Int → Int} (h : ρ 1 = 122) : dB ρ σ = if σ 4 < 8 then 1 else 0 := by unfold dB; rw [if_pos h]
theorem dB_n {ρ σ : Int → Int} (h : ρ 1 = 110) : dB ρ σ = if ρ 2 < σ 4 ∧ ρ 3 < σ 4 then 1 else 0 := by unfold dB; rw [if_neg (by omega), if_pos h]
theorem dB_t {ρ σ : Int → Int} (h : ρ 1 = 116) : dB ρ σ = 1 := by unfold dB; rw [if_neg (by omega), if_neg (by omega), if_pos h]
theorem dB_b {ρ σ : Int → Int} (h : ρ 1 = 98 ∨ ρ 1 = 104) : dB ρ σ = if ρ 2 < σ 4 then 1 else 0 := by unfold dB; rw [if_neg (by omega), if_neg (by omega), if_neg (by omega)]
theorem dDo_z {ρ σ : Int → Int} (h : ρ 1 = 122) : dDo ρ σ = tAdd σ (ρ 2) (ρ 3) := by unfold dDo; rw [if_pos h]
theorem dDo_n {ρ σ : Int → Int} (h : ρ 1 = 110) : dDo ρ σ = tLk σ (ρ 2) (ρ 3) 1 := by unfold dDo; rw [if_neg (by omega), if_pos h]
theorem dDo_t {ρ σ : Int → Int} (h : ρ 1 = 116) : dDo ρ σ = zup σ 0 (ρ 3) := by unfold dDo; rw [if_neg (by omega), if_neg (by omega), if_pos h]
theorem dDo_b {ρ σ : Int → Int} (h : ρ 1 = 98) : dDo ρ σ = zup σ (5 + 5 * ρ 2 + 2) (ρ 3) := by unfold dDo; rw [if_neg (by omega), if_neg (by omega), if_neg (by omega), if_pos h]
theorem dDo_h {ρ σ : Int → Int} (h : ρ 1 = 104) : dDo ρ σ = zup σ (5 + 5 * ρ 2 + 3) (ρ 3) := by unfold dDo; rw [if_neg (by omega), if_neg (by omega), if_neg (by omega), if_neg (by omega)]
theorem dSt_1 {ρ σ : Int → Int} (h : dB ρ σ = 1) : dSt ρ σ = dDo ρ σ := if_pos h
theorem dSt_0 {ρ σ : Int → Int} (h : dB ρ σ = 0) : dSt ρ σ = σ := if_neg (by omega)
theorem dB_in (ρ σ : Int → Int) : dB ρ σ = 0 ∨ dB ρ σ = 1 := by unfold dB; (repeat split) <;> omega
theorem zOk_dSt {ρ σ : Int → Int} (h : zOk σ) (hv : zRv ρ) : zOk (dSt ρ σ) ∧ dSt ρ σ 1 = σ 1 ∧ dSt ρ σ 2 = σ 2 := by
  rcases dB_in ρ σ with e | e
  · rw [dSt_0 e]; exact ⟨h, rfl, rfl⟩
  · rw [dSt_1 e]
    have h4 := zW_4 h.1
    rcases hv with hv | hv | hv | hv
    · rw [dB_z hv.1] at e
      have h8 : σ 4 < 8 := by refine Classical.byContradiction fun q => ?_; rw [if_neg q] at e; omega
      rw [dDo_z hv.1]
      refine ⟨zOk_add h h8 hv.2.1 hv.2.2, ?_, ?_⟩ <;> (unfold tAdd; rw [zup_n (by omega), zup_n (by omega), zup_n (by omega), zup_n (by omega), zup_n (by omega), zup_n (by omega)])
    · rw [dB_n hv.1] at e
      have h8 : ρ 2 < σ 4 ∧ ρ 3 < σ 4 := by refine Classical.byContradiction fun q => ?_; rw [if_neg q] at e; omega
      rw [dDo_n hv.1, tLk_set h.1 h.2.2 (by omega) (by omega) (by omega)]
      split
      · exact ⟨h, rfl, rfl⟩
      · refine ⟨zOk_tw h (by omega) (by omega) (by omega), ?_, ?_⟩ <;> (unfold tTw; rw [zup_n (by omega), zup_n (by omega)])
    · rw [dDo_t hv.1]
      exact ⟨zOk_0 h hv.2, zup_n (by omega), zup_n (by omega)⟩
    · rcases hv.1 with q | q
      · rw [dDo_b q]
        exact ⟨zOk_z h hv.2.1.1 (w := 2) (by omega) (by omega), zup_n (by omega), zup_n (by omega)⟩
      · rw [dDo_h q]
        exact ⟨zOk_z h hv.2.1.1 (w := 3) (by omega) (by omega), zup_n (by omega), zup_n (by omega)⟩
/-- what the class's reader keeps -/
def zRI (ρ : Int → Int) : Prop := ρ 0 = 0 ∨ (ρ 0 = 1 ∧ ((ρ 1 = 122 ∧ -1 ≤ ρ 2 ∧ ρ 2 ≤ 24) ∨ (ρ 1 = 110 ∧ ρ 2 = -1) ∨ ((ρ 1 = 98 ∨ ρ 1 = 104) ∧ -1 ≤ ρ 2 ∧ ρ 2 ≤ 7)) ∧ ρ 3 = -1) ∨ (ρ 0 = 2 ∧ -1 ≤ ρ 3 ∧ ((ρ 1 = 122 ∧ (0 ≤ ρ 2 ∧ ρ 2 ≤ 24) ∧ ρ 3 ≤ 10) ∨ (ρ 1 = 110 ∧ (0 ≤ ρ 2 ∧ ρ 2 ≤ 6) ∧ (ρ 3 = -1 ∨ ρ 2 < ρ 3 ∧ ρ 3 ≤ 7)) ∨ (ρ 1 = 116 ∧ (ρ 3 = -1 ∨ 1 ≤ ρ 3 ∧ ρ 3 ≤ 2000)) ∨ ((ρ 1 = 98 ∨ ρ 1 = 104) ∧ (0 ≤ ρ 2 ∧ ρ 2 ≤ 7) ∧ ρ 3 ≤ 999)))
theorem oWd_cases (n c : Int) (hn : -1 ≤ n) : oWd n c = -1 ∨ ((48 ≤ c ∧ c ≤ 57) ∧ 0 ≤ oWd n c) := by
  unfold oWd
  split
  · exact Or.inl rfl
  · split <;> omega
theorem zRI_oN {ρ : Int → Int} {c : Int} (h : zRI ρ) (hk : oK ρ c) : zRI (oN ρ c) := by
  rcases h with h | ⟨h0, h1, h3⟩ | ⟨h0, h3, h1⟩
  · rw [oK_0 h] at hk
    rw [oN_0 h]
    unfold oKL at hk
    have l0 : oL ρ c 0 = if c = 116 then 2 else 1 := by unfold oL; rw [zup_s]
    have l1 : oL ρ c 1 = c := by unfold oL; rw [zup_n (by omega), zup_n (by omega), zup_n (by omega), zup_s]
    have l2 : oL ρ c 2 = -1 := by unfold oL; rw [zup_n (by omega), zup_n (by omega), zup_s]
    have l3 : oL ρ c 3 = -1 := by unfold oL; rw [zup_n (by omega), zup_s]
    unfold zRI
    rw [l0, l1, l2, l3]
    by_cases e : c = 116
    · rw [if_pos e]; omega
    · rw [if_neg e]; omega
  · rw [oK_1 h0] at hk
    rw [oN_1 h0]
    unfold oKF at hk
    unfold oF
    have hw := oWd_cases (ρ 2) c (by omega)
    have ho : oMf (ρ 1) = if ρ 1 = 122 then 24 else if ρ 1 = 110 then 6 else 7 := rfl
    by_cases e : ρ 2 ≠ -1 ∧ c = oSep (ρ 1)
    · rw [if_pos e]
      unfold zRI
      rw [zup_s, zup_n (show (1 : Int) ≠ 0 by omega), zup_n (show (2 : Int) ≠ 0 by omega), zup_n (show (3 : Int) ≠ 0 by omega)]
      omega
    · rw [if_neg e]
      have hk2 := hk.resolve_left e
      by_cases e2 : ρ 1 = 110
      · rw [if_pos e2]
        unfold zRI
        rw [zup_s, zup_n (show (1 : Int) ≠ 0 by omega), zup_n (show (2 : Int) ≠ 0 by omega), zup_n (show (3 : Int) ≠ 0 by omega), zup_n (show (1 : Int) ≠ 2 by omega), zup_s, zup_n (show (3 : Int) ≠ 2 by omega)]
        rw [if_neg (by omega), if_pos e2] at ho
        omega
      · rw [if_neg e2]
        unfold zRI
        rw [zup_n (show (0 : Int) ≠ 2 by omega), zup_n (show (1 : Int) ≠ 2 by omega), zup_s, zup_n (show (3 : Int) ≠ 2 by omega)]
        by_cases e3 : ρ 1 = 122
        · rw [if_pos e3] at ho; omega
        · rw [if_neg e3, if_neg e2] at ho; omega
  · rw [oK_2 h0] at hk
    rw [oN_2 h0]
    unfold oKA at hk
    unfold oA
    have hw := oWd_cases (ρ 3) c (by omega)
    by_cases e : ρ 3 ≠ -1 ∧ c = 59
    · rw [if_pos e]
      exact Or.inl (zup_s _ _ _)
    · rw [if_neg e]
      have hk2 := hk.resolve_left e
      have hm : oMl (ρ 1) = if ρ 1 = 122 then 10 else if ρ 1 = 110 then 7 else if ρ 1 = 116 then 2000 else 999 := rfl
      have hl : oLl ρ = if ρ 1 = 110 then ρ 2 + 1 else if ρ 1 = 116 then 1 else 0 := rfl
      unfold zRI
      rw [zup_n (show (0 : Int) ≠ 3 by omega), zup_n (show (1 : Int) ≠ 3 by omega), zup_n (show (2 : Int) ≠ 3 by omega), zup_s]
      rcases h1 with h1 | h1 | h1 | h1
      · rw [if_pos h1.1] at hm; rw [if_neg (by omega), if_neg (by omega)] at hl; omega
      · rw [if_neg (by omega), if_pos h1.1] at hm; rw [if_pos h1.1] at hl; omega
      · rw [if_neg (by omega), if_neg (by omega), if_pos h1.1] at hm; rw [if_neg (by omega), if_pos h1.1] at hl; omega
      · rw [if_neg (by omega), if_neg (by omega), if_neg (by omega)] at hm; rw [if_neg (by omega), if_neg (by omega)] at hl; omega
theorem zRI_R {t r : Int → Int} (h0 : r 0 = 0) : ∀ n : Nat, zAcc t r n → zRI (oRow t r n) := by
  intro n
  induction n with
  | zero => intro _; exact Or.inl h0
  | succ n ih =>
    intro h
    have h1 := ih (fun j h1 h2 => h j h1 (by omega))
    have h2 := h n (by omega) (by omega)
    exact zRI_oN h1 (by rw [show zR t r (n : Int) = oRow t r n from rfl] at h2; exact h2)
theorem zRI_rv {ρ : Int → Int} (h : zRI ρ) (he : zEnds ρ) : zRv ρ := by
  unfold zEnds at he
  unfold zRI at h
  unfold zRv
  omega
theorem zRI_59 {ρ : Int → Int} (h : zRI ρ) (hk : oK ρ 59) : zEnds ρ := by
  rcases h with h | ⟨h0, h1, h3⟩ | ⟨h0, h3, h1⟩
  · rw [oK_0 h] at hk
    unfold oKL at hk
    omega
  · rw [oK_1 h0] at hk
    unfold oKF at hk
    rw [oWd_no (by omega)] at hk
    have : oSep (ρ 1) = if ρ 1 = 122 then 61 else 58 := rfl
    split at this <;> omega
  · rw [oK_2 h0] at hk
    unfold oKA at hk
    rw [oWd_no (by omega)] at hk
    exact ⟨h0, by omega⟩
/-- a whole text without an error -/
def zFull (t r : Int → Int) (len : Int) : Prop := zAcc t r len ∧ zEnds (zR t r len)
theorem zFull_rv {t r : Int → Int} {len i : Int} (h0 : r 0 = 0) (hf : zFull t r len) (hi : 0 ≤ i ∧ i < len) (hl : len ≤ i + 1 ∨ t (i + 1) = 59) : zRv (zR t r (i + 1)) ∧ zEnds (zR t r (i + 1)) := by
  have h1 : zRI (oRow t r (i + 1).toNat) := zRI_R h0 _ (fun j h1 h2 => hf.1 j h1 (by omega))
  have h2 : zEnds (oRow t r (i + 1).toNat) := by
    by_cases e : i + 1 = len
    · rw [e]; exact hf.2
    · have h3 := hf.1 (i + 1) (by omega) (by omega)
      rw [hl.resolve_left (by omega)] at h3
      exact zRI_59 h1 h3
  exact ⟨zRI_rv h1 h2, h2⟩
theorem zBad_full {t r f : Int → Int} {len : Int} (hf : zFull t r len) (hb : zBad t r len f) : False := by
  obtain ⟨-, h1, h2, h3, h4⟩ := hb
  by_cases e : f 9 < len
  · exact h3 e (hf.1 _ h2.1 e)
  · have e2 : f 9 = len := by omega
    exact h4 e2 (by rw [e2]; exact hf.2)
/-- the class's way through the text: the row, how many are done, whether it has stopped -/
def cD (t r : Int → Int) (len : Int) (σ0 : Int → Int) : Nat → (Int → Int) × Int × Int
  | 0 => (σ0, 0, 0)
  | n + 1 => if (cD t r len σ0 n).2.2 = 0 ∧ (len ≤ (n : Int) + 1 ∨ t ((n : Int) + 1) = 59) then (if dB (oRow t r (n + 1)) (cD t r len σ0 n).1 = 1 then (dSt (oRow t r (n + 1)) (cD t r len σ0 n).1, (cD t r len σ0 n).2.1 + 1, 0) else ((cD t r len σ0 n).1, (cD t r len σ0 n).2.1, 1)) else cD t r len σ0 n
theorem cD_no {t r : Int → Int} {len : Int} {σ0 σ : Int → Int} {n i : Int} (hi : 0 ≤ i) (h : cD t r len σ0 i.toNat = (σ, n, 0)) (hl : ¬ (len ≤ i + 1 ∨ t (i + 1) = 59)) : cD t r len σ0 (i + 1).toNat = (σ, n, 0) := by
  obtain ⟨i, rfl⟩ := Int.eq_ofNat_of_zero_le hi
  rw [show ((i : Int) + 1).toNat = i + 1 by omega]
  rw [Int.toNat_natCast] at h
  simp only [cD]
  rw [if_neg (fun q => hl q.2)]
  exact h
theorem cD_yes {t r : Int → Int} {len : Int} {σ0 σ : Int → Int} {n i : Int} (hi : 0 ≤ i) (h : cD t r len σ0 i.toNat = (σ, n, 0)) (hl : len ≤ i + 1 ∨ t (i + 1) = 59) : cD t r len σ0 (i + 1).toNat = if dB (zR t r (i + 1)) σ = 1 then (dSt (zR t r (i + 1)) σ, n + 1, 0) else (σ, n, 1) := by
  obtain ⟨i, rfl⟩ := Int.eq_ofNat_of_zero_le hi
  unfold zR
  rw [show ((i : Int) + 1).toNat = i + 1 by omega]
  rw [Int.toNat_natCast] at h
  simp only [cD]
  rw [h, if_pos ⟨rfl, hl⟩]
theorem cD_stop {t r : Int → Int} {len : Int} {σ0 σ : Int → Int} {n i : Int} (hi : 0 ≤ i) (h : cD t r len σ0 i.toNat = (σ, n, 1)) : ∀ d : Nat, cD t r len σ0 (i.toNat + d) = (σ, n, 1) := by
  intro d
  induction d with
  | zero => exact h
  | succ d ih =>
    show cD t r len σ0 (i.toNat + d + 1) = _
    simp only [cD]
    rw [ih, if_neg (fun q => absurd q.1 (by dsimp only; omega))]
theorem cD_end {t r : Int → Int} {len : Int} {σ0 σ : Int → Int} {n i : Int} (hi : 0 ≤ i ∧ i ≤ len) (h : cD t r len σ0 i.toNat = (σ, n, 1)) : cD t r len σ0 len.toNat = (σ, n, 1) := by
  have e : len.toNat = i.toNat + (len - i).toNat := by omega
  rw [e]
  exact cD_stop hi.1 h _
theorem cD_skip {t r : Int → Int} {len : Int} {σ0 σ : Int → Int} {n i : Int} (hi : 0 ≤ i) (h : cD t r len σ0 i.toNat = (σ, n, 0)) : ∀ d : Nat, i + d < len → (∀ j : Int, i < j → j ≤ i + d → t j ≠ 59) → cD t r len σ0 (i + d).toNat = (σ, n, 0) := by
  intro d
  induction d with
  | zero => intro _ _; rw [show i + ((0 : Nat) : Int) = i by omega]; exact h
  | succ d ih =>
    intro h1 h2
    have h3 := ih (by omega) (fun j h4 h5 => h2 j h4 (by omega))
    have h4 := cD_no (by omega) h3 (fun q => by
      rcases q with q | q
      · omega
      · exact h2 _ (by omega) (by omega) q)
    rw [show i + ((d + 1 : Nat) : Int) = i + (d : Int) + 1 by omega]
    exact h4
/-- an order is done: from its first character to its last -/
theorem cD_ord {t r f ρ : Int → Int} {len a : Int} {σ0 σ : Int → Int} {n : Int} (hf : zFull t r len) (ha : 0 ≤ a) (h : cD t r len σ0 a.toNat = (σ, n, 0)) (hA : zAt t r len a f ρ) (hk : f 9 < len → (oK ρ (t (f 9)) ↔ t (f 9) = 59)) (hlt : a < f 9) : cD t r len σ0 (f 9).toNat = if dB ρ σ = 1 then (dSt ρ σ, n + 1, 0) else (σ, n, 1) := by
  obtain ⟨a0, a1, a2, a3, a6, a4⟩ := hA
  have h1 := cD_skip ha h (f 9 - 1 - a).toNat (by omega) (fun j h1 h2 => a4 j (by omega) (by omega))
  rw [show a + ((f 9 - 1 - a).toNat : Int) = f 9 - 1 by omega] at h1
  have h2 := cD_yes (by omega) h1 (by
    rw [show f 9 - 1 + 1 = f 9 by omega]
    by_cases e : f 9 < len
    · right
      have h3 := hf.1 (f 9) a2.1 e
      rw [a3] at h3
      exact (hk e).mp h3
    · left; omega)
  rw [show f 9 - 1 + 1 = f 9 by omega, a3] at h2
  exact h2
/-- the semicolon behind an order -/
theorem zSemi {t r f : Int → Int} {len a : Int} (hG : zGood t r len a f) (hl : f 9 < len) (ht : ∀ i : Int, 0 ≤ i → i < len → 0 ≤ t i ∧ t i ≤ 126) :
    (t (f 9) = 59 ∧ pW f t 59 59 = 0 ∧ ∃ ρ : Int → Int, zAt t r len (f 9 + 1) (pF f t 59 59) ρ ∧ ρ 0 = 0) ∨ (t (f 9) ≠ 59 ∧ pW f t 59 59 = 1 ∧ zBad t r len (pF f t 59 59)) := by
  obtain ⟨ρ, ⟨a0, a1, a2, a3, a6, a4⟩, he, hk, hlt, hv⟩ := hG
  have hkc := hk hl
  have ec : pC f t = t (f 9) := if_pos (by omega)
  by_cases c : t (f 9) = 59
  · have hw : pW f t 59 59 = 0 := by unfold pW; rw [if_pos ⟨a0, by omega, by omega⟩]
    refine Or.inl ⟨c, hw, oN ρ 59, ?_, ?_⟩
    · unfold zAt
      rw [pF_10, pF_9, pF_6, hw, show f 9 + (1 - 0) = f 9 + 1 by omega]
      refine ⟨rfl, zAcc_s a1 (by rw [a3]; exact hkc.mpr c), by omega, ?_, a6, fun j h1 h2 => by omega⟩
      show oRow t r (f 9 + 1).toNat = _
      rw [oRow_s t r a2.1, c]
      exact congrArg (fun q => oN q 59) a3
    · rw [oN_2 he.1]
      unfold oA
      rw [if_pos ⟨he.2, rfl⟩, zup_s]
  · have hw : pW f t 59 59 = 1 := by unfold pW; rw [if_neg (by omega)]
    refine Or.inr ⟨c, hw, ?_⟩
    unfold zBad
    rw [pF_10, pF_9, hw, show f 9 + (1 - 1) = f 9 by omega]
    exact ⟨rfl, a1, a2, fun _ q => c (hkc.mp (by rw [a3] at q; exact q)), fun q => by omega⟩
theorem cD_semi {t r f : Int → Int} {len a : Int} {σ0 σ : Int → Int} {n : Int} (hf : zFull t r len) (hG : zGood t r len a f) (hl : f 9 < len) (h : cD t r len σ0 (f 9).toNat = (σ, n, 0)) : cD t r len σ0 (f 9 + 1).toNat = (σ, n, 0) := by
  obtain ⟨ρ, ⟨a0, a1, a2, a3, a6, a4⟩, he, hk, hlt, hv⟩ := hG
  have hc : t (f 9) = 59 := (hk hl).mp (by have := hf.1 (f 9) a2.1 hl; rw [a3] at this; exact this)
  have hr : zR t r (f 9 + 1) 0 = 0 := by
    show oRow t r (f 9 + 1).toNat 0 = 0
    rw [oRow_s t r a2.1, hc, show oRow t r (f 9).toNat = ρ from a3, oN_2 he.1]
    unfold oA
    rw [if_pos ⟨he.2, rfl⟩, zup_s]
  refine cD_no a2.1 h (fun q => ?_)
  by_cases e : f 9 + 1 < len
  · have h1 := hf.1 (f 9 + 1) (by omega) e
    rw [q.resolve_left (by omega), oK_0 hr] at h1
    unfold oKL at h1
    omega
  · have h1 := hf.2
    rw [show len = f 9 + 1 by omega] at h1
    have := h1.1
    omega
theorem zAt_pI {t r f ρ : Int → Int} {len a : Int} (hlen : len ≤ 60) (ht : ∀ i : Int, 0 ≤ i → i < 60 → 0 ≤ t i ∧ t i ≤ 126) (h : zAt t r len a f ρ) : pI f t := by
  obtain ⟨a0, a1, a2, a3, a6, a4⟩ := h
  exact ⟨⟨a2.1, by omega⟩, by omega, Or.inl a0, ht⟩
theorem pOrd_x (f t : Int → Int) (w : Int) {x : Int} (h : x < 9 ∨ 13 < x) : pOrd f t w x = f x := by
  have h0 : ∀ g : Int → Int, ∀ most : Int, pO2 g t most x = g x := fun g most => by unfold pO2; rw [zup_n (by omega), pNum_x _ _ _ _ (by omega) (by omega)]
  have h1 : ∀ g : Int → Int, ∀ hi : Int, pO1 g t hi x = g x := fun g hi => by unfold pO1; rw [zup_n (by omega), pF_x _ _ _ _ (by omega) (by omega)]
  have hp : pO0 f t w x = f x := by unfold pO0; rw [zup_n (by omega), zup_n (by omega), zup_n (by omega), zup_n (by omega), zup_n (by omega)]
  unfold pOrd
  split
  · unfold pOz; rw [h0, pF_x _ _ _ _ (by omega) (by omega), zup_n (by omega), pNum_x _ _ _ _ (by omega) (by omega), hp]
  · split
    · unfold pOn
      split
      · rw [zup_n (by omega), h1, hp]
      · rw [zup_n (by omega), pF_x _ _ _ _ (by omega) (by omega), h1, hp]
    · split
      · unfold pOt; rw [zup_n (by omega), pNum_x _ _ _ _ (by omega) (by omega), hp]
      · unfold pOb; rw [h0, pF_x _ _ _ _ (by omega) (by omega), h1, hp]
/-- the class's memory within run -/
def zDM (S : zM) (σ ρ : Int → Int) : zM := zCl (zPut S 0 σ (S 0 2) (S 0 8)) (S 8 0) (S 8 1) ρ (S 8 4) (S 8 5)
theorem zDM_00 (S : zM) (σ ρ : Int → Int) : zDM S σ ρ 0 0 = σ := by unfold zDM; rw [zC_n (by omega), zP_0]
theorem zDM_02 (S : zM) (σ ρ : Int → Int) : zDM S σ ρ 0 2 = S 0 2 := by unfold zDM; rw [zC_n (by omega), zP_2]
theorem zDM_80 (S : zM) (σ ρ : Int → Int) : zDM S σ ρ 8 0 = S 8 0 := by unfold zDM; rw [zC_0]
theorem zDM_81 (S : zM) (σ ρ : Int → Int) : zDM S σ ρ 8 1 = S 8 1 := by unfold zDM; rw [zC_1]
theorem zDM_83 (S : zM) (σ ρ : Int → Int) : zDM S σ ρ 8 3 = ρ := by unfold zDM; rw [zC_3]
theorem zDM_84 (S : zM) (σ ρ : Int → Int) : zDM S σ ρ 8 4 = S 8 4 := by unfold zDM; rw [zC_4]
theorem zDM_id (S : zM) : zDM S (S 0 0) (S 8 3) = S := by unfold zDM; rw [zP_id, zC_id]
theorem zDM_r (S : zM) (σ ρ ρ2 : Int → Int) : zCl (zDM S σ ρ) (zDM S σ ρ 8 0) (zDM S σ ρ 8 1) ρ2 (zDM S σ ρ 8 4) (zDM S σ ρ 8 5) = zDM S σ ρ2 := by
  unfold zDM; rw [zC_0, zC_1, zC_4, zC_5, zC_C]
theorem zDM_p (S : zM) (σ ρ σ2 : Int → Int) : zPut (zDM S σ ρ) 0 σ2 (zDM S σ ρ 0 2) (zDM S σ ρ 0 8) = zDM S σ2 ρ := by
  unfold zDM
  rw [zC_n (show (0 : Nat) ≠ 8 by omega), zP_2, zP_8]
  funext k j
  by_cases h8 : k = 8
  · subst h8
    rw [zP_n (by omega)]
    unfold zCl
    rw [if_pos rfl, if_pos rfl, zP_n (by omega), zP_n (by omega)]
  · rw [zC_n h8]
    by_cases h0 : k = 0
    · subst h0
      by_cases e0 : j = 0
      · subst e0; rw [zP_0, zP_0]
      · by_cases e2 : j = 2
        · subst e2; rw [zP_2, zP_2]
        · by_cases e8 : j = 8
          · subst e8; rw [zP_8, zP_8]
          · rw [zP_j ⟨e0, e2, e8⟩, zP_j ⟨e0, e2, e8⟩, zC_n (by omega), zP_j ⟨e0, e2, e8⟩]
    · rw [zP_n h0, zC_n h8, zP_n h0, zP_n h0]
