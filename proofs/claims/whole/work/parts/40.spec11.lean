/-- burning: the first time of 1 .. 999 with which the zone is right, if any, is the one that tCor takes -/
theorem tCor_bu {σ : Int → Int} (hw : zW σ) (hnl : zNl σ) {z : Int} (hz : 0 ≤ z ∧ z < 8) (h0 : σ (5 + 5 * z + 2) = 0) (ho : tOff σ z < 0) :
    ∃ K : Int, 1 ≤ K ∧ (∀ k : Int, 1 ≤ k → k < K → k ≤ 999 → tOff (zup σ (5 + 5 * z + 2) k) z ≠ 0) ∧ ((K ≤ 999 ∧ tOff (zup σ (5 + 5 * z + 2) K) z = 0 ∧ tCor σ z = zup σ (5 + 5 * z + 2) K) ∨ (1000 ≤ K ∧ tCor σ z = zup σ (5 + 5 * z + 2) 0)) := by
  have hb := hnl z hz.1 hz.2
  have hT := tTm_in hw hz
  have hL := tLe_in hw (σ (5 + 5 * z)) (σ (5 + 5 * z + 1))
  have ht := fun k : Int => tOff_bu k hz.1 hb (σ := σ)
  have hoe : tOff σ z = tAt σ z (tTm σ z) - σ (5 + 5 * z + 1) := rfl
  have hwa := zW_wa hw hz
  have hlt : 1 ≤ tLe σ (σ (5 + 5 * z)) (σ (5 + 5 * z + 1)) - tTm σ z := by
    by_cases c : 1 ≤ tTm σ z
    · have := (tLe_iff hw z (tone := σ (5 + 5 * z + 1)) (t := tTm σ z) (by omega)).mpr
      refine Classical.byContradiction fun q => ?_
      have q2 := this (by omega)
      omega
    · omega
  have hno : ∀ k : Int, 1 ≤ k → k < tLe σ (σ (5 + 5 * z)) (σ (5 + 5 * z + 1)) - tTm σ z → k ≤ 999 → tOff (zup σ (5 + 5 * z + 2) k) z ≠ 0 := by
    intro k h1 h2 h3 q
    rw [ht k, h0] at q
    have := (tLe_iff hw z (tone := σ (5 + 5 * z + 1)) (t := tTm σ z - 0 + k) (by omega)).mp (by omega)
    omega
  have hcor : tCor σ z = (if tOff (zup σ (5 + 5 * z + 2) (tPb (tLe σ (σ (5 + 5 * z)) (σ (5 + 5 * z + 1)) - tTm σ z))) z = 0 then zup σ (5 + 5 * z + 2) (tPb (tLe σ (σ (5 + 5 * z)) (σ (5 + 5 * z + 1)) - tTm σ z)) else zup (zup σ (5 + 5 * z + 2) (tPb (tLe σ (σ (5 + 5 * z)) (σ (5 + 5 * z + 1)) - tTm σ z))) (5 + 5 * z + 2) 0) := by
    unfold tCor; rw [if_pos ho]
  by_cases c : tLe σ (σ (5 + 5 * z)) (σ (5 + 5 * z + 1)) - tTm σ z ≤ 999
  · have ep : tPb (tLe σ (σ (5 + 5 * z)) (σ (5 + 5 * z + 1)) - tTm σ z) = tLe σ (σ (5 + 5 * z)) (σ (5 + 5 * z + 1)) - tTm σ z := by unfold tPb; rw [if_pos (by omega)]
    rw [ep] at hcor
    by_cases r : tOff (zup σ (5 + 5 * z + 2) (tLe σ (σ (5 + 5 * z)) (σ (5 + 5 * z + 1)) - tTm σ z)) z = 0
    · rw [if_pos r] at hcor
      exact ⟨_, hlt, hno, Or.inl ⟨c, r, hcor⟩⟩
    · rw [if_neg r, zup_zup] at hcor
      refine ⟨1000, by omega, fun k h1 h2 h3 q => ?_, Or.inr ⟨by omega, hcor⟩⟩
      by_cases c2 : k < tLe σ (σ (5 + 5 * z)) (σ (5 + 5 * z + 1)) - tTm σ z
      · exact hno k h1 c2 h3 q
      · rw [ht, h0] at r
        rw [ht, h0] at q
        have g1 := (tLe_iff hw z (tone := σ (5 + 5 * z + 1)) (t := tTm σ z - 0 + (tLe σ (σ (5 + 5 * z)) (σ (5 + 5 * z + 1)) - tTm σ z)) (by omega)).mpr (by omega)
        have g2 := (tLe_iff hw z (tone := σ (5 + 5 * z + 1) + 1) (t := tTm σ z - 0 + (tLe σ (σ (5 + 5 * z)) (σ (5 + 5 * z + 1)) - tTm σ z)) (by omega)).mp (by omega)
        have g3 := (tLe_iff hw z (tone := σ (5 + 5 * z + 1) + 1) (t := tTm σ z - 0 + k) (by omega)).mpr (by omega)
        omega
  · have ep : tPb (tLe σ (σ (5 + 5 * z)) (σ (5 + 5 * z + 1)) - tTm σ z) = 0 := by unfold tPb; rw [if_neg (by omega)]
    rw [ep, zup_zup] at hcor
    refine ⟨1000, by omega, fun k h1 h2 h3 q => hno k h1 (by omega) h3 q, Or.inr ⟨by omega, ?_⟩⟩
    rw [hcor]
    split <;> rfl
/-- holding: likewise -/
theorem tCor_ho {σ : Int → Int} (hw : zW σ) {z : Int} (hz : 0 ≤ z ∧ z < 8) (h0 : σ (5 + 5 * z + 3) = 0) (ho : 0 < tOff σ z) :
    ∃ K : Int, 1 ≤ K ∧ (∀ k : Int, 1 ≤ k → k < K → k ≤ 999 → tOff (zup σ (5 + 5 * z + 3) k) z ≠ 0) ∧ ((K ≤ 999 ∧ tOff (zup σ (5 + 5 * z + 3) K) z = 0 ∧ tCor σ z = zup σ (5 + 5 * z + 3) K) ∨ (1000 ≤ K ∧ tCor σ z = zup σ (5 + 5 * z + 3) 0)) := by
  have hT := tTm_in hw hz
  have hs := tSp_in hw z
  have hbu := zW_bu hw hz
  have hL := tLe_in hw (σ (5 + 5 * z)) (σ (5 + 5 * z + 1) + 1)
  have ht := fun k : Int => tOff_ho k hz.1 (σ := σ)
  have hoe : tOff σ z = tAt σ z (tTm σ z) - σ (5 + 5 * z + 1) := rfl
  have hwa := zW_wa hw hz
  have h00 := zW_0 hw
  have hz0 := tAt_0 hw z
  have hTe : tTm σ z = σ 0 + σ (5 + 5 * z + 2) + tSp σ z := by unfold tTm; rw [h0]; omega
  have hT1 : 1 ≤ tTm σ z := by omega
  have hle : tLe σ (σ (5 + 5 * z)) (σ (5 + 5 * z + 1) + 1) ≤ tTm σ z := (tLe_iff hw z (tone := σ (5 + 5 * z + 1) + 1) (t := tTm σ z) (by omega)).mp (by omega)
  have hge : ∀ T : Int, T ≤ 9999 → tLe σ (σ (5 + 5 * z)) (σ (5 + 5 * z + 1) + 1) ≤ T → tAt σ z T - σ (5 + 5 * z + 1) ≠ 0 := by
    intro T h1 h2 q
    have := (tLe_iff hw z (tone := σ (5 + 5 * z + 1) + 1) (t := T) (by omega)).mpr h2
    omega
  have hno : ∀ k : Int, 1 ≤ k → k < tTm σ z - tLe σ (σ (5 + 5 * z)) (σ (5 + 5 * z + 1) + 1) + 1 → k ≤ 999 → tOff (zup σ (5 + 5 * z + 3) k) z ≠ 0 := by
    intro k h1 h2 h3
    rw [ht k]
    exact hge _ (by omega) (by omega)
  have hcor : tCor σ z = (if tOff (zup σ (5 + 5 * z + 3) (tPb (tTm σ z - tLe σ (σ (5 + 5 * z)) (σ (5 + 5 * z + 1) + 1) + 1))) z = 0 then zup σ (5 + 5 * z + 3) (tPb (tTm σ z - tLe σ (σ (5 + 5 * z)) (σ (5 + 5 * z + 1) + 1) + 1)) else zup (zup σ (5 + 5 * z + 3) (tPb (tTm σ z - tLe σ (σ (5 + 5 * z)) (σ (5 + 5 * z + 1) + 1) + 1))) (5 + 5 * z + 3) 0) := by
    unfold tCor; rw [if_neg (by omega), if_pos ho]
  by_cases c : tTm σ z - tLe σ (σ (5 + 5 * z)) (σ (5 + 5 * z + 1) + 1) + 1 ≤ 999
  · have ep : tPb (tTm σ z - tLe σ (σ (5 + 5 * z)) (σ (5 + 5 * z + 1) + 1) + 1) = tTm σ z - tLe σ (σ (5 + 5 * z)) (σ (5 + 5 * z + 1) + 1) + 1 := by unfold tPb; rw [if_pos (by omega)]
    rw [ep] at hcor
    by_cases r : tOff (zup σ (5 + 5 * z + 3) (tTm σ z - tLe σ (σ (5 + 5 * z)) (σ (5 + 5 * z + 1) + 1) + 1)) z = 0
    · rw [if_pos r] at hcor
      exact ⟨_, by omega, hno, Or.inl ⟨c, r, hcor⟩⟩
    · rw [if_neg r, zup_zup] at hcor
      refine ⟨1000, by omega, fun k h1 h2 h3 => ?_, Or.inr ⟨by omega, hcor⟩⟩
      by_cases c2 : k < tTm σ z - tLe σ (σ (5 + 5 * z)) (σ (5 + 5 * z + 1) + 1) + 1
      · exact hno k h1 c2 h3
      · rw [ht] at r
        rw [ht]
        generalize hX : max (σ 0 - (tTm σ z - tLe σ (σ (5 + 5 * z)) (σ (5 + 5 * z + 1) + 1) + 1)) (σ 0 / 2) + σ (5 + 5 * z + 2) + tSp σ z = X at r
        generalize hY : max (σ 0 - k) (σ 0 / 2) + σ (5 + 5 * z + 2) + tSp σ z = Y
        have hXY : Y ≤ X ∧ 0 ≤ Y ∧ X ≤ 9999 := by omega
        by_cases c3 : tLe σ (σ (5 + 5 * z)) (σ (5 + 5 * z + 1) + 1) ≤ X
        · exact hge Y (by omega) (by omega)
        · have bX := tAt_in σ z X
          have bY := tAt_in σ z Y
          have g1 : tAt σ z X < σ (5 + 5 * z + 1) := by
            by_cases cx : 1 ≤ X
            · have := fun q => (tLe_iff hw z (tone := σ (5 + 5 * z + 1) + 1) (t := X) (by omega)).mp q
              refine Classical.byContradiction fun q => ?_
              have := this (by omega)
              omega
            · have e : X = 0 := by omega
              rw [e, hz0] at r ⊢
              omega
          intro q
          by_cases cy : 1 ≤ Y
          · have q1 := (tLe_iff hw z (tone := σ (5 + 5 * z + 1)) (t := Y) (by omega)).mp (by omega)
            have q2 := (tLe_iff hw z (tone := σ (5 + 5 * z + 1)) (t := X) (by omega)).mpr (by omega)
            omega
          · have e : Y = 0 := by omega
            rw [e, hz0] at q
            omega
  · have ep : tPb (tTm σ z - tLe σ (σ (5 + 5 * z)) (σ (5 + 5 * z + 1) + 1) + 1) = 0 := by unfold tPb; rw [if_neg (by omega)]
    rw [ep, zup_zup] at hcor
    refine ⟨1000, by omega, fun k h1 h2 h3 => hno k h1 (by omega) h3, Or.inr ⟨by omega, ?_⟩⟩
    rw [hcor]
    split <;> rfl
