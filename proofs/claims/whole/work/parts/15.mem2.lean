/-! the reference's seven rows: its fields, s, aside, saved, text, marks, leasts -/
def zMo (S : zM) (f σ a v t M L : Int → Int) : zM := fun k' j' => if k' = 9 then (if j' = 0 then f else if j' = 1 then σ else if j' = 2 then a else if j' = 3 then v else if j' = 4 then t else if j' = 5 then M else if j' = 6 then L else S k' j') else S k' j'
theorem zM_0 {S : zM} {f σ a v t M L : Int → Int} : zMo S f σ a v t M L 9 0 = f := by unfold zMo; simp
theorem zM_1 {S : zM} {f σ a v t M L : Int → Int} : zMo S f σ a v t M L 9 1 = σ := by unfold zMo; simp
theorem zM_2 {S : zM} {f σ a v t M L : Int → Int} : zMo S f σ a v t M L 9 2 = a := by unfold zMo; simp
theorem zM_3 {S : zM} {f σ a v t M L : Int → Int} : zMo S f σ a v t M L 9 3 = v := by unfold zMo; simp
theorem zM_4 {S : zM} {f σ a v t M L : Int → Int} : zMo S f σ a v t M L 9 4 = t := by unfold zMo; simp
theorem zM_5 {S : zM} {f σ a v t M L : Int → Int} : zMo S f σ a v t M L 9 5 = M := by unfold zMo; simp
theorem zM_6 {S : zM} {f σ a v t M L : Int → Int} : zMo S f σ a v t M L 9 6 = L := by unfold zMo; simp
theorem zM_n {S : zM} {f σ a v t M L : Int → Int} {k : Nat} (h : k ≠ 9) : zMo S f σ a v t M L k = S k := by funext j; unfold zMo; rw [if_neg h]
theorem zs_M0 {S : zM} {f σ a v t M L : Int → Int} {i x : Int} : zs (zMo S f σ a v t M L) 9 0 i x = zMo S (zup f i x) σ a v t M L := by
  funext k' j'
  by_cases h : k' = 9 ∧ j' = 0
  · obtain ⟨rfl, rfl⟩ := h; rw [zs_row, zM_0, zM_0]; rfl
  · rw [zs_ne h]; unfold zMo; by_cases h9 : k' = 9
    · rw [if_pos h9, if_pos h9]
      have hj : ¬ j' = 0 := fun q => h ⟨h9, q⟩
      simp only [if_neg hj]
    · rw [if_neg h9, if_neg h9]
theorem zs_M1 {S : zM} {f σ a v t M L : Int → Int} {i x : Int} : zs (zMo S f σ a v t M L) 9 1 i x = zMo S f (zup σ i x) a v t M L := by
  funext k' j'
  by_cases h : k' = 9 ∧ j' = 1
  · obtain ⟨rfl, rfl⟩ := h; rw [zs_row, zM_1, zM_1]; rfl
  · rw [zs_ne h]; unfold zMo; by_cases h9 : k' = 9
    · rw [if_pos h9, if_pos h9]
      have hj : ¬ j' = 1 := fun q => h ⟨h9, q⟩
      simp only [if_neg hj]
    · rw [if_neg h9, if_neg h9]
theorem zs_M2 {S : zM} {f σ a v t M L : Int → Int} {i x : Int} : zs (zMo S f σ a v t M L) 9 2 i x = zMo S f σ (zup a i x) v t M L := by
  funext k' j'
  by_cases h : k' = 9 ∧ j' = 2
  · obtain ⟨rfl, rfl⟩ := h; rw [zs_row, zM_2, zM_2]; rfl
  · rw [zs_ne h]; unfold zMo; by_cases h9 : k' = 9
    · rw [if_pos h9, if_pos h9]
      have hj : ¬ j' = 2 := fun q => h ⟨h9, q⟩
      simp only [if_neg hj]
    · rw [if_neg h9, if_neg h9]
theorem zs_M3 {S : zM} {f σ a v t M L : Int → Int} {i x : Int} : zs (zMo S f σ a v t M L) 9 3 i x = zMo S f σ a (zup v i x) t M L := by
  funext k' j'
  by_cases h : k' = 9 ∧ j' = 3
  · obtain ⟨rfl, rfl⟩ := h; rw [zs_row, zM_3, zM_3]; rfl
  · rw [zs_ne h]; unfold zMo; by_cases h9 : k' = 9
    · rw [if_pos h9, if_pos h9]
      have hj : ¬ j' = 3 := fun q => h ⟨h9, q⟩
      simp only [if_neg hj]
    · rw [if_neg h9, if_neg h9]
theorem zs_M4 {S : zM} {f σ a v t M L : Int → Int} {i x : Int} : zs (zMo S f σ a v t M L) 9 4 i x = zMo S f σ a v (zup t i x) M L := by
  funext k' j'
  by_cases h : k' = 9 ∧ j' = 4
  · obtain ⟨rfl, rfl⟩ := h; rw [zs_row, zM_4, zM_4]; rfl
  · rw [zs_ne h]; unfold zMo; by_cases h9 : k' = 9
    · rw [if_pos h9, if_pos h9]
      have hj : ¬ j' = 4 := fun q => h ⟨h9, q⟩
      simp only [if_neg hj]
    · rw [if_neg h9, if_neg h9]
theorem zs_M5 {S : zM} {f σ a v t M L : Int → Int} {i x : Int} : zs (zMo S f σ a v t M L) 9 5 i x = zMo S f σ a v t (zup M i x) L := by
  funext k' j'
  by_cases h : k' = 9 ∧ j' = 5
  · obtain ⟨rfl, rfl⟩ := h; rw [zs_row, zM_5, zM_5]; rfl
  · rw [zs_ne h]; unfold zMo; by_cases h9 : k' = 9
    · rw [if_pos h9, if_pos h9]
      have hj : ¬ j' = 5 := fun q => h ⟨h9, q⟩
      simp only [if_neg hj]
    · rw [if_neg h9, if_neg h9]
theorem zs_M6 {S : zM} {f σ a v t M L : Int → Int} {i x : Int} : zs (zMo S f σ a v t M L) 9 6 i x = zMo S f σ a v t M (zup L i x) := by
  funext k' j'
  by_cases h : k' = 9 ∧ j' = 6
  · obtain ⟨rfl, rfl⟩ := h; rw [zs_row, zM_6, zM_6]; rfl
  · rw [zs_ne h]; unfold zMo; by_cases h9 : k' = 9
    · rw [if_pos h9, if_pos h9]
      have hj : ¬ j' = 6 := fun q => h ⟨h9, q⟩
      simp only [if_neg hj]
    · rw [if_neg h9, if_neg h9]
theorem zM_M {S : zM} {f σ a v t M L : Int → Int} {f' σ' a' v' t' M' L' : Int → Int} : zMo (zMo S f σ a v t M L) f' σ' a' v' t' M' L' = zMo S f' σ' a' v' t' M' L' := by
  funext k' j'; unfold zMo; by_cases h9 : k' = 9
  · simp only [if_pos h9]
    by_cases e0 : j' = 0
    · simp only [if_pos e0]
    · by_cases e1 : j' = 1
      · simp only [if_neg e0, if_pos e1]
      · by_cases e2 : j' = 2
        · simp only [if_neg e0, if_neg e1, if_pos e2]
        · by_cases e3 : j' = 3
          · simp only [if_neg e0, if_neg e1, if_neg e2, if_pos e3]
          · by_cases e4 : j' = 4
            · simp only [if_neg e0, if_neg e1, if_neg e2, if_neg e3, if_pos e4]
            · by_cases e5 : j' = 5
              · simp only [if_neg e0, if_neg e1, if_neg e2, if_neg e3, if_neg e4, if_pos e5]
              · by_cases e6 : j' = 6
                · simp only [if_neg e0, if_neg e1, if_neg e2, if_neg e3, if_neg e4, if_neg e5, if_pos e6]
                · simp only [if_neg e0, if_neg e1, if_neg e2, if_neg e3, if_neg e4, if_neg e5, if_neg e6]
  · simp only [if_neg h9]
theorem zM_id (S : zM) : zMo S (S 9 0) (S 9 1) (S 9 2) (S 9 3) (S 9 4) (S 9 5) (S 9 6) = S := by
  funext k' j'; unfold zMo; by_cases h9 : k' = 9
  · subst h9; rw [if_pos rfl]
    by_cases e0 : j' = 0
    · simp only [if_pos e0]; rw [e0]
    · by_cases e1 : j' = 1
      · simp only [if_neg e0, if_pos e1]; rw [e1]
      · by_cases e2 : j' = 2
        · simp only [if_neg e0, if_neg e1, if_pos e2]; rw [e2]
        · by_cases e3 : j' = 3
          · simp only [if_neg e0, if_neg e1, if_neg e2, if_pos e3]; rw [e3]
          · by_cases e4 : j' = 4
            · simp only [if_neg e0, if_neg e1, if_neg e2, if_neg e3, if_pos e4]; rw [e4]
            · by_cases e5 : j' = 5
              · simp only [if_neg e0, if_neg e1, if_neg e2, if_neg e3, if_neg e4, if_pos e5]; rw [e5]
              · by_cases e6 : j' = 6
                · simp only [if_neg e0, if_neg e1, if_neg e2, if_neg e3, if_neg e4, if_neg e5, if_pos e6]; rw [e6]
                · simp only [if_neg e0, if_neg e1, if_neg e2, if_neg e3, if_neg e4, if_neg e5, if_neg e6]
  · rw [if_neg h9]
theorem zM_hw {S : zM} {f σ a v t M L : Int → Int} (h : zW σ) : zW (zMo S f σ a v t M L 9 1) := by rw [zM_1]; exact h
theorem zH_mo {G : zG} {S : zM} {f σ a v t M L : Int → Int} {f' σ' a' v' t' M' L' : Int → Int} {s : State} {H : Heap} {locs : List Loc} (h0 : ∀ x : Int, 0 ≤ x → x < 15 → f x = f' x) (h1 : ∀ x : Int, 0 ≤ x → x < 45 → σ x = σ' x) (h2 : ∀ x : Int, 0 ≤ x → x < 45 → a x = a' x) (h3 : ∀ x : Int, 0 ≤ x → x < 270 → v x = v' x) (h4 : ∀ x : Int, 0 ≤ x → x < 60 → t x = t' x) (h5 : ∀ x : Int, 0 ≤ x → x < 10 → M x = M' x) (h6 : ∀ x : Int, 0 ≤ x → x < 8 → L x = L' x) (hH : zH G (zMo S f σ a v t M L) s H locs) : zH G (zMo S f' σ' a' v' t' M' L') s H locs := by
  refine zH_eqv (fun k' j' x hk' hx1 hx2 => ?_) hH
  by_cases e : k' = 9
  · subst e
    unfold zlen at hx2
    rw [if_neg (by omega), if_neg (by omega)] at hx2
    by_cases e0 : j' = 0
    · subst e0; rw [zM_0, zM_0]; exact h0 x hx1 (by simpa using hx2)
    · by_cases e1 : j' = 1
      · subst e1; rw [zM_1, zM_1]; exact h1 x hx1 (by simpa using hx2)
      · by_cases e2 : j' = 2
        · subst e2; rw [zM_2, zM_2]; exact h2 x hx1 (by simpa using hx2)
        · by_cases e3 : j' = 3
          · subst e3; rw [zM_3, zM_3]; exact h3 x hx1 (by simpa using hx2)
          · by_cases e4 : j' = 4
            · subst e4; rw [zM_4, zM_4]; exact h4 x hx1 (by simpa using hx2)
            · by_cases e5 : j' = 5
              · subst e5; rw [zM_5, zM_5]; exact h5 x hx1 (by simpa using hx2)
              · by_cases e6 : j' = 6
                · subst e6; rw [zM_6, zM_6]; exact h6 x hx1 (by simpa using hx2)
                · unfold zMo; simp only [if_neg e0, if_neg e1, if_neg e2, if_neg e3, if_neg e4, if_neg e5, if_neg e6]
  · rw [zM_n e, zM_n e]
