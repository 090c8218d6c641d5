/-- the class's own rows: its fields (length), its history's, its reader's, its buffer, the law's row -/
def zCl (S : zM) (f u r b o : Int → Int) : zM := fun k' j' => if k' = 8 then (if j' = 0 then f else if j' = 1 then u else if j' = 3 then r else if j' = 4 then b else if j' = 5 then o else S k' j') else S k' j'
theorem zC_0 {S : zM} {f u r b o : Int → Int} : zCl S f u r b o 8 0 = f := by unfold zCl; simp
theorem zC_1 {S : zM} {f u r b o : Int → Int} : zCl S f u r b o 8 1 = u := by unfold zCl; simp
theorem zC_3 {S : zM} {f u r b o : Int → Int} : zCl S f u r b o 8 3 = r := by unfold zCl; simp
theorem zC_4 {S : zM} {f u r b o : Int → Int} : zCl S f u r b o 8 4 = b := by unfold zCl; simp
theorem zC_5 {S : zM} {f u r b o : Int → Int} : zCl S f u r b o 8 5 = o := by unfold zCl; simp
theorem zC_n {S : zM} {f u r b o : Int → Int} {k : Nat} (h : k ≠ 8) : zCl S f u r b o k = S k := by funext j; unfold zCl; rw [if_neg h]
theorem zs_C0 {S : zM} {f u r b o : Int → Int} {i x : Int} : zs (zCl S f u r b o) 8 0 i x = zCl S (zup f i x) u r b o := by
  funext k' j'
  by_cases h : k' = 8 ∧ j' = 0
  · obtain ⟨rfl, rfl⟩ := h; rw [zs_row, zC_0, zC_0]; rfl
  · rw [zs_ne h]; unfold zCl; by_cases h9 : k' = 8
    · rw [if_pos h9, if_pos h9]
      have hj : ¬ j' = 0 := fun q => h ⟨h9, q⟩
      simp only [if_neg hj]
    · rw [if_neg h9, if_neg h9]
theorem zs_C1 {S : zM} {f u r b o : Int → Int} {i x : Int} : zs (zCl S f u r b o) 8 1 i x = zCl S f (zup u i x) r b o := by
  funext k' j'
  by_cases h : k' = 8 ∧ j' = 1
  · obtain ⟨rfl, rfl⟩ := h; rw [zs_row, zC_1, zC_1]; rfl
  · rw [zs_ne h]; unfold zCl; by_cases h9 : k' = 8
    · rw [if_pos h9, if_pos h9]
      have hj : ¬ j' = 1 := fun q => h ⟨h9, q⟩
      simp only [if_neg hj]
    · rw [if_neg h9, if_neg h9]
theorem zs_C3 {S : zM} {f u r b o : Int → Int} {i x : Int} : zs (zCl S f u r b o) 8 3 i x = zCl S f u (zup r i x) b o := by
  funext k' j'
  by_cases h : k' = 8 ∧ j' = 3
  · obtain ⟨rfl, rfl⟩ := h; rw [zs_row, zC_3, zC_3]; rfl
  · rw [zs_ne h]; unfold zCl; by_cases h9 : k' = 8
    · rw [if_pos h9, if_pos h9]
      have hj : ¬ j' = 3 := fun q => h ⟨h9, q⟩
      simp only [if_neg hj]
    · rw [if_neg h9, if_neg h9]
theorem zs_C4 {S : zM} {f u r b o : Int → Int} {i x : Int} : zs (zCl S f u r b o) 8 4 i x = zCl S f u r (zup b i x) o := by
  funext k' j'
  by_cases h : k' = 8 ∧ j' = 4
  · obtain ⟨rfl, rfl⟩ := h; rw [zs_row, zC_4, zC_4]; rfl
  · rw [zs_ne h]; unfold zCl; by_cases h9 : k' = 8
    · rw [if_pos h9, if_pos h9]
      have hj : ¬ j' = 4 := fun q => h ⟨h9, q⟩
      simp only [if_neg hj]
    · rw [if_neg h9, if_neg h9]
theorem zs_C5 {S : zM} {f u r b o : Int → Int} {i x : Int} : zs (zCl S f u r b o) 8 5 i x = zCl S f u r b (zup o i x) := by
  funext k' j'
  by_cases h : k' = 8 ∧ j' = 5
  · obtain ⟨rfl, rfl⟩ := h; rw [zs_row, zC_5, zC_5]; rfl
  · rw [zs_ne h]; unfold zCl; by_cases h9 : k' = 8
    · rw [if_pos h9, if_pos h9]
      have hj : ¬ j' = 5 := fun q => h ⟨h9, q⟩
      simp only [if_neg hj]
    · rw [if_neg h9, if_neg h9]
theorem zC_C {S : zM} {f u r b o : Int → Int} {f' u' r' b' o' : Int → Int} : zCl (zCl S f u r b o) f' u' r' b' o' = zCl S f' u' r' b' o' := by
  funext k' j'; unfold zCl; by_cases h9 : k' = 8
  · simp only [if_pos h9]
    by_cases e0 : j' = 0
    · simp only [if_pos e0]
    · by_cases e1 : j' = 1
      · simp only [if_neg e0, if_pos e1]
      · by_cases e3 : j' = 3
        · simp only [if_neg e0, if_neg e1, if_pos e3]
        · by_cases e4 : j' = 4
          · simp only [if_neg e0, if_neg e1, if_neg e3, if_pos e4]
          · by_cases e5 : j' = 5
            · simp only [if_neg e0, if_neg e1, if_neg e3, if_neg e4, if_pos e5]
            · simp only [if_neg e0, if_neg e1, if_neg e3, if_neg e4, if_neg e5]
  · simp only [if_neg h9]
theorem zC_id (S : zM) : zCl S (S 8 0) (S 8 1) (S 8 3) (S 8 4) (S 8 5) = S := by
  funext k' j'; unfold zCl; by_cases h9 : k' = 8
  · subst h9; rw [if_pos rfl]
    by_cases e0 : j' = 0
    · simp only [if_pos e0]; rw [e0]
    · by_cases e1 : j' = 1
      · simp only [if_neg e0, if_pos e1]; rw [e1]
      · by_cases e3 : j' = 3
        · simp only [if_neg e0, if_neg e1, if_pos e3]; rw [e3]
        · by_cases e4 : j' = 4
          · simp only [if_neg e0, if_neg e1, if_neg e3, if_pos e4]; rw [e4]
          · by_cases e5 : j' = 5
            · simp only [if_neg e0, if_neg e1, if_neg e3, if_neg e4, if_pos e5]; rw [e5]
            · simp only [if_neg e0, if_neg e1, if_neg e3, if_neg e4, if_neg e5]
  · rw [if_neg h9]
def oWd (n c : Int) : Int := if c < 48 ∨ c > 57 ∨ n = 0 then -1 else if n = -1 then c - 48 else n * 10 + c - 48
def oSep (k : Int) : Int := if k = 122 then 61 else 58
def oMf (k : Int) : Int := if k = 122 then 24 else if k = 110 then 6 else 7
def oLl (r : Int → Int) : Int := if r 1 = 110 then r 2 + 1 else if r 1 = 116 then 1 else 0
def oMl (k : Int) : Int := if k = 122 then 10 else if k = 110 then 7 else if k = 116 then 2000 else 999
def zRd (r : Int → Int) : Prop := (0 ≤ r 0 ∧ r 0 ≤ 2) ∧ (-1 ≤ r 1 ∧ r 1 ≤ 126) ∧ (-1 ≤ r 2 ∧ r 2 ≤ 24) ∧ (-1 ≤ r 3 ∧ r 3 ≤ 2000)
