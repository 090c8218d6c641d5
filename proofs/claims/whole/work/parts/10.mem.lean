theorem zs_row {S : zM} {k j : Nat} {i v : Int} : zs S k j i v k j = fun i' => if i' = i then v else S k j i' := funext (zs_at S k j i v)
/-! memory: a row changed; a print's three rows put -/
def zup (σ : Int → Int) (i v : Int) : Int → Int := fun x => if x = i then v else σ x
theorem zup_s (σ : Int → Int) (i v : Int) : zup σ i v i = v := if_pos rfl
theorem zup_n {σ : Int → Int} {i v x : Int} (h : x ≠ i) : zup σ i v x = σ x := if_neg h
def zrow (S : zM) (k j : Nat) (r : Int → Int) : zM := fun k' j' => if k' = k ∧ j' = j then r else S k' j'
theorem zrow_s (S : zM) (k j : Nat) (r : Int → Int) : zrow S k j r k j = r := if_pos ⟨rfl, rfl⟩
theorem zrow_n {S : zM} {k j k' j' : Nat} {r : Int → Int} (h : ¬ (k' = k ∧ j' = j)) : zrow S k j r k' j' = S k' j' := if_neg h
theorem zrow_id (S : zM) (k j : Nat) : zrow S k j (S k j) = S := by
  funext k' j'
  by_cases h : k' = k ∧ j' = j
  · obtain ⟨rfl, rfl⟩ := h; exact zrow_s S k' j' (S k' j')
  · exact zrow_n h
theorem zs_zrow (S : zM) (k j : Nat) (i v : Int) : zs S k j i v = zrow S k j (zup (S k j) i v) := by
  funext k' j'
  by_cases h : k' = k ∧ j' = j
  · obtain ⟨rfl, rfl⟩ := h; rw [zrow_s, zs_row]; rfl
  · rw [zrow_n h, zs_ne h]
theorem zrow_zrow (S : zM) (k j : Nat) (r r' : Int → Int) : zrow (zrow S k j r) k j r' = zrow S k j r' := by
  funext k' j'
  by_cases h : k' = k ∧ j' = j
  · obtain ⟨rfl, rfl⟩ := h; rw [zrow_s, zrow_s]
  · rw [zrow_n h, zrow_n h, zrow_n h]
theorem zs_zrow2 (S : zM) (k j : Nat) (r : Int → Int) (i v : Int) : zs (zrow S k j r) k j i v = zrow S k j (zup r i v) := by
  rw [zs_zrow, zrow_s, zrow_zrow]
/-- print k: its numbers, its marks, its sorted needs -/
def zPut (S : zM) (k : Nat) (σ M q : Int → Int) : zM := fun k' j' => if k' = k ∧ j' = 0 then σ else if k' = k ∧ j' = 2 then M else if k' = k ∧ j' = 8 then q else S k' j'
theorem zP_0 (S : zM) (k : Nat) (σ M q : Int → Int) : zPut S k σ M q k 0 = σ := if_pos ⟨rfl, rfl⟩
theorem zP_2 (S : zM) (k : Nat) (σ M q : Int → Int) : zPut S k σ M q k 2 = M := by unfold zPut; rw [if_neg (by omega), if_pos ⟨rfl, rfl⟩]
theorem zP_8 (S : zM) (k : Nat) (σ M q : Int → Int) : zPut S k σ M q k 8 = q := by unfold zPut; rw [if_neg (by omega), if_neg (by omega), if_pos ⟨rfl, rfl⟩]
theorem zP_n {S : zM} {k : Nat} {σ M q : Int → Int} {k' : Nat} (h : k' ≠ k) : zPut S k σ M q k' = S k' := by
  funext j'; unfold zPut; rw [if_neg (by omega), if_neg (by omega), if_neg (by omega)]
theorem zP_j {S : zM} {k : Nat} {σ M q : Int → Int} {j : Nat} (h : j ≠ 0 ∧ j ≠ 2 ∧ j ≠ 8) : zPut S k σ M q k j = S k j := by
  unfold zPut; rw [if_neg (by omega), if_neg (by omega), if_neg (by omega)]
theorem zP_id (S : zM) (k : Nat) : zPut S k (S k 0) (S k 2) (S k 8) = S := by
  funext k' j'
  by_cases h : k' = k
  · subst h
    by_cases h0 : j' = 0
    · subst h0; rw [zP_0]
    · by_cases h2 : j' = 2
      · subst h2; rw [zP_2]
      · by_cases h8 : j' = 8
        · subst h8; rw [zP_8]
        · rw [zP_j ⟨h0, h2, h8⟩]
  · rw [zP_n h]
theorem zs_P0 (S : zM) (k : Nat) (σ M q : Int → Int) (i v : Int) : zs (zPut S k σ M q) k 0 i v = zPut S k (zup σ i v) M q := by
  funext k' j'
  by_cases h : k' = k ∧ j' = 0
  · obtain ⟨rfl, rfl⟩ := h; rw [zs_row, zP_0, zP_0]; rfl
  · rw [zs_ne h]; unfold zPut; rw [if_neg h, if_neg h]
theorem zs_P2 (S : zM) (k : Nat) (σ M q : Int → Int) (i v : Int) : zs (zPut S k σ M q) k 2 i v = zPut S k σ (zup M i v) q := by
  funext k' j'
  by_cases h : k' = k ∧ j' = 2
  · obtain ⟨rfl, rfl⟩ := h; rw [zs_row, zP_2, zP_2]; rfl
  · rw [zs_ne h]; unfold zPut; rw [if_neg h, if_neg h]
theorem zs_P8 (S : zM) (k : Nat) (σ M q : Int → Int) (i v : Int) : zs (zPut S k σ M q) k 8 i v = zPut S k σ M (zup q i v) := by
  funext k' j'
  by_cases h : k' = k ∧ j' = 8
  · obtain ⟨rfl, rfl⟩ := h; rw [zs_row, zP_8, zP_8]; rfl
  · rw [zs_ne h]; unfold zPut; rw [if_neg h, if_neg h]
theorem zP_P (S : zM) (k : Nat) (σ M q σ' M' q' : Int → Int) : zPut (zPut S k σ M q) k σ' M' q' = zPut S k σ' M' q' := by
  funext k' j'
  by_cases h : k' = k
  · subst h
    by_cases h0 : j' = 0
    · subst h0; rw [zP_0, zP_0]
    · by_cases h2 : j' = 2
      · subst h2; rw [zP_2, zP_2]
      · by_cases h8 : j' = 8
        · subst h8; rw [zP_8, zP_8]
        · rw [zP_j ⟨h0, h2, h8⟩, zP_j ⟨h0, h2, h8⟩, zP_j ⟨h0, h2, h8⟩]
  · rw [zP_n h, zP_n h, zP_n h]
theorem zP_hw {S : zM} {k : Nat} {σ M q : Int → Int} (h : zW σ) : zW (zPut S k σ M q k 0) := by rw [zP_0]; exact h
theorem zP_ms {S : zM} {k : Nat} {σ M q : Int → Int} (h : ∀ j : Int, 0 ≤ j → j < 10 → M j = zMk (σ 1) (σ 2) j) : zMs (zPut S k σ M q) k := by
  intro j h1 h2; rw [zP_0, zP_2]; exact h j h1 h2
/-! the same world: numbers outside the rows' lengths aren't there -/
def zlen (k j : Nat) : Int := if k < 8 then (if j = 0 then 45 else if j = 2 then 10 else if j = 8 then 8 else 0) else if k = 8 then (if j = 0 then 6 else if j = 1 then 3 else if j = 3 then 4 else if j = 4 then 60 else if j = 5 then 1 else 0) else (if j = 0 then 15 else if j = 1 then 45 else if j = 2 then 45 else if j = 3 then 270 else if j = 4 then 60 else if j = 5 then 10 else 8)
def zeqv (S S' : zM) : Prop := ∀ (k j : Nat) (x : Int), k < 10 → 0 ≤ x → x < zlen k j → S k j x = S' k j x
theorem zat_arr {D : va_G} {cl : List vw_C} {a : Nat} {cI : ClassId} {n : Nat} {f g : Nat → Int32} {H : Heap} (h : ∀ i, i < n → f i = g i) (h1 : va_at D cl (a, .inl (cI, n, .inl f)) H) : va_at D cl (a, .inl (cI, n, .inl g)) H := by
  have e : (fun j : Fin n => Value.int (f j.val)) = fun j : Fin n => Value.int (g j.val) := funext fun j => by rw [h j.val j.isLt]
  have e2 : vp_cell cI (n, .inl f) = vp_cell cI (n, .inl g) := by
    rw [vp_cell_i, vp_cell_i]; unfold arrV; rw [e]
  show H[a]? = some (vp_cell cI (n, .inl g))
  rw [← e2]
  exact h1
theorem zat_arrL {D : va_G} {cl : List vw_C} {a : Nat} {cI : ClassId} {n : Nat} {f g : Nat → Int64} {H : Heap} (h : ∀ i, i < n → f i = g i) (h1 : va_at D cl (a, .inl (cI, n, .inr (.inl f))) H) : va_at D cl (a, .inl (cI, n, .inr (.inl g))) H := by
  have e : (fun j : Fin n => Value.long (f j.val)) = fun j : Fin n => Value.long (g j.val) := funext fun j => by rw [h j.val j.isLt]
  have e2 : vp_cell cI (n, .inr (.inl f)) = vp_cell cI (n, .inr (.inl g)) := by
    rw [vp_cell_l, vp_cell_l]; unfold arrV; rw [e]
  show H[a]? = some (vp_cell cI (n, .inr (.inl g)))
  rw [← e2]
  exact h1
theorem zP_congr {G : zG} {S S' : zM} {H : Heap} (h : ∀ (k j a : Nat), zin k j → va_at (zD G) vwCl (a, ze G k j (S k)) H → va_at (zD G) vwCl (a, ze G k j (S' k)) H) (hP : va_P (zD G) vwCl (zw G S) H) : va_P (zD G) vwCl (zw G S') H := by
  intro n q hq
  unfold zw at hq
  rw [List.getElem?_map] at hq
  cases hx : zix[n]? with
  | none => rw [hx] at hq; cases hq
  | some x =>
    rw [hx] at hq
    cases hq
    refine h _ _ _ (zix_in0 _ (List.mem_of_getElem? hx)) (hP n _ ?_)
    unfold zw
    rw [List.getElem?_map, hx]
    rfl
theorem zH_eqv {G : zG} {S S' : zM} {s : State} {H : Heap} {locs : List Loc} (hE : zeqv S S') (hH : zH G S s H locs) : zH G S' s H locs := by
  refine ⟨zP_congr (fun k j a hin hat => ?_) hH.1, hH.2⟩
  have hv : ∀ (j' : Nat) (x : Int), 0 ≤ x → x < zlen k j' → S k j' x = S' k j' x := fun j' x h1 h2 => hE k j' x (by omega) h1 h2
  by_cases hk : k < 8
  · have h0 : ∀ x : Int, 0 ≤ x → x < 45 → S k 0 x = S' k 0 x := fun x h1 h2 => hv 0 x h1 (by unfold zlen; rw [if_pos hk]; simpa using h2)
    have h2 : ∀ x : Int, 0 ≤ x → x < 10 → S k 2 x = S' k 2 x := fun x h1 h2 => hv 2 x h1 (by unfold zlen; rw [if_pos hk]; simpa using h2)
    have h8 : ∀ x : Int, 0 ≤ x → x < 8 → S k 8 x = S' k 8 x := fun x h1 h2 => hv 8 x h1 (by unfold zlen; rw [if_pos hk]; simpa using h2)
    rw [ze_pr hk] at hat ⊢
    rcases (show j = 0 ∨ j = 1 ∨ j = 2 ∨ j = 3 ∨ j = 4 ∨ j = 5 ∨ j = 6 ∨ j = 7 ∨ j = 8 by omega) with rfl | rfl | rfl | rfl | rfl | rfl | rfl | rfl | rfl
    · simp only [zpr] at hat ⊢
      rw [← h0 4 (by omega) (by omega), ← h0 0 (by omega) (by omega), ← h0 3 (by omega) (by omega)]; exact hat
    · simp only [zpr] at hat ⊢
      rw [← h0 1 (by omega) (by omega), ← h0 2 (by omega) (by omega)]; exact hat
    · exact zat_arr (fun i hi => by rw [h2 i (by omega) (by omega)]) hat
    · exact zat_arr (fun i hi => by rw [h0 (5 + 5 * (i : Int)) (by omega) (by omega)]) hat
    · exact zat_arr (fun i hi => by rw [h0 (5 + 5 * (i : Int) + 1) (by omega) (by omega)]) hat
    · exact zat_arr (fun i hi => by rw [h0 (5 + 5 * (i : Int) + 2) (by omega) (by omega)]) hat
    · exact zat_arr (fun i hi => by rw [h0 (5 + 5 * (i : Int) + 3) (by omega) (by omega)]) hat
    · exact zat_arr (fun i hi => by rw [h0 (5 + 5 * (i : Int) + 4) (by omega) (by omega)]) hat
    · exact zat_arr (fun i hi => by rw [h8 i (by omega) (by omega)]) hat
  · rcases (show k = 8 ∨ k = 9 by omega) with rfl | rfl
    · rw [ze_cl] at hat ⊢
      rcases (show j = 0 ∨ j = 1 ∨ j = 2 ∨ j = 3 ∨ j = 4 ∨ j = 5 by omega) with rfl | rfl | rfl | rfl | rfl | rfl
      · simp only [zcl] at hat ⊢
        rw [← hv 0 5 (by omega) (by decide)]; exact hat
      · simp only [zcl] at hat ⊢
        rw [← hv 1 1 (by omega) (by decide), ← hv 1 2 (by omega) (by decide)]; exact hat
      · exact hat
      · simp only [zcl] at hat ⊢
        rw [← hv 3 0 (by omega) (by decide), ← hv 3 1 (by omega) (by decide), ← hv 3 2 (by omega) (by decide), ← hv 3 3 (by omega) (by decide)]; exact hat
      · exact zat_arr (fun i hi => by rw [hv 4 i (by omega) (show (i : Int) < 60 by omega)]) hat
      · exact zat_arrL (fun i hi => by rw [hv 5 i (by omega) (show (i : Int) < 1 by omega)]) hat
    · rw [ze_mo] at hat ⊢
      rcases (show j = 0 ∨ j = 1 ∨ j = 2 ∨ j = 3 ∨ j = 4 ∨ j = 5 ∨ j = 6 by omega) with rfl | rfl | rfl | rfl | rfl | rfl | rfl
      · simp only [zmo] at hat ⊢
        rw [← hv 0 0 (by omega) (by decide), ← hv 0 4 (by omega) (by decide), ← hv 0 6 (by omega) (by decide), ← hv 0 9 (by omega) (by decide), ← hv 0 10 (by omega) (by decide), ← hv 0 11 (by omega) (by decide), ← hv 0 12 (by omega) (by decide), ← hv 0 13 (by omega) (by decide), ← hv 0 14 (by omega) (by decide)]; exact hat
      · exact zat_arr (fun i hi => by rw [hv 1 i (by omega) (show (i : Int) < 45 by omega)]) hat
      · exact zat_arr (fun i hi => by rw [hv 2 i (by omega) (show (i : Int) < 45 by omega)]) hat
      · exact zat_arr (fun i hi => by rw [hv 3 i (by omega) (show (i : Int) < 270 by omega)]) hat
      · exact zat_arr (fun i hi => by rw [hv 4 i (by omega) (show (i : Int) < 60 by omega)]) hat
      · exact zat_arr (fun i hi => by rw [hv 5 i (by omega) (show (i : Int) < 10 by omega)]) hat
      · exact zat_arr (fun i hi => by rw [hv 6 i (by omega) (show (i : Int) < 8 by omega)]) hat
/-- a print put over again where its numbers are the same -/
theorem zH_put {G : zG} {S : zM} {k : Nat} {σ M q σ' M' q' : Int → Int} {s : State} {H : Heap} {locs : List Loc} (hk : k < 8) (h0 : ∀ x : Int, 0 ≤ x → x < 45 → σ x = σ' x) (h2 : ∀ x : Int, 0 ≤ x → x < 10 → M x = M' x) (h8 : ∀ x : Int, 0 ≤ x → x < 8 → q x = q' x) (hH : zH G (zPut S k σ M q) s H locs) : zH G (zPut S k σ' M' q') s H locs := by
  refine zH_eqv (fun k' j' x hk' hx1 hx2 => ?_) hH
  by_cases e : k' = k
  · subst e
    unfold zlen at hx2
    rw [if_pos hk] at hx2
    by_cases e0 : j' = 0
    · subst e0; rw [zP_0, zP_0]; exact h0 x hx1 (by simpa using hx2)
    · by_cases e2 : j' = 2
      · subst e2; rw [zP_2, zP_2]; exact h2 x hx1 (by simpa using hx2)
      · by_cases e8 : j' = 8
        · subst e8; rw [zP_8, zP_8]; exact h8 x hx1 (by simpa using hx2)
        · rw [if_neg e0, if_neg e2, if_neg e8] at hx2; omega
  · rw [zP_n e, zP_n e]
