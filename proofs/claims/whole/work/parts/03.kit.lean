/-! numbers: an Int32 by an Int -/
def zI (z : Int) : Int32 := Int32.ofInt z
def zL (z : Int) : Int64 := Int64.ofInt z
theorem zI_add (a b : Int) : zI a + zI b = zI (a + b) := (Int32.ofInt_add a b).symm
theorem zI_sub (a b : Int) : zI a - zI b = zI (a - b) := (Int32.ofInt_sub a b).symm
theorem zI_mul (a b : Int) : zI a * zI b = zI (a * b) := (Int32.ofInt_mul a b).symm
theorem zI_neg (a : Int) : - zI a = zI (-a) := (Int32.ofInt_neg a).symm
theorem zL_add (a b : Int) : zL a + zL b = zL (a + b) := (Int64.ofInt_add a b).symm
theorem zL_sub (a b : Int) : zL a - zL b = zL (a - b) := (Int64.ofInt_sub a b).symm
theorem zL_mul (a b : Int) : zL a * zL b = zL (a * b) := (Int64.ofInt_mul a b).symm
theorem zI_toInt {a : Int} (h : -2147483648 ≤ a) (h2 : a ≤ 2147483647) : (zI a).toInt = a := Int32.toInt_ofInt_of_le (by omega) (by omega)
theorem zL_toInt {a : Int} (h : -9223372036854775808 ≤ a) (h2 : a ≤ 9223372036854775807) : (zL a).toInt = a := Int64.toInt_ofInt_of_le (by omega) (by omega)
theorem zI_of (x : Int32) : ∃ a : Int, -2147483648 ≤ a ∧ a ≤ 2147483647 ∧ x = zI a := ⟨x.toInt, by have := x.le_toInt; omega, by have := x.toInt_lt; omega, (Int32.ofInt_toInt x).symm⟩
theorem zL_of (x : Int64) : ∃ a : Int, x = zL a := ⟨x.toInt, (Int64.ofInt_toInt x).symm⟩
theorem zI_lt {a b : Int} (ha : -2147483648 ≤ a ∧ a ≤ 2147483647) (hb : -2147483648 ≤ b ∧ b ≤ 2147483647) : zI a < zI b ↔ a < b := by
  rw [Int32.lt_iff_toInt_lt, zI_toInt ha.1 ha.2, zI_toInt hb.1 hb.2]
theorem zI_le {a b : Int} (ha : -2147483648 ≤ a ∧ a ≤ 2147483647) (hb : -2147483648 ≤ b ∧ b ≤ 2147483647) : zI a ≤ zI b ↔ a ≤ b := by
  rw [Int32.le_iff_toInt_le, zI_toInt ha.1 ha.2, zI_toInt hb.1 hb.2]
theorem zI_eq {a b : Int} (ha : -2147483648 ≤ a ∧ a ≤ 2147483647) (hb : -2147483648 ≤ b ∧ b ≤ 2147483647) : zI a = zI b ↔ a = b :=
  ⟨fun h => by rw [← zI_toInt ha.1 ha.2, h, zI_toInt hb.1 hb.2], fun h => by rw [h]⟩
theorem zL_lt {a b : Int} (ha : -9223372036854775808 ≤ a ∧ a ≤ 9223372036854775807) (hb : -9223372036854775808 ≤ b ∧ b ≤ 9223372036854775807) : zL a < zL b ↔ a < b := by
  rw [Int64.lt_iff_toInt_lt, zL_toInt ha.1 ha.2, zL_toInt hb.1 hb.2]
theorem zL_eq {a b : Int} (ha : -9223372036854775808 ≤ a ∧ a ≤ 9223372036854775807) (hb : -9223372036854775808 ≤ b ∧ b ≤ 9223372036854775807) : zL a = zL b ↔ a = b :=
  ⟨fun h => by rw [← zL_toInt ha.1 ha.2, h, zL_toInt hb.1 hb.2], fun h => by rw [h]⟩
theorem zI_div {a b : Int} (ha : 0 ≤ a ∧ a ≤ 2147483647) (hb : 0 < b ∧ b ≤ 2147483647) : zI a / zI b = zI (a / b) := by
  refine (Int32.ofInt_toInt _).symm.trans ?_
  rw [Int32.toInt_div_of_ne_right _ _ (by intro h; have h2 := congrArg Int32.toInt h; rw [zI_toInt (by omega) hb.2, show (-1 : Int32).toInt = -1 from by decide +kernel] at h2; omega), zI_toInt (by omega) ha.2, zI_toInt (by omega) hb.2, Int.tdiv_eq_ediv_of_nonneg ha.1]
  rfl
theorem zI_rem {a b : Int} (ha : 0 ≤ a ∧ a ≤ 2147483647) (hb : 0 < b ∧ b ≤ 2147483647) : zI a - zI a / zI b * zI b = zI (a % b) := by
  rw [zI_div ha hb, zI_mul, zI_sub]
  exact congrArg zI (by rw [Int.emod_def, Int.mul_comm])
theorem zL_div {a b : Int} (ha : 0 ≤ a ∧ a ≤ 9223372036854775807) (hb : 0 < b ∧ b ≤ 9223372036854775807) : zL a / zL b = zL (a / b) := by
  refine (Int64.ofInt_toInt _).symm.trans ?_
  rw [Int64.toInt_div_of_ne_right _ _ (by intro h; have h2 := congrArg Int64.toInt h; rw [zL_toInt (by omega) hb.2, show (-1 : Int64).toInt = -1 from by decide +kernel] at h2; omega), zL_toInt (by omega) ha.2, zL_toInt (by omega) hb.2, Int.tdiv_eq_ediv_of_nonneg ha.1]
  rfl
theorem zI_long {a : Int} (ha : -2147483648 ≤ a ∧ a ≤ 2147483647) : (zI a).toInt64 = zL a := by
  refine (Int64.ofInt_toInt _).symm.trans ?_
  rw [Int32.toInt_toInt64, zI_toInt ha.1 ha.2]
  rfl
theorem zL_int (a : Int) : (zL a).toInt32 = zI a := Int64.toInt32_ofInt
theorem zI_clamp {a : Int} (h : 0 ≤ a) (h2 : a ≤ 2147483647) : ((zI a).toNatClampNeg : Int) = a := by
  rw [Int32.toNatClampNeg, zI_toInt (by omega) h2]; omega
theorem zI_in {a : Int} {n : Nat} (h : 0 ≤ a) (h2 : a < n) (hn : n ≤ 2147483647) : vp_in (zI a) n := by
  rw [vp_in_iff, zI_toInt (by omega) (by omega)]; omega
theorem zI_nat (n : Nat) : Int32.ofNat n = zI n := (Int32.ofInt_eq_ofNat (n := n)).symm
theorem zI_nN (n : Nat) : nI n = zI n := zI_nat n
theorem zI_0 : (0 : Int32) = zI 0 := by decide +kernel
theorem zI_i8 {n : Int} (h : -128 ≤ n) (h2 : n ≤ 127) : (Int8.ofInt n).toInt32 = zI n := by
  refine (Int32.ofInt_toInt _).symm.trans ?_
  rw [Int8.toInt_toInt32, Int8.toInt_ofInt_of_le (by omega) (by omega)]
  rfl
theorem zI_i16 {n : Int} (h : -32768 ≤ n) (h2 : n ≤ 32767) : (Int16.ofInt n).toInt32 = zI n := by
  refine (Int32.ofInt_toInt _).symm.trans ?_
  rw [Int16.toInt_toInt32, Int16.toInt_ofInt_of_le (by omega) (by omega)]
  rfl
def zand (a b : Int) : Int := (zI a &&& zI b).toInt
def zor (a b : Int) : Int := (zI a ||| zI b).toInt
def zxor (a b : Int) : Int := (zI a ^^^ zI b).toInt
theorem zI_and (a b : Int) : zI a &&& zI b = zI (zand a b) := (Int32.ofInt_toInt _).symm
theorem zI_or (a b : Int) : zI a ||| zI b = zI (zor a b) := (Int32.ofInt_toInt _).symm
theorem zI_xor (a b : Int) : zI a ^^^ zI b = zI (zxor a b) := (Int32.ofInt_toInt _).symm
theorem zand_1 {a : Int} (h : 0 ≤ a) (h2 : a ≤ 2147483647) : zand a 1 = a % 2 := by
  obtain ⟨n, rfl⟩ := Int.eq_ofNat_of_zero_le h
  have e := pk_andN (n := n) (by omega) (m := zI 1) 1 (by decide +kernel)
  rw [zI_nN] at e
  unfold zand
  rw [e, zI_nN, zI_toInt (by omega) (by omega)]
  omega
theorem zI_sm : ∀ n, n < 32 → ((zI (n : Nat) &&& 31).toBitVec.smod 32).toNat = n := by decide +kernel
theorem zI_shr {a b : Int} (ha : 0 ≤ a ∧ a ≤ 2147483647) (hb : 0 ≤ b ∧ b < 32) : zI a >>> (zI b &&& 31) = zI (a / 2 ^ b.toNat) := by
  obtain ⟨n, rfl⟩ := Int.eq_ofNat_of_zero_le ha.1
  obtain ⟨k, rfl⟩ := Int.eq_ofNat_of_zero_le hb.1
  rw [← zI_nN, pk_shrN (by omega) _ k (zI_sm k (by omega)), zI_nN]
  congr 1
theorem zI_shl {a b : Int} (ha : 0 ≤ a) (hb : 0 ≤ b ∧ b < 32) (h : a * 2 ^ b.toNat < 4294967296) : zI a <<< (zI b &&& 31) = zI (a * 2 ^ b.toNat) := by
  obtain ⟨n, rfl⟩ := Int.eq_ofNat_of_zero_le ha
  obtain ⟨k, rfl⟩ := Int.eq_ofNat_of_zero_le hb.1
  have h2 : n * 2 ^ k < 2 ^ 32 := by
    have h3 : ((n * 2 ^ k : Nat) : Int) < 4294967296 := by rw [Int.natCast_mul, Int.natCast_pow]; exact h
    omega
  rw [← zI_nN, pk_shlN _ k (zI_sm k (by omega)) h2, zI_nN]
  congr 1
theorem zI_r0 : -2147483648 ≤ (0 : Int) ∧ (0 : Int) ≤ 2147483647 := by omega
/-! the world: all objects of the class, of the reference, and the law's row. Prints 0..7 (print, trial, the six saved ones): groups 0..7; the class: 8; the reference: 9. -/
abbrev zM : Type := Nat → Nat → Int → Int
abbrev zG : Type := va_G × (ClassId × ClassId × ClassId) × (Nat → Nat → Nat) × Nat × (Nat × Nat × Nat)
abbrev zD (G : zG) : va_G := G.1
abbrev zcI (G : zG) : ClassId := G.2.1.1
abbrev zcO (G : zG) : ClassId := G.2.1.2.1
abbrev zcJ (G : zG) : ClassId := G.2.1.2.2
abbrev za (G : zG) : Nat → Nat → Nat := G.2.2.1
abbrev zn (G : zG) : Nat := G.2.2.2.1
abbrev zt1 (G : zG) : Nat := G.2.2.2.2.1
abbrev zt2 (G : zG) : Nat := G.2.2.2.2.2.1
abbrev zt3 (G : zG) : Nat := G.2.2.2.2.2.2
abbrev zA (G : zG) : Nat → Prop := fun q => zn G ≤ q
abbrev zty (G : zG) : List (ClassId × FieldType) := [(zcI G, .int), (zcO G, .object "ZonePrint$Print"), (zcJ G, .long)]
def zpr (G : zG) (k j : Nat) (r : Nat → Int → Int) : va_E := match j with
  | 0 => .inr (3, [.ref (za G k 1), .ref (za G k 3), .ref (za G k 4), .ref (za G k 5), .ref (za G k 6), .ref (za G k 7), .ref (za G k 8), .int (zI (r 0 4)), .int (zI (r 0 0)), .int (zI (r 0 3))])
  | 1 => .inr (2, [.ref (za G k 2), .int (zI (r 0 1)), .int (zI (r 0 2))])
  | 2 => .inl (zcI G, 10, .inl (fun i => zI (r 2 i)))
  | 3 => .inl (zcI G, 8, .inl (fun i => zI (r 0 (5 + 5 * i))))
  | 4 => .inl (zcI G, 8, .inl (fun i => zI (r 0 (5 + 5 * i + 1))))
  | 5 => .inl (zcI G, 8, .inl (fun i => zI (r 0 (5 + 5 * i + 2))))
  | 6 => .inl (zcI G, 8, .inl (fun i => zI (r 0 (5 + 5 * i + 3))))
  | 7 => .inl (zcI G, 8, .inl (fun i => zI (r 0 (5 + 5 * i + 4))))
  | _ => .inl (zcI G, 8, .inl (fun i => zI (r 8 i)))
def zcl (G : zG) (j : Nat) (r : Nat → Int → Int) : va_E := match j with
  | 0 => .inr (4, [.ref (za G 0 0), .ref (za G 1 0), .ref (za G 8 1), .ref (za G 8 3), .ref (za G 8 4), .int (zI (r 0 5))])
  | 1 => .inr (0, [.ref (za G 8 2), .int (zI (r 1 1)), .int (zI (r 1 2))])
  | 2 => .inl (zcO G, 6, .inr (.inr (.inr (.inr (fun i => some (za G (i + 2) 0))))))
  | 3 => .inr (1, [.int (zI (r 3 0)), .int (zI (r 3 1)), .int (zI (r 3 2)), .int (zI (r 3 3))])
  | 4 => .inl (zcI G, 60, .inl (fun i => zI (r 4 i)))
  | _ => .inl (zcJ G, 1, .inr (.inl (fun i => zL (r 5 i))))
def zmo (G : zG) (j : Nat) (r : Nat → Int → Int) : va_E := match j with
  | 0 => .inr (5, [.int (zI (r 0 0)), .ref (za G 9 1), .ref (za G 9 2), .ref (za G 9 3), .int (zI (r 0 4)), .ref (za G 9 4), .int (zI (r 0 6)), .ref (za G 9 5), .ref (za G 9 6), .int (zI (r 0 9)), .int (zI (r 0 10)), .int (zI (r 0 11)), .int (zI (r 0 12)), .int (zI (r 0 13)), .long (zL (r 0 14))])
  | 1 => .inl (zcI G, 45, .inl (fun i => zI (r 1 i)))
  | 2 => .inl (zcI G, 45, .inl (fun i => zI (r 2 i)))
  | 3 => .inl (zcI G, 270, .inl (fun i => zI (r 3 i)))
  | 4 => .inl (zcI G, 60, .inl (fun i => zI (r 4 i)))
  | 5 => .inl (zcI G, 10, .inl (fun i => zI (r 5 i)))
  | _ => .inl (zcI G, 8, .inl (fun i => zI (r 6 i)))
def ze (G : zG) (k j : Nat) (r : Nat → Int → Int) : va_E := if k < 8 then zpr G k j r else if k = 8 then zcl G j r else zmo G j r
theorem ze_pr {G : zG} {k j : Nat} {r : Nat → Int → Int} (hk : k < 8) : ze G k j r = zpr G k j r := if_pos hk
theorem ze_cl {G : zG} {j : Nat} {r : Nat → Int → Int} : ze G 8 j r = zcl G j r := rfl
theorem ze_mo {G : zG} {j : Nat} {r : Nat → Int → Int} : ze G 9 j r = zmo G j r := rfl
abbrev zin (k j : Nat) : Prop := k < 8 ∧ j < 9 ∨ k = 8 ∧ j < 6 ∨ k = 9 ∧ j < 7
def zp (k j : Nat) : Nat := if k < 8 then 9 * k + j else if k = 8 then 72 + j else 78 + j
def zix : List (Nat × Nat) := (List.range 72).map (fun n => (n / 9, n % 9)) ++ [(8, 0), (8, 1), (8, 2), (8, 3), (8, 4), (8, 5), (9, 0), (9, 1), (9, 2), (9, 3), (9, 4), (9, 5), (9, 6)]
theorem zix_at0 : (List.range 10).all (fun k => (List.range 9).all fun j => !(decide (k < 8 ∧ j < 9 ∨ k = 8 ∧ j < 6 ∨ k = 9 ∧ j < 7)) || decide (zix[zp k j]? = some (k, j))) = true := by decide +kernel
theorem zix_at {k j : Nat} (h : zin k j) : zix[zp k j]? = some (k, j) := by
  have h1 := List.all_eq_true.mp zix_at0 k (List.mem_range.mpr (by omega))
  have h2 := List.all_eq_true.mp h1 j (List.mem_range.mpr (by omega))
  rw [decide_eq_true (show k < 8 ∧ j < 9 ∨ k = 8 ∧ j < 6 ∨ k = 9 ∧ j < 7 from h)] at h2
  exact of_decide_eq_true h2
theorem zix_len : zix.length = 85 := by decide +kernel
theorem zix_inj0 : ∀ a, a < 85 → ∀ b, b < 85 → zix[a]? = zix[b]? → a = b := by decide +kernel
theorem zix_in0 : ∀ q ∈ zix, zin q.1 q.2 := by decide +kernel
theorem zix_lt {a : Nat} {q : Nat × Nat} (h : zix[a]? = some q) : a < 85 := by
  rw [← zix_len]; exact (List.getElem?_eq_some_iff.mp h).1
theorem zix_inj {a b : Nat} {q : Nat × Nat} (ha : zix[a]? = some q) (hb : zix[b]? = some q) : a = b := zix_inj0 a (zix_lt ha) b (zix_lt hb) (ha.trans hb.symm)
def zw (G : zG) (S : zM) : va_W := zix.map (fun q => (za G q.1 q.2, ze G q.1 q.2 (S q.1)))
theorem zw_at {G : zG} {S : zM} {k j : Nat} (h : zin k j) : (zw G S)[zp k j]? = some (za G k j, ze G k j (S k)) := by
  unfold zw
  rw [List.getElem?_map, zix_at h]
  rfl
theorem zw_set {G : zG} {S S' : zM} {k j : Nat} (h : zin k j) (hS : ∀ k' j', zin k' j' → ¬ (k' = k ∧ j' = j) → ze G k' j' (S' k') = ze G k' j' (S k')) {e : va_E} (he : ze G k j (S' k) = e) : (zw G S).set (zp k j) (za G k j, e) = zw G S' := by
  subst he
  apply List.ext_getElem?
  intro n
  rw [List.getElem?_set]
  by_cases hn : zp k j = n
  · subst hn
    rw [if_pos rfl]
    have hl : zp k j < (zw G S).length := (List.getElem?_eq_some_iff.mp (zw_at (S := S) h)).1
    rw [if_pos hl, zw_at h]
  · rw [if_neg hn]
    unfold zw
    rw [List.getElem?_map, List.getElem?_map]
    cases hq : zix[n]? with
    | none => rfl
    | some q =>
      have hne : ¬ (q.1 = k ∧ q.2 = j) := fun hh => hn (zix_inj (zix_at h) (hq.trans (by rw [← hh.1, ← hh.2])))
      show some (za G q.1 q.2, ze G q.1 q.2 (S q.1)) = some (za G q.1 q.2, ze G q.1 q.2 (S' q.1))
      rw [hS q.1 q.2 (zix_in0 _ (List.mem_of_getElem? hq)) hne]
def zok (G : zG) : Prop := (∀ k j k' j', zin k j → zin k' j' → za G k j = za G k' j' → k = k' ∧ j = j') ∧ ∀ k j, zin k j → zn G ≤ za G k j
theorem zw_D {G : zG} (hG : zok G) (S : zM) : va_D (zA G) (zw G S) := by
  have hx : ∀ (i : Nat) (p : Nat × va_E), (zw G S)[i]? = some p → ∃ q : Nat × Nat, zix[i]? = some q ∧ p.1 = za G q.1 q.2 := by
    intro i p h
    unfold zw at h
    rw [List.getElem?_map] at h
    cases hq : zix[i]? with
    | none => rw [hq] at h; cases h
    | some q => rw [hq] at h; cases h; exact ⟨q, rfl, rfl⟩
  have hi : ∀ {i : Nat} {q : Nat × Nat}, zix[i]? = some q → zin q.1 q.2 := fun h => zix_in0 _ (List.mem_of_getElem? h)
  refine ⟨?_, ?_⟩
  · intro i j p q h1 h2 h3
    obtain ⟨a, ha, ea⟩ := hx i p h1
    obtain ⟨b, hb, eb⟩ := hx j q h2
    have := hG.1 _ _ _ _ (hi ha) (hi hb) (by rw [← ea, ← eb, h3])
    have hab : a = b := Prod.ext this.1 this.2
    subst hab
    exact zix_inj ha hb
  · intro i p h
    obtain ⟨a, ha, ea⟩ := hx i p h
    rw [ea]
    exact hG.2 _ _ (hi ha)
/-! memory -/
def zs (S : zM) (k j : Nat) (i : Int) (v : Int) : zM := fun k' j' i' => if k' = k ∧ j' = j ∧ i' = i then v else S k' j' i'
theorem zs_ne {S : zM} {k j : Nat} {i v : Int} {k' j' : Nat} (h : ¬ (k' = k ∧ j' = j)) : zs S k j i v k' j' = S k' j' := by
  funext i'
  show (if k' = k ∧ j' = j ∧ i' = i then v else S k' j' i') = S k' j' i'
  rw [if_neg (fun hh => h ⟨hh.1, hh.2.1⟩)]
theorem zs_at (S : zM) (k j : Nat) (i v i' : Int) : zs S k j i v k j i' = if i' = i then v else S k j i' := by
  by_cases h : i' = i
  · rw [if_pos h]; exact if_pos ⟨rfl, rfl, h⟩
  · rw [if_neg h]; exact if_neg (fun hh => h hh.2.2)
theorem zs_k {S : zM} {k j : Nat} {i v : Int} {k' : Nat} (h : k' ≠ k) : zs S k j i v k' = S k' := by
  funext j'; exact zs_ne (fun hh => h hh.1)
theorem zs_j {S : zM} {k j : Nat} {i v : Int} {j' : Nat} (h : j' ≠ j) : zs S k j i v k j' = S k j' := zs_ne (fun hh => h hh.2)
theorem zs_x {S : zM} {k j : Nat} {i v x : Int} (h : x ≠ i) : zs S k j i v k j x = S k j x := by rw [zs_at, if_neg h]
theorem zs_s {S : zM} {k j : Nat} {i v : Int} : zs S k j i v k j i = v := by rw [zs_at, if_pos rfl]
theorem zs_arr {f : Int → Int} {S : zM} {k j : Nat} {a v : Int} (h : 0 ≤ a) (h2 : a ≤ 2147483647) (hf : ∀ x y : Int, f x = f y → x = y) : upd (fun i : Nat => zI (S k j (f i))) (zI a).toNatClampNeg (zI v) = fun i : Nat => zI (zs S k j (f a) v k j (f i)) := by
  have e := zI_clamp h h2
  funext n
  rw [zs_at]
  by_cases hn : n = (zI a).toNatClampNeg
  · subst hn; rw [pk_us, e, if_pos rfl]
  · rw [pk_un hn, if_neg (by intro h3; have := hf _ _ h3; omega)]
/-- group 8, 9: one cell a row -/
theorem zw_set8 {G : zG} {S : zM} {k j : Nat} {i v : Int} (hk : k = 8 ∨ k = 9) (h : zin k j) {e : va_E} (he : ze G k j (zs S k j i v k) = e) : (zw G S).set (zp k j) (za G k j, e) = zw G (zs S k j i v) := by
  refine zw_set h (fun k' j' hin hh => ?_) he
  by_cases e1 : k' = k
  · subst e1
    have hj : j' ≠ j := fun q => hh ⟨rfl, q⟩
    rcases hk with rfl | rfl
    · rcases (show j' = 0 ∨ j' = 1 ∨ j' = 2 ∨ j' = 3 ∨ j' = 4 ∨ j' = 5 by omega) with rfl | rfl | rfl | rfl | rfl | rfl <;> simp only [ze_cl, zcl, zs_j hj]
    · rcases (show j' = 0 ∨ j' = 1 ∨ j' = 2 ∨ j' = 3 ∨ j' = 4 ∨ j' = 5 ∨ j' = 6 by omega) with rfl | rfl | rfl | rfl | rfl | rfl | rfl <;> simp only [ze_mo, zmo, zs_j hj]
  · rw [zs_k e1]
theorem zs_fw (w : Int) {S : zM} {k : Nat} {i v : Int} (h : ∀ n : Nat, 5 + 5 * (n : Int) + w ≠ i) : (fun n : Nat => zI (zs S k 0 i v k 0 (5 + 5 * (n : Int) + w))) = fun n : Nat => zI (S k 0 (5 + 5 * (n : Int) + w)) := funext fun n => by rw [zs_x (h n)]
theorem zs_f0 {S : zM} {k : Nat} {i v : Int} (h : ∀ n : Nat, 5 + 5 * (n : Int) ≠ i) : (fun n : Nat => zI (zs S k 0 i v k 0 (5 + 5 * (n : Int)))) = fun n : Nat => zI (S k 0 (5 + 5 * (n : Int))) := funext fun n => by rw [zs_x (h n)]
/-- a print's scalars: 0 time, 1 grade, 2 speed, 3 spill, 4 zones -/
theorem zw_setS {G : zG} {S : zM} {k j : Nat} {i v : Int} (hk : k < 8) (hi : j = 0 ∧ (i = 4 ∨ i = 0 ∨ i = 3) ∨ j = 1 ∧ (i = 1 ∨ i = 2)) {e : va_E} (he : ze G k j (zs S k 0 i v k) = e) : (zw G S).set (zp k j) (za G k j, e) = zw G (zs S k 0 i v) := by
  refine zw_set (by omega) (fun k' j' hin hh => ?_) he
  by_cases e1 : k' = k
  · subst e1
    have hj : j' ≠ j := fun q => hh ⟨rfl, q⟩
    rw [ze_pr hk, ze_pr hk]
    rcases (show j' = 0 ∨ j' = 1 ∨ j' = 2 ∨ j' = 3 ∨ j' = 4 ∨ j' = 5 ∨ j' = 6 ∨ j' = 7 ∨ j' = 8 by omega) with rfl | rfl | rfl | rfl | rfl | rfl | rfl | rfl | rfl
    · have hx : ∀ x : Int, x = 4 ∨ x = 0 ∨ x = 3 → zs S k' 0 i v k' 0 x = S k' 0 x := fun x h => zs_x (by omega)
      simp only [zpr, hx 4 (by omega), hx 0 (by omega), hx 3 (by omega)]
    · have hx : ∀ x : Int, x = 1 ∨ x = 2 → zs S k' 0 i v k' 0 x = S k' 0 x := fun x h => zs_x (by omega)
      simp only [zpr, hx 1 (by omega), hx 2 (by omega)]
    · simp only [zpr, zs_j (show 2 ≠ 0 by omega)]
    · simp only [zpr, zs_f0 (S := S) (k := k') (i := i) (v := v) (fun n => by omega)]
    · simp only [zpr, zs_fw 1 (S := S) (k := k') (i := i) (v := v) (fun n => by omega)]
    · simp only [zpr, zs_fw 2 (S := S) (k := k') (i := i) (v := v) (fun n => by omega)]
    · simp only [zpr, zs_fw 3 (S := S) (k := k') (i := i) (v := v) (fun n => by omega)]
    · simp only [zpr, zs_fw 4 (S := S) (k := k') (i := i) (v := v) (fun n => by omega)]
    · simp only [zpr, zs_j (show 8 ≠ 0 by omega)]
  · rw [zs_k e1]
/-- a print's rows of numbers by zones: w 0 density, 1 wanted, 2 burn, 3 hold, 4 neighbours -/
theorem zw_setA {G : zG} {S : zM} {k w : Nat} {i z v : Int} (hk : k < 8) (hw : w < 5) (hz : 0 ≤ z) (hi : i = 5 + 5 * z + w) {e : va_E} (he : ze G k (w + 3) (zs S k 0 i v k) = e) : (zw G S).set (zp k (w + 3)) (za G k (w + 3), e) = zw G (zs S k 0 i v) := by
  refine zw_set (by omega) (fun k' j' hin hh => ?_) he
  by_cases e1 : k' = k
  · subst e1
    have hj : j' ≠ w + 3 := fun q => hh ⟨rfl, q⟩
    rw [ze_pr hk, ze_pr hk]
    rcases (show j' = 0 ∨ j' = 1 ∨ j' = 2 ∨ j' = 3 ∨ j' = 4 ∨ j' = 5 ∨ j' = 6 ∨ j' = 7 ∨ j' = 8 by omega) with rfl | rfl | rfl | rfl | rfl | rfl | rfl | rfl | rfl
    · have hx : ∀ x : Int, x = 4 ∨ x = 0 ∨ x = 3 → zs S k' 0 i v k' 0 x = S k' 0 x := fun x h => zs_x (by omega)
      simp only [zpr, hx 4 (by omega), hx 0 (by omega), hx 3 (by omega)]
    · have hx : ∀ x : Int, x = 1 ∨ x = 2 → zs S k' 0 i v k' 0 x = S k' 0 x := fun x h => zs_x (by omega)
      simp only [zpr, hx 1 (by omega), hx 2 (by omega)]
    · simp only [zpr, zs_j (show 2 ≠ 0 by omega)]
    · simp only [zpr, zs_f0 (S := S) (k := k') (i := i) (v := v) (fun n => by omega)]
    · simp only [zpr, zs_fw 1 (S := S) (k := k') (i := i) (v := v) (fun n => by omega)]
    · simp only [zpr, zs_fw 2 (S := S) (k := k') (i := i) (v := v) (fun n => by omega)]
    · simp only [zpr, zs_fw 3 (S := S) (k := k') (i := i) (v := v) (fun n => by omega)]
    · simp only [zpr, zs_fw 4 (S := S) (k := k') (i := i) (v := v) (fun n => by omega)]
    · simp only [zpr, zs_j (show 8 ≠ 0 by omega)]
  · rw [zs_k e1]
/-- a print's marks (j 2) and its sorted needs (j 8) -/
theorem zw_setM {G : zG} {S : zM} {k j : Nat} {i v : Int} (hk : k < 8) (hj2 : j = 2 ∨ j = 8) {e : va_E} (he : ze G k j (zs S k j i v k) = e) : (zw G S).set (zp k j) (za G k j, e) = zw G (zs S k j i v) := by
  refine zw_set (by omega) (fun k' j' hin hh => ?_) he
  by_cases e1 : k' = k
  · subst e1
    have hj : j' ≠ j := fun q => hh ⟨rfl, q⟩
    rw [ze_pr hk, ze_pr hk]
    rcases (show j' = 0 ∨ j' = 1 ∨ j' = 2 ∨ j' = 3 ∨ j' = 4 ∨ j' = 5 ∨ j' = 6 ∨ j' = 7 ∨ j' = 8 by omega) with rfl | rfl | rfl | rfl | rfl | rfl | rfl | rfl | rfl <;> first | (simp only [zpr, zs_j hj]; done) | simp only [zpr, zs_j (show 0 ≠ j by omega)]
  · rw [zs_k e1]
/-! what a method knows -/
def zSteps (j : Int) : Int := if j = 0 then 1400 else if j = 1 then 1320 else if j = 2 then 1260 else if j = 3 then 1200 else if j = 4 then 1160 else 1120
def zThr (j : Int) : Int := if j = 0 then 100000 else if j = 1 then 79370 else 63000
def zThi (j : Int) : Int := if j = 0 then 100 else if j = 1 then 126 else 159
def zTs (G : zG) (U : State) (H : Heap) : Prop := (va_Z "ZonePrint$Paper" "STEPS" "[I" (.ref (zt1 G)) (zA G) U H ∧ va_T .int (zt1 G) 6 (fun j => .int (zI (zSteps j))) (zA G) U H) ∧ (va_Z "ZonePrint$Paper" "THROUGH" "[I" (.ref (zt2 G)) (zA G) U H ∧ va_T .int (zt2 G) 3 (fun j => .int (zI (zThr j))) (zA G) U H) ∧ (va_Z "ZonePrint$Print" "THIRDS" "[I" (.ref (zt3 G)) (zA G) U H ∧ va_T .int (zt3 G) 3 (fun j => .int (zI (zThi j))) (zA G) U H)
theorem zTs.moved {G : zG} {u U : State} {H H1 : Heap} (hvm : u.vm.Alike U.vm) (hq : ∀ a : Nat, a < H.size → ¬ zA G a → H1[a]? = H[a]?) (h : zTs G u H) : zTs G U H1 :=
  ⟨⟨((h.1.1).moved hvm).kept hq, ((h.1.2).moved hvm).kept hq⟩, ⟨((h.2.1.1).moved hvm).kept hq, ((h.2.1.2).moved hvm).kept hq⟩, ⟨((h.2.2.1).moved hvm).kept hq, ((h.2.2.2).moved hvm).kept hq⟩⟩
def zNs (U : State) : Prop := ∀ w ∈ zNest, va_Nw w U
theorem zNs.warm {s U : State} (hW : s.WarmedH U.vm) (h : zNs s) : zNs U := by
  intro w hw
  have h1 := h w hw
  unfold zNest at hw
  simp only [List.mem_cons, List.not_mem_nil, or_false] at hw
  rcases hw with rfl | rfl | rfl | rfl | rfl | rfl | rfl | rfl | rfl | rfl | rfl | rfl | rfl | rfl | rfl <;> first | exact va_Nw.warmF hW h1 | exact va_Nw.warmM hW h1
theorem zNs.same {s U : State} (hvm : s.vm = U.vm) (h : zNs s) : zNs U := by
  intro w hw
  have h1 := h w hw
  unfold zNest at hw
  simp only [List.mem_cons, List.not_mem_nil, or_false] at hw
  rcases hw with rfl | rfl | rfl | rfl | rfl | rfl | rfl | rfl | rfl | rfl | rfl | rfl | rfl | rfl | rfl <;> exact va_Nw.same rfl hvm h1
def zU (G : zG) (U : State) : Prop := va_K (zD G) vwCl (zty G) U ∧ zn G ≤ U.heap.size ∧ zNs U ∧ zTs G U U.heap
def zB (G : zG) (S : zM) (U : State) : Prop := va_P (zD G) vwCl (zw G S) U.heap ∧ zU G U
def zH (G : zG) (S : zM) (s : State) (H : Heap) (locs : List Loc) : Prop := va_P (zD G) vwCl (zw G S) H ∧ va_S (zA G) s.heap H locs
def zE (p : Program) (s : State) (m : MethodId) (args : Array Value) (meth : Method) (c : Code) (cc : ByteArray) (nL : Nat) (own : String) (G : zG) : Prop := p.tables.exec = Jvm.exec ∧ c.code = cc ∧ c.maxLocals = nL ∧ s.vm.findClass own = some m.cls ∧ (∀ w ∈ zTbl, w.before args s = true) ∧ meth.locks = false ∧ zU G s ∧ zok G
theorem zU.go {G : zG} {s U : State} {H : Heap} {locs : List Loc} (h : zU G s) (hS : va_S (zA G) s.heap H locs) (hU : U.heap = H) (hW : s.WarmedH U.vm) : zU G U :=
  ⟨va_K.moved hW.alike h.1, by rw [hU]; exact Nat.le_trans h.2.1 hS.1, h.2.2.1.warm hW, by rw [hU]; exact zTs.moved hW.alike hS.2.1 h.2.2.2⟩
theorem zB.go {G : zG} {S : zM} {s U : State} {H : Heap} {locs : List Loc} (h : zU G s) (hH : zH G S s H locs) (hU : U.heap = H) (hW : s.WarmedH U.vm) : zB G S U :=
  ⟨by rw [hU]; exact hH.1, h.go hH.2 hU hW⟩
theorem zB.blind (G : zG) (S : zM) (avs : List Value) : FrameBlind (va_Pc avs (zB G S)) := by
  intro a U g mk q
  exact ⟨q.1, q.2.1, va_K.moved (u := U) (U := U.calling g mk a) (Vm.Alike.refl U.vm) q.2.2.1, q.2.2.2.1, zNs.same (s := U) (U := U.calling g mk a) rfl q.2.2.2.2.1, zTs.moved (u := U) (U := U.calling g mk a) (H := U.heap) (H1 := U.heap) (Vm.Alike.refl U.vm) (fun _ _ _ => rfl) q.2.2.2.2.2⟩
