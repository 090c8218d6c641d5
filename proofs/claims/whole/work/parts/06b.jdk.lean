section ZJ2
variable {p : Program} {l : Launch} {e : Env} {R : Room} {s : State} {m : MethodId} {args : Array Value} {below : List Frame} {meth : Method} {c : Code} {H : Heap} {locs : List Loc} {cells slots : Nat} {Q : State → Prop} {cc : ByteArray} {pc : Nat} {ls : Array Slot} {rest : List Value} {nL : Nat} {own : String} {G : zG} {S : zM}
theorem zminI (h : zE p s m args meth c cc nL own G) (hls : ls.size = nL) {index : Nat} (hl : Cond.methodLink own index yJ9_min_7cf53 ∈ zTbl) (hf : 1 ≤ R.frames) (hL : 21 ≤ R.locals) (hcs : cells ≤ R.cells ∧ slots ≤ R.slots) {x y : Int} (hx : -2147483648 ≤ x ∧ x ≤ 2147483647) (hy : -2147483648 ≤ y ∧ y ≤ 2147483647) (hW : (rest.map fun v => v.category).sum ≤ 8) (hdg : decode cc pc = .ok (.invokestatic index, 3)) (k : W p l e R s m args below meth c H locs cells slots Q (F0 m (pc + 3) ls (.int (zI (min x y)) :: rest))) : W p l e R s m args below meth c H locs cells slots Q (F0 m pc ls (.int (zI y) :: .int (zI x) :: rest)) := by
  refine va_mmin h.1 h.2.1 (h.2.2.1.trans hls.symm) h.2.2.2.1 (h.2.2.2.2.1 _ hl) (h.2.2.2.2.1 _ zt_J9_min_7cf53) (h.2.2.2.2.1 _ zn_J9) (h.2.2.2.2.1 _ zc_J9_min_7cf53) hf (by omega) hcs.1 hcs.2 hdg ?_
  have e : (if zI y < zI x then zI y else zI x) = zI (min x y) := by
    by_cases q : y < x
    · rw [if_pos ((zI_lt hy hx).mpr q), Int.min_def, if_neg (by omega)]
    · rw [if_neg (fun q2 => q ((zI_lt hy hx).mp q2)), Int.min_def, if_pos (by omega)]
  rw [e]
  exact k
theorem zabsI (h : zE p s m args meth c cc nL own G) (hls : ls.size = nL) {index : Nat} (hl : Cond.methodLink own index yJ9_abs_0f7a4 ∈ zTbl) (hf : 1 ≤ R.frames) (hL : 21 ≤ R.locals) (hcs : cells ≤ R.cells ∧ slots ≤ R.slots) {x : Int} (hx : -2147483648 ≤ x ∧ x ≤ 2147483647) (hW : (rest.map fun v => v.category).sum ≤ 8) (hdg : decode cc pc = .ok (.invokestatic index, 3)) (k : W p l e R s m args below meth c H locs cells slots Q (F0 m (pc + 3) ls (.int (zI (zabs x)) :: rest))) : W p l e R s m args below meth c H locs cells slots Q (F0 m pc ls (.int (zI x) :: rest)) := by
  refine va_mabs h.1 h.2.1 (h.2.2.1.trans hls.symm) h.2.2.2.1 (h.2.2.2.2.1 _ hl) (h.2.2.2.2.1 _ zt_J9_abs_0f7a4) (h.2.2.2.2.1 _ zn_J9) (h.2.2.2.2.1 _ zc_J9_abs_0f7a4) hf (by omega) hcs.1 hcs.2 hdg ?_
  have e : (if 0 ≤ zI x then zI x else 0 - zI x) = zI (zabs x) := by
    unfold zabs
    rw [zI_0]
    by_cases q : 0 ≤ x
    · rw [if_pos ((zI_le zI_r0 hx).mpr q), if_neg (by omega)]
    · rw [if_neg (fun q2 => q ((zI_le zI_r0 hx).mp q2)), if_pos (by omega), zI_sub, Int.zero_sub]
  rw [e]
  exact k
theorem zmaxL (h : zE p s m args meth c cc nL own G) (hls : ls.size = nL) {index : Nat} (hl : Cond.methodLink own index yJ9_max_f86c9 ∈ zTbl) (hf : 1 ≤ R.frames) (hL : 23 ≤ R.locals) (hcs : cells ≤ R.cells ∧ slots ≤ R.slots) {x y : Int} (hx : -9223372036854775808 ≤ x ∧ x ≤ 9223372036854775807) (hy : -9223372036854775808 ≤ y ∧ y ≤ 9223372036854775807) (hW : (rest.map fun v => v.category).sum ≤ 8) (hdg : decode cc pc = .ok (.invokestatic index, 3)) (k : W p l e R s m args below meth c H locs cells slots Q (F0 m (pc + 3) ls (.long (zL (max x y)) :: rest))) : W p l e R s m args below meth c H locs cells slots Q (F0 m pc ls (.long (zL y) :: .long (zL x) :: rest)) := by
  refine va_mmax_long h.1 h.2.1 (h.2.2.1.trans hls.symm) h.2.2.2.1 (h.2.2.2.2.1 _ hl) (h.2.2.2.2.1 _ zt_J9_max_f86c9) (h.2.2.2.2.1 _ zn_J9) (h.2.2.2.2.1 _ zc_J9_max_f86c9) hf (by omega) hcs.1 hcs.2 hdg ?_
  have e : (if zL y < zL x then zL x else zL y) = zL (max x y) := by
    by_cases q : y < x
    · rw [if_pos ((zL_lt hy hx).mpr q), Int.max_def, if_neg (by omega)]
    · rw [if_neg (fun q2 => q ((zL_lt hy hx).mp q2)), Int.max_def, if_pos (by omega)]
  rw [e]
  exact k
theorem zminL (h : zE p s m args meth c cc nL own G) (hls : ls.size = nL) {index : Nat} (hl : Cond.methodLink own index yJ9_min_f86c9 ∈ zTbl) (hf : 1 ≤ R.frames) (hL : 23 ≤ R.locals) (hcs : cells ≤ R.cells ∧ slots ≤ R.slots) {x y : Int} (hx : -9223372036854775808 ≤ x ∧ x ≤ 9223372036854775807) (hy : -9223372036854775808 ≤ y ∧ y ≤ 9223372036854775807) (hW : (rest.map fun v => v.category).sum ≤ 8) (hdg : decode cc pc = .ok (.invokestatic index, 3)) (k : W p l e R s m args below meth c H locs cells slots Q (F0 m (pc + 3) ls (.long (zL (min x y)) :: rest))) : W p l e R s m args below meth c H locs cells slots Q (F0 m pc ls (.long (zL y) :: .long (zL x) :: rest)) := by
  refine va_mmin_long h.1 h.2.1 (h.2.2.1.trans hls.symm) h.2.2.2.1 (h.2.2.2.2.1 _ hl) (h.2.2.2.2.1 _ zt_J9_min_f86c9) (h.2.2.2.2.1 _ zn_J9) (h.2.2.2.2.1 _ zc_J9_min_f86c9) hf (by omega) hcs.1 hcs.2 hdg ?_
  have e : (if zL y < zL x then zL y else zL x) = zL (min x y) := by
    by_cases q : y < x
    · rw [if_pos ((zL_lt hy hx).mpr q), Int.min_def, if_neg (by omega)]
    · rw [if_neg (fun q2 => q ((zL_lt hy hx).mp q2)), Int.min_def, if_pos (by omega)]
  rw [e]
  exact k
theorem zL_shl {a b : Int} (ha : 0 ≤ a ∧ a < 4611686018427387904) (hb : 0 ≤ b ∧ b < 64) : zL a <<< ((zI b).toInt64 &&& 63) = zL (a * 2 ^ b.toNat) := by
  obtain ⟨n, rfl⟩ := Int.eq_ofNat_of_zero_le ha.1
  obtain ⟨k, rfl⟩ := Int.eq_ofNat_of_zero_le hb.1
  have h := zI_lsm k (by omega)
  have e : ∀ n : Nat, zL (n : Int) = Int64.ofNat n := fun n => Int64.ofInt_eq_ofNat
  have hn : ∀ n : Nat, (Int64.ofNat n).toBitVec = BitVec.ofNat 64 n := fun n => Int64.toBitVec_ofNat
  apply Int64.toBitVec_inj.mp
  rw [e, show ((n : Int) * 2 ^ ((k : Int).toNat)) = ((n * 2 ^ k : Nat) : Int) by rw [Int.toNat_natCast]; norm_cast, e, hn]
  show (Int64.ofNat n).toBitVec.shiftLeft (((zI (k : Int)).toInt64 &&& 63).toBitVec.smod 64).toNat = _
  rw [h, hn]
  apply BitVec.eq_of_toNat_eq
  show ((BitVec.ofNat 64 n) <<< (BitVec.ofNat 64 k).toNat).toNat = _
  rw [BitVec.toNat_shiftLeft, BitVec.toNat_ofNat, BitVec.toNat_ofNat, BitVec.toNat_ofNat, Nat.shiftLeft_eq, Nat.mod_eq_of_lt (show k < 2 ^ 64 by omega), Nat.mod_mul_mod]
theorem zb_lshl (h : zE p s m args meth c cc nL own G) {x y : Int} (h0 : 0 ≤ x ∧ x < 4611686018427387904) (h1 : 0 ≤ y ∧ y < 64) (hdg : decode cc pc = .ok (.lshl, 1)) (k : W p l e R s m args below meth c H locs cells slots Q (F0 m (pc + 1) ls (.long (zL (x * 2 ^ y.toNat)) :: rest))) : W p l e R s m args below meth c H locs cells slots Q (F0 m pc ls (.int (zI y) :: .long (zL x) :: rest)) := lv_lshl h.1 h.2.1 hdg (zL_shl h0 h1) k
end ZJ2
theorem zlk_out : ∀ (ps : List (Int × Int)) (d x : Int), (∀ q ∈ ps, q.1 ≠ x) → Op.lookupswitch.offset ps d x = d := by
  intro ps d x
  induction ps with
  | nil => intro _; rfl
  | cons q r ih =>
    intro h
    obtain ⟨a, o⟩ := q
    rw [Op.lookupswitch.offset_cons, if_neg (h (a, o) List.mem_cons_self)]
    exact ih (fun q hq => h q (List.mem_cons_of_mem _ hq))
theorem tSf_at {σ : Int → Int} {z f : Int} {i : Nat} (h0 : tSf σ z f i = -1) (h1 : σ (5 + 5 * z + 1) ≤ tAt σ z (zStr f i)) : ∀ m : Nat, tSf σ z f (i + 1 + m) = i := by
  intro m
  induction m with
  | zero => show (if tSf σ z f i = -1 ∧ σ (5 + 5 * z + 1) ≤ tAt σ z (zStr f i) then (i : Int) else tSf σ z f i) = i; rw [if_pos ⟨h0, h1⟩]
  | succ m ih => show (if tSf σ z f (i + 1 + m) = -1 ∧ σ (5 + 5 * z + 1) ≤ tAt σ z (zStr f ((i + 1 + m : Nat) : Int)) then ((i + 1 + m : Nat) : Int) else tSf σ z f (i + 1 + m)) = i; rw [ih, if_neg (by omega)]
theorem tSf_to {σ : Int → Int} {z f : Int} {i n : Int} (hi : 0 ≤ i) (hn : i < n) (h0 : tSf σ z f i.toNat = -1) (h1 : σ (5 + 5 * z + 1) ≤ tAt σ z (zStr f i)) : tSf σ z f n.toNat = i := by
  obtain ⟨i, rfl⟩ := Int.eq_ofNat_of_zero_le hi
  have e : n.toNat = i + 1 + (n.toNat - (i + 1)) := by omega
  rw [e]
  exact tSf_at h0 h1 _
theorem zpow8 {q : Nat} (h : q ≤ 8) : (2 : Int) ^ q ≤ 256 := (by decide : ∀ k, k < 9 → (2 : Int) ^ k ≤ 256) q (by omega)
theorem tLe_v {m d : Int} (hm : 1000 ≤ m ∧ m ≤ 51200000) (hd : 0 ≤ d ∧ d ≤ 24) : 0 ≤ m * 100 * 2 ^ (d / 3).toNat ∧ m * 100 * 2 ^ (d / 3).toNat ≤ 1310720000000 := by
  have h1 := zpow8 (q := (d / 3).toNat) (by omega)
  have h2 := zpow_pos (d / 3).toNat
  have h3 : m * 100 * 2 ^ (d / 3).toNat ≤ 5120000000 * 256 := Int.mul_le_mul (by omega) h1 (by omega) (by omega)
  have h4 : 0 ≤ m * 100 * 2 ^ (d / 3).toNat := Int.mul_nonneg (by omega) (by omega)
  omega
def tPr (σ : Int → Int) (z what : Int) : Int := if what = 0 then σ (5 + 5 * z) else if what = 1 then σ (5 + 5 * z + 1) else if what = 2 then σ (5 + 5 * z + 2) else if what = 3 then σ (5 + 5 * z + 3) else if what = 4 then tTm σ z else if what = 5 then zLt (σ (5 + 5 * z)) (tTm σ z) else if what = 6 then tTo σ z else if what = 7 then σ (5 + 5 * z + 4) else if what = 8 then tLn σ z else if what = 9 then tGn σ z else tSp σ z
