section ZJ2
variable {p : Program} {l : Launch} {e : Env} {R : Room} {s : State} {m : MethodId} {args : Array Value} {below : List Frame} {meth : Method} {c : Code} {H : Heap} {locs : List Loc} {cells slots : Nat} {Q : State → Prop} {cc : ByteArray} {pc : Nat} {ls : Array Slot} {rest : List Value} {nL : Nat} {own : String} {G : zG} {S : zM}
theorem zminI (h : zE p s m args meth c cc nL own G) (hls : ls.size = nL) {index : Nat} (hl : Cond.methodLink own index yJ9_min_7cf53 ∈ zTbl) (hf : 1 ≤ R.frames) (hL : 21 ≤ R.locals) (hcs : cells ≤ R.cells ∧ slots ≤ R.slots) {x y : Int} (hx : -2147483648 ≤ x ∧ x ≤ 2147483647) (hy : -2147483648 ≤ y ∧ y ≤ 2147483647) (hW : (rest.map fun v => v.category).sum ≤ 8) (hdg : decode cc pc = .ok (.invokestatic index, 3)) (k : W p l e R s m args below meth c H locs cells slots Q (F0 m (pc + 3) ls (.int (zI (min x y)) :: rest))) : W p l e R s m args below meth c H locs cells slots Q (F0 m pc ls (.int (zI y) :: .int (zI x) :: rest)) := by
  refine va_mmin h.1 h.2.1 (h.2.2.1.trans hls.symm) h.2.2.2.1 (h.2.2.2.2.1 _ hl) (h.2.2.2.2.1 _ zt_J9_min_7cf53) (h.2.2.2.2.1 _ zn_J9) (h.2.2.2.2.1 _ zc_J9_min_7cf53) hf (by omega) hcs.1 hcs.2 hdg ?_
  have e : (if zI y < zI x then zI y else zI x) = zI (min x y) := by
    by_cases q : y < x
    · rw [if_pos ((zI_lt hy hx).mpr q), Int.min_def, if_neg (by omega)]
    · rw [if_neg (fun q2 => q ((zI_lt hy hx).mp q2)), Int.min_def, if_pos (by omega)]
  rw [e]
  exact k
theorem zabsI (h : zE p s m args meth c cc nL own G) (hls : ls.size = nL) {index : Nat} (hl : Cond.methodLink own index yJ9_abs_0f7a4 ∈ zTbl) (hf : 1 ≤ R.frames) (hL : 21 ≤ R.locals) (hcs : cells ≤ R.cells ∧ slots ≤ R.slots) {x : Int} (hx : -2147483648 ≤ x ∧ x ≤ 2147483647) (hW : (rest.map fun v => v.category).sum ≤ 8) (hdg : decode cc pc = .ok (.invokestatic index, 3)) (k : W p l e R s m args below meth c H locs cells slots Q (F0 m (pc + 3) ls (.int (zI (zabs x)) :: rest))) : W p l e R s m args below meth c H locs cells slots Q (F0 m pc ls (.int (zI x) :: rest)) := by
  refine va_mabs h.1 h.2.1 (h.2.2.1.trans hls.symm) h.2.2.2.1 (h.2.2.2.2.1 _ hl) (h.2.2.2.2.1 _ zt_J9_abs_0f7a4) (h.2.2.2.2.1 _ zn_J9) (h.2.2.2.2.1 _ zc_J9_abs_0f7a4) hf (by omega) hcs.1 hcs.2 hdg ?_
  have e : (if 0 ≤ zI x then zI x else 0 - zI x) = zI (zabs x) := by
    unfold zabs
    rw [zI_0]
    by_cases q : 0 ≤ x
    · rw [if_pos ((zI_le zI_r0 hx).mpr q), if_neg (by omega)]
    · rw [if_neg (fun q2 => q ((zI_le zI_r0 hx).mp q2)), if_pos (by omega), zI_sub, Int.zero_sub]
  rw [e]
  exact k
theorem zmaxL (h : zE p s m args meth c cc nL own G) (hls : ls.size = nL) {index : Nat} (hl : Cond.methodLink own index yJ9_max_f86c9 ∈ zTbl) (hf : 1 ≤ R.frames) (hL : 23 ≤ R.locals) (hcs : cells ≤ R.cells ∧ slots ≤ R.slots) {x y : Int} (hx : -9223372036854775808 ≤ x ∧ x ≤ 9223372036854775807) (hy : -9223372036854775808 ≤ y ∧ y ≤ 9223372036854775807) (hW : (rest.map fun v => v.category).sum ≤ 8) (hdg : decode cc pc = .ok (.invokestatic index, 3)) (k : W p l e R s m args below meth c H locs cells slots Q (F0 m (pc + 3) ls (.long (zL (max x y)) :: rest))) : W p l e R s m args below meth c H locs cells slots Q (F0 m pc ls (.long (zL y) :: .long (zL x) :: rest)) := by
  refine va_mmax_long h.1 h.2.1 (h.2.2.1.trans hls.symm) h.2.2.2.1 (h.2.2.2.2.1 _ hl) (h.2.2.2.2.1 _ zt_J9_max_f86c9) (h.2.2.2.2.1 _ zn_J9) (h.2.2.2.2.1 _ zc_J9_max_f86c9) hf (by omega) hcs.1 hcs.2 hdg ?_
  have e : (if zL y < zL x then zL x else zL y) = zL (max x y) := by
    by_cases q : y < x
    · rw [if_pos ((zL_lt hy hx).mpr q), Int.max_def, if_neg (by omega)]
    · rw [if_neg (fun q2 => q ((zL_lt hy hx).mp q2)), Int.max_def, if_pos (by omega)]
  rw [e]
  exact k
theorem zminL (h : zE p s m args meth c cc nL own G) (hls : ls.size = nL) {index : Nat} (hl : Cond.methodLink own index yJ9_min_f86c9 ∈ zTbl) (hf : 1 ≤ R.frames) (hL : 23 ≤ R.locals) (hcs : cells ≤ R.cells ∧ slots ≤ R.slots) {x y : Int} (hx : -9223372036854775808 ≤ x ∧ x ≤ 9223372036854775807) (hy : -9223372036854775808 ≤ y ∧ y ≤ 9223372036854775807) (hW : (rest.map fun v => v.category).sum ≤ 8) (hdg : decode cc pc = .ok (.invokestatic index, 3)) (k : W p l e R s m args below meth c H locs cells slots Q (F0 m (pc + 3) ls (.long (zL (min x y)) :: rest))) : W p l e R s m args below meth c H locs cells slots Q (F0 m pc ls (.long (zL y) :: .long (zL x) :: rest)) := by
  refine va_mmin_long h.1 h.2.1 (h.2.2.1.trans hls.symm) h.2.2.2.1 (h.2.2.2.2.1 _ hl) (h.2.2.2.2.1 _ zt_J9_min_f86c9) (h.2.2.2.2.1 _ zn_J9) (h.2.2.2.2.1 _ zc_J9_min_f86c9) hf (by omega) hcs.1 hcs.2 hdg ?_
  have e : (if zL y < zL x then zL y else zL x) = zL (min x y) := by
    by_cases q : y < x
    · rw [if_pos ((zL_lt hy hx).mpr q), Int.min_def, if_neg (by omega)]
    · rw [if_neg (fun q2 => q ((zL_lt hy hx).mp q2)), Int.min_def, if_pos (by omega)]
  rw [e]
  exact k
theorem zL_shl {a b : Int} (ha : 0 ≤ a ∧ a < 4611686018427387904) (hb : 0 ≤ b ∧ b < 64) : zL a <<< ((zI b).toInt64 &&& 63) = zL (a * 2 ^ b.toNat) := by
  obtain ⟨n, rfl⟩ := Int.eq_ofNat_of_zero_le ha.1
  obtain ⟨k, rfl⟩ := Int.eq_ofNat_of_zero_le hb.1
  have h := zI_lsm k (by omega)
  have e : ∀ n : Nat, zL (n : Int) = Int64.ofNat n := fun n => Int64.ofInt_eq_ofNat
  have hn : ∀ n : Nat, (Int64.ofNat n).toBitVec = BitVec.ofNat 64 n := fun n => Int64.toBitVec_ofNat
  apply Int64.toBitVec_inj.mp
  rw [e, show ((n : Int) * 2 ^ ((k : Int).toNat)) = ((n * 2 ^ k : Nat) : Int) by rw [Int.toNat_natCast]; norm_cast, e, hn]
  show (Int64.ofNat n).toBitVec.shiftLeft (((zI (k : Int)).toInt64 &&& 63).toBitVec.smod 64).toNat = _
  rw [h, hn]
  apply BitVec.eq_of_toNat_eq
  show ((BitVec.ofNat 64 n) <<< (BitVec.ofNat 64 k).toNat).toNat = _
  rw [BitVec.toNat_shiftLeft, BitVec.toNat_ofNat, BitVec.toNat_ofNat, BitVec.toNat_ofNat, Nat.shiftLeft_eq, Nat.mod_eq_of_lt (show k < 2 ^ 64 by omega), Nat.mod_mul_mod]
theorem zb_lshl (h : zE p s m args meth c cc nL own G) {x y : Int} (h0 : 0 ≤ x ∧ x < 4611686018427387904) (h1 : 0 ≤ y ∧ y < 64) (hdg : decode cc pc = .ok (.lshl, 1)) (k : W p l e R s m args below meth c H locs cells slots Q (F0 m (pc + 1) ls (.long (zL (x * 2 ^ y.toNat)) :: rest))) : W p l e R s m args below meth c H locs cells slots Q (F0 m pc ls (.int (zI y) :: .long (zL x) :: rest)) := lv_lshl h.1 h.2.1 hdg (zL_shl h0 h1) k
end ZJ2
