section ZJ4
variable {p : Program} {l : Launch} {e : Env} {R : Room} {s : State} {m : MethodId} {args : Array Value} {below : List Frame} {meth : Method} {c : Code} {H : Heap} {locs : List Loc} {cells slots : Nat} {Q : State → Prop} {cc : ByteArray} {pc : Nat} {ls : Array Slot} {rest : List Value} {nL : Nat} {own : String} {G : zG} {S : zM}
/-- the row of the saved states: the i-th is print i + 2 -/
theorem zld_st (h : zE p s m args meth c cc nL own G) (hH : zH G S s H locs) {x : Int} (h0 : 0 ≤ x ∧ x < 6) (hdg : decode cc pc = .ok (.aaload, 1)) (k0 : ∀ k : Nat, k = x.toNat + 2 → W p l e R s m args below meth c H locs cells slots Q (F0 m (pc + 1) ls (.ref (za G k 0) :: rest))) : W p l e R s m args below meth c H locs cells slots Q (F0 m pc ls (.int (zI x) :: .ref (za G 8 2) :: rest)) :=
  va_aldq (n := 6) (f := fun i => some (za G (i + 2) 0)) h.1 h.2.1 h.2.2.2.2.2.2.1.1 hH.1 (zp 8 2) 1 ((zw_at (Or.inr (Or.inl ⟨rfl, by omega⟩))).trans (congrArg (fun z => some (za G 8 2, z)) rfl)) rfl (zI_in h0.1 (by omega) (by omega)) hdg (k0 _ (by have := zI_clamp h0.1 (show x ≤ 2147483647 by omega); omega))
end ZJ4
theorem zxor6 {a : Int} (h : 0 ≤ a ∧ a < 1000) : 0 ≤ zxor a 6 ∧ zxor a 6 ≤ 2147483647 := by
  have h1 := (by decide +kernel : ∀ n, n < 1000 → 0 ≤ zxor (n : Nat) 6 ∧ zxor (n : Nat) 6 ≤ 2147483647) a.toNat (by omega)
  rw [show ((a.toNat : Nat) : Int) = a by omega] at h1
  exact h1
