theorem dIt_s (x : UInt64) {k : Int} (hk : 0 ≤ k) : FP.dmul (dIt x k.toNat) 4611686018427387904 = dIt x (k + 1).toNat := by
  obtain ⟨n, rfl⟩ := Int.eq_ofNat_of_zero_le hk
  rfl
section ZR6
variable {p : Program} {l : Launch} {e : Env} {R : Room} {s : State} {m : MethodId} {args : Array Value} {below : List Frame} {meth : Method} {c : Code} {H : Heap} {locs : List Loc} {cells slots : Nat} {Q : State → Prop} {pc : Nat} {ls : Array Slot} {rest : List Value}
theorem zb_topl {x y : Int} (e0 : x = y) (k : W p l e R s m args below meth c H locs cells slots Q (F0 m pc ls (.long (zL y) :: rest))) : W p l e R s m args below meth c H locs cells slots Q (F0 m pc ls (.long (zL x) :: rest)) := e0 ▸ k
theorem zb_topd {x y : UInt64} (e0 : x = y) (k : W p l e R s m args below meth c H locs cells slots Q (F0 m pc ls (.double y :: rest))) : W p l e R s m args below meth c H locs cells slots Q (F0 m pc ls (.double x :: rest)) := e0 ▸ k
end ZR6
theorem tCnt_le {σ : Int → Int} (hw : zW σ) : tCnt σ 0 ≤ σ 4 := by
  have h4 := zW_4 hw
  have h := zsum_in (f := fun z => if zsg (tOff σ z) = 0 then 1 else 0) (a := 0) (b := 1) (σ 4).toNat (fun j h1 h2 => by split <;> omega)
  unfold tCnt
  omega
