section ZJ4
variable {p : Program} {l : Launch} {e : Env} {R : Room} {s : State} {m : MethodId} {args : Array Value} {below : List Frame} {meth : Method} {c : Code} {H : Heap} {locs : List Loc} {cells slots : Nat} {Q : State → Prop} {cc : ByteArray} {pc : Nat} {ls : Array Slot} {rest : List Value} {nL : Nat} {own : String} {G : zG} {S : zM}
/-- the row of the saved states: the i-th is print i + 2 -/
theorem zld_st (h : zE p s m args meth c cc nL own G) (hH : zH G S s H locs) {x : Int} (h0 : 0 ≤ x ∧ x < 6) (hdg : decode cc pc = .ok (.aaload, 1)) (k0 : ∀ k : Nat, k = x.toNat + 2 → W p l e R s m args below meth c H locs cells slots Q (F0 m (pc + 1) ls (.ref (za G k 0) :: rest))) : W p l e R s m args below meth c H locs cells slots Q (F0 m pc ls (.int (zI x) :: .ref (za G 8 2) :: rest)) :=
  va_aldq (n := 6) (f := fun i => some (za G (i + 2) 0)) h.1 h.2.1 h.2.2.2.2.2.2.1.1 hH.1 (zp 8 2) 1 ((zw_at (Or.inr (Or.inl ⟨rfl, by omega⟩))).trans (congrArg (fun z => some (za G 8 2, z)) rfl)) rfl (zI_in h0.1 (by omega) (by omega)) hdg (k0 _ (by have := zI_clamp h0.1 (show x ≤ 2147483647 by omega); omega))
end ZJ4
theorem zxor6 {a : Int} (h : 0 ≤ a ∧ a < 1000) : 0 ≤ zxor a 6 ∧ zxor a 6 ≤ 2147483647 := by
  have h1 := (by decide +kernel : ∀ n, n < 1000 → 0 ≤ zxor (n : Nat) 6 ∧ zxor (n : Nat) 6 ≤ 2147483647) a.toNat (by omega)
  rw [show ((a.toNat : Nat) : Int) = a by omega] at h1
  exact h1
/-- zMet for a method of a class that has natives of its own, itself none of them -/
theorem zMetF {l : Launch} {G : zG} {S : zM} {cc : ByteArray} {y : MethodName} {rm : Room} {Qc : Array Value → State → Outcome → State → Prop} {maxL mc ms : Nat} {ret : Option FieldType} {avs : List Value} (lv : List (Nat × Value)) (hG : zok G) (hy : plainFor y = true) (hlen : (lg_sl avs).length ≤ maxL) (hlv : lv_args 0 avs = lv)
    (body : ∀ (p : Program) (e : Env) (s : State) (m : MethodId) (args : Array Value) (below : List Frame) (meth : Method) (c : Code) (ls : Array Slot), zE p s m args meth c cc maxL y.cls G → p.tables.exec = Jvm.exec → c.code = cc → meth.sig.returnType = ret → zH G S s s.heap [] → lv_has ls maxL lv → W p l e rm s m args below meth c s.heap [] 0 0 (MQ below Qc args s mc ms (zA G)) (F0 m 0 ls [])) :
    Met l y (Cond.code y cc maxL ret :: zTbl) rm (va_Pc avs (zB G S)) Qc mc ms (zA G) := by
  refine MetFree.of_bodyRF (code := cc) (maxLocals := maxL) (ret := ret) hy ?_ ?_
  · intro args s m h hn
    obtain ⟨meth, c, h1, h2, h3, h4, h5, h6, -, -⟩ := Cond.code_spec hn (atoms_spec (ws := Cond.code y cc maxL ret :: zTbl) h _ List.mem_cons_self)
    exact ⟨meth, c, h1, h2, h3, h4, h5, h6⟩
  · intro p e s m args below meth c s₁ B hml hv _ hst
    obtain ⟨rfl, hP, hU⟩ := hv
    have hts := atoms_spec (ws := Cond.code y cc maxL ret :: zTbl) B.pre
    have hh0 : s₁.heap = s.heap := by rw [B.state]; rfl
    have W0 := body p e s m _ below meth c _ ⟨B.exec, B.bytes, hml, findClass_of_methodNamed B.named, fun w hw => hts w (List.mem_cons_of_mem _ hw), B.notSynchronized, hU, hG⟩ B.exec B.bytes B.returns ⟨hP, va_S.rf⟩ (by rw [← hlv]; exact lv_entry avs hlen)
    obtain ⟨t, a1, o, b1, b2, b3⟩ := W0 s₁ hh0 (Stand.of_body B)
    rw [← lg_entry_eq] at a1
    exact ⟨t, o, hst.trans a1, b1, b2, ⟨b3.1, b3.2⟩⟩
