/-! what throws: the words and cells that a throw stands on, the contract, the throw, the catch -/
def zNm : List String := ["java/lang/RuntimeException", "java/lang/Exception"]
def zEs : List String := ["java/lang/IllegalArgumentException", "java/lang/IllegalStateException", "java/lang/IndexOutOfBoundsException"]
def zNcs : List (String × String) := [("java/lang/IllegalStateException", "java/lang/IllegalArgumentException"), ("java/lang/IllegalArgumentException", "java/lang/IndexOutOfBoundsException")]
def zTx : List (Nat × String) := [(47, "density is 0 to 24, wanted is 0 to 10"), (58, "there are 8 zones"), (75, "no such zone"), (78, "wanted is 0 to 10"), (83, "a zone is not its own neighbour"), (93, "time is 1 to 2000"), (102, "time is 0 to 999"), (113, "grade is 0 to 5, speed is 10 to 999"), (128, "spill is 0 to 50"), (133, "code is 33 to 126"), (135, "the buffer has 60 characters"), (150, "the buffer is not a complete print"), (158, "there is no saved state"), (163, "what is 0 to 10"), (168, "tone is 1 to 10"), (173, "first is 1 to 999, times is 1 to 9, what is 0 to 3"), (179, "what is 0 to 11"), (184, "time is 1 to 2000, what is 0 or 1"), (202, "time is 0 to 999, what is 0 or 1"), (208, "what is 0 or 1")]
theorem zx_47 : ((47 : Nat), "density is 0 to 24, wanted is 0 to 10") ∈ zTx := List.mem_of_getElem? (i := 0) rfl
theorem zx_58 : ((58 : Nat), "there are 8 zones") ∈ zTx := List.mem_of_getElem? (i := 1) rfl
theorem zx_75 : ((75 : Nat), "no such zone") ∈ zTx := List.mem_of_getElem? (i := 2) rfl
theorem zx_78 : ((78 : Nat), "wanted is 0 to 10") ∈ zTx := List.mem_of_getElem? (i := 3) rfl
theorem zx_83 : ((83 : Nat), "a zone is not its own neighbour") ∈ zTx := List.mem_of_getElem? (i := 4) rfl
theorem zx_93 : ((93 : Nat), "time is 1 to 2000") ∈ zTx := List.mem_of_getElem? (i := 5) rfl
theorem zx_102 : ((102 : Nat), "time is 0 to 999") ∈ zTx := List.mem_of_getElem? (i := 6) rfl
theorem zx_113 : ((113 : Nat), "grade is 0 to 5, speed is 10 to 999") ∈ zTx := List.mem_of_getElem? (i := 7) rfl
theorem zx_128 : ((128 : Nat), "spill is 0 to 50") ∈ zTx := List.mem_of_getElem? (i := 8) rfl
theorem zx_133 : ((133 : Nat), "code is 33 to 126") ∈ zTx := List.mem_of_getElem? (i := 9) rfl
theorem zx_135 : ((135 : Nat), "the buffer has 60 characters") ∈ zTx := List.mem_of_getElem? (i := 10) rfl
theorem zx_150 : ((150 : Nat), "the buffer is not a complete print") ∈ zTx := List.mem_of_getElem? (i := 11) rfl
theorem zx_158 : ((158 : Nat), "there is no saved state") ∈ zTx := List.mem_of_getElem? (i := 12) rfl
theorem zx_163 : ((163 : Nat), "what is 0 to 10") ∈ zTx := List.mem_of_getElem? (i := 13) rfl
theorem zx_168 : ((168 : Nat), "tone is 1 to 10") ∈ zTx := List.mem_of_getElem? (i := 14) rfl
theorem zx_173 : ((173 : Nat), "first is 1 to 999, times is 1 to 9, what is 0 to 3") ∈ zTx := List.mem_of_getElem? (i := 15) rfl
theorem zx_179 : ((179 : Nat), "what is 0 to 11") ∈ zTx := List.mem_of_getElem? (i := 16) rfl
theorem zx_184 : ((184 : Nat), "time is 1 to 2000, what is 0 or 1") ∈ zTx := List.mem_of_getElem? (i := 17) rfl
theorem zx_202 : ((202 : Nat), "time is 0 to 999, what is 0 or 1") ∈ zTx := List.mem_of_getElem? (i := 18) rfl
theorem zx_208 : ((208 : Nat), "what is 0 or 1") ∈ zTx := List.mem_of_getElem? (i := 19) rfl
def zXl : List Cond := [Cond.castable "java/lang/IllegalArgumentException" "java/lang/IllegalArgumentException", Cond.castable "java/lang/IllegalStateException" "java/lang/IllegalStateException", Cond.castable "java/lang/IndexOutOfBoundsException" "java/lang/IndexOutOfBoundsException", Cond.declares (Bundle.initS "java/lang/RuntimeException"), Cond.declares (Bundle.initS "java/lang/Exception"), Cond.declares (Bundle.initS "java/lang/Throwable")]
theorem zXl_on : ∀ w ∈ zXl, w.onTables = true := by decide +kernel
theorem zXl_in : ∀ w ∈ zXl, w ∈ lw_tbl := by decide +kernel
theorem zXl_warm {s U : State} (hW : s.WarmedH U.vm) (h : ∀ w ∈ zXl, va_Nw w s) : ∀ w ∈ zXl, va_Nw w U := by
  intro w hw
  have h1 := h w hw
  unfold zXl at hw
  simp only [List.mem_cons, List.not_mem_nil, or_false] at hw
  rcases hw with rfl | rfl | rfl | rfl | rfl | rfl <;> first | exact va_Nw.warmC hW h1 | exact va_Nw.warmD hW h1
def zXw (G : zG) (U : State) : Prop := (∀ w ∈ zXl, va_Nw w U) ∧ (∀ q ∈ zTx, ∃ a : Nat, vk_R RX4 q.1 q.2 a U) ∧ (vx_Zq Bundle.tN "UNASSIGNED_STACK" Bundle.steD (zA G) U U.heap ∧ vx_Zq Bundle.tN "SUPPRESSED_SENTINEL" Bundle.listD (zA G) U U.heap) ∧ (∀ q ∈ zNcs, va_Nc q.1 q.2 U)
theorem zXw.same {G : zG} {s U : State} (hv : U.vm = s.vm) (hh : U.heap = s.heap) (ha : s.vm.Alike U.vm) (h : zXw G s) : zXw G U :=
  ⟨fun w hw => va_Nw.same (zXl_on w hw) hv.symm (h.1 w hw), fun q hq => (h.2.1 q hq).elim fun a h9 => ⟨a, vk_R.same hv h9⟩, ⟨by rw [hh]; exact vx_Zq.moved ha h.2.2.1.1, by rw [hh]; exact vx_Zq.moved ha h.2.2.1.2⟩, fun q hq => va_Nc.moved ha (h.2.2.2 q hq)⟩
theorem zXw.go {G : zG} {s U : State} {H : Heap} {locs : List Loc} (h : zXw G s) (hS : va_S (zA G) s.heap H locs) (hU : U.heap = H) (hW : s.WarmedH U.vm) : zXw G U :=
  ⟨zXl_warm hW h.1, fun q hq => (h.2.1 q hq).elim fun a h9 => ⟨a, vk_R.warm hW h9⟩, ⟨by rw [hU]; exact (vx_Zq.moved hW.alike h.2.2.1.1).kept hS.2.1, by rw [hU]; exact (vx_Zq.moved hW.alike h.2.2.1.2).kept hS.2.1⟩, fun q hq => va_Nc.moved hW.alike (h.2.2.2 q hq)⟩
abbrev zBX (G : zG) (S : zM) (U : State) : Prop := zB G S U ∧ zXw G U
theorem zBX.blind (G : zG) (S : zM) (avs : List Value) : FrameBlind (va_Pc avs (zBX G S)) := by
  intro a U g mk q
  exact ⟨q.1, (zB.blind G S avs a U g mk ⟨q.1, q.2.1⟩).2, zXw.same (s := U) (U := U.calling g mk a) rfl rfl (Vm.Alike.refl U.vm) q.2.2⟩
def zBE (G : zG) (f : String → Prop) : String → zM → State → Prop := fun E u t => f E ∧ va_P (zD G) vwCl (zw G u) t.heap
abbrev zXC (G : zG) (px : zM → Prop) (f : String → Prop) : String → State → State → Prop := vx_X px (zBE G f) (zA G)
def zAtm (E : String) (ic : Nat) : Prop := Bundle.fit E = true ∧ (∀ n ∈ zNm, Bundle.fit n = true) ∧ (∀ w ∈ (vx_atS RX4 ic E zNm).filter goodWord, w ∈ lw_tbl) ∧ (∀ w ∈ (vx_atS RX4 ic E zNm).filter (fun w => !goodWord w), w ∈ zXl) ∧ (∀ w ∈ vx_atS RX4 ic E zNm, vx_ot w = true) ∧ E ∈ zEs
theorem zat_IllegalArgumentException : zAtm "java/lang/IllegalArgumentException" 49 := ⟨by decide +kernel, by decide +kernel, by decide +kernel, by decide +kernel, by decide +kernel, by decide +kernel⟩
theorem zat_IllegalStateException : zAtm "java/lang/IllegalStateException" 60 := ⟨by decide +kernel, by decide +kernel, by decide +kernel, by decide +kernel, by decide +kernel, by decide +kernel⟩
theorem zat_IndexOutOfBoundsException : zAtm "java/lang/IndexOutOfBoundsException" 77 := ⟨by decide +kernel, by decide +kernel, by decide +kernel, by decide +kernel, by decide +kernel, by decide +kernel⟩
section ZX
variable {p : Program} {l : Launch} {e : Env} {R : Room} {s : State} {m : MethodId} {args : Array Value} {below : List Frame} {meth : Method} {c : Code} {H : Heap} {locs : List Loc} {cells slots : Nat} {Q : State → Prop} {cc : ByteArray} {pc : Nat} {ls : Array Slot} {rest : List Value} {nL : Nat} {own : String} {G : zG} {S : zM}
theorem zXMet {y : MethodName} {rm : Room} {Qc : Array Value → State → Outcome → State → Prop} {XC : String → State → State → Prop} {maxL : Nat} {ret : Option FieldType} {avs : List Value} (lv : List (Nat × Value)) (hG : zok G) (hy : plainName y.cls = true) (hlen : (lg_sl avs).length ≤ maxL) (hlv : lv_args 0 avs = lv)
    (body : ∀ (p : Program) (e : Env) (s : State) (m : MethodId) (args : Array Value) (below : List Frame) (meth : Method) (c : Code) (ls : Array Slot), zE p s m args meth c cc maxL y.cls G → zXw G s → (∀ x ∈ c.exceptionTable.toList, False) → p.tables.exec = Jvm.exec → c.code = cc → meth.sig.returnType = ret → zH G S s s.heap [] → lv_has ls maxL lv → W p l e rm s m args below meth c s.heap [] 0 0 (vx_MQ below Qc XC args s 1 6 (zA G)) (F0 m 0 ls [])) :
    vx_Met l y (Cond.code y cc maxL ret :: zTbl) rm (va_Pc avs (zBX G S)) Qc XC 1 6 (zA G) := by
  refine vx_ofW (cc := cc) (maxL := maxL) (ret := ret) hy rfl ?_
  intro p e s m args below meth c s₁ B hml hT hv
  obtain ⟨rfl, ⟨hP, hU⟩, hX⟩ := hv
  have hts := atoms_spec (ws := Cond.code y cc maxL ret :: zTbl) B.pre
  rw [lg_entry_eq]
  refine body p e s m _ below meth c _ ⟨B.exec, B.bytes, hml, findClass_of_methodNamed B.named, fun w hw => hts w (List.mem_cons_of_mem _ hw), B.notSynchronized, hU, hG⟩ hX hT B.exec B.bytes B.returns ⟨hP, va_S.rf⟩ ?_
  rw [← hlv]
  exact lv_entry avs hlen
theorem zXMetH {y : MethodName} {rm : Room} {Qc : Array Value → State → Outcome → State → Prop} {XC : String → State → State → Prop} {maxL : Nat} {ret : Option FieldType} {avs : List Value} {hh : List (Nat × Nat × Nat × Nat)} (lv : List (Nat × Value)) (hG : zok G) (hy : plainName y.cls = true) (hlen : (lg_sl avs).length ≤ maxL) (hlv : lv_args 0 avs = lv)
    (body : ∀ (p : Program) (e : Env) (s : State) (m : MethodId) (args : Array Value) (below : List Frame) (meth : Method) (c : Code) (ls : Array Slot), zE p s m args meth c cc maxL y.cls G → zXw G s → c.exceptionTable.toList = tableOf hh → p.tables.exec = Jvm.exec → c.code = cc → meth.sig.returnType = ret → zH G S s s.heap [] → lv_has ls maxL lv → W p l e rm s m args below meth c s.heap [] 0 0 (vx_MQ below Qc XC args s 1 6 (zA G)) (F0 m 0 ls [])) :
    vx_Met l y (Cond.codeWith y cc maxL ret hh :: zTbl) rm (va_Pc avs (zBX G S)) Qc XC 1 6 (zA G) := by
  refine vx_ofWH (cc := cc) (maxL := maxL) (ret := ret) (hh := hh) hy rfl ?_
  intro p e s m args below meth c s₁ B hml hv
  obtain ⟨rfl, ⟨hP, hU⟩, hX⟩ := hv
  have hts := atoms_spec (ws := Cond.codeWith y cc maxL ret hh :: zTbl) B.pre
  have hT : c.exceptionTable.toList = tableOf hh := vx_table (x := y) B (hts _ List.mem_cons_self)
  rw [lg_entry_eq]
  refine body p e s m _ below meth c _ ⟨B.exec, B.bytes, hml, findClass_of_methodNamed B.named, fun w hw => hts w (List.mem_cons_of_mem _ hw), B.notSynchronized, hU, hG⟩ hX hT B.exec B.bytes B.returns ⟨hP, va_S.rf⟩ ?_
  rw [← hlv]
  exact lv_entry avs hlen
/-- throw new E(text) -/
theorem zthr (h : zE p s m args meth c cc nL RX4 G) (hX : zXw G s) (hT : ∀ x ∈ c.exceptionTable.toList, False) (hl : l.stackTraces = false) (hH : zH G S s H locs) (hls : ls.size = nL) {px : zM → Prop} {f : String → Prop} {Qc : Array Value → State → Outcome → State → Prop} {ik is ic : Nat} {E text : String} (hq : (is, text) ∈ zTx) (hcl : Cond.classLink RX4 ik E ∈ zTbl) (hini : Cond.initialized E ∈ zTbl) (hat : zAtm E ic) (hp : px S) (hf : f E)
    (d0 : decode cc pc = .ok (.new ik, 3)) (d3 : decode cc (pc + 3) = .ok (.dup, 1)) (d4 : decode cc (pc + 4) = .ok (.ldc is, 2)) (d6 : decode cc (pc + 6) = .ok (.invokespecial ic, 3)) (d9 : decode cc (pc + 9) = .ok (.athrow, 1)) (hR : 5 < R.frames ∧ 82 ≤ R.locals ∧ 1 ≤ R.cells ∧ 6 ≤ R.slots) :
    W p l e R s m args below meth c H locs 0 0 (vx_MQ below Qc (zXC G px f) args s 1 6 (zA G)) (F0 m pc ls []) := by
  obtain ⟨sa, hstr⟩ := hX.2.1 _ hq
  obtain ⟨a1, a2, a3, a4, a5, a6⟩ := hat
  have hw : ∀ w ∈ vx_atS RX4 ic E zNm, w.before args s = true := vx_hat (B := zXl) (fun w h9 => h.2.2.2.2.1 _ (List.mem_filter.mpr ⟨a3 w h9, (List.mem_filter.mp h9).2⟩)) a4 (fun w h9 => va_Nw.use (zXl_on w h9) (hX.1 w h9))
  refine vx_throwS (own := RX4) (cls := E) (text := text) (names := zNm) (sa := sa) (A := zA G) h.1 h.2.1 hl h.2.2.2.1 a1 a2 (h.2.2.2.2.1 _ hcl) (h.2.2.2.2.1 _ hini) hstr hw (fun w h9 => ?_) hX.2.2.1.1 hX.2.2.1.2 hH.2 (hls.trans h.2.2.1.symm) d0 d3 d4 d6 d9 (fun x hx => (hT x hx).elim) hR.1 hR.2.1 hR.2.2.1 hR.2.2.2 h.2.2.2.2.2.1 (fun t ha hz hk => ⟨S, hp, ⟨hf, va_P.kept hH.1 (fun k q hk9 => hk _ (va_at.lt (hH.1 k q hk9)))⟩, Nat.le_trans hH.2.1 hz, fun q h1 h2 => (hk q (Nat.lt_of_lt_of_le h1 hH.2.1)).trans (hH.2.2.1 q h1 h2)⟩) hH.2.2.2 (Nat.le_refl _) (Nat.le_refl _)
  rcases List.mem_cons.mp h9 with rfl | h9
  · rfl
  · rcases List.mem_cons.mp h9 with rfl | h9
    · rfl
    · exact a5 w h9
/-- a call of a method that may throw -/
theorem zcXV (h : zE p s m args meth c cc nL own G) (hX : zXw G s) (hH : zH G S s H locs) {y : MethodName} {bytes : ByteArray} {maxL n index : Nat} {ret : Option FieldType} {rm : Room} {px : zM → Prop} {f : String → Prop} {post : Int32 → zM → Prop} {As : List Value} {st0 : List Value} {b : Nat} (hr : ∃ cell : Cell, H[b]? = some cell ∧ cell.vm.isStatics = false ∧ s.vm.findClass y.cls = some cell.cls) (hM : vx_Met l y (Cond.code y bytes maxL ret :: zTbl) rm (va_Pc (.ref b :: As) (zBX G S)) (va_Qi post (zB G) (zA G)) (zXC G px f) 1 6 (zA G)) (hc : zCe y bytes maxL ret n) (hv : zCv y) (hl : Cond.methodLink own index y ∈ zTbl) (hls : ls.size = nL) (hst : st0 = As.reverse ++ .ref b :: rest) (hn : As.length = n) (h0 : rm.cells = 1 ∧ rm.slots = 6) (hR : rm.frames + 1 ≤ R.frames ∧ 8 + (maxL + 11) + rm.locals ≤ R.locals) (hW : (rest.map fun v => v.category).sum ≤ 8) (hcs : cells + 1 ≤ R.cells ∧ slots + 6 ≤ R.slots) (hdg : decode cc pc = .ok (.invokevirtual index, 3))
    (kx : ∀ (E : String) (ce : Cell) (q9 : Addr) (S1 : zM) (H1 : Heap) (locs1 : List Loc), px S1 → f E → zH G S1 s H1 locs1 → H1[q9]? = some ce → ce.vm = .none → s.vm.findClass E = some ce.cls → vx_W p l e R s m args below meth c H1 locs1 (cells + 1) (slots + 6) Q (F0 m pc ls rest) q9)
    (k : ∀ (r : Int32) (S1 : zM) (H1 : Heap) (locs1 : List Loc), post r S1 → zH G S1 s H1 locs1 → W p l e R s m args below meth c H1 locs1 (cells + 1) (slots + 6) Q (F0 m (pc + 3) ls (.int r :: rest))) : W p l e R s m args below meth c H locs cells slots Q (F0 m pc ls st0) := by
  subst hst
  have hd : ∀ sig, parseMethodDescriptor y.desc = some sig → n = sig.parameters.length := by
    intro sig hs
    have h2 := hc.2.2.2
    rw [hs] at h2
    exact (Option.some.inj h2).symm
  have hw : ∀ w ∈ (Cond.code y bytes maxL ret :: zTbl), ∀ (a' : Array Value) (U : State), s.WarmedH U.vm → w.before a' U = true := by
    intro w hw a' U hW
    rcases List.mem_cons.mp hw with rfl | hw
    · exact word_at hW (good_of_word (zTbl_good _ hc.1)) (h.2.2.2.2.1 _ hc.1)
    · exact word_at hW (good_of_word (zTbl_good _ hw)) (h.2.2.2.2.1 _ hw)
  have cb : CallB R s args own index y bytes maxL ret (Cond.code y bytes maxL ret :: zTbl) rm 1 6 n := ⟨h0.1, h0.2, hR.1, hR.2, hw, List.mem_cons_self, h.2.2.2.2.1 _ hc.1, h.2.2.2.2.1 _ hc.2.1, hc.2.2.1, hd, h.2.2.2.2.1 _ hl⟩
  refine vx_calli (vx_runV (As := As) (rest := rest) ⟨h.1, h.2.1, h.2.2.1, h.2.2.2.1, h.2.2.2.2.1⟩ hM ⟨cb, h.2.2.2.2.1 _ hv.1, h.2.2.2.2.1 _ hv.2⟩ ⟨zBX.blind G S _, hr, fun U hU hW => ⟨rfl, zB.go h.2.2.2.2.2.2.1 hH hU hW, hX.go hH.2 hU hW⟩⟩ rfl hn hls rfl (lv_room hW) hdg ⟨hcs.1, hcs.2⟩) hH.2 (fun q _ h => h) (fun q h => h) (fun q _ h => h) (fun E ce q9 u t H1 locs1 ht hvm hp hB hz1 hk1 hS h1 h2 h3 => ?_) (fun r u t H1 locs1 ht hvm hw hB hz1 hk1 hS => ?_)
  · exact kx E ce q9 u H1 locs1 hp hB.1 ⟨by rw [← ht]; exact hB.2, hS⟩ h1 h2 h3
  · exact k r u H1 locs1 hw ⟨by rw [← ht]; exact hB.1, hS⟩
/-- a call of one of the law's callers -/
theorem zcXS (h : zE p s m args meth c cc nL own G) (hX : zXw G s) (hH : zH G S s H locs) {y : MethodName} {bytes : ByteArray} {maxL n index : Nat} {ret : Option FieldType} {hh : List (Nat × Nat × Nat × Nat)} {rm : Room} {post : Int32 → zM → Prop} {As : List Value} {st0 : List Value} (hM : vx_Met l y (Cond.codeWith y bytes maxL ret hh :: zTbl) rm (va_Pc As (zBX G S)) (va_Qi post (zB G) (zA G)) (zXC G (fun _ => False) (fun _ => False)) 1 6 (zA G)) (hc : Cond.codeWith y bytes maxL ret hh ∈ zTbl) (hi : Cond.initialized y.cls ∈ zTbl) (hy : y.cls ≠ "java/lang/invoke/MethodHandle" ∧ y.cls ≠ "java/lang/invoke/VarHandle") (hnp : (parseMethodDescriptor y.desc).map (fun d => d.parameters.length) = some n) (hv : Cond.static y ∈ zTbl) (hl : Cond.methodLink own index y ∈ zTbl) (hls : ls.size = nL) (hst : st0 = As.reverse ++ rest) (hn : As.length = n) (h0 : rm.cells = 1 ∧ rm.slots = 6) (hR : rm.frames + 1 ≤ R.frames ∧ 8 + (maxL + 11) + rm.locals ≤ R.locals) (hW : (rest.map fun v => v.category).sum ≤ 8) (hcs : cells + 1 ≤ R.cells ∧ slots + 6 ≤ R.slots) (hdg : decode cc pc = .ok (.invokestatic index, 3))
    (k : ∀ (r : Int32) (S1 : zM) (H1 : Heap) (locs1 : List Loc), post r S1 → zH G S1 s H1 locs1 → W p l e R s m args below meth c H1 locs1 (cells + 1) (slots + 6) Q (F0 m (pc + 3) ls (.int r :: rest))) : W p l e R s m args below meth c H locs cells slots Q (F0 m pc ls st0) := by
  subst hst
  have hd : ∀ sig, parseMethodDescriptor y.desc = some sig → n = sig.parameters.length := by
    intro sig hs
    rw [hs] at hnp
    exact (Option.some.inj hnp).symm
  have hw : ∀ w ∈ (Cond.codeWith y bytes maxL ret hh :: zTbl), ∀ (a' : Array Value) (U : State), s.WarmedH U.vm → w.before a' U = true := by
    intro w hw a' U hW
    rcases List.mem_cons.mp hw with rfl | hw
    · exact word_at hW (good_of_word (zTbl_good _ hc)) (h.2.2.2.2.1 _ hc)
    · exact word_at hW (good_of_word (zTbl_good _ hw)) (h.2.2.2.2.1 _ hw)
  have cb : vx_CSW R s args own index y bytes maxL ret hh (Cond.codeWith y bytes maxL ret hh :: zTbl) rm 1 6 n := ⟨⟨h0.1, h0.2, hR.1, hR.2, hw, List.mem_cons_self⟩, h.2.2.2.2.1 _ hc, h.2.2.2.2.1 _ hi, hy, hd, h.2.2.2.2.1 _ hl, h.2.2.2.2.1 _ hv⟩
  refine vx_calli (vx_runSX (As := As) (rest := rest) ⟨h.1, h.2.1, h.2.2.1, h.2.2.2.1, h.2.2.2.2.1⟩ hM cb ⟨zBX.blind G S _, fun U hU hW => ⟨rfl, zB.go h.2.2.2.2.2.2.1 hH hU hW, hX.go hH.2 hU hW⟩⟩ rfl hn hls rfl (lv_room hW) hdg ⟨hcs.1, hcs.2⟩) hH.2 (fun q _ h => h) (fun q h => h) (fun q _ h => h) (fun E ce q9 u t H1 locs1 ht hvm hp hB hz1 hk1 hS h1 h2 h3 => hp.elim) (fun r u t H1 locs1 ht hvm hw hB hz1 hk1 hS => ?_)
  exact k r u H1 locs1 hw ⟨by rw [← ht]; exact hB.1, hS⟩
/-- caught: by the first row of the table, or by the second -/
theorem zct1 (h : zE p s m args meth c cc nL own G) (hX : zXw G s) {E : String} {ce : Cell} {q : Addr} (x : ExceptionTableEntry) (suf : List ExceptionTableEntry) (hT : c.exceptionTable.toList = x :: suf) (hx : covers x pc = true) (h0 : x.catchType ≠ 0) (hl : Cond.classLink own x.catchType E ∈ zTbl) (hE : Cond.castable E E ∈ zXl) (hcell : H[q]? = some ce) (hv : ce.vm = .none) (hcl : s.vm.findClass E = some ce.cls)
    (kk : W p l e R s m args below meth c H locs cells slots Q (F0 m x.handlerPc ls [.ref q])) : vx_W p l e R s m args below meth c H locs cells slots Q (F0 m pc ls rest) q :=
  vx_catch h.2.2.2.1 [] x suf hT (fun z hz => nomatch hz) hx h0 (h.2.2.2.2.1 _ hl) (va_Nw.use rfl (hX.1 _ hE)) hcell hv hcl kk
theorem zct2 (h : zE p s m args meth c cc nL own G) (hX : zXw G s) {E N : String} {ce : Cell} {q : Addr} (x0 x : ExceptionTableEntry) (suf : List ExceptionTableEntry) (hT : c.exceptionTable.toList = x0 :: x :: suf) (hx00 : x0.catchType ≠ 0) (hl0 : Cond.classLink own x0.catchType N ∈ zTbl) (hN : (E, N) ∈ zNcs) (hx : covers x pc = true) (h0 : x.catchType ≠ 0) (hl : Cond.classLink own x.catchType E ∈ zTbl) (hE : Cond.castable E E ∈ zXl) (hcell : H[q]? = some ce) (hv : ce.vm = .none) (hcl : s.vm.findClass E = some ce.cls)
    (kk : W p l e R s m args below meth c H locs cells slots Q (F0 m x.handlerPc ls [.ref q])) : vx_W p l e R s m args below meth c H locs cells slots Q (F0 m pc ls rest) q :=
  vx_catch h.2.2.2.1 [x0] x suf hT (fun z hz => by
    rcases List.mem_cons.mp hz with rfl | hz
    · exact Or.inr ⟨hx00, N, h.2.2.2.2.1 _ hl0, hX.2.2.2 _ hN⟩
    · exact nomatch hz) hx h0 (h.2.2.2.2.1 _ hl) (va_Nw.use rfl (hX.1 _ hE)) hcell hv hcl kk
/-- the ordinary end of a method that may throw -/
theorem zXret {Qc : Array Value → State → Outcome → State → Prop} {XC : String → State → State → Prop} {g : JFrame} (k : W p l e R s m args below meth c H locs 1 6 (MQ below Qc args s 1 6 (zA G)) g) : W p l e R s m args below meth c H locs 0 0 (vx_MQ below Qc XC args s 1 6 (zA G)) g := vx_ret (W.widen (Nat.zero_le _) (Nat.zero_le _) k)
end ZX
