section ZC
variable {p : Program} {l : Launch} {e : Env} {R : Room} {s : State} {m : MethodId} {args : Array Value} {below : List Frame} {meth : Method} {c : Code} {H : Heap} {locs : List Loc} {cells slots : Nat} {Q : State → Prop} {cc : ByteArray} {pc : Nat} {ls : Array Slot} {rest : List Value} {nL : Nat} {own : String} {G : zG} {S : zM}
def zCe (y : MethodName) (bytes : ByteArray) (maxL : Nat) (ret : Option FieldType) (n : Nat) : Prop := Cond.code y bytes maxL ret ∈ zTbl ∧ Cond.initialized y.cls ∈ zTbl ∧ (y.cls ≠ "java/lang/invoke/MethodHandle" ∧ y.cls ≠ "java/lang/invoke/VarHandle") ∧ (parseMethodDescriptor y.desc).map (fun d => d.parameters.length) = some n
def zCv (y : MethodName) : Prop := Cond.instanceMethod y ∈ zTbl ∧ Cond.selects y.cls y y ∈ zTbl
theorem zCB (h : zE p s m args meth c cc nL own G) {y : MethodName} {bytes : ByteArray} {maxL n index : Nat} {ret : Option FieldType} {rm : Room} (hc : zCe y bytes maxL ret n) (hl : Cond.methodLink own index y ∈ zTbl) (h0 : rm.cells = 0 ∧ rm.slots = 0) (hR : rm.frames + 1 ≤ R.frames ∧ 8 + (maxL + 11) + rm.locals ≤ R.locals) : CallB R s args own index y bytes maxL ret (Cond.code y bytes maxL ret :: zTbl) rm 0 0 n := by
  refine ⟨h0.1, h0.2, hR.1, hR.2, ?_, List.mem_cons_self, h.2.2.2.2.1 _ hc.1, h.2.2.2.2.1 _ hc.2.1, hc.2.2.1, ?_, h.2.2.2.2.1 _ hl⟩
  · intro w hw a' U hW
    rcases List.mem_cons.mp hw with rfl | hw
    · exact word_at hW (good_of_word (zTbl_good _ hc.1)) (h.2.2.2.2.1 _ hc.1)
    · exact word_at hW (good_of_word (zTbl_good _ hw)) (h.2.2.2.2.1 _ hw)
  · intro sig hs
    have h2 := hc.2.2.2
    rw [hs] at h2
    exact (Option.some.inj h2).symm
theorem zMet {y : MethodName} {rm : Room} {Qc : Array Value → State → Outcome → State → Prop} {maxL mc ms : Nat} {ret : Option FieldType} {avs : List Value} (lv : List (Nat × Value)) (hG : zok G) (hy : plainName y.cls = true) (hlen : (lg_sl avs).length ≤ maxL) (hlv : lv_args 0 avs = lv)
    (body : ∀ (p : Program) (e : Env) (s : State) (m : MethodId) (args : Array Value) (below : List Frame) (meth : Method) (c : Code) (ls : Array Slot), zE p s m args meth c cc maxL y.cls G → p.tables.exec = Jvm.exec → c.code = cc → meth.sig.returnType = ret → zH G S s s.heap [] → lv_has ls maxL lv → W p l e rm s m args below meth c s.heap [] 0 0 (MQ below Qc args s mc ms (zA G)) (F0 m 0 ls [])) :
    Met l y (Cond.code y cc maxL ret :: zTbl) rm (va_Pc avs (zB G S)) Qc mc ms (zA G) := by
  refine Met.ofW (cc := cc) (maxL := maxL) (ret := ret) hy rfl ?_
  intro p e s m args below meth c s₁ B hml hv
  obtain ⟨rfl, hP, hU⟩ := hv
  have hts := atoms_spec (ws := Cond.code y cc maxL ret :: zTbl) B.pre
  rw [lg_entry_eq]
  refine body p e s m _ below meth c _ ⟨B.exec, B.bytes, hml, findClass_of_methodNamed B.named, fun w hw => hts w (List.mem_cons_of_mem _ hw), B.notSynchronized, hU, hG⟩ B.exec B.bytes B.returns ⟨hP, va_S.rf⟩ ?_
  rw [← hlv]
  exact lv_entry avs hlen
theorem zcVi (h : zE p s m args meth c cc nL own G) (hH : zH G S s H locs) {y : MethodName} {bytes : ByteArray} {maxL n index : Nat} {ret : Option FieldType} {rm : Room} {post : Int32 → zM → Prop} {As : List Value} {st0 : List Value} {b : Nat} (hr : ∃ cell : Cell, H[b]? = some cell ∧ cell.vm.isStatics = false ∧ s.vm.findClass y.cls = some cell.cls) (hM : Met l y (Cond.code y bytes maxL ret :: zTbl) rm (va_Pc (.ref b :: As) (zB G S)) (va_Qi post (zB G) (zA G)) 0 0 (zA G)) (hc : zCe y bytes maxL ret n) (hv : zCv y) (hl : Cond.methodLink own index y ∈ zTbl) (hls : ls.size = nL) (hst : st0 = As.reverse ++ .ref b :: rest) (hn : As.length = n) (h0 : rm.cells = 0 ∧ rm.slots = 0) (hR : rm.frames + 1 ≤ R.frames ∧ 8 + (maxL + 11) + rm.locals ≤ R.locals) (hW : (rest.map fun v => v.category).sum ≤ 8) (hcs : cells ≤ R.cells ∧ slots ≤ R.slots) (hdg : decode cc pc = .ok (.invokevirtual index, 3))
    (k : ∀ (r : Int32) (S1 : zM) (H1 : Heap) (locs1 : List Loc), post r S1 → zH G S1 s H1 locs1 → W p l e R s m args below meth c H1 locs1 cells slots Q (F0 m (pc + 3) ls (.int r :: rest))) : W p l e R s m args below meth c H locs cells slots Q (F0 m pc ls st0) := by
  subst hst
  refine va_calli (va_runV (As := As) (rest := rest) ⟨h.1, h.2.1, h.2.2.1, h.2.2.2.1, h.2.2.2.2.1⟩ hM ⟨zCB h hc hl h0 hR, h.2.2.2.2.1 _ hv.1, h.2.2.2.2.1 _ hv.2⟩ ⟨zB.blind G S _, hr, fun U hU hW => ⟨rfl, zB.go h.2.2.2.2.2.2.1 hH hU hW⟩⟩ rfl hn hls rfl (lv_room hW) hdg ⟨hcs.1, hcs.2⟩) hH.2 (fun q _ h => h) (fun q h => h) (fun r u t H1 locs1 ht hvm hw hB hz1 hk1 hS => ?_)
  exact k r u H1 locs1 hw ⟨by rw [← ht]; exact hB.1, hS⟩
theorem zcSi (h : zE p s m args meth c cc nL own G) (hH : zH G S s H locs) {y : MethodName} {bytes : ByteArray} {maxL n index : Nat} {ret : Option FieldType} {rm : Room} {post : Int32 → zM → Prop} {As : List Value} {st0 : List Value}  (hM : Met l y (Cond.code y bytes maxL ret :: zTbl) rm (va_Pc As (zB G S)) (va_Qi post (zB G) (zA G)) 0 0 (zA G)) (hc : zCe y bytes maxL ret n) (hv : Cond.static y ∈ zTbl) (hl : Cond.methodLink own index y ∈ zTbl) (hls : ls.size = nL) (hst : st0 = As.reverse ++ rest) (hn : As.length = n) (h0 : rm.cells = 0 ∧ rm.slots = 0) (hR : rm.frames + 1 ≤ R.frames ∧ 8 + (maxL + 11) + rm.locals ≤ R.locals) (hW : (rest.map fun v => v.category).sum ≤ 8) (hcs : cells ≤ R.cells ∧ slots ≤ R.slots) (hdg : decode cc pc = .ok (.invokestatic index, 3))
    (k : ∀ (r : Int32) (S1 : zM) (H1 : Heap) (locs1 : List Loc), post r S1 → zH G S1 s H1 locs1 → W p l e R s m args below meth c H1 locs1 cells slots Q (F0 m (pc + 3) ls (.int r :: rest))) : W p l e R s m args below meth c H locs cells slots Q (F0 m pc ls st0) := by
  subst hst
  refine va_calli (va_runS (As := As) (rest := rest) ⟨h.1, h.2.1, h.2.2.1, h.2.2.2.1, h.2.2.2.2.1⟩ hM ⟨zCB h hc hl h0 hR, h.2.2.2.2.1 _ hv⟩ ⟨zB.blind G S _, fun U hU hW => ⟨rfl, zB.go h.2.2.2.2.2.2.1 hH hU hW⟩⟩ rfl hn hls rfl (lv_room hW) hdg ⟨hcs.1, hcs.2⟩) hH.2 (fun q _ h => h) (fun q h => h) (fun r u t H1 locs1 ht hvm hw hB hz1 hk1 hS => ?_)
  exact k r u H1 locs1 hw ⟨by rw [← ht]; exact hB.1, hS⟩
theorem zcVl (h : zE p s m args meth c cc nL own G) (hH : zH G S s H locs) {y : MethodName} {bytes : ByteArray} {maxL n index : Nat} {ret : Option FieldType} {rm : Room} {post : Int64 → zM → Prop} {As : List Value} {st0 : List Value} {b : Nat} (hr : ∃ cell : Cell, H[b]? = some cell ∧ cell.vm.isStatics = false ∧ s.vm.findClass y.cls = some cell.cls) (hM : Met l y (Cond.code y bytes maxL ret :: zTbl) rm (va_Pc (.ref b :: As) (zB G S)) (va_Ql post (zB G) (zA G)) 0 0 (zA G)) (hc : zCe y bytes maxL ret n) (hv : zCv y) (hl : Cond.methodLink own index y ∈ zTbl) (hls : ls.size = nL) (hst : st0 = As.reverse ++ .ref b :: rest) (hn : As.length = n) (h0 : rm.cells = 0 ∧ rm.slots = 0) (hR : rm.frames + 1 ≤ R.frames ∧ 8 + (maxL + 11) + rm.locals ≤ R.locals) (hW : (rest.map fun v => v.category).sum ≤ 8) (hcs : cells ≤ R.cells ∧ slots ≤ R.slots) (hdg : decode cc pc = .ok (.invokevirtual index, 3))
    (k : ∀ (r : Int64) (S1 : zM) (H1 : Heap) (locs1 : List Loc), post r S1 → zH G S1 s H1 locs1 → W p l e R s m args below meth c H1 locs1 cells slots Q (F0 m (pc + 3) ls (.long r :: rest))) : W p l e R s m args below meth c H locs cells slots Q (F0 m pc ls st0) := by
  subst hst
  refine va_calll (va_runV (As := As) (rest := rest) ⟨h.1, h.2.1, h.2.2.1, h.2.2.2.1, h.2.2.2.2.1⟩ hM ⟨zCB h hc hl h0 hR, h.2.2.2.2.1 _ hv.1, h.2.2.2.2.1 _ hv.2⟩ ⟨zB.blind G S _, hr, fun U hU hW => ⟨rfl, zB.go h.2.2.2.2.2.2.1 hH hU hW⟩⟩ rfl hn hls rfl (lv_room hW) hdg ⟨hcs.1, hcs.2⟩) hH.2 (fun q _ h => h) (fun q h => h) (fun r u t H1 locs1 ht hvm hw hB hz1 hk1 hS => ?_)
  exact k r u H1 locs1 hw ⟨by rw [← ht]; exact hB.1, hS⟩
theorem zcSl (h : zE p s m args meth c cc nL own G) (hH : zH G S s H locs) {y : MethodName} {bytes : ByteArray} {maxL n index : Nat} {ret : Option FieldType} {rm : Room} {post : Int64 → zM → Prop} {As : List Value} {st0 : List Value}  (hM : Met l y (Cond.code y bytes maxL ret :: zTbl) rm (va_Pc As (zB G S)) (va_Ql post (zB G) (zA G)) 0 0 (zA G)) (hc : zCe y bytes maxL ret n) (hv : Cond.static y ∈ zTbl) (hl : Cond.methodLink own index y ∈ zTbl) (hls : ls.size = nL) (hst : st0 = As.reverse ++ rest) (hn : As.length = n) (h0 : rm.cells = 0 ∧ rm.slots = 0) (hR : rm.frames + 1 ≤ R.frames ∧ 8 + (maxL + 11) + rm.locals ≤ R.locals) (hW : (rest.map fun v => v.category).sum ≤ 8) (hcs : cells ≤ R.cells ∧ slots ≤ R.slots) (hdg : decode cc pc = .ok (.invokestatic index, 3))
    (k : ∀ (r : Int64) (S1 : zM) (H1 : Heap) (locs1 : List Loc), post r S1 → zH G S1 s H1 locs1 → W p l e R s m args below meth c H1 locs1 cells slots Q (F0 m (pc + 3) ls (.long r :: rest))) : W p l e R s m args below meth c H locs cells slots Q (F0 m pc ls st0) := by
  subst hst
  refine va_calll (va_runS (As := As) (rest := rest) ⟨h.1, h.2.1, h.2.2.1, h.2.2.2.1, h.2.2.2.2.1⟩ hM ⟨zCB h hc hl h0 hR, h.2.2.2.2.1 _ hv⟩ ⟨zB.blind G S _, fun U hU hW => ⟨rfl, zB.go h.2.2.2.2.2.2.1 hH hU hW⟩⟩ rfl hn hls rfl (lv_room hW) hdg ⟨hcs.1, hcs.2⟩) hH.2 (fun q _ h => h) (fun q h => h) (fun r u t H1 locs1 ht hvm hw hB hz1 hk1 hS => ?_)
  exact k r u H1 locs1 hw ⟨by rw [← ht]; exact hB.1, hS⟩
theorem zcVd (h : zE p s m args meth c cc nL own G) (hH : zH G S s H locs) {y : MethodName} {bytes : ByteArray} {maxL n index : Nat} {ret : Option FieldType} {rm : Room} {post : UInt64 → zM → Prop} {As : List Value} {st0 : List Value} {b : Nat} (hr : ∃ cell : Cell, H[b]? = some cell ∧ cell.vm.isStatics = false ∧ s.vm.findClass y.cls = some cell.cls) (hM : Met l y (Cond.code y bytes maxL ret :: zTbl) rm (va_Pc (.ref b :: As) (zB G S)) (va_Qd post (zB G) (zA G)) 0 0 (zA G)) (hc : zCe y bytes maxL ret n) (hv : zCv y) (hl : Cond.methodLink own index y ∈ zTbl) (hls : ls.size = nL) (hst : st0 = As.reverse ++ .ref b :: rest) (hn : As.length = n) (h0 : rm.cells = 0 ∧ rm.slots = 0) (hR : rm.frames + 1 ≤ R.frames ∧ 8 + (maxL + 11) + rm.locals ≤ R.locals) (hW : (rest.map fun v => v.category).sum ≤ 8) (hcs : cells ≤ R.cells ∧ slots ≤ R.slots) (hdg : decode cc pc = .ok (.invokevirtual index, 3))
    (k : ∀ (r : UInt64) (S1 : zM) (H1 : Heap) (locs1 : List Loc), post r S1 → zH G S1 s H1 locs1 → W p l e R s m args below meth c H1 locs1 cells slots Q (F0 m (pc + 3) ls (.double r :: rest))) : W p l e R s m args below meth c H locs cells slots Q (F0 m pc ls st0) := by
  subst hst
  refine va_calld (va_runV (As := As) (rest := rest) ⟨h.1, h.2.1, h.2.2.1, h.2.2.2.1, h.2.2.2.2.1⟩ hM ⟨zCB h hc hl h0 hR, h.2.2.2.2.1 _ hv.1, h.2.2.2.2.1 _ hv.2⟩ ⟨zB.blind G S _, hr, fun U hU hW => ⟨rfl, zB.go h.2.2.2.2.2.2.1 hH hU hW⟩⟩ rfl hn hls rfl (lv_room hW) hdg ⟨hcs.1, hcs.2⟩) hH.2 (fun q _ h => h) (fun q h => h) (fun r u t H1 locs1 ht hvm hw hB hz1 hk1 hS => ?_)
  exact k r u H1 locs1 hw ⟨by rw [← ht]; exact hB.1, hS⟩
theorem zcSd (h : zE p s m args meth c cc nL own G) (hH : zH G S s H locs) {y : MethodName} {bytes : ByteArray} {maxL n index : Nat} {ret : Option FieldType} {rm : Room} {post : UInt64 → zM → Prop} {As : List Value} {st0 : List Value}  (hM : Met l y (Cond.code y bytes maxL ret :: zTbl) rm (va_Pc As (zB G S)) (va_Qd post (zB G) (zA G)) 0 0 (zA G)) (hc : zCe y bytes maxL ret n) (hv : Cond.static y ∈ zTbl) (hl : Cond.methodLink own index y ∈ zTbl) (hls : ls.size = nL) (hst : st0 = As.reverse ++ rest) (hn : As.length = n) (h0 : rm.cells = 0 ∧ rm.slots = 0) (hR : rm.frames + 1 ≤ R.frames ∧ 8 + (maxL + 11) + rm.locals ≤ R.locals) (hW : (rest.map fun v => v.category).sum ≤ 8) (hcs : cells ≤ R.cells ∧ slots ≤ R.slots) (hdg : decode cc pc = .ok (.invokestatic index, 3))
    (k : ∀ (r : UInt64) (S1 : zM) (H1 : Heap) (locs1 : List Loc), post r S1 → zH G S1 s H1 locs1 → W p l e R s m args below meth c H1 locs1 cells slots Q (F0 m (pc + 3) ls (.double r :: rest))) : W p l e R s m args below meth c H locs cells slots Q (F0 m pc ls st0) := by
  subst hst
  refine va_calld (va_runS (As := As) (rest := rest) ⟨h.1, h.2.1, h.2.2.1, h.2.2.2.1, h.2.2.2.2.1⟩ hM ⟨zCB h hc hl h0 hR, h.2.2.2.2.1 _ hv⟩ ⟨zB.blind G S _, fun U hU hW => ⟨rfl, zB.go h.2.2.2.2.2.2.1 hH hU hW⟩⟩ rfl hn hls rfl (lv_room hW) hdg ⟨hcs.1, hcs.2⟩) hH.2 (fun q _ h => h) (fun q h => h) (fun r u t H1 locs1 ht hvm hw hB hz1 hk1 hS => ?_)
  exact k r u H1 locs1 hw ⟨by rw [← ht]; exact hB.1, hS⟩
theorem zcVv (h : zE p s m args meth c cc nL own G) (hH : zH G S s H locs) {y : MethodName} {bytes : ByteArray} {maxL n index : Nat} {ret : Option FieldType} {rm : Room} {post : zM → Prop} {As : List Value} {st0 : List Value} {b : Nat} (hr : ∃ cell : Cell, H[b]? = some cell ∧ cell.vm.isStatics = false ∧ s.vm.findClass y.cls = some cell.cls) (hM : Met l y (Cond.code y bytes maxL ret :: zTbl) rm (va_Pc (.ref b :: As) (zB G S)) (va_Qv post (zB G) (zA G)) 0 0 (zA G)) (hc : zCe y bytes maxL ret n) (hv : zCv y) (hl : Cond.methodLink own index y ∈ zTbl) (hls : ls.size = nL) (hst : st0 = As.reverse ++ .ref b :: rest) (hn : As.length = n) (h0 : rm.cells = 0 ∧ rm.slots = 0) (hR : rm.frames + 1 ≤ R.frames ∧ 8 + (maxL + 11) + rm.locals ≤ R.locals) (hW : (rest.map fun v => v.category).sum ≤ 8) (hcs : cells ≤ R.cells ∧ slots ≤ R.slots) (hdg : decode cc pc = .ok (.invokevirtual index, 3))
    (k : ∀ (S1 : zM) (H1 : Heap) (locs1 : List Loc), post S1 → zH G S1 s H1 locs1 → W p l e R s m args below meth c H1 locs1 cells slots Q (F0 m (pc + 3) ls ( rest))) : W p l e R s m args below meth c H locs cells slots Q (F0 m pc ls st0) := by
  subst hst
  refine va_callv (va_runV (As := As) (rest := rest) ⟨h.1, h.2.1, h.2.2.1, h.2.2.2.1, h.2.2.2.2.1⟩ hM ⟨zCB h hc hl h0 hR, h.2.2.2.2.1 _ hv.1, h.2.2.2.2.1 _ hv.2⟩ ⟨zB.blind G S _, hr, fun U hU hW => ⟨rfl, zB.go h.2.2.2.2.2.2.1 hH hU hW⟩⟩ rfl hn hls rfl (lv_room hW) hdg ⟨hcs.1, hcs.2⟩) hH.2 (fun q _ h => h) (fun q h => h) (fun u t H1 locs1 ht hvm hw hB hz1 hk1 hS => ?_)
  exact k u H1 locs1 hw ⟨by rw [← ht]; exact hB.1, hS⟩
theorem zcSv (h : zE p s m args meth c cc nL own G) (hH : zH G S s H locs) {y : MethodName} {bytes : ByteArray} {maxL n index : Nat} {ret : Option FieldType} {rm : Room} {post : zM → Prop} {As : List Value} {st0 : List Value}  (hM : Met l y (Cond.code y bytes maxL ret :: zTbl) rm (va_Pc As (zB G S)) (va_Qv post (zB G) (zA G)) 0 0 (zA G)) (hc : zCe y bytes maxL ret n) (hv : Cond.static y ∈ zTbl) (hl : Cond.methodLink own index y ∈ zTbl) (hls : ls.size = nL) (hst : st0 = As.reverse ++ rest) (hn : As.length = n) (h0 : rm.cells = 0 ∧ rm.slots = 0) (hR : rm.frames + 1 ≤ R.frames ∧ 8 + (maxL + 11) + rm.locals ≤ R.locals) (hW : (rest.map fun v => v.category).sum ≤ 8) (hcs : cells ≤ R.cells ∧ slots ≤ R.slots) (hdg : decode cc pc = .ok (.invokestatic index, 3))
    (k : ∀ (S1 : zM) (H1 : Heap) (locs1 : List Loc), post S1 → zH G S1 s H1 locs1 → W p l e R s m args below meth c H1 locs1 cells slots Q (F0 m (pc + 3) ls ( rest))) : W p l e R s m args below meth c H locs cells slots Q (F0 m pc ls st0) := by
  subst hst
  refine va_callv (va_runS (As := As) (rest := rest) ⟨h.1, h.2.1, h.2.2.1, h.2.2.2.1, h.2.2.2.2.1⟩ hM ⟨zCB h hc hl h0 hR, h.2.2.2.2.1 _ hv⟩ ⟨zB.blind G S _, fun U hU hW => ⟨rfl, zB.go h.2.2.2.2.2.2.1 hH hU hW⟩⟩ rfl hn hls rfl (lv_room hW) hdg ⟨hcs.1, hcs.2⟩) hH.2 (fun q _ h => h) (fun q h => h) (fun u t H1 locs1 ht hvm hw hB hz1 hk1 hS => ?_)
  exact k u H1 locs1 hw ⟨by rw [← ht]; exact hB.1, hS⟩
theorem zri (h : zE p s m args meth c cc nL own G) {post : Int32 → zM → Prop} (hr : meth.sig.returnType = some .int) (hH : zH G S s H locs) {x : Int32} (hp : post x S) (hdg : decode cc pc = .ok (.ireturn, 1)) : W p l e R s m args below meth c H locs cells slots (MQ below (va_Qi post (zB G) (zA G)) args s cells slots (zA G)) (F0 m pc ls [.int x]) :=
  W.iret (v := x) h.1 h.2.1 hr (fun t ht hW => ⟨⟨x, S, rfl, hp, zB.go h.2.2.2.2.2.2.1 hH ht hW⟩, hH.2.F ht⟩) hH.2.2.2 hdg h.2.2.2.2.2.1
theorem zrz (h : zE p s m args meth c cc nL own G) {post : Int32 → zM → Prop} (hr : meth.sig.returnType = some .boolean) (hH : zH G S s H locs) {x : Int} (hx : x = 0 ∨ x = 1) (hp : post (zI x) S) (hdg : decode cc pc = .ok (.ireturn, 1)) : W p l e R s m args below meth c H locs cells slots (MQ below (va_Qi post (zB G) (zA G)) args s cells slots (zA G)) (F0 m pc ls [.int (zI x)]) :=
  W.zret (v := zI x) h.1 h.2.1 hr (by rcases hx with rfl | rfl <;> rfl) (fun t ht hW => ⟨⟨zI x, S, rfl, hp, zB.go h.2.2.2.2.2.2.1 hH ht hW⟩, hH.2.F ht⟩) hH.2.2.2 hdg h.2.2.2.2.2.1
theorem zrl (h : zE p s m args meth c cc nL own G) {post : Int64 → zM → Prop} (hr : meth.sig.returnType = some .long) (hH : zH G S s H locs) {x : Int64} (hp : post x S) (hdg : decode cc pc = .ok (.lreturn, 1)) : W p l e R s m args below meth c H locs cells slots (MQ below (va_Ql post (zB G) (zA G)) args s cells slots (zA G)) (F0 m pc ls [.long x]) :=
  W.lret (v := x) h.1 h.2.1 hr (fun t ht hW => ⟨⟨x, S, rfl, hp, zB.go h.2.2.2.2.2.2.1 hH ht hW⟩, hH.2.F ht⟩) hH.2.2.2 hdg h.2.2.2.2.2.1
theorem zrd (h : zE p s m args meth c cc nL own G) {post : UInt64 → zM → Prop} (hr : meth.sig.returnType = some .double) (hH : zH G S s H locs) {x : UInt64} (hp : post x S) (hdg : decode cc pc = .ok (.dreturn, 1)) : W p l e R s m args below meth c H locs cells slots (MQ below (va_Qd post (zB G) (zA G)) args s cells slots (zA G)) (F0 m pc ls [.double x]) :=
  W.dret (v := x) h.1 h.2.1 hr (fun t ht hW => ⟨⟨x, S, rfl, hp, zB.go h.2.2.2.2.2.2.1 hH ht hW⟩, hH.2.F ht⟩) hH.2.2.2 hdg h.2.2.2.2.2.1
theorem zrv (h : zE p s m args meth c cc nL own G) {post : zM → Prop} (hr : meth.sig.returnType = none) (hH : zH G S s H locs) (hp : post S) (hdg : decode cc pc = .ok (.return_, 1)) : W p l e R s m args below meth c H locs cells slots (MQ below (va_Qv post (zB G) (zA G)) args s cells slots (zA G)) (F0 m pc ls []) :=
  W.vret h.1 h.2.1 hr (fun t ht hW => ⟨⟨S, rfl, hp, zB.go h.2.2.2.2.2.2.1 hH ht hW⟩, hH.2.F ht⟩) hH.2.2.2 hdg h.2.2.2.2.2.1
end ZC
theorem zce_X0_init : zCe yX0_init cX0_init 2 (none : Option FieldType) 0 := ⟨zc_X0_init, zn_X0, ⟨by decide, by decide⟩, by decide +kernel⟩
theorem zce_X0_size : zCe yX0_size cX0_size 1 (some FieldType.int) 0 := ⟨zc_X0_size, zn_X0, ⟨by decide, by decide⟩, by decide +kernel⟩
theorem zcv_X0_size : zCv yX0_size := ⟨zi_X0_size, zs_X0_size⟩
theorem zce_X0_keep : zCe yX0_keep cX0_keep 3 (none : Option FieldType) 1 := ⟨zc_X0_keep, zn_X0, ⟨by decide, by decide⟩, by decide +kernel⟩
theorem zcv_X0_keep : zCv yX0_keep := ⟨zi_X0_keep, zs_X0_keep⟩
theorem zce_X0_giveBack : zCe yX0_giveBack cX0_giveBack 3 (none : Option FieldType) 1 := ⟨zc_X0_giveBack, zn_X0, ⟨by decide, by decide⟩, by decide +kernel⟩
theorem zcv_X0_giveBack : zCv yX0_giveBack := ⟨zi_X0_giveBack, zs_X0_giveBack⟩
theorem zce_X1_init : zCe yX1_init cX1_init 1 (none : Option FieldType) 0 := ⟨zc_X1_init, zn_X1, ⟨by decide, by decide⟩, by decide +kernel⟩
theorem zce_X1_restart : zCe yX1_restart cX1_restart 1 (none : Option FieldType) 0 := ⟨zc_X1_restart, zn_X1, ⟨by decide, by decide⟩, by decide +kernel⟩
theorem zcv_X1_restart : zCv yX1_restart := ⟨zi_X1_restart, zs_X1_restart⟩
theorem zce_X1_endsAnOrder : zCe yX1_endsAnOrder cX1_endsAnOrder 1 (some FieldType.boolean) 0 := ⟨zc_X1_endsAnOrder, zn_X1, ⟨by decide, by decide⟩, by decide +kernel⟩
theorem zcv_X1_endsAnOrder : zCv yX1_endsAnOrder := ⟨zi_X1_endsAnOrder, zs_X1_endsAnOrder⟩
theorem zce_X1_accepts : zCe yX1_accepts cX1_accepts 2 (some FieldType.boolean) 1 := ⟨zc_X1_accepts, zn_X1, ⟨by decide, by decide⟩, by decide +kernel⟩
theorem zcv_X1_accepts : zCv yX1_accepts := ⟨zi_X1_accepts, zs_X1_accepts⟩
theorem zce_X1_acceptsLetter : zCe yX1_acceptsLetter cX1_acceptsLetter 2 (some FieldType.boolean) 1 := ⟨zc_X1_acceptsLetter, zn_X1, ⟨by decide, by decide⟩, by decide +kernel⟩
theorem zcv_X1_acceptsLetter : zCv yX1_acceptsLetter := ⟨zi_X1_acceptsLetter, zs_X1_acceptsLetter⟩
theorem zce_X1_acceptsFirst : zCe yX1_acceptsFirst cX1_acceptsFirst 3 (some FieldType.boolean) 1 := ⟨zc_X1_acceptsFirst, zn_X1, ⟨by decide, by decide⟩, by decide +kernel⟩
theorem zcv_X1_acceptsFirst : zCv yX1_acceptsFirst := ⟨zi_X1_acceptsFirst, zs_X1_acceptsFirst⟩
theorem zce_X1_acceptsLast : zCe yX1_acceptsLast cX1_acceptsLast 3 (some FieldType.boolean) 1 := ⟨zc_X1_acceptsLast, zn_X1, ⟨by decide, by decide⟩, by decide +kernel⟩
theorem zcv_X1_acceptsLast : zCv yX1_acceptsLast := ⟨zi_X1_acceptsLast, zs_X1_acceptsLast⟩
theorem zce_X1_withDigit : zCe yX1_withDigit cX1_withDigit 2 (some FieldType.int) 2 := ⟨zc_X1_withDigit, zn_X1, ⟨by decide, by decide⟩, by decide +kernel⟩
theorem zce_X1_separator : zCe yX1_separator cX1_separator 1 (some FieldType.int) 0 := ⟨zc_X1_separator, zn_X1, ⟨by decide, by decide⟩, by decide +kernel⟩
theorem zcv_X1_separator : zCv yX1_separator := ⟨zi_X1_separator, zs_X1_separator⟩
theorem zce_X1_mostFirst : zCe yX1_mostFirst cX1_mostFirst 1 (some FieldType.int) 0 := ⟨zc_X1_mostFirst, zn_X1, ⟨by decide, by decide⟩, by decide +kernel⟩
theorem zcv_X1_mostFirst : zCv yX1_mostFirst := ⟨zi_X1_mostFirst, zs_X1_mostFirst⟩
theorem zce_X1_leastLast : zCe yX1_leastLast cX1_leastLast 1 (some FieldType.int) 0 := ⟨zc_X1_leastLast, zn_X1, ⟨by decide, by decide⟩, by decide +kernel⟩
theorem zcv_X1_leastLast : zCv yX1_leastLast := ⟨zi_X1_leastLast, zs_X1_leastLast⟩
theorem zce_X1_mostLast : zCe yX1_mostLast cX1_mostLast 1 (some FieldType.int) 0 := ⟨zc_X1_mostLast, zn_X1, ⟨by decide, by decide⟩, by decide +kernel⟩
theorem zcv_X1_mostLast : zCv yX1_mostLast := ⟨zi_X1_mostLast, zs_X1_mostLast⟩
theorem zce_X2_init : zCe yX2_init cX2_init 1 (none : Option FieldType) 0 := ⟨zc_X2_init, zn_X2, ⟨by decide, by decide⟩, by decide +kernel⟩
theorem zce_X2_take : zCe yX2_take cX2_take 6 (none : Option FieldType) 2 := ⟨zc_X2_take, zn_X2, ⟨by decide, by decide⟩, by decide +kernel⟩
theorem zcv_X2_take : zCv yX2_take := ⟨zi_X2_take, zs_X2_take⟩
theorem zce_X2_markOf : zCe yX2_markOf cX2_markOf 2 (some FieldType.int) 1 := ⟨zc_X2_markOf, zn_X2, ⟨by decide, by decide⟩, by decide +kernel⟩
theorem zcv_X2_markOf : zCv yX2_markOf := ⟨zi_X2_markOf, zs_X2_markOf⟩
theorem zce_X2_toneOf : zCe yX2_toneOf cX2_toneOf 4 (some FieldType.int) 1 := ⟨zc_X2_toneOf, zn_X2, ⟨by decide, by decide⟩, by decide +kernel⟩
theorem zcv_X2_toneOf : zCv yX2_toneOf := ⟨zi_X2_toneOf, zs_X2_toneOf⟩
theorem zce_X2_lightThrough : zCe yX2_lightThrough cX2_lightThrough 5 (some FieldType.int) 2 := ⟨zc_X2_lightThrough, zn_X2, ⟨by decide, by decide⟩, by decide +kernel⟩
theorem zce_X2_leastTime : zCe yX2_leastTime cX2_leastTime 6 (some FieldType.int) 2 := ⟨zc_X2_leastTime, zn_X2, ⟨by decide, by decide⟩, by decide +kernel⟩
theorem zcv_X2_leastTime : zCv yX2_leastTime := ⟨zi_X2_leastTime, zs_X2_leastTime⟩
theorem zce_X3_init : zCe yX3_init cX3_init 1 (none : Option FieldType) 0 := ⟨zc_X3_init, zn_X3, ⟨by decide, by decide⟩, by decide +kernel⟩
theorem zce_X3_copyFrom : zCe yX3_copyFrom cX3_copyFrom 3 (none : Option FieldType) 1 := ⟨zc_X3_copyFrom, zn_X3, ⟨by decide, by decide⟩, by decide +kernel⟩
theorem zcv_X3_copyFrom : zCv yX3_copyFrom := ⟨zi_X3_copyFrom, zs_X3_copyFrom⟩
theorem zce_X3_isFull : zCe yX3_isFull cX3_isFull 1 (some FieldType.boolean) 0 := ⟨zc_X3_isFull, zn_X3, ⟨by decide, by decide⟩, by decide +kernel⟩
theorem zcv_X3_isFull : zCv yX3_isFull := ⟨zi_X3_isFull, zs_X3_isFull⟩
theorem zce_X3_hasZone : zCe yX3_hasZone cX3_hasZone 2 (some FieldType.boolean) 1 := ⟨zc_X3_hasZone, zn_X3, ⟨by decide, by decide⟩, by decide +kernel⟩
theorem zcv_X3_hasZone : zCv yX3_hasZone := ⟨zi_X3_hasZone, zs_X3_hasZone⟩
theorem zce_X3_addZone : zCe yX3_addZone cX3_addZone 4 (some FieldType.int) 2 := ⟨zc_X3_addZone, zn_X3, ⟨by decide, by decide⟩, by decide +kernel⟩
theorem zcv_X3_addZone : zCv yX3_addZone := ⟨zi_X3_addZone, zs_X3_addZone⟩
theorem zce_X3_areNeighbours : zCe yX3_areNeighbours cX3_areNeighbours 3 (some FieldType.boolean) 2 := ⟨zc_X3_areNeighbours, zn_X3, ⟨by decide, by decide⟩, by decide +kernel⟩
theorem zcv_X3_areNeighbours : zCv yX3_areNeighbours := ⟨zi_X3_areNeighbours, zs_X3_areNeighbours⟩
theorem zce_X3_setNeighbours : zCe yX3_setNeighbours cX3_setNeighbours 4 (none : Option FieldType) 3 := ⟨zc_X3_setNeighbours, zn_X3, ⟨by decide, by decide⟩, by decide +kernel⟩
theorem zcv_X3_setNeighbours : zCv yX3_setNeighbours := ⟨zi_X3_setNeighbours, zs_X3_setNeighbours⟩
theorem zce_X3_property : zCe yX3_property cX3_property 3 (some FieldType.int) 2 := ⟨zc_X3_property, zn_X3, ⟨by decide, by decide⟩, by decide +kernel⟩
theorem zcv_X3_property : zCv yX3_property := ⟨zi_X3_property, zs_X3_property⟩
theorem zce_X3_spillOnto : zCe yX3_spillOnto cX3_spillOnto 4 (some FieldType.int) 1 := ⟨zc_X3_spillOnto, zn_X3, ⟨by decide, by decide⟩, by decide +kernel⟩
theorem zcv_X3_spillOnto : zCv yX3_spillOnto := ⟨zi_X3_spillOnto, zs_X3_spillOnto⟩
theorem zce_X3_timeOf : zCe yX3_timeOf cX3_timeOf 2 (some FieldType.int) 1 := ⟨zc_X3_timeOf, zn_X3, ⟨by decide, by decide⟩, by decide +kernel⟩
theorem zcv_X3_timeOf : zCv yX3_timeOf := ⟨zi_X3_timeOf, zs_X3_timeOf⟩
theorem zce_X3_toneOf : zCe yX3_toneOf cX3_toneOf 2 (some FieldType.int) 1 := ⟨zc_X3_toneOf, zn_X3, ⟨by decide, by decide⟩, by decide +kernel⟩
theorem zcv_X3_toneOf : zCv yX3_toneOf := ⟨zi_X3_toneOf, zs_X3_toneOf⟩
theorem zce_X3_toneAfter : zCe yX3_toneAfter cX3_toneAfter 3 (some FieldType.int) 2 := ⟨zc_X3_toneAfter, zn_X3, ⟨by decide, by decide⟩, by decide +kernel⟩
theorem zcv_X3_toneAfter : zCv yX3_toneAfter := ⟨zi_X3_toneAfter, zs_X3_toneAfter⟩
theorem zce_X3_tooDarkBy : zCe yX3_tooDarkBy cX3_tooDarkBy 2 (some FieldType.int) 1 := ⟨zc_X3_tooDarkBy, zn_X3, ⟨by decide, by decide⟩, by decide +kernel⟩
theorem zcv_X3_tooDarkBy : zCv yX3_tooDarkBy := ⟨zi_X3_tooDarkBy, zs_X3_tooDarkBy⟩
theorem zce_X3_zonesOff : zCe yX3_zonesOff cX3_zonesOff 4 (some FieldType.int) 1 := ⟨zc_X3_zonesOff, zn_X3, ⟨by decide, by decide⟩, by decide +kernel⟩
theorem zcv_X3_zonesOff : zCv yX3_zonesOff := ⟨zi_X3_zonesOff, zs_X3_zonesOff⟩
theorem zce_X3_missedTones : zCe yX3_missedTones cX3_missedTones 3 (some FieldType.int) 0 := ⟨zc_X3_missedTones, zn_X3, ⟨by decide, by decide⟩, by decide +kernel⟩
theorem zcv_X3_missedTones : zCv yX3_missedTones := ⟨zi_X3_missedTones, zs_X3_missedTones⟩
theorem zce_X3_sumOf : zCe yX3_sumOf cX3_sumOf 4 (some FieldType.int) 1 := ⟨zc_X3_sumOf, zn_X3, ⟨by decide, by decide⟩, by decide +kernel⟩
theorem zcv_X3_sumOf : zCv yX3_sumOf := ⟨zi_X3_sumOf, zs_X3_sumOf⟩
theorem zce_X3_pairs : zCe yX3_pairs cX3_pairs 3 (some FieldType.int) 0 := ⟨zc_X3_pairs, zn_X3, ⟨by decide, by decide⟩, by decide +kernel⟩
theorem zcv_X3_pairs : zCv yX3_pairs := ⟨zi_X3_pairs, zs_X3_pairs⟩
theorem zce_X3_leastNeed : zCe yX3_leastNeed cX3_leastNeed 4 (some FieldType.int) 1 := ⟨zc_X3_leastNeed, zn_X3, ⟨by decide, by decide⟩, by decide +kernel⟩
theorem zcv_X3_leastNeed : zCv yX3_leastNeed := ⟨zi_X3_leastNeed, zs_X3_leastNeed⟩
theorem zce_X3_greatestNeed : zCe yX3_greatestNeed cX3_greatestNeed 4 (some FieldType.int) 1 := ⟨zc_X3_greatestNeed, zn_X3, ⟨by decide, by decide⟩, by decide +kernel⟩
theorem zcv_X3_greatestNeed : zCv yX3_greatestNeed := ⟨zi_X3_greatestNeed, zs_X3_greatestNeed⟩
theorem zce_X3_zonesWithoutNeed : zCe yX3_zonesWithoutNeed cX3_zonesWithoutNeed 3 (some FieldType.int) 0 := ⟨zc_X3_zonesWithoutNeed, zn_X3, ⟨by decide, by decide⟩, by decide +kernel⟩
theorem zcv_X3_zonesWithoutNeed : zCv yX3_zonesWithoutNeed := ⟨zi_X3_zonesWithoutNeed, zs_X3_zonesWithoutNeed⟩
theorem zce_X3_commonNeed : zCe yX3_commonNeed cX3_commonNeed 5 (some FieldType.int) 1 := ⟨zc_X3_commonNeed, zn_X3, ⟨by decide, by decide⟩, by decide +kernel⟩
theorem zcv_X3_commonNeed : zCv yX3_commonNeed := ⟨zi_X3_commonNeed, zs_X3_commonNeed⟩
theorem zce_X3_readStrip : zCe yX3_readStrip cX3_readStrip 8 (some FieldType.int) 4 := ⟨zc_X3_readStrip, zn_X3, ⟨by decide, by decide⟩, by decide +kernel⟩
theorem zcv_X3_readStrip : zCv yX3_readStrip := ⟨zi_X3_readStrip, zs_X3_readStrip⟩
theorem zce_X3_stripTime : zCe yX3_stripTime cX3_stripTime 3 (some FieldType.int) 2 := ⟨zc_X3_stripTime, zn_X3, ⟨by decide, by decide⟩, by decide +kernel⟩
theorem zce_X3_makePlan : zCe yX3_makePlan cX3_makePlan 3 (none : Option FieldType) 0 := ⟨zc_X3_makePlan, zn_X3, ⟨by decide, by decide⟩, by decide +kernel⟩
theorem zcv_X3_makePlan : zCv yX3_makePlan := ⟨zi_X3_makePlan, zs_X3_makePlan⟩
theorem zce_X3_middleNeed : zCe yX3_middleNeed cX3_middleNeed 4 (some FieldType.int) 0 := ⟨zc_X3_middleNeed, zn_X3, ⟨by decide, by decide⟩, by decide +kernel⟩
theorem zcv_X3_middleNeed : zCv yX3_middleNeed := ⟨zi_X3_middleNeed, zs_X3_middleNeed⟩
theorem zce_X3_sortIn : zCe yX3_sortIn cX3_sortIn 4 (none : Option FieldType) 2 := ⟨zc_X3_sortIn, zn_X3, ⟨by decide, by decide⟩, by decide +kernel⟩
theorem zcv_X3_sortIn : zCv yX3_sortIn := ⟨zi_X3_sortIn, zs_X3_sortIn⟩
theorem zce_X3_correct : zCe yX3_correct cX3_correct 4 (none : Option FieldType) 1 := ⟨zc_X3_correct, zn_X3, ⟨by decide, by decide⟩, by decide +kernel⟩
theorem zcv_X3_correct : zCv yX3_correct := ⟨zi_X3_correct, zs_X3_correct⟩
theorem zce_X4_init : zCe yX4_init cX4_init 1 (none : Option FieldType) 0 := ⟨zc_X4_init, zn_X4, ⟨by decide, by decide⟩, by decide +kernel⟩
theorem zce_X4_zone : zCe yX4_zone cX4_zone 3 (some FieldType.int) 2 := ⟨zc_X4_zone, zn_X4, ⟨by decide, by decide⟩, by decide +kernel⟩
theorem zcv_X4_zone : zCv yX4_zone := ⟨zi_X4_zone, zs_X4_zone⟩
theorem zce_X4_want : zCe yX4_want cX4_want 4 (some FieldType.int) 2 := ⟨zc_X4_want, zn_X4, ⟨by decide, by decide⟩, by decide +kernel⟩
theorem zcv_X4_want : zCv yX4_want := ⟨zi_X4_want, zs_X4_want⟩
theorem zce_X4_link : zCe yX4_link cX4_link 4 (some FieldType.int) 2 := ⟨zc_X4_link, zn_X4, ⟨by decide, by decide⟩, by decide +kernel⟩
theorem zcv_X4_link : zCv yX4_link := ⟨zi_X4_link, zs_X4_link⟩
theorem zce_X4_expose : zCe yX4_expose cX4_expose 2 (some FieldType.int) 1 := ⟨zc_X4_expose, zn_X4, ⟨by decide, by decide⟩, by decide +kernel⟩
theorem zcv_X4_expose : zCv yX4_expose := ⟨zi_X4_expose, zs_X4_expose⟩
theorem zce_X4_burn : zCe yX4_burn cX4_burn 3 (some FieldType.int) 2 := ⟨zc_X4_burn, zn_X4, ⟨by decide, by decide⟩, by decide +kernel⟩
theorem zcv_X4_burn : zCv yX4_burn := ⟨zi_X4_burn, zs_X4_burn⟩
theorem zce_X4_hold : zCe yX4_hold cX4_hold 3 (some FieldType.int) 2 := ⟨zc_X4_hold, zn_X4, ⟨by decide, by decide⟩, by decide +kernel⟩
theorem zcv_X4_hold : zCv yX4_hold := ⟨zi_X4_hold, zs_X4_hold⟩
theorem zce_X4_paper : zCe yX4_paper cX4_paper 3 (some FieldType.int) 2 := ⟨zc_X4_paper, zn_X4, ⟨by decide, by decide⟩, by decide +kernel⟩
theorem zcv_X4_paper : zCv yX4_paper := ⟨zi_X4_paper, zs_X4_paper⟩
theorem zce_X4_plan : zCe yX4_plan cX4_plan 1 (some FieldType.int) 0 := ⟨zc_X4_plan, zn_X4, ⟨by decide, by decide⟩, by decide +kernel⟩
theorem zcv_X4_plan : zCv yX4_plan := ⟨zi_X4_plan, zs_X4_plan⟩
theorem zce_X4_set : zCe yX4_set cX4_set 3 (some FieldType.int) 1 := ⟨zc_X4_set, zn_X4, ⟨by decide, by decide⟩, by decide +kernel⟩
theorem zcv_X4_set : zCv yX4_set := ⟨zi_X4_set, zs_X4_set⟩
theorem zce_X4_append : zCe yX4_append cX4_append 2 (some FieldType.int) 1 := ⟨zc_X4_append, zn_X4, ⟨by decide, by decide⟩, by decide +kernel⟩
theorem zcv_X4_append : zCv yX4_append := ⟨zi_X4_append, zs_X4_append⟩
theorem zce_X4_clearBuffer : zCe yX4_clearBuffer cX4_clearBuffer 2 (some FieldType.int) 0 := ⟨zc_X4_clearBuffer, zn_X4, ⟨by decide, by decide⟩, by decide +kernel⟩
theorem zcv_X4_clearBuffer : zCv yX4_clearBuffer := ⟨zi_X4_clearBuffer, zs_X4_clearBuffer⟩
theorem zce_X4_firstError : zCe yX4_firstError cX4_firstError 2 (some FieldType.int) 0 := ⟨zc_X4_firstError, zn_X4, ⟨by decide, by decide⟩, by decide +kernel⟩
theorem zcv_X4_firstError : zCv yX4_firstError := ⟨zi_X4_firstError, zs_X4_firstError⟩
theorem zce_X4_run : zCe yX4_run cX4_run 2 (some FieldType.int) 0 := ⟨zc_X4_run, zn_X4, ⟨by decide, by decide⟩, by decide +kernel⟩
theorem zcv_X4_run : zCv yX4_run := ⟨zi_X4_run, zs_X4_run⟩
theorem zce_X4_undo : zCe yX4_undo cX4_undo 1 (some FieldType.int) 0 := ⟨zc_X4_undo, zn_X4, ⟨by decide, by decide⟩, by decide +kernel⟩
theorem zcv_X4_undo : zCv yX4_undo := ⟨zi_X4_undo, zs_X4_undo⟩
theorem zce_X4_zoneOf : zCe yX4_zoneOf cX4_zoneOf 3 (some FieldType.int) 2 := ⟨zc_X4_zoneOf, zn_X4, ⟨by decide, by decide⟩, by decide +kernel⟩
theorem zcv_X4_zoneOf : zCv yX4_zoneOf := ⟨zi_X4_zoneOf, zs_X4_zoneOf⟩
theorem zce_X4_mark : zCe yX4_mark cX4_mark 2 (some FieldType.int) 1 := ⟨zc_X4_mark, zn_X4, ⟨by decide, by decide⟩, by decide +kernel⟩
theorem zcv_X4_mark : zCv yX4_mark := ⟨zi_X4_mark, zs_X4_mark⟩
theorem zce_X4_strip : zCe yX4_strip cX4_strip 5 (some FieldType.int) 4 := ⟨zc_X4_strip, zn_X4, ⟨by decide, by decide⟩, by decide +kernel⟩
theorem zcv_X4_strip : zCv yX4_strip := ⟨zi_X4_strip, zs_X4_strip⟩
theorem zce_X4_count : zCe yX4_count cX4_count 2 (some FieldType.int) 1 := ⟨zc_X4_count, zn_X4, ⟨by decide, by decide⟩, by decide +kernel⟩
theorem zcv_X4_count : zCv yX4_count := ⟨zi_X4_count, zs_X4_count⟩
theorem zce_X4_ifExposed : zCe yX4_ifExposed cX4_ifExposed 3 (some FieldType.int) 2 := ⟨zc_X4_ifExposed, zn_X4, ⟨by decide, by decide⟩, by decide +kernel⟩
theorem zcv_X4_ifExposed : zCv yX4_ifExposed := ⟨zi_X4_ifExposed, zs_X4_ifExposed⟩
theorem zce_X4_bestTime : zCe yX4_bestTime cX4_bestTime 5 (some FieldType.int) 0 := ⟨zc_X4_bestTime, zn_X4, ⟨by decide, by decide⟩, by decide +kernel⟩
theorem zcv_X4_bestTime : zCv yX4_bestTime := ⟨zi_X4_bestTime, zs_X4_bestTime⟩
theorem zce_X4_bestGrade : zCe yX4_bestGrade cX4_bestGrade 7 (some FieldType.int) 0 := ⟨zc_X4_bestGrade, zn_X4, ⟨by decide, by decide⟩, by decide +kernel⟩
theorem zcv_X4_bestGrade : zCv yX4_bestGrade := ⟨zi_X4_bestGrade, zs_X4_bestGrade⟩
theorem zce_X4_ifBurned : zCe yX4_ifBurned cX4_ifBurned 4 (some FieldType.int) 3 := ⟨zc_X4_ifBurned, zn_X4, ⟨by decide, by decide⟩, by decide +kernel⟩
theorem zcv_X4_ifBurned : zCv yX4_ifBurned := ⟨zi_X4_ifBurned, zs_X4_ifBurned⟩
theorem zce_X4_common : zCe yX4_common cX4_common 2 (some FieldType.int) 1 := ⟨zc_X4_common, zn_X4, ⟨by decide, by decide⟩, by decide +kernel⟩
theorem zcv_X4_common : zCv yX4_common := ⟨zi_X4_common, zs_X4_common⟩
theorem zce_X4_rightShare : zCe yX4_rightShare cX4_rightShare 1 (some FieldType.double) 0 := ⟨zc_X4_rightShare, zn_X4, ⟨by decide, by decide⟩, by decide +kernel⟩
theorem zcv_X4_rightShare : zCv yX4_rightShare := ⟨zi_X4_rightShare, zs_X4_rightShare⟩
theorem zce_X4_digest : zCe yX4_digest cX4_digest 5 (some FieldType.long) 0 := ⟨zc_X4_digest, zn_X4, ⟨by decide, by decide⟩, by decide +kernel⟩
theorem zcv_X4_digest : zCv yX4_digest := ⟨zi_X4_digest, zs_X4_digest⟩
theorem zce_X4_mixed : zCe yX4_mixed cX4_mixed 4 (some FieldType.long) 2 := ⟨zc_X4_mixed, zn_X4, ⟨by decide, by decide⟩, by decide +kernel⟩
theorem zce_X4_bitsOf : zCe yX4_bitsOf cX4_bitsOf 6 (some FieldType.long) 1 := ⟨zc_X4_bitsOf, zn_X4, ⟨by decide, by decide⟩, by decide +kernel⟩
theorem zce_X4_isWithin : zCe yX4_isWithin cX4_isWithin 3 (some FieldType.boolean) 3 := ⟨zc_X4_isWithin, zn_X4, ⟨by decide, by decide⟩, by decide +kernel⟩
theorem zce_X4_numberOf : zCe yX4_numberOf cX4_numberOf 2 (some FieldType.int) 1 := ⟨zc_X4_numberOf, zn_X4, ⟨by decide, by decide⟩, by decide +kernel⟩
theorem zcv_X4_numberOf : zCv yX4_numberOf := ⟨zi_X4_numberOf, zs_X4_numberOf⟩
theorem zce_X4_tryTime : zCe yX4_tryTime cX4_tryTime 3 (some FieldType.int) 2 := ⟨zc_X4_tryTime, zn_X4, ⟨by decide, by decide⟩, by decide +kernel⟩
theorem zcv_X4_tryTime : zCv yX4_tryTime := ⟨zi_X4_tryTime, zs_X4_tryTime⟩
theorem zce_X4_tryBurn : zCe yX4_tryBurn cX4_tryBurn 4 (some FieldType.int) 3 := ⟨zc_X4_tryBurn, zn_X4, ⟨by decide, by decide⟩, by decide +kernel⟩
theorem zcv_X4_tryBurn : zCv yX4_tryBurn := ⟨zi_X4_tryBurn, zs_X4_tryBurn⟩
theorem zce_X4_doOrders : zCe yX4_doOrders cX4_doOrders 3 (some FieldType.int) 0 := ⟨zc_X4_doOrders, zn_X4, ⟨by decide, by decide⟩, by decide +kernel⟩
theorem zcv_X4_doOrders : zCv yX4_doOrders := ⟨zi_X4_doOrders, zs_X4_doOrders⟩
theorem zce_X4_isLastOfOrder : zCe yX4_isLastOfOrder cX4_isLastOfOrder 3 (some FieldType.boolean) 1 := ⟨zc_X4_isLastOfOrder, zn_X4, ⟨by decide, by decide⟩, by decide +kernel⟩
theorem zcv_X4_isLastOfOrder : zCv yX4_isLastOfOrder := ⟨zi_X4_isLastOfOrder, zs_X4_isLastOfOrder⟩
theorem zce_X4_doOrder : zCe yX4_doOrder cX4_doOrder 3 (some FieldType.boolean) 0 := ⟨zc_X4_doOrder, zn_X4, ⟨by decide, by decide⟩, by decide +kernel⟩
theorem zcv_X4_doOrder : zCv yX4_doOrder := ⟨zi_X4_doOrder, zs_X4_doOrder⟩
theorem zce_X5_init : zCe yX5_init cX5_init 1 (none : Option FieldType) 0 := ⟨zc_X5_init, zn_X5, ⟨by decide, by decide⟩, by decide +kernel⟩
theorem zce_X5_thrown : zCe yX5_thrown cX5_thrown 1 (some FieldType.int) 0 := ⟨zc_X5_thrown, zn_X5, ⟨by decide, by decide⟩, by decide +kernel⟩
theorem zcv_X5_thrown : zCv yX5_thrown := ⟨zi_X5_thrown, zs_X5_thrown⟩
theorem zce_X5_in : zCe yX5_in cX5_in 3 (some FieldType.boolean) 3 := ⟨zc_X5_in, zn_X5, ⟨by decide, by decide⟩, by decide +kernel⟩
theorem zce_X5_holds : zCe yX5_holds cX5_holds 2 (some FieldType.boolean) 1 := ⟨zc_X5_holds, zn_X5, ⟨by decide, by decide⟩, by decide +kernel⟩
theorem zcv_X5_holds : zCv yX5_holds := ⟨zi_X5_holds, zs_X5_holds⟩
theorem zce_X5_of : zCe yX5_of cX5_of 2 (some FieldType.int) 2 := ⟨zc_X5_of, zn_X5, ⟨by decide, by decide⟩, by decide +kernel⟩
theorem zce_X5_isZone : zCe yX5_isZone cX5_isZone 2 (some FieldType.boolean) 1 := ⟨zc_X5_isZone, zn_X5, ⟨by decide, by decide⟩, by decide +kernel⟩
theorem zcv_X5_isZone : zCv yX5_isZone := ⟨zi_X5_isZone, zs_X5_isZone⟩
theorem zce_X5_save : zCe yX5_save cX5_save 2 (none : Option FieldType) 0 := ⟨zc_X5_save, zn_X5, ⟨by decide, by decide⟩, by decide +kernel⟩
theorem zcv_X5_save : zCv yX5_save := ⟨zi_X5_save, zs_X5_save⟩
theorem zce_X5_putAside : zCe yX5_putAside cX5_putAside 2 (none : Option FieldType) 0 := ⟨zc_X5_putAside, zn_X5, ⟨by decide, by decide⟩, by decide +kernel⟩
theorem zcv_X5_putAside : zCv yX5_putAside := ⟨zi_X5_putAside, zs_X5_putAside⟩
theorem zce_X5_putBack : zCe yX5_putBack cX5_putBack 2 (none : Option FieldType) 0 := ⟨zc_X5_putBack, zn_X5, ⟨by decide, by decide⟩, by decide +kernel⟩
theorem zcv_X5_putBack : zCv yX5_putBack := ⟨zi_X5_putBack, zs_X5_putBack⟩
theorem zce_X5_lightOf : zCe yX5_lightOf cX5_lightOf 6 (some FieldType.int) 2 := ⟨zc_X5_lightOf, zn_X5, ⟨by decide, by decide⟩, by decide +kernel⟩
theorem zce_X5_findMarks : zCe yX5_findMarks cX5_findMarks 5 (none : Option FieldType) 0 := ⟨zc_X5_findMarks, zn_X5, ⟨by decide, by decide⟩, by decide +kernel⟩
theorem zcv_X5_findMarks : zCv yX5_findMarks := ⟨zi_X5_findMarks, zs_X5_findMarks⟩
theorem zce_X5_toneOf : zCe yX5_toneOf cX5_toneOf 4 (some FieldType.int) 1 := ⟨zc_X5_toneOf, zn_X5, ⟨by decide, by decide⟩, by decide +kernel⟩
theorem zcv_X5_toneOf : zCv yX5_toneOf := ⟨zi_X5_toneOf, zs_X5_toneOf⟩
theorem zce_X5_toneBy : zCe yX5_toneBy cX5_toneBy 3 (some FieldType.int) 2 := ⟨zc_X5_toneBy, zn_X5, ⟨by decide, by decide⟩, by decide +kernel⟩
theorem zcv_X5_toneBy : zCv yX5_toneBy := ⟨zi_X5_toneBy, zs_X5_toneBy⟩
theorem zce_X5_spilled : zCe yX5_spilled cX5_spilled 4 (some FieldType.int) 1 := ⟨zc_X5_spilled, zn_X5, ⟨by decide, by decide⟩, by decide +kernel⟩
theorem zcv_X5_spilled : zCv yX5_spilled := ⟨zi_X5_spilled, zs_X5_spilled⟩
theorem zce_X5_timeOf : zCe yX5_timeOf cX5_timeOf 4 (some FieldType.int) 1 := ⟨zc_X5_timeOf, zn_X5, ⟨by decide, by decide⟩, by decide +kernel⟩
theorem zcv_X5_timeOf : zCv yX5_timeOf := ⟨zi_X5_timeOf, zs_X5_timeOf⟩
theorem zce_X5_tone : zCe yX5_tone cX5_tone 2 (some FieldType.int) 1 := ⟨zc_X5_tone, zn_X5, ⟨by decide, by decide⟩, by decide +kernel⟩
theorem zcv_X5_tone : zCv yX5_tone := ⟨zi_X5_tone, zs_X5_tone⟩
theorem zce_X5_isRight : zCe yX5_isRight cX5_isRight 2 (some FieldType.boolean) 1 := ⟨zc_X5_isRight, zn_X5, ⟨by decide, by decide⟩, by decide +kernel⟩
theorem zcv_X5_isRight : zCv yX5_isRight := ⟨zi_X5_isRight, zs_X5_isRight⟩
theorem zce_X5_right : zCe yX5_right cX5_right 3 (some FieldType.int) 0 := ⟨zc_X5_right, zn_X5, ⟨by decide, by decide⟩, by decide +kernel⟩
theorem zcv_X5_right : zCv yX5_right := ⟨zi_X5_right, zs_X5_right⟩
theorem zce_X5_leastFor : zCe yX5_leastFor cX5_leastFor 6 (some FieldType.int) 2 := ⟨zc_X5_leastFor, zn_X5, ⟨by decide, by decide⟩, by decide +kernel⟩
theorem zcv_X5_leastFor : zCv yX5_leastFor := ⟨zi_X5_leastFor, zs_X5_leastFor⟩
theorem zce_X5_leastNeeded : zCe yX5_leastNeeded cX5_leastNeeded 3 (some FieldType.int) 1 := ⟨zc_X5_leastNeeded, zn_X5, ⟨by decide, by decide⟩, by decide +kernel⟩
theorem zcv_X5_leastNeeded : zCv yX5_leastNeeded := ⟨zi_X5_leastNeeded, zs_X5_leastNeeded⟩
theorem zce_X5_greatestNeeded : zCe yX5_greatestNeeded cX5_greatestNeeded 2 (some FieldType.int) 1 := ⟨zc_X5_greatestNeeded, zn_X5, ⟨by decide, by decide⟩, by decide +kernel⟩
theorem zcv_X5_greatestNeeded : zCv yX5_greatestNeeded := ⟨zi_X5_greatestNeeded, zs_X5_greatestNeeded⟩
theorem zce_X5_zones : zCe yX5_zones cX5_zones 4 (some FieldType.int) 2 := ⟨zc_X5_zones, zn_X5, ⟨by decide, by decide⟩, by decide +kernel⟩
theorem zcv_X5_zones : zCv yX5_zones := ⟨zi_X5_zones, zs_X5_zones⟩
theorem zce_X5_zoneFault : zCe yX5_zoneFault cX5_zoneFault 3 (some FieldType.int) 2 := ⟨zc_X5_zoneFault, zn_X5, ⟨by decide, by decide⟩, by decide +kernel⟩
theorem zcv_X5_zoneFault : zCv yX5_zoneFault := ⟨zi_X5_zoneFault, zs_X5_zoneFault⟩
theorem zce_X5_zone : zCe yX5_zone cX5_zone 3 (some FieldType.int) 2 := ⟨zc_X5_zone, zn_X5, ⟨by decide, by decide⟩, by decide +kernel⟩
theorem zcv_X5_zone : zCv yX5_zone := ⟨zi_X5_zone, zs_X5_zone⟩
theorem zce_X5_want : zCe yX5_want cX5_want 4 (some FieldType.int) 2 := ⟨zc_X5_want, zn_X5, ⟨by decide, by decide⟩, by decide +kernel⟩
theorem zcv_X5_want : zCv yX5_want := ⟨zi_X5_want, zs_X5_want⟩
theorem zce_X5_areLinked : zCe yX5_areLinked cX5_areLinked 3 (some FieldType.boolean) 2 := ⟨zc_X5_areLinked, zn_X5, ⟨by decide, by decide⟩, by decide +kernel⟩
theorem zcv_X5_areLinked : zCv yX5_areLinked := ⟨zi_X5_areLinked, zs_X5_areLinked⟩
theorem zce_X5_turnLink : zCe yX5_turnLink cX5_turnLink 3 (none : Option FieldType) 2 := ⟨zc_X5_turnLink, zn_X5, ⟨by decide, by decide⟩, by decide +kernel⟩
theorem zcv_X5_turnLink : zCv yX5_turnLink := ⟨zi_X5_turnLink, zs_X5_turnLink⟩
theorem zce_X5_link : zCe yX5_link cX5_link 3 (some FieldType.int) 2 := ⟨zc_X5_link, zn_X5, ⟨by decide, by decide⟩, by decide +kernel⟩
theorem zcv_X5_link : zCv yX5_link := ⟨zi_X5_link, zs_X5_link⟩
theorem zce_X5_exposes : zCe yX5_exposes cX5_exposes 2 (some FieldType.int) 1 := ⟨zc_X5_exposes, zn_X5, ⟨by decide, by decide⟩, by decide +kernel⟩
theorem zcv_X5_exposes : zCv yX5_exposes := ⟨zi_X5_exposes, zs_X5_exposes⟩
theorem zce_X5_expose : zCe yX5_expose cX5_expose 2 (some FieldType.int) 1 := ⟨zc_X5_expose, zn_X5, ⟨by decide, by decide⟩, by decide +kernel⟩
theorem zcv_X5_expose : zCv yX5_expose := ⟨zi_X5_expose, zs_X5_expose⟩
theorem zce_X5_partFault : zCe yX5_partFault cX5_partFault 3 (some FieldType.int) 2 := ⟨zc_X5_partFault, zn_X5, ⟨by decide, by decide⟩, by decide +kernel⟩
theorem zcv_X5_partFault : zCv yX5_partFault := ⟨zi_X5_partFault, zs_X5_partFault⟩
theorem zce_X5_parts : zCe yX5_parts cX5_parts 4 (some FieldType.int) 3 := ⟨zc_X5_parts, zn_X5, ⟨by decide, by decide⟩, by decide +kernel⟩
theorem zcv_X5_parts : zCv yX5_parts := ⟨zi_X5_parts, zs_X5_parts⟩
theorem zce_X5_burn : zCe yX5_burn cX5_burn 3 (some FieldType.int) 2 := ⟨zc_X5_burn, zn_X5, ⟨by decide, by decide⟩, by decide +kernel⟩
theorem zcv_X5_burn : zCv yX5_burn := ⟨zi_X5_burn, zs_X5_burn⟩
theorem zce_X5_hold : zCe yX5_hold cX5_hold 3 (some FieldType.int) 2 := ⟨zc_X5_hold, zn_X5, ⟨by decide, by decide⟩, by decide +kernel⟩
theorem zcv_X5_hold : zCv yX5_hold := ⟨zi_X5_hold, zs_X5_hold⟩
theorem zce_X5_paper : zCe yX5_paper cX5_paper 3 (some FieldType.int) 2 := ⟨zc_X5_paper, zn_X5, ⟨by decide, by decide⟩, by decide +kernel⟩
theorem zcv_X5_paper : zCv yX5_paper := ⟨zi_X5_paper, zs_X5_paper⟩
theorem zce_X5_middleTime : zCe yX5_middleTime cX5_middleTime 5 (some FieldType.int) 0 := ⟨zc_X5_middleTime, zn_X5, ⟨by decide, by decide⟩, by decide +kernel⟩
theorem zcv_X5_middleTime : zCv yX5_middleTime := ⟨zi_X5_middleTime, zs_X5_middleTime⟩
theorem zce_X5_plans : zCe yX5_plans cX5_plans 6 (some FieldType.int) 0 := ⟨zc_X5_plans, zn_X5, ⟨by decide, by decide⟩, by decide +kernel⟩
theorem zcv_X5_plans : zCv yX5_plans := ⟨zi_X5_plans, zs_X5_plans⟩
theorem zce_X5_plan : zCe yX5_plan cX5_plan 1 (some FieldType.int) 0 := ⟨zc_X5_plan, zn_X5, ⟨by decide, by decide⟩, by decide +kernel⟩
theorem zcv_X5_plan : zCv yX5_plan := ⟨zi_X5_plan, zs_X5_plan⟩
theorem zce_X5_set : zCe yX5_set cX5_set 3 (some FieldType.int) 1 := ⟨zc_X5_set, zn_X5, ⟨by decide, by decide⟩, by decide +kernel⟩
theorem zcv_X5_set : zCv yX5_set := ⟨zi_X5_set, zs_X5_set⟩
theorem zce_X5_append : zCe yX5_append cX5_append 2 (some FieldType.int) 1 := ⟨zc_X5_append, zn_X5, ⟨by decide, by decide⟩, by decide +kernel⟩
theorem zcv_X5_append : zCv yX5_append := ⟨zi_X5_append, zs_X5_append⟩
theorem zce_X5_clearBuffer : zCe yX5_clearBuffer cX5_clearBuffer 2 (some FieldType.int) 0 := ⟨zc_X5_clearBuffer, zn_X5, ⟨by decide, by decide⟩, by decide +kernel⟩
theorem zcv_X5_clearBuffer : zCv yX5_clearBuffer := ⟨zi_X5_clearBuffer, zs_X5_clearBuffer⟩
theorem zce_X5_sign : zCe yX5_sign cX5_sign 4 (some FieldType.int) 2 := ⟨zc_X5_sign, zn_X5, ⟨by decide, by decide⟩, by decide +kernel⟩
theorem zcv_X5_sign : zCv yX5_sign := ⟨zi_X5_sign, zs_X5_sign⟩
theorem zce_X5_number : zCe yX5_number cX5_number 4 (some FieldType.int) 2 := ⟨zc_X5_number, zn_X5, ⟨by decide, by decide⟩, by decide +kernel⟩
theorem zcv_X5_number : zCv yX5_number := ⟨zi_X5_number, zs_X5_number⟩
theorem zce_X5_order : zCe yX5_order cX5_order 3 (none : Option FieldType) 0 := ⟨zc_X5_order, zn_X5, ⟨by decide, by decide⟩, by decide +kernel⟩
theorem zcv_X5_order : zCv yX5_order := ⟨zi_X5_order, zs_X5_order⟩
theorem zce_X5_does : zCe yX5_does cX5_does 3 (some FieldType.boolean) 0 := ⟨zc_X5_does, zn_X5, ⟨by decide, by decide⟩, by decide +kernel⟩
theorem zcv_X5_does : zCv yX5_does := ⟨zi_X5_does, zs_X5_does⟩
theorem zce_X5_go : zCe yX5_go cX5_go 6 (some FieldType.int) 1 := ⟨zc_X5_go, zn_X5, ⟨by decide, by decide⟩, by decide +kernel⟩
theorem zcv_X5_go : zCv yX5_go := ⟨zi_X5_go, zs_X5_go⟩
theorem zce_X5_firstError : zCe yX5_firstError cX5_firstError 2 (some FieldType.int) 0 := ⟨zc_X5_firstError, zn_X5, ⟨by decide, by decide⟩, by decide +kernel⟩
theorem zcv_X5_firstError : zCv yX5_firstError := ⟨zi_X5_firstError, zs_X5_firstError⟩
theorem zce_X5_run : zCe yX5_run cX5_run 3 (some FieldType.int) 0 := ⟨zc_X5_run, zn_X5, ⟨by decide, by decide⟩, by decide +kernel⟩
theorem zcv_X5_run : zCv yX5_run := ⟨zi_X5_run, zs_X5_run⟩
theorem zce_X5_undo : zCe yX5_undo cX5_undo 2 (some FieldType.int) 0 := ⟨zc_X5_undo, zn_X5, ⟨by decide, by decide⟩, by decide +kernel⟩
theorem zcv_X5_undo : zCv yX5_undo := ⟨zi_X5_undo, zs_X5_undo⟩
theorem zce_X5_ofZone : zCe yX5_ofZone cX5_ofZone 3 (some FieldType.int) 2 := ⟨zc_X5_ofZone, zn_X5, ⟨by decide, by decide⟩, by decide +kernel⟩
theorem zcv_X5_ofZone : zCv yX5_ofZone := ⟨zi_X5_ofZone, zs_X5_ofZone⟩
theorem zce_X5_zoneOf : zCe yX5_zoneOf cX5_zoneOf 3 (some FieldType.int) 2 := ⟨zc_X5_zoneOf, zn_X5, ⟨by decide, by decide⟩, by decide +kernel⟩
theorem zcv_X5_zoneOf : zCv yX5_zoneOf := ⟨zi_X5_zoneOf, zs_X5_zoneOf⟩
theorem zce_X5_markOf : zCe yX5_markOf cX5_markOf 2 (some FieldType.int) 1 := ⟨zc_X5_markOf, zn_X5, ⟨by decide, by decide⟩, by decide +kernel⟩
theorem zcv_X5_markOf : zCv yX5_markOf := ⟨zi_X5_markOf, zs_X5_markOf⟩
theorem zce_X5_mark : zCe yX5_mark cX5_mark 2 (some FieldType.int) 1 := ⟨zc_X5_mark, zn_X5, ⟨by decide, by decide⟩, by decide +kernel⟩
theorem zcv_X5_mark : zCv yX5_mark := ⟨zi_X5_mark, zs_X5_mark⟩
theorem zce_X5_stripTime : zCe yX5_stripTime cX5_stripTime 3 (some FieldType.int) 2 := ⟨zc_X5_stripTime, zn_X5, ⟨by decide, by decide⟩, by decide +kernel⟩
theorem zce_X5_stripOf : zCe yX5_stripOf cX5_stripOf 10 (some FieldType.int) 4 := ⟨zc_X5_stripOf, zn_X5, ⟨by decide, by decide⟩, by decide +kernel⟩
theorem zcv_X5_stripOf : zCv yX5_stripOf := ⟨zi_X5_stripOf, zs_X5_stripOf⟩
theorem zce_X5_strip : zCe yX5_strip cX5_strip 6 (some FieldType.int) 4 := ⟨zc_X5_strip, zn_X5, ⟨by decide, by decide⟩, by decide +kernel⟩
theorem zcv_X5_strip : zCv yX5_strip := ⟨zi_X5_strip, zs_X5_strip⟩
theorem zce_X5_sum : zCe yX5_sum cX5_sum 7 (some FieldType.int) 1 := ⟨zc_X5_sum, zn_X5, ⟨by decide, by decide⟩, by decide +kernel⟩
theorem zcv_X5_sum : zCv yX5_sum := ⟨zi_X5_sum, zs_X5_sum⟩
theorem zce_X5_counted : zCe yX5_counted cX5_counted 2 (some FieldType.int) 1 := ⟨zc_X5_counted, zn_X5, ⟨by decide, by decide⟩, by decide +kernel⟩
theorem zcv_X5_counted : zCv yX5_counted := ⟨zi_X5_counted, zs_X5_counted⟩
theorem zce_X5_count : zCe yX5_count cX5_count 2 (some FieldType.int) 1 := ⟨zc_X5_count, zn_X5, ⟨by decide, by decide⟩, by decide +kernel⟩
theorem zcv_X5_count : zCv yX5_count := ⟨zi_X5_count, zs_X5_count⟩
theorem zce_X5_off : zCe yX5_off cX5_off 4 (some FieldType.int) 0 := ⟨zc_X5_off, zn_X5, ⟨by decide, by decide⟩, by decide +kernel⟩
theorem zcv_X5_off : zCv yX5_off := ⟨zi_X5_off, zs_X5_off⟩
theorem zce_X5_exposed : zCe yX5_exposed cX5_exposed 5 (some FieldType.int) 2 := ⟨zc_X5_exposed, zn_X5, ⟨by decide, by decide⟩, by decide +kernel⟩
theorem zcv_X5_exposed : zCv yX5_exposed := ⟨zi_X5_exposed, zs_X5_exposed⟩
theorem zce_X5_ifExposed : zCe yX5_ifExposed cX5_ifExposed 3 (some FieldType.int) 2 := ⟨zc_X5_ifExposed, zn_X5, ⟨by decide, by decide⟩, by decide +kernel⟩
theorem zcv_X5_ifExposed : zCv yX5_ifExposed := ⟨zi_X5_ifExposed, zs_X5_ifExposed⟩
theorem zce_X5_best : zCe yX5_best cX5_best 5 (some FieldType.int) 0 := ⟨zc_X5_best, zn_X5, ⟨by decide, by decide⟩, by decide +kernel⟩
theorem zcv_X5_best : zCv yX5_best := ⟨zi_X5_best, zs_X5_best⟩
theorem zce_X5_bestTime : zCe yX5_bestTime cX5_bestTime 1 (some FieldType.int) 0 := ⟨zc_X5_bestTime, zn_X5, ⟨by decide, by decide⟩, by decide +kernel⟩
theorem zcv_X5_bestTime : zCv yX5_bestTime := ⟨zi_X5_bestTime, zs_X5_bestTime⟩
theorem zce_X5_bestPaper : zCe yX5_bestPaper cX5_bestPaper 8 (some FieldType.int) 0 := ⟨zc_X5_bestPaper, zn_X5, ⟨by decide, by decide⟩, by decide +kernel⟩
theorem zcv_X5_bestPaper : zCv yX5_bestPaper := ⟨zi_X5_bestPaper, zs_X5_bestPaper⟩
theorem zce_X5_bestGrade : zCe yX5_bestGrade cX5_bestGrade 1 (some FieldType.int) 0 := ⟨zc_X5_bestGrade, zn_X5, ⟨by decide, by decide⟩, by decide +kernel⟩
theorem zcv_X5_bestGrade : zCv yX5_bestGrade := ⟨zi_X5_bestGrade, zs_X5_bestGrade⟩
theorem zce_X5_burned : zCe yX5_burned cX5_burned 6 (some FieldType.int) 3 := ⟨zc_X5_burned, zn_X5, ⟨by decide, by decide⟩, by decide +kernel⟩
theorem zcv_X5_burned : zCv yX5_burned := ⟨zi_X5_burned, zs_X5_burned⟩
theorem zce_X5_ifBurned : zCe yX5_ifBurned cX5_ifBurned 5 (some FieldType.int) 3 := ⟨zc_X5_ifBurned, zn_X5, ⟨by decide, by decide⟩, by decide +kernel⟩
theorem zcv_X5_ifBurned : zCv yX5_ifBurned := ⟨zi_X5_ifBurned, zs_X5_ifBurned⟩
theorem zce_X5_together : zCe yX5_together cX5_together 7 (some FieldType.int) 1 := ⟨zc_X5_together, zn_X5, ⟨by decide, by decide⟩, by decide +kernel⟩
theorem zcv_X5_together : zCv yX5_together := ⟨zi_X5_together, zs_X5_together⟩
theorem zce_X5_common : zCe yX5_common cX5_common 2 (some FieldType.int) 1 := ⟨zc_X5_common, zn_X5, ⟨by decide, by decide⟩, by decide +kernel⟩
theorem zcv_X5_common : zCv yX5_common := ⟨zi_X5_common, zs_X5_common⟩
theorem zce_X5_share : zCe yX5_share cX5_share 1 (some FieldType.double) 0 := ⟨zc_X5_share, zn_X5, ⟨by decide, by decide⟩, by decide +kernel⟩
theorem zcv_X5_share : zCv yX5_share := ⟨zi_X5_share, zs_X5_share⟩
theorem zce_X5_rightShare : zCe yX5_rightShare cX5_rightShare 1 (some FieldType.double) 0 := ⟨zc_X5_rightShare, zn_X5, ⟨by decide, by decide⟩, by decide +kernel⟩
theorem zcv_X5_rightShare : zCv yX5_rightShare := ⟨zi_X5_rightShare, zs_X5_rightShare⟩
theorem zce_X5_bitsOf : zCe yX5_bitsOf cX5_bitsOf 6 (some FieldType.long) 1 := ⟨zc_X5_bitsOf, zn_X5, ⟨by decide, by decide⟩, by decide +kernel⟩
theorem zce_X5_digestOne : zCe yX5_digestOne cX5_digestOne 3 (none : Option FieldType) 1 := ⟨zc_X5_digestOne, zn_X5, ⟨by decide, by decide⟩, by decide +kernel⟩
theorem zcv_X5_digestOne : zCv yX5_digestOne := ⟨zi_X5_digestOne, zs_X5_digestOne⟩
theorem zce_X5_digest : zCe yX5_digest cX5_digest 3 (some FieldType.long) 0 := ⟨zc_X5_digest, zn_X5, ⟨by decide, by decide⟩, by decide +kernel⟩
theorem zcv_X5_digest : zCv yX5_digest := ⟨zi_X5_digest, zs_X5_digest⟩
theorem zce_J6_compare_7cf53 : zCe yJ6_compare_7cf53 cJ6_compare_7cf53 2 (some FieldType.int) 2 := ⟨zc_J6_compare_7cf53, zn_J6, ⟨by decide, by decide⟩, by decide +kernel⟩
theorem zce_J6_bitCount_0f7a4 : zCe yJ6_bitCount_0f7a4 cJ6_bitCount_0f7a4 1 (some FieldType.int) 1 := ⟨zc_J6_bitCount_0f7a4, zn_J6, ⟨by decide, by decide⟩, by decide +kernel⟩
theorem zce_J9_floorMod_7cf53 : zCe yJ9_floorMod_7cf53 cJ9_floorMod_7cf53 3 (some FieldType.int) 2 := ⟨zc_J9_floorMod_7cf53, zn_J9, ⟨by decide, by decide⟩, by decide +kernel⟩
theorem zce_J9_abs_0f7a4 : zCe yJ9_abs_0f7a4 cJ9_abs_0f7a4 1 (some FieldType.int) 1 := ⟨zc_J9_abs_0f7a4, zn_J9, ⟨by decide, by decide⟩, by decide +kernel⟩
theorem zce_J9_max_7cf53 : zCe yJ9_max_7cf53 cJ9_max_7cf53 2 (some FieldType.int) 2 := ⟨zc_J9_max_7cf53, zn_J9, ⟨by decide, by decide⟩, by decide +kernel⟩
theorem zce_J9_max_f86c9 : zCe yJ9_max_f86c9 cJ9_max_f86c9 4 (some FieldType.long) 2 := ⟨zc_J9_max_f86c9, zn_J9, ⟨by decide, by decide⟩, by decide +kernel⟩
theorem zce_J9_min_7cf53 : zCe yJ9_min_7cf53 cJ9_min_7cf53 2 (some FieldType.int) 2 := ⟨zc_J9_min_7cf53, zn_J9, ⟨by decide, by decide⟩, by decide +kernel⟩
theorem zce_J9_min_f86c9 : zCe yJ9_min_f86c9 cJ9_min_f86c9 4 (some FieldType.long) 2 := ⟨zc_J9_min_f86c9, zn_J9, ⟨by decide, by decide⟩, by decide +kernel⟩
