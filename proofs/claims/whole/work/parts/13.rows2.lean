section ZJ3
variable {p : Program} {l : Launch} {e : Env} {R : Room} {s : State} {m : MethodId} {args : Array Value} {below : List Frame} {meth : Method} {c : Code} {H : Heap} {locs : List Loc} {cells slots : Nat} {Q : State → Prop} {cc : ByteArray} {pc : Nat} {ls : Array Slot} {rest : List Value} {nL : Nat} {own : String} {G : zG} {S : zM}
theorem zb_top {x y : Int} (e0 : x = y) (k : W p l e R s m args below meth c H locs cells slots Q (F0 m pc ls (.int (zI y) :: rest))) : W p l e R s m args below meth c H locs cells slots Q (F0 m pc ls (.int (zI x) :: rest)) := e0 ▸ k
theorem zb_idivq (h : zE p s m args meth c cc nL own G) {x y : Int} (r : Int) (hr : zI x / zI y = zI r) (hy : ¬ zI y = 0) (hdg : decode cc pc = .ok (.idiv, 1)) (k : W p l e R s m args below meth c H locs cells slots Q (F0 m (pc + 1) ls (.int (zI r) :: rest))) : W p l e R s m args below meth c H locs cells slots Q (F0 m pc ls (.int (zI y) :: .int (zI x) :: rest)) := lv_idiv h.1 h.2.1 hdg hy (hr ▸ k)
theorem zcnSi (h : zE p s m args meth c cc nL own G) (hH : zH G S s H locs) {y : MethodName} {bytes : ByteArray} {maxL n index : Nat} {host : String} {ret : Option FieldType} {rm : Room} {As : List Value} {st0 : List Value} {post : Int32 → zM → Prop} (hM : Met l y (Cond.code y bytes maxL ret :: zTbl) rm (va_Pc As (zB G S)) (va_Qi post (zB G) (zA G)) 0 0 (zA G)) (hc : zCe y bytes maxL ret n) (hv : Cond.static y ∈ zTbl) (hl : Cond.methodLinkNest own index y host ∈ zNest) (hls : ls.size = nL) (hst : st0 = As.reverse ++ rest) (hn : As.length = n) (h0 : rm.cells = 0 ∧ rm.slots = 0) (hR : rm.frames + 1 ≤ R.frames ∧ 8 + (maxL + 11) + rm.locals ≤ R.locals) (hW : (rest.map fun v => v.category).sum ≤ 8) (hcs : cells ≤ R.cells ∧ slots ≤ R.slots) (hdg : decode cc pc = .ok (.invokestatic index, 3))
    (k : ∀ (r : Int32) (S1 : zM) (H1 : Heap) (locs1 : List Loc), post r S1 → zH G S1 s H1 locs1 → W p l e R s m args below meth c H1 locs1 cells slots Q (F0 m (pc + 3) ls (.int r :: rest))) : W p l e R s m args below meth c H locs cells slots Q (F0 m pc ls st0) := by
  subst hst
  have hd : ∀ sig, parseMethodDescriptor y.desc = some sig → n = sig.parameters.length := by
    intro sig hs
    have h2 := hc.2.2.2
    rw [hs] at h2
    exact (Option.some.inj h2).symm
  have hw : ∀ w ∈ (Cond.code y bytes maxL ret :: zTbl), ∀ (a' : Array Value) (U : State), s.WarmedH U.vm → w.before a' U = true := by
    intro w hw a' U hW
    rcases List.mem_cons.mp hw with rfl | hw
    · exact word_at hW (good_of_word (zTbl_good _ hc.1)) (h.2.2.2.2.1 _ hc.1)
    · exact word_at hW (good_of_word (zTbl_good _ hw)) (h.2.2.2.2.1 _ hw)
  have cw : va_CN R s args own index y host bytes maxL ret (Cond.code y bytes maxL ret :: zTbl) rm 0 0 n := ⟨⟨h0.1, h0.2, hR.1, hR.2, hw, List.mem_cons_self⟩, h.2.2.2.2.1 _ hc.1, h.2.2.2.2.1 _ hc.2.1, hc.2.2.1, hd, va_Nw.use rfl (h.2.2.2.2.2.2.1.2.2.1 _ hl)⟩
  refine va_calli (va_runSN (As := As) (rest := rest) ⟨h.1, h.2.1, h.2.2.1, h.2.2.2.1, h.2.2.2.2.1⟩ hM ⟨cw, h.2.2.2.2.1 _ hv, trivial⟩ ⟨zB.blind G S _, fun U hU hW => ⟨rfl, zB.go h.2.2.2.2.2.2.1 hH hU hW⟩⟩ rfl hn hls rfl (lv_room hW) hdg ⟨hcs.1, hcs.2⟩) hH.2 (fun q _ h => h) (fun q h => h) (fun r u t H1 locs1 ht hvm hw hB hz1 hk1 hS => ?_)
  exact k r u H1 locs1 hw ⟨by rw [← ht]; exact hB.1, hS⟩
end ZJ3
