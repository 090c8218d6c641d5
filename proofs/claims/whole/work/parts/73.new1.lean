/-! what is made anew: the worlds of the constructors -/
theorem zao_Print : Cond.arrayOver (.object "ZonePrint$Print") ∈ lw_tbl := by decide +kernel
def zV (G : zG) (U : State) : Prop := zU G U ∧ va_AO "ZonePrint$Print" U
def zBI (G : zG) (ws : va_W) (sz : Nat) (U : State) : Prop := U.heap.size = sz ∧ va_P (zD G) vwCl ws U.heap ∧ zV G U ∧ va_D (zA G) ws
theorem zBI.blind (G : zG) (ws : va_W) (sz : Nat) (avs : List Value) : FrameBlind (va_Pc avs (zBI G ws sz)) := by
  intro a U g mk q
  obtain ⟨q0, q1, q2, q3, q4⟩ := q
  exact ⟨q0, q1, q2, ⟨⟨va_K.moved (u := U) (U := U.calling g mk a) (Vm.Alike.refl U.vm) q3.1.1, q3.1.2.1, zNs.same (s := U) (U := U.calling g mk a) rfl q3.1.2.2.1, zTs.moved (u := U) (U := U.calling g mk a) (H := U.heap) (H1 := U.heap) (Vm.Alike.refl U.vm) (fun _ _ _ => rfl) q3.1.2.2.2⟩, va_AO.moved (u := U) (U := U.calling g mk a) (Vm.Alike.refl U.vm) q3.2⟩, q4⟩
/-- beside the cells of a call stand the others as they were -/
theorem zJoin {A0 : Nat → Prop} {D : va_G} {cl : List vw_C} {ws wc w1 : va_W} {H H1 : Heap} (hP : va_P D cl (ws ++ wc) H) (hD : va_D A0 (ws ++ wc)) (hk : ∀ q : Nat, q < H.size → ¬ va_A wc H.size q → H1[q]? = H[q]?) (hA : ∀ q, H.size ≤ q → A0 q) (hP1 : va_P D cl w1 H1) (hD1 : va_D (va_A wc H.size) w1) : va_P D cl (ws ++ w1) H1 ∧ va_D A0 (ws ++ w1) := by
  have hl : ∀ (k : Nat) (q : Nat × va_E), ws[k]? = some q → q.1 < H.size ∧ ¬ va_A wc H.size q.1 := by
    intro k q hq
    have h1 : (ws ++ wc)[k]? = some q := by rw [List.getElem?_append_left (List.getElem?_eq_some_iff.mp hq).1]; exact hq
    refine ⟨(hP k q h1).lt, fun hh => ?_⟩
    rcases hh with ⟨j, e, hj⟩ | hh
    · have h2 : (ws ++ wc)[ws.length + j]? = some (q.1, e) := by rw [List.getElem?_append_right (by omega), show ws.length + j - ws.length = j by omega]; exact hj
      have h3 := hD.1 k (ws.length + j) q (q.1, e) h1 h2 rfl
      have h4 := (List.getElem?_eq_some_iff.mp hq).1
      omega
    · exact absurd (hP k q h1).lt (by omega)
  have hw : va_P D cl ws H := fun k q hq => hP k q (by rw [List.getElem?_append_left (List.getElem?_eq_some_iff.mp hq).1]; exact hq)
  refine ⟨(hw.kept (fun k q hq => hk q.1 (hl k q hq).1 (hl k q hq).2)).app hP1, ?_, ?_⟩
  · have key : ∀ (i j : Nat) (p q : Nat × va_E), ws[i]? = some p → w1[j]? = some q → p.1 ≠ q.1 := fun i j p q h1 h2 h3 => (hl i p h1).2 (h3 ▸ hD1.2 j q h2)
    intro i j p q h1 h2 h3
    by_cases hi : i < ws.length
    · rw [List.getElem?_append_left hi] at h1
      by_cases hj : j < ws.length
      · rw [List.getElem?_append_left hj] at h2
        exact hD.1 i j p q (by rw [List.getElem?_append_left hi]; exact h1) (by rw [List.getElem?_append_left hj]; exact h2) h3
      · rw [List.getElem?_append_right (by omega)] at h2
        exact absurd h3 (key _ _ _ _ h1 h2)
    · rw [List.getElem?_append_right (by omega)] at h1
      by_cases hj : j < ws.length
      · rw [List.getElem?_append_left hj] at h2
        exact absurd h3.symm (key _ _ _ _ h2 h1)
      · rw [List.getElem?_append_right (by omega)] at h2
        have := hD1.1 _ _ p q h1 h2 h3
        omega
  · intro k q hq
    by_cases hi : k < ws.length
    · rw [List.getElem?_append_left hi] at hq
      exact hD.2 k q (by rw [List.getElem?_append_left hi]; exact hq)
    · rw [List.getElem?_append_right (by omega)] at hq
      rcases hD1.2 _ q hq with ⟨j, e, hj⟩ | hh
      · have h2 : (ws ++ wc)[ws.length + j]? = some (q.1, e) := by rw [List.getElem?_append_right (by omega), show ws.length + j - ws.length = j by omega]; exact hj
        exact hD.2 _ (q.1, e) h2
      · exact hA _ hh
section ZN
variable {p : Program} {l : Launch} {e : Env} {R : Room} {s : State} {m : MethodId} {args : Array Value} {below : List Frame} {meth : Method} {c : Code} {H : Heap} {locs : List Loc} {cells slots : Nat} {Q : State → Prop} {cc : ByteArray} {pc : Nat} {ls : Array Slot} {rest : List Value} {nL : Nat} {own : String} {G : zG} {A : Nat → Prop} {ws : va_W}
theorem zSz (hS : va_S A s.heap H locs) (hAz : ∀ q, A q → zn G ≤ q) : va_S (zA G) s.heap H locs := ⟨hS.1, fun q h1 h2 => hS.2.1 q h1 (fun z => h2 (hAz q z)), fun l hl => hAz _ (hS.2.2 l hl)⟩
theorem zMetN {y : MethodName} {rm : Room} {Qc : Nat → Array Value → State → Outcome → State → Prop} {maxL mc ms : Nat} {ret : Option FieldType} {avs : List Value} (lv : List (Nat × Value)) (hG : zok G) (hy : plainName y.cls = true) (hlen : (lg_sl avs).length ≤ maxL) (hlv : lv_args 0 avs = lv)
    (body : ∀ (p : Program) (e : Env) (s : State) (m : MethodId) (args : Array Value) (below : List Frame) (meth : Method) (c : Code) (ls : Array Slot), zE p s m args meth c cc maxL y.cls G → va_AO "ZonePrint$Print" s → meth.name = y.name → meth.sig.returnType = ret → va_P (zD G) vwCl ws s.heap → va_D (va_A ws s.heap.size) ws → (∀ q, va_A ws s.heap.size q → zn G ≤ q) → lv_has ls maxL lv → W p l e rm s m args below meth c s.heap [] 0 0 (MQ below (Qc s.heap.size) args s mc ms (va_A ws s.heap.size)) (F0 m 0 ls [])) :
    ∀ sz : Nat, Met l y (Cond.code y cc maxL ret :: zTbl) rm (va_Pc avs (zBI G ws sz)) (Qc sz) mc ms (va_A ws sz) := by
  intro sz
  refine Met.ofW (cc := cc) (maxL := maxL) (ret := ret) hy rfl ?_
  intro p e s m args below meth c s₁ B hml hv
  obtain ⟨rfl, rfl, hP, ⟨hU, hO⟩, hD⟩ := hv
  have hts := atoms_spec (ws := Cond.code y cc maxL ret :: zTbl) B.pre
  rw [lg_entry_eq]
  refine body p e s m _ below meth c _ ⟨B.exec, B.bytes, hml, findClass_of_methodNamed B.named, fun w hw => hts w (List.mem_cons_of_mem _ hw), B.notSynchronized, hU, hG⟩ hO (name_of_methodNamed B.named B.method).1 B.returns hP hD.self (fun q hq => ?_) ?_
  · rcases hq with ⟨k, e1, hk⟩ | hq
    · exact hD.2 k _ hk
    · exact Nat.le_trans hU.2.1 hq
  · rw [← hlv]
    exact lv_entry avs hlen
theorem zObj (h : zE p s m args meth c cc nL own G) {ix a : Nat} (hl : Cond.methodLink own ix objectInit ∈ zTbl) (hls : ls.size = nL) (hR : 1 ≤ R.frames ∧ 30 ≤ R.locals) (hW : (rest.map fun v => v.category).sum ≤ 8) (hdg : decode cc pc = .ok (.invokespecial ix, 3)) (k : W p l e R s m args below meth c H locs cells slots Q (F0 m (pc + 3) ls rest)) : W p l e R s m args below meth c H locs cells slots Q (F0 m pc ls (.ref a :: rest)) :=
  W.objInit h.1 h.2.1 h.2.2.2.1 (h.2.2.2.2.1 _ hl) (h.2.2.2.2.1 _ zi_objectInit) (h.2.2.2.2.1 _ zc_objectInit) rfl (hls.trans h.2.2.1.symm) rfl hdg hR.1 (by have h9 : 2 * (F0 m pc ls (.ref a :: rest)).monitorRoom = 0 := rfl; omega) k
/-- a new row of ints -/
theorem zNewI (h : zE p s m args meth c cc nL own G) (hP : va_P (zD G) vwCl ws H) (hD : va_D A ws) (hS : va_S A s.heap H locs) (hA : ∀ q, s.heap.size ≤ q → A q) {n : Int} {N : Nat} (hn : n = (N : Int)) (hN : N ≤ 1000) (hcs : cells + 1 ≤ R.cells ∧ slots + N ≤ R.slots) (hdg : decode cc pc = .ok (.newarray .int, 2))
    (k : ∀ (q : Nat) (H1 : Heap), va_P (zD G) vwCl (ws ++ [(q, .inl (zcI G, N, .inl (fun _ => zI 0)))]) H1 → va_D A (ws ++ [(q, .inl (zcI G, N, .inl (fun _ => zI 0)))]) → va_S A s.heap H1 locs → W p l e R s m args below meth c H1 locs (cells + 1) (slots + N) Q (F0 m (pc + 2) ls (.ref q :: rest))) : W p l e R s m args below meth c H locs cells slots Q (F0 m pc ls (.int (zI n) :: rest)) := by
  subst hn
  have e1 : (zI (N : Int)).toInt = N := zI_toInt (by omega) (by omega)
  refine va_newa (atype := .int) (ty := .int) (a0 := (N, .inl (fun _ => zI 0))) h.1 h.2.1 (h.2.2.2.2.1 _ za_120) rfl h.2.2.2.2.2.2.1.1 hP hD hS hA (fun cA => by rw [← zI_0]; rfl) (by rw [zI_0, zI_lt (by omega) (by omega)]; omega) (by rw [Int32.toNatClampNeg, e1]; omega) (by show N * 4 ≤ _; omega) hcs.1 hcs.2 hdg (fun q cA H1 hK hP hD hS => ?_)
  have ea : va_RA s cA .int := (hK.2 3 (cA, .int) rfl).2
  have eb : va_RA s (zcI G) .int := (h.2.2.2.2.2.2.1.1.2 0 (zcI G, .int) rfl).2
  have ec : cA = zcI G := Option.some.inj ((show _ = some cA from ea).symm.trans eb)
  subst ec
  exact k q H1 hP hD hS
/-- a constructor's call on the object made last -/
theorem zCtor (h : zE p s m args meth c cc nL own G) (hO : va_AO "ZonePrint$Print" s) {wc : va_W} {q : Nat} (hP : va_P (zD G) vwCl (ws ++ wc) H) (hD : va_D A (ws ++ wc)) (hS : va_S A s.heap H locs) (hA : ∀ q, s.heap.size ≤ q → A q) (hAz : ∀ q, A q → zn G ≤ q) {y : MethodName} {bytes : ByteArray} {maxL index : Nat} {rm : Room} {mc ms : Nat} {α : Type} {post : α → Prop} {Wf : α → va_W} (hM : ∀ sz : Nat, Met l y (Cond.code y bytes maxL none :: zTbl) rm (va_Pc [.ref q] (zBI G wc sz)) (va_Qv post (fun u t => va_P (zD G) vwCl (Wf u) t.heap ∧ va_D (va_A wc sz) (Wf u)) (va_A wc sz)) mc ms (va_A wc sz)) (hc : zCe y bytes maxL none 0) (hi : Cond.instanceMethod y ∈ zTbl) (hy : y.name = "<init>") (hl : Cond.methodLink own index y ∈ zTbl) (hls : ls.size = nL) (h0 : rm.cells = mc ∧ rm.slots = ms) (hR : rm.frames + 1 ≤ R.frames ∧ 8 + (maxL + 11) + rm.locals ≤ R.locals) (hW : (rest.map fun v => v.category).sum ≤ 8) (hcs : cells + mc ≤ R.cells ∧ slots + ms ≤ R.slots) (hdg : decode cc pc = .ok (.invokespecial index, 3))
    (k : ∀ (u : α) (H1 : Heap) (locs1 : List Loc), post u → va_P (zD G) vwCl (ws ++ Wf u) H1 → va_D A (ws ++ Wf u) → va_S A s.heap H1 locs1 → W p l e R s m args below meth c H1 locs1 (cells + mc) (slots + ms) Q (F0 m (pc + 3) ls rest)) : W p l e R s m args below meth c H locs cells slots Q (F0 m pc ls (.ref q :: rest)) := by
  have hPc : va_P (zD G) vwCl wc H := fun k x hx => hP (ws.length + k) x (by rw [List.getElem?_append_right (by omega), show ws.length + k - ws.length = k by omega]; exact hx)
  have hDc : va_D (zA G) wc := by
    refine ⟨fun i j p q h1 h2 h3 => ?_, fun k x hx => hAz _ (hD.2 (ws.length + k) x (by rw [List.getElem?_append_right (by omega), show ws.length + k - ws.length = k by omega]; exact hx))⟩
    have := hD.1 (ws.length + i) (ws.length + j) p q (by rw [List.getElem?_append_right (by omega), show ws.length + i - ws.length = i by omega]; exact h1) (by rw [List.getElem?_append_right (by omega), show ws.length + j - ws.length = j by omega]; exact h2) h3
    omega
  have hAw : ∀ x, va_A wc H.size x → A x := by
    intro x hx
    rcases hx with ⟨k, e1, hk⟩ | hx
    · exact hD.2 (ws.length + k) (x, e1) (by rw [List.getElem?_append_right (by omega), show ws.length + k - ws.length = k by omega]; exact hk)
    · exact hA x (Nat.le_trans hS.1 hx)
  have cb : CallB R s args own index y bytes maxL none (Cond.code y bytes maxL none :: zTbl) rm mc ms 0 := by
    refine ⟨h0.1, h0.2, hR.1, hR.2, ?_, List.mem_cons_self, h.2.2.2.2.1 _ hc.1, h.2.2.2.2.1 _ hc.2.1, hc.2.2.1, ?_, h.2.2.2.2.1 _ hl⟩
    · intro w hw a' U hW
      rcases List.mem_cons.mp hw with rfl | hw
      · exact word_at hW (good_of_word (zTbl_good _ hc.1)) (h.2.2.2.2.1 _ hc.1)
      · exact word_at hW (good_of_word (zTbl_good _ hw)) (h.2.2.2.2.1 _ hw)
    · intro sig hs
      have h2 := hc.2.2.2
      rw [hs] at h2
      exact (Option.some.inj h2).symm
  refine va_callv (va_runI (As := []) (rest := rest) ⟨h.1, h.2.1, h.2.2.1, h.2.2.2.1, h.2.2.2.2.1⟩ (hM H.size) ⟨cb, hy, h.2.2.2.2.1 _ hi⟩ ⟨zBI.blind G wc H.size _, fun U hU hW => ⟨rfl, by rw [hU], by rw [hU]; exact hPc, ⟨zU.go h.2.2.2.2.2.2.1 (zSz hS hAz) hU hW, va_AO.moved hW.alike hO⟩, hDc⟩⟩ rfl rfl hls rfl (lv_room hW) hdg hcs) hS (fun x _ hx => hAw x hx) hAw (fun u t H1 locs1 ht hvm hw hB hz1 hk1 hS1 => ?_)
  obtain ⟨hP1, hD1⟩ := hB
  rw [ht] at hP1
  have hj := zJoin hP hD hk1 (fun x hx => hA x (Nat.le_trans hS.1 hx)) hP1 hD1
  exact k u H1 locs1 hw hj.1 hj.2 hS1
end ZN
