/-! what the statement gives of the start -/
theorem zgL {a b : Cond} {A : Array Value} {s : State} (h : (Cond.and a b).before A s = true) : a.before A s = true := by
  rw [Cond.before_and, Bool.and_eq_true] at h
  exact h.1
theorem zgR {a b : Cond} {A : Array Value} {s : State} (h : (Cond.and a b).before A s = true) : b.before A s = true := by
  rw [Cond.before_and, Bool.and_eq_true] at h
  exact h.2
def zGv (A : Array Value) (s : State) : Prop := narrow_1.before A s = true
theorem zly_STEPS : Cond.laysStatic "ZonePrint$Paper" "STEPS" "[I" ∈ lw_tbl := zq1_in (List.mem_of_getElem? (i := 40) rfl)
theorem zgv_STEPS {A : Array Value} {s : State} {F : Nat → Prop} (hts : ∀ w ∈ lw_tbl, w.before A s = true) (hg0 : zGv A s) (hF : ∀ a : Nat, a < s.heap.size → ¬ F a) : ∃ t : Nat, va_Z "ZonePrint$Paper" "STEPS" "[I" (.ref t) F s s.heap ∧ va_T .int t 6 (fun j => .int (zI (zSteps j))) F s s.heap := by
  have hg := hg0
  unfold zGv narrow_1 at hg
  have hel : ∀ j : Nat, j < 6 → (Term.elem (.static "ZonePrint$Paper" "STEPS" "[I") (.int (Int32.ofNat j))).eval A s none [] s = some (.int (zI (zSteps j))) := by
    intro j hj
    rcases (show j = 0 ∨ j = 1 ∨ j = 2 ∨ j = 3 ∨ j = 4 ∨ j = 5 by omega) with rfl | rfl | rfl | rfl | rfl | rfl
    · exact va_eqt (zgR (zgR (zgR (zgL (zgL (zgL (zgL (zgL (zgL (zgL hg))))))))))
    · exact va_eqt (zgL (zgL (zgR (zgL (zgL (zgL (zgL (zgL (zgL hg)))))))))
    · exact va_eqt (zgL (zgR (zgL (zgR (zgL (zgL (zgL (zgL (zgL (zgL hg))))))))))
    · exact va_eqt (zgR (zgR (zgL (zgR (zgL (zgL (zgL (zgL (zgL (zgL hg))))))))))
    · exact va_eqt (zgL (zgR (zgR (zgL (zgL (zgL (zgL (zgL (zgL hg)))))))))
    · exact va_eqt (zgL (zgR (zgR (zgR (zgL (zgL (zgL (zgL (zgL (zgL hg))))))))))
  obtain ⟨t, e, hT⟩ := va_Tof (args := A) (s := s) (tm := .static "ZonePrint$Paper" "STEPS" "[I") (ty := .int) (N := 6) (f := fun j => .int (zI (zSteps j))) (A := F) (by decide) (zgL (zgR (zgL (zgL (zgL (zgL (zgL (zgL (zgL hg))))))))) (va_eqt (zgL (zgR (zgR (zgL (zgL (zgL (zgL (zgL (zgL (zgL hg))))))))))) hel hF
  exact ⟨t, va_Zof (hts _ zly_STEPS) (hts _ (zTbl_in _ zn_X2)) e hF, hT⟩
theorem zly_THROUGH : Cond.laysStatic "ZonePrint$Paper" "THROUGH" "[I" ∈ lw_tbl := zq1_in (List.mem_of_getElem? (i := 195) rfl)
theorem zgv_THROUGH {A : Array Value} {s : State} {F : Nat → Prop} (hts : ∀ w ∈ lw_tbl, w.before A s = true) (hg0 : zGv A s) (hF : ∀ a : Nat, a < s.heap.size → ¬ F a) : ∃ t : Nat, va_Z "ZonePrint$Paper" "THROUGH" "[I" (.ref t) F s s.heap ∧ va_T .int t 3 (fun j => .int (zI (zThr j))) F s s.heap := by
  have hg := hg0
  unfold zGv narrow_1 at hg
  have hel : ∀ j : Nat, j < 3 → (Term.elem (.static "ZonePrint$Paper" "THROUGH" "[I") (.int (Int32.ofNat j))).eval A s none [] s = some (.int (zI (zThr j))) := by
    intro j hj
    rcases (show j = 0 ∨ j = 1 ∨ j = 2 by omega) with rfl | rfl | rfl
    · exact va_eqt (zgR (zgR (zgL (zgL (zgR (zgL (zgL (zgL (zgL (zgL hg))))))))))
    · exact va_eqt (zgL (zgR (zgL (zgR (zgL (zgL (zgL (zgL (zgL hg)))))))))
    · exact va_eqt (zgL (zgR (zgR (zgL (zgR (zgL (zgL (zgL (zgL (zgL hg))))))))))
  obtain ⟨t, e, hT⟩ := va_Tof (args := A) (s := s) (tm := .static "ZonePrint$Paper" "THROUGH" "[I") (ty := .int) (N := 3) (f := fun j => .int (zI (zThr j))) (A := F) (by decide) (zgL (zgL (zgL (zgR (zgL (zgL (zgL (zgL (zgL hg))))))))) (va_eqt (zgL (zgR (zgL (zgL (zgR (zgL (zgL (zgL (zgL (zgL hg))))))))))) hel hF
  exact ⟨t, va_Zof (hts _ zly_THROUGH) (hts _ (zTbl_in _ zn_X2)) e hF, hT⟩
theorem zly_THIRDS : Cond.laysStatic "ZonePrint$Print" "THIRDS" "[I" ∈ lw_tbl := zq2_in (List.mem_of_getElem? (i := 136) rfl)
theorem zgv_THIRDS {A : Array Value} {s : State} {F : Nat → Prop} (hts : ∀ w ∈ lw_tbl, w.before A s = true) (hg0 : zGv A s) (hF : ∀ a : Nat, a < s.heap.size → ¬ F a) : ∃ t : Nat, va_Z "ZonePrint$Print" "THIRDS" "[I" (.ref t) F s s.heap ∧ va_T .int t 3 (fun j => .int (zI (zThi j))) F s s.heap := by
  have hg := hg0
  unfold zGv narrow_1 at hg
  have hel : ∀ j : Nat, j < 3 → (Term.elem (.static "ZonePrint$Print" "THIRDS" "[I") (.int (Int32.ofNat j))).eval A s none [] s = some (.int (zI (zThi j))) := by
    intro j hj
    rcases (show j = 0 ∨ j = 1 ∨ j = 2 by omega) with rfl | rfl | rfl
    · exact va_eqt (zgR (zgR (zgL (zgR (zgR (zgL (zgL (zgL (zgL (zgL hg))))))))))
    · exact va_eqt (zgL (zgR (zgR (zgR (zgL (zgL (zgL (zgL (zgL hg)))))))))
    · exact va_eqt (zgL (zgR (zgR (zgR (zgR (zgL (zgL (zgL (zgL (zgL hg))))))))))
  obtain ⟨t, e, hT⟩ := va_Tof (args := A) (s := s) (tm := .static "ZonePrint$Print" "THIRDS" "[I") (ty := .int) (N := 3) (f := fun j => .int (zI (zThi j))) (A := F) (by decide) (zgL (zgL (zgR (zgR (zgL (zgL (zgL (zgL (zgL hg))))))))) (va_eqt (zgL (zgR (zgL (zgR (zgR (zgL (zgL (zgL (zgL (zgL hg))))))))))) hel hF
  exact ⟨t, va_Zof (hts _ zly_THIRDS) (hts _ (zTbl_in _ zn_X3)) e hF, hT⟩
theorem zgv_str {A : Array Value} {s : State} {k : Nat} {tx : String} (hw : (Cond.stringRef RX4 k tx).before A s = true) (h : (Cond.exactly (.string RX4 k) "java/lang/String").before A s = true) : ∃ a : Nat, vk_R RX4 k tx a s := by
  obtain ⟨a, c, cA, kA, q1, q2, q3, q4, q5, q6, -⟩ := Cond.exactly_spec h
  exact ⟨a, vk_R.of hw q1⟩
theorem zgv_zXw {b : Nat} {s : State} {G : zG} (hts : ∀ w ∈ lw_tbl, w.before #[Value.ref b] s = true) (hg0 : zGv #[Value.ref b] s) (hF : ∀ a : Nat, a < s.heap.size → ¬ zA G a) : zXw G s := by
  have hg := hg0
  unfold zGv narrow_1 at hg
  refine ⟨fun w hw => va_Nw.of (zXl_on w hw) (hts w (zXl_in w hw)), ?_, ⟨?_, ?_⟩, ?_⟩
  · intro q hq
    unfold zTx at hq
    simp only [List.mem_cons, List.not_mem_nil, or_false] at hq
    rcases hq with rfl | rfl | rfl | rfl | rfl | rfl | rfl | rfl | rfl | rfl | rfl | rfl | rfl | rfl | rfl | rfl | rfl | rfl | rfl | rfl
    · exact zgv_str (hts _ zsr_47) (zgL (zgL (zgL (zgL (zgL (zgR (zgL (zgL (zgL hg)))))))))
    · exact zgv_str (hts _ zsr_58) (zgL (zgR (zgR (zgL (zgR (zgR (zgR (zgL (zgL (zgL hg))))))))))
    · exact zgv_str (hts _ zsr_75) (zgL (zgR (zgL (zgL (zgR (zgL (zgL (zgR (zgL (zgL hg))))))))))
    · exact zgv_str (hts _ zsr_78) (zgL (zgL (zgR (zgL (zgR (zgL (zgR (zgL (zgL hg)))))))))
    · exact zgv_str (hts _ zsr_83) (zgR (zgR (zgR (zgL (zgL (zgL (zgR (zgR (zgL (zgL hg))))))))))
    · exact zgv_str (hts _ zsr_93) (zgL (zgR (zgL (zgR (zgR (zgR (zgR (zgR (zgL (zgL hg))))))))))
    · exact zgv_str (hts _ zsr_102) (zgR (zgR (zgL (zgR (zgR (zgL (zgL (zgL (zgR (zgL hg))))))))))
    · exact zgv_str (hts _ zsr_113) (zgR (zgL (zgR (zgR (zgR (zgR (zgL (zgL (zgR (zgL hg))))))))))
    · exact zgv_str (hts _ zsr_128) (zgL (zgL (zgR (zgR (zgR (zgR (zgL (zgR (zgL hg)))))))))
    · exact zgv_str (hts _ zsr_133) (zgL (zgL (zgR (zgR (zgR (zgL (zgL (zgR (zgR (zgL hg))))))))))
    · exact zgv_str (hts _ zsr_135) (zgL (zgR (zgL (zgL (zgL (zgL (zgR (zgR (zgR (zgL hg))))))))))
    · exact zgv_str (hts _ zsr_150) (zgL (zgL (zgR (zgR (zgR (zgR (zgR (zgR (zgL hg)))))))))
    · exact zgv_str (hts _ zsr_158) (zgL (zgL (zgR (zgR (zgR (zgL (zgL (zgL (zgR hg)))))))))
    · exact zgv_str (hts _ zsr_163) (zgL (zgR (zgL (zgR (zgL (zgR (zgR (zgL (zgL (zgR hg))))))))))
    · exact zgv_str (hts _ zsr_168) (zgR (zgR (zgL (zgL (zgR (zgL (zgL (zgR (zgL (zgR hg))))))))))
    · exact zgv_str (hts _ zsr_173) (zgR (zgL (zgR (zgR (zgR (zgR (zgL (zgR (zgL (zgR hg))))))))))
    · exact zgv_str (hts _ zsr_179) (zgL (zgR (zgR (zgL (zgR (zgL (zgL (zgL (zgR (zgR hg))))))))))
    · exact zgv_str (hts _ zsr_184) (zgR (zgR (zgL (zgL (zgL (zgL (zgR (zgL (zgR (zgR hg))))))))))
    · exact zgv_str (hts _ zsr_202) (zgL (zgL (zgR (zgL (zgL (zgL (zgR (zgR (zgR hg)))))))))
    · exact zgv_str (hts _ zsr_208) (zgL (zgR (zgR (zgR (zgL (zgL (zgR (zgR (zgR (zgR hg))))))))))
  · exact vx_Zqof (hts _ zls_UNASSIGNED_STACK) (hts _ (zTbl_in _ zn_Throwable)) (zgR (zgR (zgR (zgR (zgR (zgL (zgL (zgL (zgL (zgL hg)))))))))) hF
  · exact vx_Zqof (hts _ zls_SUPPRESSED_SENTINEL) (hts _ (zTbl_in _ zn_Throwable)) (zgL (zgL (zgL (zgL (zgR (zgL (zgL (zgL (zgL hg))))))))) hF
  · intro q hq
    unfold zNcs at hq
    simp only [List.mem_cons, List.not_mem_nil, or_false] at hq
    rcases hq with rfl | rfl
    · exact va_Nc.of (zgL (zgR (zgL (zgR (zgL (zgR (zgL (zgL (zgL (zgL hg))))))))))
    · exact va_Nc.of (zgL (zgR (zgR (zgR (zgR (zgR (zgL (zgL (zgL (zgL hg))))))))))
theorem zgv_aI {A : Array Value} {s : State} (hts : ∀ w ∈ lw_tbl, w.before A s = true) : ∃ cA : ClassId, ArrOfT s cA .int ∧ va_RA s cA .int := by
  obtain ⟨c, k, comp, h1, h2, h3⟩ := Cond.arrayClass_spec (hts _ (zTbl_in _ za_120))
  exact ⟨c, fun n z => ⟨(fun k h => by cases h), k, h2, comp, h3⟩, h1⟩
theorem zgv_aJ {A : Array Value} {s : State} (hts : ∀ w ∈ lw_tbl, w.before A s = true) : ∃ cA : ClassId, ArrOfT s cA .long ∧ va_RA s cA .long := by
  obtain ⟨c, k, comp, h1, h2, h3⟩ := Cond.arrayClass_spec (hts _ (zTbl_in _ za_1099))
  exact ⟨c, fun n z => ⟨(fun k h => by cases h), k, h2, comp, h3⟩, h1⟩
theorem zgv_aO {A : Array Value} {s : State} (hts : ∀ w ∈ lw_tbl, w.before A s = true) : ∃ cA : ClassId, ArrOfT s cA (.object "ZonePrint$Print") ∧ va_RA s cA (.object "ZonePrint$Print") := by
  obtain ⟨comp, c, k, h1, h2, h3, h4, h5⟩ := Cond.arrayOver_spec (hts _ zao_Print)
  exact ⟨c, fun n z => ⟨(fun k h => by cases h), k, h3, comp, h4⟩, k, comp, h3, h4, h1, h5⟩
theorem zgv_st {b : Nat} {s : State} (h : (Cond.and given_1 narrow_1).before #[Value.ref b] s = true) : zGv #[Value.ref b] s := zgR h
/-- the six classes, the three kinds of rows -/
theorem zgv_K {A : Array Value} {s : State} (hts : ∀ w ∈ lw_tbl, w.before A s = true) : ∃ (D : va_G) (x : ClassId × ClassId × ClassId), va_K D vwCl [(x.1, .int), (x.2.1, .object "ZonePrint$Print"), (x.2.2, .long)] s := by
  have hz : ∀ w ∈ zTbl, w.before A s = true := fun w h => hts w (zTbl_in w h)
  obtain ⟨c0, i0, k0⟩ := u_known (C := RX0) (T := TX0) (N := 3) (n := 3) hz zin_X0 (hz _ zo_X0)
  obtain ⟨c1, i1, k1⟩ := u_known (C := RX1) (T := TX1) (N := 4) (n := 4) hz zin_X1 (hz _ zo_X1)
  obtain ⟨c2, i2, k2⟩ := u_known (C := RX2) (T := TX2) (N := 3) (n := 3) hz zin_X2 (hz _ zo_X2)
  obtain ⟨c3, i3, k3⟩ := u_known (C := RX3) (T := TX3) (N := 10) (n := 10) hz zin_X3 (hz _ zo_X3)
  obtain ⟨c4, i4, k4⟩ := u_known (C := RX4) (T := TX4) (N := 6) (n := 6) hz zin_X4 (hz _ zo_X4)
  obtain ⟨c5, i5, k5⟩ := u_known (C := RX5) (T := TX5) (N := 15) (n := 15) hz zin_X5 (hz _ zo_X5)
  obtain ⟨aI, hI⟩ := zgv_aI hts
  obtain ⟨aO, hO⟩ := zgv_aO hts
  obtain ⟨aJ, hJ⟩ := zgv_aJ hts
  refine ⟨((fun k => if k = 0 then c0 else if k = 1 then c1 else if k = 2 then c2 else if k = 3 then c3 else if k = 4 then c4 else c5), (fun k => if k = 0 then i0 else if k = 1 then i1 else if k = 2 then i2 else if k = 3 then i3 else if k = 4 then i4 else i5)), (aI, aO, aJ), ?_, ?_⟩
  · intro k q hq
    match k, hq with
    | 0, hq => cases hq; exact k0
    | 1, hq => cases hq; exact k1
    | 2, hq => cases hq; exact k2
    | 3, hq => cases hq; exact k3
    | 4, hq => cases hq; exact k4
    | 5, hq => cases hq; exact k5
    | k + 6, hq => simp [vwCl] at hq
  · intro k q hq
    match k, hq with
    | 0, hq => cases hq; exact hI
    | 1, hq => cases hq; exact hO
    | 2, hq => cases hq; exact hJ
    | k + 3, hq => simp at hq
