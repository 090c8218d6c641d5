/-! the constructors that make no print's state -/
section ZN
variable {p : Program} {l : Launch} {e : Env} {R : Room} {s : State} {m : MethodId} {args : Array Value} {below : List Frame} {meth : Method} {c : Code} {H : Heap} {locs : List Loc} {cells slots : Nat} {Q : State → Prop} {cc : ByteArray} {pc : Nat} {ls : Array Slot} {rest : List Value} {nL : Nat} {own : String} {G : zG} {A : Nat → Prop} {ws : va_W}
theorem zrvN (h : zE p s m args meth c cc nL own G) {α : Type} {post : α → Prop} {Wf : α → va_W} (hr : meth.sig.returnType = none) (u : α) (hp : post u) (hP : va_P (zD G) vwCl (Wf u) H) (hD : va_D A (Wf u)) (hS : va_S A s.heap H locs) (hdg : decode cc pc = .ok (.return_, 1)) : W p l e R s m args below meth c H locs cells slots (MQ below (va_Qv post (fun u t => va_P (zD G) vwCl (Wf u) t.heap ∧ va_D A (Wf u)) A) args s cells slots A) (F0 m pc ls []) :=
  W.vret h.1 h.2.1 hr (fun t ht hW => ⟨⟨u, rfl, hp, by rw [ht]; exact hP, hD⟩, hS.F ht⟩) hS.2.2 hdg h.2.2.2.2.2.1
theorem ygs1 (h : zE p s m args meth c cc nL own G) (hS : va_S (zA G) s.heap H locs) {ix : Nat} (hl : Cond.fieldLink own ix "ZonePrint$Paper" "STEPS" "[I" ∈ zTbl) (hdg : decode cc pc = .ok (.getstatic ix, 3)) (k0 : W p l e R s m args below meth c H locs cells slots Q (F0 m (pc + 3) ls (.ref (zt1 G) :: rest))) : W p l e R s m args below meth c H locs cells slots Q (F0 m pc ls rest) := va_gets h.1 h.2.1 (h.2.2.2.2.2.2.1.2.2.2.1).1 hS h.2.2.2.1 (h.2.2.2.2.1 _ hl) (fun _ h9 => h9) hdg k0
theorem ytl1 (h : zE p s m args meth c cc nL own G) (hS : va_S (zA G) s.heap H locs) (hdg : decode cc pc = .ok (.arraylength, 1)) (k0 : W p l e R s m args below meth c H locs cells slots Q (F0 m (pc + 1) ls (.int (zI 6) :: rest))) : W p l e R s m args below meth c H locs cells slots Q (F0 m pc ls (.ref (zt1 G) :: rest)) := va_tlen h.1 h.2.1 (h.2.2.2.2.2.2.1.2.2.2.1).2 hS (zI_nat 6) hdg k0
theorem ytd1 (h : zE p s m args meth c cc nL own G) (hS : va_S (zA G) s.heap H locs) {x : Int} (h0 : 0 ≤ x) (h1 : x < 6) (hdg : decode cc pc = .ok (.iaload, 1)) (k0 : W p l e R s m args below meth c H locs cells slots Q (F0 m (pc + 1) ls (.int (zI (zSteps x)) :: rest))) : W p l e R s m args below meth c H locs cells slots Q (F0 m pc ls (.int (zI x) :: .ref (zt1 G) :: rest)) := va_ti h.1 h.2.1 (h.2.2.2.2.2.2.1.2.2.2.1).2 hS (zI_in h0 (by omega) (by omega)) (v := .int (zI (zSteps x))) (by show Value.int (zI (zSteps ((zI x).toNatClampNeg : Nat))) = _; rw [zI_clamp h0 (by omega)]) hdg k0
theorem yupd {F : Int → Int} {a v : Int} (h : 0 ≤ a) (h2 : a ≤ 2147483647) : upd (fun i : Nat => zI (F i)) (zI a).toNatClampNeg (zI v) = fun i : Nat => zI (zup F a v i) := by
  funext j
  have e : (zI a).toNatClampNeg = a.toNat := by have := zI_clamp h h2; omega
  unfold upd
  rw [e]
  by_cases hj : j = a.toNat
  · rw [if_pos hj, show ((j : Nat) : Int) = a by omega, zup_s]
  · rw [if_neg hj, zup_n (by omega)]
/-- a call on the first object of the whole small world -/
theorem zCallL (h : zE p s m args meth c cc nL own G) (hO : va_AO "ZonePrint$Print" s) {wc : va_W} {q ci : Nat} {fs : List Value} {y : MethodName} (hP : va_P (zD G) vwCl wc H) (hD : va_D A wc) (hS : va_S A s.heap H locs) (hA : ∀ q, s.heap.size ≤ q → A q) (hAz : ∀ q, A q → zn G ≤ q) {r : vw_C} (hq : wc[0]? = some (q, .inr (ci, fs))) (hci : vwCl[ci]? = some r) (hyc : r.1 = y.cls) {bytes : ByteArray} {maxL n index : Nat} {rm : Room} {α : Type} {post : α → Prop} {Wf : α → va_W} {As st0 : List Value} (hM : ∀ sz : Nat, Met l y (Cond.code y bytes maxL none :: zTbl) rm (va_Pc (.ref q :: As) (zBI G wc sz)) (va_Qv post (fun u t => va_P (zD G) vwCl (Wf u) t.heap ∧ va_D (va_A wc sz) (Wf u)) (va_A wc sz)) 0 0 (va_A wc sz)) (hc : zCe y bytes maxL none n) (hv : zCv y) (hl : Cond.methodLink own index y ∈ zTbl) (hls : ls.size = nL) (hst : st0 = As.reverse ++ .ref q :: rest) (hn : As.length = n) (h0 : rm.cells = 0 ∧ rm.slots = 0) (hR : rm.frames + 1 ≤ R.frames ∧ 8 + (maxL + 11) + rm.locals ≤ R.locals) (hW : (rest.map fun v => v.category).sum ≤ 8) (hcs : cells ≤ R.cells ∧ slots ≤ R.slots) (hdg : decode cc pc = .ok (.invokevirtual index, 3))
    (k : ∀ (u : α) (H1 : Heap) (locs1 : List Loc), post u → va_P (zD G) vwCl (Wf u) H1 → va_D A (Wf u) → va_S A s.heap H1 locs1 → W p l e R s m args below meth c H1 locs1 cells slots Q (F0 m (pc + 3) ls rest)) : W p l e R s m args below meth c H locs cells slots Q (F0 m pc ls st0) := by
  subst hst
  have hDc : va_D (zA G) wc := ⟨hD.1, fun k x hx => hAz _ (hD.2 k x hx)⟩
  have hAw : ∀ x, va_A wc H.size x → A x := by
    intro x hx
    rcases hx with ⟨k, e1, hk⟩ | hx
    · exact hD.2 k (x, e1) hk
    · exact hA x (Nat.le_trans hS.1 hx)
  have hrc : ∃ cell : Cell, H[q]? = some cell ∧ cell.vm.isStatics = false ∧ s.vm.findClass y.cls = some cell.cls := hyc ▸ va_recv h.2.2.2.2.2.2.1.1 hP hci hq
  refine va_callv (va_runV (As := As) (rest := rest) ⟨h.1, h.2.1, h.2.2.1, h.2.2.2.1, h.2.2.2.2.1⟩ (hM H.size) ⟨zCB h hc hl h0 hR, h.2.2.2.2.1 _ hv.1, h.2.2.2.2.1 _ hv.2⟩ ⟨zBI.blind G wc H.size _, hrc, fun U hU hW => ⟨rfl, by rw [hU], by rw [hU]; exact hP, ⟨zU.go h.2.2.2.2.2.2.1 (zSz hS hAz) hU hW, va_AO.moved hW.alike hO⟩, hDc⟩⟩ rfl hn hls rfl (lv_room hW) hdg ⟨hcs.1, hcs.2⟩) hS (fun x _ hx => hAw x hx) hAw (fun u t H1 locs1 ht hvm hw hB hz1 hk1 hS1 => ?_)
  obtain ⟨hP1, hD1⟩ := hB
  rw [ht] at hP1
  exact k u H1 locs1 hw hP1 ⟨hD1.1, fun k x hx => hAw _ (hD1.2 k x hx)⟩ hS1
end ZN
theorem zdf_X0 : ∀ j, j < 3 → defaultValue (tyX0 j) = vp_V [.null, .int 0, .int 0] j := fun j hj => by rcases (show j = 0 ∨ j = 1 ∨ j = 2 by omega) with rfl | rfl | rfl <;> rfl
theorem zdf_X1 : ∀ j, j < 4 → defaultValue (tyX1 j) = vp_V [.int 0, .int 0, .int 0, .int 0] j := fun j hj => by rcases (show j = 0 ∨ j = 1 ∨ j = 2 ∨ j = 3 by omega) with rfl | rfl | rfl | rfl <;> rfl
theorem zdf_X2 : ∀ j, j < 3 → defaultValue (tyX2 j) = vp_V [.null, .int 0, .int 0] j := fun j hj => by rcases (show j = 0 ∨ j = 1 ∨ j = 2 by omega) with rfl | rfl | rfl <;> rfl
theorem zdf_X3 : ∀ j, j < 10 → defaultValue (tyX3 j) = vp_V [.null, .null, .null, .null, .null, .null, .null, .int 0, .int 0, .int 0] j := fun j hj => by rcases (show j = 0 ∨ j = 1 ∨ j = 2 ∨ j = 3 ∨ j = 4 ∨ j = 5 ∨ j = 6 ∨ j = 7 ∨ j = 8 ∨ j = 9 by omega) with rfl | rfl | rfl | rfl | rfl | rfl | rfl | rfl | rfl | rfl <;> rfl
theorem zdf_X4 : ∀ j, j < 6 → defaultValue (tyX4 j) = vp_V [.null, .null, .null, .null, .null, .int 0] j := fun j hj => by rcases (show j = 0 ∨ j = 1 ∨ j = 2 ∨ j = 3 ∨ j = 4 ∨ j = 5 by omega) with rfl | rfl | rfl | rfl | rfl | rfl <;> rfl
theorem zdf_X5 : ∀ j, j < 15 → defaultValue (tyX5 j) = vp_V [.int 0, .null, .null, .null, .int 0, .null, .int 0, .null, .null, .int 0, .int 0, .int 0, .int 0, .int 0, .long 0] j := fun j hj => by rcases (show j = 0 ∨ j = 1 ∨ j = 2 ∨ j = 3 ∨ j = 4 ∨ j = 5 ∨ j = 6 ∨ j = 7 ∨ j = 8 ∨ j = 9 ∨ j = 10 ∨ j = 11 ∨ j = 12 ∨ j = 13 ∨ j = 14 by omega) with rfl | rfl | rfl | rfl | rfl | rfl | rfl | rfl | rfl | rfl | rfl | rfl | rfl | rfl | rfl <;> rfl
def r_X2_takeN : Room := { frames := 1, cells := 0, slots := 0, locals := 23 }
set_option maxHeartbeats 4000000 in
theorem c_X2_takeN (l : Launch) (G : zG) (hG : zok G) (q b : Nat) : ∀ sz : Nat, Met l yX2_take (Cond.code yX2_take cX2_take 6 (none : Option FieldType) :: zTbl) r_X2_takeN (va_Pc [.ref q, .int (zI 2), .int (zI 100)] (zBI G ([(q, .inr (2, [.ref b, .int 0, .int 0])), (b, .inl (zcI G, 10, .inl (fun _ => zI 0)))]) sz)) (va_Qv (fun F : Int → Int => ∀ j : Int, 0 ≤ j → j < 10 → F j = zMk 2 100 j) (fun F t => va_P (zD G) vwCl ([(q, .inr (2, [.ref b, .int (zI 2), .int (zI 100)])), (b, .inl (zcI G, 10, .inl (fun j9 : Nat => zI (F j9))))]) t.heap ∧ va_D (va_A ([(q, .inr (2, [.ref b, .int 0, .int 0])), (b, .inl (zcI G, 10, .inl (fun _ => zI 0)))]) sz) ([(q, .inr (2, [.ref b, .int (zI 2), .int (zI 100)])), (b, .inl (zcI G, 10, .inl (fun j9 : Nat => zI (F j9))))])) (va_A ([(q, .inr (2, [.ref b, .int 0, .int 0])), (b, .inl (zcI G, 10, .inl (fun _ => zI 0)))]) sz)) 0 0 (va_A ([(q, .inr (2, [.ref b, .int 0, .int 0])), (b, .inl (zcI G, 10, .inl (fun _ => zI 0)))]) sz) := by
  refine zMetN [(0, .ref q), (1, .int (zI 2)), (2, .int (zI 100))] hG (by decide) (Nat.le_of_ble_eq_true rfl) rfl (fun p e s m args below meth c ls h hO hn2 hr hP hD hAz hl => ?_)
  have hx := h.1
  have hb := h.2.1
  have hK := h.2.2.2.2.2.2.1.1
  skip
  have hS : va_S (va_A ([(q, .inr (2, [.ref b, .int 0, .int 0])), (b, .inl (zcI G, 10, .inl (fun _ => zI 0)))]) s.heap.size) s.heap s.heap [] := va_S.rf
  have hA : ∀ q9, s.heap.size ≤ q9 → va_A ([(q, .inr (2, [.ref b, .int 0, .int 0])), (b, .inl (zcI G, 10, .inl (fun _ => zI 0)))]) s.heap.size q9 := fun _ z => Or.inr z
  generalize hAe : va_A ([(q, .inr (2, [.ref b, .int 0, .int 0])), (b, .inl (zcI G, 10, .inl (fun _ => zI 0)))]) s.heap.size = A at hD hS hA hAz ⊢
  have hMQ : ∃ Q, Q = MQ below (va_Qv (fun F : Int → Int => ∀ j : Int, 0 ≤ j → j < 10 → F j = zMk 2 100 j) (fun F t => va_P (zD G) vwCl ([(q, .inr (2, [.ref b, .int (zI 2), .int (zI 100)])), (b, .inl (zcI G, 10, .inl (fun j9 : Nat => zI (F j9))))]) t.heap ∧ va_D A ([(q, .inr (2, [.ref b, .int (zI 2), .int (zI 100)])), (b, .inl (zcI G, 10, .inl (fun j9 : Nat => zI (F j9))))])) A) args s 0 0 A := ⟨_, rfl⟩
  obtain ⟨Q, hQ⟩ := hMQ
  rw [← hQ]
  have C33 : ∀ (fu : Nat) (i mk : Int) (M : Int → Int) (H : Heap) (locs : List Loc) (ls : Array Slot), (10 - i).toNat < fu → (0 ≤ i ∧ i ≤ 10) → (mk = zmkN 2 100 i.toNat) → (∀ j : Int, 0 ≤ j → j < i → M j = zMk 2 100 j) → va_P (zD G) vwCl ([(q, .inr (2, [.ref b, .int (zI 2), .int (zI 100)])), (b, .inl (zcI G, 10, .inl (fun j9 : Nat => zI (M j9))))]) H → va_D A ([(q, .inr (2, [.ref b, .int (zI 2), .int (zI 100)])), (b, .inl (zcI G, 10, .inl (fun j9 : Nat => zI (M j9))))]) → va_S A s.heap H locs → lv_has ls 6 [(0, .ref q), (1, .int (zI 2)), (2, .int (zI 100)), (3, .long (zL mk)), (5, .int (zI i))] → W p l e r_X2_takeN s m args below meth c H locs 0 0 Q (F0 m 33 ls []) := by
    intro fu
    induction fu with
    | zero => intro i mk M H locs ls hfu; omega
    | succ fu ih33 =>
      intro i mk M H locs ls hfu hi2 hm hM hP hD hS hl
      have hSz := zSz hS hAz
      have bm := zmk_b (g := 2) (v := 100) (by omega) hi2
      rw [← hm] at bm
      refine lv_iload hx hb dX2_take_33 (lv_at hl 4 rfl) ?_
      refine lv_aload_n hx hb dX2_take_35 rfl (lv_at hl 0 rfl) ?_
      refine va_get (D := zD G) (C := RX2) (T := TX2) (N := 3) (ci := 2) (v := .ref b) h.1 h.2.1 h.2.2.2.2.1 zin_X2 h.2.2.2.1 hK hP 0 rfl rfl 0 (by omega) (h.2.2.2.2.1 _ zf_X2_9) (fun _ h9 => h9) rfl dX2_take_36 ?_
      refine va_alen (x := (10, .inl (fun i : Nat => zI (M i)))) h.1 h.2.1 hK hP 1 0 rfl rfl (zI_nat 10) dX2_take_39 ?_
      refine zb_cge (x := i) (y := 10) (tgt := 77) h (by omega) (by omega) dX2_take_40 (by decide) (fun c_40 => ?_) (fun c_40 => ?_)
      · rw [hQ]
        exact zrvN h hr M (fun x h1 h2 => hM x h1 (by omega)) hP hD hS dX2_take_77
      · refine lv_aload_n hx hb dX2_take_43 rfl (lv_at hl 0 rfl) ?_
        refine va_get (D := zD G) (C := RX2) (T := TX2) (N := 3) (ci := 2) (v := .ref b) h.1 h.2.1 h.2.2.2.2.1 zin_X2 h.2.2.2.1 hK hP 0 rfl rfl 0 (by omega) (h.2.2.2.2.1 _ zf_X2_9) (fun _ h9 => h9) rfl dX2_take_44 ?_
        refine lv_iload hx hb dX2_take_47 (lv_at hl 4 rfl) ?_
        refine lv_lload_n hx hb dX2_take_49 rfl (lv_at hl 3 rfl) ?_
        refine zb_l2i h dX2_take_50 ?_
        refine va_iast (n := 10) (f := (fun i : Nat => zI (M i))) h.1 h.2.1 hK hP hD hS 1 0 rfl rfl (zI_in hi2.1 (by omega) (by omega)) dX2_take_51 (fun H locs hP hD hS => ?_)
        rw [yupd (F := M) hi2.1 (by omega)] at hP hD
        have hP : va_P (zD G) vwCl ([(q, .inr (2, [.ref b, .int (zI 2), .int (zI 100)])), (b, .inl (zcI G, 10, .inl (fun j9 : Nat => zI (zup M i mk j9))))]) H := hP
        have hD : va_D A ([(q, .inr (2, [.ref b, .int (zI 2), .int (zI 100)])), (b, .inl (zcI G, 10, .inl (fun j9 : Nat => zI (zup M i mk j9))))]) := hD
        have hSz := zSz hS hAz
        refine lv_lload_n hx hb dX2_take_52 rfl (lv_at hl 3 rfl) ?_
        refine ygs1 h hSz zf_X2_19 dX2_take_53 ?_
        refine lv_iload_n hx hb dX2_take_56 rfl (lv_at hl 1 rfl) ?_
        refine ytd1 h hSz (by omega) (by omega) dX2_take_57 ?_
        have bs := zSteps_in 2
        refine zb_i2l h (by omega) dX2_take_58 ?_
        refine zb_lmul h dX2_take_59 ?_
        refine zb_ldc2 (n := 1000) h zk_X2_31 (by decide +kernel) dX2_take_60 ?_
        refine zb_ldiv h (by omega) (by omega) dX2_take_63 ?_
        refine lv_lload_n hx hb dX2_take_64 rfl (lv_at hl 3 rfl) ?_
        refine zb_lc (v := 1) h dX2_take_65 (by decide +kernel) ?_
        refine zb_ladd h dX2_take_66 ?_
        refine zmaxL h hl.1 zm_X2_33 (Nat.le_of_ble_eq_true rfl) (Nat.le_of_ble_eq_true rfl) ⟨Nat.zero_le _, Nat.zero_le _⟩ (by omega) (by omega) (Nat.le_of_ble_eq_true rfl) dX2_take_67 ?_
        refine lv_lstore_n (lv' := [(3, .long (zL (max ((mk * (zSteps 2)) / 1000) (mk + 1)))), (0, .ref q), (1, .int (zI 2)), (2, .int (zI 100)), (5, .int (zI i))]) hx hb dX2_take_70 rfl hl (by decide) rfl (fun ls hl => ?_)
        refine lv_iinc (v := zI (i + 1)) (lv' := [(5, .int (zI (i + 1))), (3, .long (zL (max ((mk * (zSteps 2)) / 1000) (mk + 1)))), (0, .ref q), (1, .int (zI 2)), (2, .int (zI 100))]) hx hb dX2_take_71 hl (k := 4) rfl (zI_add _ _) (by decide) rfl (fun ls hl => ?_)
        refine lv_goto (tgt := 33) hx hb dX2_take_74 (by decide) ?_
        exact ih33 (i + 1) (max ((mk * (zSteps 2)) / 1000) (mk + 1)) (zup M (i) mk) _ _ _ (by omega) (by omega) (by rw [zmk_s 2 100 hi2.1, hm]) (fun j h1 h2 => if e : j = i then (by rw [e, zup_s]; exact hm) else (by rw [zup_n e]; exact hM j h1 (by omega))) hP hD hS (lv_sub hl [2, 3, 4, 1, 0] rfl)
  have hSz := zSz hS hAz
  refine lv_iload_n hx hb dX2_take_0 rfl (lv_at hl 1 rfl) ?_
  refine zb_ilt (x := 2) (tgt := 12) h (by omega) dX2_take_1 (by decide) (fun c_1 => absurd c_1 (by omega)) (fun c_1 => ?_)
  refine lv_iload_n hx hb dX2_take_4 rfl (lv_at hl 1 rfl) ?_
  refine ygs1 h hSz zf_X2_19 dX2_take_5 ?_
  refine ytl1 h hSz dX2_take_8 ?_
  refine zb_clt (x := 2) (y := 6) (tgt := 13) h (by omega) (by omega) dX2_take_9 (by decide) (fun c_9 => ?_) (fun c_9 => absurd c_9 (by omega))
  refine lv_aload_n hx hb dX2_take_13 rfl (lv_at hl 0 rfl) ?_
  refine lv_iload_n hx hb dX2_take_14 rfl (lv_at hl 1 rfl) ?_
  refine va_put (D := zD G) (C := RX2) (T := TX2) (N := 3) (ci := 2) (ty := .int) h.1 h.2.1 h.2.2.2.2.1 zin_X2 tyX2 tyX2_ok nmX2 h.2.2.2.1 hK hP hD hS 0 rfl rfl 1 (by omega) (h.2.2.2.2.1 _ zf_X2_22) (fun _ h9 => h9) rfl (by decide +kernel) rfl rfl (Nat.le_of_ble_eq_true rfl) dX2_take_15 (fun H locs hP hD hS => ?_)
  refine lv_aload_n hx hb dX2_take_18 rfl (lv_at hl 0 rfl) ?_
  refine lv_iload_n hx hb dX2_take_19 rfl (lv_at hl 2 rfl) ?_
  refine va_put (D := zD G) (C := RX2) (T := TX2) (N := 3) (ci := 2) (ty := .int) h.1 h.2.1 h.2.2.2.2.1 zin_X2 tyX2 tyX2_ok nmX2 h.2.2.2.1 hK hP hD hS 0 rfl rfl 2 (by omega) (h.2.2.2.2.1 _ zf_X2_26) (fun _ h9 => h9) rfl (by decide +kernel) rfl rfl (Nat.le_of_ble_eq_true rfl) dX2_take_20 (fun H locs hP hD hS => ?_)
  have hP : va_P (zD G) vwCl ([(q, .inr (2, [.ref b, .int (zI 2), .int (zI 100)])), (b, .inl (zcI G, 10, .inl (fun j9 : Nat => zI ((fun _ => 0 : Int → Int) j9))))]) H := hP
  have hD : va_D A ([(q, .inr (2, [.ref b, .int (zI 2), .int (zI 100)])), (b, .inl (zcI G, 10, .inl (fun j9 : Nat => zI ((fun _ => 0 : Int → Int) j9))))]) := hD
  refine lv_iload_n hx hb dX2_take_23 rfl (lv_at hl 2 rfl) ?_
  refine zb_i2l h (by omega) dX2_take_24 ?_
  refine zb_ldc2 (n := 100) h zk_X2_29 (by decide +kernel) dX2_take_25 ?_
  refine zb_lmul h dX2_take_28 ?_
  refine lv_lstore_n (lv' := [(3, .long (zL (100 * 100))), (0, .ref q), (1, .int (zI 2)), (2, .int (zI 100))]) hx hb dX2_take_29 rfl hl (by decide) rfl (fun ls hl => ?_)
  refine zb_ic (n := 0) h dX2_take_30 ?_
  refine lv_istore (lv' := [(5, .int (zI 0)), (3, .long (zL (100 * 100))), (0, .ref q), (1, .int (zI 2)), (2, .int (zI 100))]) hx hb dX2_take_31 hl (by decide) rfl (fun ls hl => ?_)
  exact C33 11 0 (100 * 100) (fun _ => 0) _ _ _ (by omega) (by omega) rfl (fun j h1 h2 => absurd h1 (by omega)) hP hD hS (lv_sub hl [2, 3, 4, 1, 0] rfl)
theorem dX2_init_0 : decode cX2_init 0 = .ok (.aload_n 0, 1) := by decide +kernel
theorem dX2_init_1 : decode cX2_init 1 = .ok (.invokespecial 3, 3) := by decide +kernel
theorem dX2_init_4 : decode cX2_init 4 = .ok (.aload_n 0, 1) := by decide +kernel
theorem dX2_init_5 : decode cX2_init 5 = .ok (.bipush 10, 2) := by decide +kernel
theorem dX2_init_7 : decode cX2_init 7 = .ok (.newarray .int, 2) := by decide +kernel
theorem dX2_init_9 : decode cX2_init 9 = .ok (.putfield 9, 3) := by decide +kernel
theorem dX2_init_12 : decode cX2_init 12 = .ok (.aload_n 0, 1) := by decide +kernel
theorem dX2_init_13 : decode cX2_init 13 = .ok (.iconst 2, 1) := by decide +kernel
theorem dX2_init_14 : decode cX2_init 14 = .ok (.bipush 100, 2) := by decide +kernel
theorem dX2_init_16 : decode cX2_init 16 = .ok (.invokevirtual 15, 3) := by decide +kernel
theorem dX2_init_19 : decode cX2_init 19 = .ok (.return_, 1) := by decide +kernel
def r_X2_init : Room := { frames := 2, cells := 1, slots := 10, locals := 48 }
set_option maxHeartbeats 4000000 in
set_option maxRecDepth 20000 in
/-- Paper's constructor -/
theorem c_X2_init (l : Launch) (G : zG) (hG : zok G) (q : Nat) : ∀ sz : Nat, Met l yX2_init (Cond.code yX2_init cX2_init 1 (none : Option FieldType) :: zTbl) r_X2_init (va_Pc [.ref q] (zBI G ([(q, .inr (2, [.null, .int 0, .int 0]))]) sz)) (va_Qv (fun u : Nat × (Int → Int) => ∀ j : Int, 0 ≤ j → j < 10 → u.2 j = zMk 2 100 j) (fun (u : Nat × (Int → Int)) t => va_P (zD G) vwCl ([(q, .inr (2, [.ref u.1, .int (zI 2), .int (zI 100)])), (u.1, .inl (zcI G, 10, .inl (fun i : Nat => zI (u.2 i))))]) t.heap ∧ va_D (va_A ([(q, .inr (2, [.null, .int 0, .int 0]))]) sz) ([(q, .inr (2, [.ref u.1, .int (zI 2), .int (zI 100)])), (u.1, .inl (zcI G, 10, .inl (fun i : Nat => zI (u.2 i))))])) (va_A ([(q, .inr (2, [.null, .int 0, .int 0]))]) sz)) 1 10 (va_A ([(q, .inr (2, [.null, .int 0, .int 0]))]) sz) := by
  refine zMetN [(0, .ref q)] hG (by decide) (Nat.le_of_ble_eq_true rfl) rfl (fun p e s m args below meth c ls h hO hn2 hr hP hD hAz hl => ?_)
  have hx := h.1
  have hb := h.2.1
  have hK := h.2.2.2.2.2.2.1.1
  have hi : meth.name = "<init>" := hn2
  have hS : va_S (va_A ([(q, .inr (2, [.null, .int 0, .int 0]))]) s.heap.size) s.heap s.heap [] := va_S.rf
  have hA : ∀ q9, s.heap.size ≤ q9 → va_A ([(q, .inr (2, [.null, .int 0, .int 0]))]) s.heap.size q9 := fun _ z => Or.inr z
  generalize hAe : va_A ([(q, .inr (2, [.null, .int 0, .int 0]))]) s.heap.size = A at hD hS hA hAz ⊢
  refine lv_aload_n hx hb dX2_init_0 rfl (lv_at hl 0 rfl) ?_
  refine zObj h zm_X2_3 hl.1 (by decide +kernel) (Nat.le_of_ble_eq_true rfl) dX2_init_1 ?_
  refine lv_aload_n hx hb dX2_init_4 rfl (lv_at hl 0 rfl) ?_
  refine zb_bi (n := 10) h dX2_init_5 (by omega) (by omega) ?_
  refine zNewI (n := 10) (N := 10) h hP hD hS hA rfl (by omega) ⟨Nat.le_of_ble_eq_true rfl, Nat.le_of_ble_eq_true rfl⟩ dX2_init_7 (fun b1 H hP hD hS => ?_)
  have hP : va_P (zD G) vwCl ([(q, .inr (2, [.null, .int 0, .int 0])), (b1, .inl (zcI G, 10, .inl (fun _ => zI 0)))]) H := hP
  have hD : va_D A ([(q, .inr (2, [.null, .int 0, .int 0])), (b1, .inl (zcI G, 10, .inl (fun _ => zI 0)))]) := hD
  refine va_putF (D := zD G) (C := RX2) (T := TX2) (N := 3) (ci := 2) (v := .ref b1) (ty := tyX2 0) h.1 h.2.1 h.2.2.2.2.1 zin_X2 tyX2 tyX2_ok nmX2 h.2.2.2.1 hK hP hD hS 0 rfl rfl 0 (by omega) (h.2.2.2.2.1 _ zf_X2_9) (fun _ h9 => h9) rfl hi rfl (by decide +kernel) rfl rfl (Nat.le_of_ble_eq_true rfl) dX2_init_9 (fun H locs hP hD hS => ?_)
  have hP : va_P (zD G) vwCl ([(q, .inr (2, [.ref b1, .int 0, .int 0])), (b1, .inl (zcI G, 10, .inl (fun _ => zI 0)))]) H := hP
  have hD : va_D A ([(q, .inr (2, [.ref b1, .int 0, .int 0])), (b1, .inl (zcI G, 10, .inl (fun _ => zI 0)))]) := hD
  refine lv_aload_n hx hb dX2_init_12 rfl (lv_at hl 0 rfl) ?_
  refine zb_ic (n := 2) h dX2_init_13 ?_
  refine zb_bi (n := 100) h dX2_init_14 (by omega) (by omega) ?_
  refine zCallL (ci := 2) (As := [.int (zI 2), .int (zI 100)]) (rest := []) h hO hP hD hS hA hAz rfl rfl rfl (c_X2_takeN l G hG q b1) zce_X2_take zcv_X2_take zm_X2_15 hl.1 rfl rfl ⟨rfl, rfl⟩ ⟨Nat.le_of_ble_eq_true rfl, Nat.le_of_ble_eq_true rfl⟩ (Nat.le_of_ble_eq_true rfl) ⟨Nat.le_of_ble_eq_true rfl, Nat.le_of_ble_eq_true rfl⟩ dX2_init_16 (fun F H locs hF hP hD hS => ?_)
  exact zrvN (α := Nat × (Int → Int)) (Wf := fun u => [(q, .inr (2, [.ref u.1, .int (zI 2), .int (zI 100)])), (u.1, .inl (zcI G, 10, .inl (fun i : Nat => zI (u.2 i))))]) h hr (b1, F) hF hP hD hS dX2_init_19
theorem dX1_init_0 : decode cX1_init 0 = .ok (.aload_n 0, 1) := by decide +kernel
theorem dX1_init_1 : decode cX1_init 1 = .ok (.invokespecial 3, 3) := by decide +kernel
theorem dX1_init_4 : decode cX1_init 4 = .ok (.aload_n 0, 1) := by decide +kernel
theorem dX1_init_5 : decode cX1_init 5 = .ok (.iconst 0, 1) := by decide +kernel
theorem dX1_init_6 : decode cX1_init 6 = .ok (.putfield 11, 3) := by decide +kernel
theorem dX1_init_9 : decode cX1_init 9 = .ok (.aload_n 0, 1) := by decide +kernel
theorem dX1_init_10 : decode cX1_init 10 = .ok (.iconst (-1), 1) := by decide +kernel
theorem dX1_init_11 : decode cX1_init 11 = .ok (.putfield 15, 3) := by decide +kernel
theorem dX1_init_14 : decode cX1_init 14 = .ok (.aload_n 0, 1) := by decide +kernel
theorem dX1_init_15 : decode cX1_init 15 = .ok (.iconst (-1), 1) := by decide +kernel
theorem dX1_init_16 : decode cX1_init 16 = .ok (.putfield 18, 3) := by decide +kernel
theorem dX1_init_19 : decode cX1_init 19 = .ok (.aload_n 0, 1) := by decide +kernel
theorem dX1_init_20 : decode cX1_init 20 = .ok (.iconst (-1), 1) := by decide +kernel
theorem dX1_init_21 : decode cX1_init 21 = .ok (.putfield 21, 3) := by decide +kernel
theorem dX1_init_24 : decode cX1_init 24 = .ok (.return_, 1) := by decide +kernel
def r_X1_init : Room := { frames := 1, cells := 0, slots := 0, locals := 30 }
set_option maxHeartbeats 4000000 in
set_option maxRecDepth 20000 in
/-- OrderReader's constructor -/
theorem c_X1_init (l : Launch) (G : zG) (hG : zok G) (q : Nat) : ∀ sz : Nat, Met l yX1_init (Cond.code yX1_init cX1_init 1 (none : Option FieldType) :: zTbl) r_X1_init (va_Pc [.ref q] (zBI G ([(q, .inr (1, [.int 0, .int 0, .int 0, .int 0]))]) sz)) (va_Qv (fun _ => True) (fun (u : Unit) t => va_P (zD G) vwCl ([(q, .inr (1, [.int (zI 0), .int (zI (-1)), .int (zI (-1)), .int (zI (-1))]))]) t.heap ∧ va_D (va_A ([(q, .inr (1, [.int 0, .int 0, .int 0, .int 0]))]) sz) ([(q, .inr (1, [.int (zI 0), .int (zI (-1)), .int (zI (-1)), .int (zI (-1))]))])) (va_A ([(q, .inr (1, [.int 0, .int 0, .int 0, .int 0]))]) sz)) 0 0 (va_A ([(q, .inr (1, [.int 0, .int 0, .int 0, .int 0]))]) sz) := by
  refine zMetN [(0, .ref q)] hG (by decide) (Nat.le_of_ble_eq_true rfl) rfl (fun p e s m args below meth c ls h hO hn2 hr hP hD hAz hl => ?_)
  have hx := h.1
  have hb := h.2.1
  have hK := h.2.2.2.2.2.2.1.1
  have hi : meth.name = "<init>" := hn2
  have hS : va_S (va_A ([(q, .inr (1, [.int 0, .int 0, .int 0, .int 0]))]) s.heap.size) s.heap s.heap [] := va_S.rf
  have hA : ∀ q9, s.heap.size ≤ q9 → va_A ([(q, .inr (1, [.int 0, .int 0, .int 0, .int 0]))]) s.heap.size q9 := fun _ z => Or.inr z
  generalize hAe : va_A ([(q, .inr (1, [.int 0, .int 0, .int 0, .int 0]))]) s.heap.size = A at hD hS hA hAz ⊢
  refine lv_aload_n hx hb dX1_init_0 rfl (lv_at hl 0 rfl) ?_
  refine zObj h zm_X1_3 hl.1 (by decide +kernel) (Nat.le_of_ble_eq_true rfl) dX1_init_1 ?_
  refine lv_aload_n hx hb dX1_init_4 rfl (lv_at hl 0 rfl) ?_
  refine zb_ic (n := 0) h dX1_init_5 ?_
  refine va_put (D := zD G) (C := RX1) (T := TX1) (N := 4) (ci := 1) (v := .int (zI 0)) (ty := tyX1 0) h.1 h.2.1 h.2.2.2.2.1 zin_X1 tyX1 tyX1_ok nmX1 h.2.2.2.1 hK hP hD hS 0 rfl rfl 0 (by omega) (h.2.2.2.2.1 _ zf_X1_11) (fun _ h9 => h9) rfl (by decide +kernel) rfl rfl (Nat.le_of_ble_eq_true rfl) dX1_init_6 (fun H locs hP hD hS => ?_)
  have hP : va_P (zD G) vwCl ([(q, .inr (1, [.int (zI 0), .int 0, .int 0, .int 0]))]) H := hP
  have hD : va_D A ([(q, .inr (1, [.int (zI 0), .int 0, .int 0, .int 0]))]) := hD
  refine lv_aload_n hx hb dX1_init_9 rfl (lv_at hl 0 rfl) ?_
  refine zb_ic (n := (-1)) h dX1_init_10 ?_
  refine va_put (D := zD G) (C := RX1) (T := TX1) (N := 4) (ci := 1) (v := .int (zI (-1))) (ty := tyX1 1) h.1 h.2.1 h.2.2.2.2.1 zin_X1 tyX1 tyX1_ok nmX1 h.2.2.2.1 hK hP hD hS 0 rfl rfl 1 (by omega) (h.2.2.2.2.1 _ zf_X1_15) (fun _ h9 => h9) rfl (by decide +kernel) rfl rfl (Nat.le_of_ble_eq_true rfl) dX1_init_11 (fun H locs hP hD hS => ?_)
  have hP : va_P (zD G) vwCl ([(q, .inr (1, [.int (zI 0), .int (zI (-1)), .int 0, .int 0]))]) H := hP
  have hD : va_D A ([(q, .inr (1, [.int (zI 0), .int (zI (-1)), .int 0, .int 0]))]) := hD
  refine lv_aload_n hx hb dX1_init_14 rfl (lv_at hl 0 rfl) ?_
  refine zb_ic (n := (-1)) h dX1_init_15 ?_
  refine va_put (D := zD G) (C := RX1) (T := TX1) (N := 4) (ci := 1) (v := .int (zI (-1))) (ty := tyX1 2) h.1 h.2.1 h.2.2.2.2.1 zin_X1 tyX1 tyX1_ok nmX1 h.2.2.2.1 hK hP hD hS 0 rfl rfl 2 (by omega) (h.2.2.2.2.1 _ zf_X1_18) (fun _ h9 => h9) rfl (by decide +kernel) rfl rfl (Nat.le_of_ble_eq_true rfl) dX1_init_16 (fun H locs hP hD hS => ?_)
  have hP : va_P (zD G) vwCl ([(q, .inr (1, [.int (zI 0), .int (zI (-1)), .int (zI (-1)), .int 0]))]) H := hP
  have hD : va_D A ([(q, .inr (1, [.int (zI 0), .int (zI (-1)), .int (zI (-1)), .int 0]))]) := hD
  refine lv_aload_n hx hb dX1_init_19 rfl (lv_at hl 0 rfl) ?_
  refine zb_ic (n := (-1)) h dX1_init_20 ?_
  refine va_put (D := zD G) (C := RX1) (T := TX1) (N := 4) (ci := 1) (v := .int (zI (-1))) (ty := tyX1 3) h.1 h.2.1 h.2.2.2.2.1 zin_X1 tyX1 tyX1_ok nmX1 h.2.2.2.1 hK hP hD hS 0 rfl rfl 3 (by omega) (h.2.2.2.2.1 _ zf_X1_21) (fun _ h9 => h9) rfl (by decide +kernel) rfl rfl (Nat.le_of_ble_eq_true rfl) dX1_init_21 (fun H locs hP hD hS => ?_)
  have hP : va_P (zD G) vwCl ([(q, .inr (1, [.int (zI 0), .int (zI (-1)), .int (zI (-1)), .int (zI (-1))]))]) H := hP
  have hD : va_D A ([(q, .inr (1, [.int (zI 0), .int (zI (-1)), .int (zI (-1)), .int (zI (-1))]))]) := hD
  exact zrvN (α := Unit) (Wf := fun u => [(q, .inr (1, [.int (zI 0), .int (zI (-1)), .int (zI (-1)), .int (zI (-1))]))]) h hr () trivial hP hD hS dX1_init_24
theorem dX3_init_0 : decode cX3_init 0 = .ok (.aload_n 0, 1) := by decide +kernel
theorem dX3_init_1 : decode cX3_init 1 = .ok (.invokespecial 3, 3) := by decide +kernel
theorem dX3_init_4 : decode cX3_init 4 = .ok (.aload_n 0, 1) := by decide +kernel
theorem dX3_init_5 : decode cX3_init 5 = .ok (.new 9, 3) := by decide +kernel
theorem dX3_init_8 : decode cX3_init 8 = .ok (.dup, 1) := by decide +kernel
theorem dX3_init_9 : decode cX3_init 9 = .ok (.invokespecial 11, 3) := by decide +kernel
theorem dX3_init_12 : decode cX3_init 12 = .ok (.putfield 12, 3) := by decide +kernel
theorem dX3_init_15 : decode cX3_init 15 = .ok (.aload_n 0, 1) := by decide +kernel
theorem dX3_init_16 : decode cX3_init 16 = .ok (.bipush 8, 2) := by decide +kernel
theorem dX3_init_18 : decode cX3_init 18 = .ok (.newarray .int, 2) := by decide +kernel
theorem dX3_init_20 : decode cX3_init 20 = .ok (.putfield 18, 3) := by decide +kernel
theorem dX3_init_23 : decode cX3_init 23 = .ok (.aload_n 0, 1) := by decide +kernel
theorem dX3_init_24 : decode cX3_init 24 = .ok (.bipush 8, 2) := by decide +kernel
theorem dX3_init_26 : decode cX3_init 26 = .ok (.newarray .int, 2) := by decide +kernel
theorem dX3_init_28 : decode cX3_init 28 = .ok (.putfield 22, 3) := by decide +kernel
theorem dX3_init_31 : decode cX3_init 31 = .ok (.aload_n 0, 1) := by decide +kernel
theorem dX3_init_32 : decode cX3_init 32 = .ok (.bipush 8, 2) := by decide +kernel
theorem dX3_init_34 : decode cX3_init 34 = .ok (.newarray .int, 2) := by decide +kernel
theorem dX3_init_36 : decode cX3_init 36 = .ok (.putfield 25, 3) := by decide +kernel
theorem dX3_init_39 : decode cX3_init 39 = .ok (.aload_n 0, 1) := by decide +kernel
theorem dX3_init_40 : decode cX3_init 40 = .ok (.bipush 8, 2) := by decide +kernel
theorem dX3_init_42 : decode cX3_init 42 = .ok (.newarray .int, 2) := by decide +kernel
theorem dX3_init_44 : decode cX3_init 44 = .ok (.putfield 28, 3) := by decide +kernel
theorem dX3_init_47 : decode cX3_init 47 = .ok (.aload_n 0, 1) := by decide +kernel
theorem dX3_init_48 : decode cX3_init 48 = .ok (.bipush 8, 2) := by decide +kernel
theorem dX3_init_50 : decode cX3_init 50 = .ok (.newarray .int, 2) := by decide +kernel
theorem dX3_init_52 : decode cX3_init 52 = .ok (.putfield 31, 3) := by decide +kernel
theorem dX3_init_55 : decode cX3_init 55 = .ok (.aload_n 0, 1) := by decide +kernel
theorem dX3_init_56 : decode cX3_init 56 = .ok (.bipush 8, 2) := by decide +kernel
theorem dX3_init_58 : decode cX3_init 58 = .ok (.newarray .int, 2) := by decide +kernel
theorem dX3_init_60 : decode cX3_init 60 = .ok (.putfield 34, 3) := by decide +kernel
theorem dX3_init_63 : decode cX3_init 63 = .ok (.aload_n 0, 1) := by decide +kernel
theorem dX3_init_64 : decode cX3_init 64 = .ok (.iconst 0, 1) := by decide +kernel
theorem dX3_init_65 : decode cX3_init 65 = .ok (.putfield 37, 3) := by decide +kernel
theorem dX3_init_68 : decode cX3_init 68 = .ok (.aload_n 0, 1) := by decide +kernel
theorem dX3_init_69 : decode cX3_init 69 = .ok (.bipush 100, 2) := by decide +kernel
theorem dX3_init_71 : decode cX3_init 71 = .ok (.putfield 41, 3) := by decide +kernel
theorem dX3_init_74 : decode cX3_init 74 = .ok (.aload_n 0, 1) := by decide +kernel
theorem dX3_init_75 : decode cX3_init 75 = .ok (.bipush 10, 2) := by decide +kernel
theorem dX3_init_77 : decode cX3_init 77 = .ok (.putfield 44, 3) := by decide +kernel
theorem dX3_init_80 : decode cX3_init 80 = .ok (.return_, 1) := by decide +kernel
def zPb (G : zG) (u : (Nat → Nat) × (Int → Int)) : va_W := [(u.1 0, .inr (3, [.ref (u.1 1), .ref (u.1 3), .ref (u.1 4), .ref (u.1 5), .ref (u.1 6), .ref (u.1 7), .ref (u.1 8), .int (zI 0), .int (zI 100), .int (zI 10)])), (u.1 1, .inr (2, [.ref (u.1 2), .int (zI 2), .int (zI 100)])), (u.1 2, .inl (zcI G, 10, .inl (fun i : Nat => zI (u.2 i)))), (u.1 3, .inl (zcI G, 8, .inl (fun _ => zI 0))), (u.1 4, .inl (zcI G, 8, .inl (fun _ => zI 0))), (u.1 5, .inl (zcI G, 8, .inl (fun _ => zI 0))), (u.1 6, .inl (zcI G, 8, .inl (fun _ => zI 0))), (u.1 7, .inl (zcI G, 8, .inl (fun _ => zI 0))), (u.1 8, .inl (zcI G, 8, .inl (fun _ => zI 0)))]
def r_X3_init : Room := { frames := 3, cells := 8, slots := 61, locals := 68 }
set_option maxHeartbeats 4000000 in
set_option maxRecDepth 20000 in
/-- Print's constructor -/
theorem c_X3_init (l : Launch) (G : zG) (hG : zok G) (q : Nat) : ∀ sz : Nat, Met l yX3_init (Cond.code yX3_init cX3_init 1 (none : Option FieldType) :: zTbl) r_X3_init (va_Pc [.ref q] (zBI G ([(q, .inr (3, [.null, .null, .null, .null, .null, .null, .null, .int 0, .int 0, .int 0]))]) sz)) (va_Qv (fun u : (Nat → Nat) × (Int → Int) => u.1 0 = q ∧ ∀ j : Int, 0 ≤ j → j < 10 → u.2 j = zMk 2 100 j) (fun (u : (Nat → Nat) × (Int → Int)) t => va_P (zD G) vwCl (zPb G u) t.heap ∧ va_D (va_A ([(q, .inr (3, [.null, .null, .null, .null, .null, .null, .null, .int 0, .int 0, .int 0]))]) sz) (zPb G u)) (va_A ([(q, .inr (3, [.null, .null, .null, .null, .null, .null, .null, .int 0, .int 0, .int 0]))]) sz)) 8 61 (va_A ([(q, .inr (3, [.null, .null, .null, .null, .null, .null, .null, .int 0, .int 0, .int 0]))]) sz) := by
  refine zMetN [(0, .ref q)] hG (by decide) (Nat.le_of_ble_eq_true rfl) rfl (fun p e s m args below meth c ls h hO hn2 hr hP hD hAz hl => ?_)
  have hx := h.1
  have hb := h.2.1
  have hK := h.2.2.2.2.2.2.1.1
  have hi : meth.name = "<init>" := hn2
  have hS : va_S (va_A ([(q, .inr (3, [.null, .null, .null, .null, .null, .null, .null, .int 0, .int 0, .int 0]))]) s.heap.size) s.heap s.heap [] := va_S.rf
  have hA : ∀ q9, s.heap.size ≤ q9 → va_A ([(q, .inr (3, [.null, .null, .null, .null, .null, .null, .null, .int 0, .int 0, .int 0]))]) s.heap.size q9 := fun _ z => Or.inr z
  generalize hAe : va_A ([(q, .inr (3, [.null, .null, .null, .null, .null, .null, .null, .int 0, .int 0, .int 0]))]) s.heap.size = A at hD hS hA hAz ⊢
  refine lv_aload_n hx hb dX3_init_0 rfl (lv_at hl 0 rfl) ?_
  refine zObj h zm_X3_3 hl.1 (by decide +kernel) (Nat.le_of_ble_eq_true rfl) dX3_init_1 ?_
  refine lv_aload_n hx hb dX3_init_4 rfl (lv_at hl 0 rfl) ?_
  refine va_new (D := zD G) (ci := 2) (fs := [.null, .int 0, .int 0]) (C := RX2) (T := TX2) (N := 3) h.1 h.2.1 h.2.2.2.2.1 zin_X2 tyX2 tyX2_ok h.2.2.2.1 (h.2.2.2.2.1 _ zl_X3_9) (h.2.2.2.2.1 _ zo_X2) (h.2.2.2.2.1 _ zn_X2) hK hP hD hS hA rfl (zdf_X2) (Nat.le_of_ble_eq_true rfl) (Nat.le_of_ble_eq_true rfl) dX3_init_5 (fun b1 H hP hD hS => ?_)
  refine lv_dup hx hb dX3_init_8 rfl ?_
  refine zCtor (wc := [(b1, .inr (2, [.null, .int 0, .int 0]))]) h hO hP hD hS hA hAz (c_X2_init l G hG b1) zce_X2_init zi_X2_init rfl zm_X3_11 hl.1 (by decide) ⟨Nat.le_of_ble_eq_true rfl, Nat.le_of_ble_eq_true rfl⟩ (Nat.le_of_ble_eq_true rfl) ⟨Nat.le_of_ble_eq_true rfl, Nat.le_of_ble_eq_true rfl⟩ dX3_init_9 (fun u1 H locs hu hP hD hS => ?_)
  obtain ⟨gu1, Fu1⟩ := u1
  have hP : va_P (zD G) vwCl ([(q, .inr (3, [.null, .null, .null, .null, .null, .null, .null, .int 0, .int 0, .int 0])), (b1, .inr (2, [.ref gu1, .int (zI 2), .int (zI 100)])), (gu1, .inl (zcI G, 10, .inl (fun i => zI (Fu1 i))))]) H := hP
  have hD : va_D A ([(q, .inr (3, [.null, .null, .null, .null, .null, .null, .null, .int 0, .int 0, .int 0])), (b1, .inr (2, [.ref gu1, .int (zI 2), .int (zI 100)])), (gu1, .inl (zcI G, 10, .inl (fun i => zI (Fu1 i))))]) := hD
  refine va_putF (D := zD G) (C := RX3) (T := TX3) (N := 10) (ci := 3) (v := .ref b1) (ty := tyX3 0) h.1 h.2.1 h.2.2.2.2.1 zin_X3 tyX3 tyX3_ok nmX3 h.2.2.2.1 hK hP hD hS 0 rfl rfl 0 (by omega) (h.2.2.2.2.1 _ zf_X3_12) (fun _ h9 => h9) rfl hi rfl (by decide +kernel) rfl rfl (Nat.le_of_ble_eq_true rfl) dX3_init_12 (fun H locs hP hD hS => ?_)
  have hP : va_P (zD G) vwCl ([(q, .inr (3, [.ref b1, .null, .null, .null, .null, .null, .null, .int 0, .int 0, .int 0])), (b1, .inr (2, [.ref gu1, .int (zI 2), .int (zI 100)])), (gu1, .inl (zcI G, 10, .inl (fun i => zI (Fu1 i))))]) H := hP
  have hD : va_D A ([(q, .inr (3, [.ref b1, .null, .null, .null, .null, .null, .null, .int 0, .int 0, .int 0])), (b1, .inr (2, [.ref gu1, .int (zI 2), .int (zI 100)])), (gu1, .inl (zcI G, 10, .inl (fun i => zI (Fu1 i))))]) := hD
  refine lv_aload_n hx hb dX3_init_15 rfl (lv_at hl 0 rfl) ?_
  refine zb_bi (n := 8) h dX3_init_16 (by omega) (by omega) ?_
  refine zNewI (n := 8) (N := 8) h hP hD hS hA rfl (by omega) ⟨Nat.le_of_ble_eq_true rfl, Nat.le_of_ble_eq_true rfl⟩ dX3_init_18 (fun b2 H hP hD hS => ?_)
  have hP : va_P (zD G) vwCl ([(q, .inr (3, [.ref b1, .null, .null, .null, .null, .null, .null, .int 0, .int 0, .int 0])), (b1, .inr (2, [.ref gu1, .int (zI 2), .int (zI 100)])), (gu1, .inl (zcI G, 10, .inl (fun i => zI (Fu1 i)))), (b2, .inl (zcI G, 8, .inl (fun _ => zI 0)))]) H := hP
  have hD : va_D A ([(q, .inr (3, [.ref b1, .null, .null, .null, .null, .null, .null, .int 0, .int 0, .int 0])), (b1, .inr (2, [.ref gu1, .int (zI 2), .int (zI 100)])), (gu1, .inl (zcI G, 10, .inl (fun i => zI (Fu1 i)))), (b2, .inl (zcI G, 8, .inl (fun _ => zI 0)))]) := hD
  refine va_putF (D := zD G) (C := RX3) (T := TX3) (N := 10) (ci := 3) (v := .ref b2) (ty := tyX3 1) h.1 h.2.1 h.2.2.2.2.1 zin_X3 tyX3 tyX3_ok nmX3 h.2.2.2.1 hK hP hD hS 0 rfl rfl 1 (by omega) (h.2.2.2.2.1 _ zf_X3_18) (fun _ h9 => h9) rfl hi rfl (by decide +kernel) rfl rfl (Nat.le_of_ble_eq_true rfl) dX3_init_20 (fun H locs hP hD hS => ?_)
  have hP : va_P (zD G) vwCl ([(q, .inr (3, [.ref b1, .ref b2, .null, .null, .null, .null, .null, .int 0, .int 0, .int 0])), (b1, .inr (2, [.ref gu1, .int (zI 2), .int (zI 100)])), (gu1, .inl (zcI G, 10, .inl (fun i => zI (Fu1 i)))), (b2, .inl (zcI G, 8, .inl (fun _ => zI 0)))]) H := hP
  have hD : va_D A ([(q, .inr (3, [.ref b1, .ref b2, .null, .null, .null, .null, .null, .int 0, .int 0, .int 0])), (b1, .inr (2, [.ref gu1, .int (zI 2), .int (zI 100)])), (gu1, .inl (zcI G, 10, .inl (fun i => zI (Fu1 i)))), (b2, .inl (zcI G, 8, .inl (fun _ => zI 0)))]) := hD
  refine lv_aload_n hx hb dX3_init_23 rfl (lv_at hl 0 rfl) ?_
  refine zb_bi (n := 8) h dX3_init_24 (by omega) (by omega) ?_
  refine zNewI (n := 8) (N := 8) h hP hD hS hA rfl (by omega) ⟨Nat.le_of_ble_eq_true rfl, Nat.le_of_ble_eq_true rfl⟩ dX3_init_26 (fun b3 H hP hD hS => ?_)
  have hP : va_P (zD G) vwCl ([(q, .inr (3, [.ref b1, .ref b2, .null, .null, .null, .null, .null, .int 0, .int 0, .int 0])), (b1, .inr (2, [.ref gu1, .int (zI 2), .int (zI 100)])), (gu1, .inl (zcI G, 10, .inl (fun i => zI (Fu1 i)))), (b2, .inl (zcI G, 8, .inl (fun _ => zI 0))), (b3, .inl (zcI G, 8, .inl (fun _ => zI 0)))]) H := hP
  have hD : va_D A ([(q, .inr (3, [.ref b1, .ref b2, .null, .null, .null, .null, .null, .int 0, .int 0, .int 0])), (b1, .inr (2, [.ref gu1, .int (zI 2), .int (zI 100)])), (gu1, .inl (zcI G, 10, .inl (fun i => zI (Fu1 i)))), (b2, .inl (zcI G, 8, .inl (fun _ => zI 0))), (b3, .inl (zcI G, 8, .inl (fun _ => zI 0)))]) := hD
  refine va_putF (D := zD G) (C := RX3) (T := TX3) (N := 10) (ci := 3) (v := .ref b3) (ty := tyX3 2) h.1 h.2.1 h.2.2.2.2.1 zin_X3 tyX3 tyX3_ok nmX3 h.2.2.2.1 hK hP hD hS 0 rfl rfl 2 (by omega) (h.2.2.2.2.1 _ zf_X3_22) (fun _ h9 => h9) rfl hi rfl (by decide +kernel) rfl rfl (Nat.le_of_ble_eq_true rfl) dX3_init_28 (fun H locs hP hD hS => ?_)
  have hP : va_P (zD G) vwCl ([(q, .inr (3, [.ref b1, .ref b2, .ref b3, .null, .null, .null, .null, .int 0, .int 0, .int 0])), (b1, .inr (2, [.ref gu1, .int (zI 2), .int (zI 100)])), (gu1, .inl (zcI G, 10, .inl (fun i => zI (Fu1 i)))), (b2, .inl (zcI G, 8, .inl (fun _ => zI 0))), (b3, .inl (zcI G, 8, .inl (fun _ => zI 0)))]) H := hP
  have hD : va_D A ([(q, .inr (3, [.ref b1, .ref b2, .ref b3, .null, .null, .null, .null, .int 0, .int 0, .int 0])), (b1, .inr (2, [.ref gu1, .int (zI 2), .int (zI 100)])), (gu1, .inl (zcI G, 10, .inl (fun i => zI (Fu1 i)))), (b2, .inl (zcI G, 8, .inl (fun _ => zI 0))), (b3, .inl (zcI G, 8, .inl (fun _ => zI 0)))]) := hD
  refine lv_aload_n hx hb dX3_init_31 rfl (lv_at hl 0 rfl) ?_
  refine zb_bi (n := 8) h dX3_init_32 (by omega) (by omega) ?_
  refine zNewI (n := 8) (N := 8) h hP hD hS hA rfl (by omega) ⟨Nat.le_of_ble_eq_true rfl, Nat.le_of_ble_eq_true rfl⟩ dX3_init_34 (fun b4 H hP hD hS => ?_)
  have hP : va_P (zD G) vwCl ([(q, .inr (3, [.ref b1, .ref b2, .ref b3, .null, .null, .null, .null, .int 0, .int 0, .int 0])), (b1, .inr (2, [.ref gu1, .int (zI 2), .int (zI 100)])), (gu1, .inl (zcI G, 10, .inl (fun i => zI (Fu1 i)))), (b2, .inl (zcI G, 8, .inl (fun _ => zI 0))), (b3, .inl (zcI G, 8, .inl (fun _ => zI 0))), (b4, .inl (zcI G, 8, .inl (fun _ => zI 0)))]) H := hP
  have hD : va_D A ([(q, .inr (3, [.ref b1, .ref b2, .ref b3, .null, .null, .null, .null, .int 0, .int 0, .int 0])), (b1, .inr (2, [.ref gu1, .int (zI 2), .int (zI 100)])), (gu1, .inl (zcI G, 10, .inl (fun i => zI (Fu1 i)))), (b2, .inl (zcI G, 8, .inl (fun _ => zI 0))), (b3, .inl (zcI G, 8, .inl (fun _ => zI 0))), (b4, .inl (zcI G, 8, .inl (fun _ => zI 0)))]) := hD
  refine va_putF (D := zD G) (C := RX3) (T := TX3) (N := 10) (ci := 3) (v := .ref b4) (ty := tyX3 3) h.1 h.2.1 h.2.2.2.2.1 zin_X3 tyX3 tyX3_ok nmX3 h.2.2.2.1 hK hP hD hS 0 rfl rfl 3 (by omega) (h.2.2.2.2.1 _ zf_X3_25) (fun _ h9 => h9) rfl hi rfl (by decide +kernel) rfl rfl (Nat.le_of_ble_eq_true rfl) dX3_init_36 (fun H locs hP hD hS => ?_)
  have hP : va_P (zD G) vwCl ([(q, .inr (3, [.ref b1, .ref b2, .ref b3, .ref b4, .null, .null, .null, .int 0, .int 0, .int 0])), (b1, .inr (2, [.ref gu1, .int (zI 2), .int (zI 100)])), (gu1, .inl (zcI G, 10, .inl (fun i => zI (Fu1 i)))), (b2, .inl (zcI G, 8, .inl (fun _ => zI 0))), (b3, .inl (zcI G, 8, .inl (fun _ => zI 0))), (b4, .inl (zcI G, 8, .inl (fun _ => zI 0)))]) H := hP
  have hD : va_D A ([(q, .inr (3, [.ref b1, .ref b2, .ref b3, .ref b4, .null, .null, .null, .int 0, .int 0, .int 0])), (b1, .inr (2, [.ref gu1, .int (zI 2), .int (zI 100)])), (gu1, .inl (zcI G, 10, .inl (fun i => zI (Fu1 i)))), (b2, .inl (zcI G, 8, .inl (fun _ => zI 0))), (b3, .inl (zcI G, 8, .inl (fun _ => zI 0))), (b4, .inl (zcI G, 8, .inl (fun _ => zI 0)))]) := hD
  refine lv_aload_n hx hb dX3_init_39 rfl (lv_at hl 0 rfl) ?_
  refine zb_bi (n := 8) h dX3_init_40 (by omega) (by omega) ?_
  refine zNewI (n := 8) (N := 8) h hP hD hS hA rfl (by omega) ⟨Nat.le_of_ble_eq_true rfl, Nat.le_of_ble_eq_true rfl⟩ dX3_init_42 (fun b5 H hP hD hS => ?_)
  have hP : va_P (zD G) vwCl ([(q, .inr (3, [.ref b1, .ref b2, .ref b3, .ref b4, .null, .null, .null, .int 0, .int 0, .int 0])), (b1, .inr (2, [.ref gu1, .int (zI 2), .int (zI 100)])), (gu1, .inl (zcI G, 10, .inl (fun i => zI (Fu1 i)))), (b2, .inl (zcI G, 8, .inl (fun _ => zI 0))), (b3, .inl (zcI G, 8, .inl (fun _ => zI 0))), (b4, .inl (zcI G, 8, .inl (fun _ => zI 0))), (b5, .inl (zcI G, 8, .inl (fun _ => zI 0)))]) H := hP
  have hD : va_D A ([(q, .inr (3, [.ref b1, .ref b2, .ref b3, .ref b4, .null, .null, .null, .int 0, .int 0, .int 0])), (b1, .inr (2, [.ref gu1, .int (zI 2), .int (zI 100)])), (gu1, .inl (zcI G, 10, .inl (fun i => zI (Fu1 i)))), (b2, .inl (zcI G, 8, .inl (fun _ => zI 0))), (b3, .inl (zcI G, 8, .inl (fun _ => zI 0))), (b4, .inl (zcI G, 8, .inl (fun _ => zI 0))), (b5, .inl (zcI G, 8, .inl (fun _ => zI 0)))]) := hD
  refine va_putF (D := zD G) (C := RX3) (T := TX3) (N := 10) (ci := 3) (v := .ref b5) (ty := tyX3 4) h.1 h.2.1 h.2.2.2.2.1 zin_X3 tyX3 tyX3_ok nmX3 h.2.2.2.1 hK hP hD hS 0 rfl rfl 4 (by omega) (h.2.2.2.2.1 _ zf_X3_28) (fun _ h9 => h9) rfl hi rfl (by decide +kernel) rfl rfl (Nat.le_of_ble_eq_true rfl) dX3_init_44 (fun H locs hP hD hS => ?_)
  have hP : va_P (zD G) vwCl ([(q, .inr (3, [.ref b1, .ref b2, .ref b3, .ref b4, .ref b5, .null, .null, .int 0, .int 0, .int 0])), (b1, .inr (2, [.ref gu1, .int (zI 2), .int (zI 100)])), (gu1, .inl (zcI G, 10, .inl (fun i => zI (Fu1 i)))), (b2, .inl (zcI G, 8, .inl (fun _ => zI 0))), (b3, .inl (zcI G, 8, .inl (fun _ => zI 0))), (b4, .inl (zcI G, 8, .inl (fun _ => zI 0))), (b5, .inl (zcI G, 8, .inl (fun _ => zI 0)))]) H := hP
  have hD : va_D A ([(q, .inr (3, [.ref b1, .ref b2, .ref b3, .ref b4, .ref b5, .null, .null, .int 0, .int 0, .int 0])), (b1, .inr (2, [.ref gu1, .int (zI 2), .int (zI 100)])), (gu1, .inl (zcI G, 10, .inl (fun i => zI (Fu1 i)))), (b2, .inl (zcI G, 8, .inl (fun _ => zI 0))), (b3, .inl (zcI G, 8, .inl (fun _ => zI 0))), (b4, .inl (zcI G, 8, .inl (fun _ => zI 0))), (b5, .inl (zcI G, 8, .inl (fun _ => zI 0)))]) := hD
  refine lv_aload_n hx hb dX3_init_47 rfl (lv_at hl 0 rfl) ?_
  refine zb_bi (n := 8) h dX3_init_48 (by omega) (by omega) ?_
  refine zNewI (n := 8) (N := 8) h hP hD hS hA rfl (by omega) ⟨Nat.le_of_ble_eq_true rfl, Nat.le_of_ble_eq_true rfl⟩ dX3_init_50 (fun b6 H hP hD hS => ?_)
  have hP : va_P (zD G) vwCl ([(q, .inr (3, [.ref b1, .ref b2, .ref b3, .ref b4, .ref b5, .null, .null, .int 0, .int 0, .int 0])), (b1, .inr (2, [.ref gu1, .int (zI 2), .int (zI 100)])), (gu1, .inl (zcI G, 10, .inl (fun i => zI (Fu1 i)))), (b2, .inl (zcI G, 8, .inl (fun _ => zI 0))), (b3, .inl (zcI G, 8, .inl (fun _ => zI 0))), (b4, .inl (zcI G, 8, .inl (fun _ => zI 0))), (b5, .inl (zcI G, 8, .inl (fun _ => zI 0))), (b6, .inl (zcI G, 8, .inl (fun _ => zI 0)))]) H := hP
  have hD : va_D A ([(q, .inr (3, [.ref b1, .ref b2, .ref b3, .ref b4, .ref b5, .null, .null, .int 0, .int 0, .int 0])), (b1, .inr (2, [.ref gu1, .int (zI 2), .int (zI 100)])), (gu1, .inl (zcI G, 10, .inl (fun i => zI (Fu1 i)))), (b2, .inl (zcI G, 8, .inl (fun _ => zI 0))), (b3, .inl (zcI G, 8, .inl (fun _ => zI 0))), (b4, .inl (zcI G, 8, .inl (fun _ => zI 0))), (b5, .inl (zcI G, 8, .inl (fun _ => zI 0))), (b6, .inl (zcI G, 8, .inl (fun _ => zI 0)))]) := hD
  refine va_putF (D := zD G) (C := RX3) (T := TX3) (N := 10) (ci := 3) (v := .ref b6) (ty := tyX3 5) h.1 h.2.1 h.2.2.2.2.1 zin_X3 tyX3 tyX3_ok nmX3 h.2.2.2.1 hK hP hD hS 0 rfl rfl 5 (by omega) (h.2.2.2.2.1 _ zf_X3_31) (fun _ h9 => h9) rfl hi rfl (by decide +kernel) rfl rfl (Nat.le_of_ble_eq_true rfl) dX3_init_52 (fun H locs hP hD hS => ?_)
  have hP : va_P (zD G) vwCl ([(q, .inr (3, [.ref b1, .ref b2, .ref b3, .ref b4, .ref b5, .ref b6, .null, .int 0, .int 0, .int 0])), (b1, .inr (2, [.ref gu1, .int (zI 2), .int (zI 100)])), (gu1, .inl (zcI G, 10, .inl (fun i => zI (Fu1 i)))), (b2, .inl (zcI G, 8, .inl (fun _ => zI 0))), (b3, .inl (zcI G, 8, .inl (fun _ => zI 0))), (b4, .inl (zcI G, 8, .inl (fun _ => zI 0))), (b5, .inl (zcI G, 8, .inl (fun _ => zI 0))), (b6, .inl (zcI G, 8, .inl (fun _ => zI 0)))]) H := hP
  have hD : va_D A ([(q, .inr (3, [.ref b1, .ref b2, .ref b3, .ref b4, .ref b5, .ref b6, .null, .int 0, .int 0, .int 0])), (b1, .inr (2, [.ref gu1, .int (zI 2), .int (zI 100)])), (gu1, .inl (zcI G, 10, .inl (fun i => zI (Fu1 i)))), (b2, .inl (zcI G, 8, .inl (fun _ => zI 0))), (b3, .inl (zcI G, 8, .inl (fun _ => zI 0))), (b4, .inl (zcI G, 8, .inl (fun _ => zI 0))), (b5, .inl (zcI G, 8, .inl (fun _ => zI 0))), (b6, .inl (zcI G, 8, .inl (fun _ => zI 0)))]) := hD
  refine lv_aload_n hx hb dX3_init_55 rfl (lv_at hl 0 rfl) ?_
  refine zb_bi (n := 8) h dX3_init_56 (by omega) (by omega) ?_
  refine zNewI (n := 8) (N := 8) h hP hD hS hA rfl (by omega) ⟨Nat.le_of_ble_eq_true rfl, Nat.le_of_ble_eq_true rfl⟩ dX3_init_58 (fun b7 H hP hD hS => ?_)
  have hP : va_P (zD G) vwCl ([(q, .inr (3, [.ref b1, .ref b2, .ref b3, .ref b4, .ref b5, .ref b6, .null, .int 0, .int 0, .int 0])), (b1, .inr (2, [.ref gu1, .int (zI 2), .int (zI 100)])), (gu1, .inl (zcI G, 10, .inl (fun i => zI (Fu1 i)))), (b2, .inl (zcI G, 8, .inl (fun _ => zI 0))), (b3, .inl (zcI G, 8, .inl (fun _ => zI 0))), (b4, .inl (zcI G, 8, .inl (fun _ => zI 0))), (b5, .inl (zcI G, 8, .inl (fun _ => zI 0))), (b6, .inl (zcI G, 8, .inl (fun _ => zI 0))), (b7, .inl (zcI G, 8, .inl (fun _ => zI 0)))]) H := hP
  have hD : va_D A ([(q, .inr (3, [.ref b1, .ref b2, .ref b3, .ref b4, .ref b5, .ref b6, .null, .int 0, .int 0, .int 0])), (b1, .inr (2, [.ref gu1, .int (zI 2), .int (zI 100)])), (gu1, .inl (zcI G, 10, .inl (fun i => zI (Fu1 i)))), (b2, .inl (zcI G, 8, .inl (fun _ => zI 0))), (b3, .inl (zcI G, 8, .inl (fun _ => zI 0))), (b4, .inl (zcI G, 8, .inl (fun _ => zI 0))), (b5, .inl (zcI G, 8, .inl (fun _ => zI 0))), (b6, .inl (zcI G, 8, .inl (fun _ => zI 0))), (b7, .inl (zcI G, 8, .inl (fun _ => zI 0)))]) := hD
  refine va_putF (D := zD G) (C := RX3) (T := TX3) (N := 10) (ci := 3) (v := .ref b7) (ty := tyX3 6) h.1 h.2.1 h.2.2.2.2.1 zin_X3 tyX3 tyX3_ok nmX3 h.2.2.2.1 hK hP hD hS 0 rfl rfl 6 (by omega) (h.2.2.2.2.1 _ zf_X3_34) (fun _ h9 => h9) rfl hi rfl (by decide +kernel) rfl rfl (Nat.le_of_ble_eq_true rfl) dX3_init_60 (fun H locs hP hD hS => ?_)
  have hP : va_P (zD G) vwCl ([(q, .inr (3, [.ref b1, .ref b2, .ref b3, .ref b4, .ref b5, .ref b6, .ref b7, .int 0, .int 0, .int 0])), (b1, .inr (2, [.ref gu1, .int (zI 2), .int (zI 100)])), (gu1, .inl (zcI G, 10, .inl (fun i => zI (Fu1 i)))), (b2, .inl (zcI G, 8, .inl (fun _ => zI 0))), (b3, .inl (zcI G, 8, .inl (fun _ => zI 0))), (b4, .inl (zcI G, 8, .inl (fun _ => zI 0))), (b5, .inl (zcI G, 8, .inl (fun _ => zI 0))), (b6, .inl (zcI G, 8, .inl (fun _ => zI 0))), (b7, .inl (zcI G, 8, .inl (fun _ => zI 0)))]) H := hP
  have hD : va_D A ([(q, .inr (3, [.ref b1, .ref b2, .ref b3, .ref b4, .ref b5, .ref b6, .ref b7, .int 0, .int 0, .int 0])), (b1, .inr (2, [.ref gu1, .int (zI 2), .int (zI 100)])), (gu1, .inl (zcI G, 10, .inl (fun i => zI (Fu1 i)))), (b2, .inl (zcI G, 8, .inl (fun _ => zI 0))), (b3, .inl (zcI G, 8, .inl (fun _ => zI 0))), (b4, .inl (zcI G, 8, .inl (fun _ => zI 0))), (b5, .inl (zcI G, 8, .inl (fun _ => zI 0))), (b6, .inl (zcI G, 8, .inl (fun _ => zI 0))), (b7, .inl (zcI G, 8, .inl (fun _ => zI 0)))]) := hD
  refine lv_aload_n hx hb dX3_init_63 rfl (lv_at hl 0 rfl) ?_
  refine zb_ic (n := 0) h dX3_init_64 ?_
  refine va_put (D := zD G) (C := RX3) (T := TX3) (N := 10) (ci := 3) (v := .int (zI 0)) (ty := tyX3 7) h.1 h.2.1 h.2.2.2.2.1 zin_X3 tyX3 tyX3_ok nmX3 h.2.2.2.1 hK hP hD hS 0 rfl rfl 7 (by omega) (h.2.2.2.2.1 _ zf_X3_37) (fun _ h9 => h9) rfl (by decide +kernel) rfl rfl (Nat.le_of_ble_eq_true rfl) dX3_init_65 (fun H locs hP hD hS => ?_)
  have hP : va_P (zD G) vwCl ([(q, .inr (3, [.ref b1, .ref b2, .ref b3, .ref b4, .ref b5, .ref b6, .ref b7, .int (zI 0), .int 0, .int 0])), (b1, .inr (2, [.ref gu1, .int (zI 2), .int (zI 100)])), (gu1, .inl (zcI G, 10, .inl (fun i => zI (Fu1 i)))), (b2, .inl (zcI G, 8, .inl (fun _ => zI 0))), (b3, .inl (zcI G, 8, .inl (fun _ => zI 0))), (b4, .inl (zcI G, 8, .inl (fun _ => zI 0))), (b5, .inl (zcI G, 8, .inl (fun _ => zI 0))), (b6, .inl (zcI G, 8, .inl (fun _ => zI 0))), (b7, .inl (zcI G, 8, .inl (fun _ => zI 0)))]) H := hP
  have hD : va_D A ([(q, .inr (3, [.ref b1, .ref b2, .ref b3, .ref b4, .ref b5, .ref b6, .ref b7, .int (zI 0), .int 0, .int 0])), (b1, .inr (2, [.ref gu1, .int (zI 2), .int (zI 100)])), (gu1, .inl (zcI G, 10, .inl (fun i => zI (Fu1 i)))), (b2, .inl (zcI G, 8, .inl (fun _ => zI 0))), (b3, .inl (zcI G, 8, .inl (fun _ => zI 0))), (b4, .inl (zcI G, 8, .inl (fun _ => zI 0))), (b5, .inl (zcI G, 8, .inl (fun _ => zI 0))), (b6, .inl (zcI G, 8, .inl (fun _ => zI 0))), (b7, .inl (zcI G, 8, .inl (fun _ => zI 0)))]) := hD
  refine lv_aload_n hx hb dX3_init_68 rfl (lv_at hl 0 rfl) ?_
  refine zb_bi (n := 100) h dX3_init_69 (by omega) (by omega) ?_
  refine va_put (D := zD G) (C := RX3) (T := TX3) (N := 10) (ci := 3) (v := .int (zI 100)) (ty := tyX3 8) h.1 h.2.1 h.2.2.2.2.1 zin_X3 tyX3 tyX3_ok nmX3 h.2.2.2.1 hK hP hD hS 0 rfl rfl 8 (by omega) (h.2.2.2.2.1 _ zf_X3_41) (fun _ h9 => h9) rfl (by decide +kernel) rfl rfl (Nat.le_of_ble_eq_true rfl) dX3_init_71 (fun H locs hP hD hS => ?_)
  have hP : va_P (zD G) vwCl ([(q, .inr (3, [.ref b1, .ref b2, .ref b3, .ref b4, .ref b5, .ref b6, .ref b7, .int (zI 0), .int (zI 100), .int 0])), (b1, .inr (2, [.ref gu1, .int (zI 2), .int (zI 100)])), (gu1, .inl (zcI G, 10, .inl (fun i => zI (Fu1 i)))), (b2, .inl (zcI G, 8, .inl (fun _ => zI 0))), (b3, .inl (zcI G, 8, .inl (fun _ => zI 0))), (b4, .inl (zcI G, 8, .inl (fun _ => zI 0))), (b5, .inl (zcI G, 8, .inl (fun _ => zI 0))), (b6, .inl (zcI G, 8, .inl (fun _ => zI 0))), (b7, .inl (zcI G, 8, .inl (fun _ => zI 0)))]) H := hP
  have hD : va_D A ([(q, .inr (3, [.ref b1, .ref b2, .ref b3, .ref b4, .ref b5, .ref b6, .ref b7, .int (zI 0), .int (zI 100), .int 0])), (b1, .inr (2, [.ref gu1, .int (zI 2), .int (zI 100)])), (gu1, .inl (zcI G, 10, .inl (fun i => zI (Fu1 i)))), (b2, .inl (zcI G, 8, .inl (fun _ => zI 0))), (b3, .inl (zcI G, 8, .inl (fun _ => zI 0))), (b4, .inl (zcI G, 8, .inl (fun _ => zI 0))), (b5, .inl (zcI G, 8, .inl (fun _ => zI 0))), (b6, .inl (zcI G, 8, .inl (fun _ => zI 0))), (b7, .inl (zcI G, 8, .inl (fun _ => zI 0)))]) := hD
  refine lv_aload_n hx hb dX3_init_74 rfl (lv_at hl 0 rfl) ?_
  refine zb_bi (n := 10) h dX3_init_75 (by omega) (by omega) ?_
  refine va_put (D := zD G) (C := RX3) (T := TX3) (N := 10) (ci := 3) (v := .int (zI 10)) (ty := tyX3 9) h.1 h.2.1 h.2.2.2.2.1 zin_X3 tyX3 tyX3_ok nmX3 h.2.2.2.1 hK hP hD hS 0 rfl rfl 9 (by omega) (h.2.2.2.2.1 _ zf_X3_44) (fun _ h9 => h9) rfl (by decide +kernel) rfl rfl (Nat.le_of_ble_eq_true rfl) dX3_init_77 (fun H locs hP hD hS => ?_)
  have hP : va_P (zD G) vwCl ([(q, .inr (3, [.ref b1, .ref b2, .ref b3, .ref b4, .ref b5, .ref b6, .ref b7, .int (zI 0), .int (zI 100), .int (zI 10)])), (b1, .inr (2, [.ref gu1, .int (zI 2), .int (zI 100)])), (gu1, .inl (zcI G, 10, .inl (fun i => zI (Fu1 i)))), (b2, .inl (zcI G, 8, .inl (fun _ => zI 0))), (b3, .inl (zcI G, 8, .inl (fun _ => zI 0))), (b4, .inl (zcI G, 8, .inl (fun _ => zI 0))), (b5, .inl (zcI G, 8, .inl (fun _ => zI 0))), (b6, .inl (zcI G, 8, .inl (fun _ => zI 0))), (b7, .inl (zcI G, 8, .inl (fun _ => zI 0)))]) H := hP
  have hD : va_D A ([(q, .inr (3, [.ref b1, .ref b2, .ref b3, .ref b4, .ref b5, .ref b6, .ref b7, .int (zI 0), .int (zI 100), .int (zI 10)])), (b1, .inr (2, [.ref gu1, .int (zI 2), .int (zI 100)])), (gu1, .inl (zcI G, 10, .inl (fun i => zI (Fu1 i)))), (b2, .inl (zcI G, 8, .inl (fun _ => zI 0))), (b3, .inl (zcI G, 8, .inl (fun _ => zI 0))), (b4, .inl (zcI G, 8, .inl (fun _ => zI 0))), (b5, .inl (zcI G, 8, .inl (fun _ => zI 0))), (b6, .inl (zcI G, 8, .inl (fun _ => zI 0))), (b7, .inl (zcI G, 8, .inl (fun _ => zI 0)))]) := hD
  exact zrvN (α := (Nat → Nat) × (Int → Int)) (Wf := fun u => zPb G u) h hr ((fun j => match j with | 0 => q | 1 => b1 | 2 => gu1 | 3 => b2 | 4 => b3 | 5 => b4 | 6 => b5 | 7 => b6 | _ => b7), Fu1) ⟨rfl, hu⟩ hP hD hS dX3_init_80
