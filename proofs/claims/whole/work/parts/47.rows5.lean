section ZR5
variable {p : Program} {l : Launch} {e : Env} {R : Room} {s : State} {m : MethodId} {args : Array Value} {below : List Frame} {meth : Method} {c : Code} {H : Heap} {locs : List Loc} {cells slots : Nat} {Q : State → Prop} {cc : ByteArray} {pc : Nat} {ls : Array Slot} {rest : List Value} {nL : Nat} {own : String} {G : zG} {S : zM}
/-- the law's own row of one long -/
theorem zout_st (h : zE p s m args meth c cc nL own G) (hH : zH G S s H locs) {v : Int} (hdg : decode cc pc = .ok (.lastore, 1)) (k0 : ∀ (H1 : Heap) (locs1 : List Loc), zH G (zs S 8 5 0 v) s H1 locs1 → W p l e R s m args below meth c H1 locs1 cells slots Q (F0 m (pc + 1) ls rest)) : W p l e R s m args below meth c H locs cells slots Q (F0 m pc ls (.long (zL v) :: .int (zI 0) :: .ref (za G 8 5) :: rest)) :=
  va_last (n := 1) (f := (fun i : Nat => zL (S 8 5 (i : Int)))) h.1 h.2.1 h.2.2.2.2.2.2.1.1 hH.1 (zw_D h.2.2.2.2.2.2.2 S) hH.2 (zp 8 5) 2 ((zw_at (Or.inr (Or.inl ⟨rfl, by omega⟩))).trans (congrArg (fun z => some (za G 8 5, z)) rfl)) rfl (zI_in (by omega) (by omega) (by omega)) hdg (fun H1 locs1 hP _ hS => k0 H1 locs1 ⟨(zw_set8 (G := G) (S := S) (k := 8) (j := 5) (i := 0) (v := v) (e := .inl (zcJ G, 1, .inr (.inl (vp_updL (fun i : Nat => zL (S 8 5 (i : Int))) (zI 0).toNatClampNeg (zL v))))) (Or.inl rfl) (Or.inr (Or.inl ⟨rfl, by omega⟩)) (by
    rw [ze_cl]; simp only [zcl]
    refine congrArg (fun z => Sum.inl (zcJ G, 1, Sum.inr (Sum.inl z))) (funext fun n => ?_)
    have e0 := zI_clamp (a := 0) (by omega) (by omega)
    rw [zs_at]
    unfold vp_updL
    by_cases hn : n = (zI 0).toNatClampNeg
    · rw [if_pos hn, if_pos (by omega)]
    · rw [if_neg hn, if_neg (by omega)])) ▸ hP, hS⟩)
theorem zout_ld (h : zE p s m args meth c cc nL own G) (hH : zH G S s H locs) (hdg : decode cc pc = .ok (.laload, 1)) (k0 : W p l e R s m args below meth c H locs cells slots Q (F0 m (pc + 1) ls (.long (zL (S 8 5 0)) :: rest))) : W p l e R s m args below meth c H locs cells slots Q (F0 m pc ls (.int (zI 0) :: .ref (za G 8 5) :: rest)) :=
  va_lald (n := 1) (f := (fun i : Nat => zL (S 8 5 (i : Int)))) h.1 h.2.1 h.2.2.2.2.2.2.1.1 hH.1 (zp 8 5) 2 ((zw_at (Or.inr (Or.inl ⟨rfl, by omega⟩))).trans (congrArg (fun z => some (za G 8 5, z)) rfl)) rfl (zI_in (by omega) (by omega) (by omega)) hdg (by show W p l e R s m args below meth c H locs cells slots Q (F0 m (pc + 1) ls (.long (zL (S 8 5 (((zI 0).toNatClampNeg : Int)))) :: rest)); rw [zI_clamp (by omega) (by omega)]; exact k0)
theorem zb_ldcd (h : zE p s m args meth c cc nL own G) {w : UInt64} {idx : Nat} (hw : Cond.constantDouble own idx w ∈ zTbl) (hdg : decode cc pc = .ok (.ldc2_w idx, 3)) (k : W p l e R s m args below meth c H locs cells slots Q (F0 m (pc + 3) ls (.double w :: rest))) : W p l e R s m args below meth c H locs cells slots Q (F0 m pc ls rest) := lv_ldc2d h.1 h.2.1 h.2.2.2.1 (h.2.2.2.2.1 _ hw) hdg k
end ZR5
def jush (x : Int32) (k : Int) : Int32 := (x.toUInt32 >>> ((zI k).toUInt32 &&& Int32.toUInt32 31)).toInt32
def jb1 (x : Int32) : Int32 := x - (jush x 1 &&& 1431655765)
def jb2 (x : Int32) : Int32 := (x &&& 858993459) + (jush x 2 &&& 858993459)
def jb3 (x : Int32) : Int32 := (x + jush x 4) &&& 252645135
def jb4 (x : Int32) : Int32 := x + jush x 8
def jb5 (x : Int32) : Int32 := x + jush x 16
theorem zbc0 : ∀ n, n < 256 → (jb5 (jb4 (jb3 (jb2 (jb1 (zI (n : Nat))))))) &&& zI 63 = zI (zbc (n : Nat)) := by decide +kernel
theorem zbc_in {m : Int} (hm : 0 ≤ m ∧ m ≤ 255) : 0 ≤ zbc m ∧ zbc m ≤ 8 := by
  have h := zsum_in (f := fun k => m / 2 ^ k.toNat % 2) (a := 0) (b := 1) 8 (fun j h1 h2 => by omega)
  unfold zbc
  omega
theorem dJ6_bitCount_0f7a4_0 : decode cJ6_bitCount_0f7a4 0 = .ok (.iload_n 0, 1) := by decide +kernel
theorem dJ6_bitCount_0f7a4_1 : decode cJ6_bitCount_0f7a4 1 = .ok (.iload_n 0, 1) := by decide +kernel
theorem dJ6_bitCount_0f7a4_2 : decode cJ6_bitCount_0f7a4 2 = .ok (.iconst 1, 1) := by decide +kernel
theorem dJ6_bitCount_0f7a4_3 : decode cJ6_bitCount_0f7a4 3 = .ok (.iushr, 1) := by decide +kernel
theorem dJ6_bitCount_0f7a4_4 : decode cJ6_bitCount_0f7a4 4 = .ok (.ldc_w 265, 3) := by decide +kernel
theorem dJ6_bitCount_0f7a4_7 : decode cJ6_bitCount_0f7a4 7 = .ok (.iand, 1) := by decide +kernel
theorem dJ6_bitCount_0f7a4_8 : decode cJ6_bitCount_0f7a4 8 = .ok (.isub, 1) := by decide +kernel
theorem dJ6_bitCount_0f7a4_9 : decode cJ6_bitCount_0f7a4 9 = .ok (.istore_n 0, 1) := by decide +kernel
theorem dJ6_bitCount_0f7a4_10 : decode cJ6_bitCount_0f7a4 10 = .ok (.iload_n 0, 1) := by decide +kernel
theorem dJ6_bitCount_0f7a4_11 : decode cJ6_bitCount_0f7a4 11 = .ok (.ldc_w 266, 3) := by decide +kernel
theorem dJ6_bitCount_0f7a4_14 : decode cJ6_bitCount_0f7a4 14 = .ok (.iand, 1) := by decide +kernel
theorem dJ6_bitCount_0f7a4_15 : decode cJ6_bitCount_0f7a4 15 = .ok (.iload_n 0, 1) := by decide +kernel
theorem dJ6_bitCount_0f7a4_16 : decode cJ6_bitCount_0f7a4 16 = .ok (.iconst 2, 1) := by decide +kernel
theorem dJ6_bitCount_0f7a4_17 : decode cJ6_bitCount_0f7a4 17 = .ok (.iushr, 1) := by decide +kernel
theorem dJ6_bitCount_0f7a4_18 : decode cJ6_bitCount_0f7a4 18 = .ok (.ldc_w 266, 3) := by decide +kernel
theorem dJ6_bitCount_0f7a4_21 : decode cJ6_bitCount_0f7a4 21 = .ok (.iand, 1) := by decide +kernel
theorem dJ6_bitCount_0f7a4_22 : decode cJ6_bitCount_0f7a4 22 = .ok (.iadd, 1) := by decide +kernel
theorem dJ6_bitCount_0f7a4_23 : decode cJ6_bitCount_0f7a4 23 = .ok (.istore_n 0, 1) := by decide +kernel
theorem dJ6_bitCount_0f7a4_24 : decode cJ6_bitCount_0f7a4 24 = .ok (.iload_n 0, 1) := by decide +kernel
theorem dJ6_bitCount_0f7a4_25 : decode cJ6_bitCount_0f7a4 25 = .ok (.iload_n 0, 1) := by decide +kernel
theorem dJ6_bitCount_0f7a4_26 : decode cJ6_bitCount_0f7a4 26 = .ok (.iconst 4, 1) := by decide +kernel
theorem dJ6_bitCount_0f7a4_27 : decode cJ6_bitCount_0f7a4 27 = .ok (.iushr, 1) := by decide +kernel
theorem dJ6_bitCount_0f7a4_28 : decode cJ6_bitCount_0f7a4 28 = .ok (.iadd, 1) := by decide +kernel
theorem dJ6_bitCount_0f7a4_29 : decode cJ6_bitCount_0f7a4 29 = .ok (.ldc_w 267, 3) := by decide +kernel
theorem dJ6_bitCount_0f7a4_32 : decode cJ6_bitCount_0f7a4 32 = .ok (.iand, 1) := by decide +kernel
theorem dJ6_bitCount_0f7a4_33 : decode cJ6_bitCount_0f7a4 33 = .ok (.istore_n 0, 1) := by decide +kernel
theorem dJ6_bitCount_0f7a4_34 : decode cJ6_bitCount_0f7a4 34 = .ok (.iload_n 0, 1) := by decide +kernel
theorem dJ6_bitCount_0f7a4_35 : decode cJ6_bitCount_0f7a4 35 = .ok (.iload_n 0, 1) := by decide +kernel
theorem dJ6_bitCount_0f7a4_36 : decode cJ6_bitCount_0f7a4 36 = .ok (.bipush 8, 2) := by decide +kernel
theorem dJ6_bitCount_0f7a4_38 : decode cJ6_bitCount_0f7a4 38 = .ok (.iushr, 1) := by decide +kernel
theorem dJ6_bitCount_0f7a4_39 : decode cJ6_bitCount_0f7a4 39 = .ok (.iadd, 1) := by decide +kernel
theorem dJ6_bitCount_0f7a4_40 : decode cJ6_bitCount_0f7a4 40 = .ok (.istore_n 0, 1) := by decide +kernel
theorem dJ6_bitCount_0f7a4_41 : decode cJ6_bitCount_0f7a4 41 = .ok (.iload_n 0, 1) := by decide +kernel
theorem dJ6_bitCount_0f7a4_42 : decode cJ6_bitCount_0f7a4 42 = .ok (.iload_n 0, 1) := by decide +kernel
theorem dJ6_bitCount_0f7a4_43 : decode cJ6_bitCount_0f7a4 43 = .ok (.bipush 16, 2) := by decide +kernel
theorem dJ6_bitCount_0f7a4_45 : decode cJ6_bitCount_0f7a4 45 = .ok (.iushr, 1) := by decide +kernel
theorem dJ6_bitCount_0f7a4_46 : decode cJ6_bitCount_0f7a4 46 = .ok (.iadd, 1) := by decide +kernel
theorem dJ6_bitCount_0f7a4_47 : decode cJ6_bitCount_0f7a4 47 = .ok (.istore_n 0, 1) := by decide +kernel
theorem dJ6_bitCount_0f7a4_48 : decode cJ6_bitCount_0f7a4 48 = .ok (.iload_n 0, 1) := by decide +kernel
theorem dJ6_bitCount_0f7a4_49 : decode cJ6_bitCount_0f7a4 49 = .ok (.bipush 63, 2) := by decide +kernel
theorem dJ6_bitCount_0f7a4_51 : decode cJ6_bitCount_0f7a4 51 = .ok (.iand, 1) := by decide +kernel
theorem dJ6_bitCount_0f7a4_52 : decode cJ6_bitCount_0f7a4 52 = .ok (.ireturn, 1) := by decide +kernel
def q_J6_bitCount_0f7a4 (S : zM) (a : Int) : Int32 → zM → Prop := fun r S1 => r = zI (zbc a) ∧ S = S1
def r_J6_bitCount_0f7a4 : Room := { frames := 0, cells := 0, slots := 0, locals := 0 }
set_option maxHeartbeats 4000000 in
set_option maxRecDepth 100000 in
theorem c_J6_bitCount_0f7a4 (l : Launch) (G : zG) (hG : zok G) (S : zM) (a : Int) (ha : 0 ≤ a ∧ a ≤ 255) : Met l yJ6_bitCount_0f7a4 (Cond.code yJ6_bitCount_0f7a4 cJ6_bitCount_0f7a4 1 (some FieldType.int) :: zTbl) r_J6_bitCount_0f7a4 (va_Pc [.int (zI a)] (zB G S)) (va_Qi (q_J6_bitCount_0f7a4 S a) (zB G) (zA G)) 0 0 (zA G) := by
  refine zMet [(0, .int (zI a))] hG (by decide) (Nat.le_of_ble_eq_true rfl) rfl (fun p e s m args below meth c ls h hx hb hr hH hl => ?_)
  refine lv_iload_n hx hb dJ6_bitCount_0f7a4_0 rfl (lv_at hl 0 rfl) ?_
  refine lv_iload_n hx hb dJ6_bitCount_0f7a4_1 rfl (lv_at hl 0 rfl) ?_
  refine zb_ic h dJ6_bitCount_0f7a4_2 ?_
  refine lv_iushr (v := jush (zI a) 1) hx hb dJ6_bitCount_0f7a4_3 rfl ?_
  refine lv_ldcw (v := 1431655765) h.1 h.2.1 h.2.2.2.1 (h.2.2.2.2.1 _ zk_J6_265) dJ6_bitCount_0f7a4_4 ?_
  refine lv_iand hx hb dJ6_bitCount_0f7a4_7 ?_
  refine lv_isub hx hb dJ6_bitCount_0f7a4_8 ?_
  refine lv_istore_n (lv' := [(0, .int (jb1 (zI a)))]) hx hb dJ6_bitCount_0f7a4_9 rfl hl (by decide) rfl (fun ls hl => ?_)
  refine lv_iload_n hx hb dJ6_bitCount_0f7a4_10 rfl (lv_at hl 0 rfl) ?_
  refine lv_ldcw (v := 858993459) h.1 h.2.1 h.2.2.2.1 (h.2.2.2.2.1 _ zk_J6_266) dJ6_bitCount_0f7a4_11 ?_
  refine lv_iand hx hb dJ6_bitCount_0f7a4_14 ?_
  refine lv_iload_n hx hb dJ6_bitCount_0f7a4_15 rfl (lv_at hl 0 rfl) ?_
  refine zb_ic h dJ6_bitCount_0f7a4_16 ?_
  refine lv_iushr (v := jush (jb1 (zI a)) 2) hx hb dJ6_bitCount_0f7a4_17 rfl ?_
  refine lv_ldcw (v := 858993459) h.1 h.2.1 h.2.2.2.1 (h.2.2.2.2.1 _ zk_J6_266) dJ6_bitCount_0f7a4_18 ?_
  refine lv_iand hx hb dJ6_bitCount_0f7a4_21 ?_
  refine lv_iadd hx hb dJ6_bitCount_0f7a4_22 ?_
  refine lv_istore_n (lv' := [(0, .int (jb2 (jb1 (zI a))))]) hx hb dJ6_bitCount_0f7a4_23 rfl hl (by decide) rfl (fun ls hl => ?_)
  refine lv_iload_n hx hb dJ6_bitCount_0f7a4_24 rfl (lv_at hl 0 rfl) ?_
  refine lv_iload_n hx hb dJ6_bitCount_0f7a4_25 rfl (lv_at hl 0 rfl) ?_
  refine zb_ic h dJ6_bitCount_0f7a4_26 ?_
  refine lv_iushr (v := jush (jb2 (jb1 (zI a))) 4) hx hb dJ6_bitCount_0f7a4_27 rfl ?_
  refine lv_iadd hx hb dJ6_bitCount_0f7a4_28 ?_
  refine lv_ldcw (v := 252645135) h.1 h.2.1 h.2.2.2.1 (h.2.2.2.2.1 _ zk_J6_267) dJ6_bitCount_0f7a4_29 ?_
  refine lv_iand hx hb dJ6_bitCount_0f7a4_32 ?_
  refine lv_istore_n (lv' := [(0, .int (jb3 (jb2 (jb1 (zI a)))))]) hx hb dJ6_bitCount_0f7a4_33 rfl hl (by decide) rfl (fun ls hl => ?_)
  refine lv_iload_n hx hb dJ6_bitCount_0f7a4_34 rfl (lv_at hl 0 rfl) ?_
  refine lv_iload_n hx hb dJ6_bitCount_0f7a4_35 rfl (lv_at hl 0 rfl) ?_
  refine zb_bi h dJ6_bitCount_0f7a4_36 (by decide) (by decide) ?_
  refine lv_iushr (v := jush (jb3 (jb2 (jb1 (zI a)))) 8) hx hb dJ6_bitCount_0f7a4_38 rfl ?_
  refine lv_iadd hx hb dJ6_bitCount_0f7a4_39 ?_
  refine lv_istore_n (lv' := [(0, .int (jb4 (jb3 (jb2 (jb1 (zI a))))))]) hx hb dJ6_bitCount_0f7a4_40 rfl hl (by decide) rfl (fun ls hl => ?_)
  refine lv_iload_n hx hb dJ6_bitCount_0f7a4_41 rfl (lv_at hl 0 rfl) ?_
  refine lv_iload_n hx hb dJ6_bitCount_0f7a4_42 rfl (lv_at hl 0 rfl) ?_
  refine zb_bi h dJ6_bitCount_0f7a4_43 (by decide) (by decide) ?_
  refine lv_iushr (v := jush (jb4 (jb3 (jb2 (jb1 (zI a))))) 16) hx hb dJ6_bitCount_0f7a4_45 rfl ?_
  refine lv_iadd hx hb dJ6_bitCount_0f7a4_46 ?_
  refine lv_istore_n (lv' := [(0, .int (jb5 (jb4 (jb3 (jb2 (jb1 (zI a)))))))]) hx hb dJ6_bitCount_0f7a4_47 rfl hl (by decide) rfl (fun ls hl => ?_)
  refine lv_iload_n hx hb dJ6_bitCount_0f7a4_48 rfl (lv_at hl 0 rfl) ?_
  refine zb_bi h dJ6_bitCount_0f7a4_49 (by decide) (by decide) ?_
  refine lv_iand hx hb dJ6_bitCount_0f7a4_51 ?_
  refine zri h hr hH ?_ dJ6_bitCount_0f7a4_52
  have e := zbc0 a.toNat (by omega)
  rw [show ((a.toNat : Nat) : Int) = a by omega] at e
  exact ⟨e, rfl⟩
