theorem dX2_take_0 : decode cX2_take 0 = .ok (.iload_n 1, 1) := by decide +kernel
theorem dX2_take_1 : decode cX2_take 1 = .ok (.ifCond .lt 11, 3) := by decide +kernel
theorem dX2_take_4 : decode cX2_take 4 = .ok (.iload_n 1, 1) := by decide +kernel
theorem dX2_take_5 : decode cX2_take 5 = .ok (.getstatic 19, 3) := by decide +kernel
theorem dX2_take_8 : decode cX2_take 8 = .ok (.arraylength, 1) := by decide +kernel
theorem dX2_take_9 : decode cX2_take 9 = .ok (.if_icmp .lt 4, 3) := by decide +kernel
theorem dX2_take_13 : decode cX2_take 13 = .ok (.aload_n 0, 1) := by decide +kernel
theorem dX2_take_14 : decode cX2_take 14 = .ok (.iload_n 1, 1) := by decide +kernel
theorem dX2_take_15 : decode cX2_take 15 = .ok (.putfield 22, 3) := by decide +kernel
theorem dX2_take_18 : decode cX2_take 18 = .ok (.aload_n 0, 1) := by decide +kernel
theorem dX2_take_19 : decode cX2_take 19 = .ok (.iload_n 2, 1) := by decide +kernel
theorem dX2_take_20 : decode cX2_take 20 = .ok (.putfield 26, 3) := by decide +kernel
theorem dX2_take_23 : decode cX2_take 23 = .ok (.iload_n 2, 1) := by decide +kernel
theorem dX2_take_24 : decode cX2_take 24 = .ok (.i2l, 1) := by decide +kernel
theorem dX2_take_25 : decode cX2_take 25 = .ok (.ldc2_w 29, 3) := by decide +kernel
theorem dX2_take_28 : decode cX2_take 28 = .ok (.lmul, 1) := by decide +kernel
theorem dX2_take_29 : decode cX2_take 29 = .ok (.lstore_n 3, 1) := by decide +kernel
theorem dX2_take_30 : decode cX2_take 30 = .ok (.iconst 0, 1) := by decide +kernel
theorem dX2_take_31 : decode cX2_take 31 = .ok (.istore 5, 2) := by decide +kernel
theorem dX2_take_33 : decode cX2_take 33 = .ok (.iload 5, 2) := by decide +kernel
theorem dX2_take_35 : decode cX2_take 35 = .ok (.aload_n 0, 1) := by decide +kernel
theorem dX2_take_36 : decode cX2_take 36 = .ok (.getfield 9, 3) := by decide +kernel
theorem dX2_take_39 : decode cX2_take 39 = .ok (.arraylength, 1) := by decide +kernel
theorem dX2_take_40 : decode cX2_take 40 = .ok (.if_icmp .ge 37, 3) := by decide +kernel
theorem dX2_take_43 : decode cX2_take 43 = .ok (.aload_n 0, 1) := by decide +kernel
theorem dX2_take_44 : decode cX2_take 44 = .ok (.getfield 9, 3) := by decide +kernel
theorem dX2_take_47 : decode cX2_take 47 = .ok (.iload 5, 2) := by decide +kernel
theorem dX2_take_49 : decode cX2_take 49 = .ok (.lload_n 3, 1) := by decide +kernel
theorem dX2_take_50 : decode cX2_take 50 = .ok (.l2i, 1) := by decide +kernel
theorem dX2_take_51 : decode cX2_take 51 = .ok (.iastore, 1) := by decide +kernel
theorem dX2_take_52 : decode cX2_take 52 = .ok (.lload_n 3, 1) := by decide +kernel
theorem dX2_take_53 : decode cX2_take 53 = .ok (.getstatic 19, 3) := by decide +kernel
theorem dX2_take_56 : decode cX2_take 56 = .ok (.iload_n 1, 1) := by decide +kernel
theorem dX2_take_57 : decode cX2_take 57 = .ok (.iaload, 1) := by decide +kernel
theorem dX2_take_58 : decode cX2_take 58 = .ok (.i2l, 1) := by decide +kernel
theorem dX2_take_59 : decode cX2_take 59 = .ok (.lmul, 1) := by decide +kernel
theorem dX2_take_60 : decode cX2_take 60 = .ok (.ldc2_w 31, 3) := by decide +kernel
theorem dX2_take_63 : decode cX2_take 63 = .ok (.ldiv, 1) := by decide +kernel
theorem dX2_take_64 : decode cX2_take 64 = .ok (.lload_n 3, 1) := by decide +kernel
theorem dX2_take_65 : decode cX2_take 65 = .ok (.lconst 1, 1) := by decide +kernel
theorem dX2_take_66 : decode cX2_take 66 = .ok (.ladd, 1) := by decide +kernel
theorem dX2_take_67 : decode cX2_take 67 = .ok (.invokestatic 33, 3) := by decide +kernel
theorem dX2_take_70 : decode cX2_take 70 = .ok (.lstore_n 3, 1) := by decide +kernel
theorem dX2_take_71 : decode cX2_take 71 = .ok (.iinc 5 1, 3) := by decide +kernel
theorem dX2_take_74 : decode cX2_take 74 = .ok (.goto (-41), 3) := by decide +kernel
theorem dX2_take_77 : decode cX2_take 77 = .ok (.return_, 1) := by decide +kernel
def q_X2_take (k : Nat) (S : zM) (g v : Int) : zM → Prop := fun S1 => (zPut S k (zup (zup (S k 0) 1 g) 2 v) (zMk g v) (S k 8)) = S1
def r_X2_take : Room := { frames := 1, cells := 0, slots := 0, locals := 23 }
set_option maxHeartbeats 4000000 in
set_option maxRecDepth 100000 in
theorem c_X2_take (l : Launch) (G : zG) (hG : zok G) (k : Nat) (hk : k < 8) (S : zM) (g v : Int) (hg : 0 ≤ g ∧ g ≤ 5) (hv : 10 ≤ v ∧ v ≤ 999) : Met l yX2_take (Cond.code yX2_take cX2_take 6 (none : Option FieldType) :: zTbl) r_X2_take (va_Pc [.ref (za G k 1), .int (zI g), .int (zI v)] (zB G S)) (va_Qv (q_X2_take k S g v) (zB G) (zA G)) 0 0 (zA G) := by
  refine zMet [(0, .ref (za G k 1)), (1, .int (zI g)), (2, .int (zI v))] hG (by decide) (Nat.le_of_ble_eq_true rfl) rfl (fun p e s m args below meth c ls h hx hb hr hH hl => ?_)
  rw [← zP_id S k] at hH
  have C33 : ∀ (fu : Nat) (i mk : Int) (M : Int → Int) (H : Heap) (locs : List Loc) (ls : Array Slot), (10 - i).toNat < fu → (0 ≤ i ∧ i ≤ 10) → (mk = zmkN g v i.toNat) → (∀ j : Int, 0 ≤ j → j < i → M j = zMk g v j) → zH G (zPut S k (zup (zup (S k 0) 1 g) 2 v) M (S k 8)) s H locs → lv_has ls 6 [(0, .ref (za G k 1)), (1, .int (zI g)), (2, .int (zI v)), (3, .long (zL mk)), (5, .int (zI i))] → W p l e r_X2_take s m args below meth c H locs 0 0 (MQ below (va_Qv (q_X2_take k S g v) (zB G) (zA G)) args s 0 0 (zA G)) (F0 m 33 ls []) := by
    intro fu
    induction fu with
    | zero => intro i mk M H locs ls hfu; omega
    | succ fu ih33 =>
      intro i mk M H locs ls hfu hi hm hM hH hl
      have bm := zmk_b (g := g) hv hi
      rw [← hm] at bm
      refine lv_iload hx hb dX2_take_33 (lv_at hl 4 rfl) ?_
      refine lv_aload_n hx hb dX2_take_35 rfl (lv_at hl 0 rfl) ?_
      refine zg_2_0 h hH hk zf_X2_9 dX2_take_36 ?_
      refine zln_ar_mk h hH hk dX2_take_39 ?_
      refine zb_cge (tgt := 77) h (by omega) (by omega) dX2_take_40 (by decide) (fun c_40 => ?_) (fun c_40 => ?_)
      · have hH := zH_put (M' := zMk g v) hk (fun _ _ _ => rfl) (fun x h1 h2 => hM x h1 (by omega)) (fun _ _ _ => rfl) hH
        refine zrv h hr hH ?_ dX2_take_77
        exact rfl
      · refine lv_aload_n hx hb dX2_take_43 rfl (lv_at hl 0 rfl) ?_
        refine zg_2_0 h hH hk zf_X2_9 dX2_take_44 ?_
        refine lv_iload hx hb dX2_take_47 (lv_at hl 4 rfl) ?_
        refine lv_lload_n hx hb dX2_take_49 rfl (lv_at hl 3 rfl) ?_
        refine zb_l2i h dX2_take_50 ?_
        refine zst_ar_mk h hH hk (by omega) dX2_take_51 (fun H locs hH => ?_)
        rw [zs_P2] at hH
        refine lv_lload_n hx hb dX2_take_52 rfl (lv_at hl 3 rfl) ?_
        refine zgs1 h hH zf_X2_19 dX2_take_53 ?_
        refine lv_iload_n hx hb dX2_take_56 rfl (lv_at hl 1 rfl) ?_
        refine ztd1 h hH (by omega) (by omega) dX2_take_57 ?_
        have bs := zSteps_in g
        refine zb_i2l h (by omega) dX2_take_58 ?_
        refine zb_lmul h dX2_take_59 ?_
        refine zb_ldc2 (n := 1000) h zk_X2_31 (by decide +kernel) dX2_take_60 ?_
        refine zb_ldiv h (by omega) (by omega) dX2_take_63 ?_
        refine lv_lload_n hx hb dX2_take_64 rfl (lv_at hl 3 rfl) ?_
        refine zb_lc (v := 1) h dX2_take_65 (by decide +kernel) ?_
        refine zb_ladd h dX2_take_66 ?_
        refine zmaxL h hl.1 zm_X2_33 (Nat.le_of_ble_eq_true rfl) (Nat.le_of_ble_eq_true rfl) ⟨Nat.zero_le _, Nat.zero_le _⟩ (by omega) (by omega) (Nat.le_of_ble_eq_true rfl) dX2_take_67 ?_
        refine lv_lstore_n (lv' := [(3, .long (zL (max ((mk * (zSteps g)) / 1000) (mk + 1)))), (0, .ref (za G k 1)), (1, .int (zI g)), (2, .int (zI v)), (5, .int (zI i))]) hx hb dX2_take_70 rfl hl (by decide) rfl (fun ls hl => ?_)
        refine lv_iinc (v := zI (i + 1)) (lv' := [(5, .int (zI (i + 1))), (3, .long (zL (max ((mk * (zSteps g)) / 1000) (mk + 1)))), (0, .ref (za G k 1)), (1, .int (zI g)), (2, .int (zI v))]) hx hb dX2_take_71 hl (k := 4) rfl (zI_add _ _) (by decide) rfl (fun ls hl => ?_)
        refine lv_goto (tgt := 33) hx hb dX2_take_74 (by decide) ?_
        exact ih33 (i + 1) (max ((mk * (zSteps g)) / 1000) (mk + 1)) (zup M (i) mk) _ _ _ (by omega) (by omega) (by rw [zmk_s g v hi.1, hm]) (fun j h1 h2 => if e : j = i then (by rw [e, zup_s]; exact hm) else (by rw [zup_n e]; exact hM j h1 (by omega))) hH (lv_sub hl [2, 3, 4, 1, 0] rfl)
  refine lv_iload_n hx hb dX2_take_0 rfl (lv_at hl 1 rfl) ?_
  refine zb_ilt (tgt := 12) h (by omega) dX2_take_1 (by decide) (fun c_1 => ?_) (fun c_1 => ?_)
  · exact absurd c_1 (by omega)
  · refine lv_iload_n hx hb dX2_take_4 rfl (lv_at hl 1 rfl) ?_
    refine zgs1 h hH zf_X2_19 dX2_take_5 ?_
    refine ztl1 h hH dX2_take_8 ?_
    refine zb_clt (tgt := 13) h (by omega) (by omega) dX2_take_9 (by decide) (fun c_9 => ?_) (fun c_9 => ?_)
    · refine lv_aload_n hx hb dX2_take_13 rfl (lv_at hl 0 rfl) ?_
      refine lv_iload_n hx hb dX2_take_14 rfl (lv_at hl 1 rfl) ?_
      refine zu_2_1 h hH hk zf_X2_22 dX2_take_15 (fun H locs hH => ?_)
      rw [zs_P0] at hH
      refine lv_aload_n hx hb dX2_take_18 rfl (lv_at hl 0 rfl) ?_
      refine lv_iload_n hx hb dX2_take_19 rfl (lv_at hl 2 rfl) ?_
      refine zu_2_2 h hH hk zf_X2_26 dX2_take_20 (fun H locs hH => ?_)
      rw [zs_P0] at hH
      refine lv_iload_n hx hb dX2_take_23 rfl (lv_at hl 2 rfl) ?_
      refine zb_i2l h (by omega) dX2_take_24 ?_
      refine zb_ldc2 (n := 100) h zk_X2_29 (by decide +kernel) dX2_take_25 ?_
      refine zb_lmul h dX2_take_28 ?_
      refine lv_lstore_n (lv' := [(3, .long (zL (v * 100))), (0, .ref (za G k 1)), (1, .int (zI g)), (2, .int (zI v))]) hx hb dX2_take_29 rfl hl (by decide) rfl (fun ls hl => ?_)
      refine zb_ic h dX2_take_30 ?_
      refine lv_istore (lv' := [(5, .int (zI 0)), (3, .long (zL (v * 100))), (0, .ref (za G k 1)), (1, .int (zI g)), (2, .int (zI v))]) hx hb dX2_take_31 hl (by decide) rfl (fun ls hl => ?_)
      exact C33 ((10 - 0 : Int).toNat + 1) 0 (v * 100) (S k 2) _ _ _ (by omega) (by omega) (by show v * 100 = 100 * v; omega) (fun j h1 h2 => absurd h1 (by omega)) hH (lv_sub hl [2, 3, 4, 1, 0] rfl)
    · exact absurd c_9 (by omega)
theorem dX3_copyFrom_0 : decode cX3_copyFrom 0 = .ok (.aload_n 0, 1) := by decide +kernel
theorem dX3_copyFrom_1 : decode cX3_copyFrom 1 = .ok (.getfield 12, 3) := by decide +kernel
theorem dX3_copyFrom_4 : decode cX3_copyFrom 4 = .ok (.aload_n 1, 1) := by decide +kernel
theorem dX3_copyFrom_5 : decode cX3_copyFrom 5 = .ok (.getfield 12, 3) := by decide +kernel
theorem dX3_copyFrom_8 : decode cX3_copyFrom 8 = .ok (.getfield 47, 3) := by decide +kernel
theorem dX3_copyFrom_11 : decode cX3_copyFrom 11 = .ok (.aload_n 1, 1) := by decide +kernel
theorem dX3_copyFrom_12 : decode cX3_copyFrom 12 = .ok (.getfield 12, 3) := by decide +kernel
theorem dX3_copyFrom_15 : decode cX3_copyFrom 15 = .ok (.getfield 50, 3) := by decide +kernel
theorem dX3_copyFrom_18 : decode cX3_copyFrom 18 = .ok (.invokevirtual 53, 3) := by decide +kernel
theorem dX3_copyFrom_21 : decode cX3_copyFrom 21 = .ok (.iconst 0, 1) := by decide +kernel
theorem dX3_copyFrom_22 : decode cX3_copyFrom 22 = .ok (.istore_n 2, 1) := by decide +kernel
theorem dX3_copyFrom_23 : decode cX3_copyFrom 23 = .ok (.iload_n 2, 1) := by decide +kernel
theorem dX3_copyFrom_24 : decode cX3_copyFrom 24 = .ok (.bipush 8, 2) := by decide +kernel
theorem dX3_copyFrom_26 : decode cX3_copyFrom 26 = .ok (.if_icmp .ge 69, 3) := by decide +kernel
theorem dX3_copyFrom_29 : decode cX3_copyFrom 29 = .ok (.aload_n 0, 1) := by decide +kernel
theorem dX3_copyFrom_30 : decode cX3_copyFrom 30 = .ok (.getfield 18, 3) := by decide +kernel
theorem dX3_copyFrom_33 : decode cX3_copyFrom 33 = .ok (.iload_n 2, 1) := by decide +kernel
theorem dX3_copyFrom_34 : decode cX3_copyFrom 34 = .ok (.aload_n 1, 1) := by decide +kernel
theorem dX3_copyFrom_35 : decode cX3_copyFrom 35 = .ok (.getfield 18, 3) := by decide +kernel
theorem dX3_copyFrom_38 : decode cX3_copyFrom 38 = .ok (.iload_n 2, 1) := by decide +kernel
theorem dX3_copyFrom_39 : decode cX3_copyFrom 39 = .ok (.iaload, 1) := by decide +kernel
theorem dX3_copyFrom_40 : decode cX3_copyFrom 40 = .ok (.iastore, 1) := by decide +kernel
theorem dX3_copyFrom_41 : decode cX3_copyFrom 41 = .ok (.aload_n 0, 1) := by decide +kernel
theorem dX3_copyFrom_42 : decode cX3_copyFrom 42 = .ok (.getfield 22, 3) := by decide +kernel
theorem dX3_copyFrom_45 : decode cX3_copyFrom 45 = .ok (.iload_n 2, 1) := by decide +kernel
theorem dX3_copyFrom_46 : decode cX3_copyFrom 46 = .ok (.aload_n 1, 1) := by decide +kernel
theorem dX3_copyFrom_47 : decode cX3_copyFrom 47 = .ok (.getfield 22, 3) := by decide +kernel
theorem dX3_copyFrom_50 : decode cX3_copyFrom 50 = .ok (.iload_n 2, 1) := by decide +kernel
theorem dX3_copyFrom_51 : decode cX3_copyFrom 51 = .ok (.iaload, 1) := by decide +kernel
theorem dX3_copyFrom_52 : decode cX3_copyFrom 52 = .ok (.iastore, 1) := by decide +kernel
theorem dX3_copyFrom_53 : decode cX3_copyFrom 53 = .ok (.aload_n 0, 1) := by decide +kernel
theorem dX3_copyFrom_54 : decode cX3_copyFrom 54 = .ok (.getfield 25, 3) := by decide +kernel
theorem dX3_copyFrom_57 : decode cX3_copyFrom 57 = .ok (.iload_n 2, 1) := by decide +kernel
theorem dX3_copyFrom_58 : decode cX3_copyFrom 58 = .ok (.aload_n 1, 1) := by decide +kernel
theorem dX3_copyFrom_59 : decode cX3_copyFrom 59 = .ok (.getfield 25, 3) := by decide +kernel
theorem dX3_copyFrom_62 : decode cX3_copyFrom 62 = .ok (.iload_n 2, 1) := by decide +kernel
theorem dX3_copyFrom_63 : decode cX3_copyFrom 63 = .ok (.iaload, 1) := by decide +kernel
theorem dX3_copyFrom_64 : decode cX3_copyFrom 64 = .ok (.iastore, 1) := by decide +kernel
theorem dX3_copyFrom_65 : decode cX3_copyFrom 65 = .ok (.aload_n 0, 1) := by decide +kernel
theorem dX3_copyFrom_66 : decode cX3_copyFrom 66 = .ok (.getfield 28, 3) := by decide +kernel
theorem dX3_copyFrom_69 : decode cX3_copyFrom 69 = .ok (.iload_n 2, 1) := by decide +kernel
theorem dX3_copyFrom_70 : decode cX3_copyFrom 70 = .ok (.aload_n 1, 1) := by decide +kernel
theorem dX3_copyFrom_71 : decode cX3_copyFrom 71 = .ok (.getfield 28, 3) := by decide +kernel
theorem dX3_copyFrom_74 : decode cX3_copyFrom 74 = .ok (.iload_n 2, 1) := by decide +kernel
theorem dX3_copyFrom_75 : decode cX3_copyFrom 75 = .ok (.iaload, 1) := by decide +kernel
theorem dX3_copyFrom_76 : decode cX3_copyFrom 76 = .ok (.iastore, 1) := by decide +kernel
theorem dX3_copyFrom_77 : decode cX3_copyFrom 77 = .ok (.aload_n 0, 1) := by decide +kernel
theorem dX3_copyFrom_78 : decode cX3_copyFrom 78 = .ok (.getfield 31, 3) := by decide +kernel
theorem dX3_copyFrom_81 : decode cX3_copyFrom 81 = .ok (.iload_n 2, 1) := by decide +kernel
theorem dX3_copyFrom_82 : decode cX3_copyFrom 82 = .ok (.aload_n 1, 1) := by decide +kernel
theorem dX3_copyFrom_83 : decode cX3_copyFrom 83 = .ok (.getfield 31, 3) := by decide +kernel
theorem dX3_copyFrom_86 : decode cX3_copyFrom 86 = .ok (.iload_n 2, 1) := by decide +kernel
theorem dX3_copyFrom_87 : decode cX3_copyFrom 87 = .ok (.iaload, 1) := by decide +kernel
theorem dX3_copyFrom_88 : decode cX3_copyFrom 88 = .ok (.iastore, 1) := by decide +kernel
theorem dX3_copyFrom_89 : decode cX3_copyFrom 89 = .ok (.iinc 2 1, 3) := by decide +kernel
theorem dX3_copyFrom_92 : decode cX3_copyFrom 92 = .ok (.goto (-69), 3) := by decide +kernel
theorem dX3_copyFrom_95 : decode cX3_copyFrom 95 = .ok (.aload_n 0, 1) := by decide +kernel
theorem dX3_copyFrom_96 : decode cX3_copyFrom 96 = .ok (.aload_n 1, 1) := by decide +kernel
theorem dX3_copyFrom_97 : decode cX3_copyFrom 97 = .ok (.getfield 37, 3) := by decide +kernel
theorem dX3_copyFrom_100 : decode cX3_copyFrom 100 = .ok (.putfield 37, 3) := by decide +kernel
theorem dX3_copyFrom_103 : decode cX3_copyFrom 103 = .ok (.aload_n 0, 1) := by decide +kernel
theorem dX3_copyFrom_104 : decode cX3_copyFrom 104 = .ok (.aload_n 1, 1) := by decide +kernel
theorem dX3_copyFrom_105 : decode cX3_copyFrom 105 = .ok (.getfield 41, 3) := by decide +kernel
theorem dX3_copyFrom_108 : decode cX3_copyFrom 108 = .ok (.putfield 41, 3) := by decide +kernel
theorem dX3_copyFrom_111 : decode cX3_copyFrom 111 = .ok (.aload_n 0, 1) := by decide +kernel
theorem dX3_copyFrom_112 : decode cX3_copyFrom 112 = .ok (.aload_n 1, 1) := by decide +kernel
theorem dX3_copyFrom_113 : decode cX3_copyFrom 113 = .ok (.getfield 44, 3) := by decide +kernel
theorem dX3_copyFrom_116 : decode cX3_copyFrom 116 = .ok (.putfield 44, 3) := by decide +kernel
theorem dX3_copyFrom_119 : decode cX3_copyFrom 119 = .ok (.return_, 1) := by decide +kernel
def q_X3_copyFrom (k k2 : Nat) (S : zM) : zM → Prop := fun S1 => (zPut S k (S k2 0) (zMk (S k2 0 1) (S k2 0 2)) (S k 8)) = S1
def r_X3_copyFrom : Room := { frames := 2, cells := 0, slots := 0, locals := 48 }
set_option maxHeartbeats 4000000 in
set_option maxRecDepth 100000 in
theorem c_X3_copyFrom (l : Launch) (G : zG) (hG : zok G) (k k2 : Nat) (hk : k < 8) (hk2 : k2 < 8) (hne : k2 ≠ k) (S : zM) (hw2 : zW (S k2 0)) : Met l yX3_copyFrom (Cond.code yX3_copyFrom cX3_copyFrom 3 (none : Option FieldType) :: zTbl) r_X3_copyFrom (va_Pc [.ref (za G k 0), .ref (za G k2 0)] (zB G S)) (va_Qv (q_X3_copyFrom k k2 S) (zB G) (zA G)) 0 0 (zA G) := by
  refine zMet [(0, .ref (za G k 0)), (1, .ref (za G k2 0))] hG (by decide) (Nat.le_of_ble_eq_true rfl) rfl (fun p e s m args below meth c ls h hx hb hr hH hl => ?_)
  rw [← zP_id S k] at hH
  have C23 : ∀ (fu : Nat) (i : Int) (σ : Int → Int) (H : Heap) (locs : List Loc) (ls : Array Slot), (8 - i).toNat < fu → (0 ≤ i ∧ i ≤ 8) → (∀ x : Int, (x = 1 ∨ x = 2 ∨ 5 ≤ x ∧ x < 5 + 5 * i) → σ x = S k2 0 x) → zH G (zPut S k σ (zMk (S k2 0 1) (S k2 0 2)) (S k 8)) s H locs → lv_has ls 3 [(0, .ref (za G k 0)), (1, .ref (za G k2 0)), (2, .int (zI i))] → W p l e r_X3_copyFrom s m args below meth c H locs 0 0 (MQ below (va_Qv (q_X3_copyFrom k k2 S) (zB G) (zA G)) args s 0 0 (zA G)) (F0 m 23 ls []) := by
    intro fu
    induction fu with
    | zero => intro i σ H locs ls hfu; omega
    | succ fu ih23 =>
      intro i σ H locs ls hfu hi hσ hH hl
      refine lv_iload_n hx hb dX3_copyFrom_23 rfl (lv_at hl 2 rfl) ?_
      refine zb_bi h dX3_copyFrom_24 (by decide) (by decide) ?_
      refine zb_cge (tgt := 95) h (by omega) (by omega) dX3_copyFrom_26 (by decide) (fun c_26 => ?_) (fun c_26 => ?_)
      · refine lv_aload_n hx hb dX3_copyFrom_95 rfl (lv_at hl 0 rfl) ?_
        refine lv_aload_n hx hb dX3_copyFrom_96 rfl (lv_at hl 1 rfl) ?_
        refine zg_3_7 h hH hk2 zf_X3_37 dX3_copyFrom_97 ?_
        rw [zP_n (by omega)]
        have f_97 := zW_4 hw2
        refine zu_3_7 h hH hk zf_X3_37 dX3_copyFrom_100 (fun H locs hH => ?_)
        rw [zs_P0] at hH
        refine lv_aload_n hx hb dX3_copyFrom_103 rfl (lv_at hl 0 rfl) ?_
        refine lv_aload_n hx hb dX3_copyFrom_104 rfl (lv_at hl 1 rfl) ?_
        refine zg_3_8 h hH hk2 zf_X3_41 dX3_copyFrom_105 ?_
        rw [zP_n (by omega)]
        have f_105 := zW_0 hw2
        refine zu_3_8 h hH hk zf_X3_41 dX3_copyFrom_108 (fun H locs hH => ?_)
        rw [zs_P0] at hH
        refine lv_aload_n hx hb dX3_copyFrom_111 rfl (lv_at hl 0 rfl) ?_
        refine lv_aload_n hx hb dX3_copyFrom_112 rfl (lv_at hl 1 rfl) ?_
        refine zg_3_9 h hH hk2 zf_X3_44 dX3_copyFrom_113 ?_
        rw [zP_n (by omega)]
        have f_113 := zW_3 hw2
        refine zu_3_9 h hH hk zf_X3_44 dX3_copyFrom_116 (fun H locs hH => ?_)
        rw [zs_P0] at hH
        have hH := zH_put (σ' := S k2 0) hk (zcp3 (fun x hx => hσ x (by omega))) (fun _ _ _ => rfl) (fun _ _ _ => rfl) hH
        refine zrv h hr hH ?_ dX3_copyFrom_119
        exact rfl
      · refine lv_aload_n hx hb dX3_copyFrom_29 rfl (lv_at hl 0 rfl) ?_
        refine zg_3_1 h hH hk zf_X3_18 dX3_copyFrom_30 ?_
        refine lv_iload_n hx hb dX3_copyFrom_33 rfl (lv_at hl 2 rfl) ?_
        refine lv_aload_n hx hb dX3_copyFrom_34 rfl (lv_at hl 1 rfl) ?_
        refine zg_3_1 h hH hk2 zf_X3_18 dX3_copyFrom_35 ?_
        refine lv_iload_n hx hb dX3_copyFrom_38 rfl (lv_at hl 2 rfl) ?_
        refine zld_ar_de h hH hk2 (by omega) dX3_copyFrom_39 ?_
        rw [zP_n (by omega)]
        have f_39 := zW_de hw2 (show 0 ≤ i ∧ i < 8 by omega)
        refine zst_ar_de h hH hk (by omega) dX3_copyFrom_40 (fun H locs hH => ?_)
        rw [zs_P0] at hH
        refine lv_aload_n hx hb dX3_copyFrom_41 rfl (lv_at hl 0 rfl) ?_
        refine zg_3_2 h hH hk zf_X3_22 dX3_copyFrom_42 ?_
        refine lv_iload_n hx hb dX3_copyFrom_45 rfl (lv_at hl 2 rfl) ?_
        refine lv_aload_n hx hb dX3_copyFrom_46 rfl (lv_at hl 1 rfl) ?_
        refine zg_3_2 h hH hk2 zf_X3_22 dX3_copyFrom_47 ?_
        refine lv_iload_n hx hb dX3_copyFrom_50 rfl (lv_at hl 2 rfl) ?_
        refine zld_ar_wa h hH hk2 (by omega) dX3_copyFrom_51 ?_
        rw [zP_n (by omega)]
        have f_51 := zW_wa hw2 (show 0 ≤ i ∧ i < 8 by omega)
        refine zst_ar_wa h hH hk (by omega) dX3_copyFrom_52 (fun H locs hH => ?_)
        rw [zs_P0] at hH
        refine lv_aload_n hx hb dX3_copyFrom_53 rfl (lv_at hl 0 rfl) ?_
        refine zg_3_3 h hH hk zf_X3_25 dX3_copyFrom_54 ?_
        refine lv_iload_n hx hb dX3_copyFrom_57 rfl (lv_at hl 2 rfl) ?_
        refine lv_aload_n hx hb dX3_copyFrom_58 rfl (lv_at hl 1 rfl) ?_
        refine zg_3_3 h hH hk2 zf_X3_25 dX3_copyFrom_59 ?_
        refine lv_iload_n hx hb dX3_copyFrom_62 rfl (lv_at hl 2 rfl) ?_
        refine zld_ar_bu h hH hk2 (by omega) dX3_copyFrom_63 ?_
        rw [zP_n (by omega)]
        have f_63 := zW_bu hw2 (show 0 ≤ i ∧ i < 8 by omega)
        refine zst_ar_bu h hH hk (by omega) dX3_copyFrom_64 (fun H locs hH => ?_)
        rw [zs_P0] at hH
        refine lv_aload_n hx hb dX3_copyFrom_65 rfl (lv_at hl 0 rfl) ?_
        refine zg_3_4 h hH hk zf_X3_28 dX3_copyFrom_66 ?_
        refine lv_iload_n hx hb dX3_copyFrom_69 rfl (lv_at hl 2 rfl) ?_
        refine lv_aload_n hx hb dX3_copyFrom_70 rfl (lv_at hl 1 rfl) ?_
        refine zg_3_4 h hH hk2 zf_X3_28 dX3_copyFrom_71 ?_
        refine lv_iload_n hx hb dX3_copyFrom_74 rfl (lv_at hl 2 rfl) ?_
        refine zld_ar_ho h hH hk2 (by omega) dX3_copyFrom_75 ?_
        rw [zP_n (by omega)]
        have f_75 := zW_ho hw2 (show 0 ≤ i ∧ i < 8 by omega)
        refine zst_ar_ho h hH hk (by omega) dX3_copyFrom_76 (fun H locs hH => ?_)
        rw [zs_P0] at hH
        refine lv_aload_n hx hb dX3_copyFrom_77 rfl (lv_at hl 0 rfl) ?_
        refine zg_3_5 h hH hk zf_X3_31 dX3_copyFrom_78 ?_
        refine lv_iload_n hx hb dX3_copyFrom_81 rfl (lv_at hl 2 rfl) ?_
        refine lv_aload_n hx hb dX3_copyFrom_82 rfl (lv_at hl 1 rfl) ?_
        refine zg_3_5 h hH hk2 zf_X3_31 dX3_copyFrom_83 ?_
        refine lv_iload_n hx hb dX3_copyFrom_86 rfl (lv_at hl 2 rfl) ?_
        refine zld_ar_nb h hH hk2 (by omega) dX3_copyFrom_87 ?_
        rw [zP_n (by omega)]
        have f_87 := zW_nb hw2 (show 0 ≤ i ∧ i < 8 by omega)
        refine zst_ar_nb h hH hk (by omega) dX3_copyFrom_88 (fun H locs hH => ?_)
        rw [zs_P0] at hH
        refine lv_iinc (v := zI (i + 1)) (lv' := [(2, .int (zI (i + 1))), (0, .ref (za G k 0)), (1, .ref (za G k2 0))]) hx hb dX3_copyFrom_89 hl (k := 2) rfl (zI_add _ _) (by decide) rfl (fun ls hl => ?_)
        refine lv_goto (tgt := 23) hx hb dX3_copyFrom_92 (by decide) ?_
        exact ih23 (i + 1) (zup (zup (zup (zup (zup σ (5 + 5 * i) (S k2 0 (5 + 5 * i))) (5 + 5 * i + 1) (S k2 0 (5 + 5 * i + 1))) (5 + 5 * i + 2) (S k2 0 (5 + 5 * i + 2))) (5 + 5 * i + 3) (S k2 0 (5 + 5 * i + 3))) (5 + 5 * i + 4) (S k2 0 (5 + 5 * i + 4))) _ _ _ (by omega) (by omega) (zcp5 hσ) hH (lv_sub hl [1, 2, 0] rfl)
  refine lv_aload_n hx hb dX3_copyFrom_0 rfl (lv_at hl 0 rfl) ?_
  refine zg_3_0 h hH hk zf_X3_12 dX3_copyFrom_1 ?_
  refine lv_aload_n hx hb dX3_copyFrom_4 rfl (lv_at hl 1 rfl) ?_
  refine zg_3_0 h hH hk2 zf_X3_12 dX3_copyFrom_5 ?_
  refine zgn_2_1 h hH hk2 zfn_X3_47 dX3_copyFrom_8 ?_
  rw [zP_n (by omega)]
  have f_8 := zW_1 hw2
  refine lv_aload_n hx hb dX3_copyFrom_11 rfl (lv_at hl 1 rfl) ?_
  refine zg_3_0 h hH hk2 zf_X3_12 dX3_copyFrom_12 ?_
  refine zgn_2_2 h hH hk2 zfn_X3_50 dX3_copyFrom_15 ?_
  rw [zP_n (by omega)]
  have f_15 := zW_2 hw2
  refine zcVv h hH (zr_2 h hH hk) (As := [.int (zI (S k2 0 1)), .int (zI (S k2 0 2))]) (rest := []) (c_X2_take l G hG k hk (zPut S k (S k 0) (S k 2) (S k 8)) (S k2 0 1) (S k2 0 2) (by omega) (by omega)) zce_X2_take zcv_X2_take zm_X3_53 hl.1 rfl rfl ⟨rfl, rfl⟩ ⟨Nat.le_of_ble_eq_true rfl, Nat.le_of_ble_eq_true rfl⟩ (Nat.le_of_ble_eq_true rfl) ⟨Nat.zero_le _, Nat.zero_le _⟩ dX3_copyFrom_18 (fun S_18 H locs hq hH => ?_)
  obtain rfl := hq
  simp only [zP_P, zP_0, zP_8] at hH
  refine zb_ic h dX3_copyFrom_21 ?_
  refine lv_istore_n (lv' := [(2, .int (zI 0)), (0, .ref (za G k 0)), (1, .ref (za G k2 0))]) hx hb dX3_copyFrom_22 rfl hl (by decide) rfl (fun ls hl => ?_)
  exact C23 ((8 - 0 : Int).toNat + 1) 0 (zup (zup (S k 0) 1 (S k2 0 1)) 2 (S k2 0 2)) _ _ _ (by omega) (by omega) (fun x hx => (by omega : x = 1 ∨ x = 2).elim (fun e => by rw [e, zup_n (by omega), zup_s]) (fun e => by rw [e, zup_s])) hH (lv_sub hl [1, 2, 0] rfl)
theorem dX3_addZone_0 : decode cX3_addZone 0 = .ok (.aload_n 0, 1) := by decide +kernel
theorem dX3_addZone_1 : decode cX3_addZone 1 = .ok (.getfield 37, 3) := by decide +kernel
theorem dX3_addZone_4 : decode cX3_addZone 4 = .ok (.istore_n 3, 1) := by decide +kernel
theorem dX3_addZone_5 : decode cX3_addZone 5 = .ok (.iload_n 3, 1) := by decide +kernel
theorem dX3_addZone_6 : decode cX3_addZone 6 = .ok (.ifCond .lt 9, 3) := by decide +kernel
theorem dX3_addZone_9 : decode cX3_addZone 9 = .ok (.iload_n 3, 1) := by decide +kernel
theorem dX3_addZone_10 : decode cX3_addZone 10 = .ok (.bipush 8, 2) := by decide +kernel
theorem dX3_addZone_12 : decode cX3_addZone 12 = .ok (.if_icmp .lt 5, 3) := by decide +kernel
theorem dX3_addZone_17 : decode cX3_addZone 17 = .ok (.aload_n 0, 1) := by decide +kernel
theorem dX3_addZone_18 : decode cX3_addZone 18 = .ok (.getfield 18, 3) := by decide +kernel
theorem dX3_addZone_21 : decode cX3_addZone 21 = .ok (.iload_n 3, 1) := by decide +kernel
theorem dX3_addZone_22 : decode cX3_addZone 22 = .ok (.iload_n 1, 1) := by decide +kernel
theorem dX3_addZone_23 : decode cX3_addZone 23 = .ok (.iastore, 1) := by decide +kernel
theorem dX3_addZone_24 : decode cX3_addZone 24 = .ok (.aload_n 0, 1) := by decide +kernel
theorem dX3_addZone_25 : decode cX3_addZone 25 = .ok (.getfield 22, 3) := by decide +kernel
theorem dX3_addZone_28 : decode cX3_addZone 28 = .ok (.iload_n 3, 1) := by decide +kernel
theorem dX3_addZone_29 : decode cX3_addZone 29 = .ok (.iload_n 2, 1) := by decide +kernel
theorem dX3_addZone_30 : decode cX3_addZone 30 = .ok (.iastore, 1) := by decide +kernel
theorem dX3_addZone_31 : decode cX3_addZone 31 = .ok (.aload_n 0, 1) := by decide +kernel
theorem dX3_addZone_32 : decode cX3_addZone 32 = .ok (.getfield 25, 3) := by decide +kernel
theorem dX3_addZone_35 : decode cX3_addZone 35 = .ok (.iload_n 3, 1) := by decide +kernel
theorem dX3_addZone_36 : decode cX3_addZone 36 = .ok (.iconst 0, 1) := by decide +kernel
theorem dX3_addZone_37 : decode cX3_addZone 37 = .ok (.iastore, 1) := by decide +kernel
theorem dX3_addZone_38 : decode cX3_addZone 38 = .ok (.aload_n 0, 1) := by decide +kernel
theorem dX3_addZone_39 : decode cX3_addZone 39 = .ok (.getfield 28, 3) := by decide +kernel
theorem dX3_addZone_42 : decode cX3_addZone 42 = .ok (.iload_n 3, 1) := by decide +kernel
theorem dX3_addZone_43 : decode cX3_addZone 43 = .ok (.iconst 0, 1) := by decide +kernel
theorem dX3_addZone_44 : decode cX3_addZone 44 = .ok (.iastore, 1) := by decide +kernel
theorem dX3_addZone_45 : decode cX3_addZone 45 = .ok (.aload_n 0, 1) := by decide +kernel
theorem dX3_addZone_46 : decode cX3_addZone 46 = .ok (.getfield 31, 3) := by decide +kernel
theorem dX3_addZone_49 : decode cX3_addZone 49 = .ok (.iload_n 3, 1) := by decide +kernel
theorem dX3_addZone_50 : decode cX3_addZone 50 = .ok (.iconst 0, 1) := by decide +kernel
theorem dX3_addZone_51 : decode cX3_addZone 51 = .ok (.iastore, 1) := by decide +kernel
theorem dX3_addZone_52 : decode cX3_addZone 52 = .ok (.aload_n 0, 1) := by decide +kernel
theorem dX3_addZone_53 : decode cX3_addZone 53 = .ok (.dup, 1) := by decide +kernel
theorem dX3_addZone_54 : decode cX3_addZone 54 = .ok (.getfield 37, 3) := by decide +kernel
theorem dX3_addZone_57 : decode cX3_addZone 57 = .ok (.iconst 1, 1) := by decide +kernel
theorem dX3_addZone_58 : decode cX3_addZone 58 = .ok (.iadd, 1) := by decide +kernel
theorem dX3_addZone_59 : decode cX3_addZone 59 = .ok (.putfield 37, 3) := by decide +kernel
theorem dX3_addZone_62 : decode cX3_addZone 62 = .ok (.iload_n 3, 1) := by decide +kernel
theorem dX3_addZone_63 : decode cX3_addZone 63 = .ok (.ireturn, 1) := by decide +kernel
def q_X3_addZone_ok (k : Nat) (S : zM) (d w : Int) : Int32 → zM → Prop := fun r S1 => r = zI (S k 0 4) ∧ (zPut S k (tAdd (S k 0) d w) (S k 2) (S k 8)) = S1
def r_X3_addZone_ok : Room := { frames := 0, cells := 0, slots := 0, locals := 0 }
set_option maxHeartbeats 4000000 in
set_option maxRecDepth 100000 in
theorem c_X3_addZone_ok (l : Launch) (G : zG) (hG : zok G) (k : Nat) (hk : k < 8) (S : zM) (d w : Int) (hd : 0 ≤ d ∧ d ≤ 24) (hwn : 0 ≤ w ∧ w ≤ 10) (hful : S k 0 4 < 8) (hw : zW (S k 0)) : Met l yX3_addZone (Cond.code yX3_addZone cX3_addZone 4 (some FieldType.int) :: zTbl) r_X3_addZone_ok (va_Pc [.ref (za G k 0), .int (zI d), .int (zI w)] (zB G S)) (va_Qi (q_X3_addZone_ok k S d w) (zB G) (zA G)) 0 0 (zA G) := by
  refine zMet [(0, .ref (za G k 0)), (1, .int (zI d)), (2, .int (zI w))] hG (by decide) (Nat.le_of_ble_eq_true rfl) rfl (fun p e s m args below meth c ls h hx hb hr hH hl => ?_)
  rw [← zP_id S k] at hH
  refine lv_aload_n hx hb dX3_addZone_0 rfl (lv_at hl 0 rfl) ?_
  refine zg_3_7 h hH hk zf_X3_37 dX3_addZone_1 ?_
  rw [zP_0]
  have f_1 := zW_4 hw
  refine lv_istore_n (lv' := [(3, .int (zI (S k 0 4))), (0, .ref (za G k 0)), (1, .int (zI d)), (2, .int (zI w))]) hx hb dX3_addZone_4 rfl hl (by decide) rfl (fun ls hl => ?_)
  have f4 := zW_4 hw
  refine lv_iload_n hx hb dX3_addZone_5 rfl (lv_at hl 0 rfl) ?_
  refine zb_ilt (tgt := 15) h (by omega) dX3_addZone_6 (by decide) (fun c_6 => ?_) (fun c_6 => ?_)
  · exact absurd c_6 (by omega)
  · refine lv_iload_n hx hb dX3_addZone_9 rfl (lv_at hl 0 rfl) ?_
    refine zb_bi h dX3_addZone_10 (by decide) (by decide) ?_
    refine zb_clt (tgt := 17) h (by omega) (by omega) dX3_addZone_12 (by decide) (fun c_12 => ?_) (fun c_12 => ?_)
    · refine lv_aload_n hx hb dX3_addZone_17 rfl (lv_at hl 1 rfl) ?_
      refine zg_3_1 h hH hk zf_X3_18 dX3_addZone_18 ?_
      refine lv_iload_n hx hb dX3_addZone_21 rfl (lv_at hl 0 rfl) ?_
      refine lv_iload_n hx hb dX3_addZone_22 rfl (lv_at hl 2 rfl) ?_
      refine zst_ar_de h hH hk (by omega) dX3_addZone_23 (fun H locs hH => ?_)
      rw [zs_P0] at hH
      refine lv_aload_n hx hb dX3_addZone_24 rfl (lv_at hl 1 rfl) ?_
      refine zg_3_2 h hH hk zf_X3_22 dX3_addZone_25 ?_
      refine lv_iload_n hx hb dX3_addZone_28 rfl (lv_at hl 0 rfl) ?_
      refine lv_iload_n hx hb dX3_addZone_29 rfl (lv_at hl 3 rfl) ?_
      refine zst_ar_wa h hH hk (by omega) dX3_addZone_30 (fun H locs hH => ?_)
      rw [zs_P0] at hH
      refine lv_aload_n hx hb dX3_addZone_31 rfl (lv_at hl 1 rfl) ?_
      refine zg_3_3 h hH hk zf_X3_25 dX3_addZone_32 ?_
      refine lv_iload_n hx hb dX3_addZone_35 rfl (lv_at hl 0 rfl) ?_
      refine zb_ic h dX3_addZone_36 ?_
      refine zst_ar_bu h hH hk (by omega) dX3_addZone_37 (fun H locs hH => ?_)
      rw [zs_P0] at hH
      refine lv_aload_n hx hb dX3_addZone_38 rfl (lv_at hl 1 rfl) ?_
      refine zg_3_4 h hH hk zf_X3_28 dX3_addZone_39 ?_
      refine lv_iload_n hx hb dX3_addZone_42 rfl (lv_at hl 0 rfl) ?_
      refine zb_ic h dX3_addZone_43 ?_
      refine zst_ar_ho h hH hk (by omega) dX3_addZone_44 (fun H locs hH => ?_)
      rw [zs_P0] at hH
      refine lv_aload_n hx hb dX3_addZone_45 rfl (lv_at hl 1 rfl) ?_
      refine zg_3_5 h hH hk zf_X3_31 dX3_addZone_46 ?_
      refine lv_iload_n hx hb dX3_addZone_49 rfl (lv_at hl 0 rfl) ?_
      refine zb_ic h dX3_addZone_50 ?_
      refine zst_ar_nb h hH hk (by omega) dX3_addZone_51 (fun H locs hH => ?_)
      rw [zs_P0] at hH
      refine lv_aload_n hx hb dX3_addZone_52 rfl (lv_at hl 1 rfl) ?_
      refine lv_dup hx hb dX3_addZone_53 rfl ?_
      refine zg_3_7 h hH hk zf_X3_37 dX3_addZone_54 ?_
      rw [zP_0]
      rw [show (zup (zup (zup (zup (zup (S k 0) (5 + 5 * (S k 0 4)) d) (5 + 5 * (S k 0 4) + 1) w) (5 + 5 * (S k 0 4) + 2) 0) (5 + 5 * (S k 0 4) + 3) 0) (5 + 5 * (S k 0 4) + 4) 0 4 : Int) = S k 0 4 from by (first | rw [zup_s] | rw [zup_n (by omega)]); (first | rw [zup_s] | rw [zup_n (by omega)]); (first | rw [zup_s] | rw [zup_n (by omega)]); (first | rw [zup_s] | rw [zup_n (by omega)]); (first | rw [zup_s] | rw [zup_n (by omega)])]
      have f_54 := zW_4 hw
      refine zb_ic h dX3_addZone_57 ?_
      refine zb_iadd h dX3_addZone_58 ?_
      refine zu_3_7 h hH hk zf_X3_37 dX3_addZone_59 (fun H locs hH => ?_)
      rw [zs_P0] at hH
      refine lv_iload_n hx hb dX3_addZone_62 rfl (lv_at hl 0 rfl) ?_
      refine zri h hr hH ?_ dX3_addZone_63
      exact ⟨rfl, rfl⟩
    · exact absurd c_12 (by omega)
theorem dX3_addZone_15 : decode cX3_addZone 15 = .ok (.iconst (-1), 1) := by decide +kernel
theorem dX3_addZone_16 : decode cX3_addZone 16 = .ok (.ireturn, 1) := by decide +kernel
def q_X3_addZone_no (k : Nat) (S : zM) (d w : Int) : Int32 → zM → Prop := fun r S1 => r = zI (-1) ∧ S = S1
def r_X3_addZone_no : Room := { frames := 0, cells := 0, slots := 0, locals := 0 }
set_option maxHeartbeats 4000000 in
set_option maxRecDepth 100000 in
theorem c_X3_addZone_no (l : Launch) (G : zG) (hG : zok G) (k : Nat) (hk : k < 8) (S : zM) (d w : Int) (hful : 8 ≤ S k 0 4) (hw : zW (S k 0)) : Met l yX3_addZone (Cond.code yX3_addZone cX3_addZone 4 (some FieldType.int) :: zTbl) r_X3_addZone_no (va_Pc [.ref (za G k 0), .int (zI d), .int (zI w)] (zB G S)) (va_Qi (q_X3_addZone_no k S d w) (zB G) (zA G)) 0 0 (zA G) := by
  refine zMet [(0, .ref (za G k 0)), (1, .int (zI d)), (2, .int (zI w))] hG (by decide) (Nat.le_of_ble_eq_true rfl) rfl (fun p e s m args below meth c ls h hx hb hr hH hl => ?_)
  refine lv_aload_n hx hb dX3_addZone_0 rfl (lv_at hl 0 rfl) ?_
  refine zg_3_7 h hH hk zf_X3_37 dX3_addZone_1 ?_
  have f_1 := zW_4 hw
  refine lv_istore_n (lv' := [(3, .int (zI (S k 0 4))), (0, .ref (za G k 0)), (1, .int (zI d)), (2, .int (zI w))]) hx hb dX3_addZone_4 rfl hl (by decide) rfl (fun ls hl => ?_)
  have f4 := zW_4 hw
  refine lv_iload_n hx hb dX3_addZone_5 rfl (lv_at hl 0 rfl) ?_
  refine zb_ilt (tgt := 15) h (by omega) dX3_addZone_6 (by decide) (fun c_6 => ?_) (fun c_6 => ?_)
  · exact absurd c_6 (by omega)
  · refine lv_iload_n hx hb dX3_addZone_9 rfl (lv_at hl 0 rfl) ?_
    refine zb_bi h dX3_addZone_10 (by decide) (by decide) ?_
    refine zb_clt (tgt := 17) h (by omega) (by omega) dX3_addZone_12 (by decide) (fun c_12 => ?_) (fun c_12 => ?_)
    · exact absurd c_12 (by omega)
    · refine zb_ic h dX3_addZone_15 ?_
      refine zri h hr hH ?_ dX3_addZone_16
      exact ⟨rfl, rfl⟩
theorem dX3_setNeighbours_0 : decode cX3_setNeighbours 0 = .ok (.aload_n 0, 1) := by decide +kernel
theorem dX3_setNeighbours_1 : decode cX3_setNeighbours 1 = .ok (.iload_n 1, 1) := by decide +kernel
theorem dX3_setNeighbours_2 : decode cX3_setNeighbours 2 = .ok (.invokevirtual 57, 3) := by decide +kernel
theorem dX3_setNeighbours_5 : decode cX3_setNeighbours 5 = .ok (.ifCond .eq 11, 3) := by decide +kernel
theorem dX3_setNeighbours_8 : decode cX3_setNeighbours 8 = .ok (.aload_n 0, 1) := by decide +kernel
theorem dX3_setNeighbours_9 : decode cX3_setNeighbours 9 = .ok (.iload_n 2, 1) := by decide +kernel
theorem dX3_setNeighbours_10 : decode cX3_setNeighbours 10 = .ok (.invokevirtual 57, 3) := by decide +kernel
theorem dX3_setNeighbours_13 : decode cX3_setNeighbours 13 = .ok (.ifCond .ne 4, 3) := by decide +kernel
theorem dX3_setNeighbours_17 : decode cX3_setNeighbours 17 = .ok (.iload_n 3, 1) := by decide +kernel
theorem dX3_setNeighbours_18 : decode cX3_setNeighbours 18 = .ok (.ifCond .eq 30, 3) := by decide +kernel
theorem dX3_setNeighbours_21 : decode cX3_setNeighbours 21 = .ok (.aload_n 0, 1) := by decide +kernel
theorem dX3_setNeighbours_22 : decode cX3_setNeighbours 22 = .ok (.getfield 31, 3) := by decide +kernel
theorem dX3_setNeighbours_25 : decode cX3_setNeighbours 25 = .ok (.iload_n 1, 1) := by decide +kernel
theorem dX3_setNeighbours_26 : decode cX3_setNeighbours 26 = .ok (.dup2, 1) := by decide +kernel
theorem dX3_setNeighbours_27 : decode cX3_setNeighbours 27 = .ok (.iaload, 1) := by decide +kernel
theorem dX3_setNeighbours_28 : decode cX3_setNeighbours 28 = .ok (.iconst 1, 1) := by decide +kernel
theorem dX3_setNeighbours_29 : decode cX3_setNeighbours 29 = .ok (.iload_n 2, 1) := by decide +kernel
theorem dX3_setNeighbours_30 : decode cX3_setNeighbours 30 = .ok (.ishl, 1) := by decide +kernel
theorem dX3_setNeighbours_31 : decode cX3_setNeighbours 31 = .ok (.ior, 1) := by decide +kernel
theorem dX3_setNeighbours_32 : decode cX3_setNeighbours 32 = .ok (.iastore, 1) := by decide +kernel
theorem dX3_setNeighbours_33 : decode cX3_setNeighbours 33 = .ok (.aload_n 0, 1) := by decide +kernel
theorem dX3_setNeighbours_34 : decode cX3_setNeighbours 34 = .ok (.getfield 31, 3) := by decide +kernel
theorem dX3_setNeighbours_37 : decode cX3_setNeighbours 37 = .ok (.iload_n 2, 1) := by decide +kernel
theorem dX3_setNeighbours_38 : decode cX3_setNeighbours 38 = .ok (.dup2, 1) := by decide +kernel
theorem dX3_setNeighbours_39 : decode cX3_setNeighbours 39 = .ok (.iaload, 1) := by decide +kernel
theorem dX3_setNeighbours_40 : decode cX3_setNeighbours 40 = .ok (.iconst 1, 1) := by decide +kernel
theorem dX3_setNeighbours_41 : decode cX3_setNeighbours 41 = .ok (.iload_n 1, 1) := by decide +kernel
theorem dX3_setNeighbours_42 : decode cX3_setNeighbours 42 = .ok (.ishl, 1) := by decide +kernel
theorem dX3_setNeighbours_43 : decode cX3_setNeighbours 43 = .ok (.ior, 1) := by decide +kernel
theorem dX3_setNeighbours_44 : decode cX3_setNeighbours 44 = .ok (.iastore, 1) := by decide +kernel
theorem dX3_setNeighbours_45 : decode cX3_setNeighbours 45 = .ok (.goto 31, 3) := by decide +kernel
theorem dX3_setNeighbours_48 : decode cX3_setNeighbours 48 = .ok (.aload_n 0, 1) := by decide +kernel
theorem dX3_setNeighbours_49 : decode cX3_setNeighbours 49 = .ok (.getfield 31, 3) := by decide +kernel
theorem dX3_setNeighbours_52 : decode cX3_setNeighbours 52 = .ok (.iload_n 1, 1) := by decide +kernel
theorem dX3_setNeighbours_53 : decode cX3_setNeighbours 53 = .ok (.dup2, 1) := by decide +kernel
theorem dX3_setNeighbours_54 : decode cX3_setNeighbours 54 = .ok (.iaload, 1) := by decide +kernel
theorem dX3_setNeighbours_55 : decode cX3_setNeighbours 55 = .ok (.iconst 1, 1) := by decide +kernel
theorem dX3_setNeighbours_56 : decode cX3_setNeighbours 56 = .ok (.iload_n 2, 1) := by decide +kernel
theorem dX3_setNeighbours_57 : decode cX3_setNeighbours 57 = .ok (.ishl, 1) := by decide +kernel
theorem dX3_setNeighbours_58 : decode cX3_setNeighbours 58 = .ok (.iconst (-1), 1) := by decide +kernel
theorem dX3_setNeighbours_59 : decode cX3_setNeighbours 59 = .ok (.ixor, 1) := by decide +kernel
theorem dX3_setNeighbours_60 : decode cX3_setNeighbours 60 = .ok (.iand, 1) := by decide +kernel
theorem dX3_setNeighbours_61 : decode cX3_setNeighbours 61 = .ok (.iastore, 1) := by decide +kernel
theorem dX3_setNeighbours_62 : decode cX3_setNeighbours 62 = .ok (.aload_n 0, 1) := by decide +kernel
theorem dX3_setNeighbours_63 : decode cX3_setNeighbours 63 = .ok (.getfield 31, 3) := by decide +kernel
theorem dX3_setNeighbours_66 : decode cX3_setNeighbours 66 = .ok (.iload_n 2, 1) := by decide +kernel
theorem dX3_setNeighbours_67 : decode cX3_setNeighbours 67 = .ok (.dup2, 1) := by decide +kernel
theorem dX3_setNeighbours_68 : decode cX3_setNeighbours 68 = .ok (.iaload, 1) := by decide +kernel
theorem dX3_setNeighbours_69 : decode cX3_setNeighbours 69 = .ok (.iconst 1, 1) := by decide +kernel
theorem dX3_setNeighbours_70 : decode cX3_setNeighbours 70 = .ok (.iload_n 1, 1) := by decide +kernel
theorem dX3_setNeighbours_71 : decode cX3_setNeighbours 71 = .ok (.ishl, 1) := by decide +kernel
theorem dX3_setNeighbours_72 : decode cX3_setNeighbours 72 = .ok (.iconst (-1), 1) := by decide +kernel
theorem dX3_setNeighbours_73 : decode cX3_setNeighbours 73 = .ok (.ixor, 1) := by decide +kernel
theorem dX3_setNeighbours_74 : decode cX3_setNeighbours 74 = .ok (.iand, 1) := by decide +kernel
theorem dX3_setNeighbours_75 : decode cX3_setNeighbours 75 = .ok (.iastore, 1) := by decide +kernel
theorem dX3_setNeighbours_76 : decode cX3_setNeighbours 76 = .ok (.return_, 1) := by decide +kernel
def q_X3_setNeighbours (k : Nat) (S : zM) (a b lk : Int) : zM → Prop := fun S1 => (zPut S k (tLk (S k 0) a b lk) (S k 2) (S k 8)) = S1
def r_X3_setNeighbours : Room := { frames := 1, cells := 0, slots := 0, locals := 21 }
set_option maxHeartbeats 4000000 in
set_option maxRecDepth 100000 in
theorem c_X3_setNeighbours (l : Launch) (G : zG) (hG : zok G) (k : Nat) (hk : k < 8) (S : zM) (a b lk : Int) (ha : 0 ≤ a ∧ a < S k 0 4) (hb2 : 0 ≤ b ∧ b < S k 0 4) (hab : a ≠ b) (hlk : lk = 0 ∨ lk = 1) (hw : zW (S k 0)) : Met l yX3_setNeighbours (Cond.code yX3_setNeighbours cX3_setNeighbours 4 (none : Option FieldType) :: zTbl) r_X3_setNeighbours (va_Pc [.ref (za G k 0), .int (zI a), .int (zI b), .int (zI lk)] (zB G S)) (va_Qv (q_X3_setNeighbours k S a b lk) (zB G) (zA G)) 0 0 (zA G) := by
  refine zMet [(0, .ref (za G k 0)), (1, .int (zI a)), (2, .int (zI b)), (3, .int (zI lk))] hG (by decide) (Nat.le_of_ble_eq_true rfl) rfl (fun p e s m args below meth c ls h hx hb hr hH hl => ?_)
  rw [← zP_id S k] at hH
  have f4 := zW_4 hw
  refine lv_aload_n hx hb dX3_setNeighbours_0 rfl (lv_at hl 0 rfl) ?_
  refine lv_iload_n hx hb dX3_setNeighbours_1 rfl (lv_at hl 1 rfl) ?_
  refine zcVi h hH (zr_3 h hH hk) (As := [.int (zI a)]) (rest := []) (c_X3_hasZone l G hG k hk (zPut S k (S k 0) (S k 2) (S k 8)) a (by omega) (zP_hw hw)) zce_X3_hasZone zcv_X3_hasZone zm_X3_57 hl.1 rfl rfl ⟨rfl, rfl⟩ ⟨Nat.le_of_ble_eq_true rfl, Nat.le_of_ble_eq_true rfl⟩ (Nat.le_of_ble_eq_true rfl) ⟨Nat.zero_le _, Nat.zero_le _⟩ dX3_setNeighbours_2 (fun r_2 S_2 H locs hq hH => ?_)
  obtain ⟨b_2, rfl, hb_2, rfl⟩ := hq
  (try rw [zP_0] at hb_2)
  refine zb_ieq (tgt := 16) h (by omega) dX3_setNeighbours_5 (by decide) (fun c_5 => ?_) (fun c_5 => ?_)
  · exact absurd c_5 (by omega)
  · refine lv_aload_n hx hb dX3_setNeighbours_8 rfl (lv_at hl 0 rfl) ?_
    refine lv_iload_n hx hb dX3_setNeighbours_9 rfl (lv_at hl 2 rfl) ?_
    refine zcVi h hH (zr_3 h hH hk) (As := [.int (zI b)]) (rest := []) (c_X3_hasZone l G hG k hk (zPut S k (S k 0) (S k 2) (S k 8)) b (by omega) (zP_hw hw)) zce_X3_hasZone zcv_X3_hasZone zm_X3_57 hl.1 rfl rfl ⟨rfl, rfl⟩ ⟨Nat.le_of_ble_eq_true rfl, Nat.le_of_ble_eq_true rfl⟩ (Nat.le_of_ble_eq_true rfl) ⟨Nat.zero_le _, Nat.zero_le _⟩ dX3_setNeighbours_10 (fun r_10 S_10 H locs hq hH => ?_)
    obtain ⟨b_10, rfl, hb_10, rfl⟩ := hq
    (try rw [zP_0] at hb_10)
    refine zb_ine (tgt := 17) h (by omega) dX3_setNeighbours_13 (by decide) (fun c_13 => ?_) (fun c_13 => ?_)
    · refine lv_iload_n hx hb dX3_setNeighbours_17 rfl (lv_at hl 3 rfl) ?_
      refine zb_ieq (tgt := 48) h (by omega) dX3_setNeighbours_18 (by decide) (fun c_18 => ?_) (fun c_18 => ?_)
      · refine lv_aload_n hx hb dX3_setNeighbours_48 rfl (lv_at hl 0 rfl) ?_
        refine zg_3_5 h hH hk zf_X3_31 dX3_setNeighbours_49 ?_
        refine lv_iload_n hx hb dX3_setNeighbours_52 rfl (lv_at hl 1 rfl) ?_
        refine lv_dup2_11 hx hb dX3_setNeighbours_53 rfl rfl ?_
        refine zld_ar_nb h hH hk (by omega) dX3_setNeighbours_54 ?_
        rw [zP_0]
        have f_54 := zW_nb hw (show 0 ≤ a ∧ a < 8 by omega)
        refine zb_ic h dX3_setNeighbours_55 ?_
        refine lv_iload_n hx hb dX3_setNeighbours_56 rfl (lv_at hl 2 rfl) ?_
        refine zb_ishl h (by omega) (by omega) (zsh1 (by omega)) dX3_setNeighbours_57 ?_
        refine zb_ic h dX3_setNeighbours_58 ?_
        refine zb_ixor h dX3_setNeighbours_59 ?_
        refine zb_iand h dX3_setNeighbours_60 ?_
        refine zst_ar_nb h hH hk (by omega) dX3_setNeighbours_61 (fun H locs hH => ?_)
        rw [zs_P0] at hH
        refine lv_aload_n hx hb dX3_setNeighbours_62 rfl (lv_at hl 0 rfl) ?_
        refine zg_3_5 h hH hk zf_X3_31 dX3_setNeighbours_63 ?_
        refine lv_iload_n hx hb dX3_setNeighbours_66 rfl (lv_at hl 2 rfl) ?_
        refine lv_dup2_11 hx hb dX3_setNeighbours_67 rfl rfl ?_
        refine zld_ar_nb h hH hk (by omega) dX3_setNeighbours_68 ?_
        rw [zP_0]
        rw [show (zup (S k 0) (5 + 5 * a + 4) (zand (S k 0 (5 + 5 * a + 4)) (zxor (1 * 2 ^ b.toNat) (-1))) (5 + 5 * b + 4) : Int) = S k 0 (5 + 5 * b + 4) from by (first | rw [zup_s] | rw [zup_n (by omega)])]
        have f_68 := zW_nb hw (show 0 ≤ b ∧ b < 8 by omega)
        refine zb_ic h dX3_setNeighbours_69 ?_
        refine lv_iload_n hx hb dX3_setNeighbours_70 rfl (lv_at hl 1 rfl) ?_
        refine zb_ishl h (by omega) (by omega) (zsh1 (by omega)) dX3_setNeighbours_71 ?_
        refine zb_ic h dX3_setNeighbours_72 ?_
        refine zb_ixor h dX3_setNeighbours_73 ?_
        refine zb_iand h dX3_setNeighbours_74 ?_
        refine zst_ar_nb h hH hk (by omega) dX3_setNeighbours_75 (fun H locs hH => ?_)
        rw [zs_P0] at hH
        refine zrv h hr hH ?_ dX3_setNeighbours_76
        first | (exact congrArg (fun σ => zPut S k σ (S k 2) (S k 8)) (by unfold tLk; rw [if_pos (by omega)]; rfl)) | (exact congrArg (fun σ => zPut S k σ (S k 2) (S k 8)) (by unfold tLk; rw [if_neg (by omega)]; rfl))
      · refine lv_aload_n hx hb dX3_setNeighbours_21 rfl (lv_at hl 0 rfl) ?_
        refine zg_3_5 h hH hk zf_X3_31 dX3_setNeighbours_22 ?_
        refine lv_iload_n hx hb dX3_setNeighbours_25 rfl (lv_at hl 1 rfl) ?_
        refine lv_dup2_11 hx hb dX3_setNeighbours_26 rfl rfl ?_
        refine zld_ar_nb h hH hk (by omega) dX3_setNeighbours_27 ?_
        rw [zP_0]
        have f_27 := zW_nb hw (show 0 ≤ a ∧ a < 8 by omega)
        refine zb_ic h dX3_setNeighbours_28 ?_
        refine lv_iload_n hx hb dX3_setNeighbours_29 rfl (lv_at hl 2 rfl) ?_
        refine zb_ishl h (by omega) (by omega) (zsh1 (by omega)) dX3_setNeighbours_30 ?_
        refine zb_ior h dX3_setNeighbours_31 ?_
        refine zst_ar_nb h hH hk (by omega) dX3_setNeighbours_32 (fun H locs hH => ?_)
        rw [zs_P0] at hH
        refine lv_aload_n hx hb dX3_setNeighbours_33 rfl (lv_at hl 0 rfl) ?_
        refine zg_3_5 h hH hk zf_X3_31 dX3_setNeighbours_34 ?_
        refine lv_iload_n hx hb dX3_setNeighbours_37 rfl (lv_at hl 2 rfl) ?_
        refine lv_dup2_11 hx hb dX3_setNeighbours_38 rfl rfl ?_
        refine zld_ar_nb h hH hk (by omega) dX3_setNeighbours_39 ?_
        rw [zP_0]
        rw [show (zup (S k 0) (5 + 5 * a + 4) (zor (S k 0 (5 + 5 * a + 4)) (1 * 2 ^ b.toNat)) (5 + 5 * b + 4) : Int) = S k 0 (5 + 5 * b + 4) from by (first | rw [zup_s] | rw [zup_n (by omega)])]
        have f_39 := zW_nb hw (show 0 ≤ b ∧ b < 8 by omega)
        refine zb_ic h dX3_setNeighbours_40 ?_
        refine lv_iload_n hx hb dX3_setNeighbours_41 rfl (lv_at hl 1 rfl) ?_
        refine zb_ishl h (by omega) (by omega) (zsh1 (by omega)) dX3_setNeighbours_42 ?_
        refine zb_ior h dX3_setNeighbours_43 ?_
        refine zst_ar_nb h hH hk (by omega) dX3_setNeighbours_44 (fun H locs hH => ?_)
        rw [zs_P0] at hH
        refine lv_goto (tgt := 76) hx hb dX3_setNeighbours_45 (by decide) ?_
        refine zrv h hr hH ?_ dX3_setNeighbours_76
        first | (exact congrArg (fun σ => zPut S k σ (S k 2) (S k 8)) (by unfold tLk; rw [if_pos (by omega)]; rfl)) | (exact congrArg (fun σ => zPut S k σ (S k 2) (S k 8)) (by unfold tLk; rw [if_neg (by omega)]; rfl))
    · exact absurd c_13 (by omega)
