theorem dX2_toneOf_0 : decode cX2_toneOf 0 = .ok (.iconst 0, 1) := by decide +kernel
theorem dX2_toneOf_1 : decode cX2_toneOf 1 = .ok (.istore_n 2, 1) := by decide +kernel
theorem dX2_toneOf_2 : decode cX2_toneOf 2 = .ok (.iconst 0, 1) := by decide +kernel
theorem dX2_toneOf_3 : decode cX2_toneOf 3 = .ok (.istore_n 3, 1) := by decide +kernel
theorem dX2_toneOf_4 : decode cX2_toneOf 4 = .ok (.iload_n 3, 1) := by decide +kernel
theorem dX2_toneOf_5 : decode cX2_toneOf 5 = .ok (.aload_n 0, 1) := by decide +kernel
theorem dX2_toneOf_6 : decode cX2_toneOf 6 = .ok (.getfield 9, 3) := by decide +kernel
theorem dX2_toneOf_9 : decode cX2_toneOf 9 = .ok (.arraylength, 1) := by decide +kernel
theorem dX2_toneOf_10 : decode cX2_toneOf 10 = .ok (.if_icmp .ge 22, 3) := by decide +kernel
theorem dX2_toneOf_13 : decode cX2_toneOf 13 = .ok (.aload_n 0, 1) := by decide +kernel
theorem dX2_toneOf_14 : decode cX2_toneOf 14 = .ok (.getfield 9, 3) := by decide +kernel
theorem dX2_toneOf_17 : decode cX2_toneOf 17 = .ok (.iload_n 3, 1) := by decide +kernel
theorem dX2_toneOf_18 : decode cX2_toneOf 18 = .ok (.iaload, 1) := by decide +kernel
theorem dX2_toneOf_19 : decode cX2_toneOf 19 = .ok (.iload_n 1, 1) := by decide +kernel
theorem dX2_toneOf_20 : decode cX2_toneOf 20 = .ok (.if_icmp .gt 6, 3) := by decide +kernel
theorem dX2_toneOf_23 : decode cX2_toneOf 23 = .ok (.iinc 2 1, 3) := by decide +kernel
theorem dX2_toneOf_26 : decode cX2_toneOf 26 = .ok (.iinc 3 1, 3) := by decide +kernel
theorem dX2_toneOf_29 : decode cX2_toneOf 29 = .ok (.goto (-25), 3) := by decide +kernel
theorem dX2_toneOf_32 : decode cX2_toneOf 32 = .ok (.iload_n 2, 1) := by decide +kernel
theorem dX2_toneOf_33 : decode cX2_toneOf 33 = .ok (.ireturn, 1) := by decide +kernel
def q_X2_toneOf (k : Nat) (S : zM) (x : Int) : Int32 → zM → Prop := fun r S1 => r = zI (zcnt (zMk (S k 0 1) (S k 0 2)) x 10) ∧ S = S1
def r_X2_toneOf : Room := { frames := 0, cells := 0, slots := 0, locals := 0 }
set_option maxHeartbeats 4000000 in
set_option maxRecDepth 100000 in
/-- Paper.toneOf: how many marks are at most the light -/
theorem c_X2_toneOf (l : Launch) (G : zG) (hG : zok G) (k : Nat) (hk : k < 8) (S : zM) (x : Int) (hx : -2147483648 ≤ x ∧ x ≤ 2147483647) (hms : zMs S k) (hw : zW (S k 0)) : Met l yX2_toneOf (Cond.code yX2_toneOf cX2_toneOf 4 (some FieldType.int) :: zTbl) r_X2_toneOf (va_Pc [.ref (za G k 1), .int (zI x)] (zB G S)) (va_Qi (q_X2_toneOf k S x) (zB G) (zA G)) 0 0 (zA G) := by
  refine zMet [(0, .ref (za G k 1)), (1, .int (zI x))] hG (by decide) (Nat.le_of_ble_eq_true rfl) rfl (fun p e s m args below meth c ls h hx hb hr hH hl => ?_)
  have C4 : ∀ (fu : Nat) (i n : Int) (H : Heap) (locs : List Loc) (ls : Array Slot), (10 - i).toNat < fu → (0 ≤ i ∧ i ≤ 10) → (n = zcnt (zMk (S k 0 1) (S k 0 2)) x i.toNat) → zH G S s H locs → lv_has ls 4 [(0, .ref (za G k 1)), (1, .int (zI x)), (2, .int (zI n)), (3, .int (zI i))] → W p l e r_X2_toneOf s m args below meth c H locs 0 0 (MQ below (va_Qi (q_X2_toneOf k S x) (zB G) (zA G)) args s 0 0 (zA G)) (F0 m 4 ls []) := by
    intro fu
    induction fu with
    | zero => intro i n H locs ls hfu; omega
    | succ fu ih4 =>
      intro i n H locs ls hfu hi hn hH hl
      have b_n := zcnt_in (zMk (S k 0 1) (S k 0 2)) x i.toNat
      refine lv_iload_n hx hb dX2_toneOf_4 rfl (lv_at hl 3 rfl) ?_
      refine lv_aload_n hx hb dX2_toneOf_5 rfl (lv_at hl 0 rfl) ?_
      refine zg_2_0 h hH hk zf_X2_9 dX2_toneOf_6 ?_
      refine zln_ar_mk h hH hk dX2_toneOf_9 ?_
      refine zb_cge (tgt := 32) h (by omega) (by omega) dX2_toneOf_10 (by decide) (fun c_10 => ?_) (fun c_10 => ?_)
      · refine lv_iload_n hx hb dX2_toneOf_32 rfl (lv_at hl 2 rfl) ?_
        refine zri h hr hH ?_ dX2_toneOf_33
        have ei : i = 10 := by omega
        subst ei
        exact ⟨by rw [hn]; rfl, rfl⟩
      · refine lv_aload_n hx hb dX2_toneOf_13 rfl (lv_at hl 0 rfl) ?_
        refine zg_2_0 h hH hk zf_X2_9 dX2_toneOf_14 ?_
        refine lv_iload_n hx hb dX2_toneOf_17 rfl (lv_at hl 3 rfl) ?_
        refine zld_ar_mk h hH hk (by omega) dX2_toneOf_18 ?_
        refine lv_iload_n hx hb dX2_toneOf_19 rfl (lv_at hl 1 rfl) ?_
        have e_18 := hms i (by omega) (by omega)
        have m_18 := zMk_in (g := S k 0 1) (zW_2 hw) (show 0 ≤ i ∧ i < 10 by omega)
        refine zb_cgt (tgt := 26) h (by omega) (by omega) dX2_toneOf_20 (by decide) (fun c_20 => ?_) (fun c_20 => ?_)
        · refine lv_iinc (v := zI (i + 1)) (lv' := [(3, .int (zI (i + 1))), (0, .ref (za G k 1)), (1, .int (zI x)), (2, .int (zI n))]) hx hb dX2_toneOf_26 hl (k := 3) rfl (zI_add _ _) (by decide) rfl (fun ls hl => ?_)
          refine lv_goto (tgt := 4) hx hb dX2_toneOf_29 (by decide) ?_
          exact ih4 (i + 1) n _ _ _ (by omega) (by omega) (by have e := zcnt_s (zMk (S k 0 1) (S k 0 2)) x hi.1; split at e <;> omega) hH (lv_sub hl [1, 2, 3, 0] rfl)
        · refine lv_iinc (v := zI (n + 1)) (lv' := [(2, .int (zI (n + 1))), (0, .ref (za G k 1)), (1, .int (zI x)), (3, .int (zI i))]) hx hb dX2_toneOf_23 hl (k := 2) rfl (zI_add _ _) (by decide) rfl (fun ls hl => ?_)
          refine lv_iinc (v := zI (i + 1)) (lv' := [(3, .int (zI (i + 1))), (2, .int (zI (n + 1))), (0, .ref (za G k 1)), (1, .int (zI x))]) hx hb dX2_toneOf_26 hl (k := 3) rfl (zI_add _ _) (by decide) rfl (fun ls hl => ?_)
          refine lv_goto (tgt := 4) hx hb dX2_toneOf_29 (by decide) ?_
          exact ih4 (i + 1) (n + 1) _ _ _ (by omega) (by omega) (by have e := zcnt_s (zMk (S k 0 1) (S k 0 2)) x hi.1; split at e <;> omega) hH (lv_sub hl [2, 3, 1, 0] rfl)
  refine zb_ic h dX2_toneOf_0 ?_
  refine lv_istore_n (lv' := [(2, .int (zI 0)), (0, .ref (za G k 1)), (1, .int (zI x))]) hx hb dX2_toneOf_1 rfl hl (by decide) rfl (fun ls hl => ?_)
  refine zb_ic h dX2_toneOf_2 ?_
  refine lv_istore_n (lv' := [(3, .int (zI 0)), (2, .int (zI 0)), (0, .ref (za G k 1)), (1, .int (zI x))]) hx hb dX2_toneOf_3 rfl hl (by decide) rfl (fun ls hl => ?_)
  exact C4 ((10 - 0 : Int).toNat + 1) 0 0 _ _ _ (by omega) (by omega) rfl hH (lv_sub hl [2, 3, 1, 0] rfl)
theorem dX2_lightThrough_0 : decode cX2_lightThrough 0 = .ok (.iload_n 0, 1) := by decide +kernel
theorem dX2_lightThrough_1 : decode cX2_lightThrough 1 = .ok (.iconst 3, 1) := by decide +kernel
theorem dX2_lightThrough_2 : decode cX2_lightThrough 2 = .ok (.irem, 1) := by decide +kernel
theorem dX2_lightThrough_3 : decode cX2_lightThrough 3 = .ok (.istore_n 2, 1) := by decide +kernel
theorem dX2_lightThrough_4 : decode cX2_lightThrough 4 = .ok (.iload_n 2, 1) := by decide +kernel
theorem dX2_lightThrough_5 : decode cX2_lightThrough 5 = .ok (.ifCond .lt 11, 3) := by decide +kernel
theorem dX2_lightThrough_8 : decode cX2_lightThrough 8 = .ok (.iload_n 2, 1) := by decide +kernel
theorem dX2_lightThrough_9 : decode cX2_lightThrough 9 = .ok (.getstatic 39, 3) := by decide +kernel
theorem dX2_lightThrough_12 : decode cX2_lightThrough 12 = .ok (.arraylength, 1) := by decide +kernel
theorem dX2_lightThrough_13 : decode cX2_lightThrough 13 = .ok (.if_icmp .lt 5, 3) := by decide +kernel
theorem dX2_lightThrough_18 : decode cX2_lightThrough 18 = .ok (.iload_n 1, 1) := by decide +kernel
theorem dX2_lightThrough_19 : decode cX2_lightThrough 19 = .ok (.i2l, 1) := by decide +kernel
theorem dX2_lightThrough_20 : decode cX2_lightThrough 20 = .ok (.getstatic 39, 3) := by decide +kernel
theorem dX2_lightThrough_23 : decode cX2_lightThrough 23 = .ok (.iload_n 2, 1) := by decide +kernel
theorem dX2_lightThrough_24 : decode cX2_lightThrough 24 = .ok (.iaload, 1) := by decide +kernel
theorem dX2_lightThrough_25 : decode cX2_lightThrough 25 = .ok (.i2l, 1) := by decide +kernel
theorem dX2_lightThrough_26 : decode cX2_lightThrough 26 = .ok (.lmul, 1) := by decide +kernel
theorem dX2_lightThrough_27 : decode cX2_lightThrough 27 = .ok (.iload_n 0, 1) := by decide +kernel
theorem dX2_lightThrough_28 : decode cX2_lightThrough 28 = .ok (.iconst 3, 1) := by decide +kernel
theorem dX2_lightThrough_29 : decode cX2_lightThrough 29 = .ok (.idiv, 1) := by decide +kernel
theorem dX2_lightThrough_30 : decode cX2_lightThrough 30 = .ok (.lshr, 1) := by decide +kernel
theorem dX2_lightThrough_31 : decode cX2_lightThrough 31 = .ok (.lstore_n 3, 1) := by decide +kernel
theorem dX2_lightThrough_32 : decode cX2_lightThrough 32 = .ok (.lload_n 3, 1) := by decide +kernel
theorem dX2_lightThrough_33 : decode cX2_lightThrough 33 = .ok (.ldc2_w 29, 3) := by decide +kernel
theorem dX2_lightThrough_36 : decode cX2_lightThrough 36 = .ok (.ldiv, 1) := by decide +kernel
theorem dX2_lightThrough_37 : decode cX2_lightThrough 37 = .ok (.l2i, 1) := by decide +kernel
theorem dX2_lightThrough_38 : decode cX2_lightThrough 38 = .ok (.ireturn, 1) := by decide +kernel
def q_X2_lightThrough (S : zM) (d t : Int) : Int32 → zM → Prop := fun r S1 => r = zI (zLt d t) ∧ S = S1
def r_X2_lightThrough : Room := { frames := 0, cells := 0, slots := 0, locals := 0 }
set_option maxHeartbeats 4000000 in
set_option maxRecDepth 100000 in
/-- Paper.lightThrough -/
theorem c_X2_lightThrough (l : Launch) (G : zG) (hG : zok G) (S : zM) (d t : Int) (hd : 0 ≤ d ∧ d ≤ 24) (ht : 0 ≤ t ∧ t ≤ 100000) : Met l yX2_lightThrough (Cond.code yX2_lightThrough cX2_lightThrough 5 (some FieldType.int) :: zTbl) r_X2_lightThrough (va_Pc [.int (zI d), .int (zI t)] (zB G S)) (va_Qi (q_X2_lightThrough S d t) (zB G) (zA G)) 0 0 (zA G) := by
  refine zMet [(0, .int (zI d)), (1, .int (zI t))] hG (by decide) (Nat.le_of_ble_eq_true rfl) rfl (fun p e s m args below meth c ls h hx hb hr hH hl => ?_)
  have b1 := zLt_x (j := d % 3) ht
  have b2 := zLt_y (d := d) ht
  have b3 := zThr_in (d % 3)
  refine lv_iload_n hx hb dX2_lightThrough_0 rfl (lv_at hl 0 rfl) ?_
  refine zb_ic h dX2_lightThrough_1 ?_
  refine zb_irem h (by omega) (by omega) dX2_lightThrough_2 ?_
  refine lv_istore_n (lv' := [(2, .int (zI (d % 3))), (0, .int (zI d)), (1, .int (zI t))]) hx hb dX2_lightThrough_3 rfl hl (by decide) rfl (fun ls hl => ?_)
  refine lv_iload_n hx hb dX2_lightThrough_4 rfl (lv_at hl 0 rfl) ?_
  refine zb_ilt (tgt := 16) h (by omega) dX2_lightThrough_5 (by decide) (fun c_5 => ?_) (fun c_5 => ?_)
  · exact absurd c_5 (by omega)
  · refine lv_iload_n hx hb dX2_lightThrough_8 rfl (lv_at hl 0 rfl) ?_
    refine zgs2 h hH zf_X2_39 dX2_lightThrough_9 ?_
    refine ztl2 h hH dX2_lightThrough_12 ?_
    refine zb_clt (tgt := 18) h (by omega) (by omega) dX2_lightThrough_13 (by decide) (fun c_13 => ?_) (fun c_13 => ?_)
    · refine lv_iload_n hx hb dX2_lightThrough_18 rfl (lv_at hl 2 rfl) ?_
      refine zb_i2l h (by omega) dX2_lightThrough_19 ?_
      refine zgs2 h hH zf_X2_39 dX2_lightThrough_20 ?_
      refine lv_iload_n hx hb dX2_lightThrough_23 rfl (lv_at hl 0 rfl) ?_
      refine ztd2 h hH (by omega) (by omega) dX2_lightThrough_24 ?_
      refine zb_i2l h (by omega) dX2_lightThrough_25 ?_
      refine zb_lmul h dX2_lightThrough_26 ?_
      refine lv_iload_n hx hb dX2_lightThrough_27 rfl (lv_at hl 1 rfl) ?_
      refine zb_ic h dX2_lightThrough_28 ?_
      refine zb_idiv h (by omega) (by omega) dX2_lightThrough_29 ?_
      refine zb_lshr h (by omega) (by omega) dX2_lightThrough_30 ?_
      refine lv_lstore_n (lv' := [(3, .long (zL ((t * (zThr (d % 3))) / 2 ^ (d / 3).toNat))), (2, .int (zI (d % 3))), (0, .int (zI d)), (1, .int (zI t))]) hx hb dX2_lightThrough_31 rfl hl (by decide) rfl (fun ls hl => ?_)
      refine lv_lload_n hx hb dX2_lightThrough_32 rfl (lv_at hl 0 rfl) ?_
      refine zb_ldc2 (n := 100) h zk_X2_29 (by decide +kernel) dX2_lightThrough_33 ?_
      refine zb_ldiv h (by omega) (by omega) dX2_lightThrough_36 ?_
      refine zb_l2i h dX2_lightThrough_37 ?_
      refine zri h hr hH ?_ dX2_lightThrough_38
      exact ⟨rfl, rfl⟩
    · exact absurd c_13 (by omega)
