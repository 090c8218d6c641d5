theorem dX3_sortIn_0 : decode cX3_sortIn 0 = .ok (.iload_n 2, 1) := by decide +kernel
theorem dX3_sortIn_1 : decode cX3_sortIn 1 = .ok (.ifCond .lt 12, 3) := by decide +kernel
theorem dX3_sortIn_4 : decode cX3_sortIn 4 = .ok (.iload_n 2, 1) := by decide +kernel
theorem dX3_sortIn_5 : decode cX3_sortIn 5 = .ok (.aload_n 0, 1) := by decide +kernel
theorem dX3_sortIn_6 : decode cX3_sortIn 6 = .ok (.getfield 34, 3) := by decide +kernel
theorem dX3_sortIn_9 : decode cX3_sortIn 9 = .ok (.arraylength, 1) := by decide +kernel
theorem dX3_sortIn_10 : decode cX3_sortIn 10 = .ok (.if_icmp .lt 4, 3) := by decide +kernel
theorem dX3_sortIn_14 : decode cX3_sortIn 14 = .ok (.iload_n 2, 1) := by decide +kernel
theorem dX3_sortIn_15 : decode cX3_sortIn 15 = .ok (.istore_n 3, 1) := by decide +kernel
theorem dX3_sortIn_16 : decode cX3_sortIn 16 = .ok (.iload_n 3, 1) := by decide +kernel
theorem dX3_sortIn_17 : decode cX3_sortIn 17 = .ok (.ifCond .le 35, 3) := by decide +kernel
theorem dX3_sortIn_20 : decode cX3_sortIn 20 = .ok (.aload_n 0, 1) := by decide +kernel
theorem dX3_sortIn_21 : decode cX3_sortIn 21 = .ok (.getfield 34, 3) := by decide +kernel
theorem dX3_sortIn_24 : decode cX3_sortIn 24 = .ok (.iload_n 3, 1) := by decide +kernel
theorem dX3_sortIn_25 : decode cX3_sortIn 25 = .ok (.iconst 1, 1) := by decide +kernel
theorem dX3_sortIn_26 : decode cX3_sortIn 26 = .ok (.isub, 1) := by decide +kernel
theorem dX3_sortIn_27 : decode cX3_sortIn 27 = .ok (.iaload, 1) := by decide +kernel
theorem dX3_sortIn_28 : decode cX3_sortIn 28 = .ok (.iload_n 1, 1) := by decide +kernel
theorem dX3_sortIn_29 : decode cX3_sortIn 29 = .ok (.if_icmp .le 23, 3) := by decide +kernel
theorem dX3_sortIn_32 : decode cX3_sortIn 32 = .ok (.aload_n 0, 1) := by decide +kernel
theorem dX3_sortIn_33 : decode cX3_sortIn 33 = .ok (.getfield 34, 3) := by decide +kernel
theorem dX3_sortIn_36 : decode cX3_sortIn 36 = .ok (.iload_n 3, 1) := by decide +kernel
theorem dX3_sortIn_37 : decode cX3_sortIn 37 = .ok (.aload_n 0, 1) := by decide +kernel
theorem dX3_sortIn_38 : decode cX3_sortIn 38 = .ok (.getfield 34, 3) := by decide +kernel
theorem dX3_sortIn_41 : decode cX3_sortIn 41 = .ok (.iload_n 3, 1) := by decide +kernel
theorem dX3_sortIn_42 : decode cX3_sortIn 42 = .ok (.iconst 1, 1) := by decide +kernel
theorem dX3_sortIn_43 : decode cX3_sortIn 43 = .ok (.isub, 1) := by decide +kernel
theorem dX3_sortIn_44 : decode cX3_sortIn 44 = .ok (.iaload, 1) := by decide +kernel
theorem dX3_sortIn_45 : decode cX3_sortIn 45 = .ok (.iastore, 1) := by decide +kernel
theorem dX3_sortIn_46 : decode cX3_sortIn 46 = .ok (.iinc 3 (-1), 3) := by decide +kernel
theorem dX3_sortIn_49 : decode cX3_sortIn 49 = .ok (.goto (-33), 3) := by decide +kernel
theorem dX3_sortIn_52 : decode cX3_sortIn 52 = .ok (.aload_n 0, 1) := by decide +kernel
theorem dX3_sortIn_53 : decode cX3_sortIn 53 = .ok (.getfield 34, 3) := by decide +kernel
theorem dX3_sortIn_56 : decode cX3_sortIn 56 = .ok (.iload_n 3, 1) := by decide +kernel
theorem dX3_sortIn_57 : decode cX3_sortIn 57 = .ok (.iload_n 1, 1) := by decide +kernel
theorem dX3_sortIn_58 : decode cX3_sortIn 58 = .ok (.iastore, 1) := by decide +kernel
theorem dX3_sortIn_59 : decode cX3_sortIn 59 = .ok (.return_, 1) := by decide +kernel
def q_X3_sortIn (k : Nat) (S : zM) (x n : Int) : zM → Prop := fun S1 => (zPut S k (S k 0) (S k 2) (zins (S k 8) x n.toNat)) = S1
def r_X3_sortIn : Room := { frames := 0, cells := 0, slots := 0, locals := 0 }
set_option maxHeartbeats 4000000 in
set_option maxRecDepth 100000 in
theorem c_X3_sortIn (l : Launch) (G : zG) (hG : zok G) (k : Nat) (hk : k < 8) (S : zM) (x n : Int) (hx0 : -1 ≤ x ∧ x ≤ 9999) (hn : 0 ≤ n ∧ n < 8) (hq0 : ∀ i : Int, 0 ≤ i → i < n → -1 ≤ S k 8 i ∧ S k 8 i ≤ 9999) : Met l yX3_sortIn (Cond.code yX3_sortIn cX3_sortIn 4 (none : Option FieldType) :: zTbl) r_X3_sortIn (va_Pc [.ref (za G k 0), .int (zI x), .int (zI n)] (zB G S)) (va_Qv (q_X3_sortIn k S x n) (zB G) (zA G)) 0 0 (zA G) := by
  refine zMet [(0, .ref (za G k 0)), (1, .int (zI x)), (2, .int (zI n))] hG (by decide) (Nat.le_of_ble_eq_true rfl) rfl (fun p e s m args below meth c ls h hx hb hr hH hl => ?_)
  rw [← zP_id S k] at hH
  have C16 : ∀ (fu : Nat) (j : Int) (q : Int → Int) (H : Heap) (locs : List Loc) (ls : Array Slot), (j).toNat < fu → (0 ≤ j ∧ j ≤ n) → (zins q x j.toNat = zins (S k 8) x n.toNat) → (∀ i : Int, 0 ≤ i → i < j → q i = S k 8 i) → zH G (zPut S k (S k 0) (S k 2) q) s H locs → lv_has ls 4 [(0, .ref (za G k 0)), (1, .int (zI x)), (2, .int (zI n)), (3, .int (zI j))] → W p l e r_X3_sortIn s m args below meth c H locs 0 0 (MQ below (va_Qv (q_X3_sortIn k S x n) (zB G) (zA G)) args s 0 0 (zA G)) (F0 m 16 ls []) := by
    intro fu
    induction fu with
    | zero => intro j q H locs ls hfu; omega
    | succ fu ih16 =>
      intro j q H locs ls hfu hj hq hqi hH hl
      refine lv_iload_n hx hb dX3_sortIn_16 rfl (lv_at hl 3 rfl) ?_
      refine zb_ile (tgt := 52) h (by omega) dX3_sortIn_17 (by decide) (fun c_17 => ?_) (fun c_17 => ?_)
      · refine lv_aload_n hx hb dX3_sortIn_52 rfl (lv_at hl 0 rfl) ?_
        refine zg_3_6 h hH hk zf_X3_34 dX3_sortIn_53 ?_
        refine lv_iload_n hx hb dX3_sortIn_56 rfl (lv_at hl 3 rfl) ?_
        refine lv_iload_n hx hb dX3_sortIn_57 rfl (lv_at hl 1 rfl) ?_
        refine zst_ar_so h hH hk (by omega) dX3_sortIn_58 (fun H locs hH => ?_)
        rw [zs_P8] at hH
        refine zrv h hr hH ?_ dX3_sortIn_59
        first | exact congrArg (zPut S k (S k 0) (S k 2)) (hq.symm.trans (by rw [zins_s _ _ (by omega), if_neg (by omega)])) | (obtain rfl : j = 0 := (by omega); exact congrArg (zPut S k (S k 0) (S k 2)) hq.symm)
      · refine lv_aload_n hx hb dX3_sortIn_20 rfl (lv_at hl 0 rfl) ?_
        refine zg_3_6 h hH hk zf_X3_34 dX3_sortIn_21 ?_
        refine lv_iload_n hx hb dX3_sortIn_24 rfl (lv_at hl 3 rfl) ?_
        refine zb_ic h dX3_sortIn_25 ?_
        refine zb_isub h dX3_sortIn_26 ?_
        refine zld_ar_so h hH hk (by omega) dX3_sortIn_27 ?_
        rw [zP_8]
        refine lv_iload_n hx hb dX3_sortIn_28 rfl (lv_at hl 1 rfl) ?_
        have b_27 := hq0 (j - 1) (by omega) (by omega)
        rw [← hqi (j - 1) (by omega) (by omega)] at b_27
        refine zb_cle (tgt := 52) h (by omega) (by omega) dX3_sortIn_29 (by decide) (fun c_29 => ?_) (fun c_29 => ?_)
        · refine lv_aload_n hx hb dX3_sortIn_52 rfl (lv_at hl 0 rfl) ?_
          refine zg_3_6 h hH hk zf_X3_34 dX3_sortIn_53 ?_
          refine lv_iload_n hx hb dX3_sortIn_56 rfl (lv_at hl 3 rfl) ?_
          refine lv_iload_n hx hb dX3_sortIn_57 rfl (lv_at hl 1 rfl) ?_
          refine zst_ar_so h hH hk (by omega) dX3_sortIn_58 (fun H locs hH => ?_)
          rw [zs_P8] at hH
          refine zrv h hr hH ?_ dX3_sortIn_59
          first | exact congrArg (zPut S k (S k 0) (S k 2)) (hq.symm.trans (by rw [zins_s _ _ (by omega), if_neg (by omega)])) | (obtain rfl : j = 0 := (by omega); exact congrArg (zPut S k (S k 0) (S k 2)) hq.symm)
        · refine lv_aload_n hx hb dX3_sortIn_32 rfl (lv_at hl 0 rfl) ?_
          refine zg_3_6 h hH hk zf_X3_34 dX3_sortIn_33 ?_
          refine lv_iload_n hx hb dX3_sortIn_36 rfl (lv_at hl 3 rfl) ?_
          refine lv_aload_n hx hb dX3_sortIn_37 rfl (lv_at hl 0 rfl) ?_
          refine zg_3_6 h hH hk zf_X3_34 dX3_sortIn_38 ?_
          refine lv_iload_n hx hb dX3_sortIn_41 rfl (lv_at hl 3 rfl) ?_
          refine zb_ic h dX3_sortIn_42 ?_
          refine zb_isub h dX3_sortIn_43 ?_
          refine zld_ar_so h hH hk (by omega) dX3_sortIn_44 ?_
          rw [zP_8]
          refine zst_ar_so h hH hk (by omega) dX3_sortIn_45 (fun H locs hH => ?_)
          rw [zs_P8] at hH
          refine lv_iinc (v := zI (j + (-1))) (lv' := [(3, .int (zI (j + (-1)))), (0, .ref (za G k 0)), (1, .int (zI x)), (2, .int (zI n))]) hx hb dX3_sortIn_46 hl (k := 3) rfl (zI_add _ _) (by decide) rfl (fun ls hl => ?_)
          refine lv_goto (tgt := 16) hx hb dX3_sortIn_49 (by decide) ?_
          exact ih16 (j + (-1)) (zup q (j) (q (j - 1))) _ _ _ (by omega) (by omega) (by rw [← hq, zins_s _ _ (by omega : 0 < j), if_pos (by omega)]; rfl) (fun i h1 h2 => by rw [zup_n (by omega)]; exact hqi i h1 (by omega)) hH (lv_sub hl [1, 2, 3, 0] rfl)
  refine lv_iload_n hx hb dX3_sortIn_0 rfl (lv_at hl 2 rfl) ?_
  refine zb_ilt (tgt := 13) h (by omega) dX3_sortIn_1 (by decide) (fun c_1 => ?_) (fun c_1 => ?_)
  · exact absurd c_1 (by omega)
  · refine lv_iload_n hx hb dX3_sortIn_4 rfl (lv_at hl 2 rfl) ?_
    refine lv_aload_n hx hb dX3_sortIn_5 rfl (lv_at hl 0 rfl) ?_
    refine zg_3_6 h hH hk zf_X3_34 dX3_sortIn_6 ?_
    refine zln_ar_so h hH hk dX3_sortIn_9 ?_
    refine zb_clt (tgt := 14) h (by omega) (by omega) dX3_sortIn_10 (by decide) (fun c_10 => ?_) (fun c_10 => ?_)
    · refine lv_iload_n hx hb dX3_sortIn_14 rfl (lv_at hl 2 rfl) ?_
      refine lv_istore_n (lv' := [(3, .int (zI n)), (0, .ref (za G k 0)), (1, .int (zI x)), (2, .int (zI n))]) hx hb dX3_sortIn_15 rfl hl (by decide) rfl (fun ls hl => ?_)
      exact C16 ((n : Int).toNat + 1) n (S k 8) _ _ _ (by omega) (by omega) rfl (fun _ _ _ => rfl) hH (lv_sub hl [1, 2, 3, 0] rfl)
    · exact absurd c_10 (by omega)
theorem dX3_middleNeed_0 : decode cX3_middleNeed 0 = .ok (.iconst 0, 1) := by decide +kernel
theorem dX3_middleNeed_1 : decode cX3_middleNeed 1 = .ok (.istore_n 1, 1) := by decide +kernel
theorem dX3_middleNeed_2 : decode cX3_middleNeed 2 = .ok (.iconst 0, 1) := by decide +kernel
theorem dX3_middleNeed_3 : decode cX3_middleNeed 3 = .ok (.istore_n 2, 1) := by decide +kernel
theorem dX3_middleNeed_4 : decode cX3_middleNeed 4 = .ok (.iload_n 2, 1) := by decide +kernel
theorem dX3_middleNeed_5 : decode cX3_middleNeed 5 = .ok (.aload_n 0, 1) := by decide +kernel
theorem dX3_middleNeed_6 : decode cX3_middleNeed 6 = .ok (.getfield 37, 3) := by decide +kernel
theorem dX3_middleNeed_9 : decode cX3_middleNeed 9 = .ok (.if_icmp .ge 38, 3) := by decide +kernel
theorem dX3_middleNeed_12 : decode cX3_middleNeed 12 = .ok (.aload_n 0, 1) := by decide +kernel
theorem dX3_middleNeed_13 : decode cX3_middleNeed 13 = .ok (.iload_n 2, 1) := by decide +kernel
theorem dX3_middleNeed_14 : decode cX3_middleNeed 14 = .ok (.invokevirtual 72, 3) := by decide +kernel
theorem dX3_middleNeed_17 : decode cX3_middleNeed 17 = .ok (.istore_n 3, 1) := by decide +kernel
theorem dX3_middleNeed_18 : decode cX3_middleNeed 18 = .ok (.iload_n 3, 1) := by decide +kernel
theorem dX3_middleNeed_19 : decode cX3_middleNeed 19 = .ok (.iconst (-1), 1) := by decide +kernel
theorem dX3_middleNeed_20 : decode cX3_middleNeed 20 = .ok (.if_icmp .eq 21, 3) := by decide +kernel
theorem dX3_middleNeed_23 : decode cX3_middleNeed 23 = .ok (.iload_n 1, 1) := by decide +kernel
theorem dX3_middleNeed_24 : decode cX3_middleNeed 24 = .ok (.aload_n 0, 1) := by decide +kernel
theorem dX3_middleNeed_25 : decode cX3_middleNeed 25 = .ok (.getfield 34, 3) := by decide +kernel
theorem dX3_middleNeed_28 : decode cX3_middleNeed 28 = .ok (.arraylength, 1) := by decide +kernel
theorem dX3_middleNeed_29 : decode cX3_middleNeed 29 = .ok (.if_icmp .ge 12, 3) := by decide +kernel
theorem dX3_middleNeed_32 : decode cX3_middleNeed 32 = .ok (.aload_n 0, 1) := by decide +kernel
theorem dX3_middleNeed_33 : decode cX3_middleNeed 33 = .ok (.iload_n 3, 1) := by decide +kernel
theorem dX3_middleNeed_34 : decode cX3_middleNeed 34 = .ok (.iload_n 1, 1) := by decide +kernel
theorem dX3_middleNeed_35 : decode cX3_middleNeed 35 = .ok (.invokevirtual 124, 3) := by decide +kernel
theorem dX3_middleNeed_38 : decode cX3_middleNeed 38 = .ok (.iinc 1 1, 3) := by decide +kernel
theorem dX3_middleNeed_41 : decode cX3_middleNeed 41 = .ok (.iinc 2 1, 3) := by decide +kernel
theorem dX3_middleNeed_44 : decode cX3_middleNeed 44 = .ok (.goto (-40), 3) := by decide +kernel
theorem dX3_middleNeed_47 : decode cX3_middleNeed 47 = .ok (.iload_n 1, 1) := by decide +kernel
theorem dX3_middleNeed_48 : decode cX3_middleNeed 48 = .ok (.iconst 1, 1) := by decide +kernel
theorem dX3_middleNeed_49 : decode cX3_middleNeed 49 = .ok (.isub, 1) := by decide +kernel
theorem dX3_middleNeed_50 : decode cX3_middleNeed 50 = .ok (.iconst 2, 1) := by decide +kernel
theorem dX3_middleNeed_51 : decode cX3_middleNeed 51 = .ok (.idiv, 1) := by decide +kernel
theorem dX3_middleNeed_52 : decode cX3_middleNeed 52 = .ok (.istore_n 2, 1) := by decide +kernel
theorem dX3_middleNeed_53 : decode cX3_middleNeed 53 = .ok (.iload_n 1, 1) := by decide +kernel
theorem dX3_middleNeed_54 : decode cX3_middleNeed 54 = .ok (.ifCond .le 21, 3) := by decide +kernel
theorem dX3_middleNeed_57 : decode cX3_middleNeed 57 = .ok (.iload_n 2, 1) := by decide +kernel
theorem dX3_middleNeed_58 : decode cX3_middleNeed 58 = .ok (.aload_n 0, 1) := by decide +kernel
theorem dX3_middleNeed_59 : decode cX3_middleNeed 59 = .ok (.getfield 34, 3) := by decide +kernel
theorem dX3_middleNeed_62 : decode cX3_middleNeed 62 = .ok (.arraylength, 1) := by decide +kernel
theorem dX3_middleNeed_63 : decode cX3_middleNeed 63 = .ok (.if_icmp .ge 12, 3) := by decide +kernel
theorem dX3_middleNeed_66 : decode cX3_middleNeed 66 = .ok (.aload_n 0, 1) := by decide +kernel
theorem dX3_middleNeed_67 : decode cX3_middleNeed 67 = .ok (.getfield 34, 3) := by decide +kernel
theorem dX3_middleNeed_70 : decode cX3_middleNeed 70 = .ok (.iload_n 2, 1) := by decide +kernel
theorem dX3_middleNeed_71 : decode cX3_middleNeed 71 = .ok (.iaload, 1) := by decide +kernel
theorem dX3_middleNeed_72 : decode cX3_middleNeed 72 = .ok (.goto 4, 3) := by decide +kernel
theorem dX3_middleNeed_75 : decode cX3_middleNeed 75 = .ok (.iconst (-1), 1) := by decide +kernel
theorem dX3_middleNeed_76 : decode cX3_middleNeed 76 = .ok (.ireturn, 1) := by decide +kernel
def q_X3_middleNeed (k : Nat) (S : zM) : Int32 → zM → Prop := fun r S1 => r = zI (tMid (S k 0)) ∧ ∃ q', zPut S k (S k 0) (S k 2) q' = S1
def r_X3_middleNeed : Room := { frames := 3, cells := 0, slots := 0, locals := 71 }
set_option maxHeartbeats 4000000 in
set_option maxRecDepth 100000 in
theorem c_X3_middleNeed (l : Launch) (G : zG) (hG : zok G) (k : Nat) (hk : k < 8) (S : zM) (hms : zMs S k) (hw : zW (S k 0))  : Met l yX3_middleNeed (Cond.code yX3_middleNeed cX3_middleNeed 4 (some FieldType.int) :: zTbl) r_X3_middleNeed (va_Pc [.ref (za G k 0)] (zB G S)) (va_Qi (q_X3_middleNeed k S) (zB G) (zA G)) 0 0 (zA G) := by
  refine zMet [(0, .ref (za G k 0))] hG (by decide) (Nat.le_of_ble_eq_true rfl) rfl (fun p e s m args below meth c ls h hx hb hr hH hl => ?_)
  rw [← zP_id S k] at hH
  have hM := hms
  have f4 := zW_4 hw
  have C4 : ∀ (fu : Nat) (o n : Int) (q : Int → Int) (H : Heap) (locs : List Loc) (ls : Array Slot), (S k 0 4 - o).toNat < fu → (0 ≤ o ∧ o ≤ S k 0 4) → (n = zmsC (S k 0) o.toNat) → (q = zmsQ (S k 0) (S k 8) o.toNat) → zH G (zPut S k (S k 0) (S k 2) q) s H locs → lv_has ls 4 [(0, .ref (za G k 0)), (1, .int (zI n)), (2, .int (zI o))] → W p l e r_X3_middleNeed s m args below meth c H locs 0 0 (MQ below (va_Qi (q_X3_middleNeed k S) (zB G) (zA G)) args s 0 0 (zA G)) (F0 m 4 ls []) := by
    intro fu
    induction fu with
    | zero => intro o n q H locs ls hfu; omega
    | succ fu ih4 =>
      intro o n q H locs ls hfu ho hn hq hH hl
      have bn := zmsC_in (S k 0) o.toNat
      refine lv_iload_n hx hb dX3_middleNeed_4 rfl (lv_at hl 2 rfl) ?_
      refine lv_aload_n hx hb dX3_middleNeed_5 rfl (lv_at hl 0 rfl) ?_
      refine zg_3_7 h hH hk zf_X3_37 dX3_middleNeed_6 ?_
      rw [zP_0]
      have f_6 := zW_4 hw
      refine zb_cge (tgt := 47) h (by omega) (by omega) dX3_middleNeed_9 (by decide) (fun c_9 => ?_) (fun c_9 => ?_)
      · obtain rfl : o = S k 0 4 := by omega
        by_cases s_47 : n = 0
        · refine lv_iload_n hx hb dX3_middleNeed_47 rfl (lv_at hl 1 rfl) ?_
          refine zb_ic h dX3_middleNeed_48 ?_
          refine zb_isub h dX3_middleNeed_49 ?_
          refine zb_ic h dX3_middleNeed_50 ?_
          refine zb_idivq h 0 (by rw [show n - 1 = -1 by omega]; decide +kernel) (by decide +kernel) dX3_middleNeed_51 ?_
          refine lv_istore_n (lv' := [(2, .int (zI 0)), (0, .ref (za G k 0)), (1, .int (zI n))]) hx hb dX3_middleNeed_52 rfl hl (by decide) rfl (fun ls hl => ?_)
          refine lv_iload_n hx hb dX3_middleNeed_53 rfl (lv_at hl 2 rfl) ?_
          refine zb_ile (tgt := 75) h (by omega) dX3_middleNeed_54 (by decide) (fun c_54 => ?_) (fun c_54 => ?_)
          · refine zb_ic h dX3_middleNeed_75 ?_
            refine zri h hr hH ?_ dX3_middleNeed_76
            exact ⟨by unfold tMid; rw [if_pos (by omega)], _, rfl⟩
          · exact absurd c_54 (by omega)
        · refine lv_iload_n hx hb dX3_middleNeed_47 rfl (lv_at hl 1 rfl) ?_
          refine zb_ic h dX3_middleNeed_48 ?_
          refine zb_isub h dX3_middleNeed_49 ?_
          refine zb_ic h dX3_middleNeed_50 ?_
          refine zb_idiv h (by omega) (by omega) dX3_middleNeed_51 ?_
          refine lv_istore_n (lv' := [(2, .int (zI ((n - 1) / 2))), (0, .ref (za G k 0)), (1, .int (zI n))]) hx hb dX3_middleNeed_52 rfl hl (by decide) rfl (fun ls hl => ?_)
          refine lv_iload_n hx hb dX3_middleNeed_53 rfl (lv_at hl 2 rfl) ?_
          refine zb_ile (tgt := 75) h (by omega) dX3_middleNeed_54 (by decide) (fun c_54 => ?_) (fun c_54 => ?_)
          · exact absurd c_54 (by omega)
          · refine lv_iload_n hx hb dX3_middleNeed_57 rfl (lv_at hl 0 rfl) ?_
            refine lv_aload_n hx hb dX3_middleNeed_58 rfl (lv_at hl 1 rfl) ?_
            refine zg_3_6 h hH hk zf_X3_34 dX3_middleNeed_59 ?_
            refine zln_ar_so h hH hk dX3_middleNeed_62 ?_
            refine zb_cge (tgt := 75) h (by omega) (by omega) dX3_middleNeed_63 (by decide) (fun c_63 => ?_) (fun c_63 => ?_)
            · exact absurd c_63 (by omega)
            · refine lv_aload_n hx hb dX3_middleNeed_66 rfl (lv_at hl 1 rfl) ?_
              refine zg_3_6 h hH hk zf_X3_34 dX3_middleNeed_67 ?_
              refine lv_iload_n hx hb dX3_middleNeed_70 rfl (lv_at hl 0 rfl) ?_
              refine zld_ar_so h hH hk (by omega) dX3_middleNeed_71 ?_
              rw [zP_8]
              refine lv_goto (tgt := 76) hx hb dX3_middleNeed_72 (by decide) ?_
              refine zri h hr hH ?_ dX3_middleNeed_76
              exact ⟨congrArg zI (by unfold tMid; rw [if_neg (by omega), zmsQ_congr _ _ (S k 8) _ _ (by omega) (by omega), ← hq, ← hn]), _, rfl⟩
      · refine lv_aload_n hx hb dX3_middleNeed_12 rfl (lv_at hl 0 rfl) ?_
        refine lv_iload_n hx hb dX3_middleNeed_13 rfl (lv_at hl 2 rfl) ?_
        refine zcVi h hH (zr_3 h hH hk) (As := [.int (zI o)]) (rest := []) (c_X3_leastNeed l G hG k hk (zPut S k (S k 0) (S k 2) q) o (by omega) (zP_ms hM) (zP_hw hw)) zce_X3_leastNeed zcv_X3_leastNeed zm_X3_72 hl.1 rfl rfl ⟨rfl, rfl⟩ ⟨Nat.le_of_ble_eq_true rfl, Nat.le_of_ble_eq_true rfl⟩ (Nat.le_of_ble_eq_true rfl) ⟨Nat.zero_le _, Nat.zero_le _⟩ dX3_middleNeed_14 (fun r_14 S_14 H locs hq hH => ?_)
        obtain ⟨rfl, rfl⟩ := hq
        rw [zP_0]
        have b_14 := tLn_in hw o
        refine lv_istore_n (lv' := [(3, .int (zI (tLn (S k 0) o))), (0, .ref (za G k 0)), (1, .int (zI n)), (2, .int (zI o))]) hx hb dX3_middleNeed_17 rfl hl (by decide) rfl (fun ls hl => ?_)
        refine lv_iload_n hx hb dX3_middleNeed_18 rfl (lv_at hl 0 rfl) ?_
        refine zb_ic h dX3_middleNeed_19 ?_
        refine zb_ceq (tgt := 41) h (by omega) (by omega) dX3_middleNeed_20 (by decide) (fun c_20 => ?_) (fun c_20 => ?_)
        · refine lv_iinc (v := zI (o + 1)) (lv' := [(2, .int (zI (o + 1))), (3, .int (zI (tLn (S k 0) o))), (0, .ref (za G k 0)), (1, .int (zI n))]) hx hb dX3_middleNeed_41 hl (k := 3) rfl (zI_add _ _) (by decide) rfl (fun ls hl => ?_)
          refine lv_goto (tgt := 4) hx hb dX3_middleNeed_44 (by decide) ?_
          exact ih4 (o + 1) n q _ _ _ (by omega) (by omega) (by rw [zmsC_s _ ho.1]; first | (rw [if_pos c_20]; exact hn) | (rw [if_neg c_20, hn])) (by rw [zmsQ_s _ _ ho.1]; first | (rw [if_pos c_20]; exact hq) | (rw [if_neg c_20, ← hq, ← hn])) hH (lv_sub hl [2, 3, 0] rfl)
        · refine lv_iload_n hx hb dX3_middleNeed_23 rfl (lv_at hl 2 rfl) ?_
          refine lv_aload_n hx hb dX3_middleNeed_24 rfl (lv_at hl 1 rfl) ?_
          refine zg_3_6 h hH hk zf_X3_34 dX3_middleNeed_25 ?_
          refine zln_ar_so h hH hk dX3_middleNeed_28 ?_
          refine zb_cge (tgt := 41) h (by omega) (by omega) dX3_middleNeed_29 (by decide) (fun c_29 => ?_) (fun c_29 => ?_)
          · exact absurd c_29 (by omega)
          · refine lv_aload_n hx hb dX3_middleNeed_32 rfl (lv_at hl 1 rfl) ?_
            refine lv_iload_n hx hb dX3_middleNeed_33 rfl (lv_at hl 0 rfl) ?_
            refine lv_iload_n hx hb dX3_middleNeed_34 rfl (lv_at hl 2 rfl) ?_
            refine zcVv h hH (zr_3 h hH hk) (As := [.int (zI (tLn (S k 0) o)), .int (zI n)]) (rest := []) (c_X3_sortIn l G hG k hk (zPut S k (S k 0) (S k 2) q) (tLn (S k 0) o) n (by omega) (by omega) (fun i h1 h2 => by rw [zP_8, hq]; have := zmsQ_in hw (S k 8) o.toNat i h1 (by omega); omega)) zce_X3_sortIn zcv_X3_sortIn zm_X3_124 hl.1 rfl rfl ⟨rfl, rfl⟩ ⟨Nat.le_of_ble_eq_true rfl, Nat.le_of_ble_eq_true rfl⟩ (Nat.le_of_ble_eq_true rfl) ⟨Nat.zero_le _, Nat.zero_le _⟩ dX3_middleNeed_35 (fun S_35 H locs hq hH => ?_)
            obtain rfl := hq
            simp only [zP_P, zP_0, zP_2, zP_8] at hH
            refine lv_iinc (v := zI (n + 1)) (lv' := [(1, .int (zI (n + 1))), (3, .int (zI (tLn (S k 0) o))), (0, .ref (za G k 0)), (2, .int (zI o))]) hx hb dX3_middleNeed_38 hl (k := 2) rfl (zI_add _ _) (by decide) rfl (fun ls hl => ?_)
            refine lv_iinc (v := zI (o + 1)) (lv' := [(2, .int (zI (o + 1))), (1, .int (zI (n + 1))), (3, .int (zI (tLn (S k 0) o))), (0, .ref (za G k 0))]) hx hb dX3_middleNeed_41 hl (k := 3) rfl (zI_add _ _) (by decide) rfl (fun ls hl => ?_)
            refine lv_goto (tgt := 4) hx hb dX3_middleNeed_44 (by decide) ?_
            exact ih4 (o + 1) (n + 1) (zins q (tLn (S k 0) o) n.toNat) _ _ _ (by omega) (by omega) (by rw [zmsC_s _ ho.1]; first | (rw [if_pos c_20]; exact hn) | (rw [if_neg c_20, hn])) (by rw [zmsQ_s _ _ ho.1]; first | (rw [if_pos c_20]; exact hq) | (rw [if_neg c_20, ← hq, ← hn])) hH (lv_sub hl [3, 1, 0] rfl)
  refine zb_ic h dX3_middleNeed_0 ?_
  refine lv_istore_n (lv' := [(1, .int (zI 0)), (0, .ref (za G k 0))]) hx hb dX3_middleNeed_1 rfl hl (by decide) rfl (fun ls hl => ?_)
  refine zb_ic h dX3_middleNeed_2 ?_
  refine lv_istore_n (lv' := [(2, .int (zI 0)), (1, .int (zI 0)), (0, .ref (za G k 0))]) hx hb dX3_middleNeed_3 rfl hl (by decide) rfl (fun ls hl => ?_)
  exact C4 ((S k 0 4 - 0 : Int).toNat + 1) 0 0 (S k 8) _ _ _ (by omega) (by omega) rfl rfl hH (lv_sub hl [2, 1, 0] rfl)
theorem dX3_correct_0 : decode cX3_correct 0 = .ok (.iload_n 1, 1) := by decide +kernel
theorem dX3_correct_1 : decode cX3_correct 1 = .ok (.ifCond .lt 9, 3) := by decide +kernel
theorem dX3_correct_4 : decode cX3_correct 4 = .ok (.iload_n 1, 1) := by decide +kernel
theorem dX3_correct_5 : decode cX3_correct 5 = .ok (.bipush 8, 2) := by decide +kernel
theorem dX3_correct_7 : decode cX3_correct 7 = .ok (.if_icmp .lt 4, 3) := by decide +kernel
theorem dX3_correct_11 : decode cX3_correct 11 = .ok (.aload_n 0, 1) := by decide +kernel
theorem dX3_correct_12 : decode cX3_correct 12 = .ok (.iload_n 1, 1) := by decide +kernel
theorem dX3_correct_13 : decode cX3_correct 13 = .ok (.invokevirtual 90, 3) := by decide +kernel
theorem dX3_correct_16 : decode cX3_correct 16 = .ok (.istore_n 2, 1) := by decide +kernel
theorem dX3_correct_17 : decode cX3_correct 17 = .ok (.iload_n 2, 1) := by decide +kernel
theorem dX3_correct_18 : decode cX3_correct 18 = .ok (.ifCond .ge 69, 3) := by decide +kernel
theorem dX3_correct_21 : decode cX3_correct 21 = .ok (.aload_n 0, 1) := by decide +kernel
theorem dX3_correct_22 : decode cX3_correct 22 = .ok (.getfield 12, 3) := by decide +kernel
theorem dX3_correct_25 : decode cX3_correct 25 = .ok (.aload_n 0, 1) := by decide +kernel
theorem dX3_correct_26 : decode cX3_correct 26 = .ok (.getfield 18, 3) := by decide +kernel
theorem dX3_correct_29 : decode cX3_correct 29 = .ok (.iload_n 1, 1) := by decide +kernel
theorem dX3_correct_30 : decode cX3_correct 30 = .ok (.iaload, 1) := by decide +kernel
theorem dX3_correct_31 : decode cX3_correct 31 = .ok (.aload_n 0, 1) := by decide +kernel
theorem dX3_correct_32 : decode cX3_correct 32 = .ok (.getfield 22, 3) := by decide +kernel
theorem dX3_correct_35 : decode cX3_correct 35 = .ok (.iload_n 1, 1) := by decide +kernel
theorem dX3_correct_36 : decode cX3_correct 36 = .ok (.iaload, 1) := by decide +kernel
theorem dX3_correct_37 : decode cX3_correct 37 = .ok (.invokevirtual 104, 3) := by decide +kernel
theorem dX3_correct_40 : decode cX3_correct 40 = .ok (.aload_n 0, 1) := by decide +kernel
theorem dX3_correct_41 : decode cX3_correct 41 = .ok (.iload_n 1, 1) := by decide +kernel
theorem dX3_correct_42 : decode cX3_correct 42 = .ok (.invokevirtual 61, 3) := by decide +kernel
theorem dX3_correct_45 : decode cX3_correct 45 = .ok (.isub, 1) := by decide +kernel
theorem dX3_correct_46 : decode cX3_correct 46 = .ok (.istore_n 3, 1) := by decide +kernel
theorem dX3_correct_47 : decode cX3_correct 47 = .ok (.aload_n 0, 1) := by decide +kernel
theorem dX3_correct_48 : decode cX3_correct 48 = .ok (.getfield 25, 3) := by decide +kernel
theorem dX3_correct_51 : decode cX3_correct 51 = .ok (.iload_n 1, 1) := by decide +kernel
theorem dX3_correct_52 : decode cX3_correct 52 = .ok (.iload_n 3, 1) := by decide +kernel
theorem dX3_correct_53 : decode cX3_correct 53 = .ok (.iconst 1, 1) := by decide +kernel
theorem dX3_correct_54 : decode cX3_correct 54 = .ok (.sipush 999, 3) := by decide +kernel
theorem dX3_correct_57 : decode cX3_correct 57 = .ok (.invokestatic 127, 3) := by decide +kernel
theorem dX3_correct_60 : decode cX3_correct 60 = .ok (.ifCond .eq 7, 3) := by decide +kernel
theorem dX3_correct_63 : decode cX3_correct 63 = .ok (.iload_n 3, 1) := by decide +kernel
theorem dX3_correct_64 : decode cX3_correct 64 = .ok (.goto 4, 3) := by decide +kernel
theorem dX3_correct_67 : decode cX3_correct 67 = .ok (.iconst 0, 1) := by decide +kernel
theorem dX3_correct_68 : decode cX3_correct 68 = .ok (.iastore, 1) := by decide +kernel
theorem dX3_correct_69 : decode cX3_correct 69 = .ok (.aload_n 0, 1) := by decide +kernel
theorem dX3_correct_70 : decode cX3_correct 70 = .ok (.iload_n 1, 1) := by decide +kernel
theorem dX3_correct_71 : decode cX3_correct 71 = .ok (.invokevirtual 90, 3) := by decide +kernel
theorem dX3_correct_74 : decode cX3_correct 74 = .ok (.ifCond .eq 10, 3) := by decide +kernel
theorem dX3_correct_77 : decode cX3_correct 77 = .ok (.aload_n 0, 1) := by decide +kernel
theorem dX3_correct_78 : decode cX3_correct 78 = .ok (.getfield 25, 3) := by decide +kernel
theorem dX3_correct_81 : decode cX3_correct 81 = .ok (.iload_n 1, 1) := by decide +kernel
theorem dX3_correct_82 : decode cX3_correct 82 = .ok (.iconst 0, 1) := by decide +kernel
theorem dX3_correct_83 : decode cX3_correct 83 = .ok (.iastore, 1) := by decide +kernel
theorem dX3_correct_84 : decode cX3_correct 84 = .ok (.goto 74, 3) := by decide +kernel
theorem dX3_correct_87 : decode cX3_correct 87 = .ok (.iload_n 2, 1) := by decide +kernel
theorem dX3_correct_88 : decode cX3_correct 88 = .ok (.ifCond .le 70, 3) := by decide +kernel
theorem dX3_correct_91 : decode cX3_correct 91 = .ok (.aload_n 0, 1) := by decide +kernel
theorem dX3_correct_92 : decode cX3_correct 92 = .ok (.iload_n 1, 1) := by decide +kernel
theorem dX3_correct_93 : decode cX3_correct 93 = .ok (.invokevirtual 61, 3) := by decide +kernel
theorem dX3_correct_96 : decode cX3_correct 96 = .ok (.aload_n 0, 1) := by decide +kernel
theorem dX3_correct_97 : decode cX3_correct 97 = .ok (.getfield 12, 3) := by decide +kernel
theorem dX3_correct_100 : decode cX3_correct 100 = .ok (.aload_n 0, 1) := by decide +kernel
theorem dX3_correct_101 : decode cX3_correct 101 = .ok (.getfield 18, 3) := by decide +kernel
theorem dX3_correct_104 : decode cX3_correct 104 = .ok (.iload_n 1, 1) := by decide +kernel
theorem dX3_correct_105 : decode cX3_correct 105 = .ok (.iaload, 1) := by decide +kernel
theorem dX3_correct_106 : decode cX3_correct 106 = .ok (.aload_n 0, 1) := by decide +kernel
theorem dX3_correct_107 : decode cX3_correct 107 = .ok (.getfield 22, 3) := by decide +kernel
theorem dX3_correct_110 : decode cX3_correct 110 = .ok (.iload_n 1, 1) := by decide +kernel
theorem dX3_correct_111 : decode cX3_correct 111 = .ok (.iaload, 1) := by decide +kernel
theorem dX3_correct_112 : decode cX3_correct 112 = .ok (.iconst 1, 1) := by decide +kernel
theorem dX3_correct_113 : decode cX3_correct 113 = .ok (.iadd, 1) := by decide +kernel
theorem dX3_correct_114 : decode cX3_correct 114 = .ok (.invokevirtual 104, 3) := by decide +kernel
theorem dX3_correct_117 : decode cX3_correct 117 = .ok (.isub, 1) := by decide +kernel
theorem dX3_correct_118 : decode cX3_correct 118 = .ok (.iconst 1, 1) := by decide +kernel
theorem dX3_correct_119 : decode cX3_correct 119 = .ok (.iadd, 1) := by decide +kernel
theorem dX3_correct_120 : decode cX3_correct 120 = .ok (.istore_n 3, 1) := by decide +kernel
theorem dX3_correct_121 : decode cX3_correct 121 = .ok (.aload_n 0, 1) := by decide +kernel
theorem dX3_correct_122 : decode cX3_correct 122 = .ok (.getfield 28, 3) := by decide +kernel
theorem dX3_correct_125 : decode cX3_correct 125 = .ok (.iload_n 1, 1) := by decide +kernel
theorem dX3_correct_126 : decode cX3_correct 126 = .ok (.iload_n 3, 1) := by decide +kernel
theorem dX3_correct_127 : decode cX3_correct 127 = .ok (.iconst 1, 1) := by decide +kernel
theorem dX3_correct_128 : decode cX3_correct 128 = .ok (.sipush 999, 3) := by decide +kernel
theorem dX3_correct_131 : decode cX3_correct 131 = .ok (.invokestatic 127, 3) := by decide +kernel
theorem dX3_correct_134 : decode cX3_correct 134 = .ok (.ifCond .eq 7, 3) := by decide +kernel
theorem dX3_correct_137 : decode cX3_correct 137 = .ok (.iload_n 3, 1) := by decide +kernel
theorem dX3_correct_138 : decode cX3_correct 138 = .ok (.goto 4, 3) := by decide +kernel
theorem dX3_correct_141 : decode cX3_correct 141 = .ok (.iconst 0, 1) := by decide +kernel
theorem dX3_correct_142 : decode cX3_correct 142 = .ok (.iastore, 1) := by decide +kernel
theorem dX3_correct_143 : decode cX3_correct 143 = .ok (.aload_n 0, 1) := by decide +kernel
theorem dX3_correct_144 : decode cX3_correct 144 = .ok (.iload_n 1, 1) := by decide +kernel
theorem dX3_correct_145 : decode cX3_correct 145 = .ok (.invokevirtual 90, 3) := by decide +kernel
theorem dX3_correct_148 : decode cX3_correct 148 = .ok (.ifCond .eq 10, 3) := by decide +kernel
theorem dX3_correct_151 : decode cX3_correct 151 = .ok (.aload_n 0, 1) := by decide +kernel
theorem dX3_correct_152 : decode cX3_correct 152 = .ok (.getfield 28, 3) := by decide +kernel
theorem dX3_correct_155 : decode cX3_correct 155 = .ok (.iload_n 1, 1) := by decide +kernel
theorem dX3_correct_156 : decode cX3_correct 156 = .ok (.iconst 0, 1) := by decide +kernel
theorem dX3_correct_157 : decode cX3_correct 157 = .ok (.iastore, 1) := by decide +kernel
theorem dX3_correct_158 : decode cX3_correct 158 = .ok (.return_, 1) := by decide +kernel
def q_X3_correct (k : Nat) (S : zM) (z : Int) : zM → Prop := fun S1 => (zPut S k (tCor (S k 0) z) (S k 2) (S k 8)) = S1
def r_X3_correct : Room := { frames := 3, cells := 0, slots := 0, locals := 67 }
set_option maxHeartbeats 4000000 in
set_option maxRecDepth 100000 in
theorem c_X3_correct (l : Launch) (G : zG) (hG : zok G) (k : Nat) (hk : k < 8) (S : zM) (z : Int) (hz : 0 ≤ z ∧ z < 8) (hms : zMs S k) (hw : zW (S k 0))  : Met l yX3_correct (Cond.code yX3_correct cX3_correct 4 (none : Option FieldType) :: zTbl) r_X3_correct (va_Pc [.ref (za G k 0), .int (zI z)] (zB G S)) (va_Qv (q_X3_correct k S z) (zB G) (zA G)) 0 0 (zA G) := by
  refine zMet [(0, .ref (za G k 0)), (1, .int (zI z))] hG (by decide) (Nat.le_of_ble_eq_true rfl) rfl (fun p e s m args below meth c ls h hx hb hr hH hl => ?_)
  rw [← zP_id S k] at hH
  have hM := hms
  have hz0 := hz
  have b1 := tLe_in hw (S k 0 (5 + 5 * z)) (S k 0 (5 + 5 * z + 1))
  have b2 := tLe_in hw (S k 0 (5 + 5 * z)) (S k 0 (5 + 5 * z + 1) + 1)
  have b3 := tTm_in hw hz
  have b4 := tOff_in hw hz
  refine lv_iload_n hx hb dX3_correct_0 rfl (lv_at hl 1 rfl) ?_
  refine zb_ilt (tgt := 10) h (by omega) dX3_correct_1 (by decide) (fun c_1 => ?_) (fun c_1 => ?_)
  · exact absurd c_1 (by omega)
  · refine lv_iload_n hx hb dX3_correct_4 rfl (lv_at hl 1 rfl) ?_
    refine zb_bi h dX3_correct_5 (by decide) (by decide) ?_
    refine zb_clt (tgt := 11) h (by omega) (by omega) dX3_correct_7 (by decide) (fun c_7 => ?_) (fun c_7 => ?_)
    · refine lv_aload_n hx hb dX3_correct_11 rfl (lv_at hl 0 rfl) ?_
      refine lv_iload_n hx hb dX3_correct_12 rfl (lv_at hl 1 rfl) ?_
      refine zcVi h hH (zr_3 h hH hk) (As := [.int (zI z)]) (rest := []) (c_X3_tooDarkBy l G hG k hk (zPut S k (S k 0) (S k 2) (S k 8)) z (by omega) (zP_ms hM) (zP_hw hw)) zce_X3_tooDarkBy zcv_X3_tooDarkBy zm_X3_90 hl.1 rfl rfl ⟨rfl, rfl⟩ ⟨Nat.le_of_ble_eq_true rfl, Nat.le_of_ble_eq_true rfl⟩ (Nat.le_of_ble_eq_true rfl) ⟨Nat.zero_le _, Nat.zero_le _⟩ dX3_correct_13 (fun r_13 S_13 H locs hq hH => ?_)
      obtain ⟨rfl, rfl⟩ := hq
      rw [zP_0]
      refine lv_istore_n (lv' := [(2, .int (zI (tOff (S k 0) z))), (0, .ref (za G k 0)), (1, .int (zI z))]) hx hb dX3_correct_16 rfl hl (by decide) rfl (fun ls hl => ?_)
      refine lv_iload_n hx hb dX3_correct_17 rfl (lv_at hl 0 rfl) ?_
      refine zb_ige (tgt := 87) h (by omega) dX3_correct_18 (by decide) (fun c_18 => ?_) (fun c_18 => ?_)
      · refine lv_iload_n hx hb dX3_correct_87 rfl (lv_at hl 0 rfl) ?_
        refine zb_ile (tgt := 158) h (by omega) dX3_correct_88 (by decide) (fun c_88 => ?_) (fun c_88 => ?_)
        · refine zrv h hr hH ?_ dX3_correct_158
          first | (exact congrArg (fun σ => zPut S k σ (S k 2) (S k 8)) (by unfold tCor; rw [if_pos (by omega), if_pos c_74])) | (exact congrArg (fun σ => zPut S k σ (S k 2) (S k 8)) (by unfold tCor; rw [if_pos (by omega), if_neg c_74])) | (exact congrArg (fun σ => zPut S k σ (S k 2) (S k 8)) (by unfold tCor; rw [if_neg (by omega), if_pos (by omega), if_pos c_148])) | (exact congrArg (fun σ => zPut S k σ (S k 2) (S k 8)) (by unfold tCor; rw [if_neg (by omega), if_pos (by omega), if_neg c_148])) | (exact congrArg (fun σ => zPut S k σ (S k 2) (S k 8)) (by unfold tCor; rw [if_neg (by omega), if_neg (by omega)]))
        · refine lv_aload_n hx hb dX3_correct_91 rfl (lv_at hl 1 rfl) ?_
          refine lv_iload_n hx hb dX3_correct_92 rfl (lv_at hl 2 rfl) ?_
          refine zcVi h hH (zr_3 h hH hk) (As := [.int (zI z)]) (rest := []) (c_X3_timeOf l G hG k hk (zPut S k (S k 0) (S k 2) (S k 8)) z (by omega) (zP_hw hw)) zce_X3_timeOf zcv_X3_timeOf zm_X3_61 hl.1 rfl rfl ⟨rfl, rfl⟩ ⟨Nat.le_of_ble_eq_true rfl, Nat.le_of_ble_eq_true rfl⟩ (Nat.le_of_ble_eq_true rfl) ⟨Nat.zero_le _, Nat.zero_le _⟩ dX3_correct_93 (fun r_93 S_93 H locs hq hH => ?_)
          obtain ⟨rfl, rfl⟩ := hq
          rw [zP_0]
          refine lv_aload_n hx hb dX3_correct_96 rfl (lv_at hl 1 rfl) ?_
          refine zg_3_0 h hH hk zf_X3_12 dX3_correct_97 ?_
          refine lv_aload_n hx hb dX3_correct_100 rfl (lv_at hl 1 rfl) ?_
          refine zg_3_1 h hH hk zf_X3_18 dX3_correct_101 ?_
          refine lv_iload_n hx hb dX3_correct_104 rfl (lv_at hl 2 rfl) ?_
          refine zld_ar_de h hH hk (by omega) dX3_correct_105 ?_
          rw [zP_0]
          have f_105 := zW_de hw (show 0 ≤ z ∧ z < 8 by omega)
          refine lv_aload_n hx hb dX3_correct_106 rfl (lv_at hl 1 rfl) ?_
          refine zg_3_2 h hH hk zf_X3_22 dX3_correct_107 ?_
          refine lv_iload_n hx hb dX3_correct_110 rfl (lv_at hl 2 rfl) ?_
          refine zld_ar_wa h hH hk (by omega) dX3_correct_111 ?_
          rw [zP_0]
          have f_111 := zW_wa hw (show 0 ≤ z ∧ z < 8 by omega)
          refine zb_ic h dX3_correct_112 ?_
          refine zb_iadd h dX3_correct_113 ?_
          refine zcVi h hH (zr_2 h hH hk) (As := [.int (zI (S k 0 (5 + 5 * z))), .int (zI ((S k 0 (5 + 5 * z + 1)) + 1))]) (rest := [.int (zI (tTm (S k 0) z))]) (c_X2_leastTime l G hG k hk (zPut S k (S k 0) (S k 2) (S k 8)) (S k 0 (5 + 5 * z)) ((S k 0 (5 + 5 * z + 1)) + 1) (by omega) (by omega) (zP_ms hM) (zP_hw hw)) zce_X2_leastTime zcv_X2_leastTime zm_X3_104 hl.1 rfl rfl ⟨rfl, rfl⟩ ⟨Nat.le_of_ble_eq_true rfl, Nat.le_of_ble_eq_true rfl⟩ (Nat.le_of_ble_eq_true rfl) ⟨Nat.zero_le _, Nat.zero_le _⟩ dX3_correct_114 (fun r_114 S_114 H locs hq hH => ?_)
          obtain ⟨rfl, rfl⟩ := hq
          rw [zP_0]
          refine zb_isub h dX3_correct_117 ?_
          refine zb_ic h dX3_correct_118 ?_
          refine zb_iadd h dX3_correct_119 ?_
          refine lv_istore_n (lv' := [(3, .int (zI (((tTm (S k 0) z) - (tLe (S k 0) (S k 0 (5 + 5 * z)) ((S k 0 (5 + 5 * z + 1)) + 1))) + 1))), (2, .int (zI (tOff (S k 0) z))), (0, .ref (za G k 0)), (1, .int (zI z))]) hx hb dX3_correct_120 rfl hl (by decide) rfl (fun ls hl => ?_)
          refine lv_aload_n hx hb dX3_correct_121 rfl (lv_at hl 2 rfl) ?_
          refine zg_3_4 h hH hk zf_X3_28 dX3_correct_122 ?_
          refine lv_iload_n hx hb dX3_correct_125 rfl (lv_at hl 3 rfl) ?_
          refine lv_iload_n hx hb dX3_correct_126 rfl (lv_at hl 0 rfl) ?_
          refine zb_ic h dX3_correct_127 ?_
          refine zb_si h dX3_correct_128 (by decide) (by decide) ?_
          refine zcnSi h hH (As := [.int (zI (((tTm (S k 0) z) - (tLe (S k 0) (S k 0 (5 + 5 * z)) ((S k 0 (5 + 5 * z + 1)) + 1))) + 1)), .int (zI 1), .int (zI 999)]) (rest := [.int (zI z), .ref (za G k 6)]) (c_X4_isWithin l G hG (zPut S k (S k 0) (S k 2) (S k 8)) (((tTm (S k 0) z) - (tLe (S k 0) (S k 0 (5 + 5 * z)) ((S k 0 (5 + 5 * z + 1)) + 1))) + 1) 1 999 (by omega) (by omega) (by omega)) zce_X4_isWithin zt_X4_isWithin zmn_X3_127 hl.1 rfl rfl ⟨rfl, rfl⟩ ⟨Nat.le_of_ble_eq_true rfl, Nat.le_of_ble_eq_true rfl⟩ (Nat.le_of_ble_eq_true rfl) ⟨Nat.zero_le _, Nat.zero_le _⟩ dX3_correct_131 (fun r_131 S_131 H locs hq hH => ?_)
          obtain ⟨b_131, rfl, hb_131, rfl⟩ := hq
          refine zb_ieq (tgt := 141) h (by omega) dX3_correct_134 (by decide) (fun c_134 => ?_) (fun c_134 => ?_)
          · refine zb_ic h dX3_correct_141 ?_
            refine zb_top (y := tPb (((tTm (S k 0) z) - (tLe (S k 0) (S k 0 (5 + 5 * z)) ((S k 0 (5 + 5 * z + 1)) + 1))) + 1)) (by unfold tPb; first | rw [if_pos (by omega)] | rw [if_neg (by omega)]) ?_
            refine zst_ar_ho h hH hk (by omega) dX3_correct_142 (fun H locs hH => ?_)
            rw [zs_P0] at hH
            have pb := tPb_in (((tTm (S k 0) z) - (tLe (S k 0) (S k 0 (5 + 5 * z)) ((S k 0 (5 + 5 * z + 1)) + 1))) + 1)
            have hw1 : zW (zup (S k 0) (5 + 5 * z + 3) (tPb (((tTm (S k 0) z) - (tLe (S k 0) (S k 0 (5 + 5 * z)) ((S k 0 (5 + 5 * z + 1)) + 1))) + 1))) := zW_upz hw hz0.1 (w := 3) (by omega) (by omega) rfl
            have hM1 : ∀ j : Int, 0 ≤ j → j < 10 → S k 2 j = zMk ((zup (S k 0) (5 + 5 * z + 3) (tPb (((tTm (S k 0) z) - (tLe (S k 0) (S k 0 (5 + 5 * z)) ((S k 0 (5 + 5 * z + 1)) + 1))) + 1))) 1) ((zup (S k 0) (5 + 5 * z + 3) (tPb (((tTm (S k 0) z) - (tLe (S k 0) (S k 0 (5 + 5 * z)) ((S k 0 (5 + 5 * z + 1)) + 1))) + 1))) 2) j := by rw [zup_n (by omega), zup_n (by omega)]; exact hms
            refine lv_aload_n hx hb dX3_correct_143 rfl (lv_at hl 2 rfl) ?_
            refine lv_iload_n hx hb dX3_correct_144 rfl (lv_at hl 3 rfl) ?_
            refine zcVi h hH (zr_3 h hH hk) (As := [.int (zI z)]) (rest := []) (c_X3_tooDarkBy l G hG k hk (zPut S k (zup (S k 0) (5 + 5 * z + 3) (tPb (((tTm (S k 0) z) - (tLe (S k 0) (S k 0 (5 + 5 * z)) ((S k 0 (5 + 5 * z + 1)) + 1))) + 1))) (S k 2) (S k 8)) z (by omega) (zP_ms hM1) (zP_hw hw1)) zce_X3_tooDarkBy zcv_X3_tooDarkBy zm_X3_90 hl.1 rfl rfl ⟨rfl, rfl⟩ ⟨Nat.le_of_ble_eq_true rfl, Nat.le_of_ble_eq_true rfl⟩ (Nat.le_of_ble_eq_true rfl) ⟨Nat.zero_le _, Nat.zero_le _⟩ dX3_correct_145 (fun r_145 S_145 H locs hq hH => ?_)
            obtain ⟨rfl, rfl⟩ := hq
            rw [zP_0]
            have b5 := tOff_in hw1 hz
            refine zb_ieq (tgt := 158) h (by omega) dX3_correct_148 (by decide) (fun c_148 => ?_) (fun c_148 => ?_)
            · refine zrv h hr hH ?_ dX3_correct_158
              first | (exact congrArg (fun σ => zPut S k σ (S k 2) (S k 8)) (by unfold tCor; rw [if_pos (by omega), if_pos c_74])) | (exact congrArg (fun σ => zPut S k σ (S k 2) (S k 8)) (by unfold tCor; rw [if_pos (by omega), if_neg c_74])) | (exact congrArg (fun σ => zPut S k σ (S k 2) (S k 8)) (by unfold tCor; rw [if_neg (by omega), if_pos (by omega), if_pos c_148])) | (exact congrArg (fun σ => zPut S k σ (S k 2) (S k 8)) (by unfold tCor; rw [if_neg (by omega), if_pos (by omega), if_neg c_148])) | (exact congrArg (fun σ => zPut S k σ (S k 2) (S k 8)) (by unfold tCor; rw [if_neg (by omega), if_neg (by omega)]))
            · refine lv_aload_n hx hb dX3_correct_151 rfl (lv_at hl 2 rfl) ?_
              refine zg_3_4 h hH hk zf_X3_28 dX3_correct_152 ?_
              refine lv_iload_n hx hb dX3_correct_155 rfl (lv_at hl 3 rfl) ?_
              refine zb_ic h dX3_correct_156 ?_
              refine zst_ar_ho h hH hk (by omega) dX3_correct_157 (fun H locs hH => ?_)
              rw [zs_P0] at hH
              refine zrv h hr hH ?_ dX3_correct_158
              first | (exact congrArg (fun σ => zPut S k σ (S k 2) (S k 8)) (by unfold tCor; rw [if_pos (by omega), if_pos c_74])) | (exact congrArg (fun σ => zPut S k σ (S k 2) (S k 8)) (by unfold tCor; rw [if_pos (by omega), if_neg c_74])) | (exact congrArg (fun σ => zPut S k σ (S k 2) (S k 8)) (by unfold tCor; rw [if_neg (by omega), if_pos (by omega), if_pos c_148])) | (exact congrArg (fun σ => zPut S k σ (S k 2) (S k 8)) (by unfold tCor; rw [if_neg (by omega), if_pos (by omega), if_neg c_148])) | (exact congrArg (fun σ => zPut S k σ (S k 2) (S k 8)) (by unfold tCor; rw [if_neg (by omega), if_neg (by omega)]))
          · refine lv_iload_n hx hb dX3_correct_137 rfl (lv_at hl 0 rfl) ?_
            refine lv_goto (tgt := 142) hx hb dX3_correct_138 (by decide) ?_
            refine zb_top (y := tPb (((tTm (S k 0) z) - (tLe (S k 0) (S k 0 (5 + 5 * z)) ((S k 0 (5 + 5 * z + 1)) + 1))) + 1)) (by unfold tPb; first | rw [if_pos (by omega)] | rw [if_neg (by omega)]) ?_
            refine zst_ar_ho h hH hk (by omega) dX3_correct_142 (fun H locs hH => ?_)
            rw [zs_P0] at hH
            have pb := tPb_in (((tTm (S k 0) z) - (tLe (S k 0) (S k 0 (5 + 5 * z)) ((S k 0 (5 + 5 * z + 1)) + 1))) + 1)
            have hw1 : zW (zup (S k 0) (5 + 5 * z + 3) (tPb (((tTm (S k 0) z) - (tLe (S k 0) (S k 0 (5 + 5 * z)) ((S k 0 (5 + 5 * z + 1)) + 1))) + 1))) := zW_upz hw hz0.1 (w := 3) (by omega) (by omega) rfl
            have hM1 : ∀ j : Int, 0 ≤ j → j < 10 → S k 2 j = zMk ((zup (S k 0) (5 + 5 * z + 3) (tPb (((tTm (S k 0) z) - (tLe (S k 0) (S k 0 (5 + 5 * z)) ((S k 0 (5 + 5 * z + 1)) + 1))) + 1))) 1) ((zup (S k 0) (5 + 5 * z + 3) (tPb (((tTm (S k 0) z) - (tLe (S k 0) (S k 0 (5 + 5 * z)) ((S k 0 (5 + 5 * z + 1)) + 1))) + 1))) 2) j := by rw [zup_n (by omega), zup_n (by omega)]; exact hms
            refine lv_aload_n hx hb dX3_correct_143 rfl (lv_at hl 2 rfl) ?_
            refine lv_iload_n hx hb dX3_correct_144 rfl (lv_at hl 3 rfl) ?_
            refine zcVi h hH (zr_3 h hH hk) (As := [.int (zI z)]) (rest := []) (c_X3_tooDarkBy l G hG k hk (zPut S k (zup (S k 0) (5 + 5 * z + 3) (tPb (((tTm (S k 0) z) - (tLe (S k 0) (S k 0 (5 + 5 * z)) ((S k 0 (5 + 5 * z + 1)) + 1))) + 1))) (S k 2) (S k 8)) z (by omega) (zP_ms hM1) (zP_hw hw1)) zce_X3_tooDarkBy zcv_X3_tooDarkBy zm_X3_90 hl.1 rfl rfl ⟨rfl, rfl⟩ ⟨Nat.le_of_ble_eq_true rfl, Nat.le_of_ble_eq_true rfl⟩ (Nat.le_of_ble_eq_true rfl) ⟨Nat.zero_le _, Nat.zero_le _⟩ dX3_correct_145 (fun r_145 S_145 H locs hq hH => ?_)
            obtain ⟨rfl, rfl⟩ := hq
            rw [zP_0]
            have b5 := tOff_in hw1 hz
            refine zb_ieq (tgt := 158) h (by omega) dX3_correct_148 (by decide) (fun c_148 => ?_) (fun c_148 => ?_)
            · refine zrv h hr hH ?_ dX3_correct_158
              first | (exact congrArg (fun σ => zPut S k σ (S k 2) (S k 8)) (by unfold tCor; rw [if_pos (by omega), if_pos c_74])) | (exact congrArg (fun σ => zPut S k σ (S k 2) (S k 8)) (by unfold tCor; rw [if_pos (by omega), if_neg c_74])) | (exact congrArg (fun σ => zPut S k σ (S k 2) (S k 8)) (by unfold tCor; rw [if_neg (by omega), if_pos (by omega), if_pos c_148])) | (exact congrArg (fun σ => zPut S k σ (S k 2) (S k 8)) (by unfold tCor; rw [if_neg (by omega), if_pos (by omega), if_neg c_148])) | (exact congrArg (fun σ => zPut S k σ (S k 2) (S k 8)) (by unfold tCor; rw [if_neg (by omega), if_neg (by omega)]))
            · refine lv_aload_n hx hb dX3_correct_151 rfl (lv_at hl 2 rfl) ?_
              refine zg_3_4 h hH hk zf_X3_28 dX3_correct_152 ?_
              refine lv_iload_n hx hb dX3_correct_155 rfl (lv_at hl 3 rfl) ?_
              refine zb_ic h dX3_correct_156 ?_
              refine zst_ar_ho h hH hk (by omega) dX3_correct_157 (fun H locs hH => ?_)
              rw [zs_P0] at hH
              refine zrv h hr hH ?_ dX3_correct_158
              first | (exact congrArg (fun σ => zPut S k σ (S k 2) (S k 8)) (by unfold tCor; rw [if_pos (by omega), if_pos c_74])) | (exact congrArg (fun σ => zPut S k σ (S k 2) (S k 8)) (by unfold tCor; rw [if_pos (by omega), if_neg c_74])) | (exact congrArg (fun σ => zPut S k σ (S k 2) (S k 8)) (by unfold tCor; rw [if_neg (by omega), if_pos (by omega), if_pos c_148])) | (exact congrArg (fun σ => zPut S k σ (S k 2) (S k 8)) (by unfold tCor; rw [if_neg (by omega), if_pos (by omega), if_neg c_148])) | (exact congrArg (fun σ => zPut S k σ (S k 2) (S k 8)) (by unfold tCor; rw [if_neg (by omega), if_neg (by omega)]))
      · refine lv_aload_n hx hb dX3_correct_21 rfl (lv_at hl 1 rfl) ?_
        refine zg_3_0 h hH hk zf_X3_12 dX3_correct_22 ?_
        refine lv_aload_n hx hb dX3_correct_25 rfl (lv_at hl 1 rfl) ?_
        refine zg_3_1 h hH hk zf_X3_18 dX3_correct_26 ?_
        refine lv_iload_n hx hb dX3_correct_29 rfl (lv_at hl 2 rfl) ?_
        refine zld_ar_de h hH hk (by omega) dX3_correct_30 ?_
        rw [zP_0]
        have f_30 := zW_de hw (show 0 ≤ z ∧ z < 8 by omega)
        refine lv_aload_n hx hb dX3_correct_31 rfl (lv_at hl 1 rfl) ?_
        refine zg_3_2 h hH hk zf_X3_22 dX3_correct_32 ?_
        refine lv_iload_n hx hb dX3_correct_35 rfl (lv_at hl 2 rfl) ?_
        refine zld_ar_wa h hH hk (by omega) dX3_correct_36 ?_
        rw [zP_0]
        have f_36 := zW_wa hw (show 0 ≤ z ∧ z < 8 by omega)
        refine zcVi h hH (zr_2 h hH hk) (As := [.int (zI (S k 0 (5 + 5 * z))), .int (zI (S k 0 (5 + 5 * z + 1)))]) (rest := []) (c_X2_leastTime l G hG k hk (zPut S k (S k 0) (S k 2) (S k 8)) (S k 0 (5 + 5 * z)) (S k 0 (5 + 5 * z + 1)) (by omega) (by omega) (zP_ms hM) (zP_hw hw)) zce_X2_leastTime zcv_X2_leastTime zm_X3_104 hl.1 rfl rfl ⟨rfl, rfl⟩ ⟨Nat.le_of_ble_eq_true rfl, Nat.le_of_ble_eq_true rfl⟩ (Nat.le_of_ble_eq_true rfl) ⟨Nat.zero_le _, Nat.zero_le _⟩ dX3_correct_37 (fun r_37 S_37 H locs hq hH => ?_)
        obtain ⟨rfl, rfl⟩ := hq
        rw [zP_0]
        refine lv_aload_n hx hb dX3_correct_40 rfl (lv_at hl 1 rfl) ?_
        refine lv_iload_n hx hb dX3_correct_41 rfl (lv_at hl 2 rfl) ?_
        refine zcVi h hH (zr_3 h hH hk) (As := [.int (zI z)]) (rest := [.int (zI (tLe (S k 0) (S k 0 (5 + 5 * z)) (S k 0 (5 + 5 * z + 1))))]) (c_X3_timeOf l G hG k hk (zPut S k (S k 0) (S k 2) (S k 8)) z (by omega) (zP_hw hw)) zce_X3_timeOf zcv_X3_timeOf zm_X3_61 hl.1 rfl rfl ⟨rfl, rfl⟩ ⟨Nat.le_of_ble_eq_true rfl, Nat.le_of_ble_eq_true rfl⟩ (Nat.le_of_ble_eq_true rfl) ⟨Nat.zero_le _, Nat.zero_le _⟩ dX3_correct_42 (fun r_42 S_42 H locs hq hH => ?_)
        obtain ⟨rfl, rfl⟩ := hq
        rw [zP_0]
        refine zb_isub h dX3_correct_45 ?_
        refine lv_istore_n (lv' := [(3, .int (zI ((tLe (S k 0) (S k 0 (5 + 5 * z)) (S k 0 (5 + 5 * z + 1))) - (tTm (S k 0) z)))), (2, .int (zI (tOff (S k 0) z))), (0, .ref (za G k 0)), (1, .int (zI z))]) hx hb dX3_correct_46 rfl hl (by decide) rfl (fun ls hl => ?_)
        refine lv_aload_n hx hb dX3_correct_47 rfl (lv_at hl 2 rfl) ?_
        refine zg_3_3 h hH hk zf_X3_25 dX3_correct_48 ?_
        refine lv_iload_n hx hb dX3_correct_51 rfl (lv_at hl 3 rfl) ?_
        refine lv_iload_n hx hb dX3_correct_52 rfl (lv_at hl 0 rfl) ?_
        refine zb_ic h dX3_correct_53 ?_
        refine zb_si h dX3_correct_54 (by decide) (by decide) ?_
        refine zcnSi h hH (As := [.int (zI ((tLe (S k 0) (S k 0 (5 + 5 * z)) (S k 0 (5 + 5 * z + 1))) - (tTm (S k 0) z))), .int (zI 1), .int (zI 999)]) (rest := [.int (zI z), .ref (za G k 5)]) (c_X4_isWithin l G hG (zPut S k (S k 0) (S k 2) (S k 8)) ((tLe (S k 0) (S k 0 (5 + 5 * z)) (S k 0 (5 + 5 * z + 1))) - (tTm (S k 0) z)) 1 999 (by omega) (by omega) (by omega)) zce_X4_isWithin zt_X4_isWithin zmn_X3_127 hl.1 rfl rfl ⟨rfl, rfl⟩ ⟨Nat.le_of_ble_eq_true rfl, Nat.le_of_ble_eq_true rfl⟩ (Nat.le_of_ble_eq_true rfl) ⟨Nat.zero_le _, Nat.zero_le _⟩ dX3_correct_57 (fun r_57 S_57 H locs hq hH => ?_)
        obtain ⟨b_57, rfl, hb_57, rfl⟩ := hq
        refine zb_ieq (tgt := 67) h (by omega) dX3_correct_60 (by decide) (fun c_60 => ?_) (fun c_60 => ?_)
        · refine zb_ic h dX3_correct_67 ?_
          refine zb_top (y := tPb ((tLe (S k 0) (S k 0 (5 + 5 * z)) (S k 0 (5 + 5 * z + 1))) - (tTm (S k 0) z))) (by unfold tPb; first | rw [if_pos (by omega)] | rw [if_neg (by omega)]) ?_
          refine zst_ar_bu h hH hk (by omega) dX3_correct_68 (fun H locs hH => ?_)
          rw [zs_P0] at hH
          have pb := tPb_in ((tLe (S k 0) (S k 0 (5 + 5 * z)) (S k 0 (5 + 5 * z + 1))) - (tTm (S k 0) z))
          have hw1 : zW (zup (S k 0) (5 + 5 * z + 2) (tPb ((tLe (S k 0) (S k 0 (5 + 5 * z)) (S k 0 (5 + 5 * z + 1))) - (tTm (S k 0) z)))) := zW_upz hw hz0.1 (w := 2) (by omega) (by omega) rfl
          have hM1 : ∀ j : Int, 0 ≤ j → j < 10 → S k 2 j = zMk ((zup (S k 0) (5 + 5 * z + 2) (tPb ((tLe (S k 0) (S k 0 (5 + 5 * z)) (S k 0 (5 + 5 * z + 1))) - (tTm (S k 0) z)))) 1) ((zup (S k 0) (5 + 5 * z + 2) (tPb ((tLe (S k 0) (S k 0 (5 + 5 * z)) (S k 0 (5 + 5 * z + 1))) - (tTm (S k 0) z)))) 2) j := by rw [zup_n (by omega), zup_n (by omega)]; exact hms
          refine lv_aload_n hx hb dX3_correct_69 rfl (lv_at hl 2 rfl) ?_
          refine lv_iload_n hx hb dX3_correct_70 rfl (lv_at hl 3 rfl) ?_
          refine zcVi h hH (zr_3 h hH hk) (As := [.int (zI z)]) (rest := []) (c_X3_tooDarkBy l G hG k hk (zPut S k (zup (S k 0) (5 + 5 * z + 2) (tPb ((tLe (S k 0) (S k 0 (5 + 5 * z)) (S k 0 (5 + 5 * z + 1))) - (tTm (S k 0) z)))) (S k 2) (S k 8)) z (by omega) (zP_ms hM1) (zP_hw hw1)) zce_X3_tooDarkBy zcv_X3_tooDarkBy zm_X3_90 hl.1 rfl rfl ⟨rfl, rfl⟩ ⟨Nat.le_of_ble_eq_true rfl, Nat.le_of_ble_eq_true rfl⟩ (Nat.le_of_ble_eq_true rfl) ⟨Nat.zero_le _, Nat.zero_le _⟩ dX3_correct_71 (fun r_71 S_71 H locs hq hH => ?_)
          obtain ⟨rfl, rfl⟩ := hq
          rw [zP_0]
          have b5 := tOff_in hw1 hz
          refine zb_ieq (tgt := 84) h (by omega) dX3_correct_74 (by decide) (fun c_74 => ?_) (fun c_74 => ?_)
          · refine lv_goto (tgt := 158) hx hb dX3_correct_84 (by decide) ?_
            refine zrv h hr hH ?_ dX3_correct_158
            first | (exact congrArg (fun σ => zPut S k σ (S k 2) (S k 8)) (by unfold tCor; rw [if_pos (by omega), if_pos c_74])) | (exact congrArg (fun σ => zPut S k σ (S k 2) (S k 8)) (by unfold tCor; rw [if_pos (by omega), if_neg c_74])) | (exact congrArg (fun σ => zPut S k σ (S k 2) (S k 8)) (by unfold tCor; rw [if_neg (by omega), if_pos (by omega), if_pos c_148])) | (exact congrArg (fun σ => zPut S k σ (S k 2) (S k 8)) (by unfold tCor; rw [if_neg (by omega), if_pos (by omega), if_neg c_148])) | (exact congrArg (fun σ => zPut S k σ (S k 2) (S k 8)) (by unfold tCor; rw [if_neg (by omega), if_neg (by omega)]))
          · refine lv_aload_n hx hb dX3_correct_77 rfl (lv_at hl 2 rfl) ?_
            refine zg_3_3 h hH hk zf_X3_25 dX3_correct_78 ?_
            refine lv_iload_n hx hb dX3_correct_81 rfl (lv_at hl 3 rfl) ?_
            refine zb_ic h dX3_correct_82 ?_
            refine zst_ar_bu h hH hk (by omega) dX3_correct_83 (fun H locs hH => ?_)
            rw [zs_P0] at hH
            refine lv_goto (tgt := 158) hx hb dX3_correct_84 (by decide) ?_
            refine zrv h hr hH ?_ dX3_correct_158
            first | (exact congrArg (fun σ => zPut S k σ (S k 2) (S k 8)) (by unfold tCor; rw [if_pos (by omega), if_pos c_74])) | (exact congrArg (fun σ => zPut S k σ (S k 2) (S k 8)) (by unfold tCor; rw [if_pos (by omega), if_neg c_74])) | (exact congrArg (fun σ => zPut S k σ (S k 2) (S k 8)) (by unfold tCor; rw [if_neg (by omega), if_pos (by omega), if_pos c_148])) | (exact congrArg (fun σ => zPut S k σ (S k 2) (S k 8)) (by unfold tCor; rw [if_neg (by omega), if_pos (by omega), if_neg c_148])) | (exact congrArg (fun σ => zPut S k σ (S k 2) (S k 8)) (by unfold tCor; rw [if_neg (by omega), if_neg (by omega)]))
        · refine lv_iload_n hx hb dX3_correct_63 rfl (lv_at hl 0 rfl) ?_
          refine lv_goto (tgt := 68) hx hb dX3_correct_64 (by decide) ?_
          refine zb_top (y := tPb ((tLe (S k 0) (S k 0 (5 + 5 * z)) (S k 0 (5 + 5 * z + 1))) - (tTm (S k 0) z))) (by unfold tPb; first | rw [if_pos (by omega)] | rw [if_neg (by omega)]) ?_
          refine zst_ar_bu h hH hk (by omega) dX3_correct_68 (fun H locs hH => ?_)
          rw [zs_P0] at hH
          have pb := tPb_in ((tLe (S k 0) (S k 0 (5 + 5 * z)) (S k 0 (5 + 5 * z + 1))) - (tTm (S k 0) z))
          have hw1 : zW (zup (S k 0) (5 + 5 * z + 2) (tPb ((tLe (S k 0) (S k 0 (5 + 5 * z)) (S k 0 (5 + 5 * z + 1))) - (tTm (S k 0) z)))) := zW_upz hw hz0.1 (w := 2) (by omega) (by omega) rfl
          have hM1 : ∀ j : Int, 0 ≤ j → j < 10 → S k 2 j = zMk ((zup (S k 0) (5 + 5 * z + 2) (tPb ((tLe (S k 0) (S k 0 (5 + 5 * z)) (S k 0 (5 + 5 * z + 1))) - (tTm (S k 0) z)))) 1) ((zup (S k 0) (5 + 5 * z + 2) (tPb ((tLe (S k 0) (S k 0 (5 + 5 * z)) (S k 0 (5 + 5 * z + 1))) - (tTm (S k 0) z)))) 2) j := by rw [zup_n (by omega), zup_n (by omega)]; exact hms
          refine lv_aload_n hx hb dX3_correct_69 rfl (lv_at hl 2 rfl) ?_
          refine lv_iload_n hx hb dX3_correct_70 rfl (lv_at hl 3 rfl) ?_
          refine zcVi h hH (zr_3 h hH hk) (As := [.int (zI z)]) (rest := []) (c_X3_tooDarkBy l G hG k hk (zPut S k (zup (S k 0) (5 + 5 * z + 2) (tPb ((tLe (S k 0) (S k 0 (5 + 5 * z)) (S k 0 (5 + 5 * z + 1))) - (tTm (S k 0) z)))) (S k 2) (S k 8)) z (by omega) (zP_ms hM1) (zP_hw hw1)) zce_X3_tooDarkBy zcv_X3_tooDarkBy zm_X3_90 hl.1 rfl rfl ⟨rfl, rfl⟩ ⟨Nat.le_of_ble_eq_true rfl, Nat.le_of_ble_eq_true rfl⟩ (Nat.le_of_ble_eq_true rfl) ⟨Nat.zero_le _, Nat.zero_le _⟩ dX3_correct_71 (fun r_71 S_71 H locs hq hH => ?_)
          obtain ⟨rfl, rfl⟩ := hq
          rw [zP_0]
          have b5 := tOff_in hw1 hz
          refine zb_ieq (tgt := 84) h (by omega) dX3_correct_74 (by decide) (fun c_74 => ?_) (fun c_74 => ?_)
          · refine lv_goto (tgt := 158) hx hb dX3_correct_84 (by decide) ?_
            refine zrv h hr hH ?_ dX3_correct_158
            first | (exact congrArg (fun σ => zPut S k σ (S k 2) (S k 8)) (by unfold tCor; rw [if_pos (by omega), if_pos c_74])) | (exact congrArg (fun σ => zPut S k σ (S k 2) (S k 8)) (by unfold tCor; rw [if_pos (by omega), if_neg c_74])) | (exact congrArg (fun σ => zPut S k σ (S k 2) (S k 8)) (by unfold tCor; rw [if_neg (by omega), if_pos (by omega), if_pos c_148])) | (exact congrArg (fun σ => zPut S k σ (S k 2) (S k 8)) (by unfold tCor; rw [if_neg (by omega), if_pos (by omega), if_neg c_148])) | (exact congrArg (fun σ => zPut S k σ (S k 2) (S k 8)) (by unfold tCor; rw [if_neg (by omega), if_neg (by omega)]))
          · refine lv_aload_n hx hb dX3_correct_77 rfl (lv_at hl 2 rfl) ?_
            refine zg_3_3 h hH hk zf_X3_25 dX3_correct_78 ?_
            refine lv_iload_n hx hb dX3_correct_81 rfl (lv_at hl 3 rfl) ?_
            refine zb_ic h dX3_correct_82 ?_
            refine zst_ar_bu h hH hk (by omega) dX3_correct_83 (fun H locs hH => ?_)
            rw [zs_P0] at hH
            refine lv_goto (tgt := 158) hx hb dX3_correct_84 (by decide) ?_
            refine zrv h hr hH ?_ dX3_correct_158
            first | (exact congrArg (fun σ => zPut S k σ (S k 2) (S k 8)) (by unfold tCor; rw [if_pos (by omega), if_pos c_74])) | (exact congrArg (fun σ => zPut S k σ (S k 2) (S k 8)) (by unfold tCor; rw [if_pos (by omega), if_neg c_74])) | (exact congrArg (fun σ => zPut S k σ (S k 2) (S k 8)) (by unfold tCor; rw [if_neg (by omega), if_pos (by omega), if_pos c_148])) | (exact congrArg (fun σ => zPut S k σ (S k 2) (S k 8)) (by unfold tCor; rw [if_neg (by omega), if_pos (by omega), if_neg c_148])) | (exact congrArg (fun σ => zPut S k σ (S k 2) (S k 8)) (by unfold tCor; rw [if_neg (by omega), if_neg (by omega)]))
    · exact absurd c_7 (by omega)
theorem dX3_makePlan_0 : decode cX3_makePlan 0 = .ok (.iconst 0, 1) := by decide +kernel
theorem dX3_makePlan_1 : decode cX3_makePlan 1 = .ok (.istore_n 1, 1) := by decide +kernel
theorem dX3_makePlan_2 : decode cX3_makePlan 2 = .ok (.iload_n 1, 1) := by decide +kernel
theorem dX3_makePlan_3 : decode cX3_makePlan 3 = .ok (.aload_n 0, 1) := by decide +kernel
theorem dX3_makePlan_4 : decode cX3_makePlan 4 = .ok (.getfield 37, 3) := by decide +kernel
theorem dX3_makePlan_7 : decode cX3_makePlan 7 = .ok (.if_icmp .ge 29, 3) := by decide +kernel
theorem dX3_makePlan_10 : decode cX3_makePlan 10 = .ok (.iload_n 1, 1) := by decide +kernel
theorem dX3_makePlan_11 : decode cX3_makePlan 11 = .ok (.bipush 8, 2) := by decide +kernel
theorem dX3_makePlan_13 : decode cX3_makePlan 13 = .ok (.if_icmp .ge 23, 3) := by decide +kernel
theorem dX3_makePlan_16 : decode cX3_makePlan 16 = .ok (.aload_n 0, 1) := by decide +kernel
theorem dX3_makePlan_17 : decode cX3_makePlan 17 = .ok (.getfield 25, 3) := by decide +kernel
theorem dX3_makePlan_20 : decode cX3_makePlan 20 = .ok (.iload_n 1, 1) := by decide +kernel
theorem dX3_makePlan_21 : decode cX3_makePlan 21 = .ok (.iconst 0, 1) := by decide +kernel
theorem dX3_makePlan_22 : decode cX3_makePlan 22 = .ok (.iastore, 1) := by decide +kernel
theorem dX3_makePlan_23 : decode cX3_makePlan 23 = .ok (.aload_n 0, 1) := by decide +kernel
theorem dX3_makePlan_24 : decode cX3_makePlan 24 = .ok (.getfield 28, 3) := by decide +kernel
theorem dX3_makePlan_27 : decode cX3_makePlan 27 = .ok (.iload_n 1, 1) := by decide +kernel
theorem dX3_makePlan_28 : decode cX3_makePlan 28 = .ok (.iconst 0, 1) := by decide +kernel
theorem dX3_makePlan_29 : decode cX3_makePlan 29 = .ok (.iastore, 1) := by decide +kernel
theorem dX3_makePlan_30 : decode cX3_makePlan 30 = .ok (.iinc 1 1, 3) := by decide +kernel
theorem dX3_makePlan_33 : decode cX3_makePlan 33 = .ok (.goto (-31), 3) := by decide +kernel
theorem dX3_makePlan_36 : decode cX3_makePlan 36 = .ok (.aload_n 0, 1) := by decide +kernel
theorem dX3_makePlan_37 : decode cX3_makePlan 37 = .ok (.invokevirtual 116, 3) := by decide +kernel
theorem dX3_makePlan_40 : decode cX3_makePlan 40 = .ok (.istore_n 1, 1) := by decide +kernel
theorem dX3_makePlan_41 : decode cX3_makePlan 41 = .ok (.iload_n 1, 1) := by decide +kernel
theorem dX3_makePlan_42 : decode cX3_makePlan 42 = .ok (.iconst (-1), 1) := by decide +kernel
theorem dX3_makePlan_43 : decode cX3_makePlan 43 = .ok (.if_icmp .eq 14, 3) := by decide +kernel
theorem dX3_makePlan_46 : decode cX3_makePlan 46 = .ok (.aload_n 0, 1) := by decide +kernel
theorem dX3_makePlan_47 : decode cX3_makePlan 47 = .ok (.iload_n 1, 1) := by decide +kernel
theorem dX3_makePlan_48 : decode cX3_makePlan 48 = .ok (.sipush 2000, 3) := by decide +kernel
theorem dX3_makePlan_51 : decode cX3_makePlan 51 = .ok (.invokestatic 107, 3) := by decide +kernel
theorem dX3_makePlan_54 : decode cX3_makePlan 54 = .ok (.putfield 41, 3) := by decide +kernel
theorem dX3_makePlan_57 : decode cX3_makePlan 57 = .ok (.iconst 0, 1) := by decide +kernel
theorem dX3_makePlan_58 : decode cX3_makePlan 58 = .ok (.istore_n 2, 1) := by decide +kernel
theorem dX3_makePlan_59 : decode cX3_makePlan 59 = .ok (.iload_n 2, 1) := by decide +kernel
theorem dX3_makePlan_60 : decode cX3_makePlan 60 = .ok (.aload_n 0, 1) := by decide +kernel
theorem dX3_makePlan_61 : decode cX3_makePlan 61 = .ok (.getfield 37, 3) := by decide +kernel
theorem dX3_makePlan_64 : decode cX3_makePlan 64 = .ok (.if_icmp .ge 14, 3) := by decide +kernel
theorem dX3_makePlan_67 : decode cX3_makePlan 67 = .ok (.aload_n 0, 1) := by decide +kernel
theorem dX3_makePlan_68 : decode cX3_makePlan 68 = .ok (.iload_n 2, 1) := by decide +kernel
theorem dX3_makePlan_69 : decode cX3_makePlan 69 = .ok (.invokevirtual 120, 3) := by decide +kernel
theorem dX3_makePlan_72 : decode cX3_makePlan 72 = .ok (.iinc 2 1, 3) := by decide +kernel
theorem dX3_makePlan_75 : decode cX3_makePlan 75 = .ok (.goto (-16), 3) := by decide +kernel
theorem dX3_makePlan_78 : decode cX3_makePlan 78 = .ok (.return_, 1) := by decide +kernel
def q_X3_makePlan (k : Nat) (S : zM) : zM → Prop := fun S1 => ∃ q', zPut S k (tPlan (S k 0)) (S k 2) q' = S1
def r_X3_makePlan : Room := { frames := 4, cells := 0, slots := 0, locals := 94 }
set_option maxHeartbeats 4000000 in
set_option maxRecDepth 100000 in
theorem c_X3_makePlan (l : Launch) (G : zG) (hG : zok G) (k : Nat) (hk : k < 8) (S : zM) (hms : zMs S k) (hw : zW (S k 0))  : Met l yX3_makePlan (Cond.code yX3_makePlan cX3_makePlan 3 (none : Option FieldType) :: zTbl) r_X3_makePlan (va_Pc [.ref (za G k 0)] (zB G S)) (va_Qv (q_X3_makePlan k S) (zB G) (zA G)) 0 0 (zA G) := by
  refine zMet [(0, .ref (za G k 0))] hG (by decide) (Nat.le_of_ble_eq_true rfl) rfl (fun p e s m args below meth c ls h hx hb hr hH hl => ?_)
  rw [← zP_id S k] at hH
  have f4 := zW_4 hw
  have C59 : ∀ (fu : Nat) (o mid : Int) (τ q : Int → Int) (H : Heap) (locs : List Loc) (ls : Array Slot), (S k 0 4 - o).toNat < fu → (0 ≤ o ∧ o ≤ S k 0 4) → (τ = tCors (tTim (tClr (S k 0) (S k 0 4).toNat)) o.toNat) → zH G (zPut S k τ (S k 2) q) s H locs → lv_has ls 3 [(0, .ref (za G k 0)), (1, .int (zI mid)), (2, .int (zI o))] → W p l e r_X3_makePlan s m args below meth c H locs 0 0 (MQ below (va_Qv (q_X3_makePlan k S) (zB G) (zA G)) args s 0 0 (zA G)) (F0 m 59 ls []) := by
    intro fu
    induction fu with
    | zero => intro o mid τ q H locs ls hfu; omega
    | succ fu ih59 =>
      intro o mid τ q H locs ls hfu ho hτ hH hl
      have hd := tCors_in (tTim_in (tClr_in hw (S k 0 4).toNat).1).1 o.toNat
      have he1 := (tTim_in (tClr_in hw (S k 0 4).toNat).1).2
      have he2 := (tClr_in hw (S k 0 4).toNat).2
      rw [← hτ] at hd
      have hMτ : ∀ j : Int, 0 ≤ j → j < 10 → S k 2 j = zMk (τ 1) (τ 2) j := by rw [hd.2.2.1, hd.2.2.2, he1.2.1, he1.2.2, he2.2.1, he2.2.2]; exact hms
      refine lv_iload_n hx hb dX3_makePlan_59 rfl (lv_at hl 2 rfl) ?_
      refine lv_aload_n hx hb dX3_makePlan_60 rfl (lv_at hl 0 rfl) ?_
      refine zg_3_7 h hH hk zf_X3_37 dX3_makePlan_61 ?_
      rw [zP_0]
      have f_61 := zW_4 hd.1
      refine zb_cge (tgt := 78) h (by omega) (by omega) dX3_makePlan_64 (by decide) (fun c_64 => ?_) (fun c_64 => ?_)
      · refine zrv h hr hH ?_ dX3_makePlan_78
        obtain rfl : o = S k 0 4 := by omega
        exact ⟨q, by rw [hτ]; rfl⟩
      · refine lv_aload_n hx hb dX3_makePlan_67 rfl (lv_at hl 0 rfl) ?_
        refine lv_iload_n hx hb dX3_makePlan_68 rfl (lv_at hl 2 rfl) ?_
        refine zcVv h hH (zr_3 h hH hk) (As := [.int (zI o)]) (rest := []) (c_X3_correct l G hG k hk (zPut S k τ (S k 2) q) o (by omega) (zP_ms hMτ) (zP_hw hd.1)) zce_X3_correct zcv_X3_correct zm_X3_120 hl.1 rfl rfl ⟨rfl, rfl⟩ ⟨Nat.le_of_ble_eq_true rfl, Nat.le_of_ble_eq_true rfl⟩ (Nat.le_of_ble_eq_true rfl) ⟨Nat.zero_le _, Nat.zero_le _⟩ dX3_makePlan_69 (fun S_69 H locs hq hH => ?_)
        obtain rfl := hq
        simp only [zP_P, zP_0, zP_2, zP_8] at hH
        refine lv_iinc (v := zI (o + 1)) (lv' := [(2, .int (zI (o + 1))), (0, .ref (za G k 0)), (1, .int (zI mid))]) hx hb dX3_makePlan_72 hl (k := 2) rfl (zI_add _ _) (by decide) rfl (fun ls hl => ?_)
        refine lv_goto (tgt := 59) hx hb dX3_makePlan_75 (by decide) ?_
        exact ih59 (o + 1) mid (tCor τ o) q _ _ _ (by omega) (by omega) (by rw [tCors_s _ ho.1, hτ]) hH (lv_sub hl [1, 2, 0] rfl)
  have C2 : ∀ (fu : Nat) (o : Int) (σ : Int → Int) (H : Heap) (locs : List Loc) (ls : Array Slot), (S k 0 4 - o).toNat < fu → (0 ≤ o ∧ o ≤ S k 0 4) → (σ = tClr (S k 0) o.toNat) → zH G (zPut S k σ (S k 2) (S k 8)) s H locs → lv_has ls 3 [(0, .ref (za G k 0)), (1, .int (zI o))] → W p l e r_X3_makePlan s m args below meth c H locs 0 0 (MQ below (va_Qv (q_X3_makePlan k S) (zB G) (zA G)) args s 0 0 (zA G)) (F0 m 2 ls []) := by
    intro fu
    induction fu with
    | zero => intro o σ H locs ls hfu; omega
    | succ fu ih2 =>
      intro o σ H locs ls hfu ho hσ hH hl
      have hc := tClr_in hw o.toNat
      rw [← hσ] at hc
      refine lv_iload_n hx hb dX3_makePlan_2 rfl (lv_at hl 1 rfl) ?_
      refine lv_aload_n hx hb dX3_makePlan_3 rfl (lv_at hl 0 rfl) ?_
      refine zg_3_7 h hH hk zf_X3_37 dX3_makePlan_4 ?_
      rw [zP_0]
      have f_4 := zW_4 hc.1
      refine zb_cge (tgt := 36) h (by omega) (by omega) dX3_makePlan_7 (by decide) (fun c_7 => ?_) (fun c_7 => ?_)
      · obtain rfl : o = S k 0 4 := by omega
        have hMσ : ∀ j : Int, 0 ≤ j → j < 10 → S k 2 j = zMk (σ 1) (σ 2) j := by rw [hc.2.2.1, hc.2.2.2]; exact hms
        have bm := tMid_in hc.1
        refine lv_aload_n hx hb dX3_makePlan_36 rfl (lv_at hl 0 rfl) ?_
        refine zcVi h hH (zr_3 h hH hk) (As := []) (rest := []) (c_X3_middleNeed l G hG k hk (zPut S k σ (S k 2) (S k 8)) (zP_ms hMσ) (zP_hw hc.1)) zce_X3_middleNeed zcv_X3_middleNeed zm_X3_116 hl.1 rfl rfl ⟨rfl, rfl⟩ ⟨Nat.le_of_ble_eq_true rfl, Nat.le_of_ble_eq_true rfl⟩ (Nat.le_of_ble_eq_true rfl) ⟨Nat.zero_le _, Nat.zero_le _⟩ dX3_makePlan_37 (fun r_37 S_37 H locs hq hH => ?_)
        obtain ⟨rfl, q_37, rfl⟩ := hq
        rw [zP_0]
        simp only [zP_P, zP_0, zP_2, zP_8] at hH
        refine lv_istore_n (lv' := [(1, .int (zI (tMid σ))), (0, .ref (za G k 0))]) hx hb dX3_makePlan_40 rfl hl (by decide) rfl (fun ls hl => ?_)
        refine lv_iload_n hx hb dX3_makePlan_41 rfl (lv_at hl 0 rfl) ?_
        refine zb_ic h dX3_makePlan_42 ?_
        refine zb_ceq (tgt := 57) h (by omega) (by omega) dX3_makePlan_43 (by decide) (fun c_43 => ?_) (fun c_43 => ?_)
        · refine zb_ic h dX3_makePlan_57 ?_
          refine lv_istore_n (lv' := [(2, .int (zI 0)), (1, .int (zI (tMid σ))), (0, .ref (za G k 0))]) hx hb dX3_makePlan_58 rfl hl (by decide) rfl (fun ls hl => ?_)
          exact C59 ((S k 0 4 - 0 : Int).toNat + 1) 0 (tMid σ) σ q_37 _ _ _ (by omega) (by omega) (by show _ = tTim (tClr (S k 0) (S k 0 4).toNat); rw [← hσ]; unfold tTim; first | (rw [if_pos (by omega)]; done) | (rw [if_neg (by omega)]; done)) hH (lv_sub hl [2, 1, 0] rfl)
        · refine lv_aload_n hx hb dX3_makePlan_46 rfl (lv_at hl 1 rfl) ?_
          refine lv_iload_n hx hb dX3_makePlan_47 rfl (lv_at hl 0 rfl) ?_
          refine zb_si h dX3_makePlan_48 (by decide) (by decide) ?_
          refine zminI h hl.1 zm_X3_107 (Nat.le_of_ble_eq_true rfl) (Nat.le_of_ble_eq_true rfl) ⟨Nat.zero_le _, Nat.zero_le _⟩ (by omega) (by omega) (Nat.le_of_ble_eq_true rfl) dX3_makePlan_51 ?_
          refine zu_3_8 h hH hk zf_X3_41 dX3_makePlan_54 (fun H locs hH => ?_)
          rw [zs_P0] at hH
          refine zb_ic h dX3_makePlan_57 ?_
          refine lv_istore_n (lv' := [(2, .int (zI 0)), (1, .int (zI (tMid σ))), (0, .ref (za G k 0))]) hx hb dX3_makePlan_58 rfl hl (by decide) rfl (fun ls hl => ?_)
          exact C59 ((S k 0 4 - 0 : Int).toNat + 1) 0 (tMid σ) (zup σ 0 (min (tMid σ) 2000)) q_37 _ _ _ (by omega) (by omega) (by show _ = tTim (tClr (S k 0) (S k 0 4).toNat); rw [← hσ]; unfold tTim; first | (rw [if_pos (by omega)]; done) | (rw [if_neg (by omega)]; done)) hH (lv_sub hl [2, 1, 0] rfl)
      · refine lv_iload_n hx hb dX3_makePlan_10 rfl (lv_at hl 1 rfl) ?_
        refine zb_bi h dX3_makePlan_11 (by decide) (by decide) ?_
        refine zb_cge (tgt := 36) h (by omega) (by omega) dX3_makePlan_13 (by decide) (fun c_13 => ?_) (fun c_13 => ?_)
        · exact absurd c_13 (by omega)
        · refine lv_aload_n hx hb dX3_makePlan_16 rfl (lv_at hl 0 rfl) ?_
          refine zg_3_3 h hH hk zf_X3_25 dX3_makePlan_17 ?_
          refine lv_iload_n hx hb dX3_makePlan_20 rfl (lv_at hl 1 rfl) ?_
          refine zb_ic h dX3_makePlan_21 ?_
          refine zst_ar_bu h hH hk (by omega) dX3_makePlan_22 (fun H locs hH => ?_)
          rw [zs_P0] at hH
          refine lv_aload_n hx hb dX3_makePlan_23 rfl (lv_at hl 0 rfl) ?_
          refine zg_3_4 h hH hk zf_X3_28 dX3_makePlan_24 ?_
          refine lv_iload_n hx hb dX3_makePlan_27 rfl (lv_at hl 1 rfl) ?_
          refine zb_ic h dX3_makePlan_28 ?_
          refine zst_ar_ho h hH hk (by omega) dX3_makePlan_29 (fun H locs hH => ?_)
          rw [zs_P0] at hH
          refine lv_iinc (v := zI (o + 1)) (lv' := [(1, .int (zI (o + 1))), (0, .ref (za G k 0))]) hx hb dX3_makePlan_30 hl (k := 1) rfl (zI_add _ _) (by decide) rfl (fun ls hl => ?_)
          refine lv_goto (tgt := 2) hx hb dX3_makePlan_33 (by decide) ?_
          exact ih2 (o + 1) (zup (zup σ (5 + 5 * o + 2) 0) (5 + 5 * o + 3) 0) _ _ _ (by omega) (by omega) (by rw [tClr_s _ ho.1, hσ]) hH (lv_sub hl [1, 0] rfl)
  refine zb_ic h dX3_makePlan_0 ?_
  refine lv_istore_n (lv' := [(1, .int (zI 0)), (0, .ref (za G k 0))]) hx hb dX3_makePlan_1 rfl hl (by decide) rfl (fun ls hl => ?_)
  exact C2 ((S k 0 4 - 0 : Int).toNat + 1) 0 (S k 0) _ _ _ (by omega) (by omega) rfl hH (lv_sub hl [1, 0] rfl)
