theorem dX2_leastTime_0 : decode cX2_leastTime 0 = .ok (.iload_n 1, 1) := by decide +kernel
theorem dX2_leastTime_1 : decode cX2_leastTime 1 = .ok (.iconst 3, 1) := by decide +kernel
theorem dX2_leastTime_2 : decode cX2_leastTime 2 = .ok (.irem, 1) := by decide +kernel
theorem dX2_leastTime_3 : decode cX2_leastTime 3 = .ok (.istore_n 3, 1) := by decide +kernel
theorem dX2_leastTime_4 : decode cX2_leastTime 4 = .ok (.iload_n 2, 1) := by decide +kernel
theorem dX2_leastTime_5 : decode cX2_leastTime 5 = .ok (.iconst 1, 1) := by decide +kernel
theorem dX2_leastTime_6 : decode cX2_leastTime 6 = .ok (.if_icmp .ge 5, 3) := by decide +kernel
theorem dX2_leastTime_9 : decode cX2_leastTime 9 = .ok (.iconst 1, 1) := by decide +kernel
theorem dX2_leastTime_10 : decode cX2_leastTime 10 = .ok (.ireturn, 1) := by decide +kernel
theorem dX2_leastTime_11 : decode cX2_leastTime 11 = .ok (.iload_n 2, 1) := by decide +kernel
theorem dX2_leastTime_12 : decode cX2_leastTime 12 = .ok (.aload_n 0, 1) := by decide +kernel
theorem dX2_leastTime_13 : decode cX2_leastTime 13 = .ok (.getfield 9, 3) := by decide +kernel
theorem dX2_leastTime_16 : decode cX2_leastTime 16 = .ok (.arraylength, 1) := by decide +kernel
theorem dX2_leastTime_17 : decode cX2_leastTime 17 = .ok (.if_icmp .gt 24, 3) := by decide +kernel
theorem dX2_leastTime_20 : decode cX2_leastTime 20 = .ok (.iload_n 3, 1) := by decide +kernel
theorem dX2_leastTime_21 : decode cX2_leastTime 21 = .ok (.ifCond .lt 20, 3) := by decide +kernel
theorem dX2_leastTime_24 : decode cX2_leastTime 24 = .ok (.iload_n 3, 1) := by decide +kernel
theorem dX2_leastTime_25 : decode cX2_leastTime 25 = .ok (.getstatic 39, 3) := by decide +kernel
theorem dX2_leastTime_28 : decode cX2_leastTime 28 = .ok (.arraylength, 1) := by decide +kernel
theorem dX2_leastTime_29 : decode cX2_leastTime 29 = .ok (.if_icmp .ge 12, 3) := by decide +kernel
theorem dX2_leastTime_32 : decode cX2_leastTime 32 = .ok (.getstatic 39, 3) := by decide +kernel
theorem dX2_leastTime_35 : decode cX2_leastTime 35 = .ok (.iload_n 3, 1) := by decide +kernel
theorem dX2_leastTime_36 : decode cX2_leastTime 36 = .ok (.iaload, 1) := by decide +kernel
theorem dX2_leastTime_37 : decode cX2_leastTime 37 = .ok (.iconst 1, 1) := by decide +kernel
theorem dX2_leastTime_38 : decode cX2_leastTime 38 = .ok (.if_icmp .ge 7, 3) := by decide +kernel
theorem dX2_leastTime_41 : decode cX2_leastTime 41 = .ok (.sipush 10000, 3) := by decide +kernel
theorem dX2_leastTime_44 : decode cX2_leastTime 44 = .ok (.ireturn, 1) := by decide +kernel
theorem dX2_leastTime_45 : decode cX2_leastTime 45 = .ok (.aload_n 0, 1) := by decide +kernel
theorem dX2_leastTime_46 : decode cX2_leastTime 46 = .ok (.getfield 9, 3) := by decide +kernel
theorem dX2_leastTime_49 : decode cX2_leastTime 49 = .ok (.iload_n 2, 1) := by decide +kernel
theorem dX2_leastTime_50 : decode cX2_leastTime 50 = .ok (.iconst 1, 1) := by decide +kernel
theorem dX2_leastTime_51 : decode cX2_leastTime 51 = .ok (.isub, 1) := by decide +kernel
theorem dX2_leastTime_52 : decode cX2_leastTime 52 = .ok (.iaload, 1) := by decide +kernel
theorem dX2_leastTime_53 : decode cX2_leastTime 53 = .ok (.i2l, 1) := by decide +kernel
theorem dX2_leastTime_54 : decode cX2_leastTime 54 = .ok (.ldc2_w 29, 3) := by decide +kernel
theorem dX2_leastTime_57 : decode cX2_leastTime 57 = .ok (.lmul, 1) := by decide +kernel
theorem dX2_leastTime_58 : decode cX2_leastTime 58 = .ok (.iload_n 1, 1) := by decide +kernel
theorem dX2_leastTime_59 : decode cX2_leastTime 59 = .ok (.iconst 3, 1) := by decide +kernel
theorem dX2_leastTime_60 : decode cX2_leastTime 60 = .ok (.idiv, 1) := by decide +kernel
theorem dX2_leastTime_61 : decode cX2_leastTime 61 = .ok (.lshl, 1) := by decide +kernel
theorem dX2_leastTime_62 : decode cX2_leastTime 62 = .ok (.lstore 4, 2) := by decide +kernel
theorem dX2_leastTime_64 : decode cX2_leastTime 64 = .ok (.lload 4, 2) := by decide +kernel
theorem dX2_leastTime_66 : decode cX2_leastTime 66 = .ok (.getstatic 39, 3) := by decide +kernel
theorem dX2_leastTime_69 : decode cX2_leastTime 69 = .ok (.iload_n 3, 1) := by decide +kernel
theorem dX2_leastTime_70 : decode cX2_leastTime 70 = .ok (.iaload, 1) := by decide +kernel
theorem dX2_leastTime_71 : decode cX2_leastTime 71 = .ok (.i2l, 1) := by decide +kernel
theorem dX2_leastTime_72 : decode cX2_leastTime 72 = .ok (.ladd, 1) := by decide +kernel
theorem dX2_leastTime_73 : decode cX2_leastTime 73 = .ok (.lconst 1, 1) := by decide +kernel
theorem dX2_leastTime_74 : decode cX2_leastTime 74 = .ok (.lsub, 1) := by decide +kernel
theorem dX2_leastTime_75 : decode cX2_leastTime 75 = .ok (.getstatic 39, 3) := by decide +kernel
theorem dX2_leastTime_78 : decode cX2_leastTime 78 = .ok (.iload_n 3, 1) := by decide +kernel
theorem dX2_leastTime_79 : decode cX2_leastTime 79 = .ok (.iaload, 1) := by decide +kernel
theorem dX2_leastTime_80 : decode cX2_leastTime 80 = .ok (.i2l, 1) := by decide +kernel
theorem dX2_leastTime_81 : decode cX2_leastTime 81 = .ok (.ldiv, 1) := by decide +kernel
theorem dX2_leastTime_82 : decode cX2_leastTime 82 = .ok (.ldc2_w 42, 3) := by decide +kernel
theorem dX2_leastTime_85 : decode cX2_leastTime 85 = .ok (.invokestatic 44, 3) := by decide +kernel
theorem dX2_leastTime_88 : decode cX2_leastTime 88 = .ok (.l2i, 1) := by decide +kernel
theorem dX2_leastTime_89 : decode cX2_leastTime 89 = .ok (.ireturn, 1) := by decide +kernel
def q_X2_leastTime (k : Nat) (S : zM) (d n : Int) : Int32 → zM → Prop := fun r S1 => r = zI (tLe (S k 0) d n) ∧ S = S1
def r_X2_leastTime : Room := { frames := 1, cells := 0, slots := 0, locals := 23 }
set_option maxHeartbeats 4000000 in
set_option maxRecDepth 100000 in
theorem c_X2_leastTime (l : Launch) (G : zG) (hG : zok G) (k : Nat) (hk : k < 8) (S : zM) (d n : Int) (hd : 0 ≤ d ∧ d ≤ 24) (hn : 0 ≤ n ∧ n ≤ 11) (hms : zMs S k) (hw : zW (S k 0))  : Met l yX2_leastTime (Cond.code yX2_leastTime cX2_leastTime 6 (some FieldType.int) :: zTbl) r_X2_leastTime (va_Pc [.ref (za G k 1), .int (zI d), .int (zI n)] (zB G S)) (va_Qi (q_X2_leastTime k S d n) (zB G) (zA G)) 0 0 (zA G) := by
  refine zMet [(0, .ref (za G k 1)), (1, .int (zI d)), (2, .int (zI n))] hG (by decide) (Nat.le_of_ble_eq_true rfl) rfl (fun p e s m args below meth c ls h hx hb hr hH hl => ?_)
  have b3 := zThr_in (d % 3)
  refine lv_iload_n hx hb dX2_leastTime_0 rfl (lv_at hl 1 rfl) ?_
  refine zb_ic h dX2_leastTime_1 ?_
  refine zb_irem h (by omega) (by omega) dX2_leastTime_2 ?_
  refine lv_istore_n (lv' := [(3, .int (zI (d % 3))), (0, .ref (za G k 1)), (1, .int (zI d)), (2, .int (zI n))]) hx hb dX2_leastTime_3 rfl hl (by decide) rfl (fun ls hl => ?_)
  refine lv_iload_n hx hb dX2_leastTime_4 rfl (lv_at hl 3 rfl) ?_
  refine zb_ic h dX2_leastTime_5 ?_
  refine zb_cge (tgt := 11) h (by omega) (by omega) dX2_leastTime_6 (by decide) (fun c_6 => ?_) (fun c_6 => ?_)
  · refine lv_iload_n hx hb dX2_leastTime_11 rfl (lv_at hl 3 rfl) ?_
    refine lv_aload_n hx hb dX2_leastTime_12 rfl (lv_at hl 1 rfl) ?_
    refine zg_2_0 h hH hk zf_X2_9 dX2_leastTime_13 ?_
    refine zln_ar_mk h hH hk dX2_leastTime_16 ?_
    refine zb_cgt (tgt := 41) h (by omega) (by omega) dX2_leastTime_17 (by decide) (fun c_17 => ?_) (fun c_17 => ?_)
    · refine zb_si h dX2_leastTime_41 (by decide) (by decide) ?_
      refine zri h hr hH ?_ dX2_leastTime_44
      exact ⟨by unfold tLe; rw [if_neg (by omega), if_pos (by omega)], rfl⟩
    · refine lv_iload_n hx hb dX2_leastTime_20 rfl (lv_at hl 0 rfl) ?_
      refine zb_ilt (tgt := 41) h (by omega) dX2_leastTime_21 (by decide) (fun c_21 => ?_) (fun c_21 => ?_)
      · exact absurd c_21 (by omega)
      · refine lv_iload_n hx hb dX2_leastTime_24 rfl (lv_at hl 0 rfl) ?_
        refine zgs2 h hH zf_X2_39 dX2_leastTime_25 ?_
        refine ztl2 h hH dX2_leastTime_28 ?_
        refine zb_cge (tgt := 41) h (by omega) (by omega) dX2_leastTime_29 (by decide) (fun c_29 => ?_) (fun c_29 => ?_)
        · exact absurd c_29 (by omega)
        · refine zgs2 h hH zf_X2_39 dX2_leastTime_32 ?_
          refine lv_iload_n hx hb dX2_leastTime_35 rfl (lv_at hl 0 rfl) ?_
          refine ztd2 h hH (by omega) (by omega) dX2_leastTime_36 ?_
          refine zb_ic h dX2_leastTime_37 ?_
          refine zb_cge (tgt := 45) h (by omega) (by omega) dX2_leastTime_38 (by decide) (fun c_38 => ?_) (fun c_38 => ?_)
          · refine lv_aload_n hx hb dX2_leastTime_45 rfl (lv_at hl 1 rfl) ?_
            refine zg_2_0 h hH hk zf_X2_9 dX2_leastTime_46 ?_
            refine lv_iload_n hx hb dX2_leastTime_49 rfl (lv_at hl 3 rfl) ?_
            refine zb_ic h dX2_leastTime_50 ?_
            refine zb_isub h dX2_leastTime_51 ?_
            refine zld_ar_mk h hH hk (by omega) dX2_leastTime_52 ?_
            have e_52 := hms (n - 1) (by omega) (by omega)
            have m_52 := zMk_in (g := S k 0 1) (zW_2 hw) (show 0 ≤ n - 1 ∧ n - 1 < 10 by omega)
            have b_52 := tLe_v (m := S k 2 (n - 1)) (d := d) (by omega) hd
            refine zb_i2l h (by omega) dX2_leastTime_53 ?_
            refine zb_ldc2 (n := 100) h zk_X2_29 (by decide +kernel) dX2_leastTime_54 ?_
            refine zb_lmul h dX2_leastTime_57 ?_
            refine lv_iload_n hx hb dX2_leastTime_58 rfl (lv_at hl 2 rfl) ?_
            refine zb_ic h dX2_leastTime_59 ?_
            refine zb_idiv h (by omega) (by omega) dX2_leastTime_60 ?_
            refine zb_lshl h (by omega) (by omega) dX2_leastTime_61 ?_
            refine lv_lstore (lv' := [(4, .long (zL (((S k 2 (n - 1)) * 100) * 2 ^ (d / 3).toNat))), (3, .int (zI (d % 3))), (0, .ref (za G k 1)), (1, .int (zI d)), (2, .int (zI n))]) hx hb dX2_leastTime_62 hl (by decide) rfl (fun ls hl => ?_)
            refine lv_lload hx hb dX2_leastTime_64 (lv_at hl 0 rfl) ?_
            refine zgs2 h hH zf_X2_39 dX2_leastTime_66 ?_
            refine lv_iload_n hx hb dX2_leastTime_69 rfl (lv_at hl 1 rfl) ?_
            refine ztd2 h hH (by omega) (by omega) dX2_leastTime_70 ?_
            refine zb_i2l h (by omega) dX2_leastTime_71 ?_
            refine zb_ladd h dX2_leastTime_72 ?_
            refine zb_lc (v := 1) h dX2_leastTime_73 (by decide +kernel) ?_
            refine zb_lsub h dX2_leastTime_74 ?_
            refine zgs2 h hH zf_X2_39 dX2_leastTime_75 ?_
            refine lv_iload_n hx hb dX2_leastTime_78 rfl (lv_at hl 1 rfl) ?_
            refine ztd2 h hH (by omega) (by omega) dX2_leastTime_79 ?_
            refine zb_i2l h (by omega) dX2_leastTime_80 ?_
            refine zb_ldiv h (by omega) (by omega) dX2_leastTime_81 ?_
            have b_81 := zdiv_le (a := S k 2 (n - 1) * 100 * 2 ^ (d / 3).toNat + zThr (d % 3) - 1) (b := zThr (d % 3)) (by omega) (by omega)
            refine zb_ldc2 (n := 10000) h zk_X2_42 (by decide +kernel) dX2_leastTime_82 ?_
            refine zminL h hl.1 zm_X2_44 (Nat.le_of_ble_eq_true rfl) (Nat.le_of_ble_eq_true rfl) ⟨Nat.zero_le _, Nat.zero_le _⟩ (by omega) (by omega) (Nat.le_of_ble_eq_true rfl) dX2_leastTime_85 ?_
            refine zb_l2i h dX2_leastTime_88 ?_
            refine zri h hr hH ?_ dX2_leastTime_89
            exact ⟨by unfold tLe; rw [if_neg (by omega), if_neg (by omega), ← e_52], rfl⟩
          · exact absurd c_38 (by omega)
  · refine zb_ic h dX2_leastTime_9 ?_
    refine zri h hr hH ?_ dX2_leastTime_10
    exact ⟨by unfold tLe; rw [if_pos (by omega)], rfl⟩
theorem dX2_markOf_0 : decode cX2_markOf 0 = .ok (.iload_n 1, 1) := by decide +kernel
theorem dX2_markOf_1 : decode cX2_markOf 1 = .ok (.iconst 1, 1) := by decide +kernel
theorem dX2_markOf_2 : decode cX2_markOf 2 = .ok (.if_icmp .lt 23, 3) := by decide +kernel
theorem dX2_markOf_5 : decode cX2_markOf 5 = .ok (.iload_n 1, 1) := by decide +kernel
theorem dX2_markOf_6 : decode cX2_markOf 6 = .ok (.aload_n 0, 1) := by decide +kernel
theorem dX2_markOf_7 : decode cX2_markOf 7 = .ok (.getfield 9, 3) := by decide +kernel
theorem dX2_markOf_10 : decode cX2_markOf 10 = .ok (.arraylength, 1) := by decide +kernel
theorem dX2_markOf_11 : decode cX2_markOf 11 = .ok (.if_icmp .gt 14, 3) := by decide +kernel
theorem dX2_markOf_14 : decode cX2_markOf 14 = .ok (.aload_n 0, 1) := by decide +kernel
theorem dX2_markOf_15 : decode cX2_markOf 15 = .ok (.getfield 9, 3) := by decide +kernel
theorem dX2_markOf_18 : decode cX2_markOf 18 = .ok (.iload_n 1, 1) := by decide +kernel
theorem dX2_markOf_19 : decode cX2_markOf 19 = .ok (.iconst 1, 1) := by decide +kernel
theorem dX2_markOf_20 : decode cX2_markOf 20 = .ok (.isub, 1) := by decide +kernel
theorem dX2_markOf_21 : decode cX2_markOf 21 = .ok (.iaload, 1) := by decide +kernel
theorem dX2_markOf_22 : decode cX2_markOf 22 = .ok (.goto 4, 3) := by decide +kernel
theorem dX2_markOf_26 : decode cX2_markOf 26 = .ok (.ireturn, 1) := by decide +kernel
def q_X2_markOf (k : Nat) (S : zM) (n : Int) : Int32 → zM → Prop := fun r S1 => r = zI (zMk (S k 0 1) (S k 0 2) (n - 1)) ∧ S = S1
def r_X2_markOf : Room := { frames := 0, cells := 0, slots := 0, locals := 0 }
set_option maxHeartbeats 4000000 in
set_option maxRecDepth 100000 in
theorem c_X2_markOf (l : Launch) (G : zG) (hG : zok G) (k : Nat) (hk : k < 8) (S : zM) (n : Int) (hn : 1 ≤ n ∧ n ≤ 10) (hms : zMs S k) : Met l yX2_markOf (Cond.code yX2_markOf cX2_markOf 2 (some FieldType.int) :: zTbl) r_X2_markOf (va_Pc [.ref (za G k 1), .int (zI n)] (zB G S)) (va_Qi (q_X2_markOf k S n) (zB G) (zA G)) 0 0 (zA G) := by
  refine zMet [(0, .ref (za G k 1)), (1, .int (zI n))] hG (by decide) (Nat.le_of_ble_eq_true rfl) rfl (fun p e s m args below meth c ls h hx hb hr hH hl => ?_)
  refine lv_iload_n hx hb dX2_markOf_0 rfl (lv_at hl 1 rfl) ?_
  refine zb_ic h dX2_markOf_1 ?_
  refine zb_clt (tgt := 25) h (by omega) (by omega) dX2_markOf_2 (by decide) (fun c_2 => ?_) (fun c_2 => ?_)
  · exact absurd c_2 (by omega)
  · refine lv_iload_n hx hb dX2_markOf_5 rfl (lv_at hl 1 rfl) ?_
    refine lv_aload_n hx hb dX2_markOf_6 rfl (lv_at hl 0 rfl) ?_
    refine zg_2_0 h hH hk zf_X2_9 dX2_markOf_7 ?_
    refine zln_ar_mk h hH hk dX2_markOf_10 ?_
    refine zb_cgt (tgt := 25) h (by omega) (by omega) dX2_markOf_11 (by decide) (fun c_11 => ?_) (fun c_11 => ?_)
    · exact absurd c_11 (by omega)
    · refine lv_aload_n hx hb dX2_markOf_14 rfl (lv_at hl 0 rfl) ?_
      refine zg_2_0 h hH hk zf_X2_9 dX2_markOf_15 ?_
      refine lv_iload_n hx hb dX2_markOf_18 rfl (lv_at hl 1 rfl) ?_
      refine zb_ic h dX2_markOf_19 ?_
      refine zb_isub h dX2_markOf_20 ?_
      refine zld_ar_mk h hH hk (by omega) dX2_markOf_21 ?_
      refine lv_goto (tgt := 26) hx hb dX2_markOf_22 (by decide) ?_
      refine zri h hr hH ?_ dX2_markOf_26
      exact ⟨by rw [hms (n - 1) (by omega) (by omega)], rfl⟩
theorem dX3_leastNeed_0 : decode cX3_leastNeed 0 = .ok (.iload_n 1, 1) := by decide +kernel
theorem dX3_leastNeed_1 : decode cX3_leastNeed 1 = .ok (.ifCond .lt 9, 3) := by decide +kernel
theorem dX3_leastNeed_4 : decode cX3_leastNeed 4 = .ok (.iload_n 1, 1) := by decide +kernel
theorem dX3_leastNeed_5 : decode cX3_leastNeed 5 = .ok (.bipush 8, 2) := by decide +kernel
theorem dX3_leastNeed_7 : decode cX3_leastNeed 7 = .ok (.if_icmp .lt 5, 3) := by decide +kernel
theorem dX3_leastNeed_12 : decode cX3_leastNeed 12 = .ok (.aload_n 0, 1) := by decide +kernel
theorem dX3_leastNeed_13 : decode cX3_leastNeed 13 = .ok (.getfield 12, 3) := by decide +kernel
theorem dX3_leastNeed_16 : decode cX3_leastNeed 16 = .ok (.aload_n 0, 1) := by decide +kernel
theorem dX3_leastNeed_17 : decode cX3_leastNeed 17 = .ok (.getfield 18, 3) := by decide +kernel
theorem dX3_leastNeed_20 : decode cX3_leastNeed 20 = .ok (.iload_n 1, 1) := by decide +kernel
theorem dX3_leastNeed_21 : decode cX3_leastNeed 21 = .ok (.iaload, 1) := by decide +kernel
theorem dX3_leastNeed_22 : decode cX3_leastNeed 22 = .ok (.aload_n 0, 1) := by decide +kernel
theorem dX3_leastNeed_23 : decode cX3_leastNeed 23 = .ok (.getfield 22, 3) := by decide +kernel
theorem dX3_leastNeed_26 : decode cX3_leastNeed 26 = .ok (.iload_n 1, 1) := by decide +kernel
theorem dX3_leastNeed_27 : decode cX3_leastNeed 27 = .ok (.iaload, 1) := by decide +kernel
theorem dX3_leastNeed_28 : decode cX3_leastNeed 28 = .ok (.invokevirtual 104, 3) := by decide +kernel
theorem dX3_leastNeed_31 : decode cX3_leastNeed 31 = .ok (.istore_n 2, 1) := by decide +kernel
theorem dX3_leastNeed_32 : decode cX3_leastNeed 32 = .ok (.aload_n 0, 1) := by decide +kernel
theorem dX3_leastNeed_33 : decode cX3_leastNeed 33 = .ok (.getfield 12, 3) := by decide +kernel
theorem dX3_leastNeed_36 : decode cX3_leastNeed 36 = .ok (.aload_n 0, 1) := by decide +kernel
theorem dX3_leastNeed_37 : decode cX3_leastNeed 37 = .ok (.getfield 18, 3) := by decide +kernel
theorem dX3_leastNeed_40 : decode cX3_leastNeed 40 = .ok (.iload_n 1, 1) := by decide +kernel
theorem dX3_leastNeed_41 : decode cX3_leastNeed 41 = .ok (.iaload, 1) := by decide +kernel
theorem dX3_leastNeed_42 : decode cX3_leastNeed 42 = .ok (.aload_n 0, 1) := by decide +kernel
theorem dX3_leastNeed_43 : decode cX3_leastNeed 43 = .ok (.getfield 22, 3) := by decide +kernel
theorem dX3_leastNeed_46 : decode cX3_leastNeed 46 = .ok (.iload_n 1, 1) := by decide +kernel
theorem dX3_leastNeed_47 : decode cX3_leastNeed 47 = .ok (.iaload, 1) := by decide +kernel
theorem dX3_leastNeed_48 : decode cX3_leastNeed 48 = .ok (.iconst 1, 1) := by decide +kernel
theorem dX3_leastNeed_49 : decode cX3_leastNeed 49 = .ok (.iadd, 1) := by decide +kernel
theorem dX3_leastNeed_50 : decode cX3_leastNeed 50 = .ok (.invokevirtual 104, 3) := by decide +kernel
theorem dX3_leastNeed_53 : decode cX3_leastNeed 53 = .ok (.istore_n 3, 1) := by decide +kernel
theorem dX3_leastNeed_54 : decode cX3_leastNeed 54 = .ok (.iload_n 2, 1) := by decide +kernel
theorem dX3_leastNeed_55 : decode cX3_leastNeed 55 = .ok (.iload_n 3, 1) := by decide +kernel
theorem dX3_leastNeed_56 : decode cX3_leastNeed 56 = .ok (.if_icmp .ge 7, 3) := by decide +kernel
theorem dX3_leastNeed_59 : decode cX3_leastNeed 59 = .ok (.iload_n 2, 1) := by decide +kernel
theorem dX3_leastNeed_60 : decode cX3_leastNeed 60 = .ok (.goto 4, 3) := by decide +kernel
theorem dX3_leastNeed_63 : decode cX3_leastNeed 63 = .ok (.iconst (-1), 1) := by decide +kernel
theorem dX3_leastNeed_64 : decode cX3_leastNeed 64 = .ok (.ireturn, 1) := by decide +kernel
def q_X3_leastNeed (k : Nat) (S : zM) (z : Int) : Int32 → zM → Prop := fun r S1 => r = zI (tLn (S k 0) z) ∧ S = S1
def r_X3_leastNeed : Room := { frames := 2, cells := 0, slots := 0, locals := 48 }
set_option maxHeartbeats 4000000 in
set_option maxRecDepth 100000 in
theorem c_X3_leastNeed (l : Launch) (G : zG) (hG : zok G) (k : Nat) (hk : k < 8) (S : zM) (z : Int) (hz : 0 ≤ z ∧ z < 8) (hms : zMs S k) (hw : zW (S k 0))  : Met l yX3_leastNeed (Cond.code yX3_leastNeed cX3_leastNeed 4 (some FieldType.int) :: zTbl) r_X3_leastNeed (va_Pc [.ref (za G k 0), .int (zI z)] (zB G S)) (va_Qi (q_X3_leastNeed k S z) (zB G) (zA G)) 0 0 (zA G) := by
  refine zMet [(0, .ref (za G k 0)), (1, .int (zI z))] hG (by decide) (Nat.le_of_ble_eq_true rfl) rfl (fun p e s m args below meth c ls h hx hb hr hH hl => ?_)
  have b_28 := tLe_in hw (S k 0 (5 + 5 * z)) (S k 0 (5 + 5 * z + 1))
  have b_50 := tLe_in hw (S k 0 (5 + 5 * z)) (S k 0 (5 + 5 * z + 1) + 1)
  refine lv_iload_n hx hb dX3_leastNeed_0 rfl (lv_at hl 1 rfl) ?_
  refine zb_ilt (tgt := 10) h (by omega) dX3_leastNeed_1 (by decide) (fun c_1 => ?_) (fun c_1 => ?_)
  · exact absurd c_1 (by omega)
  · refine lv_iload_n hx hb dX3_leastNeed_4 rfl (lv_at hl 1 rfl) ?_
    refine zb_bi h dX3_leastNeed_5 (by decide) (by decide) ?_
    refine zb_clt (tgt := 12) h (by omega) (by omega) dX3_leastNeed_7 (by decide) (fun c_7 => ?_) (fun c_7 => ?_)
    · refine lv_aload_n hx hb dX3_leastNeed_12 rfl (lv_at hl 0 rfl) ?_
      refine zg_3_0 h hH hk zf_X3_12 dX3_leastNeed_13 ?_
      refine lv_aload_n hx hb dX3_leastNeed_16 rfl (lv_at hl 0 rfl) ?_
      refine zg_3_1 h hH hk zf_X3_18 dX3_leastNeed_17 ?_
      refine lv_iload_n hx hb dX3_leastNeed_20 rfl (lv_at hl 1 rfl) ?_
      refine zld_ar_de h hH hk (by omega) dX3_leastNeed_21 ?_
      have f_21 := zW_de hw (show 0 ≤ z ∧ z < 8 by omega)
      refine lv_aload_n hx hb dX3_leastNeed_22 rfl (lv_at hl 0 rfl) ?_
      refine zg_3_2 h hH hk zf_X3_22 dX3_leastNeed_23 ?_
      refine lv_iload_n hx hb dX3_leastNeed_26 rfl (lv_at hl 1 rfl) ?_
      refine zld_ar_wa h hH hk (by omega) dX3_leastNeed_27 ?_
      have f_27 := zW_wa hw (show 0 ≤ z ∧ z < 8 by omega)
      refine zcVi h hH (zr_2 h hH hk) (As := [.int (zI (S k 0 (5 + 5 * z))), .int (zI (S k 0 (5 + 5 * z + 1)))]) (rest := []) (c_X2_leastTime l G hG k hk S (S k 0 (5 + 5 * z)) (S k 0 (5 + 5 * z + 1)) (by omega) (by omega) hms hw) zce_X2_leastTime zcv_X2_leastTime zm_X3_104 hl.1 rfl rfl ⟨rfl, rfl⟩ ⟨Nat.le_of_ble_eq_true rfl, Nat.le_of_ble_eq_true rfl⟩ (Nat.le_of_ble_eq_true rfl) ⟨Nat.zero_le _, Nat.zero_le _⟩ dX3_leastNeed_28 (fun r_28 S_28 H locs hq hH => ?_)
      obtain ⟨rfl, rfl⟩ := hq
      refine lv_istore_n (lv' := [(2, .int (zI (tLe (S k 0) (S k 0 (5 + 5 * z)) (S k 0 (5 + 5 * z + 1))))), (0, .ref (za G k 0)), (1, .int (zI z))]) hx hb dX3_leastNeed_31 rfl hl (by decide) rfl (fun ls hl => ?_)
      refine lv_aload_n hx hb dX3_leastNeed_32 rfl (lv_at hl 1 rfl) ?_
      refine zg_3_0 h hH hk zf_X3_12 dX3_leastNeed_33 ?_
      refine lv_aload_n hx hb dX3_leastNeed_36 rfl (lv_at hl 1 rfl) ?_
      refine zg_3_1 h hH hk zf_X3_18 dX3_leastNeed_37 ?_
      refine lv_iload_n hx hb dX3_leastNeed_40 rfl (lv_at hl 2 rfl) ?_
      refine zld_ar_de h hH hk (by omega) dX3_leastNeed_41 ?_
      have f_41 := zW_de hw (show 0 ≤ z ∧ z < 8 by omega)
      refine lv_aload_n hx hb dX3_leastNeed_42 rfl (lv_at hl 1 rfl) ?_
      refine zg_3_2 h hH hk zf_X3_22 dX3_leastNeed_43 ?_
      refine lv_iload_n hx hb dX3_leastNeed_46 rfl (lv_at hl 2 rfl) ?_
      refine zld_ar_wa h hH hk (by omega) dX3_leastNeed_47 ?_
      have f_47 := zW_wa hw (show 0 ≤ z ∧ z < 8 by omega)
      refine zb_ic h dX3_leastNeed_48 ?_
      refine zb_iadd h dX3_leastNeed_49 ?_
      refine zcVi h hH (zr_2 h hH hk) (As := [.int (zI (S k 0 (5 + 5 * z))), .int (zI ((S k 0 (5 + 5 * z + 1)) + 1))]) (rest := []) (c_X2_leastTime l G hG k hk S (S k 0 (5 + 5 * z)) ((S k 0 (5 + 5 * z + 1)) + 1) (by omega) (by omega) hms hw) zce_X2_leastTime zcv_X2_leastTime zm_X3_104 hl.1 rfl rfl ⟨rfl, rfl⟩ ⟨Nat.le_of_ble_eq_true rfl, Nat.le_of_ble_eq_true rfl⟩ (Nat.le_of_ble_eq_true rfl) ⟨Nat.zero_le _, Nat.zero_le _⟩ dX3_leastNeed_50 (fun r_50 S_50 H locs hq hH => ?_)
      obtain ⟨rfl, rfl⟩ := hq
      refine lv_istore_n (lv' := [(3, .int (zI (tLe (S k 0) (S k 0 (5 + 5 * z)) ((S k 0 (5 + 5 * z + 1)) + 1)))), (2, .int (zI (tLe (S k 0) (S k 0 (5 + 5 * z)) (S k 0 (5 + 5 * z + 1))))), (0, .ref (za G k 0)), (1, .int (zI z))]) hx hb dX3_leastNeed_53 rfl hl (by decide) rfl (fun ls hl => ?_)
      refine lv_iload_n hx hb dX3_leastNeed_54 rfl (lv_at hl 1 rfl) ?_
      refine lv_iload_n hx hb dX3_leastNeed_55 rfl (lv_at hl 0 rfl) ?_
      refine zb_cge (tgt := 63) h (by omega) (by omega) dX3_leastNeed_56 (by decide) (fun c_56 => ?_) (fun c_56 => ?_)
      · refine zb_ic h dX3_leastNeed_63 ?_
        refine zri h hr hH ?_ dX3_leastNeed_64
        exact ⟨by unfold tLn; split <;> first | rfl | (exfalso; omega), rfl⟩
      · refine lv_iload_n hx hb dX3_leastNeed_59 rfl (lv_at hl 1 rfl) ?_
        refine lv_goto (tgt := 64) hx hb dX3_leastNeed_60 (by decide) ?_
        refine zri h hr hH ?_ dX3_leastNeed_64
        exact ⟨by unfold tLn; split <;> first | rfl | (exfalso; omega), rfl⟩
    · exact absurd c_7 (by omega)
theorem dX3_greatestNeed_0 : decode cX3_greatestNeed 0 = .ok (.iload_n 1, 1) := by decide +kernel
theorem dX3_greatestNeed_1 : decode cX3_greatestNeed 1 = .ok (.ifCond .lt 9, 3) := by decide +kernel
theorem dX3_greatestNeed_4 : decode cX3_greatestNeed 4 = .ok (.iload_n 1, 1) := by decide +kernel
theorem dX3_greatestNeed_5 : decode cX3_greatestNeed 5 = .ok (.bipush 8, 2) := by decide +kernel
theorem dX3_greatestNeed_7 : decode cX3_greatestNeed 7 = .ok (.if_icmp .lt 5, 3) := by decide +kernel
theorem dX3_greatestNeed_12 : decode cX3_greatestNeed 12 = .ok (.aload_n 0, 1) := by decide +kernel
theorem dX3_greatestNeed_13 : decode cX3_greatestNeed 13 = .ok (.getfield 12, 3) := by decide +kernel
theorem dX3_greatestNeed_16 : decode cX3_greatestNeed 16 = .ok (.aload_n 0, 1) := by decide +kernel
theorem dX3_greatestNeed_17 : decode cX3_greatestNeed 17 = .ok (.getfield 18, 3) := by decide +kernel
theorem dX3_greatestNeed_20 : decode cX3_greatestNeed 20 = .ok (.iload_n 1, 1) := by decide +kernel
theorem dX3_greatestNeed_21 : decode cX3_greatestNeed 21 = .ok (.iaload, 1) := by decide +kernel
theorem dX3_greatestNeed_22 : decode cX3_greatestNeed 22 = .ok (.aload_n 0, 1) := by decide +kernel
theorem dX3_greatestNeed_23 : decode cX3_greatestNeed 23 = .ok (.getfield 22, 3) := by decide +kernel
theorem dX3_greatestNeed_26 : decode cX3_greatestNeed 26 = .ok (.iload_n 1, 1) := by decide +kernel
theorem dX3_greatestNeed_27 : decode cX3_greatestNeed 27 = .ok (.iaload, 1) := by decide +kernel
theorem dX3_greatestNeed_28 : decode cX3_greatestNeed 28 = .ok (.invokevirtual 104, 3) := by decide +kernel
theorem dX3_greatestNeed_31 : decode cX3_greatestNeed 31 = .ok (.istore_n 2, 1) := by decide +kernel
theorem dX3_greatestNeed_32 : decode cX3_greatestNeed 32 = .ok (.aload_n 0, 1) := by decide +kernel
theorem dX3_greatestNeed_33 : decode cX3_greatestNeed 33 = .ok (.getfield 12, 3) := by decide +kernel
theorem dX3_greatestNeed_36 : decode cX3_greatestNeed 36 = .ok (.aload_n 0, 1) := by decide +kernel
theorem dX3_greatestNeed_37 : decode cX3_greatestNeed 37 = .ok (.getfield 18, 3) := by decide +kernel
theorem dX3_greatestNeed_40 : decode cX3_greatestNeed 40 = .ok (.iload_n 1, 1) := by decide +kernel
theorem dX3_greatestNeed_41 : decode cX3_greatestNeed 41 = .ok (.iaload, 1) := by decide +kernel
theorem dX3_greatestNeed_42 : decode cX3_greatestNeed 42 = .ok (.aload_n 0, 1) := by decide +kernel
theorem dX3_greatestNeed_43 : decode cX3_greatestNeed 43 = .ok (.getfield 22, 3) := by decide +kernel
theorem dX3_greatestNeed_46 : decode cX3_greatestNeed 46 = .ok (.iload_n 1, 1) := by decide +kernel
theorem dX3_greatestNeed_47 : decode cX3_greatestNeed 47 = .ok (.iaload, 1) := by decide +kernel
theorem dX3_greatestNeed_48 : decode cX3_greatestNeed 48 = .ok (.iconst 1, 1) := by decide +kernel
theorem dX3_greatestNeed_49 : decode cX3_greatestNeed 49 = .ok (.iadd, 1) := by decide +kernel
theorem dX3_greatestNeed_50 : decode cX3_greatestNeed 50 = .ok (.invokevirtual 104, 3) := by decide +kernel
theorem dX3_greatestNeed_53 : decode cX3_greatestNeed 53 = .ok (.istore_n 3, 1) := by decide +kernel
theorem dX3_greatestNeed_54 : decode cX3_greatestNeed 54 = .ok (.iload_n 2, 1) := by decide +kernel
theorem dX3_greatestNeed_55 : decode cX3_greatestNeed 55 = .ok (.iload_n 3, 1) := by decide +kernel
theorem dX3_greatestNeed_56 : decode cX3_greatestNeed 56 = .ok (.if_icmp .ge 9, 3) := by decide +kernel
theorem dX3_greatestNeed_59 : decode cX3_greatestNeed 59 = .ok (.iload_n 3, 1) := by decide +kernel
theorem dX3_greatestNeed_60 : decode cX3_greatestNeed 60 = .ok (.iconst 1, 1) := by decide +kernel
theorem dX3_greatestNeed_61 : decode cX3_greatestNeed 61 = .ok (.isub, 1) := by decide +kernel
theorem dX3_greatestNeed_62 : decode cX3_greatestNeed 62 = .ok (.goto 4, 3) := by decide +kernel
theorem dX3_greatestNeed_65 : decode cX3_greatestNeed 65 = .ok (.iconst (-1), 1) := by decide +kernel
theorem dX3_greatestNeed_66 : decode cX3_greatestNeed 66 = .ok (.ireturn, 1) := by decide +kernel
def q_X3_greatestNeed (k : Nat) (S : zM) (z : Int) : Int32 → zM → Prop := fun r S1 => r = zI (tGn (S k 0) z) ∧ S = S1
def r_X3_greatestNeed : Room := { frames := 2, cells := 0, slots := 0, locals := 48 }
set_option maxHeartbeats 4000000 in
set_option maxRecDepth 100000 in
theorem c_X3_greatestNeed (l : Launch) (G : zG) (hG : zok G) (k : Nat) (hk : k < 8) (S : zM) (z : Int) (hz : 0 ≤ z ∧ z < 8) (hms : zMs S k) (hw : zW (S k 0))  : Met l yX3_greatestNeed (Cond.code yX3_greatestNeed cX3_greatestNeed 4 (some FieldType.int) :: zTbl) r_X3_greatestNeed (va_Pc [.ref (za G k 0), .int (zI z)] (zB G S)) (va_Qi (q_X3_greatestNeed k S z) (zB G) (zA G)) 0 0 (zA G) := by
  refine zMet [(0, .ref (za G k 0)), (1, .int (zI z))] hG (by decide) (Nat.le_of_ble_eq_true rfl) rfl (fun p e s m args below meth c ls h hx hb hr hH hl => ?_)
  have b_28 := tLe_in hw (S k 0 (5 + 5 * z)) (S k 0 (5 + 5 * z + 1))
  have b_50 := tLe_in hw (S k 0 (5 + 5 * z)) (S k 0 (5 + 5 * z + 1) + 1)
  refine lv_iload_n hx hb dX3_greatestNeed_0 rfl (lv_at hl 1 rfl) ?_
  refine zb_ilt (tgt := 10) h (by omega) dX3_greatestNeed_1 (by decide) (fun c_1 => ?_) (fun c_1 => ?_)
  · exact absurd c_1 (by omega)
  · refine lv_iload_n hx hb dX3_greatestNeed_4 rfl (lv_at hl 1 rfl) ?_
    refine zb_bi h dX3_greatestNeed_5 (by decide) (by decide) ?_
    refine zb_clt (tgt := 12) h (by omega) (by omega) dX3_greatestNeed_7 (by decide) (fun c_7 => ?_) (fun c_7 => ?_)
    · refine lv_aload_n hx hb dX3_greatestNeed_12 rfl (lv_at hl 0 rfl) ?_
      refine zg_3_0 h hH hk zf_X3_12 dX3_greatestNeed_13 ?_
      refine lv_aload_n hx hb dX3_greatestNeed_16 rfl (lv_at hl 0 rfl) ?_
      refine zg_3_1 h hH hk zf_X3_18 dX3_greatestNeed_17 ?_
      refine lv_iload_n hx hb dX3_greatestNeed_20 rfl (lv_at hl 1 rfl) ?_
      refine zld_ar_de h hH hk (by omega) dX3_greatestNeed_21 ?_
      have f_21 := zW_de hw (show 0 ≤ z ∧ z < 8 by omega)
      refine lv_aload_n hx hb dX3_greatestNeed_22 rfl (lv_at hl 0 rfl) ?_
      refine zg_3_2 h hH hk zf_X3_22 dX3_greatestNeed_23 ?_
      refine lv_iload_n hx hb dX3_greatestNeed_26 rfl (lv_at hl 1 rfl) ?_
      refine zld_ar_wa h hH hk (by omega) dX3_greatestNeed_27 ?_
      have f_27 := zW_wa hw (show 0 ≤ z ∧ z < 8 by omega)
      refine zcVi h hH (zr_2 h hH hk) (As := [.int (zI (S k 0 (5 + 5 * z))), .int (zI (S k 0 (5 + 5 * z + 1)))]) (rest := []) (c_X2_leastTime l G hG k hk S (S k 0 (5 + 5 * z)) (S k 0 (5 + 5 * z + 1)) (by omega) (by omega) hms hw) zce_X2_leastTime zcv_X2_leastTime zm_X3_104 hl.1 rfl rfl ⟨rfl, rfl⟩ ⟨Nat.le_of_ble_eq_true rfl, Nat.le_of_ble_eq_true rfl⟩ (Nat.le_of_ble_eq_true rfl) ⟨Nat.zero_le _, Nat.zero_le _⟩ dX3_greatestNeed_28 (fun r_28 S_28 H locs hq hH => ?_)
      obtain ⟨rfl, rfl⟩ := hq
      refine lv_istore_n (lv' := [(2, .int (zI (tLe (S k 0) (S k 0 (5 + 5 * z)) (S k 0 (5 + 5 * z + 1))))), (0, .ref (za G k 0)), (1, .int (zI z))]) hx hb dX3_greatestNeed_31 rfl hl (by decide) rfl (fun ls hl => ?_)
      refine lv_aload_n hx hb dX3_greatestNeed_32 rfl (lv_at hl 1 rfl) ?_
      refine zg_3_0 h hH hk zf_X3_12 dX3_greatestNeed_33 ?_
      refine lv_aload_n hx hb dX3_greatestNeed_36 rfl (lv_at hl 1 rfl) ?_
      refine zg_3_1 h hH hk zf_X3_18 dX3_greatestNeed_37 ?_
      refine lv_iload_n hx hb dX3_greatestNeed_40 rfl (lv_at hl 2 rfl) ?_
      refine zld_ar_de h hH hk (by omega) dX3_greatestNeed_41 ?_
      have f_41 := zW_de hw (show 0 ≤ z ∧ z < 8 by omega)
      refine lv_aload_n hx hb dX3_greatestNeed_42 rfl (lv_at hl 1 rfl) ?_
      refine zg_3_2 h hH hk zf_X3_22 dX3_greatestNeed_43 ?_
      refine lv_iload_n hx hb dX3_greatestNeed_46 rfl (lv_at hl 2 rfl) ?_
      refine zld_ar_wa h hH hk (by omega) dX3_greatestNeed_47 ?_
      have f_47 := zW_wa hw (show 0 ≤ z ∧ z < 8 by omega)
      refine zb_ic h dX3_greatestNeed_48 ?_
      refine zb_iadd h dX3_greatestNeed_49 ?_
      refine zcVi h hH (zr_2 h hH hk) (As := [.int (zI (S k 0 (5 + 5 * z))), .int (zI ((S k 0 (5 + 5 * z + 1)) + 1))]) (rest := []) (c_X2_leastTime l G hG k hk S (S k 0 (5 + 5 * z)) ((S k 0 (5 + 5 * z + 1)) + 1) (by omega) (by omega) hms hw) zce_X2_leastTime zcv_X2_leastTime zm_X3_104 hl.1 rfl rfl ⟨rfl, rfl⟩ ⟨Nat.le_of_ble_eq_true rfl, Nat.le_of_ble_eq_true rfl⟩ (Nat.le_of_ble_eq_true rfl) ⟨Nat.zero_le _, Nat.zero_le _⟩ dX3_greatestNeed_50 (fun r_50 S_50 H locs hq hH => ?_)
      obtain ⟨rfl, rfl⟩ := hq
      refine lv_istore_n (lv' := [(3, .int (zI (tLe (S k 0) (S k 0 (5 + 5 * z)) ((S k 0 (5 + 5 * z + 1)) + 1)))), (2, .int (zI (tLe (S k 0) (S k 0 (5 + 5 * z)) (S k 0 (5 + 5 * z + 1))))), (0, .ref (za G k 0)), (1, .int (zI z))]) hx hb dX3_greatestNeed_53 rfl hl (by decide) rfl (fun ls hl => ?_)
      refine lv_iload_n hx hb dX3_greatestNeed_54 rfl (lv_at hl 1 rfl) ?_
      refine lv_iload_n hx hb dX3_greatestNeed_55 rfl (lv_at hl 0 rfl) ?_
      refine zb_cge (tgt := 65) h (by omega) (by omega) dX3_greatestNeed_56 (by decide) (fun c_56 => ?_) (fun c_56 => ?_)
      · refine zb_ic h dX3_greatestNeed_65 ?_
        refine zri h hr hH ?_ dX3_greatestNeed_66
        exact ⟨by unfold tGn; split <;> first | rfl | (exfalso; omega), rfl⟩
      · refine lv_iload_n hx hb dX3_greatestNeed_59 rfl (lv_at hl 0 rfl) ?_
        refine zb_ic h dX3_greatestNeed_60 ?_
        refine zb_isub h dX3_greatestNeed_61 ?_
        refine lv_goto (tgt := 66) hx hb dX3_greatestNeed_62 (by decide) ?_
        refine zri h hr hH ?_ dX3_greatestNeed_66
        exact ⟨by unfold tGn; split <;> first | rfl | (exfalso; omega), rfl⟩
    · exact absurd c_7 (by omega)
theorem dX3_zonesWithoutNeed_0 : decode cX3_zonesWithoutNeed 0 = .ok (.iconst 0, 1) := by decide +kernel
theorem dX3_zonesWithoutNeed_1 : decode cX3_zonesWithoutNeed 1 = .ok (.istore_n 1, 1) := by decide +kernel
theorem dX3_zonesWithoutNeed_2 : decode cX3_zonesWithoutNeed 2 = .ok (.iconst 0, 1) := by decide +kernel
theorem dX3_zonesWithoutNeed_3 : decode cX3_zonesWithoutNeed 3 = .ok (.istore_n 2, 1) := by decide +kernel
theorem dX3_zonesWithoutNeed_4 : decode cX3_zonesWithoutNeed 4 = .ok (.iload_n 2, 1) := by decide +kernel
theorem dX3_zonesWithoutNeed_5 : decode cX3_zonesWithoutNeed 5 = .ok (.aload_n 0, 1) := by decide +kernel
theorem dX3_zonesWithoutNeed_6 : decode cX3_zonesWithoutNeed 6 = .ok (.getfield 37, 3) := by decide +kernel
theorem dX3_zonesWithoutNeed_9 : decode cX3_zonesWithoutNeed 9 = .ok (.if_icmp .ge 21, 3) := by decide +kernel
theorem dX3_zonesWithoutNeed_12 : decode cX3_zonesWithoutNeed 12 = .ok (.aload_n 0, 1) := by decide +kernel
theorem dX3_zonesWithoutNeed_13 : decode cX3_zonesWithoutNeed 13 = .ok (.iload_n 2, 1) := by decide +kernel
theorem dX3_zonesWithoutNeed_14 : decode cX3_zonesWithoutNeed 14 = .ok (.invokevirtual 72, 3) := by decide +kernel
theorem dX3_zonesWithoutNeed_17 : decode cX3_zonesWithoutNeed 17 = .ok (.iconst (-1), 1) := by decide +kernel
theorem dX3_zonesWithoutNeed_18 : decode cX3_zonesWithoutNeed 18 = .ok (.if_icmp .ne 6, 3) := by decide +kernel
theorem dX3_zonesWithoutNeed_21 : decode cX3_zonesWithoutNeed 21 = .ok (.iinc 1 1, 3) := by decide +kernel
theorem dX3_zonesWithoutNeed_24 : decode cX3_zonesWithoutNeed 24 = .ok (.iinc 2 1, 3) := by decide +kernel
theorem dX3_zonesWithoutNeed_27 : decode cX3_zonesWithoutNeed 27 = .ok (.goto (-23), 3) := by decide +kernel
theorem dX3_zonesWithoutNeed_30 : decode cX3_zonesWithoutNeed 30 = .ok (.iload_n 1, 1) := by decide +kernel
theorem dX3_zonesWithoutNeed_31 : decode cX3_zonesWithoutNeed 31 = .ok (.ireturn, 1) := by decide +kernel
def q_X3_zonesWithoutNeed (k : Nat) (S : zM) : Int32 → zM → Prop := fun r S1 => r = zI (tNo (S k 0)) ∧ S = S1
def r_X3_zonesWithoutNeed : Room := { frames := 3, cells := 0, slots := 0, locals := 71 }
set_option maxHeartbeats 4000000 in
set_option maxRecDepth 100000 in
theorem c_X3_zonesWithoutNeed (l : Launch) (G : zG) (hG : zok G) (k : Nat) (hk : k < 8) (S : zM) (hms : zMs S k) (hw : zW (S k 0))  : Met l yX3_zonesWithoutNeed (Cond.code yX3_zonesWithoutNeed cX3_zonesWithoutNeed 3 (some FieldType.int) :: zTbl) r_X3_zonesWithoutNeed (va_Pc [.ref (za G k 0)] (zB G S)) (va_Qi (q_X3_zonesWithoutNeed k S) (zB G) (zA G)) 0 0 (zA G) := by
  refine zMet [(0, .ref (za G k 0))] hG (by decide) (Nat.le_of_ble_eq_true rfl) rfl (fun p e s m args below meth c ls h hx hb hr hH hl => ?_)
  have C4 : ∀ (fu : Nat) (o n : Int) (H : Heap) (locs : List Loc) (ls : Array Slot), (S k 0 4 - o).toNat < fu → (0 ≤ o ∧ o ≤ S k 0 4) → (n = zsum (fun z => if tLn (S k 0) z = -1 then 1 else 0) o.toNat) → zH G S s H locs → lv_has ls 3 [(0, .ref (za G k 0)), (1, .int (zI n)), (2, .int (zI o))] → W p l e r_X3_zonesWithoutNeed s m args below meth c H locs 0 0 (MQ below (va_Qi (q_X3_zonesWithoutNeed k S) (zB G) (zA G)) args s 0 0 (zA G)) (F0 m 4 ls []) := by
    intro fu
    induction fu with
    | zero => intro o n H locs ls hfu; omega
    | succ fu ih4 =>
      intro o n H locs ls hfu ho hn hH hl
      have f4 := zW_4 hw
      refine lv_iload_n hx hb dX3_zonesWithoutNeed_4 rfl (lv_at hl 2 rfl) ?_
      refine lv_aload_n hx hb dX3_zonesWithoutNeed_5 rfl (lv_at hl 0 rfl) ?_
      refine zg_3_7 h hH hk zf_X3_37 dX3_zonesWithoutNeed_6 ?_
      have f_6 := zW_4 hw
      refine zb_cge (tgt := 30) h (by omega) (by omega) dX3_zonesWithoutNeed_9 (by decide) (fun c_9 => ?_) (fun c_9 => ?_)
      · refine lv_iload_n hx hb dX3_zonesWithoutNeed_30 rfl (lv_at hl 1 rfl) ?_
        refine zri h hr hH ?_ dX3_zonesWithoutNeed_31
        have eo : o = S k 0 4 := by omega
        subst eo
        exact ⟨by rw [hn]; rfl, rfl⟩
      · refine lv_aload_n hx hb dX3_zonesWithoutNeed_12 rfl (lv_at hl 0 rfl) ?_
        refine lv_iload_n hx hb dX3_zonesWithoutNeed_13 rfl (lv_at hl 2 rfl) ?_
        refine zcVi h hH (zr_3 h hH hk) (As := [.int (zI o)]) (rest := []) (c_X3_leastNeed l G hG k hk S o (by omega) hms hw) zce_X3_leastNeed zcv_X3_leastNeed zm_X3_72 hl.1 rfl rfl ⟨rfl, rfl⟩ ⟨Nat.le_of_ble_eq_true rfl, Nat.le_of_ble_eq_true rfl⟩ (Nat.le_of_ble_eq_true rfl) ⟨Nat.zero_le _, Nat.zero_le _⟩ dX3_zonesWithoutNeed_14 (fun r_14 S_14 H locs hq hH => ?_)
        obtain ⟨rfl, rfl⟩ := hq
        have b_14 := tLn_in hw o
        refine zb_ic h dX3_zonesWithoutNeed_17 ?_
        refine zb_cne (tgt := 24) h (by omega) (by omega) dX3_zonesWithoutNeed_18 (by decide) (fun c_18 => ?_) (fun c_18 => ?_)
        · refine lv_iinc (v := zI (o + 1)) (lv' := [(2, .int (zI (o + 1))), (0, .ref (za G k 0)), (1, .int (zI n))]) hx hb dX3_zonesWithoutNeed_24 hl (k := 2) rfl (zI_add _ _) (by decide) rfl (fun ls hl => ?_)
          refine lv_goto (tgt := 4) hx hb dX3_zonesWithoutNeed_27 (by decide) ?_
          exact ih4 (o + 1) n _ _ _ (by omega) (by have := zW_4 hw; omega) (by rw [zsum_s _ ho.1, hn]; first | rw [if_pos c_18] | (rw [if_neg c_18]; omega)) hH (lv_sub hl [1, 2, 0] rfl)
        · refine lv_iinc (v := zI (n + 1)) (lv' := [(1, .int (zI (n + 1))), (0, .ref (za G k 0)), (2, .int (zI o))]) hx hb dX3_zonesWithoutNeed_21 hl (k := 1) rfl (zI_add _ _) (by decide) rfl (fun ls hl => ?_)
          refine lv_iinc (v := zI (o + 1)) (lv' := [(2, .int (zI (o + 1))), (1, .int (zI (n + 1))), (0, .ref (za G k 0))]) hx hb dX3_zonesWithoutNeed_24 hl (k := 2) rfl (zI_add _ _) (by decide) rfl (fun ls hl => ?_)
          refine lv_goto (tgt := 4) hx hb dX3_zonesWithoutNeed_27 (by decide) ?_
          exact ih4 (o + 1) (n + 1) _ _ _ (by omega) (by have := zW_4 hw; omega) (by rw [zsum_s _ ho.1, hn]; first | rw [if_pos c_18] | (rw [if_neg c_18]; omega)) hH (lv_sub hl [2, 1, 0] rfl)
  refine zb_ic h dX3_zonesWithoutNeed_0 ?_
  refine lv_istore_n (lv' := [(1, .int (zI 0)), (0, .ref (za G k 0))]) hx hb dX3_zonesWithoutNeed_1 rfl hl (by decide) rfl (fun ls hl => ?_)
  refine zb_ic h dX3_zonesWithoutNeed_2 ?_
  refine lv_istore_n (lv' := [(2, .int (zI 0)), (1, .int (zI 0)), (0, .ref (za G k 0))]) hx hb dX3_zonesWithoutNeed_3 rfl hl (by decide) rfl (fun ls hl => ?_)
  exact C4 ((S k 0 4 - 0 : Int).toNat + 1) 0 0 _ _ _ (by omega) (by have := zW_4 hw; omega) rfl hH (lv_sub hl [2, 1, 0] rfl)
theorem dX3_commonNeed_0 : decode cX3_commonNeed 0 = .ok (.iconst (-1), 1) := by decide +kernel
theorem dX3_commonNeed_1 : decode cX3_commonNeed 1 = .ok (.istore_n 2, 1) := by decide +kernel
theorem dX3_commonNeed_2 : decode cX3_commonNeed 2 = .ok (.sipush 9999, 3) := by decide +kernel
theorem dX3_commonNeed_5 : decode cX3_commonNeed 5 = .ok (.istore_n 3, 1) := by decide +kernel
theorem dX3_commonNeed_6 : decode cX3_commonNeed 6 = .ok (.iconst 0, 1) := by decide +kernel
theorem dX3_commonNeed_7 : decode cX3_commonNeed 7 = .ok (.istore 4, 2) := by decide +kernel
theorem dX3_commonNeed_9 : decode cX3_commonNeed 9 = .ok (.iload 4, 2) := by decide +kernel
theorem dX3_commonNeed_11 : decode cX3_commonNeed 11 = .ok (.aload_n 0, 1) := by decide +kernel
theorem dX3_commonNeed_12 : decode cX3_commonNeed 12 = .ok (.getfield 37, 3) := by decide +kernel
theorem dX3_commonNeed_15 : decode cX3_commonNeed 15 = .ok (.if_icmp .ge 41, 3) := by decide +kernel
theorem dX3_commonNeed_18 : decode cX3_commonNeed 18 = .ok (.aload_n 0, 1) := by decide +kernel
theorem dX3_commonNeed_19 : decode cX3_commonNeed 19 = .ok (.iload 4, 2) := by decide +kernel
theorem dX3_commonNeed_21 : decode cX3_commonNeed 21 = .ok (.invokevirtual 72, 3) := by decide +kernel
theorem dX3_commonNeed_24 : decode cX3_commonNeed 24 = .ok (.iconst (-1), 1) := by decide +kernel
theorem dX3_commonNeed_25 : decode cX3_commonNeed 25 = .ok (.if_icmp .eq 25, 3) := by decide +kernel
theorem dX3_commonNeed_28 : decode cX3_commonNeed 28 = .ok (.iload_n 2, 1) := by decide +kernel
theorem dX3_commonNeed_29 : decode cX3_commonNeed 29 = .ok (.aload_n 0, 1) := by decide +kernel
theorem dX3_commonNeed_30 : decode cX3_commonNeed 30 = .ok (.iload 4, 2) := by decide +kernel
theorem dX3_commonNeed_32 : decode cX3_commonNeed 32 = .ok (.invokevirtual 72, 3) := by decide +kernel
theorem dX3_commonNeed_35 : decode cX3_commonNeed 35 = .ok (.invokestatic 81, 3) := by decide +kernel
theorem dX3_commonNeed_38 : decode cX3_commonNeed 38 = .ok (.istore_n 2, 1) := by decide +kernel
theorem dX3_commonNeed_39 : decode cX3_commonNeed 39 = .ok (.iload_n 3, 1) := by decide +kernel
theorem dX3_commonNeed_40 : decode cX3_commonNeed 40 = .ok (.aload_n 0, 1) := by decide +kernel
theorem dX3_commonNeed_41 : decode cX3_commonNeed 41 = .ok (.iload 4, 2) := by decide +kernel
theorem dX3_commonNeed_43 : decode cX3_commonNeed 43 = .ok (.invokevirtual 75, 3) := by decide +kernel
theorem dX3_commonNeed_46 : decode cX3_commonNeed 46 = .ok (.invokestatic 107, 3) := by decide +kernel
theorem dX3_commonNeed_49 : decode cX3_commonNeed 49 = .ok (.istore_n 3, 1) := by decide +kernel
theorem dX3_commonNeed_50 : decode cX3_commonNeed 50 = .ok (.iinc 4 1, 3) := by decide +kernel
theorem dX3_commonNeed_53 : decode cX3_commonNeed 53 = .ok (.goto (-44), 3) := by decide +kernel
theorem dX3_commonNeed_56 : decode cX3_commonNeed 56 = .ok (.iload_n 2, 1) := by decide +kernel
theorem dX3_commonNeed_57 : decode cX3_commonNeed 57 = .ok (.iconst (-1), 1) := by decide +kernel
theorem dX3_commonNeed_58 : decode cX3_commonNeed 58 = .ok (.if_icmp .eq 8, 3) := by decide +kernel
theorem dX3_commonNeed_61 : decode cX3_commonNeed 61 = .ok (.iload_n 2, 1) := by decide +kernel
theorem dX3_commonNeed_62 : decode cX3_commonNeed 62 = .ok (.iload_n 3, 1) := by decide +kernel
theorem dX3_commonNeed_63 : decode cX3_commonNeed 63 = .ok (.if_icmp .le 5, 3) := by decide +kernel
theorem dX3_commonNeed_66 : decode cX3_commonNeed 66 = .ok (.iconst (-1), 1) := by decide +kernel
theorem dX3_commonNeed_67 : decode cX3_commonNeed 67 = .ok (.ireturn, 1) := by decide +kernel
theorem dX3_commonNeed_68 : decode cX3_commonNeed 68 = .ok (.iload_n 1, 1) := by decide +kernel
theorem dX3_commonNeed_69 : decode cX3_commonNeed 69 = .ok (.ifCond .ne 7, 3) := by decide +kernel
theorem dX3_commonNeed_72 : decode cX3_commonNeed 72 = .ok (.iload_n 2, 1) := by decide +kernel
theorem dX3_commonNeed_73 : decode cX3_commonNeed 73 = .ok (.goto 4, 3) := by decide +kernel
theorem dX3_commonNeed_76 : decode cX3_commonNeed 76 = .ok (.iload_n 3, 1) := by decide +kernel
theorem dX3_commonNeed_77 : decode cX3_commonNeed 77 = .ok (.ireturn, 1) := by decide +kernel
def q_X3_commonNeed (k : Nat) (S : zM) (what : Int) : Int32 → zM → Prop := fun r S1 => r = zI (tCo (S k 0) what) ∧ S = S1
def r_X3_commonNeed : Room := { frames := 3, cells := 0, slots := 0, locals := 71 }
set_option maxHeartbeats 4000000 in
set_option maxRecDepth 100000 in
theorem c_X3_commonNeed (l : Launch) (G : zG) (hG : zok G) (k : Nat) (hk : k < 8) (S : zM) (what : Int) (hwh : 0 ≤ what ∧ what ≤ 1) (hms : zMs S k) (hw : zW (S k 0))  : Met l yX3_commonNeed (Cond.code yX3_commonNeed cX3_commonNeed 5 (some FieldType.int) :: zTbl) r_X3_commonNeed (va_Pc [.ref (za G k 0), .int (zI what)] (zB G S)) (va_Qi (q_X3_commonNeed k S what) (zB G) (zA G)) 0 0 (zA G) := by
  refine zMet [(0, .ref (za G k 0)), (1, .int (zI what))] hG (by decide) (Nat.le_of_ble_eq_true rfl) rfl (fun p e s m args below meth c ls h hx hb hr hH hl => ?_)
  have C9 : ∀ (fu : Nat) (o a b : Int) (H : Heap) (locs : List Loc) (ls : Array Slot), (S k 0 4 - o).toNat < fu → (0 ≤ o ∧ o ≤ S k 0 4) → (a = tCL (S k 0) o.toNat) → (b = tCG (S k 0) o.toNat) → zH G S s H locs → lv_has ls 5 [(0, .ref (za G k 0)), (1, .int (zI what)), (2, .int (zI a)), (3, .int (zI b)), (4, .int (zI o))] → W p l e r_X3_commonNeed s m args below meth c H locs 0 0 (MQ below (va_Qi (q_X3_commonNeed k S what) (zB G) (zA G)) args s 0 0 (zA G)) (F0 m 9 ls []) := by
    intro fu
    induction fu with
    | zero => intro o a b H locs ls hfu; omega
    | succ fu ih9 =>
      intro o a b H locs ls hfu ho ha hb2 hH hl
      have f4 := zW_4 hw
      have ba := tCL_in hw o.toNat
      have bb := tCG_in hw o.toNat
      refine lv_iload hx hb dX3_commonNeed_9 (lv_at hl 4 rfl) ?_
      refine lv_aload_n hx hb dX3_commonNeed_11 rfl (lv_at hl 0 rfl) ?_
      refine zg_3_7 h hH hk zf_X3_37 dX3_commonNeed_12 ?_
      have f_12 := zW_4 hw
      refine zb_cge (tgt := 56) h (by omega) (by omega) dX3_commonNeed_15 (by decide) (fun c_15 => ?_) (fun c_15 => ?_)
      · refine lv_iload_n hx hb dX3_commonNeed_56 rfl (lv_at hl 2 rfl) ?_
        refine zb_ic h dX3_commonNeed_57 ?_
        refine zb_ceq (tgt := 66) h (by omega) (by omega) dX3_commonNeed_58 (by decide) (fun c_58 => ?_) (fun c_58 => ?_)
        · refine zb_ic h dX3_commonNeed_66 ?_
          refine zri h hr hH ?_ dX3_commonNeed_67
          have eo : o = S k 0 4 := by omega
          subst eo
          exact ⟨congrArg zI (by unfold tCo; rw [← ha, ← hb2]; (repeat split) <;> omega), rfl⟩
        · refine lv_iload_n hx hb dX3_commonNeed_61 rfl (lv_at hl 2 rfl) ?_
          refine lv_iload_n hx hb dX3_commonNeed_62 rfl (lv_at hl 3 rfl) ?_
          refine zb_cle (tgt := 68) h (by omega) (by omega) dX3_commonNeed_63 (by decide) (fun c_63 => ?_) (fun c_63 => ?_)
          · refine lv_iload_n hx hb dX3_commonNeed_68 rfl (lv_at hl 1 rfl) ?_
            refine zb_ine (tgt := 76) h (by omega) dX3_commonNeed_69 (by decide) (fun c_69 => ?_) (fun c_69 => ?_)
            · refine lv_iload_n hx hb dX3_commonNeed_76 rfl (lv_at hl 3 rfl) ?_
              refine zri h hr hH ?_ dX3_commonNeed_77
              have eo : o = S k 0 4 := by omega
              subst eo
              exact ⟨congrArg zI (by unfold tCo; rw [← ha, ← hb2]; (repeat split) <;> omega), rfl⟩
            · refine lv_iload_n hx hb dX3_commonNeed_72 rfl (lv_at hl 2 rfl) ?_
              refine lv_goto (tgt := 77) hx hb dX3_commonNeed_73 (by decide) ?_
              refine zri h hr hH ?_ dX3_commonNeed_77
              have eo : o = S k 0 4 := by omega
              subst eo
              exact ⟨congrArg zI (by unfold tCo; rw [← ha, ← hb2]; (repeat split) <;> omega), rfl⟩
          · refine zb_ic h dX3_commonNeed_66 ?_
            refine zri h hr hH ?_ dX3_commonNeed_67
            have eo : o = S k 0 4 := by omega
            subst eo
            exact ⟨congrArg zI (by unfold tCo; rw [← ha, ← hb2]; (repeat split) <;> omega), rfl⟩
      · refine lv_aload_n hx hb dX3_commonNeed_18 rfl (lv_at hl 0 rfl) ?_
        refine lv_iload hx hb dX3_commonNeed_19 (lv_at hl 4 rfl) ?_
        refine zcVi h hH (zr_3 h hH hk) (As := [.int (zI o)]) (rest := []) (c_X3_leastNeed l G hG k hk S o (by omega) hms hw) zce_X3_leastNeed zcv_X3_leastNeed zm_X3_72 hl.1 rfl rfl ⟨rfl, rfl⟩ ⟨Nat.le_of_ble_eq_true rfl, Nat.le_of_ble_eq_true rfl⟩ (Nat.le_of_ble_eq_true rfl) ⟨Nat.zero_le _, Nat.zero_le _⟩ dX3_commonNeed_21 (fun r_21 S_21 H locs hq hH => ?_)
        obtain ⟨rfl, rfl⟩ := hq
        have b_21 := tLn_in hw o
        have b_21g := tGn_in hw o
        refine zb_ic h dX3_commonNeed_24 ?_
        refine zb_ceq (tgt := 50) h (by omega) (by omega) dX3_commonNeed_25 (by decide) (fun c_25 => ?_) (fun c_25 => ?_)
        · refine lv_iinc (v := zI (o + 1)) (lv' := [(4, .int (zI (o + 1))), (0, .ref (za G k 0)), (1, .int (zI what)), (2, .int (zI a)), (3, .int (zI b))]) hx hb dX3_commonNeed_50 hl (k := 4) rfl (zI_add _ _) (by decide) rfl (fun ls hl => ?_)
          refine lv_goto (tgt := 9) hx hb dX3_commonNeed_53 (by decide) ?_
          exact ih9 (o + 1) a b _ _ _ (by omega) (by have := zW_4 hw; omega) (by rw [tCL_s _ ho.1, ha]; first | rw [if_pos c_25] | rw [if_neg c_25]) (by rw [tCG_s _ ho.1, hb2]; first | rw [if_pos c_25] | rw [if_neg c_25]) hH (lv_sub hl [1, 2, 3, 4, 0] rfl)
        · refine lv_iload_n hx hb dX3_commonNeed_28 rfl (lv_at hl 2 rfl) ?_
          refine lv_aload_n hx hb dX3_commonNeed_29 rfl (lv_at hl 0 rfl) ?_
          refine lv_iload hx hb dX3_commonNeed_30 (lv_at hl 4 rfl) ?_
          refine zcVi h hH (zr_3 h hH hk) (As := [.int (zI o)]) (rest := [.int (zI a)]) (c_X3_leastNeed l G hG k hk S o (by omega) hms hw) zce_X3_leastNeed zcv_X3_leastNeed zm_X3_72 hl.1 rfl rfl ⟨rfl, rfl⟩ ⟨Nat.le_of_ble_eq_true rfl, Nat.le_of_ble_eq_true rfl⟩ (Nat.le_of_ble_eq_true rfl) ⟨Nat.zero_le _, Nat.zero_le _⟩ dX3_commonNeed_32 (fun r_32 S_32 H locs hq hH => ?_)
          obtain ⟨rfl, rfl⟩ := hq
          refine zmaxI h hl.1 zm_X3_81 (Nat.le_of_ble_eq_true rfl) (Nat.le_of_ble_eq_true rfl) ⟨Nat.zero_le _, Nat.zero_le _⟩ (by omega) (by omega) (Nat.le_of_ble_eq_true rfl) dX3_commonNeed_35 ?_
          refine lv_istore_n (lv' := [(2, .int (zI (max a (tLn (S k 0) o)))), (0, .ref (za G k 0)), (1, .int (zI what)), (3, .int (zI b)), (4, .int (zI o))]) hx hb dX3_commonNeed_38 rfl hl (by decide) rfl (fun ls hl => ?_)
          refine lv_iload_n hx hb dX3_commonNeed_39 rfl (lv_at hl 3 rfl) ?_
          refine lv_aload_n hx hb dX3_commonNeed_40 rfl (lv_at hl 1 rfl) ?_
          refine lv_iload hx hb dX3_commonNeed_41 (lv_at hl 4 rfl) ?_
          refine zcVi h hH (zr_3 h hH hk) (As := [.int (zI o)]) (rest := [.int (zI b)]) (c_X3_greatestNeed l G hG k hk S o (by omega) hms hw) zce_X3_greatestNeed zcv_X3_greatestNeed zm_X3_75 hl.1 rfl rfl ⟨rfl, rfl⟩ ⟨Nat.le_of_ble_eq_true rfl, Nat.le_of_ble_eq_true rfl⟩ (Nat.le_of_ble_eq_true rfl) ⟨Nat.zero_le _, Nat.zero_le _⟩ dX3_commonNeed_43 (fun r_43 S_43 H locs hq hH => ?_)
          obtain ⟨rfl, rfl⟩ := hq
          refine zminI h hl.1 zm_X3_107 (Nat.le_of_ble_eq_true rfl) (Nat.le_of_ble_eq_true rfl) ⟨Nat.zero_le _, Nat.zero_le _⟩ (by omega) (by omega) (Nat.le_of_ble_eq_true rfl) dX3_commonNeed_46 ?_
          refine lv_istore_n (lv' := [(3, .int (zI (min b (tGn (S k 0) o)))), (2, .int (zI (max a (tLn (S k 0) o)))), (0, .ref (za G k 0)), (1, .int (zI what)), (4, .int (zI o))]) hx hb dX3_commonNeed_49 rfl hl (by decide) rfl (fun ls hl => ?_)
          refine lv_iinc (v := zI (o + 1)) (lv' := [(4, .int (zI (o + 1))), (3, .int (zI (min b (tGn (S k 0) o)))), (2, .int (zI (max a (tLn (S k 0) o)))), (0, .ref (za G k 0)), (1, .int (zI what))]) hx hb dX3_commonNeed_50 hl (k := 4) rfl (zI_add _ _) (by decide) rfl (fun ls hl => ?_)
          refine lv_goto (tgt := 9) hx hb dX3_commonNeed_53 (by decide) ?_
          exact ih9 (o + 1) (max a (tLn (S k 0) o)) (min b (tGn (S k 0) o)) _ _ _ (by omega) (by have := zW_4 hw; omega) (by rw [tCL_s _ ho.1, ha]; first | rw [if_pos c_25] | rw [if_neg c_25]) (by rw [tCG_s _ ho.1, hb2]; first | rw [if_pos c_25] | rw [if_neg c_25]) hH (lv_sub hl [3, 4, 2, 1, 0] rfl)
  refine zb_ic h dX3_commonNeed_0 ?_
  refine lv_istore_n (lv' := [(2, .int (zI (-1))), (0, .ref (za G k 0)), (1, .int (zI what))]) hx hb dX3_commonNeed_1 rfl hl (by decide) rfl (fun ls hl => ?_)
  refine zb_si h dX3_commonNeed_2 (by decide) (by decide) ?_
  refine lv_istore_n (lv' := [(3, .int (zI 9999)), (2, .int (zI (-1))), (0, .ref (za G k 0)), (1, .int (zI what))]) hx hb dX3_commonNeed_5 rfl hl (by decide) rfl (fun ls hl => ?_)
  refine zb_ic h dX3_commonNeed_6 ?_
  refine lv_istore (lv' := [(4, .int (zI 0)), (3, .int (zI 9999)), (2, .int (zI (-1))), (0, .ref (za G k 0)), (1, .int (zI what))]) hx hb dX3_commonNeed_7 hl (by decide) rfl (fun ls hl => ?_)
  exact C9 ((S k 0 4 - 0 : Int).toNat + 1) 0 (-1) 9999 _ _ _ (by omega) (by have := zW_4 hw; omega) rfl rfl hH (lv_sub hl [3, 4, 2, 1, 0] rfl)
theorem dX3_readStrip_0 : decode cX3_readStrip 0 = .ok (.aload_n 0, 1) := by decide +kernel
theorem dX3_readStrip_1 : decode cX3_readStrip 1 = .ok (.iload_n 1, 1) := by decide +kernel
theorem dX3_readStrip_2 : decode cX3_readStrip 2 = .ok (.invokevirtual 57, 3) := by decide +kernel
theorem dX3_readStrip_5 : decode cX3_readStrip 5 = .ok (.ifCond .ne 5, 3) := by decide +kernel
theorem dX3_readStrip_10 : decode cX3_readStrip 10 = .ok (.iconst 0, 1) := by decide +kernel
theorem dX3_readStrip_11 : decode cX3_readStrip 11 = .ok (.istore 5, 2) := by decide +kernel
theorem dX3_readStrip_13 : decode cX3_readStrip 13 = .ok (.iconst 0, 1) := by decide +kernel
theorem dX3_readStrip_14 : decode cX3_readStrip 14 = .ok (.istore 6, 2) := by decide +kernel
theorem dX3_readStrip_16 : decode cX3_readStrip 16 = .ok (.iload 6, 2) := by decide +kernel
theorem dX3_readStrip_18 : decode cX3_readStrip 18 = .ok (.iload_n 3, 1) := by decide +kernel
theorem dX3_readStrip_19 : decode cX3_readStrip 19 = .ok (.if_icmp .ge 70, 3) := by decide +kernel
theorem dX3_readStrip_22 : decode cX3_readStrip 22 = .ok (.aload_n 0, 1) := by decide +kernel
theorem dX3_readStrip_23 : decode cX3_readStrip 23 = .ok (.iload_n 1, 1) := by decide +kernel
theorem dX3_readStrip_24 : decode cX3_readStrip 24 = .ok (.iload_n 2, 1) := by decide +kernel
theorem dX3_readStrip_25 : decode cX3_readStrip 25 = .ok (.iload 6, 2) := by decide +kernel
theorem dX3_readStrip_27 : decode cX3_readStrip 27 = .ok (.invokestatic 110, 3) := by decide +kernel
theorem dX3_readStrip_30 : decode cX3_readStrip 30 = .ok (.invokevirtual 86, 3) := by decide +kernel
theorem dX3_readStrip_33 : decode cX3_readStrip 33 = .ok (.istore 7, 2) := by decide +kernel
theorem dX3_readStrip_35 : decode cX3_readStrip 35 = .ok (.iload 4, 2) := by decide +kernel
theorem dX3_readStrip_37 : decode cX3_readStrip 37 = .ok (.iconst 2, 1) := by decide +kernel
theorem dX3_readStrip_38 : decode cX3_readStrip 38 = .ok (.if_icmp .ge 31, 3) := by decide +kernel
theorem dX3_readStrip_41 : decode cX3_readStrip 41 = .ok (.iload 7, 2) := by decide +kernel
theorem dX3_readStrip_43 : decode cX3_readStrip 43 = .ok (.aload_n 0, 1) := by decide +kernel
theorem dX3_readStrip_44 : decode cX3_readStrip 44 = .ok (.getfield 22, 3) := by decide +kernel
theorem dX3_readStrip_47 : decode cX3_readStrip 47 = .ok (.iload_n 1, 1) := by decide +kernel
theorem dX3_readStrip_48 : decode cX3_readStrip 48 = .ok (.iaload, 1) := by decide +kernel
theorem dX3_readStrip_49 : decode cX3_readStrip 49 = .ok (.if_icmp .lt 20, 3) := by decide +kernel
theorem dX3_readStrip_52 : decode cX3_readStrip 52 = .ok (.iload 4, 2) := by decide +kernel
theorem dX3_readStrip_54 : decode cX3_readStrip 54 = .ok (.ifCond .ne 12, 3) := by decide +kernel
theorem dX3_readStrip_57 : decode cX3_readStrip 57 = .ok (.iload_n 2, 1) := by decide +kernel
theorem dX3_readStrip_58 : decode cX3_readStrip 58 = .ok (.iload 6, 2) := by decide +kernel
theorem dX3_readStrip_60 : decode cX3_readStrip 60 = .ok (.invokestatic 110, 3) := by decide +kernel
theorem dX3_readStrip_63 : decode cX3_readStrip 63 = .ok (.goto 5, 3) := by decide +kernel
theorem dX3_readStrip_66 : decode cX3_readStrip 66 = .ok (.iload 6, 2) := by decide +kernel
theorem dX3_readStrip_68 : decode cX3_readStrip 68 = .ok (.ireturn, 1) := by decide +kernel
theorem dX3_readStrip_69 : decode cX3_readStrip 69 = .ok (.iload 7, 2) := by decide +kernel
theorem dX3_readStrip_71 : decode cX3_readStrip 71 = .ok (.aload_n 0, 1) := by decide +kernel
theorem dX3_readStrip_72 : decode cX3_readStrip 72 = .ok (.getfield 22, 3) := by decide +kernel
theorem dX3_readStrip_75 : decode cX3_readStrip 75 = .ok (.iload_n 1, 1) := by decide +kernel
theorem dX3_readStrip_76 : decode cX3_readStrip 76 = .ok (.iaload, 1) := by decide +kernel
theorem dX3_readStrip_77 : decode cX3_readStrip 77 = .ok (.if_icmp .ne 6, 3) := by decide +kernel
theorem dX3_readStrip_80 : decode cX3_readStrip 80 = .ok (.iinc 5 1, 3) := by decide +kernel
theorem dX3_readStrip_83 : decode cX3_readStrip 83 = .ok (.iinc 6 1, 3) := by decide +kernel
theorem dX3_readStrip_86 : decode cX3_readStrip 86 = .ok (.goto (-70), 3) := by decide +kernel
theorem dX3_readStrip_89 : decode cX3_readStrip 89 = .ok (.iload 4, 2) := by decide +kernel
theorem dX3_readStrip_91 : decode cX3_readStrip 91 = .ok (.lookupswitch 41 #[(2, 25), (3, 28)], 25) := by decide +kernel
theorem dX3_readStrip_116 : decode cX3_readStrip 116 = .ok (.iload 5, 2) := by decide +kernel
theorem dX3_readStrip_118 : decode cX3_readStrip 118 = .ok (.ireturn, 1) := by decide +kernel
theorem dX3_readStrip_119 : decode cX3_readStrip 119 = .ok (.aload_n 0, 1) := by decide +kernel
theorem dX3_readStrip_120 : decode cX3_readStrip 120 = .ok (.iload_n 1, 1) := by decide +kernel
theorem dX3_readStrip_121 : decode cX3_readStrip 121 = .ok (.iload_n 2, 1) := by decide +kernel
theorem dX3_readStrip_122 : decode cX3_readStrip 122 = .ok (.iload_n 3, 1) := by decide +kernel
theorem dX3_readStrip_123 : decode cX3_readStrip 123 = .ok (.iconst 1, 1) := by decide +kernel
theorem dX3_readStrip_124 : decode cX3_readStrip 124 = .ok (.isub, 1) := by decide +kernel
theorem dX3_readStrip_125 : decode cX3_readStrip 125 = .ok (.invokestatic 110, 3) := by decide +kernel
theorem dX3_readStrip_128 : decode cX3_readStrip 128 = .ok (.invokevirtual 86, 3) := by decide +kernel
theorem dX3_readStrip_131 : decode cX3_readStrip 131 = .ok (.ireturn, 1) := by decide +kernel
theorem dX3_readStrip_132 : decode cX3_readStrip 132 = .ok (.iconst (-1), 1) := by decide +kernel
theorem dX3_readStrip_133 : decode cX3_readStrip 133 = .ok (.ireturn, 1) := by decide +kernel
def q_X3_readStrip (k : Nat) (S : zM) (z f n what : Int) : Int32 → zM → Prop := fun r S1 => r = zI (tStr (S k 0) z f n what) ∧ S = S1
def r_X3_readStrip : Room := { frames := 2, cells := 0, slots := 0, locals := 46 }
set_option maxHeartbeats 4000000 in
set_option maxRecDepth 100000 in
theorem c_X3_readStrip (l : Launch) (G : zG) (hG : zok G) (k : Nat) (hk : k < 8) (S : zM) (z f n what : Int) (hz : 0 ≤ z ∧ z < S k 0 4) (hf : 1 ≤ f ∧ f ≤ 999) (hn : 1 ≤ n ∧ n ≤ 9) (hwh : 0 ≤ what ∧ what ≤ 3) (hms : zMs S k) (hw : zW (S k 0))  : Met l yX3_readStrip (Cond.code yX3_readStrip cX3_readStrip 8 (some FieldType.int) :: zTbl) r_X3_readStrip (va_Pc [.ref (za G k 0), .int (zI z), .int (zI f), .int (zI n), .int (zI what)] (zB G S)) (va_Qi (q_X3_readStrip k S z f n what) (zB G) (zA G)) 0 0 (zA G) := by
  refine zMet [(0, .ref (za G k 0)), (1, .int (zI z)), (2, .int (zI f)), (3, .int (zI n)), (4, .int (zI what))] hG (by decide) (Nat.le_of_ble_eq_true rfl) rfl (fun p e s m args below meth c ls h hx hb hr hH hl => ?_)
  have f4 := zW_4 hw
  have C16 : ∀ (fu : Nat) (i t : Int) (H : Heap) (locs : List Loc) (ls : Array Slot), (n - i).toNat < fu → (0 ≤ i ∧ i ≤ n) → (t = tSh (S k 0) z f i.toNat) → (what < 2 → tSf (S k 0) z f i.toNat = -1) → zH G S s H locs → lv_has ls 8 [(0, .ref (za G k 0)), (1, .int (zI z)), (2, .int (zI f)), (3, .int (zI n)), (4, .int (zI what)), (5, .int (zI t)), (6, .int (zI i))] → W p l e r_X3_readStrip s m args below meth c H locs 0 0 (MQ below (va_Qi (q_X3_readStrip k S z f n what) (zB G) (zA G)) args s 0 0 (zA G)) (F0 m 16 ls []) := by
    intro fu
    induction fu with
    | zero => intro i t H locs ls hfu; omega
    | succ fu ih16 =>
      intro i t H locs ls hfu hi hh ht hH hl
      refine lv_iload hx hb dX3_readStrip_16 (lv_at hl 6 rfl) ?_
      refine lv_iload_n hx hb dX3_readStrip_18 rfl (lv_at hl 3 rfl) ?_
      refine zb_cge (tgt := 89) h (by omega) (by omega) dX3_readStrip_19 (by decide) (fun c_19 => ?_) (fun c_19 => ?_)
      · refine lv_iload hx hb dX3_readStrip_89 (lv_at hl 4 rfl) ?_
        have x_91 : (zI what).toInt = what := zI_toInt (by omega) (by omega)
        by_cases e_91_2 : what = 2
        · refine lv_lookup (off := 25) (tgt := 116) hx hb dX3_readStrip_91 (by decide) (by rw [x_91, e_91_2]; rfl) (by decide) ?_
          refine lv_iload hx hb dX3_readStrip_116 (lv_at hl 5 rfl) ?_
          refine zri h hr hH ?_ dX3_readStrip_118
          have ei : i = n := by omega
          subst ei
          exact ⟨congrArg zI (by unfold tStr; rw [if_pos (by omega), hh]), rfl⟩
        by_cases e_91_3 : what = 3
        · refine lv_lookup (off := 28) (tgt := 119) hx hb dX3_readStrip_91 (by decide) (by rw [x_91, e_91_3]; rfl) (by decide) ?_
          refine lv_aload_n hx hb dX3_readStrip_119 rfl (lv_at hl 0 rfl) ?_
          refine lv_iload_n hx hb dX3_readStrip_120 rfl (lv_at hl 1 rfl) ?_
          refine lv_iload_n hx hb dX3_readStrip_121 rfl (lv_at hl 2 rfl) ?_
          refine lv_iload_n hx hb dX3_readStrip_122 rfl (lv_at hl 3 rfl) ?_
          refine zb_ic h dX3_readStrip_123 ?_
          refine zb_isub h dX3_readStrip_124 ?_
          refine zcSi h hH (As := [.int (zI f), .int (zI (n - 1))]) (rest := [.int (zI z), .ref (za G k 0)]) (c_X3_stripTime l G hG S f (n - 1) (by omega) (by omega)) zce_X3_stripTime zt_X3_stripTime zm_X3_110 hl.1 rfl rfl ⟨rfl, rfl⟩ ⟨Nat.le_of_ble_eq_true rfl, Nat.le_of_ble_eq_true rfl⟩ (Nat.le_of_ble_eq_true rfl) ⟨Nat.zero_le _, Nat.zero_le _⟩ dX3_readStrip_125 (fun r_125 S_125 H locs hq hH => ?_)
          obtain ⟨rfl, rfl⟩ := hq
          have b_125 := zStr_in hf (show 0 ≤ n - 1 ∧ n - 1 < 9 by omega)
          refine zcVi h hH (zr_3 h hH hk) (As := [.int (zI z), .int (zI (zStr f (n - 1)))]) (rest := []) (c_X3_toneAfter l G hG k hk S z (zStr f (n - 1)) (by omega) (by omega) hms hw) zce_X3_toneAfter zcv_X3_toneAfter zm_X3_86 hl.1 rfl rfl ⟨rfl, rfl⟩ ⟨Nat.le_of_ble_eq_true rfl, Nat.le_of_ble_eq_true rfl⟩ (Nat.le_of_ble_eq_true rfl) ⟨Nat.zero_le _, Nat.zero_le _⟩ dX3_readStrip_128 (fun r_128 S_128 H locs hq hH => ?_)
          obtain ⟨rfl, rfl⟩ := hq
          refine zri h hr hH ?_ dX3_readStrip_131
          exact ⟨congrArg zI (by unfold tStr; rw [if_neg (by omega), if_pos (by omega)]), rfl⟩
        refine lv_lookup (off := 41) (tgt := 132) hx hb dX3_readStrip_91 (by decide) (by rw [x_91]; exact zlk_out [(2, 25), (3, 28)] _ _ (by intro q hq; simp only [List.mem_cons, List.not_mem_nil, or_false] at hq; rcases hq with rfl | rfl <;> (dsimp only; omega))) (by decide) ?_
        refine zb_ic h dX3_readStrip_132 ?_
        refine zri h hr hH ?_ dX3_readStrip_133
        have ei : i = n := by omega
        subst ei
        exact ⟨congrArg zI (by unfold tStr; rw [if_neg (by omega), if_neg (by omega), if_pos (Or.inr (ht (by omega))), ht (by omega)]), rfl⟩
      · refine lv_aload_n hx hb dX3_readStrip_22 rfl (lv_at hl 0 rfl) ?_
        refine lv_iload_n hx hb dX3_readStrip_23 rfl (lv_at hl 1 rfl) ?_
        refine lv_iload_n hx hb dX3_readStrip_24 rfl (lv_at hl 2 rfl) ?_
        refine lv_iload hx hb dX3_readStrip_25 (lv_at hl 6 rfl) ?_
        refine zcSi h hH (As := [.int (zI f), .int (zI i)]) (rest := [.int (zI z), .ref (za G k 0)]) (c_X3_stripTime l G hG S f i (by omega) (by omega)) zce_X3_stripTime zt_X3_stripTime zm_X3_110 hl.1 rfl rfl ⟨rfl, rfl⟩ ⟨Nat.le_of_ble_eq_true rfl, Nat.le_of_ble_eq_true rfl⟩ (Nat.le_of_ble_eq_true rfl) ⟨Nat.zero_le _, Nat.zero_le _⟩ dX3_readStrip_27 (fun r_27 S_27 H locs hq hH => ?_)
        obtain ⟨rfl, rfl⟩ := hq
        have b_27 := zStr_in hf (show 0 ≤ i ∧ i < 9 by omega)
        refine zcVi h hH (zr_3 h hH hk) (As := [.int (zI z), .int (zI (zStr f i))]) (rest := []) (c_X3_toneAfter l G hG k hk S z (zStr f i) (by omega) (by omega) hms hw) zce_X3_toneAfter zcv_X3_toneAfter zm_X3_86 hl.1 rfl rfl ⟨rfl, rfl⟩ ⟨Nat.le_of_ble_eq_true rfl, Nat.le_of_ble_eq_true rfl⟩ (Nat.le_of_ble_eq_true rfl) ⟨Nat.zero_le _, Nat.zero_le _⟩ dX3_readStrip_30 (fun r_30 S_30 H locs hq hH => ?_)
        obtain ⟨rfl, rfl⟩ := hq
        have b_30 := tAt_in (S k 0) z (zStr f i)
        refine lv_istore (lv' := [(7, .int (zI (tAt (S k 0) z (zStr f i)))), (0, .ref (za G k 0)), (1, .int (zI z)), (2, .int (zI f)), (3, .int (zI n)), (4, .int (zI what)), (5, .int (zI t)), (6, .int (zI i))]) hx hb dX3_readStrip_33 hl (by decide) rfl (fun ls hl => ?_)
        refine lv_iload hx hb dX3_readStrip_35 (lv_at hl 5 rfl) ?_
        refine zb_ic h dX3_readStrip_37 ?_
        refine zb_cge (tgt := 69) h (by omega) (by omega) dX3_readStrip_38 (by decide) (fun c_38 => ?_) (fun c_38 => ?_)
        · refine lv_iload hx hb dX3_readStrip_69 (lv_at hl 0 rfl) ?_
          refine lv_aload_n hx hb dX3_readStrip_71 rfl (lv_at hl 1 rfl) ?_
          refine zg_3_2 h hH hk zf_X3_22 dX3_readStrip_72 ?_
          refine lv_iload_n hx hb dX3_readStrip_75 rfl (lv_at hl 2 rfl) ?_
          refine zld_ar_wa h hH hk (by omega) dX3_readStrip_76 ?_
          have f_76 := zW_wa hw (show 0 ≤ z ∧ z < 8 by omega)
          refine zb_cne (tgt := 83) h (by omega) (by omega) dX3_readStrip_77 (by decide) (fun c_77 => ?_) (fun c_77 => ?_)
          · refine lv_iinc (v := zI (i + 1)) (lv' := [(6, .int (zI (i + 1))), (7, .int (zI (tAt (S k 0) z (zStr f i)))), (0, .ref (za G k 0)), (1, .int (zI z)), (2, .int (zI f)), (3, .int (zI n)), (4, .int (zI what)), (5, .int (zI t))]) hx hb dX3_readStrip_83 hl (k := 7) rfl (zI_add _ _) (by decide) rfl (fun ls hl => ?_)
            refine lv_goto (tgt := 16) hx hb dX3_readStrip_86 (by decide) ?_
            exact ih16 (i + 1) t _ _ _ (by omega) (by omega) (by unfold tSh; rw [zsum_s _ hi.1, hh]; first | (rw [if_pos c_77]; rfl) | (rw [if_neg c_77]; simp only [tSh]; omega)) (fun hq => by rw [tSf_s _ _ _ hi.1, if_neg (by omega)]; exact ht hq) hH (lv_sub hl [2, 3, 4, 5, 6, 7, 0] rfl)
          · refine lv_iinc (v := zI (t + 1)) (lv' := [(5, .int (zI (t + 1))), (7, .int (zI (tAt (S k 0) z (zStr f i)))), (0, .ref (za G k 0)), (1, .int (zI z)), (2, .int (zI f)), (3, .int (zI n)), (4, .int (zI what)), (6, .int (zI i))]) hx hb dX3_readStrip_80 hl (k := 6) rfl (zI_add _ _) (by decide) rfl (fun ls hl => ?_)
            refine lv_iinc (v := zI (i + 1)) (lv' := [(6, .int (zI (i + 1))), (5, .int (zI (t + 1))), (7, .int (zI (tAt (S k 0) z (zStr f i)))), (0, .ref (za G k 0)), (1, .int (zI z)), (2, .int (zI f)), (3, .int (zI n)), (4, .int (zI what))]) hx hb dX3_readStrip_83 hl (k := 7) rfl (zI_add _ _) (by decide) rfl (fun ls hl => ?_)
            refine lv_goto (tgt := 16) hx hb dX3_readStrip_86 (by decide) ?_
            exact ih16 (i + 1) (t + 1) _ _ _ (by omega) (by omega) (by unfold tSh; rw [zsum_s _ hi.1, hh]; first | (rw [if_pos c_77]; rfl) | (rw [if_neg c_77]; simp only [tSh]; omega)) (fun hq => by rw [tSf_s _ _ _ hi.1, if_neg (by omega)]; exact ht hq) hH (lv_sub hl [3, 4, 5, 6, 7, 1, 0] rfl)
        · refine lv_iload hx hb dX3_readStrip_41 (lv_at hl 0 rfl) ?_
          refine lv_aload_n hx hb dX3_readStrip_43 rfl (lv_at hl 1 rfl) ?_
          refine zg_3_2 h hH hk zf_X3_22 dX3_readStrip_44 ?_
          refine lv_iload_n hx hb dX3_readStrip_47 rfl (lv_at hl 2 rfl) ?_
          refine zld_ar_wa h hH hk (by omega) dX3_readStrip_48 ?_
          have f_48 := zW_wa hw (show 0 ≤ z ∧ z < 8 by omega)
          refine zb_clt (tgt := 69) h (by omega) (by omega) dX3_readStrip_49 (by decide) (fun c_49 => ?_) (fun c_49 => ?_)
          · refine lv_iload hx hb dX3_readStrip_69 (lv_at hl 0 rfl) ?_
            refine lv_aload_n hx hb dX3_readStrip_71 rfl (lv_at hl 1 rfl) ?_
            refine zg_3_2 h hH hk zf_X3_22 dX3_readStrip_72 ?_
            refine lv_iload_n hx hb dX3_readStrip_75 rfl (lv_at hl 2 rfl) ?_
            refine zld_ar_wa h hH hk (by omega) dX3_readStrip_76 ?_
            have f_76 := zW_wa hw (show 0 ≤ z ∧ z < 8 by omega)
            refine zb_cne (tgt := 83) h (by omega) (by omega) dX3_readStrip_77 (by decide) (fun c_77 => ?_) (fun c_77 => ?_)
            · refine lv_iinc (v := zI (i + 1)) (lv' := [(6, .int (zI (i + 1))), (7, .int (zI (tAt (S k 0) z (zStr f i)))), (0, .ref (za G k 0)), (1, .int (zI z)), (2, .int (zI f)), (3, .int (zI n)), (4, .int (zI what)), (5, .int (zI t))]) hx hb dX3_readStrip_83 hl (k := 7) rfl (zI_add _ _) (by decide) rfl (fun ls hl => ?_)
              refine lv_goto (tgt := 16) hx hb dX3_readStrip_86 (by decide) ?_
              exact ih16 (i + 1) t _ _ _ (by omega) (by omega) (by unfold tSh; rw [zsum_s _ hi.1, hh]; first | (rw [if_pos c_77]; rfl) | (rw [if_neg c_77]; simp only [tSh]; omega)) (fun hq => by rw [tSf_s _ _ _ hi.1, if_neg (by omega)]; exact ht hq) hH (lv_sub hl [2, 3, 4, 5, 6, 7, 0] rfl)
            · refine lv_iinc (v := zI (t + 1)) (lv' := [(5, .int (zI (t + 1))), (7, .int (zI (tAt (S k 0) z (zStr f i)))), (0, .ref (za G k 0)), (1, .int (zI z)), (2, .int (zI f)), (3, .int (zI n)), (4, .int (zI what)), (6, .int (zI i))]) hx hb dX3_readStrip_80 hl (k := 6) rfl (zI_add _ _) (by decide) rfl (fun ls hl => ?_)
              refine lv_iinc (v := zI (i + 1)) (lv' := [(6, .int (zI (i + 1))), (5, .int (zI (t + 1))), (7, .int (zI (tAt (S k 0) z (zStr f i)))), (0, .ref (za G k 0)), (1, .int (zI z)), (2, .int (zI f)), (3, .int (zI n)), (4, .int (zI what))]) hx hb dX3_readStrip_83 hl (k := 7) rfl (zI_add _ _) (by decide) rfl (fun ls hl => ?_)
              refine lv_goto (tgt := 16) hx hb dX3_readStrip_86 (by decide) ?_
              exact ih16 (i + 1) (t + 1) _ _ _ (by omega) (by omega) (by unfold tSh; rw [zsum_s _ hi.1, hh]; first | (rw [if_pos c_77]; rfl) | (rw [if_neg c_77]; simp only [tSh]; omega)) (fun hq => by rw [tSf_s _ _ _ hi.1, if_neg (by omega)]; exact ht hq) hH (lv_sub hl [3, 4, 5, 6, 7, 1, 0] rfl)
          · refine lv_iload hx hb dX3_readStrip_52 (lv_at hl 5 rfl) ?_
            refine zb_ine (tgt := 66) h (by omega) dX3_readStrip_54 (by decide) (fun c_54 => ?_) (fun c_54 => ?_)
            · refine lv_iload hx hb dX3_readStrip_66 (lv_at hl 7 rfl) ?_
              refine zri h hr hH ?_ dX3_readStrip_68
              have et := tSf_to hi.1 (by omega) (ht (by omega)) c_49
              exact ⟨congrArg zI (by unfold tStr; rw [if_neg (by omega), if_neg (by omega), et]; split <;> first | rfl | (exfalso; omega)), rfl⟩
            · refine lv_iload_n hx hb dX3_readStrip_57 rfl (lv_at hl 3 rfl) ?_
              refine lv_iload hx hb dX3_readStrip_58 (lv_at hl 7 rfl) ?_
              refine zcSi h hH (As := [.int (zI f), .int (zI i)]) (rest := []) (c_X3_stripTime l G hG S f i (by omega) (by omega)) zce_X3_stripTime zt_X3_stripTime zm_X3_110 hl.1 rfl rfl ⟨rfl, rfl⟩ ⟨Nat.le_of_ble_eq_true rfl, Nat.le_of_ble_eq_true rfl⟩ (Nat.le_of_ble_eq_true rfl) ⟨Nat.zero_le _, Nat.zero_le _⟩ dX3_readStrip_60 (fun r_60 S_60 H locs hq hH => ?_)
              obtain ⟨rfl, rfl⟩ := hq
              refine lv_goto (tgt := 68) hx hb dX3_readStrip_63 (by decide) ?_
              refine zri h hr hH ?_ dX3_readStrip_68
              have et := tSf_to hi.1 (by omega) (ht (by omega)) c_49
              exact ⟨congrArg zI (by unfold tStr; rw [if_neg (by omega), if_neg (by omega), et]; split <;> first | rfl | (exfalso; omega)), rfl⟩
  refine lv_aload_n hx hb dX3_readStrip_0 rfl (lv_at hl 0 rfl) ?_
  refine lv_iload_n hx hb dX3_readStrip_1 rfl (lv_at hl 1 rfl) ?_
  refine zcVi h hH (zr_3 h hH hk) (As := [.int (zI z)]) (rest := []) (c_X3_hasZone l G hG k hk S z (by omega) hw) zce_X3_hasZone zcv_X3_hasZone zm_X3_57 hl.1 rfl rfl ⟨rfl, rfl⟩ ⟨Nat.le_of_ble_eq_true rfl, Nat.le_of_ble_eq_true rfl⟩ (Nat.le_of_ble_eq_true rfl) ⟨Nat.zero_le _, Nat.zero_le _⟩ dX3_readStrip_2 (fun r_2 S_2 H locs hq hH => ?_)
  obtain ⟨b_2, rfl, hb_2, rfl⟩ := hq
  refine zb_ine (tgt := 10) h (by omega) dX3_readStrip_5 (by decide) (fun c_5 => ?_) (fun c_5 => ?_)
  · refine zb_ic h dX3_readStrip_10 ?_
    refine lv_istore (lv' := [(5, .int (zI 0)), (0, .ref (za G k 0)), (1, .int (zI z)), (2, .int (zI f)), (3, .int (zI n)), (4, .int (zI what))]) hx hb dX3_readStrip_11 hl (by decide) rfl (fun ls hl => ?_)
    refine zb_ic h dX3_readStrip_13 ?_
    refine lv_istore (lv' := [(6, .int (zI 0)), (5, .int (zI 0)), (0, .ref (za G k 0)), (1, .int (zI z)), (2, .int (zI f)), (3, .int (zI n)), (4, .int (zI what))]) hx hb dX3_readStrip_14 hl (by decide) rfl (fun ls hl => ?_)
    exact C16 ((n - 0 : Int).toNat + 1) 0 0 _ _ _ (by omega) (by omega) rfl (fun _ => rfl) hH (lv_sub hl [2, 3, 4, 5, 6, 1, 0] rfl)
  · exact absurd c_5 (by omega)
theorem dX3_property_0 : decode cX3_property 0 = .ok (.aload_n 0, 1) := by decide +kernel
theorem dX3_property_1 : decode cX3_property 1 = .ok (.iload_n 1, 1) := by decide +kernel
theorem dX3_property_2 : decode cX3_property 2 = .ok (.invokevirtual 57, 3) := by decide +kernel
theorem dX3_property_5 : decode cX3_property 5 = .ok (.ifCond .ne 5, 3) := by decide +kernel
theorem dX3_property_10 : decode cX3_property 10 = .ok (.iload_n 2, 1) := by decide +kernel
theorem dX3_property_11 : decode cX3_property 11 = .ok (.tableswitch 127 0 9 #[53, 60, 67, 74, 81, 87, 102, 108, 115, 121], 53) := by decide +kernel
theorem dX3_property_64 : decode cX3_property 64 = .ok (.aload_n 0, 1) := by decide +kernel
theorem dX3_property_65 : decode cX3_property 65 = .ok (.getfield 18, 3) := by decide +kernel
theorem dX3_property_68 : decode cX3_property 68 = .ok (.iload_n 1, 1) := by decide +kernel
theorem dX3_property_69 : decode cX3_property 69 = .ok (.iaload, 1) := by decide +kernel
theorem dX3_property_70 : decode cX3_property 70 = .ok (.ireturn, 1) := by decide +kernel
theorem dX3_property_71 : decode cX3_property 71 = .ok (.aload_n 0, 1) := by decide +kernel
theorem dX3_property_72 : decode cX3_property 72 = .ok (.getfield 22, 3) := by decide +kernel
theorem dX3_property_75 : decode cX3_property 75 = .ok (.iload_n 1, 1) := by decide +kernel
theorem dX3_property_76 : decode cX3_property 76 = .ok (.iaload, 1) := by decide +kernel
theorem dX3_property_77 : decode cX3_property 77 = .ok (.ireturn, 1) := by decide +kernel
theorem dX3_property_78 : decode cX3_property 78 = .ok (.aload_n 0, 1) := by decide +kernel
theorem dX3_property_79 : decode cX3_property 79 = .ok (.getfield 25, 3) := by decide +kernel
theorem dX3_property_82 : decode cX3_property 82 = .ok (.iload_n 1, 1) := by decide +kernel
theorem dX3_property_83 : decode cX3_property 83 = .ok (.iaload, 1) := by decide +kernel
theorem dX3_property_84 : decode cX3_property 84 = .ok (.ireturn, 1) := by decide +kernel
theorem dX3_property_85 : decode cX3_property 85 = .ok (.aload_n 0, 1) := by decide +kernel
theorem dX3_property_86 : decode cX3_property 86 = .ok (.getfield 28, 3) := by decide +kernel
theorem dX3_property_89 : decode cX3_property 89 = .ok (.iload_n 1, 1) := by decide +kernel
theorem dX3_property_90 : decode cX3_property 90 = .ok (.iaload, 1) := by decide +kernel
theorem dX3_property_91 : decode cX3_property 91 = .ok (.ireturn, 1) := by decide +kernel
theorem dX3_property_92 : decode cX3_property 92 = .ok (.aload_n 0, 1) := by decide +kernel
theorem dX3_property_93 : decode cX3_property 93 = .ok (.iload_n 1, 1) := by decide +kernel
theorem dX3_property_94 : decode cX3_property 94 = .ok (.invokevirtual 61, 3) := by decide +kernel
theorem dX3_property_97 : decode cX3_property 97 = .ok (.ireturn, 1) := by decide +kernel
theorem dX3_property_98 : decode cX3_property 98 = .ok (.aload_n 0, 1) := by decide +kernel
theorem dX3_property_99 : decode cX3_property 99 = .ok (.getfield 18, 3) := by decide +kernel
theorem dX3_property_102 : decode cX3_property 102 = .ok (.iload_n 1, 1) := by decide +kernel
theorem dX3_property_103 : decode cX3_property 103 = .ok (.iaload, 1) := by decide +kernel
theorem dX3_property_104 : decode cX3_property 104 = .ok (.aload_n 0, 1) := by decide +kernel
theorem dX3_property_105 : decode cX3_property 105 = .ok (.iload_n 1, 1) := by decide +kernel
theorem dX3_property_106 : decode cX3_property 106 = .ok (.invokevirtual 61, 3) := by decide +kernel
theorem dX3_property_109 : decode cX3_property 109 = .ok (.invokestatic 65, 3) := by decide +kernel
theorem dX3_property_112 : decode cX3_property 112 = .ok (.ireturn, 1) := by decide +kernel
theorem dX3_property_113 : decode cX3_property 113 = .ok (.aload_n 0, 1) := by decide +kernel
theorem dX3_property_114 : decode cX3_property 114 = .ok (.iload_n 1, 1) := by decide +kernel
theorem dX3_property_115 : decode cX3_property 115 = .ok (.invokevirtual 69, 3) := by decide +kernel
theorem dX3_property_118 : decode cX3_property 118 = .ok (.ireturn, 1) := by decide +kernel
theorem dX3_property_119 : decode cX3_property 119 = .ok (.aload_n 0, 1) := by decide +kernel
theorem dX3_property_120 : decode cX3_property 120 = .ok (.getfield 31, 3) := by decide +kernel
theorem dX3_property_123 : decode cX3_property 123 = .ok (.iload_n 1, 1) := by decide +kernel
theorem dX3_property_124 : decode cX3_property 124 = .ok (.iaload, 1) := by decide +kernel
theorem dX3_property_125 : decode cX3_property 125 = .ok (.ireturn, 1) := by decide +kernel
theorem dX3_property_126 : decode cX3_property 126 = .ok (.aload_n 0, 1) := by decide +kernel
theorem dX3_property_127 : decode cX3_property 127 = .ok (.iload_n 1, 1) := by decide +kernel
theorem dX3_property_128 : decode cX3_property 128 = .ok (.invokevirtual 72, 3) := by decide +kernel
theorem dX3_property_131 : decode cX3_property 131 = .ok (.ireturn, 1) := by decide +kernel
theorem dX3_property_132 : decode cX3_property 132 = .ok (.aload_n 0, 1) := by decide +kernel
theorem dX3_property_133 : decode cX3_property 133 = .ok (.iload_n 1, 1) := by decide +kernel
theorem dX3_property_134 : decode cX3_property 134 = .ok (.invokevirtual 75, 3) := by decide +kernel
theorem dX3_property_137 : decode cX3_property 137 = .ok (.ireturn, 1) := by decide +kernel
theorem dX3_property_138 : decode cX3_property 138 = .ok (.aload_n 0, 1) := by decide +kernel
theorem dX3_property_139 : decode cX3_property 139 = .ok (.iload_n 1, 1) := by decide +kernel
theorem dX3_property_140 : decode cX3_property 140 = .ok (.invokevirtual 78, 3) := by decide +kernel
theorem dX3_property_143 : decode cX3_property 143 = .ok (.ireturn, 1) := by decide +kernel
def q_X3_property (k : Nat) (S : zM) (z what : Int) : Int32 → zM → Prop := fun r S1 => r = zI (tPr (S k 0) z what) ∧ S = S1
def r_X3_property : Room := { frames := 3, cells := 0, slots := 0, locals := 71 }
set_option maxHeartbeats 4000000 in
set_option maxRecDepth 100000 in
theorem c_X3_property (l : Launch) (G : zG) (hG : zok G) (k : Nat) (hk : k < 8) (S : zM) (z what : Int) (hz : 0 ≤ z ∧ z < S k 0 4) (hwh : 0 ≤ what ∧ what ≤ 10) (hms : zMs S k) (hw : zW (S k 0))  : Met l yX3_property (Cond.code yX3_property cX3_property 3 (some FieldType.int) :: zTbl) r_X3_property (va_Pc [.ref (za G k 0), .int (zI z), .int (zI what)] (zB G S)) (va_Qi (q_X3_property k S z what) (zB G) (zA G)) 0 0 (zA G) := by
  refine zMet [(0, .ref (za G k 0)), (1, .int (zI z)), (2, .int (zI what))] hG (by decide) (Nat.le_of_ble_eq_true rfl) rfl (fun p e s m args below meth c ls h hx hb hr hH hl => ?_)
  have f4 := zW_4 hw
  have bt := tTm_in hw (show 0 ≤ z ∧ z < 8 by omega)
  refine lv_aload_n hx hb dX3_property_0 rfl (lv_at hl 0 rfl) ?_
  refine lv_iload_n hx hb dX3_property_1 rfl (lv_at hl 1 rfl) ?_
  refine zcVi h hH (zr_3 h hH hk) (As := [.int (zI z)]) (rest := []) (c_X3_hasZone l G hG k hk S z (by omega) hw) zce_X3_hasZone zcv_X3_hasZone zm_X3_57 hl.1 rfl rfl ⟨rfl, rfl⟩ ⟨Nat.le_of_ble_eq_true rfl, Nat.le_of_ble_eq_true rfl⟩ (Nat.le_of_ble_eq_true rfl) ⟨Nat.zero_le _, Nat.zero_le _⟩ dX3_property_2 (fun r_2 S_2 H locs hq hH => ?_)
  obtain ⟨b_2, rfl, hb_2, rfl⟩ := hq
  refine zb_ine (tgt := 10) h (by omega) dX3_property_5 (by decide) (fun c_5 => ?_) (fun c_5 => ?_)
  · refine lv_iload_n hx hb dX3_property_10 rfl (lv_at hl 2 rfl) ?_
    have x_11 : (zI what).toInt = what := zI_toInt (by omega) (by omega)
    by_cases e_11_0 : what = 0
    · refine lv_tableIn (tgt := 64) hx hb dX3_property_11 (by omega) (by omega) (show _ = some (53 : Int) by rw [x_11, e_11_0]; rfl) (by decide) ?_
      refine lv_aload_n hx hb dX3_property_64 rfl (lv_at hl 0 rfl) ?_
      refine zg_3_1 h hH hk zf_X3_18 dX3_property_65 ?_
      refine lv_iload_n hx hb dX3_property_68 rfl (lv_at hl 1 rfl) ?_
      refine zld_ar_de h hH hk (by omega) dX3_property_69 ?_
      have f_69 := zW_de hw (show 0 ≤ z ∧ z < 8 by omega)
      refine zri h hr hH ?_ dX3_property_70
      exact ⟨congrArg zI (by unfold tPr; simp only [e_11_0]; rfl), rfl⟩
    by_cases e_11_1 : what = 1
    · refine lv_tableIn (tgt := 71) hx hb dX3_property_11 (by omega) (by omega) (show _ = some (60 : Int) by rw [x_11, e_11_1]; rfl) (by decide) ?_
      refine lv_aload_n hx hb dX3_property_71 rfl (lv_at hl 0 rfl) ?_
      refine zg_3_2 h hH hk zf_X3_22 dX3_property_72 ?_
      refine lv_iload_n hx hb dX3_property_75 rfl (lv_at hl 1 rfl) ?_
      refine zld_ar_wa h hH hk (by omega) dX3_property_76 ?_
      have f_76 := zW_wa hw (show 0 ≤ z ∧ z < 8 by omega)
      refine zri h hr hH ?_ dX3_property_77
      exact ⟨congrArg zI (by unfold tPr; simp only [e_11_1]; rfl), rfl⟩
    by_cases e_11_2 : what = 2
    · refine lv_tableIn (tgt := 78) hx hb dX3_property_11 (by omega) (by omega) (show _ = some (67 : Int) by rw [x_11, e_11_2]; rfl) (by decide) ?_
      refine lv_aload_n hx hb dX3_property_78 rfl (lv_at hl 0 rfl) ?_
      refine zg_3_3 h hH hk zf_X3_25 dX3_property_79 ?_
      refine lv_iload_n hx hb dX3_property_82 rfl (lv_at hl 1 rfl) ?_
      refine zld_ar_bu h hH hk (by omega) dX3_property_83 ?_
      have f_83 := zW_bu hw (show 0 ≤ z ∧ z < 8 by omega)
      refine zri h hr hH ?_ dX3_property_84
      exact ⟨congrArg zI (by unfold tPr; simp only [e_11_2]; rfl), rfl⟩
    by_cases e_11_3 : what = 3
    · refine lv_tableIn (tgt := 85) hx hb dX3_property_11 (by omega) (by omega) (show _ = some (74 : Int) by rw [x_11, e_11_3]; rfl) (by decide) ?_
      refine lv_aload_n hx hb dX3_property_85 rfl (lv_at hl 0 rfl) ?_
      refine zg_3_4 h hH hk zf_X3_28 dX3_property_86 ?_
      refine lv_iload_n hx hb dX3_property_89 rfl (lv_at hl 1 rfl) ?_
      refine zld_ar_ho h hH hk (by omega) dX3_property_90 ?_
      have f_90 := zW_ho hw (show 0 ≤ z ∧ z < 8 by omega)
      refine zri h hr hH ?_ dX3_property_91
      exact ⟨congrArg zI (by unfold tPr; simp only [e_11_3]; rfl), rfl⟩
    by_cases e_11_4 : what = 4
    · refine lv_tableIn (tgt := 92) hx hb dX3_property_11 (by omega) (by omega) (show _ = some (81 : Int) by rw [x_11, e_11_4]; rfl) (by decide) ?_
      refine lv_aload_n hx hb dX3_property_92 rfl (lv_at hl 0 rfl) ?_
      refine lv_iload_n hx hb dX3_property_93 rfl (lv_at hl 1 rfl) ?_
      refine zcVi h hH (zr_3 h hH hk) (As := [.int (zI z)]) (rest := []) (c_X3_timeOf l G hG k hk S z (by omega) hw) zce_X3_timeOf zcv_X3_timeOf zm_X3_61 hl.1 rfl rfl ⟨rfl, rfl⟩ ⟨Nat.le_of_ble_eq_true rfl, Nat.le_of_ble_eq_true rfl⟩ (Nat.le_of_ble_eq_true rfl) ⟨Nat.zero_le _, Nat.zero_le _⟩ dX3_property_94 (fun r_94 S_94 H locs hq hH => ?_)
      obtain ⟨rfl, rfl⟩ := hq
      refine zri h hr hH ?_ dX3_property_97
      exact ⟨congrArg zI (by unfold tPr; simp only [e_11_4]; rfl), rfl⟩
    by_cases e_11_5 : what = 5
    · refine lv_tableIn (tgt := 98) hx hb dX3_property_11 (by omega) (by omega) (show _ = some (87 : Int) by rw [x_11, e_11_5]; rfl) (by decide) ?_
      refine lv_aload_n hx hb dX3_property_98 rfl (lv_at hl 0 rfl) ?_
      refine zg_3_1 h hH hk zf_X3_18 dX3_property_99 ?_
      refine lv_iload_n hx hb dX3_property_102 rfl (lv_at hl 1 rfl) ?_
      refine zld_ar_de h hH hk (by omega) dX3_property_103 ?_
      have f_103 := zW_de hw (show 0 ≤ z ∧ z < 8 by omega)
      refine lv_aload_n hx hb dX3_property_104 rfl (lv_at hl 0 rfl) ?_
      refine lv_iload_n hx hb dX3_property_105 rfl (lv_at hl 1 rfl) ?_
      refine zcVi h hH (zr_3 h hH hk) (As := [.int (zI z)]) (rest := [.int (zI (S k 0 (5 + 5 * z)))]) (c_X3_timeOf l G hG k hk S z (by omega) hw) zce_X3_timeOf zcv_X3_timeOf zm_X3_61 hl.1 rfl rfl ⟨rfl, rfl⟩ ⟨Nat.le_of_ble_eq_true rfl, Nat.le_of_ble_eq_true rfl⟩ (Nat.le_of_ble_eq_true rfl) ⟨Nat.zero_le _, Nat.zero_le _⟩ dX3_property_106 (fun r_106 S_106 H locs hq hH => ?_)
      obtain ⟨rfl, rfl⟩ := hq
      refine zcSi h hH (As := [.int (zI (S k 0 (5 + 5 * z))), .int (zI (tTm (S k 0) z))]) (rest := []) (c_X2_lightThrough l G hG S (S k 0 (5 + 5 * z)) (tTm (S k 0) z) (by omega) (by omega)) zce_X2_lightThrough zt_X2_lightThrough zm_X3_65 hl.1 rfl rfl ⟨rfl, rfl⟩ ⟨Nat.le_of_ble_eq_true rfl, Nat.le_of_ble_eq_true rfl⟩ (Nat.le_of_ble_eq_true rfl) ⟨Nat.zero_le _, Nat.zero_le _⟩ dX3_property_109 (fun r_109 S_109 H locs hq hH => ?_)
      obtain ⟨rfl, rfl⟩ := hq
      refine zri h hr hH ?_ dX3_property_112
      exact ⟨congrArg zI (by unfold tPr; simp only [e_11_5]; rfl), rfl⟩
    by_cases e_11_6 : what = 6
    · refine lv_tableIn (tgt := 113) hx hb dX3_property_11 (by omega) (by omega) (show _ = some (102 : Int) by rw [x_11, e_11_6]; rfl) (by decide) ?_
      refine lv_aload_n hx hb dX3_property_113 rfl (lv_at hl 0 rfl) ?_
      refine lv_iload_n hx hb dX3_property_114 rfl (lv_at hl 1 rfl) ?_
      refine zcVi h hH (zr_3 h hH hk) (As := [.int (zI z)]) (rest := []) (c_X3_toneOf l G hG k hk S z (by omega) hms hw) zce_X3_toneOf zcv_X3_toneOf zm_X3_69 hl.1 rfl rfl ⟨rfl, rfl⟩ ⟨Nat.le_of_ble_eq_true rfl, Nat.le_of_ble_eq_true rfl⟩ (Nat.le_of_ble_eq_true rfl) ⟨Nat.zero_le _, Nat.zero_le _⟩ dX3_property_115 (fun r_115 S_115 H locs hq hH => ?_)
      obtain ⟨rfl, rfl⟩ := hq
      refine zri h hr hH ?_ dX3_property_118
      exact ⟨congrArg zI (by unfold tPr; simp only [e_11_6]; rfl), rfl⟩
    by_cases e_11_7 : what = 7
    · refine lv_tableIn (tgt := 119) hx hb dX3_property_11 (by omega) (by omega) (show _ = some (108 : Int) by rw [x_11, e_11_7]; rfl) (by decide) ?_
      refine lv_aload_n hx hb dX3_property_119 rfl (lv_at hl 0 rfl) ?_
      refine zg_3_5 h hH hk zf_X3_31 dX3_property_120 ?_
      refine lv_iload_n hx hb dX3_property_123 rfl (lv_at hl 1 rfl) ?_
      refine zld_ar_nb h hH hk (by omega) dX3_property_124 ?_
      have f_124 := zW_nb hw (show 0 ≤ z ∧ z < 8 by omega)
      refine zri h hr hH ?_ dX3_property_125
      exact ⟨congrArg zI (by unfold tPr; simp only [e_11_7]; rfl), rfl⟩
    by_cases e_11_8 : what = 8
    · refine lv_tableIn (tgt := 126) hx hb dX3_property_11 (by omega) (by omega) (show _ = some (115 : Int) by rw [x_11, e_11_8]; rfl) (by decide) ?_
      refine lv_aload_n hx hb dX3_property_126 rfl (lv_at hl 0 rfl) ?_
      refine lv_iload_n hx hb dX3_property_127 rfl (lv_at hl 1 rfl) ?_
      refine zcVi h hH (zr_3 h hH hk) (As := [.int (zI z)]) (rest := []) (c_X3_leastNeed l G hG k hk S z (by omega) hms hw) zce_X3_leastNeed zcv_X3_leastNeed zm_X3_72 hl.1 rfl rfl ⟨rfl, rfl⟩ ⟨Nat.le_of_ble_eq_true rfl, Nat.le_of_ble_eq_true rfl⟩ (Nat.le_of_ble_eq_true rfl) ⟨Nat.zero_le _, Nat.zero_le _⟩ dX3_property_128 (fun r_128 S_128 H locs hq hH => ?_)
      obtain ⟨rfl, rfl⟩ := hq
      refine zri h hr hH ?_ dX3_property_131
      exact ⟨congrArg zI (by unfold tPr; simp only [e_11_8]; rfl), rfl⟩
    by_cases e_11_9 : what = 9
    · refine lv_tableIn (tgt := 132) hx hb dX3_property_11 (by omega) (by omega) (show _ = some (121 : Int) by rw [x_11, e_11_9]; rfl) (by decide) ?_
      refine lv_aload_n hx hb dX3_property_132 rfl (lv_at hl 0 rfl) ?_
      refine lv_iload_n hx hb dX3_property_133 rfl (lv_at hl 1 rfl) ?_
      refine zcVi h hH (zr_3 h hH hk) (As := [.int (zI z)]) (rest := []) (c_X3_greatestNeed l G hG k hk S z (by omega) hms hw) zce_X3_greatestNeed zcv_X3_greatestNeed zm_X3_75 hl.1 rfl rfl ⟨rfl, rfl⟩ ⟨Nat.le_of_ble_eq_true rfl, Nat.le_of_ble_eq_true rfl⟩ (Nat.le_of_ble_eq_true rfl) ⟨Nat.zero_le _, Nat.zero_le _⟩ dX3_property_134 (fun r_134 S_134 H locs hq hH => ?_)
      obtain ⟨rfl, rfl⟩ := hq
      refine zri h hr hH ?_ dX3_property_137
      exact ⟨congrArg zI (by unfold tPr; simp only [e_11_9]; rfl), rfl⟩
    refine lv_tableOut (tgt := 138) hx hb dX3_property_11 (by omega) (by decide) ?_
    refine lv_aload_n hx hb dX3_property_138 rfl (lv_at hl 0 rfl) ?_
    refine lv_iload_n hx hb dX3_property_139 rfl (lv_at hl 1 rfl) ?_
    refine zcVi h hH (zr_3 h hH hk) (As := [.int (zI z)]) (rest := []) (c_X3_spillOnto l G hG k hk S z (by omega) hw) zce_X3_spillOnto zcv_X3_spillOnto zm_X3_78 hl.1 rfl rfl ⟨rfl, rfl⟩ ⟨Nat.le_of_ble_eq_true rfl, Nat.le_of_ble_eq_true rfl⟩ (Nat.le_of_ble_eq_true rfl) ⟨Nat.zero_le _, Nat.zero_le _⟩ dX3_property_140 (fun r_140 S_140 H locs hq hH => ?_)
    obtain ⟨rfl, rfl⟩ := hq
    refine zri h hr hH ?_ dX3_property_143
    exact ⟨congrArg zI (by unfold tPr; rw [if_neg (by omega), if_neg (by omega), if_neg (by omega), if_neg (by omega), if_neg (by omega), if_neg (by omega), if_neg (by omega), if_neg (by omega), if_neg (by omega), if_neg (by omega)]), rfl⟩
  · exact absurd c_5 (by omega)
theorem dX3_areNeighbours_0 : decode cX3_areNeighbours 0 = .ok (.aload_n 0, 1) := by decide +kernel
theorem dX3_areNeighbours_1 : decode cX3_areNeighbours 1 = .ok (.iload_n 1, 1) := by decide +kernel
theorem dX3_areNeighbours_2 : decode cX3_areNeighbours 2 = .ok (.invokevirtual 57, 3) := by decide +kernel
theorem dX3_areNeighbours_5 : decode cX3_areNeighbours 5 = .ok (.ifCond .eq 21, 3) := by decide +kernel
theorem dX3_areNeighbours_8 : decode cX3_areNeighbours 8 = .ok (.aload_n 0, 1) := by decide +kernel
theorem dX3_areNeighbours_9 : decode cX3_areNeighbours 9 = .ok (.getfield 31, 3) := by decide +kernel
theorem dX3_areNeighbours_12 : decode cX3_areNeighbours 12 = .ok (.iload_n 1, 1) := by decide +kernel
theorem dX3_areNeighbours_13 : decode cX3_areNeighbours 13 = .ok (.iaload, 1) := by decide +kernel
theorem dX3_areNeighbours_14 : decode cX3_areNeighbours 14 = .ok (.iload_n 2, 1) := by decide +kernel
theorem dX3_areNeighbours_15 : decode cX3_areNeighbours 15 = .ok (.ishr, 1) := by decide +kernel
theorem dX3_areNeighbours_16 : decode cX3_areNeighbours 16 = .ok (.iconst 1, 1) := by decide +kernel
theorem dX3_areNeighbours_17 : decode cX3_areNeighbours 17 = .ok (.iand, 1) := by decide +kernel
theorem dX3_areNeighbours_18 : decode cX3_areNeighbours 18 = .ok (.iconst 1, 1) := by decide +kernel
theorem dX3_areNeighbours_19 : decode cX3_areNeighbours 19 = .ok (.if_icmp .ne 7, 3) := by decide +kernel
theorem dX3_areNeighbours_22 : decode cX3_areNeighbours 22 = .ok (.iconst 1, 1) := by decide +kernel
theorem dX3_areNeighbours_23 : decode cX3_areNeighbours 23 = .ok (.goto 4, 3) := by decide +kernel
theorem dX3_areNeighbours_26 : decode cX3_areNeighbours 26 = .ok (.iconst 0, 1) := by decide +kernel
theorem dX3_areNeighbours_27 : decode cX3_areNeighbours 27 = .ok (.ireturn, 1) := by decide +kernel
def q_X3_areNeighbours (k : Nat) (S : zM) (a b : Int) : Int32 → zM → Prop := fun r S1 => ∃ bb : Int, r = zI bb ∧ (bb = 1 ∧ (S k 0 (5 + 5 * a + 4) / 2 ^ b.toNat % 2 = 1) ∨ bb = 0 ∧ ¬ (S k 0 (5 + 5 * a + 4) / 2 ^ b.toNat % 2 = 1)) ∧ S = S1
def r_X3_areNeighbours : Room := { frames := 1, cells := 0, slots := 0, locals := 21 }
set_option maxHeartbeats 4000000 in
set_option maxRecDepth 100000 in
theorem c_X3_areNeighbours (l : Launch) (G : zG) (hG : zok G) (k : Nat) (hk : k < 8) (S : zM) (a b : Int) (ha : 0 ≤ a ∧ a < S k 0 4) (hb2 : 0 ≤ b ∧ b < 8) (hw : zW (S k 0)) : Met l yX3_areNeighbours (Cond.code yX3_areNeighbours cX3_areNeighbours 3 (some FieldType.boolean) :: zTbl) r_X3_areNeighbours (va_Pc [.ref (za G k 0), .int (zI a), .int (zI b)] (zB G S)) (va_Qi (q_X3_areNeighbours k S a b) (zB G) (zA G)) 0 0 (zA G) := by
  refine zMet [(0, .ref (za G k 0)), (1, .int (zI a)), (2, .int (zI b))] hG (by decide) (Nat.le_of_ble_eq_true rfl) rfl (fun p e s m args below meth c ls h hx hb hr hH hl => ?_)
  have f4 := zW_4 hw
  refine lv_aload_n hx hb dX3_areNeighbours_0 rfl (lv_at hl 0 rfl) ?_
  refine lv_iload_n hx hb dX3_areNeighbours_1 rfl (lv_at hl 1 rfl) ?_
  refine zcVi h hH (zr_3 h hH hk) (As := [.int (zI a)]) (rest := []) (c_X3_hasZone l G hG k hk S a (by omega) hw) zce_X3_hasZone zcv_X3_hasZone zm_X3_57 hl.1 rfl rfl ⟨rfl, rfl⟩ ⟨Nat.le_of_ble_eq_true rfl, Nat.le_of_ble_eq_true rfl⟩ (Nat.le_of_ble_eq_true rfl) ⟨Nat.zero_le _, Nat.zero_le _⟩ dX3_areNeighbours_2 (fun r_2 S_2 H locs hq hH => ?_)
  obtain ⟨b_2, rfl, hb_2, rfl⟩ := hq
  refine zb_ieq (tgt := 26) h (by omega) dX3_areNeighbours_5 (by decide) (fun c_5 => ?_) (fun c_5 => ?_)
  · exact absurd c_5 (by omega)
  · refine lv_aload_n hx hb dX3_areNeighbours_8 rfl (lv_at hl 0 rfl) ?_
    refine zg_3_5 h hH hk zf_X3_31 dX3_areNeighbours_9 ?_
    refine lv_iload_n hx hb dX3_areNeighbours_12 rfl (lv_at hl 1 rfl) ?_
    refine zld_ar_nb h hH hk (by omega) dX3_areNeighbours_13 ?_
    have f_13 := zW_nb hw (show 0 ≤ a ∧ a < 8 by omega)
    refine lv_iload_n hx hb dX3_areNeighbours_14 rfl (lv_at hl 2 rfl) ?_
    refine zb_ishr h (by omega) (by omega) dX3_areNeighbours_15 ?_
    refine zb_ic h dX3_areNeighbours_16 ?_
    have b_17 := zdiv_le f_13.1 (zpow_pos b.toNat)
    refine zb_and1 h (by omega) dX3_areNeighbours_17 ?_
    refine zb_ic h dX3_areNeighbours_18 ?_
    refine zb_cne (tgt := 26) h (by omega) (by omega) dX3_areNeighbours_19 (by decide) (fun c_19 => ?_) (fun c_19 => ?_)
    · refine zb_ic h dX3_areNeighbours_26 ?_
      refine zrz h hr hH (by omega) ?_ dX3_areNeighbours_27
      exact ⟨_, rfl, by omega, rfl⟩
    · refine zb_ic h dX3_areNeighbours_22 ?_
      refine lv_goto (tgt := 27) hx hb dX3_areNeighbours_23 (by decide) ?_
      refine zrz h hr hH (by omega) ?_ dX3_areNeighbours_27
      exact ⟨_, rfl, by omega, rfl⟩
