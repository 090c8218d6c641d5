theorem dX5_bestGrade_0 : decode cX5_bestGrade 0 = .ok (.aload_n 0, 1) := by decide +kernel
theorem dX5_bestGrade_1 : decode cX5_bestGrade 1 = .ok (.iconst 0, 1) := by decide +kernel
theorem dX5_bestGrade_2 : decode cX5_bestGrade 2 = .ok (.putfield 28, 3) := by decide +kernel
theorem dX5_bestGrade_5 : decode cX5_bestGrade 5 = .ok (.aload_n 0, 1) := by decide +kernel
theorem dX5_bestGrade_6 : decode cX5_bestGrade 6 = .ok (.invokevirtual 200, 3) := by decide +kernel
theorem dX5_bestGrade_9 : decode cX5_bestGrade 9 = .ok (.ireturn, 1) := by decide +kernel
def q_X5_bestGrade (S : zM) : Int32 → zM → Prop := fun r S1 => r = zI (tBgr (S 9 1)) ∧ ∃ A' M' L', zMo S (zup (S 9 0) 0 0) (S 9 1) A' (S 9 3) (S 9 4) M' L' = S1
def r_X5_bestGrade : Room := { frames := 8, cells := 0, slots := 0, locals := 192 }
set_option maxHeartbeats 4000000 in
set_option maxRecDepth 100000 in
theorem c_X5_bestGrade (l : Launch) (G : zG) (hG : zok G) (S : zM) (hnl : zNl (S 9 1)) (hw : zW (S 9 1)) : Met l yX5_bestGrade (Cond.code yX5_bestGrade cX5_bestGrade 1 (some FieldType.int) :: zTbl) r_X5_bestGrade (va_Pc [.ref (za G 9 0)] (zB G S)) (va_Qi (q_X5_bestGrade S) (zB G) (zA G)) 0 0 (zA G) := by
  refine zMet [(0, .ref (za G 9 0))] hG (by decide) (Nat.le_of_ble_eq_true rfl) rfl (fun p e s m args below meth c ls h hx hb hr hH hl => ?_)
  rw [← zM_id S] at hH
  refine lv_aload_n hx hb dX5_bestGrade_0 rfl (lv_at hl 0 rfl) ?_
  refine zb_ic h dX5_bestGrade_1 ?_
  refine zu_5_0 h hH zf_X5_28 dX5_bestGrade_2 (fun H locs hH => ?_)
  rw [zs_M0] at hH
  refine lv_aload_n hx hb dX5_bestGrade_5 rfl (lv_at hl 0 rfl) ?_
  refine zcVi h hH (zr_5 h hH) (As := []) (rest := []) (c_X5_bestPaper l G hG (zMo S (zup (S 9 0) 0 0) (S 9 1) (S 9 2) (S 9 3) (S 9 4) (S 9 5) (S 9 6)) (by rw [zM_1]; exact hnl) (zM_hw hw)) zce_X5_bestPaper zcv_X5_bestPaper zm_X5_200 hl.1 rfl rfl ⟨rfl, rfl⟩ ⟨Nat.le_of_ble_eq_true rfl, Nat.le_of_ble_eq_true rfl⟩ (Nat.le_of_ble_eq_true rfl) ⟨Nat.zero_le _, Nat.zero_le _⟩ dX5_bestGrade_6 (fun r_6 S_6 H locs hq hH => ?_)
  obtain ⟨rfl, A_6, M_6, L_6, rfl⟩ := hq
  simp only [zM_M, zM_0, zM_1, zM_2, zM_3, zM_4, zM_5, zM_6] at hH
  rw [zM_1]
  refine zri h hr hH ?_ dX5_bestGrade_9
  exact ⟨rfl, _, _, _, rfl⟩
theorem dX5_share_0 : decode cX5_share 0 = .ok (.aload_n 0, 1) := by decide +kernel
theorem dX5_share_1 : decode cX5_share 1 = .ok (.getfield 7, 3) := by decide +kernel
theorem dX5_share_4 : decode cX5_share 4 = .ok (.iconst 4, 1) := by decide +kernel
theorem dX5_share_5 : decode cX5_share 5 = .ok (.iaload, 1) := by decide +kernel
theorem dX5_share_6 : decode cX5_share 6 = .ok (.ifCond .ne 7, 3) := by decide +kernel
theorem dX5_share_9 : decode cX5_share 9 = .ok (.dconst 1, 1) := by decide +kernel
theorem dX5_share_10 : decode cX5_share 10 = .ok (.goto 16, 3) := by decide +kernel
theorem dX5_share_13 : decode cX5_share 13 = .ok (.aload_n 0, 1) := by decide +kernel
theorem dX5_share_14 : decode cX5_share 14 = .ok (.invokevirtual 107, 3) := by decide +kernel
theorem dX5_share_17 : decode cX5_share 17 = .ok (.i2d, 1) := by decide +kernel
theorem dX5_share_18 : decode cX5_share 18 = .ok (.aload_n 0, 1) := by decide +kernel
theorem dX5_share_19 : decode cX5_share 19 = .ok (.getfield 7, 3) := by decide +kernel
theorem dX5_share_22 : decode cX5_share 22 = .ok (.iconst 4, 1) := by decide +kernel
theorem dX5_share_23 : decode cX5_share 23 = .ok (.iaload, 1) := by decide +kernel
theorem dX5_share_24 : decode cX5_share 24 = .ok (.i2d, 1) := by decide +kernel
theorem dX5_share_25 : decode cX5_share 25 = .ok (.ddiv, 1) := by decide +kernel
theorem dX5_share_26 : decode cX5_share 26 = .ok (.dreturn, 1) := by decide +kernel
def q_X5_share (S : zM) : UInt64 → zM → Prop := fun r S1 => r = zShv (tCnt (S 9 1) 0) (S 9 1 4) ∧ ∃ M', zMo S (S 9 0) (S 9 1) (S 9 2) (S 9 3) (S 9 4) M' (S 9 6) = S1
def r_X5_share : Room := { frames := 6, cells := 0, slots := 0, locals := 133 }
set_option maxHeartbeats 4000000 in
set_option maxRecDepth 100000 in
theorem c_X5_share (l : Launch) (G : zG) (hG : zok G) (S : zM) (hw : zW (S 9 1)) : Met l yX5_share (Cond.code yX5_share cX5_share 1 (some FieldType.double) :: zTbl) r_X5_share (va_Pc [.ref (za G 9 0)] (zB G S)) (va_Qd (q_X5_share S) (zB G) (zA G)) 0 0 (zA G) := by
  refine zMet [(0, .ref (za G 9 0))] hG (by decide) (Nat.le_of_ble_eq_true rfl) rfl (fun p e s m args below meth c ls h hx hb hr hH hl => ?_)
  rw [← zM_id S] at hH
  have f4 := zW_4 hw
  have bC := tCnt_in hw 0
  refine lv_aload_n hx hb dX5_share_0 rfl (lv_at hl 0 rfl) ?_
  refine zg_5_1 h hH zf_X5_7 dX5_share_1 ?_
  refine zb_ic h dX5_share_4 ?_
  refine zld_ar_s h hH (by omega) dX5_share_5 ?_
  rw [zM_1]
  have f_5 := zW_4 hw
  refine zb_ine (tgt := 13) h (by omega) dX5_share_6 (by decide) (fun c_6 => ?_) (fun c_6 => ?_)
  · refine lv_aload_n hx hb dX5_share_13 rfl (lv_at hl 0 rfl) ?_
    refine zcVi h hH (zr_5 h hH) (As := []) (rest := []) (c_X5_right l G hG (zMo S (S 9 0) (S 9 1) (S 9 2) (S 9 3) (S 9 4) (S 9 5) (S 9 6)) (zM_hw hw)) zce_X5_right zcv_X5_right zm_X5_107 hl.1 rfl rfl ⟨rfl, rfl⟩ ⟨Nat.le_of_ble_eq_true rfl, Nat.le_of_ble_eq_true rfl⟩ (Nat.le_of_ble_eq_true rfl) ⟨Nat.zero_le _, Nat.zero_le _⟩ dX5_share_14 (fun r_14 S_14 H locs hq hH => ?_)
    obtain ⟨rfl, M_14, rfl⟩ := hq
    simp only [zM_M, zM_0, zM_1, zM_2, zM_3, zM_4, zM_5, zM_6] at hH
    rw [zM_1]
    refine lv_i2d hx hb dX5_share_17 ?_
    refine lv_aload_n hx hb dX5_share_18 rfl (lv_at hl 0 rfl) ?_
    refine zg_5_1 h hH zf_X5_7 dX5_share_19 ?_
    refine zb_ic h dX5_share_22 ?_
    refine zld_ar_s h hH (by omega) dX5_share_23 ?_
    rw [zM_1]
    have f_23 := zW_4 hw
    refine lv_i2d hx hb dX5_share_24 ?_
    refine lv_ddiv hx hb dX5_share_25 (zDv_of (by omega) (by omega)) ?_
    refine zrd h hr hH ?_ dX5_share_26
    first | exact ⟨by unfold zShv; rw [if_pos c_6], _, rfl⟩ | exact ⟨by unfold zShv; rw [if_neg c_6], _, rfl⟩
  · refine lv_dconst1 hx hb dX5_share_9 ?_
    refine lv_goto (tgt := 26) hx hb dX5_share_10 (by decide) ?_
    refine zrd h hr hH ?_ dX5_share_26
    first | exact ⟨by unfold zShv; rw [if_pos c_6], _, rfl⟩ | exact ⟨by unfold zShv; rw [if_neg c_6], _, rfl⟩
theorem dX5_rightShare_0 : decode cX5_rightShare 0 = .ok (.aload_n 0, 1) := by decide +kernel
theorem dX5_rightShare_1 : decode cX5_rightShare 1 = .ok (.iconst 0, 1) := by decide +kernel
theorem dX5_rightShare_2 : decode cX5_rightShare 2 = .ok (.putfield 28, 3) := by decide +kernel
theorem dX5_rightShare_5 : decode cX5_rightShare 5 = .ok (.aload_n 0, 1) := by decide +kernel
theorem dX5_rightShare_6 : decode cX5_rightShare 6 = .ok (.invokevirtual 209, 3) := by decide +kernel
theorem dX5_rightShare_9 : decode cX5_rightShare 9 = .ok (.dreturn, 1) := by decide +kernel
def q_X5_rightShare (S : zM) : UInt64 → zM → Prop := fun r S1 => r = zShv (tCnt (S 9 1) 0) (S 9 1 4) ∧ ∃ M', zMo S (zup (S 9 0) 0 0) (S 9 1) (S 9 2) (S 9 3) (S 9 4) M' (S 9 6) = S1
def r_X5_rightShare : Room := { frames := 7, cells := 0, slots := 0, locals := 153 }
set_option maxHeartbeats 4000000 in
set_option maxRecDepth 100000 in
theorem c_X5_rightShare (l : Launch) (G : zG) (hG : zok G) (S : zM) (hw : zW (S 9 1)) : Met l yX5_rightShare (Cond.code yX5_rightShare cX5_rightShare 1 (some FieldType.double) :: zTbl) r_X5_rightShare (va_Pc [.ref (za G 9 0)] (zB G S)) (va_Qd (q_X5_rightShare S) (zB G) (zA G)) 0 0 (zA G) := by
  refine zMet [(0, .ref (za G 9 0))] hG (by decide) (Nat.le_of_ble_eq_true rfl) rfl (fun p e s m args below meth c ls h hx hb hr hH hl => ?_)
  rw [← zM_id S] at hH
  refine lv_aload_n hx hb dX5_rightShare_0 rfl (lv_at hl 0 rfl) ?_
  refine zb_ic h dX5_rightShare_1 ?_
  refine zu_5_0 h hH zf_X5_28 dX5_rightShare_2 (fun H locs hH => ?_)
  rw [zs_M0] at hH
  refine lv_aload_n hx hb dX5_rightShare_5 rfl (lv_at hl 0 rfl) ?_
  refine zcVd h hH (zr_5 h hH) (As := []) (rest := []) (c_X5_share l G hG (zMo S (zup (S 9 0) 0 0) (S 9 1) (S 9 2) (S 9 3) (S 9 4) (S 9 5) (S 9 6)) (zM_hw hw)) zce_X5_share zcv_X5_share zm_X5_209 hl.1 rfl rfl ⟨rfl, rfl⟩ ⟨Nat.le_of_ble_eq_true rfl, Nat.le_of_ble_eq_true rfl⟩ (Nat.le_of_ble_eq_true rfl) ⟨Nat.zero_le _, Nat.zero_le _⟩ dX5_rightShare_6 (fun r_6 S_6 H locs hq hH => ?_)
  obtain ⟨rfl, M_6, rfl⟩ := hq
  simp only [zM_M, zM_0, zM_1, zM_2, zM_3, zM_4, zM_5, zM_6] at hH
  rw [zM_1]
  refine zrd h hr hH ?_ dX5_rightShare_9
  exact ⟨rfl, _, rfl⟩
theorem dX4_rightShare_0 : decode cX4_rightShare 0 = .ok (.aload_n 0, 1) := by decide +kernel
theorem dX4_rightShare_1 : decode cX4_rightShare 1 = .ok (.getfield 10, 3) := by decide +kernel
theorem dX4_rightShare_4 : decode cX4_rightShare 4 = .ok (.getfield 213, 3) := by decide +kernel
theorem dX4_rightShare_7 : decode cX4_rightShare 7 = .ok (.iconst 1, 1) := by decide +kernel
theorem dX4_rightShare_8 : decode cX4_rightShare 8 = .ok (.if_icmp .ge 5, 3) := by decide +kernel
theorem dX4_rightShare_11 : decode cX4_rightShare 11 = .ok (.dconst 1, 1) := by decide +kernel
theorem dX4_rightShare_12 : decode cX4_rightShare 12 = .ok (.dreturn, 1) := by decide +kernel
theorem dX4_rightShare_13 : decode cX4_rightShare 13 = .ok (.aload_n 0, 1) := by decide +kernel
theorem dX4_rightShare_14 : decode cX4_rightShare 14 = .ok (.getfield 10, 3) := by decide +kernel
theorem dX4_rightShare_17 : decode cX4_rightShare 17 = .ok (.iconst 0, 1) := by decide +kernel
theorem dX4_rightShare_18 : decode cX4_rightShare 18 = .ok (.invokevirtual 98, 3) := by decide +kernel
theorem dX4_rightShare_21 : decode cX4_rightShare 21 = .ok (.i2d, 1) := by decide +kernel
theorem dX4_rightShare_22 : decode cX4_rightShare 22 = .ok (.aload_n 0, 1) := by decide +kernel
theorem dX4_rightShare_23 : decode cX4_rightShare 23 = .ok (.getfield 10, 3) := by decide +kernel
theorem dX4_rightShare_26 : decode cX4_rightShare 26 = .ok (.getfield 213, 3) := by decide +kernel
theorem dX4_rightShare_29 : decode cX4_rightShare 29 = .ok (.i2d, 1) := by decide +kernel
theorem dX4_rightShare_30 : decode cX4_rightShare 30 = .ok (.ddiv, 1) := by decide +kernel
theorem dX4_rightShare_31 : decode cX4_rightShare 31 = .ok (.dreturn, 1) := by decide +kernel
def q_X4_rightShare (S : zM) : UInt64 → zM → Prop := fun r S1 => r = zShv (tCnt (S 0 0) 0) (S 0 0 4) ∧ S = S1
def r_X4_rightShare : Room := { frames := 4, cells := 0, slots := 0, locals := 90 }
set_option maxHeartbeats 4000000 in
set_option maxRecDepth 100000 in
theorem c_X4_rightShare (l : Launch) (G : zG) (hG : zok G) (S : zM) (hms : zMs S 0) (hw : zW (S 0 0))  : Met l yX4_rightShare (Cond.code yX4_rightShare cX4_rightShare 1 (some FieldType.double) :: zTbl) r_X4_rightShare (va_Pc [.ref (za G 8 0)] (zB G S)) (va_Qd (q_X4_rightShare S) (zB G) (zA G)) 0 0 (zA G) := by
  refine zMet [(0, .ref (za G 8 0))] hG (by decide) (Nat.le_of_ble_eq_true rfl) rfl (fun p e s m args below meth c ls h hx hb hr hH hl => ?_)
  have f4 := zW_4 hw
  have bC := tCnt_in hw 0
  refine lv_aload_n hx hb dX4_rightShare_0 rfl (lv_at hl 0 rfl) ?_
  refine zg_4_0 h hH zf_X4_10 dX4_rightShare_1 ?_
  refine zgn_3_7 h hH (by omega) zfn_X4_213 dX4_rightShare_4 ?_
  have f_4 := zW_4 hw
  refine zb_ic h dX4_rightShare_7 ?_
  refine zb_cge (tgt := 13) h (by omega) (by omega) dX4_rightShare_8 (by decide) (fun c_8 => ?_) (fun c_8 => ?_)
  · refine lv_aload_n hx hb dX4_rightShare_13 rfl (lv_at hl 0 rfl) ?_
    refine zg_4_0 h hH zf_X4_10 dX4_rightShare_14 ?_
    refine zb_ic h dX4_rightShare_17 ?_
    refine zcVi h hH (zr_3 h hH (by omega)) (As := [.int (zI 0)]) (rest := []) (c_X3_zonesOff l G hG 0 (by omega) S 0 (by omega) hms hw) zce_X3_zonesOff zcv_X3_zonesOff zm_X4_98 hl.1 rfl rfl ⟨rfl, rfl⟩ ⟨Nat.le_of_ble_eq_true rfl, Nat.le_of_ble_eq_true rfl⟩ (Nat.le_of_ble_eq_true rfl) ⟨Nat.zero_le _, Nat.zero_le _⟩ dX4_rightShare_18 (fun r_18 S_18 H locs hq hH => ?_)
    obtain ⟨rfl, rfl⟩ := hq
    refine lv_i2d hx hb dX4_rightShare_21 ?_
    refine lv_aload_n hx hb dX4_rightShare_22 rfl (lv_at hl 0 rfl) ?_
    refine zg_4_0 h hH zf_X4_10 dX4_rightShare_23 ?_
    refine zgn_3_7 h hH (by omega) zfn_X4_213 dX4_rightShare_26 ?_
    have f_26 := zW_4 hw
    refine lv_i2d hx hb dX4_rightShare_29 ?_
    refine lv_ddiv hx hb dX4_rightShare_30 (zDv_of (by omega) (by omega)) ?_
    refine zrd h hr hH ?_ dX4_rightShare_31
    exact ⟨by unfold zShv; rw [if_neg (by omega)], rfl⟩
  · refine lv_dconst1 hx hb dX4_rightShare_11 ?_
    refine zrd h hr hH ?_ dX4_rightShare_12
    have e4 : S 0 0 4 = 0 := by omega
    exact ⟨by unfold zShv; rw [if_pos e4], rfl⟩
theorem dX4_bitsOf_0 : decode cX4_bitsOf 0 = .ok (.dload_n 0, 1) := by decide +kernel
theorem dX4_bitsOf_1 : decode cX4_bitsOf 1 = .ok (.dconst 0, 1) := by decide +kernel
theorem dX4_bitsOf_2 : decode cX4_bitsOf 2 = .ok (.dcmp .g, 1) := by decide +kernel
theorem dX4_bitsOf_3 : decode cX4_bitsOf 3 = .ok (.ifCond .gt 5, 3) := by decide +kernel
theorem dX4_bitsOf_6 : decode cX4_bitsOf 6 = .ok (.lconst 0, 1) := by decide +kernel
theorem dX4_bitsOf_7 : decode cX4_bitsOf 7 = .ok (.lreturn, 1) := by decide +kernel
theorem dX4_bitsOf_8 : decode cX4_bitsOf 8 = .ok (.dload_n 0, 1) := by decide +kernel
theorem dX4_bitsOf_9 : decode cX4_bitsOf 9 = .ok (.dstore_n 2, 1) := by decide +kernel
theorem dX4_bitsOf_10 : decode cX4_bitsOf 10 = .ok (.ldc2_w 238, 3) := by decide +kernel
theorem dX4_bitsOf_13 : decode cX4_bitsOf 13 = .ok (.lstore 4, 2) := by decide +kernel
theorem dX4_bitsOf_15 : decode cX4_bitsOf 15 = .ok (.dload_n 2, 1) := by decide +kernel
theorem dX4_bitsOf_16 : decode cX4_bitsOf 16 = .ok (.dconst 1, 1) := by decide +kernel
theorem dX4_bitsOf_17 : decode cX4_bitsOf 17 = .ok (.dcmp .g, 1) := by decide +kernel
theorem dX4_bitsOf_18 : decode cX4_bitsOf 18 = .ok (.ifCond .ge 25, 3) := by decide +kernel
theorem dX4_bitsOf_21 : decode cX4_bitsOf 21 = .ok (.lload 4, 2) := by decide +kernel
theorem dX4_bitsOf_23 : decode cX4_bitsOf 23 = .ok (.lconst 0, 1) := by decide +kernel
theorem dX4_bitsOf_24 : decode cX4_bitsOf 24 = .ok (.lcmp, 1) := by decide +kernel
theorem dX4_bitsOf_25 : decode cX4_bitsOf 25 = .ok (.ifCond .le 18, 3) := by decide +kernel
theorem dX4_bitsOf_28 : decode cX4_bitsOf 28 = .ok (.dload_n 2, 1) := by decide +kernel
theorem dX4_bitsOf_29 : decode cX4_bitsOf 29 = .ok (.ldc2_w 240, 3) := by decide +kernel
theorem dX4_bitsOf_32 : decode cX4_bitsOf 32 = .ok (.dmul, 1) := by decide +kernel
theorem dX4_bitsOf_33 : decode cX4_bitsOf 33 = .ok (.dstore_n 2, 1) := by decide +kernel
theorem dX4_bitsOf_34 : decode cX4_bitsOf 34 = .ok (.lload 4, 2) := by decide +kernel
theorem dX4_bitsOf_36 : decode cX4_bitsOf 36 = .ok (.lconst 1, 1) := by decide +kernel
theorem dX4_bitsOf_37 : decode cX4_bitsOf 37 = .ok (.lsub, 1) := by decide +kernel
theorem dX4_bitsOf_38 : decode cX4_bitsOf 38 = .ok (.lstore 4, 2) := by decide +kernel
theorem dX4_bitsOf_40 : decode cX4_bitsOf 40 = .ok (.goto (-25), 3) := by decide +kernel
theorem dX4_bitsOf_43 : decode cX4_bitsOf 43 = .ok (.lload 4, 2) := by decide +kernel
theorem dX4_bitsOf_45 : decode cX4_bitsOf 45 = .ok (.bipush 52, 2) := by decide +kernel
theorem dX4_bitsOf_47 : decode cX4_bitsOf 47 = .ok (.lshl, 1) := by decide +kernel
theorem dX4_bitsOf_48 : decode cX4_bitsOf 48 = .ok (.dload_n 2, 1) := by decide +kernel
theorem dX4_bitsOf_49 : decode cX4_bitsOf 49 = .ok (.dconst 1, 1) := by decide +kernel
theorem dX4_bitsOf_50 : decode cX4_bitsOf 50 = .ok (.dsub, 1) := by decide +kernel
theorem dX4_bitsOf_51 : decode cX4_bitsOf 51 = .ok (.ldc2_w 242, 3) := by decide +kernel
theorem dX4_bitsOf_54 : decode cX4_bitsOf 54 = .ok (.dmul, 1) := by decide +kernel
theorem dX4_bitsOf_55 : decode cX4_bitsOf 55 = .ok (.d2l, 1) := by decide +kernel
theorem dX4_bitsOf_56 : decode cX4_bitsOf 56 = .ok (.ladd, 1) := by decide +kernel
theorem dX4_bitsOf_57 : decode cX4_bitsOf 57 = .ok (.lreturn, 1) := by decide +kernel
def q_X4_bitsOf (S : zM) (q n : Int) : Int64 → zM → Prop := fun r S1 => r = zL (zBt q n) ∧ S = S1
def r_X4_bitsOf : Room := { frames := 0, cells := 0, slots := 0, locals := 0 }
set_option maxHeartbeats 4000000 in
set_option maxRecDepth 100000 in
theorem c_X4_bitsOf (l : Launch) (G : zG) (hG : zok G) (S : zM) (q n : Int) (hn : 0 ≤ n ∧ n ≤ 8) (hq : 0 ≤ q ∧ q ≤ n) : Met l yX4_bitsOf (Cond.code yX4_bitsOf cX4_bitsOf 6 (some FieldType.long) :: zTbl) r_X4_bitsOf (va_Pc [.double (zShv q n)] (zB G S)) (va_Ql (q_X4_bitsOf S q n) (zB G) (zA G)) 0 0 (zA G) := by
  refine zMet [(0, .double (zShv q n))] hG (by decide) (Nat.le_of_ble_eq_true rfl) rfl (fun p e s m args below meth c ls h hx hb hr hH hl => ?_)
  have C15 : ∀ (fu : Nat) (k : Int) (H : Heap) (locs : List Loc) (ls : Array Slot), (3 - k).toNat < fu → (0 ≤ k ∧ k ≤ (zKf q n : Int)) → (¬ (n ≠ 0 ∧ q = 0)) → zH G S s H locs → lv_has ls 6 [(0, .double (zShv q n)), (2, .double (dIt (zShv q n) k.toNat)), (4, .long (zL (1023 - k)))] → W p l e r_X4_bitsOf s m args below meth c H locs 0 0 (MQ below (va_Ql (q_X4_bitsOf S q n) (zB G) (zA G)) args s 0 0 (zA G)) (F0 m 15 ls []) := by
    intro fu
    induction fu with
    | zero => intro k H locs ls hfu; omega
    | succ fu ih15 =>
      intro k H locs ls hfu hk hs0 hH hl
      have hB := zBp_of hn hq (by omega)
      have hB3 := hB.1
      obtain ⟨cm, hcb, hcm, hke⟩ : ∃ cm : Int, (-1 ≤ cm ∧ cm ≤ 1) ∧ Op.cmpValue (FP.dcmp (dIt (zShv q n) k.toNat) FP.dconst1) .g = zI cm ∧ ((0 ≤ cm → k.toNat = zKf q n) ∧ (cm < 0 → k.toNat < zKf q n)) := by
        by_cases c : k.toNat < zKf q n
        · exact ⟨-1, by omega, (hB.2.2.1 _ c).1, fun z => by omega, fun _ => c⟩
        · have e : k.toNat = zKf q n := by omega
          rcases hB.2.2.2.1 with z | z
          · exact ⟨0, by omega, by rw [e]; exact z, fun _ => e, fun w => by omega⟩
          · exact ⟨1, by omega, by rw [e]; exact z, fun _ => e, fun w => by omega⟩
      refine lv_dload_n hx hb dX4_bitsOf_15 rfl (lv_at hl 1 rfl) ?_
      refine lv_dconst1 hx hb dX4_bitsOf_16 ?_
      refine lv_dcmp hx hb dX4_bitsOf_17 ?_
      rw [hcm]
      refine zb_ige (tgt := 43) h (by omega) dX4_bitsOf_18 (by decide) (fun c_18 => ?_) (fun c_18 => ?_)
      · have hKe : k.toNat = zKf q n := hke.1 c_18
        refine lv_lload hx hb dX4_bitsOf_43 (lv_at hl 2 rfl) ?_
        refine zb_bi h dX4_bitsOf_45 (by decide) (by decide) ?_
        refine zb_lshl h (by omega) (by omega) dX4_bitsOf_47 ?_
        refine lv_dload_n hx hb dX4_bitsOf_48 rfl (lv_at hl 1 rfl) ?_
        refine lv_dconst1 hx hb dX4_bitsOf_49 ?_
        refine lv_dsub hx hb dX4_bitsOf_50 (by rw [hKe]; exact hB.2.2.2.2.1) ?_
        refine zb_ldcd (w := 4841369599423283200) h zkd_X4_242 dX4_bitsOf_51 ?_
        refine lv_dmul hx hb dX4_bitsOf_54 (by rw [hKe]; exact hB.2.2.2.2.2) ?_
        refine lv_d2l hx hb dX4_bitsOf_55 ?_
        rw [← zL_self (FP.d2l (FP.dmul (FP.dsub (dIt (zShv q n) k.toNat) FP.dconst1) 4841369599423283200))]
        refine zb_ladd h dX4_bitsOf_56 ?_
        refine zrl h hr hH ?_ dX4_bitsOf_57
        exact ⟨congrArg zL (by unfold zBt zBm; rw [if_neg hs0, ← hKe, show ((k.toNat : Nat) : Int) = k by omega, show ((2 : Int) ^ ((52 : Int)).toNat) = 4503599627370496 from by decide]), rfl⟩
      · refine lv_lload hx hb dX4_bitsOf_21 (lv_at hl 2 rfl) ?_
        refine zb_lc (v := 0) h dX4_bitsOf_23 (by decide +kernel) ?_
        refine zb_lcmp h (by omega) (by omega) dX4_bitsOf_24 ?_
        refine zb_ile (tgt := 43) h (by rw [if_pos (by omega)]; omega) dX4_bitsOf_25 (by decide) (fun c_25 => ?_) (fun c_25 => ?_)
        · exact absurd c_25 (by rw [if_pos (by omega)]; omega)
        · refine lv_dload_n hx hb dX4_bitsOf_28 rfl (lv_at hl 1 rfl) ?_
          refine zb_ldcd (w := 4611686018427387904) h zkd_X4_240 dX4_bitsOf_29 ?_
          refine lv_dmul hx hb dX4_bitsOf_32 (hB.2.2.1 k.toNat (hke.2 c_18)).2 ?_
          rw [dIt_s _ hk.1]
          refine lv_dstore_n (lv' := [(2, .double (dIt (zShv q n) (k + 1).toNat)), (0, .double (zShv q n)), (4, .long (zL (1023 - k)))]) hx hb dX4_bitsOf_33 rfl hl (by decide) rfl (fun ls hl => ?_)
          refine lv_lload hx hb dX4_bitsOf_34 (lv_at hl 2 rfl) ?_
          refine zb_lc (v := 1) h dX4_bitsOf_36 (by decide +kernel) ?_
          refine zb_lsub h dX4_bitsOf_37 ?_
          refine zb_topl (y := 1023 - (k + 1)) (by omega) ?_
          refine lv_lstore (lv' := [(4, .long (zL (1023 - (k + 1)))), (2, .double (dIt (zShv q n) (k + 1).toNat)), (0, .double (zShv q n))]) hx hb dX4_bitsOf_38 hl (by decide) rfl (fun ls hl => ?_)
          refine lv_goto (tgt := 15) hx hb dX4_bitsOf_40 (by decide) ?_
          have hkl := hke.2 c_18
          exact ih15 (k + 1) _ _ _ (by omega) (by omega) hs0 hH (lv_sub hl [2, 1, 0] rfl)
  by_cases s_0 : n ≠ 0 ∧ q = 0
  · refine lv_dload_n hx hb dX4_bitsOf_0 rfl (lv_at hl 0 rfl) ?_
    refine lv_dconst0 hx hb dX4_bitsOf_1 ?_
    refine lv_dcmp hx hb dX4_bitsOf_2 ?_
    rw [show Op.cmpValue (FP.dcmp (zShv q n) FP.dconst0) .g = zI 0 from by rw [s_0.2]; exact (zB0_of (by omega)).1]
    refine zb_igt (tgt := 8) h (by omega) dX4_bitsOf_3 (by decide) (fun c_3 => ?_) (fun c_3 => ?_)
    · exact absurd c_3 (by omega)
    · refine zb_lc (v := 0) h dX4_bitsOf_6 (by decide +kernel) ?_
      refine zrl h hr hH ?_ dX4_bitsOf_7
      exact ⟨congrArg zL (by unfold zBt; rw [if_pos s_0]), rfl⟩
  · refine lv_dload_n hx hb dX4_bitsOf_0 rfl (lv_at hl 0 rfl) ?_
    have hB := zBp_of hn hq (by omega)
    have hB3 := hB.1
    refine lv_dconst0 hx hb dX4_bitsOf_1 ?_
    refine lv_dcmp hx hb dX4_bitsOf_2 ?_
    rw [hB.2.1.1]
    refine zb_igt (tgt := 8) h (by omega) dX4_bitsOf_3 (by decide) (fun c_3 => ?_) (fun c_3 => ?_)
    · refine lv_dload_n hx hb dX4_bitsOf_8 rfl (lv_at hl 0 rfl) ?_
      refine lv_dstore_n (lv' := [(2, .double (zShv q n)), (0, .double (zShv q n))]) hx hb dX4_bitsOf_9 rfl hl (by decide) rfl (fun ls hl => ?_)
      refine zb_ldc2 (n := 1023) h zk_X4_238 (by decide +kernel) dX4_bitsOf_10 ?_
      refine lv_lstore (lv' := [(4, .long (zL 1023)), (2, .double (zShv q n)), (0, .double (zShv q n))]) hx hb dX4_bitsOf_13 hl (by decide) rfl (fun ls hl => ?_)
      exact C15 ((3 - 0 : Int).toNat + 1) 0 _ _ _ (by omega) (by omega) s_0 hH (lv_sub hl [2, 1, 0] rfl)
    · exact absurd c_3 (by omega)
theorem dX5_bitsOf_0 : decode cX5_bitsOf 0 = .ok (.dload_n 0, 1) := by decide +kernel
theorem dX5_bitsOf_1 : decode cX5_bitsOf 1 = .ok (.dconst 0, 1) := by decide +kernel
theorem dX5_bitsOf_2 : decode cX5_bitsOf 2 = .ok (.dcmp .l, 1) := by decide +kernel
theorem dX5_bitsOf_3 : decode cX5_bitsOf 3 = .ok (.ifCond .ne 5, 3) := by decide +kernel
theorem dX5_bitsOf_6 : decode cX5_bitsOf 6 = .ok (.lconst 0, 1) := by decide +kernel
theorem dX5_bitsOf_7 : decode cX5_bitsOf 7 = .ok (.lreturn, 1) := by decide +kernel
theorem dX5_bitsOf_8 : decode cX5_bitsOf 8 = .ok (.ldc2_w 213, 3) := by decide +kernel
theorem dX5_bitsOf_11 : decode cX5_bitsOf 11 = .ok (.lstore_n 2, 1) := by decide +kernel
theorem dX5_bitsOf_12 : decode cX5_bitsOf 12 = .ok (.dload_n 0, 1) := by decide +kernel
theorem dX5_bitsOf_13 : decode cX5_bitsOf 13 = .ok (.dstore 4, 2) := by decide +kernel
theorem dX5_bitsOf_15 : decode cX5_bitsOf 15 = .ok (.dload 4, 2) := by decide +kernel
theorem dX5_bitsOf_17 : decode cX5_bitsOf 17 = .ok (.dconst 1, 1) := by decide +kernel
theorem dX5_bitsOf_18 : decode cX5_bitsOf 18 = .ok (.dcmp .g, 1) := by decide +kernel
theorem dX5_bitsOf_19 : decode cX5_bitsOf 19 = .ok (.ifCond .ge 18, 3) := by decide +kernel
theorem dX5_bitsOf_22 : decode cX5_bitsOf 22 = .ok (.dload 4, 2) := by decide +kernel
theorem dX5_bitsOf_24 : decode cX5_bitsOf 24 = .ok (.ldc2_w 215, 3) := by decide +kernel
theorem dX5_bitsOf_27 : decode cX5_bitsOf 27 = .ok (.dmul, 1) := by decide +kernel
theorem dX5_bitsOf_28 : decode cX5_bitsOf 28 = .ok (.dstore 4, 2) := by decide +kernel
theorem dX5_bitsOf_30 : decode cX5_bitsOf 30 = .ok (.lload_n 2, 1) := by decide +kernel
theorem dX5_bitsOf_31 : decode cX5_bitsOf 31 = .ok (.lconst 1, 1) := by decide +kernel
theorem dX5_bitsOf_32 : decode cX5_bitsOf 32 = .ok (.lsub, 1) := by decide +kernel
theorem dX5_bitsOf_33 : decode cX5_bitsOf 33 = .ok (.lstore_n 2, 1) := by decide +kernel
theorem dX5_bitsOf_34 : decode cX5_bitsOf 34 = .ok (.goto (-19), 3) := by decide +kernel
theorem dX5_bitsOf_37 : decode cX5_bitsOf 37 = .ok (.lload_n 2, 1) := by decide +kernel
theorem dX5_bitsOf_38 : decode cX5_bitsOf 38 = .ok (.ldc2_w 217, 3) := by decide +kernel
theorem dX5_bitsOf_41 : decode cX5_bitsOf 41 = .ok (.lmul, 1) := by decide +kernel
theorem dX5_bitsOf_42 : decode cX5_bitsOf 42 = .ok (.dload 4, 2) := by decide +kernel
theorem dX5_bitsOf_44 : decode cX5_bitsOf 44 = .ok (.dconst 1, 1) := by decide +kernel
theorem dX5_bitsOf_45 : decode cX5_bitsOf 45 = .ok (.dsub, 1) := by decide +kernel
theorem dX5_bitsOf_46 : decode cX5_bitsOf 46 = .ok (.ldc2_w 219, 3) := by decide +kernel
theorem dX5_bitsOf_49 : decode cX5_bitsOf 49 = .ok (.dmul, 1) := by decide +kernel
theorem dX5_bitsOf_50 : decode cX5_bitsOf 50 = .ok (.d2l, 1) := by decide +kernel
theorem dX5_bitsOf_51 : decode cX5_bitsOf 51 = .ok (.ladd, 1) := by decide +kernel
theorem dX5_bitsOf_52 : decode cX5_bitsOf 52 = .ok (.lreturn, 1) := by decide +kernel
def q_X5_bitsOf (S : zM) (q n : Int) : Int64 → zM → Prop := fun r S1 => r = zL (zBt q n) ∧ S = S1
def r_X5_bitsOf : Room := { frames := 0, cells := 0, slots := 0, locals := 0 }
set_option maxHeartbeats 4000000 in
set_option maxRecDepth 100000 in
theorem c_X5_bitsOf (l : Launch) (G : zG) (hG : zok G) (S : zM) (q n : Int) (hn : 0 ≤ n ∧ n ≤ 8) (hq : 0 ≤ q ∧ q ≤ n) : Met l yX5_bitsOf (Cond.code yX5_bitsOf cX5_bitsOf 6 (some FieldType.long) :: zTbl) r_X5_bitsOf (va_Pc [.double (zShv q n)] (zB G S)) (va_Ql (q_X5_bitsOf S q n) (zB G) (zA G)) 0 0 (zA G) := by
  refine zMet [(0, .double (zShv q n))] hG (by decide) (Nat.le_of_ble_eq_true rfl) rfl (fun p e s m args below meth c ls h hx hb hr hH hl => ?_)
  have C15 : ∀ (fu : Nat) (k : Int) (H : Heap) (locs : List Loc) (ls : Array Slot), (3 - k).toNat < fu → (0 ≤ k ∧ k ≤ (zKf q n : Int)) → (¬ (n ≠ 0 ∧ q = 0)) → zH G S s H locs → lv_has ls 6 [(0, .double (zShv q n)), (4, .double (dIt (zShv q n) k.toNat)), (2, .long (zL (1023 - k)))] → W p l e r_X5_bitsOf s m args below meth c H locs 0 0 (MQ below (va_Ql (q_X5_bitsOf S q n) (zB G) (zA G)) args s 0 0 (zA G)) (F0 m 15 ls []) := by
    intro fu
    induction fu with
    | zero => intro k H locs ls hfu; omega
    | succ fu ih15 =>
      intro k H locs ls hfu hk hs0 hH hl
      have hB := zBp_of hn hq (by omega)
      have hB3 := hB.1
      obtain ⟨cm, hcb, hcm, hke⟩ : ∃ cm : Int, (-1 ≤ cm ∧ cm ≤ 1) ∧ Op.cmpValue (FP.dcmp (dIt (zShv q n) k.toNat) FP.dconst1) .g = zI cm ∧ ((0 ≤ cm → k.toNat = zKf q n) ∧ (cm < 0 → k.toNat < zKf q n)) := by
        by_cases c : k.toNat < zKf q n
        · exact ⟨-1, by omega, (hB.2.2.1 _ c).1, fun z => by omega, fun _ => c⟩
        · have e : k.toNat = zKf q n := by omega
          rcases hB.2.2.2.1 with z | z
          · exact ⟨0, by omega, by rw [e]; exact z, fun _ => e, fun w => by omega⟩
          · exact ⟨1, by omega, by rw [e]; exact z, fun _ => e, fun w => by omega⟩
      refine lv_dload hx hb dX5_bitsOf_15 (lv_at hl 1 rfl) ?_
      refine lv_dconst1 hx hb dX5_bitsOf_17 ?_
      refine lv_dcmp hx hb dX5_bitsOf_18 ?_
      rw [hcm]
      refine zb_ige (tgt := 37) h (by omega) dX5_bitsOf_19 (by decide) (fun c_19 => ?_) (fun c_19 => ?_)
      · have hKe : k.toNat = zKf q n := hke.1 c_19
        refine lv_lload_n hx hb dX5_bitsOf_37 rfl (lv_at hl 2 rfl) ?_
        refine zb_ldc2 (n := 4503599627370496) h zk_X5_217 (by decide +kernel) dX5_bitsOf_38 ?_
        refine zb_lmul h dX5_bitsOf_41 ?_
        refine lv_dload hx hb dX5_bitsOf_42 (lv_at hl 1 rfl) ?_
        refine lv_dconst1 hx hb dX5_bitsOf_44 ?_
        refine lv_dsub hx hb dX5_bitsOf_45 (by rw [hKe]; exact hB.2.2.2.2.1) ?_
        refine zb_ldcd (w := 4841369599423283200) h zkd_X5_219 dX5_bitsOf_46 ?_
        refine lv_dmul hx hb dX5_bitsOf_49 (by rw [hKe]; exact hB.2.2.2.2.2) ?_
        refine lv_d2l hx hb dX5_bitsOf_50 ?_
        rw [← zL_self (FP.d2l (FP.dmul (FP.dsub (dIt (zShv q n) k.toNat) FP.dconst1) 4841369599423283200))]
        refine zb_ladd h dX5_bitsOf_51 ?_
        refine zrl h hr hH ?_ dX5_bitsOf_52
        exact ⟨congrArg zL (by unfold zBt zBm; rw [if_neg hs0, ← hKe, show ((k.toNat : Nat) : Int) = k by omega]), rfl⟩
      · refine lv_dload hx hb dX5_bitsOf_22 (lv_at hl 1 rfl) ?_
        refine zb_ldcd (w := 4611686018427387904) h zkd_X5_215 dX5_bitsOf_24 ?_
        refine lv_dmul hx hb dX5_bitsOf_27 (hB.2.2.1 k.toNat (hke.2 c_19)).2 ?_
        rw [dIt_s _ hk.1]
        refine lv_dstore (lv' := [(4, .double (dIt (zShv q n) (k + 1).toNat)), (0, .double (zShv q n)), (2, .long (zL (1023 - k)))]) hx hb dX5_bitsOf_28 hl (by decide) rfl (fun ls hl => ?_)
        refine lv_lload_n hx hb dX5_bitsOf_30 rfl (lv_at hl 2 rfl) ?_
        refine zb_lc (v := 1) h dX5_bitsOf_31 (by decide +kernel) ?_
        refine zb_lsub h dX5_bitsOf_32 ?_
        refine zb_topl (y := 1023 - (k + 1)) (by omega) ?_
        refine lv_lstore_n (lv' := [(2, .long (zL (1023 - (k + 1)))), (4, .double (dIt (zShv q n) (k + 1).toNat)), (0, .double (zShv q n))]) hx hb dX5_bitsOf_33 rfl hl (by decide) rfl (fun ls hl => ?_)
        refine lv_goto (tgt := 15) hx hb dX5_bitsOf_34 (by decide) ?_
        have hkl := hke.2 c_19
        exact ih15 (k + 1) _ _ _ (by omega) (by omega) hs0 hH (lv_sub hl [2, 1, 0] rfl)
  by_cases s_0 : n ≠ 0 ∧ q = 0
  · refine lv_dload_n hx hb dX5_bitsOf_0 rfl (lv_at hl 0 rfl) ?_
    refine lv_dconst0 hx hb dX5_bitsOf_1 ?_
    refine lv_dcmp hx hb dX5_bitsOf_2 ?_
    rw [show Op.cmpValue (FP.dcmp (zShv q n) FP.dconst0) .l = zI 0 from by rw [s_0.2]; exact (zB0_of (by omega)).2]
    refine zb_ine (tgt := 8) h (by omega) dX5_bitsOf_3 (by decide) (fun c_3 => ?_) (fun c_3 => ?_)
    · exact absurd c_3 (by omega)
    · refine zb_lc (v := 0) h dX5_bitsOf_6 (by decide +kernel) ?_
      refine zrl h hr hH ?_ dX5_bitsOf_7
      exact ⟨congrArg zL (by unfold zBt; rw [if_pos s_0]), rfl⟩
  · refine lv_dload_n hx hb dX5_bitsOf_0 rfl (lv_at hl 0 rfl) ?_
    have hB := zBp_of hn hq (by omega)
    have hB3 := hB.1
    refine lv_dconst0 hx hb dX5_bitsOf_1 ?_
    refine lv_dcmp hx hb dX5_bitsOf_2 ?_
    rw [hB.2.1.2]
    refine zb_ine (tgt := 8) h (by omega) dX5_bitsOf_3 (by decide) (fun c_3 => ?_) (fun c_3 => ?_)
    · refine zb_ldc2 (n := 1023) h zk_X5_213 (by decide +kernel) dX5_bitsOf_8 ?_
      refine lv_lstore_n (lv' := [(2, .long (zL 1023)), (0, .double (zShv q n))]) hx hb dX5_bitsOf_11 rfl hl (by decide) rfl (fun ls hl => ?_)
      refine lv_dload_n hx hb dX5_bitsOf_12 rfl (lv_at hl 1 rfl) ?_
      refine lv_dstore (lv' := [(4, .double (zShv q n)), (2, .long (zL 1023)), (0, .double (zShv q n))]) hx hb dX5_bitsOf_13 hl (by decide) rfl (fun ls hl => ?_)
      exact C15 ((3 - 0 : Int).toNat + 1) 0 _ _ _ (by omega) (by omega) s_0 hH (lv_sub hl [2, 0, 1] rfl)
    · exact absurd c_3 (by omega)
