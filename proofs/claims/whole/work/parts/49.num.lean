theorem dX3_pairs_0 : decode cX3_pairs 0 = .ok (.iconst 0, 1) := by decide +kernel
theorem dX3_pairs_1 : decode cX3_pairs 1 = .ok (.istore_n 1, 1) := by decide +kernel
theorem dX3_pairs_2 : decode cX3_pairs 2 = .ok (.iconst 0, 1) := by decide +kernel
theorem dX3_pairs_3 : decode cX3_pairs 3 = .ok (.istore_n 2, 1) := by decide +kernel
theorem dX3_pairs_4 : decode cX3_pairs 4 = .ok (.iload_n 2, 1) := by decide +kernel
theorem dX3_pairs_5 : decode cX3_pairs 5 = .ok (.aload_n 0, 1) := by decide +kernel
theorem dX3_pairs_6 : decode cX3_pairs 6 = .ok (.getfield 37, 3) := by decide +kernel
theorem dX3_pairs_9 : decode cX3_pairs 9 = .ok (.if_icmp .ge 27, 3) := by decide +kernel
theorem dX3_pairs_12 : decode cX3_pairs 12 = .ok (.iload_n 2, 1) := by decide +kernel
theorem dX3_pairs_13 : decode cX3_pairs 13 = .ok (.bipush 8, 2) := by decide +kernel
theorem dX3_pairs_15 : decode cX3_pairs 15 = .ok (.if_icmp .ge 21, 3) := by decide +kernel
theorem dX3_pairs_18 : decode cX3_pairs 18 = .ok (.iload_n 1, 1) := by decide +kernel
theorem dX3_pairs_19 : decode cX3_pairs 19 = .ok (.aload_n 0, 1) := by decide +kernel
theorem dX3_pairs_20 : decode cX3_pairs 20 = .ok (.getfield 31, 3) := by decide +kernel
theorem dX3_pairs_23 : decode cX3_pairs 23 = .ok (.iload_n 2, 1) := by decide +kernel
theorem dX3_pairs_24 : decode cX3_pairs 24 = .ok (.iaload, 1) := by decide +kernel
theorem dX3_pairs_25 : decode cX3_pairs 25 = .ok (.invokestatic 101, 3) := by decide +kernel
theorem dX3_pairs_28 : decode cX3_pairs 28 = .ok (.iadd, 1) := by decide +kernel
theorem dX3_pairs_29 : decode cX3_pairs 29 = .ok (.istore_n 1, 1) := by decide +kernel
theorem dX3_pairs_30 : decode cX3_pairs 30 = .ok (.iinc 2 1, 3) := by decide +kernel
theorem dX3_pairs_33 : decode cX3_pairs 33 = .ok (.goto (-29), 3) := by decide +kernel
theorem dX3_pairs_36 : decode cX3_pairs 36 = .ok (.iload_n 1, 1) := by decide +kernel
theorem dX3_pairs_37 : decode cX3_pairs 37 = .ok (.iconst 2, 1) := by decide +kernel
theorem dX3_pairs_38 : decode cX3_pairs 38 = .ok (.idiv, 1) := by decide +kernel
theorem dX3_pairs_39 : decode cX3_pairs 39 = .ok (.ireturn, 1) := by decide +kernel
def q_X3_pairs (k : Nat) (S : zM) : Int32 → zM → Prop := fun r S1 => r = zI (tPa (S k 0)) ∧ S = S1
def r_X3_pairs : Room := { frames := 1, cells := 0, slots := 0, locals := 20 }
set_option maxHeartbeats 4000000 in
set_option maxRecDepth 100000 in
theorem c_X3_pairs (l : Launch) (G : zG) (hG : zok G) (k : Nat) (hk : k < 8) (S : zM) (hw : zW (S k 0)) : Met l yX3_pairs (Cond.code yX3_pairs cX3_pairs 3 (some FieldType.int) :: zTbl) r_X3_pairs (va_Pc [.ref (za G k 0)] (zB G S)) (va_Qi (q_X3_pairs k S) (zB G) (zA G)) 0 0 (zA G) := by
  refine zMet [(0, .ref (za G k 0))] hG (by decide) (Nat.le_of_ble_eq_true rfl) rfl (fun p e s m args below meth c ls h hx hb hr hH hl => ?_)
  have C4 : ∀ (fu : Nat) (o n : Int) (H : Heap) (locs : List Loc) (ls : Array Slot), (S k 0 4 - o).toNat < fu → (0 ≤ o ∧ o ≤ S k 0 4) → (n = zsum (fun z => zbc (S k 0 (5 + 5 * z + 4))) o.toNat) → zH G S s H locs → lv_has ls 3 [(0, .ref (za G k 0)), (1, .int (zI n)), (2, .int (zI o))] → W p l e r_X3_pairs s m args below meth c H locs 0 0 (MQ below (va_Qi (q_X3_pairs k S) (zB G) (zA G)) args s 0 0 (zA G)) (F0 m 4 ls []) := by
    intro fu
    induction fu with
    | zero => intro o n H locs ls hfu; omega
    | succ fu ih4 =>
      intro o n H locs ls hfu ho hn hH hl
      have f4 := zW_4 hw
      have b_n := zsum_in (f := fun z => zbc (S k 0 (5 + 5 * z + 4))) (a := 0) (b := 8) o.toNat (fun j h1 h2 => zbc_in (zW_nb hw (by omega)))
      refine lv_iload_n hx hb dX3_pairs_4 rfl (lv_at hl 2 rfl) ?_
      refine lv_aload_n hx hb dX3_pairs_5 rfl (lv_at hl 0 rfl) ?_
      refine zg_3_7 h hH hk zf_X3_37 dX3_pairs_6 ?_
      have f_6 := zW_4 hw
      refine zb_cge (tgt := 36) h (by omega) (by omega) dX3_pairs_9 (by decide) (fun c_9 => ?_) (fun c_9 => ?_)
      · refine lv_iload_n hx hb dX3_pairs_36 rfl (lv_at hl 1 rfl) ?_
        refine zb_ic h dX3_pairs_37 ?_
        refine zb_idiv h (by omega) (by omega) dX3_pairs_38 ?_
        refine zri h hr hH ?_ dX3_pairs_39
        have eo : o = S k 0 4 := by omega
        subst eo
        exact ⟨by rw [hn]; rfl, rfl⟩
      · refine lv_iload_n hx hb dX3_pairs_12 rfl (lv_at hl 2 rfl) ?_
        refine zb_bi h dX3_pairs_13 (by decide) (by decide) ?_
        refine zb_cge (tgt := 36) h (by omega) (by omega) dX3_pairs_15 (by decide) (fun c_15 => ?_) (fun c_15 => ?_)
        · exact absurd c_15 (by omega)
        · refine lv_iload_n hx hb dX3_pairs_18 rfl (lv_at hl 1 rfl) ?_
          refine lv_aload_n hx hb dX3_pairs_19 rfl (lv_at hl 0 rfl) ?_
          refine zg_3_5 h hH hk zf_X3_31 dX3_pairs_20 ?_
          refine lv_iload_n hx hb dX3_pairs_23 rfl (lv_at hl 2 rfl) ?_
          refine zld_ar_nb h hH hk (by omega) dX3_pairs_24 ?_
          have f_24 := zW_nb hw (show 0 ≤ o ∧ o < 8 by omega)
          refine zcSi h hH (As := [.int (zI (S k 0 (5 + 5 * o + 4)))]) (rest := [.int (zI n)]) (c_J6_bitCount_0f7a4 l G hG S (S k 0 (5 + 5 * o + 4)) (by omega)) zce_J6_bitCount_0f7a4 zt_J6_bitCount_0f7a4 zm_X3_101 hl.1 rfl rfl ⟨rfl, rfl⟩ ⟨Nat.le_of_ble_eq_true rfl, Nat.le_of_ble_eq_true rfl⟩ (Nat.le_of_ble_eq_true rfl) ⟨Nat.zero_le _, Nat.zero_le _⟩ dX3_pairs_25 (fun r_25 S_25 H locs hq hH => ?_)
          obtain ⟨rfl, rfl⟩ := hq
          refine zb_iadd h dX3_pairs_28 ?_
          refine lv_istore_n (lv' := [(1, .int (zI (n + (zbc (S k 0 (5 + 5 * o + 4)))))), (0, .ref (za G k 0)), (2, .int (zI o))]) hx hb dX3_pairs_29 rfl hl (by decide) rfl (fun ls hl => ?_)
          refine lv_iinc (v := zI (o + 1)) (lv' := [(2, .int (zI (o + 1))), (1, .int (zI (n + (zbc (S k 0 (5 + 5 * o + 4)))))), (0, .ref (za G k 0))]) hx hb dX3_pairs_30 hl (k := 2) rfl (zI_add _ _) (by decide) rfl (fun ls hl => ?_)
          refine lv_goto (tgt := 4) hx hb dX3_pairs_33 (by decide) ?_
          exact ih4 (o + 1) (n + (zbc (S k 0 (5 + 5 * o + 4)))) _ _ _ (by omega) (by have := zW_4 hw; omega) (by rw [zsum_s _ ho.1, hn]) hH (lv_sub hl [2, 1, 0] rfl)
  refine zb_ic h dX3_pairs_0 ?_
  refine lv_istore_n (lv' := [(1, .int (zI 0)), (0, .ref (za G k 0))]) hx hb dX3_pairs_1 rfl hl (by decide) rfl (fun ls hl => ?_)
  refine zb_ic h dX3_pairs_2 ?_
  refine lv_istore_n (lv' := [(2, .int (zI 0)), (1, .int (zI 0)), (0, .ref (za G k 0))]) hx hb dX3_pairs_3 rfl hl (by decide) rfl (fun ls hl => ?_)
  exact C4 ((S k 0 4 - 0 : Int).toNat + 1) 0 0 _ _ _ (by omega) (by have := zW_4 hw; omega) rfl hH (lv_sub hl [2, 1, 0] rfl)
theorem dX4_numberOf_0 : decode cX4_numberOf 0 = .ok (.iload_n 1, 1) := by decide +kernel
theorem dX4_numberOf_1 : decode cX4_numberOf 1 = .ok (.tableswitch 170 0 10 #[59, 67, 75, 86, 97, 106, 115, 124, 139, 154, 162], 59) := by decide +kernel
theorem dX4_numberOf_60 : decode cX4_numberOf 60 = .ok (.aload_n 0, 1) := by decide +kernel
theorem dX4_numberOf_61 : decode cX4_numberOf 61 = .ok (.getfield 10, 3) := by decide +kernel
theorem dX4_numberOf_64 : decode cX4_numberOf 64 = .ok (.getfield 213, 3) := by decide +kernel
theorem dX4_numberOf_67 : decode cX4_numberOf 67 = .ok (.ireturn, 1) := by decide +kernel
theorem dX4_numberOf_68 : decode cX4_numberOf 68 = .ok (.aload_n 0, 1) := by decide +kernel
theorem dX4_numberOf_69 : decode cX4_numberOf 69 = .ok (.getfield 10, 3) := by decide +kernel
theorem dX4_numberOf_72 : decode cX4_numberOf 72 = .ok (.getfield 95, 3) := by decide +kernel
theorem dX4_numberOf_75 : decode cX4_numberOf 75 = .ok (.ireturn, 1) := by decide +kernel
theorem dX4_numberOf_76 : decode cX4_numberOf 76 = .ok (.aload_n 0, 1) := by decide +kernel
theorem dX4_numberOf_77 : decode cX4_numberOf 77 = .ok (.getfield 10, 3) := by decide +kernel
theorem dX4_numberOf_80 : decode cX4_numberOf 80 = .ok (.getfield 115, 3) := by decide +kernel
theorem dX4_numberOf_83 : decode cX4_numberOf 83 = .ok (.getfield 244, 3) := by decide +kernel
theorem dX4_numberOf_86 : decode cX4_numberOf 86 = .ok (.ireturn, 1) := by decide +kernel
theorem dX4_numberOf_87 : decode cX4_numberOf 87 = .ok (.aload_n 0, 1) := by decide +kernel
theorem dX4_numberOf_88 : decode cX4_numberOf 88 = .ok (.getfield 10, 3) := by decide +kernel
theorem dX4_numberOf_91 : decode cX4_numberOf 91 = .ok (.getfield 115, 3) := by decide +kernel
theorem dX4_numberOf_94 : decode cX4_numberOf 94 = .ok (.getfield 195, 3) := by decide +kernel
theorem dX4_numberOf_97 : decode cX4_numberOf 97 = .ok (.ireturn, 1) := by decide +kernel
theorem dX4_numberOf_98 : decode cX4_numberOf 98 = .ok (.aload_n 0, 1) := by decide +kernel
theorem dX4_numberOf_99 : decode cX4_numberOf 99 = .ok (.getfield 10, 3) := by decide +kernel
theorem dX4_numberOf_102 : decode cX4_numberOf 102 = .ok (.iconst 0, 1) := by decide +kernel
theorem dX4_numberOf_103 : decode cX4_numberOf 103 = .ok (.invokevirtual 98, 3) := by decide +kernel
theorem dX4_numberOf_106 : decode cX4_numberOf 106 = .ok (.ireturn, 1) := by decide +kernel
theorem dX4_numberOf_107 : decode cX4_numberOf 107 = .ok (.aload_n 0, 1) := by decide +kernel
theorem dX4_numberOf_108 : decode cX4_numberOf 108 = .ok (.getfield 10, 3) := by decide +kernel
theorem dX4_numberOf_111 : decode cX4_numberOf 111 = .ok (.iconst (-1), 1) := by decide +kernel
theorem dX4_numberOf_112 : decode cX4_numberOf 112 = .ok (.invokevirtual 98, 3) := by decide +kernel
theorem dX4_numberOf_115 : decode cX4_numberOf 115 = .ok (.ireturn, 1) := by decide +kernel
theorem dX4_numberOf_116 : decode cX4_numberOf 116 = .ok (.aload_n 0, 1) := by decide +kernel
theorem dX4_numberOf_117 : decode cX4_numberOf 117 = .ok (.getfield 10, 3) := by decide +kernel
theorem dX4_numberOf_120 : decode cX4_numberOf 120 = .ok (.iconst 1, 1) := by decide +kernel
theorem dX4_numberOf_121 : decode cX4_numberOf 121 = .ok (.invokevirtual 98, 3) := by decide +kernel
theorem dX4_numberOf_124 : decode cX4_numberOf 124 = .ok (.ireturn, 1) := by decide +kernel
theorem dX4_numberOf_125 : decode cX4_numberOf 125 = .ok (.aload_n 0, 1) := by decide +kernel
theorem dX4_numberOf_126 : decode cX4_numberOf 126 = .ok (.getfield 10, 3) := by decide +kernel
theorem dX4_numberOf_129 : decode cX4_numberOf 129 = .ok (.aload_n 0, 1) := by decide +kernel
theorem dX4_numberOf_130 : decode cX4_numberOf 130 = .ok (.getfield 10, 3) := by decide +kernel
theorem dX4_numberOf_133 : decode cX4_numberOf 133 = .ok (.getfield 104, 3) := by decide +kernel
theorem dX4_numberOf_136 : decode cX4_numberOf 136 = .ok (.invokevirtual 198, 3) := by decide +kernel
theorem dX4_numberOf_139 : decode cX4_numberOf 139 = .ok (.ireturn, 1) := by decide +kernel
theorem dX4_numberOf_140 : decode cX4_numberOf 140 = .ok (.aload_n 0, 1) := by decide +kernel
theorem dX4_numberOf_141 : decode cX4_numberOf 141 = .ok (.getfield 10, 3) := by decide +kernel
theorem dX4_numberOf_144 : decode cX4_numberOf 144 = .ok (.aload_n 0, 1) := by decide +kernel
theorem dX4_numberOf_145 : decode cX4_numberOf 145 = .ok (.getfield 10, 3) := by decide +kernel
theorem dX4_numberOf_148 : decode cX4_numberOf 148 = .ok (.getfield 110, 3) := by decide +kernel
theorem dX4_numberOf_151 : decode cX4_numberOf 151 = .ok (.invokevirtual 198, 3) := by decide +kernel
theorem dX4_numberOf_154 : decode cX4_numberOf 154 = .ok (.ireturn, 1) := by decide +kernel
theorem dX4_numberOf_155 : decode cX4_numberOf 155 = .ok (.aload_n 0, 1) := by decide +kernel
theorem dX4_numberOf_156 : decode cX4_numberOf 156 = .ok (.getfield 10, 3) := by decide +kernel
theorem dX4_numberOf_159 : decode cX4_numberOf 159 = .ok (.invokevirtual 247, 3) := by decide +kernel
theorem dX4_numberOf_162 : decode cX4_numberOf 162 = .ok (.ireturn, 1) := by decide +kernel
theorem dX4_numberOf_163 : decode cX4_numberOf 163 = .ok (.aload_n 0, 1) := by decide +kernel
theorem dX4_numberOf_164 : decode cX4_numberOf 164 = .ok (.getfield 10, 3) := by decide +kernel
theorem dX4_numberOf_167 : decode cX4_numberOf 167 = .ok (.invokevirtual 250, 3) := by decide +kernel
theorem dX4_numberOf_170 : decode cX4_numberOf 170 = .ok (.ireturn, 1) := by decide +kernel
theorem dX4_numberOf_171 : decode cX4_numberOf 171 = .ok (.aload_n 0, 1) := by decide +kernel
theorem dX4_numberOf_172 : decode cX4_numberOf 172 = .ok (.getfield 22, 3) := by decide +kernel
theorem dX4_numberOf_175 : decode cX4_numberOf 175 = .ok (.invokevirtual 155, 3) := by decide +kernel
theorem dX4_numberOf_178 : decode cX4_numberOf 178 = .ok (.ireturn, 1) := by decide +kernel
def q_X4_numberOf (S : zM) (what : Int) : Int32 → zM → Prop := fun r S1 => r = zI (tNum (S 0 0) (S 8 1 1) what) ∧ S = S1
def r_X4_numberOf : Room := { frames := 4, cells := 0, slots := 0, locals := 93 }
set_option maxHeartbeats 4000000 in
set_option maxRecDepth 100000 in
theorem c_X4_numberOf (l : Launch) (G : zG) (hG : zok G) (S : zM) (what : Int) (hwh : 0 ≤ what ∧ what ≤ 11) (hok : zOk (S 0 0)) (hms : zMs S 0) (hw : zW (S 0 0))  : Met l yX4_numberOf (Cond.code yX4_numberOf cX4_numberOf 2 (some FieldType.int) :: zTbl) r_X4_numberOf (va_Pc [.ref (za G 8 0), .int (zI what)] (zB G S)) (va_Qi (q_X4_numberOf S what) (zB G) (zA G)) 0 0 (zA G) := by
  refine zMet [(0, .ref (za G 8 0)), (1, .int (zI what))] hG (by decide) (Nat.le_of_ble_eq_true rfl) rfl (fun p e s m args below meth c ls h hx hb hr hH hl => ?_)
  refine lv_iload_n hx hb dX4_numberOf_0 rfl (lv_at hl 1 rfl) ?_
  have x_1 : (zI what).toInt = what := zI_toInt (by omega) (by omega)
  by_cases e_1_0 : what = 0
  · refine lv_tableIn (tgt := 60) hx hb dX4_numberOf_1 (by omega) (by omega) (show _ = some (59 : Int) by rw [x_1, e_1_0]; rfl) (by decide) ?_
    refine lv_aload_n hx hb dX4_numberOf_60 rfl (lv_at hl 0 rfl) ?_
    refine zg_4_0 h hH zf_X4_10 dX4_numberOf_61 ?_
    refine zgn_3_7 h hH (by omega) zfn_X4_213 dX4_numberOf_64 ?_
    have f_64 := zW_4 hw
    refine zri h hr hH ?_ dX4_numberOf_67
    exact ⟨congrArg zI (by rw [e_1_0]; exact (tNum_0 _ _).symm), rfl⟩
  by_cases e_1_1 : what = 1
  · refine lv_tableIn (tgt := 68) hx hb dX4_numberOf_1 (by omega) (by omega) (show _ = some (67 : Int) by rw [x_1, e_1_1]; rfl) (by decide) ?_
    refine lv_aload_n hx hb dX4_numberOf_68 rfl (lv_at hl 0 rfl) ?_
    refine zg_4_0 h hH zf_X4_10 dX4_numberOf_69 ?_
    refine zgn_3_8 h hH (by omega) zfn_X4_95 dX4_numberOf_72 ?_
    have f_72 := zW_0 hw
    refine zri h hr hH ?_ dX4_numberOf_75
    exact ⟨congrArg zI (by rw [e_1_1]; exact (tNum_1 _ _).symm), rfl⟩
  by_cases e_1_2 : what = 2
  · refine lv_tableIn (tgt := 76) hx hb dX4_numberOf_1 (by omega) (by omega) (show _ = some (75 : Int) by rw [x_1, e_1_2]; rfl) (by decide) ?_
    refine lv_aload_n hx hb dX4_numberOf_76 rfl (lv_at hl 0 rfl) ?_
    refine zg_4_0 h hH zf_X4_10 dX4_numberOf_77 ?_
    refine zgn_3_0 h hH (by omega) zfn_X4_115 dX4_numberOf_80 ?_
    refine zgn_2_1 h hH (by omega) zfn_X4_244 dX4_numberOf_83 ?_
    have f_83 := zW_1 hw
    refine zri h hr hH ?_ dX4_numberOf_86
    exact ⟨congrArg zI (by rw [e_1_2]; exact (tNum_2 _ _).symm), rfl⟩
  by_cases e_1_3 : what = 3
  · refine lv_tableIn (tgt := 87) hx hb dX4_numberOf_1 (by omega) (by omega) (show _ = some (86 : Int) by rw [x_1, e_1_3]; rfl) (by decide) ?_
    refine lv_aload_n hx hb dX4_numberOf_87 rfl (lv_at hl 0 rfl) ?_
    refine zg_4_0 h hH zf_X4_10 dX4_numberOf_88 ?_
    refine zgn_3_0 h hH (by omega) zfn_X4_115 dX4_numberOf_91 ?_
    refine zgn_2_2 h hH (by omega) zfn_X4_195 dX4_numberOf_94 ?_
    have f_94 := zW_2 hw
    refine zri h hr hH ?_ dX4_numberOf_97
    exact ⟨congrArg zI (by rw [e_1_3]; exact (tNum_3 _ _).symm), rfl⟩
  by_cases e_1_4 : what = 4
  · refine lv_tableIn (tgt := 98) hx hb dX4_numberOf_1 (by omega) (by omega) (show _ = some (97 : Int) by rw [x_1, e_1_4]; rfl) (by decide) ?_
    refine lv_aload_n hx hb dX4_numberOf_98 rfl (lv_at hl 0 rfl) ?_
    refine zg_4_0 h hH zf_X4_10 dX4_numberOf_99 ?_
    refine zb_ic h dX4_numberOf_102 ?_
    refine zcVi h hH (zr_3 h hH (by omega)) (As := [.int (zI 0)]) (rest := []) (c_X3_zonesOff l G hG 0 (by omega) S 0 (by omega) hms hw) zce_X3_zonesOff zcv_X3_zonesOff zm_X4_98 hl.1 rfl rfl ⟨rfl, rfl⟩ ⟨Nat.le_of_ble_eq_true rfl, Nat.le_of_ble_eq_true rfl⟩ (Nat.le_of_ble_eq_true rfl) ⟨Nat.zero_le _, Nat.zero_le _⟩ dX4_numberOf_103 (fun r_103 S_103 H locs hq hH => ?_)
    obtain ⟨rfl, rfl⟩ := hq
    refine zri h hr hH ?_ dX4_numberOf_106
    exact ⟨congrArg zI (by rw [e_1_4]; exact (tNum_4 _ _).symm), rfl⟩
  by_cases e_1_5 : what = 5
  · refine lv_tableIn (tgt := 107) hx hb dX4_numberOf_1 (by omega) (by omega) (show _ = some (106 : Int) by rw [x_1, e_1_5]; rfl) (by decide) ?_
    refine lv_aload_n hx hb dX4_numberOf_107 rfl (lv_at hl 0 rfl) ?_
    refine zg_4_0 h hH zf_X4_10 dX4_numberOf_108 ?_
    refine zb_ic h dX4_numberOf_111 ?_
    refine zcVi h hH (zr_3 h hH (by omega)) (As := [.int (zI (-1))]) (rest := []) (c_X3_zonesOff l G hG 0 (by omega) S (-1) (by omega) hms hw) zce_X3_zonesOff zcv_X3_zonesOff zm_X4_98 hl.1 rfl rfl ⟨rfl, rfl⟩ ⟨Nat.le_of_ble_eq_true rfl, Nat.le_of_ble_eq_true rfl⟩ (Nat.le_of_ble_eq_true rfl) ⟨Nat.zero_le _, Nat.zero_le _⟩ dX4_numberOf_112 (fun r_112 S_112 H locs hq hH => ?_)
    obtain ⟨rfl, rfl⟩ := hq
    refine zri h hr hH ?_ dX4_numberOf_115
    exact ⟨congrArg zI (by rw [e_1_5, tNum_5]; exact tSu_5 _), rfl⟩
  by_cases e_1_6 : what = 6
  · refine lv_tableIn (tgt := 116) hx hb dX4_numberOf_1 (by omega) (by omega) (show _ = some (115 : Int) by rw [x_1, e_1_6]; rfl) (by decide) ?_
    refine lv_aload_n hx hb dX4_numberOf_116 rfl (lv_at hl 0 rfl) ?_
    refine zg_4_0 h hH zf_X4_10 dX4_numberOf_117 ?_
    refine zb_ic h dX4_numberOf_120 ?_
    refine zcVi h hH (zr_3 h hH (by omega)) (As := [.int (zI 1)]) (rest := []) (c_X3_zonesOff l G hG 0 (by omega) S 1 (by omega) hms hw) zce_X3_zonesOff zcv_X3_zonesOff zm_X4_98 hl.1 rfl rfl ⟨rfl, rfl⟩ ⟨Nat.le_of_ble_eq_true rfl, Nat.le_of_ble_eq_true rfl⟩ (Nat.le_of_ble_eq_true rfl) ⟨Nat.zero_le _, Nat.zero_le _⟩ dX4_numberOf_121 (fun r_121 S_121 H locs hq hH => ?_)
    obtain ⟨rfl, rfl⟩ := hq
    refine zri h hr hH ?_ dX4_numberOf_124
    exact ⟨congrArg zI (by rw [e_1_6, tNum_6]; exact tSu_6 _), rfl⟩
  by_cases e_1_7 : what = 7
  · refine lv_tableIn (tgt := 125) hx hb dX4_numberOf_1 (by omega) (by omega) (show _ = some (124 : Int) by rw [x_1, e_1_7]; rfl) (by decide) ?_
    refine lv_aload_n hx hb dX4_numberOf_125 rfl (lv_at hl 0 rfl) ?_
    refine zg_4_0 h hH zf_X4_10 dX4_numberOf_126 ?_
    refine lv_aload_n hx hb dX4_numberOf_129 rfl (lv_at hl 0 rfl) ?_
    refine zg_4_0 h hH zf_X4_10 dX4_numberOf_130 ?_
    refine zgn_3_3 h hH (by omega) zfn_X4_104 dX4_numberOf_133 ?_
    refine zcVi h hH (zr_3 h hH (by omega)) (As := [.ref (za G 0 5)]) (rest := []) (c_X3_sumOf_bu l G hG 0 (by omega) S hw) zce_X3_sumOf zcv_X3_sumOf zm_X4_198 hl.1 rfl rfl ⟨rfl, rfl⟩ ⟨Nat.le_of_ble_eq_true rfl, Nat.le_of_ble_eq_true rfl⟩ (Nat.le_of_ble_eq_true rfl) ⟨Nat.zero_le _, Nat.zero_le _⟩ dX4_numberOf_136 (fun r_136 S_136 H locs hq hH => ?_)
    obtain ⟨rfl, rfl⟩ := hq
    refine zri h hr hH ?_ dX4_numberOf_139
    exact ⟨congrArg zI (by rw [e_1_7, tNum_7]; exact (tSu_7 _ _).symm), rfl⟩
  by_cases e_1_8 : what = 8
  · refine lv_tableIn (tgt := 140) hx hb dX4_numberOf_1 (by omega) (by omega) (show _ = some (139 : Int) by rw [x_1, e_1_8]; rfl) (by decide) ?_
    refine lv_aload_n hx hb dX4_numberOf_140 rfl (lv_at hl 0 rfl) ?_
    refine zg_4_0 h hH zf_X4_10 dX4_numberOf_141 ?_
    refine lv_aload_n hx hb dX4_numberOf_144 rfl (lv_at hl 0 rfl) ?_
    refine zg_4_0 h hH zf_X4_10 dX4_numberOf_145 ?_
    refine zgn_3_4 h hH (by omega) zfn_X4_110 dX4_numberOf_148 ?_
    refine zcVi h hH (zr_3 h hH (by omega)) (As := [.ref (za G 0 6)]) (rest := []) (c_X3_sumOf_ho l G hG 0 (by omega) S hw) zce_X3_sumOf zcv_X3_sumOf zm_X4_198 hl.1 rfl rfl ⟨rfl, rfl⟩ ⟨Nat.le_of_ble_eq_true rfl, Nat.le_of_ble_eq_true rfl⟩ (Nat.le_of_ble_eq_true rfl) ⟨Nat.zero_le _, Nat.zero_le _⟩ dX4_numberOf_151 (fun r_151 S_151 H locs hq hH => ?_)
    obtain ⟨rfl, rfl⟩ := hq
    refine zri h hr hH ?_ dX4_numberOf_154
    exact ⟨congrArg zI (by rw [e_1_8, tNum_8]; exact (tSu_8 _ _).symm), rfl⟩
  by_cases e_1_9 : what = 9
  · refine lv_tableIn (tgt := 155) hx hb dX4_numberOf_1 (by omega) (by omega) (show _ = some (154 : Int) by rw [x_1, e_1_9]; rfl) (by decide) ?_
    refine lv_aload_n hx hb dX4_numberOf_155 rfl (lv_at hl 0 rfl) ?_
    refine zg_4_0 h hH zf_X4_10 dX4_numberOf_156 ?_
    refine zcVi h hH (zr_3 h hH (by omega)) (As := []) (rest := []) (c_X3_zonesWithoutNeed l G hG 0 (by omega) S hms hw) zce_X3_zonesWithoutNeed zcv_X3_zonesWithoutNeed zm_X4_247 hl.1 rfl rfl ⟨rfl, rfl⟩ ⟨Nat.le_of_ble_eq_true rfl, Nat.le_of_ble_eq_true rfl⟩ (Nat.le_of_ble_eq_true rfl) ⟨Nat.zero_le _, Nat.zero_le _⟩ dX4_numberOf_159 (fun r_159 S_159 H locs hq hH => ?_)
    obtain ⟨rfl, rfl⟩ := hq
    refine zri h hr hH ?_ dX4_numberOf_162
    exact ⟨congrArg zI (by rw [e_1_9, tNum_9]; exact tSu_9 _), rfl⟩
  by_cases e_1_10 : what = 10
  · refine lv_tableIn (tgt := 163) hx hb dX4_numberOf_1 (by omega) (by omega) (show _ = some (162 : Int) by rw [x_1, e_1_10]; rfl) (by decide) ?_
    refine lv_aload_n hx hb dX4_numberOf_163 rfl (lv_at hl 0 rfl) ?_
    refine zg_4_0 h hH zf_X4_10 dX4_numberOf_164 ?_
    refine zcVi h hH (zr_3 h hH (by omega)) (As := []) (rest := []) (c_X3_pairs l G hG 0 (by omega) S hw) zce_X3_pairs zcv_X3_pairs zm_X4_250 hl.1 rfl rfl ⟨rfl, rfl⟩ ⟨Nat.le_of_ble_eq_true rfl, Nat.le_of_ble_eq_true rfl⟩ (Nat.le_of_ble_eq_true rfl) ⟨Nat.zero_le _, Nat.zero_le _⟩ dX4_numberOf_167 (fun r_167 S_167 H locs hq hH => ?_)
    obtain ⟨rfl, rfl⟩ := hq
    refine zri h hr hH ?_ dX4_numberOf_170
    exact ⟨congrArg zI (by rw [e_1_10, tNum_10]; exact tPa_eq hok.1 hok.2.1 hok.2.2), rfl⟩
  refine lv_tableOut (tgt := 171) hx hb dX4_numberOf_1 (by omega) (by decide) ?_
  refine lv_aload_n hx hb dX4_numberOf_171 rfl (lv_at hl 0 rfl) ?_
  refine zg_4_2 h hH zf_X4_22 dX4_numberOf_172 ?_
  refine zcVi h hH (zr_0 h hH) (As := []) (rest := []) (c_X0_size l G hG S) zce_X0_size zcv_X0_size zm_X4_155 hl.1 rfl rfl ⟨rfl, rfl⟩ ⟨Nat.le_of_ble_eq_true rfl, Nat.le_of_ble_eq_true rfl⟩ (Nat.le_of_ble_eq_true rfl) ⟨Nat.zero_le _, Nat.zero_le _⟩ dX4_numberOf_175 (fun r_175 S_175 H locs hq hH => ?_)
  obtain ⟨rfl, rfl⟩ := hq
  refine zri h hr hH ?_ dX4_numberOf_178
  exact ⟨congrArg zI (by rw [show what = 11 by omega]; exact (tNum_11 _ _).symm), rfl⟩
