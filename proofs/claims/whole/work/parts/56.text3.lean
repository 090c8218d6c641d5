theorem dX4_doOrder_0 : decode cX4_doOrder 0 = .ok (.aload_n 0, 1) := by decide +kernel
theorem dX4_doOrder_1 : decode cX4_doOrder 1 = .ok (.getfield 29, 3) := by decide +kernel
theorem dX4_doOrder_4 : decode cX4_doOrder 4 = .ok (.getfield 259, 3) := by decide +kernel
theorem dX4_doOrder_7 : decode cX4_doOrder 7 = .ok (.istore_n 1, 1) := by decide +kernel
theorem dX4_doOrder_8 : decode cX4_doOrder 8 = .ok (.aload_n 0, 1) := by decide +kernel
theorem dX4_doOrder_9 : decode cX4_doOrder 9 = .ok (.getfield 29, 3) := by decide +kernel
theorem dX4_doOrder_12 : decode cX4_doOrder 12 = .ok (.getfield 262, 3) := by decide +kernel
theorem dX4_doOrder_15 : decode cX4_doOrder 15 = .ok (.istore_n 2, 1) := by decide +kernel
theorem dX4_doOrder_16 : decode cX4_doOrder 16 = .ok (.aload_n 0, 1) := by decide +kernel
theorem dX4_doOrder_17 : decode cX4_doOrder 17 = .ok (.getfield 29, 3) := by decide +kernel
theorem dX4_doOrder_20 : decode cX4_doOrder 20 = .ok (.getfield 265, 3) := by decide +kernel
theorem dX4_doOrder_23 : decode cX4_doOrder 23 = .ok (.lookupswitch 137 #[(98, 112), (110, 66), (116, 102), (122, 41)], 41) := by decide +kernel
theorem dX4_doOrder_64 : decode cX4_doOrder 64 = .ok (.aload_n 0, 1) := by decide +kernel
theorem dX4_doOrder_65 : decode cX4_doOrder 65 = .ok (.getfield 10, 3) := by decide +kernel
theorem dX4_doOrder_68 : decode cX4_doOrder 68 = .ok (.aload_n 0, 1) := by decide +kernel
theorem dX4_doOrder_69 : decode cX4_doOrder 69 = .ok (.getfield 29, 3) := by decide +kernel
theorem dX4_doOrder_72 : decode cX4_doOrder 72 = .ok (.getfield 259, 3) := by decide +kernel
theorem dX4_doOrder_75 : decode cX4_doOrder 75 = .ok (.iload_n 2, 1) := by decide +kernel
theorem dX4_doOrder_76 : decode cX4_doOrder 76 = .ok (.invokevirtual 65, 3) := by decide +kernel
theorem dX4_doOrder_79 : decode cX4_doOrder 79 = .ok (.iconst (-1), 1) := by decide +kernel
theorem dX4_doOrder_80 : decode cX4_doOrder 80 = .ok (.if_icmp .eq 7, 3) := by decide +kernel
theorem dX4_doOrder_83 : decode cX4_doOrder 83 = .ok (.iconst 1, 1) := by decide +kernel
theorem dX4_doOrder_84 : decode cX4_doOrder 84 = .ok (.goto 4, 3) := by decide +kernel
theorem dX4_doOrder_87 : decode cX4_doOrder 87 = .ok (.iconst 0, 1) := by decide +kernel
theorem dX4_doOrder_88 : decode cX4_doOrder 88 = .ok (.ireturn, 1) := by decide +kernel
theorem dX4_doOrder_89 : decode cX4_doOrder 89 = .ok (.aload_n 0, 1) := by decide +kernel
theorem dX4_doOrder_90 : decode cX4_doOrder 90 = .ok (.getfield 10, 3) := by decide +kernel
theorem dX4_doOrder_93 : decode cX4_doOrder 93 = .ok (.iload_n 1, 1) := by decide +kernel
theorem dX4_doOrder_94 : decode cX4_doOrder 94 = .ok (.invokevirtual 69, 3) := by decide +kernel
theorem dX4_doOrder_97 : decode cX4_doOrder 97 = .ok (.ifCond .eq 14, 3) := by decide +kernel
theorem dX4_doOrder_100 : decode cX4_doOrder 100 = .ok (.aload_n 0, 1) := by decide +kernel
theorem dX4_doOrder_101 : decode cX4_doOrder 101 = .ok (.getfield 10, 3) := by decide +kernel
theorem dX4_doOrder_104 : decode cX4_doOrder 104 = .ok (.iload_n 2, 1) := by decide +kernel
theorem dX4_doOrder_105 : decode cX4_doOrder 105 = .ok (.invokevirtual 69, 3) := by decide +kernel
theorem dX4_doOrder_108 : decode cX4_doOrder 108 = .ok (.ifCond .ne 5, 3) := by decide +kernel
theorem dX4_doOrder_111 : decode cX4_doOrder 111 = .ok (.iconst 0, 1) := by decide +kernel
theorem dX4_doOrder_112 : decode cX4_doOrder 112 = .ok (.ireturn, 1) := by decide +kernel
theorem dX4_doOrder_113 : decode cX4_doOrder 113 = .ok (.aload_n 0, 1) := by decide +kernel
theorem dX4_doOrder_114 : decode cX4_doOrder 114 = .ok (.getfield 10, 3) := by decide +kernel
theorem dX4_doOrder_117 : decode cX4_doOrder 117 = .ok (.iload_n 1, 1) := by decide +kernel
theorem dX4_doOrder_118 : decode cX4_doOrder 118 = .ok (.iload_n 2, 1) := by decide +kernel
theorem dX4_doOrder_119 : decode cX4_doOrder 119 = .ok (.iconst 1, 1) := by decide +kernel
theorem dX4_doOrder_120 : decode cX4_doOrder 120 = .ok (.invokevirtual 89, 3) := by decide +kernel
theorem dX4_doOrder_123 : decode cX4_doOrder 123 = .ok (.iconst 1, 1) := by decide +kernel
theorem dX4_doOrder_124 : decode cX4_doOrder 124 = .ok (.ireturn, 1) := by decide +kernel
theorem dX4_doOrder_125 : decode cX4_doOrder 125 = .ok (.aload_n 0, 1) := by decide +kernel
theorem dX4_doOrder_126 : decode cX4_doOrder 126 = .ok (.getfield 10, 3) := by decide +kernel
theorem dX4_doOrder_129 : decode cX4_doOrder 129 = .ok (.iload_n 2, 1) := by decide +kernel
theorem dX4_doOrder_130 : decode cX4_doOrder 130 = .ok (.putfield 95, 3) := by decide +kernel
theorem dX4_doOrder_133 : decode cX4_doOrder 133 = .ok (.iconst 1, 1) := by decide +kernel
theorem dX4_doOrder_134 : decode cX4_doOrder 134 = .ok (.ireturn, 1) := by decide +kernel
theorem dX4_doOrder_135 : decode cX4_doOrder 135 = .ok (.aload_n 0, 1) := by decide +kernel
theorem dX4_doOrder_136 : decode cX4_doOrder 136 = .ok (.getfield 10, 3) := by decide +kernel
theorem dX4_doOrder_139 : decode cX4_doOrder 139 = .ok (.iload_n 1, 1) := by decide +kernel
theorem dX4_doOrder_140 : decode cX4_doOrder 140 = .ok (.invokevirtual 69, 3) := by decide +kernel
theorem dX4_doOrder_143 : decode cX4_doOrder 143 = .ok (.ifCond .ne 5, 3) := by decide +kernel
theorem dX4_doOrder_146 : decode cX4_doOrder 146 = .ok (.iconst 0, 1) := by decide +kernel
theorem dX4_doOrder_147 : decode cX4_doOrder 147 = .ok (.ireturn, 1) := by decide +kernel
theorem dX4_doOrder_148 : decode cX4_doOrder 148 = .ok (.aload_n 0, 1) := by decide +kernel
theorem dX4_doOrder_149 : decode cX4_doOrder 149 = .ok (.getfield 10, 3) := by decide +kernel
theorem dX4_doOrder_152 : decode cX4_doOrder 152 = .ok (.getfield 104, 3) := by decide +kernel
theorem dX4_doOrder_155 : decode cX4_doOrder 155 = .ok (.iload_n 1, 1) := by decide +kernel
theorem dX4_doOrder_156 : decode cX4_doOrder 156 = .ok (.iload_n 2, 1) := by decide +kernel
theorem dX4_doOrder_157 : decode cX4_doOrder 157 = .ok (.iastore, 1) := by decide +kernel
theorem dX4_doOrder_158 : decode cX4_doOrder 158 = .ok (.iconst 1, 1) := by decide +kernel
theorem dX4_doOrder_159 : decode cX4_doOrder 159 = .ok (.ireturn, 1) := by decide +kernel
theorem dX4_doOrder_160 : decode cX4_doOrder 160 = .ok (.aload_n 0, 1) := by decide +kernel
theorem dX4_doOrder_161 : decode cX4_doOrder 161 = .ok (.getfield 10, 3) := by decide +kernel
theorem dX4_doOrder_164 : decode cX4_doOrder 164 = .ok (.iload_n 1, 1) := by decide +kernel
theorem dX4_doOrder_165 : decode cX4_doOrder 165 = .ok (.invokevirtual 69, 3) := by decide +kernel
theorem dX4_doOrder_168 : decode cX4_doOrder 168 = .ok (.ifCond .ne 5, 3) := by decide +kernel
theorem dX4_doOrder_171 : decode cX4_doOrder 171 = .ok (.iconst 0, 1) := by decide +kernel
theorem dX4_doOrder_172 : decode cX4_doOrder 172 = .ok (.ireturn, 1) := by decide +kernel
theorem dX4_doOrder_173 : decode cX4_doOrder 173 = .ok (.aload_n 0, 1) := by decide +kernel
theorem dX4_doOrder_174 : decode cX4_doOrder 174 = .ok (.getfield 10, 3) := by decide +kernel
theorem dX4_doOrder_177 : decode cX4_doOrder 177 = .ok (.getfield 110, 3) := by decide +kernel
theorem dX4_doOrder_180 : decode cX4_doOrder 180 = .ok (.iload_n 1, 1) := by decide +kernel
theorem dX4_doOrder_181 : decode cX4_doOrder 181 = .ok (.iload_n 2, 1) := by decide +kernel
theorem dX4_doOrder_182 : decode cX4_doOrder 182 = .ok (.iastore, 1) := by decide +kernel
theorem dX4_doOrder_183 : decode cX4_doOrder 183 = .ok (.iconst 1, 1) := by decide +kernel
theorem dX4_doOrder_184 : decode cX4_doOrder 184 = .ok (.ireturn, 1) := by decide +kernel
def q_X4_doOrder (S : zM) : Int32 → zM → Prop := fun r S1 => r = zI (dB (S 8 3) (S 0 0)) ∧ zPut S 0 (dSt (S 8 3) (S 0 0)) (S 0 2) (S 0 8) = S1
def r_X4_doOrder : Room := { frames := 2, cells := 0, slots := 0, locals := 44 }
set_option maxHeartbeats 4000000 in
set_option maxRecDepth 100000 in
theorem c_X4_doOrder (l : Launch) (G : zG) (hG : zok G) (S : zM) (hrv : zRv (S 8 3)) (hok : zOk (S 0 0)) : Met l yX4_doOrder (Cond.code yX4_doOrder cX4_doOrder 3 (some FieldType.boolean) :: zTbl) r_X4_doOrder (va_Pc [.ref (za G 8 0)] (zB G S)) (va_Qi (q_X4_doOrder S) (zB G) (zA G)) 0 0 (zA G) := by
  refine zMet [(0, .ref (za G 8 0))] hG (by decide) (Nat.le_of_ble_eq_true rfl) rfl (fun p e s m args below meth c ls h hx hb hr hH hl => ?_)
  rw [← zP_id S 0] at hH
  have hw := hok.1
  have f4 := zW_4 hw
  have hrv2 := hrv
  unfold zRv at hrv2
  refine lv_aload_n hx hb dX4_doOrder_0 rfl (lv_at hl 0 rfl) ?_
  refine zg_4_3 h hH zf_X4_29 dX4_doOrder_1 ?_
  refine zgn_1_2 h hH zfn_X4_259 dX4_doOrder_4 ?_
  rw [zP_n (by omega)]
  refine lv_istore_n (lv' := [(1, .int (zI (S 8 3 2))), (0, .ref (za G 8 0))]) hx hb dX4_doOrder_7 rfl hl (by decide) rfl (fun ls hl => ?_)
  refine lv_aload_n hx hb dX4_doOrder_8 rfl (lv_at hl 1 rfl) ?_
  refine zg_4_3 h hH zf_X4_29 dX4_doOrder_9 ?_
  refine zgn_1_3 h hH zfn_X4_262 dX4_doOrder_12 ?_
  rw [zP_n (by omega)]
  refine lv_istore_n (lv' := [(2, .int (zI (S 8 3 3))), (1, .int (zI (S 8 3 2))), (0, .ref (za G 8 0))]) hx hb dX4_doOrder_15 rfl hl (by decide) rfl (fun ls hl => ?_)
  refine lv_aload_n hx hb dX4_doOrder_16 rfl (lv_at hl 2 rfl) ?_
  refine zg_4_3 h hH zf_X4_29 dX4_doOrder_17 ?_
  refine zgn_1_1 h hH zfn_X4_265 dX4_doOrder_20 ?_
  rw [zP_n (by omega)]
  have x_23 : (zI (S 8 3 1)).toInt = (S 8 3 1) := zI_toInt (by omega) (by omega)
  by_cases e_23_98 : S 8 3 1 = 98
  · refine lv_lookup (off := 112) (tgt := 135) hx hb dX4_doOrder_23 (by decide) (by rw [x_23, e_23_98]; rfl) (by decide) ?_
    refine lv_aload_n hx hb dX4_doOrder_135 rfl (lv_at hl 2 rfl) ?_
    refine zg_4_0 h hH zf_X4_10 dX4_doOrder_136 ?_
    refine lv_iload_n hx hb dX4_doOrder_139 rfl (lv_at hl 1 rfl) ?_
    refine zcVi h hH (zr_3 h hH (by omega)) (As := [.int (zI (S 8 3 2))]) (rest := []) (c_X3_hasZone l G hG 0 (by omega) (zPut S 0 (S 0 0) (S 0 2) (S 0 8)) (S 8 3 2) (by omega) (zP_hw hw)) zce_X3_hasZone zcv_X3_hasZone zm_X4_69 hl.1 rfl rfl ⟨rfl, rfl⟩ ⟨Nat.le_of_ble_eq_true rfl, Nat.le_of_ble_eq_true rfl⟩ (Nat.le_of_ble_eq_true rfl) ⟨Nat.zero_le _, Nat.zero_le _⟩ dX4_doOrder_140 (fun r_140 S_140 H locs hq hH => ?_)
    obtain ⟨b_140, rfl, hb_140, rfl⟩ := hq
    (try rw [zP_0] at hb_140)
    refine zb_ine (tgt := 148) h (by omega) dX4_doOrder_143 (by decide) (fun c_143 => ?_) (fun c_143 => ?_)
    · refine lv_aload_n hx hb dX4_doOrder_148 rfl (lv_at hl 2 rfl) ?_
      refine zg_4_0 h hH zf_X4_10 dX4_doOrder_149 ?_
      refine zgn_3_3 h hH (by omega) zfn_X4_104 dX4_doOrder_152 ?_
      refine lv_iload_n hx hb dX4_doOrder_155 rfl (lv_at hl 1 rfl) ?_
      refine lv_iload_n hx hb dX4_doOrder_156 rfl (lv_at hl 0 rfl) ?_
      refine zst_ar_bu h hH (by omega) (by omega) dX4_doOrder_157 (fun H locs hH => ?_)
      rw [zs_P0] at hH
      refine zb_ic h dX4_doOrder_158 ?_
      refine zrz h hr hH (by omega) ?_ dX4_doOrder_159
      have e9 : dB (S 8 3) (S 0 0) = 1 := by rw [dB_b (Or.inl e_23_98), if_pos (by omega)]
      exact ⟨by rw [e9], by rw [dSt_1 e9, dDo_b e_23_98]⟩
    · refine zb_ic h dX4_doOrder_146 ?_
      refine zrz h hr hH (by omega) ?_ dX4_doOrder_147
      have e9 : dB (S 8 3) (S 0 0) = 0 := by rw [dB_b (Or.inl e_23_98), if_neg (by omega)]
      exact ⟨by rw [e9], by rw [dSt_0 e9]⟩
  by_cases e_23_110 : S 8 3 1 = 110
  · refine lv_lookup (off := 66) (tgt := 89) hx hb dX4_doOrder_23 (by decide) (by rw [x_23, e_23_110]; rfl) (by decide) ?_
    refine lv_aload_n hx hb dX4_doOrder_89 rfl (lv_at hl 2 rfl) ?_
    refine zg_4_0 h hH zf_X4_10 dX4_doOrder_90 ?_
    refine lv_iload_n hx hb dX4_doOrder_93 rfl (lv_at hl 1 rfl) ?_
    refine zcVi h hH (zr_3 h hH (by omega)) (As := [.int (zI (S 8 3 2))]) (rest := []) (c_X3_hasZone l G hG 0 (by omega) (zPut S 0 (S 0 0) (S 0 2) (S 0 8)) (S 8 3 2) (by omega) (zP_hw hw)) zce_X3_hasZone zcv_X3_hasZone zm_X4_69 hl.1 rfl rfl ⟨rfl, rfl⟩ ⟨Nat.le_of_ble_eq_true rfl, Nat.le_of_ble_eq_true rfl⟩ (Nat.le_of_ble_eq_true rfl) ⟨Nat.zero_le _, Nat.zero_le _⟩ dX4_doOrder_94 (fun r_94 S_94 H locs hq hH => ?_)
    obtain ⟨b_94, rfl, hb_94, rfl⟩ := hq
    (try rw [zP_0] at hb_94)
    refine zb_ieq (tgt := 111) h (by omega) dX4_doOrder_97 (by decide) (fun c_97 => ?_) (fun c_97 => ?_)
    · refine zb_ic h dX4_doOrder_111 ?_
      refine zrz h hr hH (by omega) ?_ dX4_doOrder_112
      have e9 : dB (S 8 3) (S 0 0) = 0 := by rw [dB_n e_23_110, if_neg (by omega)]
      exact ⟨by rw [e9], by rw [dSt_0 e9]⟩
    · refine lv_aload_n hx hb dX4_doOrder_100 rfl (lv_at hl 2 rfl) ?_
      refine zg_4_0 h hH zf_X4_10 dX4_doOrder_101 ?_
      refine lv_iload_n hx hb dX4_doOrder_104 rfl (lv_at hl 0 rfl) ?_
      refine zcVi h hH (zr_3 h hH (by omega)) (As := [.int (zI (S 8 3 3))]) (rest := []) (c_X3_hasZone l G hG 0 (by omega) (zPut S 0 (S 0 0) (S 0 2) (S 0 8)) (S 8 3 3) (by omega) (zP_hw hw)) zce_X3_hasZone zcv_X3_hasZone zm_X4_69 hl.1 rfl rfl ⟨rfl, rfl⟩ ⟨Nat.le_of_ble_eq_true rfl, Nat.le_of_ble_eq_true rfl⟩ (Nat.le_of_ble_eq_true rfl) ⟨Nat.zero_le _, Nat.zero_le _⟩ dX4_doOrder_105 (fun r_105 S_105 H locs hq hH => ?_)
      obtain ⟨b_105, rfl, hb_105, rfl⟩ := hq
      (try rw [zP_0] at hb_105)
      refine zb_ine (tgt := 113) h (by omega) dX4_doOrder_108 (by decide) (fun c_108 => ?_) (fun c_108 => ?_)
      · refine lv_aload_n hx hb dX4_doOrder_113 rfl (lv_at hl 2 rfl) ?_
        refine zg_4_0 h hH zf_X4_10 dX4_doOrder_114 ?_
        refine lv_iload_n hx hb dX4_doOrder_117 rfl (lv_at hl 1 rfl) ?_
        refine lv_iload_n hx hb dX4_doOrder_118 rfl (lv_at hl 0 rfl) ?_
        refine zb_ic h dX4_doOrder_119 ?_
        refine zcVv h hH (zr_3 h hH (by omega)) (As := [.int (zI (S 8 3 2)), .int (zI (S 8 3 3)), .int (zI 1)]) (rest := []) (c_X3_setNeighbours l G hG 0 (by omega) (zPut S 0 (S 0 0) (S 0 2) (S 0 8)) (S 8 3 2) (S 8 3 3) 1 (by rw [zP_0]; omega) (by rw [zP_0]; omega) (by omega) (by omega) (zP_hw hw)) zce_X3_setNeighbours zcv_X3_setNeighbours zm_X4_89 hl.1 rfl rfl ⟨rfl, rfl⟩ ⟨Nat.le_of_ble_eq_true rfl, Nat.le_of_ble_eq_true rfl⟩ (Nat.le_of_ble_eq_true rfl) ⟨Nat.zero_le _, Nat.zero_le _⟩ dX4_doOrder_120 (fun S_120 H locs hq hH => ?_)
        obtain rfl := hq
        simp only [zP_P, zP_0, zP_2, zP_8] at hH
        refine zb_ic h dX4_doOrder_123 ?_
        refine zrz h hr hH (by omega) ?_ dX4_doOrder_124
        have e9 : dB (S 8 3) (S 0 0) = 1 := by rw [dB_n e_23_110, if_pos (by omega)]
        exact ⟨by rw [e9], by rw [dSt_1 e9, dDo_n e_23_110]⟩
      · refine zb_ic h dX4_doOrder_111 ?_
        refine zrz h hr hH (by omega) ?_ dX4_doOrder_112
        have e9 : dB (S 8 3) (S 0 0) = 0 := by rw [dB_n e_23_110, if_neg (by omega)]
        exact ⟨by rw [e9], by rw [dSt_0 e9]⟩
  by_cases e_23_116 : S 8 3 1 = 116
  · refine lv_lookup (off := 102) (tgt := 125) hx hb dX4_doOrder_23 (by decide) (by rw [x_23, e_23_116]; rfl) (by decide) ?_
    refine lv_aload_n hx hb dX4_doOrder_125 rfl (lv_at hl 2 rfl) ?_
    refine zg_4_0 h hH zf_X4_10 dX4_doOrder_126 ?_
    refine lv_iload_n hx hb dX4_doOrder_129 rfl (lv_at hl 0 rfl) ?_
    refine zun_3_8 h hH (by omega) zfn_X4_95 dX4_doOrder_130 (fun H locs hH => ?_)
    rw [zs_P0] at hH
    refine zb_ic h dX4_doOrder_133 ?_
    refine zrz h hr hH (by omega) ?_ dX4_doOrder_134
    have e9 : dB (S 8 3) (S 0 0) = 1 := by rw [dB_t e_23_116]
    exact ⟨by rw [e9], by rw [dSt_1 e9, dDo_t e_23_116]⟩
  by_cases e_23_122 : S 8 3 1 = 122
  · refine lv_lookup (off := 41) (tgt := 64) hx hb dX4_doOrder_23 (by decide) (by rw [x_23, e_23_122]; rfl) (by decide) ?_
    by_cases s_64 : S 0 0 4 < 8
    · refine lv_aload_n hx hb dX4_doOrder_64 rfl (lv_at hl 2 rfl) ?_
      refine zg_4_0 h hH zf_X4_10 dX4_doOrder_65 ?_
      refine lv_aload_n hx hb dX4_doOrder_68 rfl (lv_at hl 2 rfl) ?_
      refine zg_4_3 h hH zf_X4_29 dX4_doOrder_69 ?_
      refine zgn_1_2 h hH zfn_X4_259 dX4_doOrder_72 ?_
      rw [zP_n (by omega)]
      refine lv_iload_n hx hb dX4_doOrder_75 rfl (lv_at hl 0 rfl) ?_
      refine zcVi h hH (zr_3 h hH (by omega)) (As := [.int (zI (S 8 3 2)), .int (zI (S 8 3 3))]) (rest := []) (c_X3_addZone_ok l G hG 0 (by omega) (zPut S 0 (S 0 0) (S 0 2) (S 0 8)) (S 8 3 2) (S 8 3 3) (by omega) (by omega) (by rw [zP_0]; omega) (zP_hw hw)) zce_X3_addZone zcv_X3_addZone zm_X4_65 hl.1 rfl rfl ⟨rfl, rfl⟩ ⟨Nat.le_of_ble_eq_true rfl, Nat.le_of_ble_eq_true rfl⟩ (Nat.le_of_ble_eq_true rfl) ⟨Nat.zero_le _, Nat.zero_le _⟩ dX4_doOrder_76 (fun r_76 S_76 H locs hq hH => ?_)
      obtain ⟨rfl, rfl⟩ := hq
      rw [zP_0]
      simp only [zP_P, zP_0, zP_2, zP_8] at hH
      refine zb_ic h dX4_doOrder_79 ?_
      refine zb_ceq (tgt := 87) h (by omega) (by omega) dX4_doOrder_80 (by decide) (fun c_80 => ?_) (fun c_80 => ?_)
      · exact absurd c_80 (by omega)
      · refine zb_ic h dX4_doOrder_83 ?_
        refine lv_goto (tgt := 88) hx hb dX4_doOrder_84 (by decide) ?_
        refine zrz h hr hH (by omega) ?_ dX4_doOrder_88
        have e9 : dB (S 8 3) (S 0 0) = 1 := by rw [dB_z e_23_122, if_pos (by omega)]
        exact ⟨by rw [e9], by rw [dSt_1 e9, dDo_z e_23_122]⟩
    · refine lv_aload_n hx hb dX4_doOrder_64 rfl (lv_at hl 2 rfl) ?_
      refine zg_4_0 h hH zf_X4_10 dX4_doOrder_65 ?_
      refine lv_aload_n hx hb dX4_doOrder_68 rfl (lv_at hl 2 rfl) ?_
      refine zg_4_3 h hH zf_X4_29 dX4_doOrder_69 ?_
      refine zgn_1_2 h hH zfn_X4_259 dX4_doOrder_72 ?_
      rw [zP_n (by omega)]
      refine lv_iload_n hx hb dX4_doOrder_75 rfl (lv_at hl 0 rfl) ?_
      refine zcVi h hH (zr_3 h hH (by omega)) (As := [.int (zI (S 8 3 2)), .int (zI (S 8 3 3))]) (rest := []) (c_X3_addZone_no l G hG 0 (by omega) (zPut S 0 (S 0 0) (S 0 2) (S 0 8)) (S 8 3 2) (S 8 3 3) (by rw [zP_0]; omega) (zP_hw hw)) zce_X3_addZone zcv_X3_addZone zm_X4_65 hl.1 rfl rfl ⟨rfl, rfl⟩ ⟨Nat.le_of_ble_eq_true rfl, Nat.le_of_ble_eq_true rfl⟩ (Nat.le_of_ble_eq_true rfl) ⟨Nat.zero_le _, Nat.zero_le _⟩ dX4_doOrder_76 (fun r_76 S_76 H locs hq hH => ?_)
      obtain ⟨rfl, rfl⟩ := hq
      refine zb_ic h dX4_doOrder_79 ?_
      refine zb_ceq (tgt := 87) h (by omega) (by omega) dX4_doOrder_80 (by decide) (fun c_80 => ?_) (fun c_80 => ?_)
      · refine zb_ic h dX4_doOrder_87 ?_
        refine zrz h hr hH (by omega) ?_ dX4_doOrder_88
        have e9 : dB (S 8 3) (S 0 0) = 0 := by rw [dB_z e_23_122, if_neg (by omega)]
        exact ⟨by rw [e9], by rw [dSt_0 e9]⟩
      · exact absurd c_80 (by omega)
  refine lv_lookup (off := 137) (tgt := 160) hx hb dX4_doOrder_23 (by decide) (by rw [x_23]; exact zlk_out [(98, 112), (110, 66), (116, 102), (122, 41)] _ _ (by intro q hq; simp only [List.mem_cons, List.not_mem_nil, or_false] at hq; rcases hq with rfl | rfl | rfl | rfl <;> (dsimp only; omega))) (by decide) ?_
  refine lv_aload_n hx hb dX4_doOrder_160 rfl (lv_at hl 2 rfl) ?_
  refine zg_4_0 h hH zf_X4_10 dX4_doOrder_161 ?_
  refine lv_iload_n hx hb dX4_doOrder_164 rfl (lv_at hl 1 rfl) ?_
  refine zcVi h hH (zr_3 h hH (by omega)) (As := [.int (zI (S 8 3 2))]) (rest := []) (c_X3_hasZone l G hG 0 (by omega) (zPut S 0 (S 0 0) (S 0 2) (S 0 8)) (S 8 3 2) (by omega) (zP_hw hw)) zce_X3_hasZone zcv_X3_hasZone zm_X4_69 hl.1 rfl rfl ⟨rfl, rfl⟩ ⟨Nat.le_of_ble_eq_true rfl, Nat.le_of_ble_eq_true rfl⟩ (Nat.le_of_ble_eq_true rfl) ⟨Nat.zero_le _, Nat.zero_le _⟩ dX4_doOrder_165 (fun r_165 S_165 H locs hq hH => ?_)
  obtain ⟨b_165, rfl, hb_165, rfl⟩ := hq
  (try rw [zP_0] at hb_165)
  refine zb_ine (tgt := 173) h (by omega) dX4_doOrder_168 (by decide) (fun c_168 => ?_) (fun c_168 => ?_)
  · refine lv_aload_n hx hb dX4_doOrder_173 rfl (lv_at hl 2 rfl) ?_
    refine zg_4_0 h hH zf_X4_10 dX4_doOrder_174 ?_
    refine zgn_3_4 h hH (by omega) zfn_X4_110 dX4_doOrder_177 ?_
    refine lv_iload_n hx hb dX4_doOrder_180 rfl (lv_at hl 1 rfl) ?_
    refine lv_iload_n hx hb dX4_doOrder_181 rfl (lv_at hl 0 rfl) ?_
    refine zst_ar_ho h hH (by omega) (by omega) dX4_doOrder_182 (fun H locs hH => ?_)
    rw [zs_P0] at hH
    refine zb_ic h dX4_doOrder_183 ?_
    refine zrz h hr hH (by omega) ?_ dX4_doOrder_184
    have e9 : dB (S 8 3) (S 0 0) = 1 := by rw [dB_b (Or.inr (by omega : S 8 3 1 = 104)), if_pos (by omega)]
    exact ⟨by rw [e9], by rw [dSt_1 e9, dDo_h (by omega : S 8 3 1 = 104)]⟩
  · refine zb_ic h dX4_doOrder_171 ?_
    refine zrz h hr hH (by omega) ?_ dX4_doOrder_172
    have e9 : dB (S 8 3) (S 0 0) = 0 := by rw [dB_b (Or.inr (by omega : S 8 3 1 = 104)), if_neg (by omega)]
    exact ⟨by rw [e9], by rw [dSt_0 e9]⟩
theorem dX4_doOrders_0 : decode cX4_doOrders 0 = .ok (.iconst 0, 1) := by decide +kernel
theorem dX4_doOrders_1 : decode cX4_doOrders 1 = .ok (.istore_n 1, 1) := by decide +kernel
theorem dX4_doOrders_2 : decode cX4_doOrders 2 = .ok (.aload_n 0, 1) := by decide +kernel
theorem dX4_doOrders_3 : decode cX4_doOrders 3 = .ok (.getfield 29, 3) := by decide +kernel
theorem dX4_doOrders_6 : decode cX4_doOrders 6 = .ok (.invokevirtual 137, 3) := by decide +kernel
theorem dX4_doOrders_9 : decode cX4_doOrders 9 = .ok (.iconst 0, 1) := by decide +kernel
theorem dX4_doOrders_10 : decode cX4_doOrders 10 = .ok (.istore_n 2, 1) := by decide +kernel
theorem dX4_doOrders_11 : decode cX4_doOrders 11 = .ok (.iload_n 2, 1) := by decide +kernel
theorem dX4_doOrders_12 : decode cX4_doOrders 12 = .ok (.aload_n 0, 1) := by decide +kernel
theorem dX4_doOrders_13 : decode cX4_doOrders 13 = .ok (.getfield 37, 3) := by decide +kernel
theorem dX4_doOrders_16 : decode cX4_doOrders 16 = .ok (.if_icmp .ge 52, 3) := by decide +kernel
theorem dX4_doOrders_19 : decode cX4_doOrders 19 = .ok (.iload_n 2, 1) := by decide +kernel
theorem dX4_doOrders_20 : decode cX4_doOrders 20 = .ok (.aload_n 0, 1) := by decide +kernel
theorem dX4_doOrders_21 : decode cX4_doOrders 21 = .ok (.getfield 33, 3) := by decide +kernel
theorem dX4_doOrders_24 : decode cX4_doOrders 24 = .ok (.arraylength, 1) := by decide +kernel
theorem dX4_doOrders_25 : decode cX4_doOrders 25 = .ok (.if_icmp .ge 43, 3) := by decide +kernel
theorem dX4_doOrders_28 : decode cX4_doOrders 28 = .ok (.aload_n 0, 1) := by decide +kernel
theorem dX4_doOrders_29 : decode cX4_doOrders 29 = .ok (.getfield 29, 3) := by decide +kernel
theorem dX4_doOrders_32 : decode cX4_doOrders 32 = .ok (.aload_n 0, 1) := by decide +kernel
theorem dX4_doOrders_33 : decode cX4_doOrders 33 = .ok (.getfield 33, 3) := by decide +kernel
theorem dX4_doOrders_36 : decode cX4_doOrders 36 = .ok (.iload_n 2, 1) := by decide +kernel
theorem dX4_doOrders_37 : decode cX4_doOrders 37 = .ok (.iaload, 1) := by decide +kernel
theorem dX4_doOrders_38 : decode cX4_doOrders 38 = .ok (.invokevirtual 140, 3) := by decide +kernel
theorem dX4_doOrders_41 : decode cX4_doOrders 41 = .ok (.pop, 1) := by decide +kernel
theorem dX4_doOrders_42 : decode cX4_doOrders 42 = .ok (.aload_n 0, 1) := by decide +kernel
theorem dX4_doOrders_43 : decode cX4_doOrders 43 = .ok (.iload_n 2, 1) := by decide +kernel
theorem dX4_doOrders_44 : decode cX4_doOrders 44 = .ok (.invokevirtual 253, 3) := by decide +kernel
theorem dX4_doOrders_47 : decode cX4_doOrders 47 = .ok (.ifCond .eq 15, 3) := by decide +kernel
theorem dX4_doOrders_50 : decode cX4_doOrders 50 = .ok (.aload_n 0, 1) := by decide +kernel
theorem dX4_doOrders_51 : decode cX4_doOrders 51 = .ok (.invokevirtual 256, 3) := by decide +kernel
theorem dX4_doOrders_54 : decode cX4_doOrders 54 = .ok (.ifCond .ne 5, 3) := by decide +kernel
theorem dX4_doOrders_57 : decode cX4_doOrders 57 = .ok (.iload_n 1, 1) := by decide +kernel
theorem dX4_doOrders_58 : decode cX4_doOrders 58 = .ok (.ireturn, 1) := by decide +kernel
theorem dX4_doOrders_59 : decode cX4_doOrders 59 = .ok (.iinc 1 1, 3) := by decide +kernel
theorem dX4_doOrders_62 : decode cX4_doOrders 62 = .ok (.iinc 2 1, 3) := by decide +kernel
theorem dX4_doOrders_65 : decode cX4_doOrders 65 = .ok (.goto (-54), 3) := by decide +kernel
theorem dX4_doOrders_68 : decode cX4_doOrders 68 = .ok (.iload_n 1, 1) := by decide +kernel
theorem dX4_doOrders_69 : decode cX4_doOrders 69 = .ok (.ireturn, 1) := by decide +kernel
def q_X4_doOrders (S : zM) : Int32 → zM → Prop := fun r S1 => ∃ ρ' : Int → Int, zRd ρ' ∧ r = zI (cD (S 8 4) (zup (S 8 3) 0 0) (S 8 0 5) (S 0 0) (S 8 0 5).toNat).2.1 ∧ zDM S (cD (S 8 4) (zup (S 8 3) 0 0) (S 8 0 5) (S 0 0) (S 8 0 5).toNat).1 ρ' = S1
def r_X4_doOrders : Room := { frames := 3, cells := 0, slots := 0, locals := 66 }
set_option maxHeartbeats 4000000 in
set_option maxRecDepth 100000 in
theorem c_X4_doOrders (l : Launch) (G : zG) (hG : zok G) (S : zM) (hlen : 0 ≤ S 8 0 5 ∧ S 8 0 5 ≤ 60) (hbf : ∀ i : Int, 0 ≤ i → i < 60 → 0 ≤ S 8 4 i ∧ S 8 4 i ≤ 126) (hrd : zRd (S 8 3))(hfull : zFull (S 8 4) (zup (S 8 3) 0 0) (S 8 0 5)) (hok : zOk (S 0 0))  : Met l yX4_doOrders (Cond.code yX4_doOrders cX4_doOrders 3 (some FieldType.int) :: zTbl) r_X4_doOrders (va_Pc [.ref (za G 8 0)] (zB G S)) (va_Qi (q_X4_doOrders S) (zB G) (zA G)) 0 0 (zA G) := by
  refine zMet [(0, .ref (za G 8 0))] hG (by decide) (Nat.le_of_ble_eq_true rfl) rfl (fun p e s m args below meth c ls h hx hb hr hH hl => ?_)
  rw [← zDM_id S] at hH
  have h00 : (zup (S 8 3) 0 0) 0 = 0 := zup_s _ _ _
  have C11 : ∀ (fu : Nat) (i n : Int) (σ ρ : Int → Int) (H : Heap) (locs : List Loc) (ls : Array Slot), (S 8 0 5 - i).toNat < fu → (0 ≤ i ∧ i ≤ S 8 0 5) → (ρ = zR (S 8 4) (zup (S 8 3) 0 0) i) → (cD (S 8 4) (zup (S 8 3) 0 0) (S 8 0 5) (S 0 0) i.toNat = (σ, n, 0)) → (zOk σ) → (zRd ρ) → zH G (zDM S σ ρ) s H locs → lv_has ls 3 [(0, .ref (za G 8 0)), (1, .int (zI n)), (2, .int (zI i))] → W p l e r_X4_doOrders s m args below meth c H locs 0 0 (MQ below (va_Qi (q_X4_doOrders S) (zB G) (zA G)) args s 0 0 (zA G)) (F0 m 11 ls []) := by
    intro fu
    induction fu with
    | zero => intro i n σ ρ H locs ls hfu; omega
    | succ fu ih11 =>
      intro i n σ ρ H locs ls hfu hi hρ hcd hok2 hrd2 hH hl
      refine lv_iload_n hx hb dX4_doOrders_11 rfl (lv_at hl 2 rfl) ?_
      refine lv_aload_n hx hb dX4_doOrders_12 rfl (lv_at hl 0 rfl) ?_
      refine zg_4_5 h hH zf_X4_37 dX4_doOrders_13 ?_
      rw [zDM_80]
      refine zb_cge (tgt := 68) h (by omega) (by omega) dX4_doOrders_16 (by decide) (fun c_16 => ?_) (fun c_16 => ?_)
      · refine lv_iload_n hx hb dX4_doOrders_68 rfl (lv_at hl 1 rfl) ?_
        refine zri h hr hH ?_ dX4_doOrders_69
        obtain rfl : i = S 8 0 5 := by omega
        exact ⟨ρ, hrd2, by rw [hcd], by rw [hcd]⟩
      · refine lv_iload_n hx hb dX4_doOrders_19 rfl (lv_at hl 2 rfl) ?_
        refine lv_aload_n hx hb dX4_doOrders_20 rfl (lv_at hl 0 rfl) ?_
        refine zg_4_4 h hH zf_X4_33 dX4_doOrders_21 ?_
        refine zln_ar_bf h hH dX4_doOrders_24 ?_
        refine zb_cge (tgt := 68) h (by omega) (by omega) dX4_doOrders_25 (by decide) (fun c_25 => ?_) (fun c_25 => ?_)
        · refine lv_iload_n hx hb dX4_doOrders_68 rfl (lv_at hl 1 rfl) ?_
          refine zri h hr hH ?_ dX4_doOrders_69
          obtain rfl : i = S 8 0 5 := by omega
          exact ⟨ρ, hrd2, by rw [hcd], by rw [hcd]⟩
        · refine lv_aload_n hx hb dX4_doOrders_28 rfl (lv_at hl 0 rfl) ?_
          refine zg_4_3 h hH zf_X4_29 dX4_doOrders_29 ?_
          refine lv_aload_n hx hb dX4_doOrders_32 rfl (lv_at hl 0 rfl) ?_
          refine zg_4_4 h hH zf_X4_33 dX4_doOrders_33 ?_
          refine lv_iload_n hx hb dX4_doOrders_36 rfl (lv_at hl 2 rfl) ?_
          refine zld_ar_bf h hH (by omega) dX4_doOrders_37 ?_
          rw [zDM_84]
          have b_37 := hbf i (by omega) (by omega)
          refine zcVi h hH (zr_1 h hH) (As := [.int (zI (S 8 4 i))]) (rest := []) (c_X1_accepts l G hG (zDM S σ ρ) (S 8 4 i) (by omega) (by rw [zDM_83]; exact hrd2)) zce_X1_accepts zcv_X1_accepts zm_X4_140 hl.1 rfl rfl ⟨rfl, rfl⟩ ⟨Nat.le_of_ble_eq_true rfl, Nat.le_of_ble_eq_true rfl⟩ (Nat.le_of_ble_eq_true rfl) ⟨Nat.zero_le _, Nat.zero_le _⟩ dX4_doOrders_38 (fun r_38 S_38 H locs hq hH => ?_)
          obtain ⟨b_38, rfl, hb_38⟩ := hq
          have hkk : oK ρ (S 8 4 i) := by rw [hρ]; exact hfull.1 i hi.1 (by omega)
          rw [zDM_83] at hb_38
          obtain ⟨_, hk, rfl⟩ := hb_38.resolve_right (fun q => q.2.1 hkk)
          rw [zDM_r] at hH
          have hρ1 : oN ρ (S 8 4 i) = zR (S 8 4) (zup (S 8 3) 0 0) (i + 1) := by rw [hρ]; exact (oRow_s _ _ hi.1).symm
          have hrd3 := oN_in hrd2 (show -1 ≤ S 8 4 i ∧ S 8 4 i ≤ 126 by omega) hkk
          generalize oN ρ (S 8 4 i) = ρ1 at hH hρ1 hrd3
          refine lv_pop hx hb dX4_doOrders_41 rfl ?_
          refine lv_aload_n hx hb dX4_doOrders_42 rfl (lv_at hl 0 rfl) ?_
          refine lv_iload_n hx hb dX4_doOrders_43 rfl (lv_at hl 2 rfl) ?_
          refine zcVi h hH (zr_4 h hH) (As := [.int (zI i)]) (rest := []) (c_X4_isLastOfOrder l G hG (zDM S σ ρ1) i (by omega) (by rw [zDM_80]; exact hlen) (by rw [zDM_84]; exact hbf)) zce_X4_isLastOfOrder zcv_X4_isLastOfOrder zm_X4_253 hl.1 rfl rfl ⟨rfl, rfl⟩ ⟨Nat.le_of_ble_eq_true rfl, Nat.le_of_ble_eq_true rfl⟩ (Nat.le_of_ble_eq_true rfl) ⟨Nat.zero_le _, Nat.zero_le _⟩ dX4_doOrders_44 (fun r_44 S_44 H locs hq hH => ?_)
          obtain ⟨b_44, rfl, hb_44, rfl⟩ := hq
          rw [zDM_80, zDM_84] at hb_44
          refine zb_ieq (tgt := 62) h (by omega) dX4_doOrders_47 (by decide) (fun c_47 => ?_) (fun c_47 => ?_)
          · refine lv_iinc (v := zI (i + 1)) (lv' := [(2, .int (zI (i + 1))), (0, .ref (za G 8 0)), (1, .int (zI n))]) hx hb dX4_doOrders_62 hl (k := 2) rfl (zI_add _ _) (by decide) rfl (fun ls hl => ?_)
            refine lv_goto (tgt := 11) hx hb dX4_doOrders_65 (by decide) ?_
            exact ih11 (i + 1) n σ ρ1 _ _ _ (by omega) (by omega) hρ1 (by first | exact cD_no hi.1 hcd (by omega) | exact hcd2) (by first | exact hok3 | exact hok2) hrd3 hH (lv_sub hl [1, 2, 0] rfl)
          · have hlast : S 8 0 5 ≤ i + 1 ∨ S 8 4 (i + 1) = 59 := by omega
            have hrv := zFull_rv h00 hfull (show 0 ≤ i ∧ i < S 8 0 5 by omega) hlast
            rw [← hρ1] at hrv
            have hcd1 := cD_yes hi.1 hcd hlast
            rw [← hρ1] at hcd1
            have hok3 := (zOk_dSt hok2 hrv.1).1
            refine lv_aload_n hx hb dX4_doOrders_50 rfl (lv_at hl 0 rfl) ?_
            refine zcVi h hH (zr_4 h hH) (As := []) (rest := []) (c_X4_doOrder l G hG (zDM S σ ρ1) (by rw [zDM_83]; exact hrv.1) (by rw [zDM_00]; exact hok2)) zce_X4_doOrder zcv_X4_doOrder zm_X4_256 hl.1 rfl rfl ⟨rfl, rfl⟩ ⟨Nat.le_of_ble_eq_true rfl, Nat.le_of_ble_eq_true rfl⟩ (Nat.le_of_ble_eq_true rfl) ⟨Nat.zero_le _, Nat.zero_le _⟩ dX4_doOrders_51 (fun r_51 S_51 H locs hq hH => ?_)
            obtain ⟨rfl, rfl⟩ := hq
            rw [zDM_83, zDM_00]
            rw [zDM_83, zDM_00, zDM_p] at hH
            have bdB := dB_in ρ1 σ
            refine zb_ine (tgt := 59) h (by omega) dX4_doOrders_54 (by decide) (fun c_54 => ?_) (fun c_54 => ?_)
            · have hcd2 := hcd1.trans (if_pos (by omega))
              refine lv_iinc (v := zI (n + 1)) (lv' := [(1, .int (zI (n + 1))), (0, .ref (za G 8 0)), (2, .int (zI i))]) hx hb dX4_doOrders_59 hl (k := 1) rfl (zI_add _ _) (by decide) rfl (fun ls hl => ?_)
              refine lv_iinc (v := zI (i + 1)) (lv' := [(2, .int (zI (i + 1))), (1, .int (zI (n + 1))), (0, .ref (za G 8 0))]) hx hb dX4_doOrders_62 hl (k := 2) rfl (zI_add _ _) (by decide) rfl (fun ls hl => ?_)
              refine lv_goto (tgt := 11) hx hb dX4_doOrders_65 (by decide) ?_
              exact ih11 (i + 1) (n + 1) (dSt ρ1 σ) ρ1 _ _ _ (by omega) (by omega) hρ1 (by first | exact cD_no hi.1 hcd (by omega) | exact hcd2) (by first | exact hok3 | exact hok2) hrd3 hH (lv_sub hl [2, 1, 0] rfl)
            · have hcd2 := hcd1.trans (if_neg (by omega))
              have hcd3 := cD_end (show 0 ≤ i + 1 ∧ i + 1 ≤ S 8 0 5 by omega) hcd2
              have e0 : dSt ρ1 σ = σ := dSt_0 (by omega)
              refine lv_iload_n hx hb dX4_doOrders_57 rfl (lv_at hl 1 rfl) ?_
              refine zri h hr hH ?_ dX4_doOrders_58
              rw [e0]
              exact ⟨ρ1, hrd3, by rw [hcd3], by rw [hcd3]⟩
  refine zb_ic h dX4_doOrders_0 ?_
  refine lv_istore_n (lv' := [(1, .int (zI 0)), (0, .ref (za G 8 0))]) hx hb dX4_doOrders_1 rfl hl (by decide) rfl (fun ls hl => ?_)
  refine lv_aload_n hx hb dX4_doOrders_2 rfl (lv_at hl 1 rfl) ?_
  refine zg_4_3 h hH zf_X4_29 dX4_doOrders_3 ?_
  refine zcVv h hH (zr_1 h hH) (As := []) (rest := []) (c_X1_restart l G hG (zDM S (S 0 0) (S 8 3))) zce_X1_restart zcv_X1_restart zm_X4_137 hl.1 rfl rfl ⟨rfl, rfl⟩ ⟨Nat.le_of_ble_eq_true rfl, Nat.le_of_ble_eq_true rfl⟩ (Nat.le_of_ble_eq_true rfl) ⟨Nat.zero_le _, Nat.zero_le _⟩ dX4_doOrders_6 (fun S_6 H locs hq hH => ?_)
  obtain rfl := hq
  rw [zDM_83, zDM_r] at hH
  refine zb_ic h dX4_doOrders_9 ?_
  refine lv_istore_n (lv' := [(2, .int (zI 0)), (1, .int (zI 0)), (0, .ref (za G 8 0))]) hx hb dX4_doOrders_10 rfl hl (by decide) rfl (fun ls hl => ?_)
  exact C11 ((S 8 0 5 - 0 : Int).toNat + 1) 0 0 (S 0 0) (zup (S 8 3) 0 0) _ _ _ (by omega) (by omega) rfl rfl hok (by obtain ⟨g0, g1, g2, g3⟩ := id hrd; exact ⟨by rw [zup_s]; omega, by rw [zup_n (by omega)]; exact g1, by rw [zup_n (by omega)]; exact g2, by rw [zup_n (by omega)]; exact g3⟩) hH (lv_sub hl [2, 1, 0] rfl)
theorem dX4_run_0 : decode cX4_run 0 = .ok (.aload_n 0, 1) := by decide +kernel
theorem dX4_run_1 : decode cX4_run 1 = .ok (.invokevirtual 143, 3) := by decide +kernel
theorem dX4_run_4 : decode cX4_run 4 = .ok (.aload_n 0, 1) := by decide +kernel
theorem dX4_run_5 : decode cX4_run 5 = .ok (.getfield 37, 3) := by decide +kernel
theorem dX4_run_8 : decode cX4_run 8 = .ok (.if_icmp .lt 13, 3) := by decide +kernel
theorem dX4_run_11 : decode cX4_run 11 = .ok (.aload_n 0, 1) := by decide +kernel
theorem dX4_run_12 : decode cX4_run 12 = .ok (.getfield 29, 3) := by decide +kernel
theorem dX4_run_15 : decode cX4_run 15 = .ok (.invokevirtual 147, 3) := by decide +kernel
theorem dX4_run_18 : decode cX4_run 18 = .ok (.ifCond .ne 13, 3) := by decide +kernel
theorem dX4_run_21 : decode cX4_run 21 = .ok (.new 45, 3) := by decide +kernel
theorem dX4_run_24 : decode cX4_run 24 = .ok (.dup, 1) := by decide +kernel
theorem dX4_run_25 : decode cX4_run 25 = .ok (.ldc 150, 2) := by decide +kernel
theorem dX4_run_27 : decode cX4_run 27 = .ok (.invokespecial 49, 3) := by decide +kernel
theorem dX4_run_30 : decode cX4_run 30 = .ok (.athrow, 1) := by decide +kernel
theorem dX4_run_31 : decode cX4_run 31 = .ok (.aload_n 0, 1) := by decide +kernel
theorem dX4_run_32 : decode cX4_run 32 = .ok (.getfield 22, 3) := by decide +kernel
theorem dX4_run_35 : decode cX4_run 35 = .ok (.aload_n 0, 1) := by decide +kernel
theorem dX4_run_36 : decode cX4_run 36 = .ok (.getfield 10, 3) := by decide +kernel
theorem dX4_run_39 : decode cX4_run 39 = .ok (.invokevirtual 61, 3) := by decide +kernel
theorem dX4_run_42 : decode cX4_run 42 = .ok (.aload_n 0, 1) := by decide +kernel
theorem dX4_run_43 : decode cX4_run 43 = .ok (.invokevirtual 152, 3) := by decide +kernel
theorem dX4_run_46 : decode cX4_run 46 = .ok (.istore_n 1, 1) := by decide +kernel
theorem dX4_run_47 : decode cX4_run 47 = .ok (.aload_n 0, 1) := by decide +kernel
theorem dX4_run_48 : decode cX4_run 48 = .ok (.iconst 0, 1) := by decide +kernel
theorem dX4_run_49 : decode cX4_run 49 = .ok (.putfield 37, 3) := by decide +kernel
theorem dX4_run_52 : decode cX4_run 52 = .ok (.iload_n 1, 1) := by decide +kernel
theorem dX4_run_53 : decode cX4_run 53 = .ok (.ireturn, 1) := by decide +kernel
def q_X4_run (S : zM) : Int32 → zM → Prop := fun r S1 => zFull (S 8 4) (zup (S 8 3) 0 0) (S 8 0 5) ∧ r = zI (cD (S 8 4) (zup (S 8 3) 0 0) (S 8 0 5) (S 0 0) (S 8 0 5).toNat).2.1 ∧ ∃ ρ' : Int → Int, zRd ρ' ∧ zs (zDM (zKeep S) (cD (S 8 4) (zup (S 8 3) 0 0) (S 8 0 5) (S 0 0) (S 8 0 5).toNat).1 ρ') 8 0 5 0 = S1
def x_X4_run (S : zM) : String → Prop := fun E => (E = "java/lang/IllegalArgumentException" ∧ (¬ zFull (S 8 4) (zup (S 8 3) 0 0) (S 8 0 5)))
def r_X4_run : Room := { frames := 6, cells := 1, slots := 6, locals := 92 }
set_option maxHeartbeats 4000000 in
set_option maxRecDepth 100000 in
theorem c_X4_run (l : Launch) (hlx : l.stackTraces = false) (G : zG) (hG : zok G) (S : zM) (hlen : 0 ≤ S 8 0 5 ∧ S 8 0 5 ≤ 60) (hbf : ∀ i : Int, 0 ≤ i → i < 60 → 0 ≤ S 8 4 i ∧ S 8 4 i ≤ 126) (hrd : zRd (S 8 3))(hok : zOk (S 0 0)) (hnx : 0 ≤ S 8 1 2 ∧ S 8 1 2 ≤ 600) (hsz : 0 ≤ S 8 1 1 ∧ S 8 1 1 ≤ 6) (hms : zMs S 0) (hw : zW (S 0 0))  : vx_Met l yX4_run (Cond.code yX4_run cX4_run 2 (some FieldType.int) :: zTbl) r_X4_run (va_Pc [.ref (za G 8 0)] (zBX G S)) (va_Qi (q_X4_run S) (zB G) (zA G)) (zXC G (fun u => ∃ ρ' : Int → Int, zRd ρ' ∧ zCl S (S 8 0) (S 8 1) ρ' (S 8 4) (S 8 5) = u) (x_X4_run S)) 1 6 (zA G) := by
  refine zXMet [(0, .ref (za G 8 0))] hG (by decide) (Nat.le_of_ble_eq_true rfl) rfl (fun p e s m args below meth c ls h hX hT hx hb hr hH hl => ?_)
  refine lv_aload_n hx hb dX4_run_0 rfl (lv_at hl 0 rfl) ?_
  refine zcVi h hH (zr_4 h hH) (As := []) (rest := []) (c_X4_firstError l G hG S hlen hbf hrd) zce_X4_firstError zcv_X4_firstError zm_X4_143 hl.1 rfl rfl ⟨rfl, rfl⟩ ⟨Nat.le_of_ble_eq_true rfl, Nat.le_of_ble_eq_true rfl⟩ (Nat.le_of_ble_eq_true rfl) ⟨Nat.zero_le _, Nat.zero_le _⟩ dX4_run_1 (fun r_1 S_1 H locs hq hH => ?_)
  obtain ⟨e_1, ρ_1, rfl, he_1, hok_1, hno_1, hrd_1, hrw_1, rfl⟩ := hq
  refine lv_aload_n hx hb dX4_run_4 rfl (lv_at hl 0 rfl) ?_
  refine zg_4_5 h hH zf_X4_37 dX4_run_5 ?_
  rw [zC_0]
  refine zb_clt (tgt := 21) h (by omega) (by omega) dX4_run_8 (by decide) (fun c_8 => ?_) (fun c_8 => ?_)
  · have hnf : ¬ zFull (S 8 4) (zup (S 8 3) 0 0) (S 8 0 5) := fun q => hno_1 (by omega) (q.1 e_1 he_1.1 (by omega))
    refine zthr h hX hT hlx hH hl.1 zx_150 zl_X4_45 zn_IllegalArgumentException zat_IllegalArgumentException ⟨ρ_1, hrd_1, rfl⟩ (show x_X4_run S "java/lang/IllegalArgumentException" from ⟨rfl, hnf⟩) dX4_run_21 dX4_run_24 dX4_run_25 dX4_run_27 dX4_run_30 ⟨Nat.le_of_ble_eq_true rfl, Nat.le_of_ble_eq_true rfl, Nat.le_of_ble_eq_true rfl, Nat.le_of_ble_eq_true rfl⟩
  · refine lv_aload_n hx hb dX4_run_11 rfl (lv_at hl 0 rfl) ?_
    refine zg_4_3 h hH zf_X4_29 dX4_run_12 ?_
    refine zcVi h hH (zr_1 h hH) (As := []) (rest := []) (c_X1_endsAnOrder l G hG (zCl S (S 8 0) (S 8 1) ρ_1 (S 8 4) (S 8 5)) (by rw [zC_3]; exact hrd_1)) zce_X1_endsAnOrder zcv_X1_endsAnOrder zm_X4_147 hl.1 rfl rfl ⟨rfl, rfl⟩ ⟨Nat.le_of_ble_eq_true rfl, Nat.le_of_ble_eq_true rfl⟩ (Nat.le_of_ble_eq_true rfl) ⟨Nat.zero_le _, Nat.zero_le _⟩ dX4_run_15 (fun r_15 S_15 H locs hq hH => ?_)
    obtain ⟨b_15, rfl, hb_15, rfl⟩ := hq
    rw [zC_3] at hb_15
    refine zb_ine (tgt := 31) h (by omega) dX4_run_18 (by decide) (fun c_18 => ?_) (fun c_18 => ?_)
    · have hfull : zFull (S 8 4) (zup (S 8 3) 0 0) (S 8 0 5) := ⟨fun j h1 h2 => hok_1 j h1 (by omega), by
        have q3 := hrw_1 (by omega)
        rw [show zR (S 8 4) (zup (S 8 3) 0 0) (S 8 0 5) = ρ_1 from q3.symm]
        exact (by unfold zEnds; omega)⟩
      obtain ⟨T, hT9⟩ : ∃ T, T = zCl S (S 8 0) (S 8 1) ρ_1 (S 8 4) (S 8 5) := ⟨_, rfl⟩
      rw [← hT9] at hH
      have hT0 : T 0 = S 0 := by rw [hT9, zC_n (by omega)]
      have hT80 : T 8 0 = S 8 0 := by rw [hT9, zC_0]
      have hT81 : T 8 1 = S 8 1 := by rw [hT9, zC_1]
      have hT83 : T 8 3 = ρ_1 := by rw [hT9, zC_3]
      have hT84 : T 8 4 = S 8 4 := by rw [hT9, zC_4]
      have hKT := zRun_eq hT9 hrd_1 (fun _ => hrw_1 (by omega)) hfull
      refine lv_aload_n hx hb dX4_run_31 rfl (lv_at hl 0 rfl) ?_
      refine zg_4_2 h hH zf_X4_22 dX4_run_32 ?_
      refine lv_aload_n hx hb dX4_run_35 rfl (lv_at hl 0 rfl) ?_
      refine zg_4_0 h hH zf_X4_10 dX4_run_36 ?_
      refine zcVv h hH (zr_0 h hH) (As := [.ref (za G 0 0)]) (rest := []) (c_X0_keep l G hG T (by rw [hT81]; exact hnx) (by rw [hT81]; exact hsz) (by rw [hT0]; exact hw)) zce_X0_keep zcv_X0_keep zm_X4_61 hl.1 rfl rfl ⟨rfl, rfl⟩ ⟨Nat.le_of_ble_eq_true rfl, Nat.le_of_ble_eq_true rfl⟩ (Nat.le_of_ble_eq_true rfl) ⟨Nat.zero_le _, Nat.zero_le _⟩ dX4_run_39 (fun S_39 H locs hq hH => ?_)
      obtain rfl := hq
      have hH : zH G (zKeep T) s H locs := hH
      refine lv_aload_n hx hb dX4_run_42 rfl (lv_at hl 0 rfl) ?_
      refine zcVi h hH (zr_4 h hH) (As := []) (rest := []) (c_X4_doOrders l G hG (zKeep T) (by rw [zKp_80, hT80]; exact hlen) (by rw [zKp_84, hT84]; exact hbf) (by rw [zKp_83, hT83]; exact hrd_1) hKT.1 (by rw [zKp_0, hT0]; exact hok)) zce_X4_doOrders zcv_X4_doOrders zm_X4_152 hl.1 rfl rfl ⟨rfl, rfl⟩ ⟨Nat.le_of_ble_eq_true rfl, Nat.le_of_ble_eq_true rfl⟩ (Nat.le_of_ble_eq_true rfl) ⟨Nat.zero_le _, Nat.zero_le _⟩ dX4_run_43 (fun r_43 S_43 H locs hq hH => ?_)
      obtain ⟨ρ_43, hrd_43, rfl, rfl⟩ := hq
      rw [hKT.2.1]
      rw [hKT.2.1, hKT.2.2] at hH
      refine lv_istore_n (lv' := [(1, .int (zI ((cD (S 8 4) (zup (S 8 3) 0 0) (S 8 0 5) (S 0 0) (S 8 0 5).toNat).2.1))), (0, .ref (za G 8 0))]) hx hb dX4_run_46 rfl hl (by decide) rfl (fun ls hl => ?_)
      refine lv_aload_n hx hb dX4_run_47 rfl (lv_at hl 1 rfl) ?_
      refine zb_ic h dX4_run_48 ?_
      refine zu_4_5 h hH zf_X4_37 dX4_run_49 (fun H locs hH => ?_)
      refine lv_iload_n hx hb dX4_run_52 rfl (lv_at hl 0 rfl) ?_
      refine zXret ?_
      refine zri h hr hH ?_ dX4_run_53
      exact ⟨hfull, rfl, ρ_43, hrd_43, rfl⟩
    · have hnf : ¬ zFull (S 8 4) (zup (S 8 3) 0 0) (S 8 0 5) := fun q => by
        have q2 := q.2
        rw [show zR (S 8 4) (zup (S 8 3) 0 0) (S 8 0 5) = ρ_1 from (hrw_1 (by omega)).symm] at q2
        unfold zEnds at q2
        omega
      refine zthr h hX hT hlx hH hl.1 zx_150 zl_X4_45 zn_IllegalArgumentException zat_IllegalArgumentException ⟨ρ_1, hrd_1, rfl⟩ (show x_X4_run S "java/lang/IllegalArgumentException" from ⟨rfl, hnf⟩) dX4_run_21 dX4_run_24 dX4_run_25 dX4_run_27 dX4_run_30 ⟨Nat.le_of_ble_eq_true rfl, Nat.le_of_ble_eq_true rfl, Nat.le_of_ble_eq_true rfl, Nat.le_of_ble_eq_true rfl⟩
theorem dL_run_0 : decode cL_run 0 = .ok (.aload_n 1, 1) := by decide +kernel
theorem dL_run_1 : decode cL_run 1 = .ok (.iconst 0, 1) := by decide +kernel
theorem dL_run_2 : decode cL_run 2 = .ok (.aload_n 0, 1) := by decide +kernel
theorem dL_run_3 : decode cL_run 3 = .ok (.invokevirtual 44, 3) := by decide +kernel
theorem dL_run_6 : decode cL_run 6 = .ok (.i2l, 1) := by decide +kernel
theorem dL_run_7 : decode cL_run 7 = .ok (.lastore, 1) := by decide +kernel
theorem dL_run_8 : decode cL_run 8 = .ok (.goto 6, 3) := by decide +kernel
theorem dL_run_11 : decode cL_run 11 = .ok (.astore_n 2, 1) := by decide +kernel
theorem dL_run_12 : decode cL_run 12 = .ok (.iconst 1, 1) := by decide +kernel
theorem dL_run_13 : decode cL_run 13 = .ok (.ireturn, 1) := by decide +kernel
theorem dL_run_14 : decode cL_run 14 = .ok (.iconst 0, 1) := by decide +kernel
theorem dL_run_15 : decode cL_run 15 = .ok (.ireturn, 1) := by decide +kernel
def q_L_run (S : zM) : Int32 → zM → Prop := fun r S1 => (x_X4_run S "java/lang/IllegalArgumentException" ∧ r = zI 1 ∧ (∃ ρ' : Int → Int, zRd ρ' ∧ zCl S (S 8 0) (S 8 1) ρ' (S 8 4) (S 8 5) = S1)) ∨ (r = zI 0 ∧ ∃ (y9 : Int) (S2 : zM), (-2147483648 ≤ y9 ∧ y9 ≤ 2147483647) ∧ q_X4_run S (zI y9) S2 ∧ zs S2 8 5 0 y9 = S1)
def r_L_run : Room := { frames := 7, cells := 1, slots := 6, locals := 113 }
set_option maxHeartbeats 4000000 in
set_option maxRecDepth 100000 in
theorem c_L_run (l : Launch) (hlx : l.stackTraces = false) (G : zG) (hG : zok G) (S : zM) (hlen : 0 ≤ S 8 0 5 ∧ S 8 0 5 ≤ 60) (hbf : ∀ i : Int, 0 ≤ i → i < 60 → 0 ≤ S 8 4 i ∧ S 8 4 i ≤ 126) (hrd : zRd (S 8 3))(hok : zOk (S 0 0)) (hnx : 0 ≤ S 8 1 2 ∧ S 8 1 2 ≤ 600) (hsz : 0 ≤ S 8 1 1 ∧ S 8 1 1 ≤ 6) (hms : zMs S 0) (hw : zW (S 0 0))  : vx_Met l yL_run (Cond.codeWith yL_run cL_run 3 (some FieldType.int) [(0, 8, 11, 13)] :: zTbl) r_L_run (va_Pc [.ref (za G 8 0), .ref (za G 8 5)] (zBX G S)) (va_Qi (q_L_run S) (zB G) (zA G)) (zXC G (fun _ => False) (fun _ => False)) 1 6 (zA G) := by
  refine zXMetH [(0, .ref (za G 8 0)), (1, .ref (za G 8 5))] hG (by decide) (Nat.le_of_ble_eq_true rfl) rfl (fun p e s m args below meth c ls h hX hT hx hb hr hH hl => ?_)
  refine lv_aload_n hx hb dL_run_0 rfl (lv_at hl 1 rfl) ?_
  refine zb_ic h dL_run_1 ?_
  refine lv_aload_n hx hb dL_run_2 rfl (lv_at hl 0 rfl) ?_
  refine zcXV h hX hH (zr_4 h hH) (As := []) (rest := [.int (zI 0), .ref (za G 8 5)]) (c_X4_run l hlx G hG S hlen hbf hrd hok hnx hsz hms hw) zce_X4_run zcv_X4_run zm_L_44 hl.1 rfl rfl ⟨rfl, rfl⟩ ⟨Nat.le_of_ble_eq_true rfl, Nat.le_of_ble_eq_true rfl⟩ (Nat.le_of_ble_eq_true rfl) ⟨Nat.le_of_ble_eq_true rfl, Nat.le_of_ble_eq_true rfl⟩ dL_run_3 (fun E ce q9 S1 H locs hp hf hH hc1 hc2 hc3 => ?_) (fun r_3 S_3 H locs hq hH => ?_)
  · have hp := hp
    unfold x_X4_run at hf
    rcases hf with ⟨rfl, hf⟩
    · refine zct1 h hX ⟨0, 8, 11, 13⟩ _ hT (by decide) (by decide) zl_L_13 zxl_IA hc1 hc2 hc3 ?_
      refine lv_astore_n (lv' := [(2, .ref q9), (0, .ref (za G 8 0)), (1, .ref (za G 8 5))]) hx hb dL_run_11 rfl hl (by decide) rfl (fun ls hl => ?_)
      refine zb_ic h dL_run_12 ?_
      refine vx_ret ?_
      refine zri h hr hH ?_ dL_run_13
      exact Or.inl ⟨show x_X4_run S "java/lang/IllegalArgumentException" from ⟨rfl, hf⟩, rfl, hp⟩
  · obtain ⟨v_3, hv1, hv2, rfl⟩ := zI_of r_3
    refine zb_i2l h (by omega) dL_run_6 ?_
    refine zout_st h hH dL_run_7 (fun H locs hH => ?_)
    refine lv_goto (tgt := 14) hx hb dL_run_8 (by decide) ?_
    refine zb_ic h dL_run_14 ?_
    refine vx_ret ?_
    refine zri h hr hH ?_ dL_run_15
    exact Or.inr (⟨rfl, _, _, ⟨hv1, hv2⟩, hq, rfl⟩)
