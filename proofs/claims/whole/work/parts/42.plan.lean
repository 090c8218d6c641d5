theorem dX5_plans_0 : decode cX5_plans 0 = .ok (.iconst 0, 1) := by decide +kernel
theorem dX5_plans_1 : decode cX5_plans 1 = .ok (.istore_n 1, 1) := by decide +kernel
theorem dX5_plans_2 : decode cX5_plans 2 = .ok (.iload_n 1, 1) := by decide +kernel
theorem dX5_plans_3 : decode cX5_plans 3 = .ok (.aload_n 0, 1) := by decide +kernel
theorem dX5_plans_4 : decode cX5_plans 4 = .ok (.getfield 7, 3) := by decide +kernel
theorem dX5_plans_7 : decode cX5_plans 7 = .ok (.iconst 4, 1) := by decide +kernel
theorem dX5_plans_8 : decode cX5_plans 8 = .ok (.iaload, 1) := by decide +kernel
theorem dX5_plans_9 : decode cX5_plans 9 = .ok (.if_icmp .ge 31, 3) := by decide +kernel
theorem dX5_plans_12 : decode cX5_plans 12 = .ok (.aload_n 0, 1) := by decide +kernel
theorem dX5_plans_13 : decode cX5_plans 13 = .ok (.getfield 7, 3) := by decide +kernel
theorem dX5_plans_16 : decode cX5_plans 16 = .ok (.iload_n 1, 1) := by decide +kernel
theorem dX5_plans_17 : decode cX5_plans 17 = .ok (.iconst 2, 1) := by decide +kernel
theorem dX5_plans_18 : decode cX5_plans 18 = .ok (.invokestatic 51, 3) := by decide +kernel
theorem dX5_plans_21 : decode cX5_plans 21 = .ok (.iconst 0, 1) := by decide +kernel
theorem dX5_plans_22 : decode cX5_plans 22 = .ok (.iastore, 1) := by decide +kernel
theorem dX5_plans_23 : decode cX5_plans 23 = .ok (.aload_n 0, 1) := by decide +kernel
theorem dX5_plans_24 : decode cX5_plans 24 = .ok (.getfield 7, 3) := by decide +kernel
theorem dX5_plans_27 : decode cX5_plans 27 = .ok (.iload_n 1, 1) := by decide +kernel
theorem dX5_plans_28 : decode cX5_plans 28 = .ok (.iconst 3, 1) := by decide +kernel
theorem dX5_plans_29 : decode cX5_plans 29 = .ok (.invokestatic 51, 3) := by decide +kernel
theorem dX5_plans_32 : decode cX5_plans 32 = .ok (.iconst 0, 1) := by decide +kernel
theorem dX5_plans_33 : decode cX5_plans 33 = .ok (.iastore, 1) := by decide +kernel
theorem dX5_plans_34 : decode cX5_plans 34 = .ok (.iinc 1 1, 3) := by decide +kernel
theorem dX5_plans_37 : decode cX5_plans 37 = .ok (.goto (-35), 3) := by decide +kernel
theorem dX5_plans_40 : decode cX5_plans 40 = .ok (.aload_n 0, 1) := by decide +kernel
theorem dX5_plans_41 : decode cX5_plans 41 = .ok (.invokevirtual 121, 3) := by decide +kernel
theorem dX5_plans_44 : decode cX5_plans 44 = .ok (.istore_n 1, 1) := by decide +kernel
theorem dX5_plans_45 : decode cX5_plans 45 = .ok (.aload_n 0, 1) := by decide +kernel
theorem dX5_plans_46 : decode cX5_plans 46 = .ok (.getfield 7, 3) := by decide +kernel
theorem dX5_plans_49 : decode cX5_plans 49 = .ok (.iconst 0, 1) := by decide +kernel
theorem dX5_plans_50 : decode cX5_plans 50 = .ok (.iload_n 1, 1) := by decide +kernel
theorem dX5_plans_51 : decode cX5_plans 51 = .ok (.iconst (-1), 1) := by decide +kernel
theorem dX5_plans_52 : decode cX5_plans 52 = .ok (.if_icmp .ne 12, 3) := by decide +kernel
theorem dX5_plans_55 : decode cX5_plans 55 = .ok (.aload_n 0, 1) := by decide +kernel
theorem dX5_plans_56 : decode cX5_plans 56 = .ok (.getfield 7, 3) := by decide +kernel
theorem dX5_plans_59 : decode cX5_plans 59 = .ok (.iconst 0, 1) := by decide +kernel
theorem dX5_plans_60 : decode cX5_plans 60 = .ok (.iaload, 1) := by decide +kernel
theorem dX5_plans_61 : decode cX5_plans 61 = .ok (.goto 17, 3) := by decide +kernel
theorem dX5_plans_64 : decode cX5_plans 64 = .ok (.iload_n 1, 1) := by decide +kernel
theorem dX5_plans_65 : decode cX5_plans 65 = .ok (.sipush 2000, 3) := by decide +kernel
theorem dX5_plans_68 : decode cX5_plans 68 = .ok (.if_icmp .le 9, 3) := by decide +kernel
theorem dX5_plans_71 : decode cX5_plans 71 = .ok (.sipush 2000, 3) := by decide +kernel
theorem dX5_plans_74 : decode cX5_plans 74 = .ok (.goto 4, 3) := by decide +kernel
theorem dX5_plans_77 : decode cX5_plans 77 = .ok (.iload_n 1, 1) := by decide +kernel
theorem dX5_plans_78 : decode cX5_plans 78 = .ok (.iastore, 1) := by decide +kernel
theorem dX5_plans_79 : decode cX5_plans 79 = .ok (.iconst 0, 1) := by decide +kernel
theorem dX5_plans_80 : decode cX5_plans 80 = .ok (.istore_n 2, 1) := by decide +kernel
theorem dX5_plans_81 : decode cX5_plans 81 = .ok (.iload_n 2, 1) := by decide +kernel
theorem dX5_plans_82 : decode cX5_plans 82 = .ok (.aload_n 0, 1) := by decide +kernel
theorem dX5_plans_83 : decode cX5_plans 83 = .ok (.getfield 7, 3) := by decide +kernel
theorem dX5_plans_86 : decode cX5_plans 86 = .ok (.iconst 4, 1) := by decide +kernel
theorem dX5_plans_87 : decode cX5_plans 87 = .ok (.iaload, 1) := by decide +kernel
theorem dX5_plans_88 : decode cX5_plans 88 = .ok (.if_icmp .ge 108, 3) := by decide +kernel
theorem dX5_plans_91 : decode cX5_plans 91 = .ok (.aload_n 0, 1) := by decide +kernel
theorem dX5_plans_92 : decode cX5_plans 92 = .ok (.iload_n 2, 1) := by decide +kernel
theorem dX5_plans_93 : decode cX5_plans 93 = .ok (.invokevirtual 71, 3) := by decide +kernel
theorem dX5_plans_96 : decode cX5_plans 96 = .ok (.istore_n 3, 1) := by decide +kernel
theorem dX5_plans_97 : decode cX5_plans 97 = .ok (.iload_n 3, 1) := by decide +kernel
theorem dX5_plans_98 : decode cX5_plans 98 = .ok (.aload_n 0, 1) := by decide +kernel
theorem dX5_plans_99 : decode cX5_plans 99 = .ok (.getfield 7, 3) := by decide +kernel
theorem dX5_plans_102 : decode cX5_plans 102 = .ok (.iload_n 2, 1) := by decide +kernel
theorem dX5_plans_103 : decode cX5_plans 103 = .ok (.iconst 1, 1) := by decide +kernel
theorem dX5_plans_104 : decode cX5_plans 104 = .ok (.invokestatic 51, 3) := by decide +kernel
theorem dX5_plans_107 : decode cX5_plans 107 = .ok (.iaload, 1) := by decide +kernel
theorem dX5_plans_108 : decode cX5_plans 108 = .ok (.if_icmp .ge 7, 3) := by decide +kernel
theorem dX5_plans_111 : decode cX5_plans 111 = .ok (.iconst 2, 1) := by decide +kernel
theorem dX5_plans_112 : decode cX5_plans 112 = .ok (.goto 4, 3) := by decide +kernel
theorem dX5_plans_115 : decode cX5_plans 115 = .ok (.iconst 3, 1) := by decide +kernel
theorem dX5_plans_116 : decode cX5_plans 116 = .ok (.istore 4, 2) := by decide +kernel
theorem dX5_plans_118 : decode cX5_plans 118 = .ok (.iconst 1, 1) := by decide +kernel
theorem dX5_plans_119 : decode cX5_plans 119 = .ok (.istore 5, 2) := by decide +kernel
theorem dX5_plans_121 : decode cX5_plans 121 = .ok (.iload 5, 2) := by decide +kernel
theorem dX5_plans_123 : decode cX5_plans 123 = .ok (.sipush 999, 3) := by decide +kernel
theorem dX5_plans_126 : decode cX5_plans 126 = .ok (.if_icmp .gt 30, 3) := by decide +kernel
theorem dX5_plans_129 : decode cX5_plans 129 = .ok (.aload_n 0, 1) := by decide +kernel
theorem dX5_plans_130 : decode cX5_plans 130 = .ok (.iload_n 2, 1) := by decide +kernel
theorem dX5_plans_131 : decode cX5_plans 131 = .ok (.invokevirtual 74, 3) := by decide +kernel
theorem dX5_plans_134 : decode cX5_plans 134 = .ok (.ifCond .ne 22, 3) := by decide +kernel
theorem dX5_plans_137 : decode cX5_plans 137 = .ok (.aload_n 0, 1) := by decide +kernel
theorem dX5_plans_138 : decode cX5_plans 138 = .ok (.getfield 7, 3) := by decide +kernel
theorem dX5_plans_141 : decode cX5_plans 141 = .ok (.iload_n 2, 1) := by decide +kernel
theorem dX5_plans_142 : decode cX5_plans 142 = .ok (.iload 4, 2) := by decide +kernel
theorem dX5_plans_144 : decode cX5_plans 144 = .ok (.invokestatic 51, 3) := by decide +kernel
theorem dX5_plans_147 : decode cX5_plans 147 = .ok (.iload 5, 2) := by decide +kernel
theorem dX5_plans_149 : decode cX5_plans 149 = .ok (.iastore, 1) := by decide +kernel
theorem dX5_plans_150 : decode cX5_plans 150 = .ok (.iinc 5 1, 3) := by decide +kernel
theorem dX5_plans_153 : decode cX5_plans 153 = .ok (.goto (-32), 3) := by decide +kernel
theorem dX5_plans_156 : decode cX5_plans 156 = .ok (.aload_n 0, 1) := by decide +kernel
theorem dX5_plans_157 : decode cX5_plans 157 = .ok (.getfield 7, 3) := by decide +kernel
theorem dX5_plans_160 : decode cX5_plans 160 = .ok (.iload_n 2, 1) := by decide +kernel
theorem dX5_plans_161 : decode cX5_plans 161 = .ok (.iload 4, 2) := by decide +kernel
theorem dX5_plans_163 : decode cX5_plans 163 = .ok (.invokestatic 51, 3) := by decide +kernel
theorem dX5_plans_166 : decode cX5_plans 166 = .ok (.aload_n 0, 1) := by decide +kernel
theorem dX5_plans_167 : decode cX5_plans 167 = .ok (.iload_n 2, 1) := by decide +kernel
theorem dX5_plans_168 : decode cX5_plans 168 = .ok (.invokevirtual 74, 3) := by decide +kernel
theorem dX5_plans_171 : decode cX5_plans 171 = .ok (.ifCond .eq 17, 3) := by decide +kernel
theorem dX5_plans_174 : decode cX5_plans 174 = .ok (.aload_n 0, 1) := by decide +kernel
theorem dX5_plans_175 : decode cX5_plans 175 = .ok (.getfield 7, 3) := by decide +kernel
theorem dX5_plans_178 : decode cX5_plans 178 = .ok (.iload_n 2, 1) := by decide +kernel
theorem dX5_plans_179 : decode cX5_plans 179 = .ok (.iload 4, 2) := by decide +kernel
theorem dX5_plans_181 : decode cX5_plans 181 = .ok (.invokestatic 51, 3) := by decide +kernel
theorem dX5_plans_184 : decode cX5_plans 184 = .ok (.iaload, 1) := by decide +kernel
theorem dX5_plans_185 : decode cX5_plans 185 = .ok (.goto 4, 3) := by decide +kernel
theorem dX5_plans_188 : decode cX5_plans 188 = .ok (.iconst 0, 1) := by decide +kernel
theorem dX5_plans_189 : decode cX5_plans 189 = .ok (.iastore, 1) := by decide +kernel
theorem dX5_plans_190 : decode cX5_plans 190 = .ok (.iinc 2 1, 3) := by decide +kernel
theorem dX5_plans_193 : decode cX5_plans 193 = .ok (.goto (-112), 3) := by decide +kernel
theorem dX5_plans_196 : decode cX5_plans 196 = .ok (.aload_n 0, 1) := by decide +kernel
theorem dX5_plans_197 : decode cX5_plans 197 = .ok (.invokevirtual 107, 3) := by decide +kernel
theorem dX5_plans_200 : decode cX5_plans 200 = .ok (.ireturn, 1) := by decide +kernel
def q_X5_plans (S : zM) : Int32 → zM → Prop := fun r S1 => r = zI (tCnt (tPlan (S 9 1)) 0) ∧ ∃ M' L', zMo S (S 9 0) (tPlan (S 9 1)) (S 9 2) (S 9 3) (S 9 4) M' L' = S1
def r_X5_plans : Room := { frames := 6, cells := 0, slots := 0, locals := 140 }
set_option maxHeartbeats 4000000 in
set_option maxRecDepth 100000 in
theorem c_X5_plans (l : Launch) (G : zG) (hG : zok G) (S : zM) (hnl : zNl (S 9 1)) (hw : zW (S 9 1)) : Met l yX5_plans (Cond.code yX5_plans cX5_plans 6 (some FieldType.int) :: zTbl) r_X5_plans (va_Pc [.ref (za G 9 0)] (zB G S)) (va_Qi (q_X5_plans S) (zB G) (zA G)) 0 0 (zA G) := by
  refine zMet [(0, .ref (za G 9 0))] hG (by decide) (Nat.le_of_ble_eq_true rfl) rfl (fun p e s m args below meth c ls h hx hb hr hH hl => ?_)
  rw [← zM_id S] at hH
  have f4 := zW_4 hw
  have C81 : ∀ (fu : Nat) (o mid : Int) (τ M L : Int → Int) (H : Heap) (locs : List Loc) (ls : Array Slot), (S 9 1 4 - o).toNat < fu → (0 ≤ o ∧ o ≤ S 9 1 4) → (τ = tCors (tTim (tClr (S 9 1) (S 9 1 4).toNat)) o.toNat) → zH G (zMo S (S 9 0) τ (S 9 2) (S 9 3) (S 9 4) M L) s H locs → lv_has ls 6 [(0, .ref (za G 9 0)), (1, .int (zI mid)), (2, .int (zI o))] → W p l e r_X5_plans s m args below meth c H locs 0 0 (MQ below (va_Qi (q_X5_plans S) (zB G) (zA G)) args s 0 0 (zA G)) (F0 m 81 ls []) := by
    intro fu
    induction fu with
    | zero => intro o mid τ M L H locs ls hfu; omega
    | succ fu ih81 =>
      intro o mid τ M L H locs ls hfu ho hτ hH hl
      have hd := tPl_in hw hnl o.toNat
      rw [← hτ] at hd
      have C116 : ∀ (w0 : Int) (M2 : Int → Int) (H : Heap) (locs : List Loc) (ls : Array Slot), (o < S 9 1 4) → (w0 = tDir τ o) → zH G (zMo S (S 9 0) τ (S 9 2) (S 9 3) (S 9 4) M2 L) s H locs → lv_has ls 6 [(0, .ref (za G 9 0)), (1, .int (zI mid)), (2, .int (zI o)), (3, .int (zI (tTo τ o)))] → W p l e r_X5_plans s m args below meth c H locs 0 0 (MQ below (va_Qi (q_X5_plans S) (zB G) (zA G)) args s 0 0 (zA G)) (F0 m 116 ls [.int (zI w0)]) := by
        intro w0 M2 H locs ls hol hw0 hH hl
        have bw0 := tDir_in τ o
        rw [← hw0] at bw0
        obtain ⟨K, hK0, hK1, hKn, hKe⟩ := tCor_all hd.1 hd.2.2.1 (show 0 ≤ o ∧ o < 8 by omega) (hd.2.2.2 o (by omega) hol).1 (hd.2.2.2 o (by omega) hol).2
        rw [← hw0] at hKn hKe
        have C156 : ∀ (i : Int) (τ2 M3 : Int → Int) (H : Heap) (locs : List Loc) (ls : Array Slot), (1 ≤ i ∧ i ≤ 1000) → (i - 1 ≤ K) → (τ2 = zup τ (5 + 5 * o + w0) (i - 1)) → (i = 1000 ∨ tOff τ2 o = 0) → zH G (zMo S (S 9 0) τ2 (S 9 2) (S 9 3) (S 9 4) M3 L) s H locs → lv_has ls 6 [(0, .ref (za G 9 0)), (1, .int (zI mid)), (2, .int (zI o)), (4, .int (zI w0)), (5, .int (zI i))] → W p l e r_X5_plans s m args below meth c H locs 0 0 (MQ below (va_Qi (q_X5_plans S) (zB G) (zA G)) args s 0 0 (zA G)) (F0 m 156 ls []) := by
          intro i τ2 M3 H locs ls hi hiK hτ2 hend hH hl
          have hw2 : zW τ2 := by rw [hτ2]; exact zW_upz hd.1 ho.1 (w := w0) (by omega) (by omega) rfl
          refine lv_aload_n hx hb dX5_plans_156 rfl (lv_at hl 0 rfl) ?_
          refine zg_5_1 h hH zf_X5_7 dX5_plans_157 ?_
          refine lv_iload_n hx hb dX5_plans_160 rfl (lv_at hl 2 rfl) ?_
          refine lv_iload hx hb dX5_plans_161 (lv_at hl 3 rfl) ?_
          refine zcSi h hH (As := [.int (zI o), .int (zI w0)]) (rest := [.ref (za G 9 1)]) (c_X5_of l G hG (zMo S (S 9 0) τ2 (S 9 2) (S 9 3) (S 9 4) M3 L) o w0) zce_X5_of zt_X5_of zm_X5_51 hl.1 rfl rfl ⟨rfl, rfl⟩ ⟨Nat.le_of_ble_eq_true rfl, Nat.le_of_ble_eq_true rfl⟩ (Nat.le_of_ble_eq_true rfl) ⟨Nat.zero_le _, Nat.zero_le _⟩ dX5_plans_163 (fun r_163 S_163 H locs hq hH => ?_)
          obtain ⟨rfl, rfl⟩ := hq
          refine lv_aload_n hx hb dX5_plans_166 rfl (lv_at hl 0 rfl) ?_
          refine lv_iload_n hx hb dX5_plans_167 rfl (lv_at hl 2 rfl) ?_
          refine zcVi h hH (zr_5 h hH) (As := [.int (zI o)]) (rest := [.int (zI (5 + 5 * o + w0)), .ref (za G 9 1)]) (c_X5_isRight l G hG (zMo S (S 9 0) τ2 (S 9 2) (S 9 3) (S 9 4) M3 L) o (by omega) (zM_hw hw2)) zce_X5_isRight zcv_X5_isRight zm_X5_74 hl.1 rfl rfl ⟨rfl, rfl⟩ ⟨Nat.le_of_ble_eq_true rfl, Nat.le_of_ble_eq_true rfl⟩ (Nat.le_of_ble_eq_true rfl) ⟨Nat.zero_le _, Nat.zero_le _⟩ dX5_plans_168 (fun r_168 S_168 H locs hq hH => ?_)
          obtain ⟨b_168, rfl, hb_168, M_168, rfl⟩ := hq
          (try rw [zM_1] at hb_168)
          simp only [zM_M, zM_0, zM_1, zM_2, zM_3, zM_4, zM_5, zM_6] at hH
          refine zb_ieq (tgt := 188) h (by omega) dX5_plans_171 (by decide) (fun c_171 => ?_) (fun c_171 => ?_)
          · have hKi : K = 1000 := hKe.elim (fun q => by
              have q2 : tOff τ2 o = 0 := by rw [hτ2, show i - 1 = K by omega]; exact q.2.1
              omega) (fun q => q.1)
            have hfin : zup τ2 (5 + 5 * o + w0) 0 = tCor τ o := by rw [hτ2, zup_zup]; exact (hKe.resolve_left (fun q => by omega)).2.symm
            refine zb_ic h dX5_plans_188 ?_
            refine zst_ar_s h hH (by omega) dX5_plans_189 (fun H locs hH => ?_)
            rw [zs_M1] at hH
            refine lv_iinc (v := zI (o + 1)) (lv' := [(2, .int (zI (o + 1))), (0, .ref (za G 9 0)), (1, .int (zI mid)), (4, .int (zI w0)), (5, .int (zI i))]) hx hb dX5_plans_190 hl (k := 2) rfl (zI_add _ _) (by decide) rfl (fun ls hl => ?_)
            refine lv_goto (tgt := 81) hx hb dX5_plans_193 (by decide) ?_
            exact ih81 (o + 1) mid (zup τ2 ((5 + 5 * o + w0)) 0) M_168 L _ _ _ (by omega) (by omega) (by rw [tCors_s _ ho.1, ← hτ]; exact hfin) hH (lv_sub hl [1, 2, 0] rfl)
          · refine lv_aload_n hx hb dX5_plans_174 rfl (lv_at hl 0 rfl) ?_
            refine zg_5_1 h hH zf_X5_7 dX5_plans_175 ?_
            refine lv_iload_n hx hb dX5_plans_178 rfl (lv_at hl 2 rfl) ?_
            refine lv_iload hx hb dX5_plans_179 (lv_at hl 3 rfl) ?_
            refine zcSi h hH (As := [.int (zI o), .int (zI w0)]) (rest := [.ref (za G 9 1), .int (zI (5 + 5 * o + w0)), .ref (za G 9 1)]) (c_X5_of l G hG (zMo S (S 9 0) τ2 (S 9 2) (S 9 3) (S 9 4) M_168 L) o w0) zce_X5_of zt_X5_of zm_X5_51 hl.1 rfl rfl ⟨rfl, rfl⟩ ⟨Nat.le_of_ble_eq_true rfl, Nat.le_of_ble_eq_true rfl⟩ (Nat.le_of_ble_eq_true rfl) ⟨Nat.zero_le _, Nat.zero_le _⟩ dX5_plans_181 (fun r_181 S_181 H locs hq hH => ?_)
            obtain ⟨rfl, rfl⟩ := hq
            refine zld_ar_s h hH (by omega) dX5_plans_184 ?_
            rw [zM_1]
            have hKi : i - 1 = K := Classical.byContradiction fun q => by
              have q2 := hKn (i - 1) (by omega) (by omega) (by omega)
              rw [← hτ2] at q2
              omega
            have hfin : zup τ2 (5 + 5 * o + w0) (τ2 (5 + 5 * o + w0)) = tCor τ o := by rw [zup_id, hτ2, hKi]; exact (hKe.resolve_right (fun q => by omega)).2.2.symm
            refine lv_goto (tgt := 189) hx hb dX5_plans_185 (by decide) ?_
            refine zst_ar_s h hH (by omega) dX5_plans_189 (fun H locs hH => ?_)
            rw [zs_M1] at hH
            refine lv_iinc (v := zI (o + 1)) (lv' := [(2, .int (zI (o + 1))), (0, .ref (za G 9 0)), (1, .int (zI mid)), (4, .int (zI w0)), (5, .int (zI i))]) hx hb dX5_plans_190 hl (k := 2) rfl (zI_add _ _) (by decide) rfl (fun ls hl => ?_)
            refine lv_goto (tgt := 81) hx hb dX5_plans_193 (by decide) ?_
            exact ih81 (o + 1) mid (zup τ2 ((5 + 5 * o + w0)) (τ2 (5 + 5 * o + w0))) M_168 L _ _ _ (by omega) (by omega) (by rw [tCors_s _ ho.1, ← hτ]; exact hfin) hH (lv_sub hl [1, 2, 0] rfl)
        have C121 : ∀ (fu : Nat) (i : Int) (τ2 M3 : Int → Int) (H : Heap) (locs : List Loc) (ls : Array Slot), (1000 - i).toNat < fu → (1 ≤ i ∧ i ≤ 1000) → (i - 1 ≤ K) → (τ2 = zup τ (5 + 5 * o + w0) (i - 1)) → zH G (zMo S (S 9 0) τ2 (S 9 2) (S 9 3) (S 9 4) M3 L) s H locs → lv_has ls 6 [(0, .ref (za G 9 0)), (1, .int (zI mid)), (2, .int (zI o)), (4, .int (zI w0)), (5, .int (zI i))] → W p l e r_X5_plans s m args below meth c H locs 0 0 (MQ below (va_Qi (q_X5_plans S) (zB G) (zA G)) args s 0 0 (zA G)) (F0 m 121 ls []) := by
          intro fu
          induction fu with
          | zero => intro i τ2 M3 H locs ls hfu; omega
          | succ fu ih121 =>
            intro i τ2 M3 H locs ls hfu hi hiK hτ2 hH hl
            have hw2 : zW τ2 := by rw [hτ2]; exact zW_upz hd.1 ho.1 (w := w0) (by omega) (by omega) rfl
            refine lv_iload hx hb dX5_plans_121 (lv_at hl 4 rfl) ?_
            refine zb_si h dX5_plans_123 (by decide) (by decide) ?_
            refine zb_cgt (tgt := 156) h (by omega) (by omega) dX5_plans_126 (by decide) (fun c_126 => ?_) (fun c_126 => ?_)
            · exact C156 i τ2 M3 _ _ _  (by omega) (by omega) hτ2 (by omega) hH (lv_sub hl [0, 1, 2, 3, 4] rfl)
            · refine lv_aload_n hx hb dX5_plans_129 rfl (lv_at hl 0 rfl) ?_
              refine lv_iload_n hx hb dX5_plans_130 rfl (lv_at hl 2 rfl) ?_
              refine zcVi h hH (zr_5 h hH) (As := [.int (zI o)]) (rest := []) (c_X5_isRight l G hG (zMo S (S 9 0) τ2 (S 9 2) (S 9 3) (S 9 4) M3 L) o (by omega) (zM_hw hw2)) zce_X5_isRight zcv_X5_isRight zm_X5_74 hl.1 rfl rfl ⟨rfl, rfl⟩ ⟨Nat.le_of_ble_eq_true rfl, Nat.le_of_ble_eq_true rfl⟩ (Nat.le_of_ble_eq_true rfl) ⟨Nat.zero_le _, Nat.zero_le _⟩ dX5_plans_131 (fun r_131 S_131 H locs hq hH => ?_)
              obtain ⟨b_131, rfl, hb_131, M_131, rfl⟩ := hq
              (try rw [zM_1] at hb_131)
              simp only [zM_M, zM_0, zM_1, zM_2, zM_3, zM_4, zM_5, zM_6] at hH
              refine zb_ine (tgt := 156) h (by omega) dX5_plans_134 (by decide) (fun c_134 => ?_) (fun c_134 => ?_)
              · exact C156 i τ2 M_131 _ _ _  (by omega) (by omega) hτ2 (by omega) hH (lv_sub hl [0, 1, 2, 3, 4] rfl)
              · refine lv_aload_n hx hb dX5_plans_137 rfl (lv_at hl 0 rfl) ?_
                refine zg_5_1 h hH zf_X5_7 dX5_plans_138 ?_
                refine lv_iload_n hx hb dX5_plans_141 rfl (lv_at hl 2 rfl) ?_
                refine lv_iload hx hb dX5_plans_142 (lv_at hl 3 rfl) ?_
                refine zcSi h hH (As := [.int (zI o), .int (zI w0)]) (rest := [.ref (za G 9 1)]) (c_X5_of l G hG (zMo S (S 9 0) τ2 (S 9 2) (S 9 3) (S 9 4) M_131 L) o w0) zce_X5_of zt_X5_of zm_X5_51 hl.1 rfl rfl ⟨rfl, rfl⟩ ⟨Nat.le_of_ble_eq_true rfl, Nat.le_of_ble_eq_true rfl⟩ (Nat.le_of_ble_eq_true rfl) ⟨Nat.zero_le _, Nat.zero_le _⟩ dX5_plans_144 (fun r_144 S_144 H locs hq hH => ?_)
                obtain ⟨rfl, rfl⟩ := hq
                refine lv_iload hx hb dX5_plans_147 (lv_at hl 4 rfl) ?_
                refine zst_ar_s h hH (by omega) dX5_plans_149 (fun H locs hH => ?_)
                rw [zs_M1] at hH
                refine lv_iinc (v := zI (i + 1)) (lv' := [(5, .int (zI (i + 1))), (0, .ref (za G 9 0)), (1, .int (zI mid)), (2, .int (zI o)), (4, .int (zI w0))]) hx hb dX5_plans_150 hl (k := 4) rfl (zI_add _ _) (by decide) rfl (fun ls hl => ?_)
                refine lv_goto (tgt := 121) hx hb dX5_plans_153 (by decide) ?_
                have hne : i - 1 ≠ K := fun q => by
                  have q2 : tOff τ2 o = 0 := hKe.elim (fun q3 => by rw [hτ2, q]; exact q3.2.1) (fun q3 => by omega)
                  omega
                exact ih121 (i + 1) (zup τ2 ((5 + 5 * o + w0)) i) M_131 _ _ _ (by omega) (by omega) (by omega) (by rw [hτ2, zup_zup, show i + 1 - 1 = i by omega]) hH (lv_sub hl [1, 2, 3, 4, 0] rfl)
        refine lv_istore (lv' := [(4, .int (zI w0)), (0, .ref (za G 9 0)), (1, .int (zI mid)), (2, .int (zI o)), (3, .int (zI (tTo τ o)))]) hx hb dX5_plans_116 hl (by decide) rfl (fun ls hl => ?_)
        refine zb_ic h dX5_plans_118 ?_
        refine lv_istore (lv' := [(5, .int (zI 1)), (4, .int (zI w0)), (0, .ref (za G 9 0)), (1, .int (zI mid)), (2, .int (zI o)), (3, .int (zI (tTo τ o)))]) hx hb dX5_plans_119 hl (by decide) rfl (fun ls hl => ?_)
        exact C121 ((1000 - 1 : Int).toNat + 1) 1 τ M2 _ _ _ (by omega) (by omega) (by omega) (by rw [show (1 : Int) - 1 = 0 by omega]; exact (zup_at τ (by rcases bw0 with q | q <;> rw [q]; exact (hd.2.2.2 o (by omega) hol).1; exact (hd.2.2.2 o (by omega) hol).2)).symm) hH (lv_sub hl [2, 3, 4, 1, 0] rfl)
      refine lv_iload_n hx hb dX5_plans_81 rfl (lv_at hl 2 rfl) ?_
      refine lv_aload_n hx hb dX5_plans_82 rfl (lv_at hl 0 rfl) ?_
      refine zg_5_1 h hH zf_X5_7 dX5_plans_83 ?_
      refine zb_ic h dX5_plans_86 ?_
      refine zld_ar_s h hH (by omega) dX5_plans_87 ?_
      rw [zM_1]
      have f_87 := zW_4 hd.1
      refine zb_cge (tgt := 196) h (by omega) (by omega) dX5_plans_88 (by decide) (fun c_88 => ?_) (fun c_88 => ?_)
      · refine lv_aload_n hx hb dX5_plans_196 rfl (lv_at hl 0 rfl) ?_
        refine zcVi h hH (zr_5 h hH) (As := []) (rest := []) (c_X5_right l G hG (zMo S (S 9 0) τ (S 9 2) (S 9 3) (S 9 4) M L) (zM_hw hd.1)) zce_X5_right zcv_X5_right zm_X5_107 hl.1 rfl rfl ⟨rfl, rfl⟩ ⟨Nat.le_of_ble_eq_true rfl, Nat.le_of_ble_eq_true rfl⟩ (Nat.le_of_ble_eq_true rfl) ⟨Nat.zero_le _, Nat.zero_le _⟩ dX5_plans_197 (fun r_197 S_197 H locs hq hH => ?_)
        obtain ⟨rfl, M_197, rfl⟩ := hq
        simp only [zM_M, zM_0, zM_1, zM_2, zM_3, zM_4, zM_5, zM_6] at hH
        rw [zM_1]
        refine zri h hr hH ?_ dX5_plans_200
        obtain rfl : o = S 9 1 4 := by omega
        rw [hτ]
        exact ⟨rfl, _, _, rfl⟩
      · refine lv_aload_n hx hb dX5_plans_91 rfl (lv_at hl 0 rfl) ?_
        refine lv_iload_n hx hb dX5_plans_92 rfl (lv_at hl 2 rfl) ?_
        refine zcVi h hH (zr_5 h hH) (As := [.int (zI o)]) (rest := []) (c_X5_tone l G hG (zMo S (S 9 0) τ (S 9 2) (S 9 3) (S 9 4) M L) o (by omega) (zM_hw hd.1)) zce_X5_tone zcv_X5_tone zm_X5_71 hl.1 rfl rfl ⟨rfl, rfl⟩ ⟨Nat.le_of_ble_eq_true rfl, Nat.le_of_ble_eq_true rfl⟩ (Nat.le_of_ble_eq_true rfl) ⟨Nat.zero_le _, Nat.zero_le _⟩ dX5_plans_93 (fun r_93 S_93 H locs hq hH => ?_)
        obtain ⟨rfl, M_93, rfl⟩ := hq
        simp only [zM_M, zM_0, zM_1, zM_2, zM_3, zM_4, zM_5, zM_6] at hH
        rw [zM_1]
        have b_93 := tTo_in τ o
        refine lv_istore_n (lv' := [(3, .int (zI (tTo τ o))), (0, .ref (za G 9 0)), (1, .int (zI mid)), (2, .int (zI o))]) hx hb dX5_plans_96 rfl hl (by decide) rfl (fun ls hl => ?_)
        refine lv_iload_n hx hb dX5_plans_97 rfl (lv_at hl 0 rfl) ?_
        refine lv_aload_n hx hb dX5_plans_98 rfl (lv_at hl 1 rfl) ?_
        refine zg_5_1 h hH zf_X5_7 dX5_plans_99 ?_
        refine lv_iload_n hx hb dX5_plans_102 rfl (lv_at hl 3 rfl) ?_
        refine zb_ic h dX5_plans_103 ?_
        refine zcSi h hH (As := [.int (zI o), .int (zI 1)]) (rest := [.ref (za G 9 1), .int (zI (tTo τ o))]) (c_X5_of l G hG (zMo S (S 9 0) τ (S 9 2) (S 9 3) (S 9 4) M_93 L) o 1) zce_X5_of zt_X5_of zm_X5_51 hl.1 rfl rfl ⟨rfl, rfl⟩ ⟨Nat.le_of_ble_eq_true rfl, Nat.le_of_ble_eq_true rfl⟩ (Nat.le_of_ble_eq_true rfl) ⟨Nat.zero_le _, Nat.zero_le _⟩ dX5_plans_104 (fun r_104 S_104 H locs hq hH => ?_)
        obtain ⟨rfl, rfl⟩ := hq
        refine zld_ar_s h hH (by omega) dX5_plans_107 ?_
        rw [zM_1]
        have f_107 := zW_wa hd.1 (show 0 ≤ o ∧ o < 8 by omega)
        refine zb_cge (tgt := 115) h (by omega) (by omega) dX5_plans_108 (by decide) (fun c_108 => ?_) (fun c_108 => ?_)
        · refine zb_ic h dX5_plans_115 ?_
          exact C116 3 M_93 _ _ _  (by omega) (by unfold tDir; first | (rw [if_pos (by omega)]; done) | (rw [if_neg (by omega)]; done)) hH (lv_sub hl [1, 2, 3, 0] rfl)
        · refine zb_ic h dX5_plans_111 ?_
          refine lv_goto (tgt := 116) hx hb dX5_plans_112 (by decide) ?_
          exact C116 2 M_93 _ _ _  (by omega) (by unfold tDir; first | (rw [if_pos (by omega)]; done) | (rw [if_neg (by omega)]; done)) hH (lv_sub hl [1, 2, 3, 0] rfl)
  have C2 : ∀ (fu : Nat) (o : Int) (σ : Int → Int) (H : Heap) (locs : List Loc) (ls : Array Slot), (S 9 1 4 - o).toNat < fu → (0 ≤ o ∧ o ≤ S 9 1 4) → (σ = tClr (S 9 1) o.toNat) → zH G (zMo S (S 9 0) σ (S 9 2) (S 9 3) (S 9 4) (S 9 5) (S 9 6)) s H locs → lv_has ls 6 [(0, .ref (za G 9 0)), (1, .int (zI o))] → W p l e r_X5_plans s m args below meth c H locs 0 0 (MQ below (va_Qi (q_X5_plans S) (zB G) (zA G)) args s 0 0 (zA G)) (F0 m 2 ls []) := by
    intro fu
    induction fu with
    | zero => intro o σ H locs ls hfu; omega
    | succ fu ih2 =>
      intro o σ H locs ls hfu ho hσ hH hl
      have hc := tClr_in hw o.toNat
      rw [← hσ] at hc
      refine lv_iload_n hx hb dX5_plans_2 rfl (lv_at hl 1 rfl) ?_
      refine lv_aload_n hx hb dX5_plans_3 rfl (lv_at hl 0 rfl) ?_
      refine zg_5_1 h hH zf_X5_7 dX5_plans_4 ?_
      refine zb_ic h dX5_plans_7 ?_
      refine zld_ar_s h hH (by omega) dX5_plans_8 ?_
      rw [zM_1]
      have f_8 := zW_4 hc.1
      refine zb_cge (tgt := 40) h (by omega) (by omega) dX5_plans_9 (by decide) (fun c_9 => ?_) (fun c_9 => ?_)
      · obtain rfl : o = S 9 1 4 := by omega
        refine lv_aload_n hx hb dX5_plans_40 rfl (lv_at hl 0 rfl) ?_
        refine zcVi h hH (zr_5 h hH) (As := []) (rest := []) (c_X5_middleTime l G hG (zMo S (S 9 0) σ (S 9 2) (S 9 3) (S 9 4) (S 9 5) (S 9 6)) (zM_hw hc.1)) zce_X5_middleTime zcv_X5_middleTime zm_X5_121 hl.1 rfl rfl ⟨rfl, rfl⟩ ⟨Nat.le_of_ble_eq_true rfl, Nat.le_of_ble_eq_true rfl⟩ (Nat.le_of_ble_eq_true rfl) ⟨Nat.zero_le _, Nat.zero_le _⟩ dX5_plans_41 (fun r_41 S_41 H locs hq hH => ?_)
        obtain ⟨rfl, M_41, L_41, rfl⟩ := hq
        simp only [zM_M, zM_0, zM_1, zM_2, zM_3, zM_4, zM_5, zM_6] at hH
        rw [zM_1]
        have bm := tMid_in hc.1
        refine lv_istore_n (lv' := [(1, .int (zI (tMid σ))), (0, .ref (za G 9 0))]) hx hb dX5_plans_44 rfl hl (by decide) rfl (fun ls hl => ?_)
        refine lv_aload_n hx hb dX5_plans_45 rfl (lv_at hl 1 rfl) ?_
        refine zg_5_1 h hH zf_X5_7 dX5_plans_46 ?_
        refine zb_ic h dX5_plans_49 ?_
        refine lv_iload_n hx hb dX5_plans_50 rfl (lv_at hl 0 rfl) ?_
        refine zb_ic h dX5_plans_51 ?_
        refine zb_cne (tgt := 64) h (by omega) (by omega) dX5_plans_52 (by decide) (fun c_52 => ?_) (fun c_52 => ?_)
        · refine lv_iload_n hx hb dX5_plans_64 rfl (lv_at hl 0 rfl) ?_
          refine zb_si h dX5_plans_65 (by decide) (by decide) ?_
          refine zb_cle (tgt := 77) h (by omega) (by omega) dX5_plans_68 (by decide) (fun c_68 => ?_) (fun c_68 => ?_)
          · refine lv_iload_n hx hb dX5_plans_77 rfl (lv_at hl 0 rfl) ?_
            refine zst_ar_s h hH (by omega) dX5_plans_78 (fun H locs hH => ?_)
            rw [zs_M1] at hH
            refine zb_ic h dX5_plans_79 ?_
            refine lv_istore_n (lv' := [(2, .int (zI 0)), (1, .int (zI (tMid σ))), (0, .ref (za G 9 0))]) hx hb dX5_plans_80 rfl hl (by decide) rfl (fun ls hl => ?_)
            exact C81 ((S 9 1 4 - 0 : Int).toNat + 1) 0 (tMid σ) (zup σ (0) (tMid σ)) M_41 L_41 _ _ _ (by omega) (by omega) (by show _ = tTim (tClr (S 9 1) (S 9 1 4).toNat); rw [← hσ]; unfold tTim; first | (rw [if_pos (by omega)]; exact zup_id _ _) | (rw [if_neg (by omega), show min (tMid σ) 2000 = 2000 by omega]; done) | (rw [if_neg (by omega), show min (tMid σ) 2000 = tMid σ by omega]; done)) hH (lv_sub hl [2, 1, 0] rfl)
          · refine zb_si h dX5_plans_71 (by decide) (by decide) ?_
            refine lv_goto (tgt := 78) hx hb dX5_plans_74 (by decide) ?_
            refine zst_ar_s h hH (by omega) dX5_plans_78 (fun H locs hH => ?_)
            rw [zs_M1] at hH
            refine zb_ic h dX5_plans_79 ?_
            refine lv_istore_n (lv' := [(2, .int (zI 0)), (1, .int (zI (tMid σ))), (0, .ref (za G 9 0))]) hx hb dX5_plans_80 rfl hl (by decide) rfl (fun ls hl => ?_)
            exact C81 ((S 9 1 4 - 0 : Int).toNat + 1) 0 (tMid σ) (zup σ (0) 2000) M_41 L_41 _ _ _ (by omega) (by omega) (by show _ = tTim (tClr (S 9 1) (S 9 1 4).toNat); rw [← hσ]; unfold tTim; first | (rw [if_pos (by omega)]; exact zup_id _ _) | (rw [if_neg (by omega), show min (tMid σ) 2000 = 2000 by omega]; done) | (rw [if_neg (by omega), show min (tMid σ) 2000 = tMid σ by omega]; done)) hH (lv_sub hl [2, 1, 0] rfl)
        · refine lv_aload_n hx hb dX5_plans_55 rfl (lv_at hl 1 rfl) ?_
          refine zg_5_1 h hH zf_X5_7 dX5_plans_56 ?_
          refine zb_ic h dX5_plans_59 ?_
          refine zld_ar_s h hH (by omega) dX5_plans_60 ?_
          rw [zM_1]
          have f_60 := zW_0 hc.1
          refine lv_goto (tgt := 78) hx hb dX5_plans_61 (by decide) ?_
          refine zst_ar_s h hH (by omega) dX5_plans_78 (fun H locs hH => ?_)
          rw [zs_M1] at hH
          refine zb_ic h dX5_plans_79 ?_
          refine lv_istore_n (lv' := [(2, .int (zI 0)), (1, .int (zI (tMid σ))), (0, .ref (za G 9 0))]) hx hb dX5_plans_80 rfl hl (by decide) rfl (fun ls hl => ?_)
          exact C81 ((S 9 1 4 - 0 : Int).toNat + 1) 0 (tMid σ) (zup σ (0) (σ 0)) M_41 L_41 _ _ _ (by omega) (by omega) (by show _ = tTim (tClr (S 9 1) (S 9 1 4).toNat); rw [← hσ]; unfold tTim; first | (rw [if_pos (by omega)]; exact zup_id _ _) | (rw [if_neg (by omega), show min (tMid σ) 2000 = 2000 by omega]; done) | (rw [if_neg (by omega), show min (tMid σ) 2000 = tMid σ by omega]; done)) hH (lv_sub hl [2, 1, 0] rfl)
      · refine lv_aload_n hx hb dX5_plans_12 rfl (lv_at hl 0 rfl) ?_
        refine zg_5_1 h hH zf_X5_7 dX5_plans_13 ?_
        refine lv_iload_n hx hb dX5_plans_16 rfl (lv_at hl 1 rfl) ?_
        refine zb_ic h dX5_plans_17 ?_
        refine zcSi h hH (As := [.int (zI o), .int (zI 2)]) (rest := [.ref (za G 9 1)]) (c_X5_of l G hG (zMo S (S 9 0) σ (S 9 2) (S 9 3) (S 9 4) (S 9 5) (S 9 6)) o 2) zce_X5_of zt_X5_of zm_X5_51 hl.1 rfl rfl ⟨rfl, rfl⟩ ⟨Nat.le_of_ble_eq_true rfl, Nat.le_of_ble_eq_true rfl⟩ (Nat.le_of_ble_eq_true rfl) ⟨Nat.zero_le _, Nat.zero_le _⟩ dX5_plans_18 (fun r_18 S_18 H locs hq hH => ?_)
        obtain ⟨rfl, rfl⟩ := hq
        refine zb_ic h dX5_plans_21 ?_
        refine zst_ar_s h hH (by omega) dX5_plans_22 (fun H locs hH => ?_)
        rw [zs_M1] at hH
        refine lv_aload_n hx hb dX5_plans_23 rfl (lv_at hl 0 rfl) ?_
        refine zg_5_1 h hH zf_X5_7 dX5_plans_24 ?_
        refine lv_iload_n hx hb dX5_plans_27 rfl (lv_at hl 1 rfl) ?_
        refine zb_ic h dX5_plans_28 ?_
        refine zcSi h hH (As := [.int (zI o), .int (zI 3)]) (rest := [.ref (za G 9 1)]) (c_X5_of l G hG (zMo S (S 9 0) (zup σ ((5 + 5 * o + 2)) 0) (S 9 2) (S 9 3) (S 9 4) (S 9 5) (S 9 6)) o 3) zce_X5_of zt_X5_of zm_X5_51 hl.1 rfl rfl ⟨rfl, rfl⟩ ⟨Nat.le_of_ble_eq_true rfl, Nat.le_of_ble_eq_true rfl⟩ (Nat.le_of_ble_eq_true rfl) ⟨Nat.zero_le _, Nat.zero_le _⟩ dX5_plans_29 (fun r_29 S_29 H locs hq hH => ?_)
        obtain ⟨rfl, rfl⟩ := hq
        refine zb_ic h dX5_plans_32 ?_
        refine zst_ar_s h hH (by omega) dX5_plans_33 (fun H locs hH => ?_)
        rw [zs_M1] at hH
        refine lv_iinc (v := zI (o + 1)) (lv' := [(1, .int (zI (o + 1))), (0, .ref (za G 9 0))]) hx hb dX5_plans_34 hl (k := 1) rfl (zI_add _ _) (by decide) rfl (fun ls hl => ?_)
        refine lv_goto (tgt := 2) hx hb dX5_plans_37 (by decide) ?_
        exact ih2 (o + 1) (zup (zup σ ((5 + 5 * o + 2)) 0) ((5 + 5 * o + 3)) 0) _ _ _ (by omega) (by omega) (by rw [tClr_s _ ho.1, hσ]) hH (lv_sub hl [1, 0] rfl)
  refine zb_ic h dX5_plans_0 ?_
  refine lv_istore_n (lv' := [(1, .int (zI 0)), (0, .ref (za G 9 0))]) hx hb dX5_plans_1 rfl hl (by decide) rfl (fun ls hl => ?_)
  exact C2 ((S 9 1 4 - 0 : Int).toNat + 1) 0 (S 9 1) _ _ _ (by omega) (by omega) rfl hH (lv_sub hl [1, 0] rfl)
theorem dX5_plan_0 : decode cX5_plan 0 = .ok (.aload_n 0, 1) := by decide +kernel
theorem dX5_plan_1 : decode cX5_plan 1 = .ok (.iconst 0, 1) := by decide +kernel
theorem dX5_plan_2 : decode cX5_plan 2 = .ok (.putfield 28, 3) := by decide +kernel
theorem dX5_plan_5 : decode cX5_plan 5 = .ok (.aload_n 0, 1) := by decide +kernel
theorem dX5_plan_6 : decode cX5_plan 6 = .ok (.invokevirtual 90, 3) := by decide +kernel
theorem dX5_plan_9 : decode cX5_plan 9 = .ok (.aload_n 0, 1) := by decide +kernel
theorem dX5_plan_10 : decode cX5_plan 10 = .ok (.invokevirtual 124, 3) := by decide +kernel
theorem dX5_plan_13 : decode cX5_plan 13 = .ok (.ireturn, 1) := by decide +kernel
def q_X5_plan (S : zM) : Int32 → zM → Prop := fun r S1 => r = zI (tCnt (tPlan (S 9 1)) 0) ∧ ∃ M' L', zMo S (zup (zup (S 9 0) 0 0) 4 (zSm ((zup (S 9 0) 0 0) 4))) (tPlan (S 9 1)) (S 9 2) (zSv (S 9 3) (S 9 1) ((zup (S 9 0) 0 0) 4)) (S 9 4) M' L' = S1
def r_X5_plan : Room := { frames := 7, cells := 0, slots := 0, locals := 165 }
set_option maxHeartbeats 4000000 in
set_option maxRecDepth 100000 in
theorem c_X5_plan (l : Launch) (G : zG) (hG : zok G) (S : zM) (hsm : 0 ≤ S 9 0 4 ∧ S 9 0 4 ≤ 6) (hnl : zNl (S 9 1)) (hw : zW (S 9 1)) : Met l yX5_plan (Cond.code yX5_plan cX5_plan 1 (some FieldType.int) :: zTbl) r_X5_plan (va_Pc [.ref (za G 9 0)] (zB G S)) (va_Qi (q_X5_plan S) (zB G) (zA G)) 0 0 (zA G) := by
  refine zMet [(0, .ref (za G 9 0))] hG (by decide) (Nat.le_of_ble_eq_true rfl) rfl (fun p e s m args below meth c ls h hx hb hr hH hl => ?_)
  rw [← zM_id S] at hH
  refine lv_aload_n hx hb dX5_plan_0 rfl (lv_at hl 0 rfl) ?_
  refine zb_ic h dX5_plan_1 ?_
  refine zu_5_0 h hH zf_X5_28 dX5_plan_2 (fun H locs hH => ?_)
  rw [zs_M0] at hH
  refine lv_aload_n hx hb dX5_plan_5 rfl (lv_at hl 0 rfl) ?_
  refine zcVv h hH (zr_5 h hH) (As := []) (rest := []) (c_X5_save l G hG (zMo S (zup (S 9 0) 0 0) (S 9 1) (S 9 2) (S 9 3) (S 9 4) (S 9 5) (S 9 6)) (by rw [zM_0, zup_n (by omega)]; exact hsm)) zce_X5_save zcv_X5_save zm_X5_90 hl.1 rfl rfl ⟨rfl, rfl⟩ ⟨Nat.le_of_ble_eq_true rfl, Nat.le_of_ble_eq_true rfl⟩ (Nat.le_of_ble_eq_true rfl) ⟨Nat.zero_le _, Nat.zero_le _⟩ dX5_plan_6 (fun S_6 H locs hq hH => ?_)
  obtain rfl := hq
  simp only [zM_M, zM_0, zM_1, zM_2, zM_3, zM_4, zM_5, zM_6] at hH
  refine lv_aload_n hx hb dX5_plan_9 rfl (lv_at hl 0 rfl) ?_
  refine zcVi h hH (zr_5 h hH) (As := []) (rest := []) (c_X5_plans l G hG (zMo S (zup (zup (S 9 0) 0 0) 4 (zSm ((zup (S 9 0) 0 0) 4))) (S 9 1) (S 9 2) (zSv (S 9 3) (S 9 1) ((zup (S 9 0) 0 0) 4)) (S 9 4) (S 9 5) (S 9 6)) (by rw [zM_1]; exact hnl) (zM_hw hw)) zce_X5_plans zcv_X5_plans zm_X5_124 hl.1 rfl rfl ⟨rfl, rfl⟩ ⟨Nat.le_of_ble_eq_true rfl, Nat.le_of_ble_eq_true rfl⟩ (Nat.le_of_ble_eq_true rfl) ⟨Nat.zero_le _, Nat.zero_le _⟩ dX5_plan_10 (fun r_10 S_10 H locs hq hH => ?_)
  obtain ⟨rfl, M_10, L_10, rfl⟩ := hq
  simp only [zM_M, zM_0, zM_1, zM_2, zM_3, zM_4, zM_5, zM_6] at hH
  rw [zM_1]
  refine zri h hr hH ?_ dX5_plan_13
  exact ⟨rfl, _, _, rfl⟩
theorem dX5_bestPaper_0 : decode cX5_bestPaper 0 = .ok (.iconst 0, 1) := by decide +kernel
theorem dX5_bestPaper_1 : decode cX5_bestPaper 1 = .ok (.istore_n 1, 1) := by decide +kernel
theorem dX5_bestPaper_2 : decode cX5_bestPaper 2 = .ok (.iconst (-1), 1) := by decide +kernel
theorem dX5_bestPaper_3 : decode cX5_bestPaper 3 = .ok (.istore_n 2, 1) := by decide +kernel
theorem dX5_bestPaper_4 : decode cX5_bestPaper 4 = .ok (.iconst 0, 1) := by decide +kernel
theorem dX5_bestPaper_5 : decode cX5_bestPaper 5 = .ok (.istore_n 3, 1) := by decide +kernel
theorem dX5_bestPaper_6 : decode cX5_bestPaper 6 = .ok (.aload_n 0, 1) := by decide +kernel
theorem dX5_bestPaper_7 : decode cX5_bestPaper 7 = .ok (.invokevirtual 194, 3) := by decide +kernel
theorem dX5_bestPaper_10 : decode cX5_bestPaper 10 = .ok (.iconst 0, 1) := by decide +kernel
theorem dX5_bestPaper_11 : decode cX5_bestPaper 11 = .ok (.istore 4, 2) := by decide +kernel
theorem dX5_bestPaper_13 : decode cX5_bestPaper 13 = .ok (.iload 4, 2) := by decide +kernel
theorem dX5_bestPaper_15 : decode cX5_bestPaper 15 = .ok (.bipush 6, 2) := by decide +kernel
theorem dX5_bestPaper_17 : decode cX5_bestPaper 17 = .ok (.if_icmp .ge 103, 3) := by decide +kernel
theorem dX5_bestPaper_20 : decode cX5_bestPaper 20 = .ok (.aload_n 0, 1) := by decide +kernel
theorem dX5_bestPaper_21 : decode cX5_bestPaper 21 = .ok (.getfield 7, 3) := by decide +kernel
theorem dX5_bestPaper_24 : decode cX5_bestPaper 24 = .ok (.iconst 1, 1) := by decide +kernel
theorem dX5_bestPaper_25 : decode cX5_bestPaper 25 = .ok (.iload 4, 2) := by decide +kernel
theorem dX5_bestPaper_27 : decode cX5_bestPaper 27 = .ok (.iastore, 1) := by decide +kernel
theorem dX5_bestPaper_28 : decode cX5_bestPaper 28 = .ok (.aload_n 0, 1) := by decide +kernel
theorem dX5_bestPaper_29 : decode cX5_bestPaper 29 = .ok (.invokevirtual 124, 3) := by decide +kernel
theorem dX5_bestPaper_32 : decode cX5_bestPaper 32 = .ok (.istore 5, 2) := by decide +kernel
theorem dX5_bestPaper_34 : decode cX5_bestPaper 34 = .ok (.aload_n 0, 1) := by decide +kernel
theorem dX5_bestPaper_35 : decode cX5_bestPaper 35 = .ok (.bipush 7, 2) := by decide +kernel
theorem dX5_bestPaper_37 : decode cX5_bestPaper 37 = .ok (.invokevirtual 179, 3) := by decide +kernel
theorem dX5_bestPaper_40 : decode cX5_bestPaper 40 = .ok (.aload_n 0, 1) := by decide +kernel
theorem dX5_bestPaper_41 : decode cX5_bestPaper 41 = .ok (.bipush 8, 2) := by decide +kernel
theorem dX5_bestPaper_43 : decode cX5_bestPaper 43 = .ok (.invokevirtual 179, 3) := by decide +kernel
theorem dX5_bestPaper_46 : decode cX5_bestPaper 46 = .ok (.iadd, 1) := by decide +kernel
theorem dX5_bestPaper_47 : decode cX5_bestPaper 47 = .ok (.istore 6, 2) := by decide +kernel
theorem dX5_bestPaper_49 : decode cX5_bestPaper 49 = .ok (.iload 5, 2) := by decide +kernel
theorem dX5_bestPaper_51 : decode cX5_bestPaper 51 = .ok (.iload_n 2, 1) := by decide +kernel
theorem dX5_bestPaper_52 : decode cX5_bestPaper 52 = .ok (.if_icmp .gt 15, 3) := by decide +kernel
theorem dX5_bestPaper_55 : decode cX5_bestPaper 55 = .ok (.iload 5, 2) := by decide +kernel
theorem dX5_bestPaper_57 : decode cX5_bestPaper 57 = .ok (.iload_n 2, 1) := by decide +kernel
theorem dX5_bestPaper_58 : decode cX5_bestPaper 58 = .ok (.if_icmp .ne 13, 3) := by decide +kernel
theorem dX5_bestPaper_61 : decode cX5_bestPaper 61 = .ok (.iload 6, 2) := by decide +kernel
theorem dX5_bestPaper_63 : decode cX5_bestPaper 63 = .ok (.iload_n 3, 1) := by decide +kernel
theorem dX5_bestPaper_64 : decode cX5_bestPaper 64 = .ok (.if_icmp .ge 7, 3) := by decide +kernel
theorem dX5_bestPaper_67 : decode cX5_bestPaper 67 = .ok (.iconst 1, 1) := by decide +kernel
theorem dX5_bestPaper_68 : decode cX5_bestPaper 68 = .ok (.goto 4, 3) := by decide +kernel
theorem dX5_bestPaper_71 : decode cX5_bestPaper 71 = .ok (.iconst 0, 1) := by decide +kernel
theorem dX5_bestPaper_72 : decode cX5_bestPaper 72 = .ok (.istore 7, 2) := by decide +kernel
theorem dX5_bestPaper_74 : decode cX5_bestPaper 74 = .ok (.iload 7, 2) := by decide +kernel
theorem dX5_bestPaper_76 : decode cX5_bestPaper 76 = .ok (.ifCond .eq 8, 3) := by decide +kernel
theorem dX5_bestPaper_79 : decode cX5_bestPaper 79 = .ok (.iload 4, 2) := by decide +kernel
theorem dX5_bestPaper_81 : decode cX5_bestPaper 81 = .ok (.goto 4, 3) := by decide +kernel
theorem dX5_bestPaper_84 : decode cX5_bestPaper 84 = .ok (.iload_n 1, 1) := by decide +kernel
theorem dX5_bestPaper_85 : decode cX5_bestPaper 85 = .ok (.istore_n 1, 1) := by decide +kernel
theorem dX5_bestPaper_86 : decode cX5_bestPaper 86 = .ok (.iload 7, 2) := by decide +kernel
theorem dX5_bestPaper_88 : decode cX5_bestPaper 88 = .ok (.ifCond .eq 8, 3) := by decide +kernel
theorem dX5_bestPaper_91 : decode cX5_bestPaper 91 = .ok (.iload 5, 2) := by decide +kernel
theorem dX5_bestPaper_93 : decode cX5_bestPaper 93 = .ok (.goto 4, 3) := by decide +kernel
theorem dX5_bestPaper_96 : decode cX5_bestPaper 96 = .ok (.iload_n 2, 1) := by decide +kernel
theorem dX5_bestPaper_97 : decode cX5_bestPaper 97 = .ok (.istore_n 2, 1) := by decide +kernel
theorem dX5_bestPaper_98 : decode cX5_bestPaper 98 = .ok (.iload 7, 2) := by decide +kernel
theorem dX5_bestPaper_100 : decode cX5_bestPaper 100 = .ok (.ifCond .eq 8, 3) := by decide +kernel
theorem dX5_bestPaper_103 : decode cX5_bestPaper 103 = .ok (.iload 6, 2) := by decide +kernel
theorem dX5_bestPaper_105 : decode cX5_bestPaper 105 = .ok (.goto 4, 3) := by decide +kernel
theorem dX5_bestPaper_108 : decode cX5_bestPaper 108 = .ok (.iload_n 3, 1) := by decide +kernel
theorem dX5_bestPaper_109 : decode cX5_bestPaper 109 = .ok (.istore_n 3, 1) := by decide +kernel
theorem dX5_bestPaper_110 : decode cX5_bestPaper 110 = .ok (.aload_n 0, 1) := by decide +kernel
theorem dX5_bestPaper_111 : decode cX5_bestPaper 111 = .ok (.invokevirtual 197, 3) := by decide +kernel
theorem dX5_bestPaper_114 : decode cX5_bestPaper 114 = .ok (.iinc 4 1, 3) := by decide +kernel
theorem dX5_bestPaper_117 : decode cX5_bestPaper 117 = .ok (.goto (-104), 3) := by decide +kernel
theorem dX5_bestPaper_120 : decode cX5_bestPaper 120 = .ok (.iload_n 1, 1) := by decide +kernel
theorem dX5_bestPaper_121 : decode cX5_bestPaper 121 = .ok (.ireturn, 1) := by decide +kernel
def q_X5_bestPaper (S : zM) : Int32 → zM → Prop := fun r S1 => r = zI (tBgr (S 9 1)) ∧ ∃ A' M' L', zMo S (S 9 0) (S 9 1) A' (S 9 3) (S 9 4) M' L' = S1
def r_X5_bestPaper : Room := { frames := 7, cells := 0, slots := 0, locals := 165 }
set_option maxHeartbeats 4000000 in
set_option maxRecDepth 100000 in
theorem c_X5_bestPaper (l : Launch) (G : zG) (hG : zok G) (S : zM) (hnl : zNl (S 9 1)) (hw : zW (S 9 1)) : Met l yX5_bestPaper (Cond.code yX5_bestPaper cX5_bestPaper 8 (some FieldType.int) :: zTbl) r_X5_bestPaper (va_Pc [.ref (za G 9 0)] (zB G S)) (va_Qi (q_X5_bestPaper S) (zB G) (zA G)) 0 0 (zA G) := by
  refine zMet [(0, .ref (za G 9 0))] hG (by decide) (Nat.le_of_ble_eq_true rfl) rfl (fun p e s m args below meth c ls h hx hb hr hH hl => ?_)
  rw [← zM_id S] at hH
  have C13 : ∀ (fu : Nat) (g a b d : Int) (M L : Int → Int) (H : Heap) (locs : List Loc) (ls : Array Slot), (6 - g).toNat < fu → (0 ≤ g ∧ g ≤ 6) → (a = (tBg (S 9 1) g.toNat).1 ∧ b = (tBg (S 9 1) g.toNat).2.1 ∧ d = (tBg (S 9 1) g.toNat).2.2) → zH G (zMo S (S 9 0) (S 9 1) (S 9 1) (S 9 3) (S 9 4) M L) s H locs → lv_has ls 8 [(0, .ref (za G 9 0)), (1, .int (zI a)), (2, .int (zI b)), (3, .int (zI d)), (4, .int (zI g))] → W p l e r_X5_bestPaper s m args below meth c H locs 0 0 (MQ below (va_Qi (q_X5_bestPaper S) (zB G) (zA G)) args s 0 0 (zA G)) (F0 m 13 ls []) := by
    intro fu
    induction fu with
    | zero => intro g a b d M L H locs ls hfu; omega
    | succ fu ih13 =>
      intro g a b d M L H locs ls hfu hg hab hH hl
      refine lv_iload hx hb dX5_bestPaper_13 (lv_at hl 4 rfl) ?_
      refine zb_bi h dX5_bestPaper_15 (by decide) (by decide) ?_
      refine zb_cge (tgt := 120) h (by omega) (by omega) dX5_bestPaper_17 (by decide) (fun c_17 => ?_) (fun c_17 => ?_)
      · refine lv_iload_n hx hb dX5_bestPaper_120 rfl (lv_at hl 1 rfl) ?_
        refine zri h hr hH ?_ dX5_bestPaper_121
        obtain rfl : g = 6 := by omega
        exact ⟨congrArg zI (by rw [hab.1]; rfl), _, _, _, rfl⟩
      · refine lv_aload_n hx hb dX5_bestPaper_20 rfl (lv_at hl 0 rfl) ?_
        refine zg_5_1 h hH zf_X5_7 dX5_bestPaper_21 ?_
        refine zb_ic h dX5_bestPaper_24 ?_
        refine lv_iload hx hb dX5_bestPaper_25 (lv_at hl 4 rfl) ?_
        refine zst_ar_s h hH (by omega) dX5_bestPaper_27 (fun H locs hH => ?_)
        rw [zs_M1] at hH
        have hgi := tGR_in hw (g := g) (by omega)
        have hgj := tGC_in hw (g := g) (by omega)
        have hgk := tBg_in hw g.toNat (by omega)
        have hwg := zW_g hw (g := g) (by omega)
        refine lv_aload_n hx hb dX5_bestPaper_28 rfl (lv_at hl 0 rfl) ?_
        refine zcVi h hH (zr_5 h hH) (As := []) (rest := []) (c_X5_plans l G hG (zMo S (S 9 0) (zup (S 9 1) (1) g) (S 9 1) (S 9 3) (S 9 4) M L) (by rw [zM_1]; exact zNl_g hnl g) (zM_hw hwg)) zce_X5_plans zcv_X5_plans zm_X5_124 hl.1 rfl rfl ⟨rfl, rfl⟩ ⟨Nat.le_of_ble_eq_true rfl, Nat.le_of_ble_eq_true rfl⟩ (Nat.le_of_ble_eq_true rfl) ⟨Nat.zero_le _, Nat.zero_le _⟩ dX5_bestPaper_29 (fun r_29 S_29 H locs hq hH => ?_)
        obtain ⟨rfl, M_29, L_29, rfl⟩ := hq
        simp only [zM_M, zM_0, zM_1, zM_2, zM_3, zM_4, zM_5, zM_6] at hH
        rw [zM_1]
        refine zb_top (y := tGR (S 9 1) g) rfl ?_
        refine lv_istore (lv' := [(5, .int (zI (tGR (S 9 1) g))), (0, .ref (za G 9 0)), (1, .int (zI a)), (2, .int (zI b)), (3, .int (zI d)), (4, .int (zI g))]) hx hb dX5_bestPaper_32 hl (by decide) rfl (fun ls hl => ?_)
        have hwp := (tPlan_in hwg).1
        refine lv_aload_n hx hb dX5_bestPaper_34 rfl (lv_at hl 1 rfl) ?_
        refine zb_bi h dX5_bestPaper_35 (by decide) (by decide) ?_
        refine zcVi h hH (zr_5 h hH) (As := [.int (zI 7)]) (rest := []) (c_X5_sum l G hG (zMo S (S 9 0) (tPlan (zup (S 9 1) (1) g)) (S 9 1) (S 9 3) (S 9 4) M_29 L_29) 7 (by omega) (zM_hw hwp)) zce_X5_sum zcv_X5_sum zm_X5_179 hl.1 rfl rfl ⟨rfl, rfl⟩ ⟨Nat.le_of_ble_eq_true rfl, Nat.le_of_ble_eq_true rfl⟩ (Nat.le_of_ble_eq_true rfl) ⟨Nat.zero_le _, Nat.zero_le _⟩ dX5_bestPaper_37 (fun r_37 S_37 H locs hq hH => ?_)
        obtain ⟨rfl, M_37, rfl⟩ := hq
        simp only [zM_M, zM_0, zM_1, zM_2, zM_3, zM_4, zM_5, zM_6] at hH
        rw [zM_1]
        refine lv_aload_n hx hb dX5_bestPaper_40 rfl (lv_at hl 1 rfl) ?_
        refine zb_bi h dX5_bestPaper_41 (by decide) (by decide) ?_
        refine zcVi h hH (zr_5 h hH) (As := [.int (zI 8)]) (rest := [.int (zI (zsum (tSu (tPlan (zup (S 9 1) (1) g)) 7) (tPlan (zup (S 9 1) (1) g) 4).toNat))]) (c_X5_sum l G hG (zMo S (S 9 0) (tPlan (zup (S 9 1) (1) g)) (S 9 1) (S 9 3) (S 9 4) M_37 L_29) 8 (by omega) (zM_hw hwp)) zce_X5_sum zcv_X5_sum zm_X5_179 hl.1 rfl rfl ⟨rfl, rfl⟩ ⟨Nat.le_of_ble_eq_true rfl, Nat.le_of_ble_eq_true rfl⟩ (Nat.le_of_ble_eq_true rfl) ⟨Nat.zero_le _, Nat.zero_le _⟩ dX5_bestPaper_43 (fun r_43 S_43 H locs hq hH => ?_)
        obtain ⟨rfl, M_43, rfl⟩ := hq
        simp only [zM_M, zM_0, zM_1, zM_2, zM_3, zM_4, zM_5, zM_6] at hH
        rw [zM_1]
        refine zb_iadd h dX5_bestPaper_46 ?_
        refine zb_top (y := tGC (S 9 1) g) (by rw [tSu_7, tSu_8]; rfl) ?_
        refine lv_istore (lv' := [(6, .int (zI (tGC (S 9 1) g))), (5, .int (zI (tGR (S 9 1) g))), (0, .ref (za G 9 0)), (1, .int (zI a)), (2, .int (zI b)), (3, .int (zI d)), (4, .int (zI g))]) hx hb dX5_bestPaper_47 hl (by decide) rfl (fun ls hl => ?_)
        refine lv_iload hx hb dX5_bestPaper_49 (lv_at hl 1 rfl) ?_
        refine lv_iload_n hx hb dX5_bestPaper_51 rfl (lv_at hl 4 rfl) ?_
        refine zb_cgt (tgt := 67) h (by omega) (by omega) dX5_bestPaper_52 (by decide) (fun c_52 => ?_) (fun c_52 => ?_)
        · refine zb_ic h dX5_bestPaper_67 ?_
          refine lv_goto (tgt := 72) hx hb dX5_bestPaper_68 (by decide) ?_
          refine lv_istore (lv' := [(7, .int (zI 1)), (6, .int (zI (tGC (S 9 1) g))), (5, .int (zI (tGR (S 9 1) g))), (0, .ref (za G 9 0)), (1, .int (zI a)), (2, .int (zI b)), (3, .int (zI d)), (4, .int (zI g))]) hx hb dX5_bestPaper_72 hl (by decide) rfl (fun ls hl => ?_)
          refine lv_iload hx hb dX5_bestPaper_74 (lv_at hl 0 rfl) ?_
          refine zb_ieq (tgt := 84) h (by omega) dX5_bestPaper_76 (by decide) (fun c_76 => ?_) (fun c_76 => ?_)
          · refine lv_iload_n hx hb dX5_bestPaper_84 rfl (lv_at hl 4 rfl) ?_
            refine lv_istore_n (lv' := [(1, .int (zI a)), (7, .int (zI 1)), (6, .int (zI (tGC (S 9 1) g))), (5, .int (zI (tGR (S 9 1) g))), (0, .ref (za G 9 0)), (2, .int (zI b)), (3, .int (zI d)), (4, .int (zI g))]) hx hb dX5_bestPaper_85 rfl hl (by decide) rfl (fun ls hl => ?_)
            refine lv_iload hx hb dX5_bestPaper_86 (lv_at hl 1 rfl) ?_
            refine zb_ieq (tgt := 96) h (by omega) dX5_bestPaper_88 (by decide) (fun c_88 => ?_) (fun c_88 => ?_)
            · refine lv_iload_n hx hb dX5_bestPaper_96 rfl (lv_at hl 5 rfl) ?_
              refine lv_istore_n (lv' := [(2, .int (zI b)), (1, .int (zI a)), (7, .int (zI 1)), (6, .int (zI (tGC (S 9 1) g))), (5, .int (zI (tGR (S 9 1) g))), (0, .ref (za G 9 0)), (3, .int (zI d)), (4, .int (zI g))]) hx hb dX5_bestPaper_97 rfl hl (by decide) rfl (fun ls hl => ?_)
              refine lv_iload hx hb dX5_bestPaper_98 (lv_at hl 2 rfl) ?_
              refine zb_ieq (tgt := 108) h (by omega) dX5_bestPaper_100 (by decide) (fun c_100 => ?_) (fun c_100 => ?_)
              · refine lv_iload_n hx hb dX5_bestPaper_108 rfl (lv_at hl 6 rfl) ?_
                refine lv_istore_n (lv' := [(3, .int (zI d)), (2, .int (zI b)), (1, .int (zI a)), (7, .int (zI 1)), (6, .int (zI (tGC (S 9 1) g))), (5, .int (zI (tGR (S 9 1) g))), (0, .ref (za G 9 0)), (4, .int (zI g))]) hx hb dX5_bestPaper_109 rfl hl (by decide) rfl (fun ls hl => ?_)
                refine lv_aload_n hx hb dX5_bestPaper_110 rfl (lv_at hl 6 rfl) ?_
                refine zcVv h hH (zr_5 h hH) (As := []) (rest := []) (c_X5_putBack l G hG (zMo S (S 9 0) (tPlan (zup (S 9 1) (1) g)) (S 9 1) (S 9 3) (S 9 4) M_43 L_29)) zce_X5_putBack zcv_X5_putBack zm_X5_197 hl.1 rfl rfl ⟨rfl, rfl⟩ ⟨Nat.le_of_ble_eq_true rfl, Nat.le_of_ble_eq_true rfl⟩ (Nat.le_of_ble_eq_true rfl) ⟨Nat.zero_le _, Nat.zero_le _⟩ dX5_bestPaper_111 (fun S_111 H locs hq hH => ?_)
                obtain rfl := hq
                simp only [zM_M, zM_0, zM_1, zM_2, zM_3, zM_4, zM_5, zM_6] at hH
                refine lv_iinc (v := zI (g + 1)) (lv' := [(4, .int (zI (g + 1))), (3, .int (zI d)), (2, .int (zI b)), (1, .int (zI a)), (7, .int (zI 1)), (6, .int (zI (tGC (S 9 1) g))), (5, .int (zI (tGR (S 9 1) g))), (0, .ref (za G 9 0))]) hx hb dX5_bestPaper_114 hl (k := 7) rfl (zI_add _ _) (by decide) rfl (fun ls hl => ?_)
                refine lv_goto (tgt := 13) hx hb dX5_bestPaper_117 (by decide) ?_
                exact ih13 (g + 1) a b d M_43 L_29 _ _ _ (by omega) (by omega) (by rw [tBg_s _ hg.1]; obtain ⟨h1, h2, h3⟩ := hab; first | (rw [if_pos (by omega)]; exact ⟨rfl, rfl, rfl⟩) | (rw [if_neg (by omega)]; exact ⟨h1, h2, h3⟩) | (exfalso; omega)) hH (lv_sub hl [7, 3, 2, 1, 0] rfl)
              · refine lv_iload hx hb dX5_bestPaper_103 (lv_at hl 3 rfl) ?_
                refine lv_goto (tgt := 109) hx hb dX5_bestPaper_105 (by decide) ?_
                refine lv_istore_n (lv' := [(3, .int (zI (tGC (S 9 1) g))), (2, .int (zI b)), (1, .int (zI a)), (7, .int (zI 1)), (6, .int (zI (tGC (S 9 1) g))), (5, .int (zI (tGR (S 9 1) g))), (0, .ref (za G 9 0)), (4, .int (zI g))]) hx hb dX5_bestPaper_109 rfl hl (by decide) rfl (fun ls hl => ?_)
                refine lv_aload_n hx hb dX5_bestPaper_110 rfl (lv_at hl 6 rfl) ?_
                refine zcVv h hH (zr_5 h hH) (As := []) (rest := []) (c_X5_putBack l G hG (zMo S (S 9 0) (tPlan (zup (S 9 1) (1) g)) (S 9 1) (S 9 3) (S 9 4) M_43 L_29)) zce_X5_putBack zcv_X5_putBack zm_X5_197 hl.1 rfl rfl ⟨rfl, rfl⟩ ⟨Nat.le_of_ble_eq_true rfl, Nat.le_of_ble_eq_true rfl⟩ (Nat.le_of_ble_eq_true rfl) ⟨Nat.zero_le _, Nat.zero_le _⟩ dX5_bestPaper_111 (fun S_111 H locs hq hH => ?_)
                obtain rfl := hq
                simp only [zM_M, zM_0, zM_1, zM_2, zM_3, zM_4, zM_5, zM_6] at hH
                refine lv_iinc (v := zI (g + 1)) (lv' := [(4, .int (zI (g + 1))), (3, .int (zI (tGC (S 9 1) g))), (2, .int (zI b)), (1, .int (zI a)), (7, .int (zI 1)), (6, .int (zI (tGC (S 9 1) g))), (5, .int (zI (tGR (S 9 1) g))), (0, .ref (za G 9 0))]) hx hb dX5_bestPaper_114 hl (k := 7) rfl (zI_add _ _) (by decide) rfl (fun ls hl => ?_)
                refine lv_goto (tgt := 13) hx hb dX5_bestPaper_117 (by decide) ?_
                exact ih13 (g + 1) a b (tGC (S 9 1) g) M_43 L_29 _ _ _ (by omega) (by omega) (by rw [tBg_s _ hg.1]; obtain ⟨h1, h2, h3⟩ := hab; first | (rw [if_pos (by omega)]; exact ⟨rfl, rfl, rfl⟩) | (rw [if_neg (by omega)]; exact ⟨h1, h2, h3⟩) | (exfalso; omega)) hH (lv_sub hl [7, 3, 2, 1, 0] rfl)
            · refine lv_iload hx hb dX5_bestPaper_91 (lv_at hl 3 rfl) ?_
              refine lv_goto (tgt := 97) hx hb dX5_bestPaper_93 (by decide) ?_
              refine lv_istore_n (lv' := [(2, .int (zI (tGR (S 9 1) g))), (1, .int (zI a)), (7, .int (zI 1)), (6, .int (zI (tGC (S 9 1) g))), (5, .int (zI (tGR (S 9 1) g))), (0, .ref (za G 9 0)), (3, .int (zI d)), (4, .int (zI g))]) hx hb dX5_bestPaper_97 rfl hl (by decide) rfl (fun ls hl => ?_)
              refine lv_iload hx hb dX5_bestPaper_98 (lv_at hl 2 rfl) ?_
              refine zb_ieq (tgt := 108) h (by omega) dX5_bestPaper_100 (by decide) (fun c_100 => ?_) (fun c_100 => ?_)
              · refine lv_iload_n hx hb dX5_bestPaper_108 rfl (lv_at hl 6 rfl) ?_
                refine lv_istore_n (lv' := [(3, .int (zI d)), (2, .int (zI (tGR (S 9 1) g))), (1, .int (zI a)), (7, .int (zI 1)), (6, .int (zI (tGC (S 9 1) g))), (5, .int (zI (tGR (S 9 1) g))), (0, .ref (za G 9 0)), (4, .int (zI g))]) hx hb dX5_bestPaper_109 rfl hl (by decide) rfl (fun ls hl => ?_)
                refine lv_aload_n hx hb dX5_bestPaper_110 rfl (lv_at hl 6 rfl) ?_
                refine zcVv h hH (zr_5 h hH) (As := []) (rest := []) (c_X5_putBack l G hG (zMo S (S 9 0) (tPlan (zup (S 9 1) (1) g)) (S 9 1) (S 9 3) (S 9 4) M_43 L_29)) zce_X5_putBack zcv_X5_putBack zm_X5_197 hl.1 rfl rfl ⟨rfl, rfl⟩ ⟨Nat.le_of_ble_eq_true rfl, Nat.le_of_ble_eq_true rfl⟩ (Nat.le_of_ble_eq_true rfl) ⟨Nat.zero_le _, Nat.zero_le _⟩ dX5_bestPaper_111 (fun S_111 H locs hq hH => ?_)
                obtain rfl := hq
                simp only [zM_M, zM_0, zM_1, zM_2, zM_3, zM_4, zM_5, zM_6] at hH
                refine lv_iinc (v := zI (g + 1)) (lv' := [(4, .int (zI (g + 1))), (3, .int (zI d)), (2, .int (zI (tGR (S 9 1) g))), (1, .int (zI a)), (7, .int (zI 1)), (6, .int (zI (tGC (S 9 1) g))), (5, .int (zI (tGR (S 9 1) g))), (0, .ref (za G 9 0))]) hx hb dX5_bestPaper_114 hl (k := 7) rfl (zI_add _ _) (by decide) rfl (fun ls hl => ?_)
                refine lv_goto (tgt := 13) hx hb dX5_bestPaper_117 (by decide) ?_
                exact ih13 (g + 1) a (tGR (S 9 1) g) d M_43 L_29 _ _ _ (by omega) (by omega) (by rw [tBg_s _ hg.1]; obtain ⟨h1, h2, h3⟩ := hab; first | (rw [if_pos (by omega)]; exact ⟨rfl, rfl, rfl⟩) | (rw [if_neg (by omega)]; exact ⟨h1, h2, h3⟩) | (exfalso; omega)) hH (lv_sub hl [7, 3, 2, 1, 0] rfl)
              · refine lv_iload hx hb dX5_bestPaper_103 (lv_at hl 3 rfl) ?_
                refine lv_goto (tgt := 109) hx hb dX5_bestPaper_105 (by decide) ?_
                refine lv_istore_n (lv' := [(3, .int (zI (tGC (S 9 1) g))), (2, .int (zI (tGR (S 9 1) g))), (1, .int (zI a)), (7, .int (zI 1)), (6, .int (zI (tGC (S 9 1) g))), (5, .int (zI (tGR (S 9 1) g))), (0, .ref (za G 9 0)), (4, .int (zI g))]) hx hb dX5_bestPaper_109 rfl hl (by decide) rfl (fun ls hl => ?_)
                refine lv_aload_n hx hb dX5_bestPaper_110 rfl (lv_at hl 6 rfl) ?_
                refine zcVv h hH (zr_5 h hH) (As := []) (rest := []) (c_X5_putBack l G hG (zMo S (S 9 0) (tPlan (zup (S 9 1) (1) g)) (S 9 1) (S 9 3) (S 9 4) M_43 L_29)) zce_X5_putBack zcv_X5_putBack zm_X5_197 hl.1 rfl rfl ⟨rfl, rfl⟩ ⟨Nat.le_of_ble_eq_true rfl, Nat.le_of_ble_eq_true rfl⟩ (Nat.le_of_ble_eq_true rfl) ⟨Nat.zero_le _, Nat.zero_le _⟩ dX5_bestPaper_111 (fun S_111 H locs hq hH => ?_)
                obtain rfl := hq
                simp only [zM_M, zM_0, zM_1, zM_2, zM_3, zM_4, zM_5, zM_6] at hH
                refine lv_iinc (v := zI (g + 1)) (lv' := [(4, .int (zI (g + 1))), (3, .int (zI (tGC (S 9 1) g))), (2, .int (zI (tGR (S 9 1) g))), (1, .int (zI a)), (7, .int (zI 1)), (6, .int (zI (tGC (S 9 1) g))), (5, .int (zI (tGR (S 9 1) g))), (0, .ref (za G 9 0))]) hx hb dX5_bestPaper_114 hl (k := 7) rfl (zI_add _ _) (by decide) rfl (fun ls hl => ?_)
                refine lv_goto (tgt := 13) hx hb dX5_bestPaper_117 (by decide) ?_
                exact ih13 (g + 1) a (tGR (S 9 1) g) (tGC (S 9 1) g) M_43 L_29 _ _ _ (by omega) (by omega) (by rw [tBg_s _ hg.1]; obtain ⟨h1, h2, h3⟩ := hab; first | (rw [if_pos (by omega)]; exact ⟨rfl, rfl, rfl⟩) | (rw [if_neg (by omega)]; exact ⟨h1, h2, h3⟩) | (exfalso; omega)) hH (lv_sub hl [7, 3, 2, 1, 0] rfl)
          · refine lv_iload hx hb dX5_bestPaper_79 (lv_at hl 7 rfl) ?_
            refine lv_goto (tgt := 85) hx hb dX5_bestPaper_81 (by decide) ?_
            refine lv_istore_n (lv' := [(1, .int (zI g)), (7, .int (zI 1)), (6, .int (zI (tGC (S 9 1) g))), (5, .int (zI (tGR (S 9 1) g))), (0, .ref (za G 9 0)), (2, .int (zI b)), (3, .int (zI d)), (4, .int (zI g))]) hx hb dX5_bestPaper_85 rfl hl (by decide) rfl (fun ls hl => ?_)
            refine lv_iload hx hb dX5_bestPaper_86 (lv_at hl 1 rfl) ?_
            refine zb_ieq (tgt := 96) h (by omega) dX5_bestPaper_88 (by decide) (fun c_88 => ?_) (fun c_88 => ?_)
            · refine lv_iload_n hx hb dX5_bestPaper_96 rfl (lv_at hl 5 rfl) ?_
              refine lv_istore_n (lv' := [(2, .int (zI b)), (1, .int (zI g)), (7, .int (zI 1)), (6, .int (zI (tGC (S 9 1) g))), (5, .int (zI (tGR (S 9 1) g))), (0, .ref (za G 9 0)), (3, .int (zI d)), (4, .int (zI g))]) hx hb dX5_bestPaper_97 rfl hl (by decide) rfl (fun ls hl => ?_)
              refine lv_iload hx hb dX5_bestPaper_98 (lv_at hl 2 rfl) ?_
              refine zb_ieq (tgt := 108) h (by omega) dX5_bestPaper_100 (by decide) (fun c_100 => ?_) (fun c_100 => ?_)
              · refine lv_iload_n hx hb dX5_bestPaper_108 rfl (lv_at hl 6 rfl) ?_
                refine lv_istore_n (lv' := [(3, .int (zI d)), (2, .int (zI b)), (1, .int (zI g)), (7, .int (zI 1)), (6, .int (zI (tGC (S 9 1) g))), (5, .int (zI (tGR (S 9 1) g))), (0, .ref (za G 9 0)), (4, .int (zI g))]) hx hb dX5_bestPaper_109 rfl hl (by decide) rfl (fun ls hl => ?_)
                refine lv_aload_n hx hb dX5_bestPaper_110 rfl (lv_at hl 6 rfl) ?_
                refine zcVv h hH (zr_5 h hH) (As := []) (rest := []) (c_X5_putBack l G hG (zMo S (S 9 0) (tPlan (zup (S 9 1) (1) g)) (S 9 1) (S 9 3) (S 9 4) M_43 L_29)) zce_X5_putBack zcv_X5_putBack zm_X5_197 hl.1 rfl rfl ⟨rfl, rfl⟩ ⟨Nat.le_of_ble_eq_true rfl, Nat.le_of_ble_eq_true rfl⟩ (Nat.le_of_ble_eq_true rfl) ⟨Nat.zero_le _, Nat.zero_le _⟩ dX5_bestPaper_111 (fun S_111 H locs hq hH => ?_)
                obtain rfl := hq
                simp only [zM_M, zM_0, zM_1, zM_2, zM_3, zM_4, zM_5, zM_6] at hH
                refine lv_iinc (v := zI (g + 1)) (lv' := [(4, .int (zI (g + 1))), (3, .int (zI d)), (2, .int (zI b)), (1, .int (zI g)), (7, .int (zI 1)), (6, .int (zI (tGC (S 9 1) g))), (5, .int (zI (tGR (S 9 1) g))), (0, .ref (za G 9 0))]) hx hb dX5_bestPaper_114 hl (k := 7) rfl (zI_add _ _) (by decide) rfl (fun ls hl => ?_)
                refine lv_goto (tgt := 13) hx hb dX5_bestPaper_117 (by decide) ?_
                exact ih13 (g + 1) g b d M_43 L_29 _ _ _ (by omega) (by omega) (by rw [tBg_s _ hg.1]; obtain ⟨h1, h2, h3⟩ := hab; first | (rw [if_pos (by omega)]; exact ⟨rfl, rfl, rfl⟩) | (rw [if_neg (by omega)]; exact ⟨h1, h2, h3⟩) | (exfalso; omega)) hH (lv_sub hl [7, 3, 2, 1, 0] rfl)
              · refine lv_iload hx hb dX5_bestPaper_103 (lv_at hl 3 rfl) ?_
                refine lv_goto (tgt := 109) hx hb dX5_bestPaper_105 (by decide) ?_
                refine lv_istore_n (lv' := [(3, .int (zI (tGC (S 9 1) g))), (2, .int (zI b)), (1, .int (zI g)), (7, .int (zI 1)), (6, .int (zI (tGC (S 9 1) g))), (5, .int (zI (tGR (S 9 1) g))), (0, .ref (za G 9 0)), (4, .int (zI g))]) hx hb dX5_bestPaper_109 rfl hl (by decide) rfl (fun ls hl => ?_)
                refine lv_aload_n hx hb dX5_bestPaper_110 rfl (lv_at hl 6 rfl) ?_
                refine zcVv h hH (zr_5 h hH) (As := []) (rest := []) (c_X5_putBack l G hG (zMo S (S 9 0) (tPlan (zup (S 9 1) (1) g)) (S 9 1) (S 9 3) (S 9 4) M_43 L_29)) zce_X5_putBack zcv_X5_putBack zm_X5_197 hl.1 rfl rfl ⟨rfl, rfl⟩ ⟨Nat.le_of_ble_eq_true rfl, Nat.le_of_ble_eq_true rfl⟩ (Nat.le_of_ble_eq_true rfl) ⟨Nat.zero_le _, Nat.zero_le _⟩ dX5_bestPaper_111 (fun S_111 H locs hq hH => ?_)
                obtain rfl := hq
                simp only [zM_M, zM_0, zM_1, zM_2, zM_3, zM_4, zM_5, zM_6] at hH
                refine lv_iinc (v := zI (g + 1)) (lv' := [(4, .int (zI (g + 1))), (3, .int (zI (tGC (S 9 1) g))), (2, .int (zI b)), (1, .int (zI g)), (7, .int (zI 1)), (6, .int (zI (tGC (S 9 1) g))), (5, .int (zI (tGR (S 9 1) g))), (0, .ref (za G 9 0))]) hx hb dX5_bestPaper_114 hl (k := 7) rfl (zI_add _ _) (by decide) rfl (fun ls hl => ?_)
                refine lv_goto (tgt := 13) hx hb dX5_bestPaper_117 (by decide) ?_
                exact ih13 (g + 1) g b (tGC (S 9 1) g) M_43 L_29 _ _ _ (by omega) (by omega) (by rw [tBg_s _ hg.1]; obtain ⟨h1, h2, h3⟩ := hab; first | (rw [if_pos (by omega)]; exact ⟨rfl, rfl, rfl⟩) | (rw [if_neg (by omega)]; exact ⟨h1, h2, h3⟩) | (exfalso; omega)) hH (lv_sub hl [7, 3, 2, 1, 0] rfl)
            · refine lv_iload hx hb dX5_bestPaper_91 (lv_at hl 3 rfl) ?_
              refine lv_goto (tgt := 97) hx hb dX5_bestPaper_93 (by decide) ?_
              refine lv_istore_n (lv' := [(2, .int (zI (tGR (S 9 1) g))), (1, .int (zI g)), (7, .int (zI 1)), (6, .int (zI (tGC (S 9 1) g))), (5, .int (zI (tGR (S 9 1) g))), (0, .ref (za G 9 0)), (3, .int (zI d)), (4, .int (zI g))]) hx hb dX5_bestPaper_97 rfl hl (by decide) rfl (fun ls hl => ?_)
              refine lv_iload hx hb dX5_bestPaper_98 (lv_at hl 2 rfl) ?_
              refine zb_ieq (tgt := 108) h (by omega) dX5_bestPaper_100 (by decide) (fun c_100 => ?_) (fun c_100 => ?_)
              · refine lv_iload_n hx hb dX5_bestPaper_108 rfl (lv_at hl 6 rfl) ?_
                refine lv_istore_n (lv' := [(3, .int (zI d)), (2, .int (zI (tGR (S 9 1) g))), (1, .int (zI g)), (7, .int (zI 1)), (6, .int (zI (tGC (S 9 1) g))), (5, .int (zI (tGR (S 9 1) g))), (0, .ref (za G 9 0)), (4, .int (zI g))]) hx hb dX5_bestPaper_109 rfl hl (by decide) rfl (fun ls hl => ?_)
                refine lv_aload_n hx hb dX5_bestPaper_110 rfl (lv_at hl 6 rfl) ?_
                refine zcVv h hH (zr_5 h hH) (As := []) (rest := []) (c_X5_putBack l G hG (zMo S (S 9 0) (tPlan (zup (S 9 1) (1) g)) (S 9 1) (S 9 3) (S 9 4) M_43 L_29)) zce_X5_putBack zcv_X5_putBack zm_X5_197 hl.1 rfl rfl ⟨rfl, rfl⟩ ⟨Nat.le_of_ble_eq_true rfl, Nat.le_of_ble_eq_true rfl⟩ (Nat.le_of_ble_eq_true rfl) ⟨Nat.zero_le _, Nat.zero_le _⟩ dX5_bestPaper_111 (fun S_111 H locs hq hH => ?_)
                obtain rfl := hq
                simp only [zM_M, zM_0, zM_1, zM_2, zM_3, zM_4, zM_5, zM_6] at hH
                refine lv_iinc (v := zI (g + 1)) (lv' := [(4, .int (zI (g + 1))), (3, .int (zI d)), (2, .int (zI (tGR (S 9 1) g))), (1, .int (zI g)), (7, .int (zI 1)), (6, .int (zI (tGC (S 9 1) g))), (5, .int (zI (tGR (S 9 1) g))), (0, .ref (za G 9 0))]) hx hb dX5_bestPaper_114 hl (k := 7) rfl (zI_add _ _) (by decide) rfl (fun ls hl => ?_)
                refine lv_goto (tgt := 13) hx hb dX5_bestPaper_117 (by decide) ?_
                exact ih13 (g + 1) g (tGR (S 9 1) g) d M_43 L_29 _ _ _ (by omega) (by omega) (by rw [tBg_s _ hg.1]; obtain ⟨h1, h2, h3⟩ := hab; first | (rw [if_pos (by omega)]; exact ⟨rfl, rfl, rfl⟩) | (rw [if_neg (by omega)]; exact ⟨h1, h2, h3⟩) | (exfalso; omega)) hH (lv_sub hl [7, 3, 2, 1, 0] rfl)
              · refine lv_iload hx hb dX5_bestPaper_103 (lv_at hl 3 rfl) ?_
                refine lv_goto (tgt := 109) hx hb dX5_bestPaper_105 (by decide) ?_
                refine lv_istore_n (lv' := [(3, .int (zI (tGC (S 9 1) g))), (2, .int (zI (tGR (S 9 1) g))), (1, .int (zI g)), (7, .int (zI 1)), (6, .int (zI (tGC (S 9 1) g))), (5, .int (zI (tGR (S 9 1) g))), (0, .ref (za G 9 0)), (4, .int (zI g))]) hx hb dX5_bestPaper_109 rfl hl (by decide) rfl (fun ls hl => ?_)
                refine lv_aload_n hx hb dX5_bestPaper_110 rfl (lv_at hl 6 rfl) ?_
                refine zcVv h hH (zr_5 h hH) (As := []) (rest := []) (c_X5_putBack l G hG (zMo S (S 9 0) (tPlan (zup (S 9 1) (1) g)) (S 9 1) (S 9 3) (S 9 4) M_43 L_29)) zce_X5_putBack zcv_X5_putBack zm_X5_197 hl.1 rfl rfl ⟨rfl, rfl⟩ ⟨Nat.le_of_ble_eq_true rfl, Nat.le_of_ble_eq_true rfl⟩ (Nat.le_of_ble_eq_true rfl) ⟨Nat.zero_le _, Nat.zero_le _⟩ dX5_bestPaper_111 (fun S_111 H locs hq hH => ?_)
                obtain rfl := hq
                simp only [zM_M, zM_0, zM_1, zM_2, zM_3, zM_4, zM_5, zM_6] at hH
                refine lv_iinc (v := zI (g + 1)) (lv' := [(4, .int (zI (g + 1))), (3, .int (zI (tGC (S 9 1) g))), (2, .int (zI (tGR (S 9 1) g))), (1, .int (zI g)), (7, .int (zI 1)), (6, .int (zI (tGC (S 9 1) g))), (5, .int (zI (tGR (S 9 1) g))), (0, .ref (za G 9 0))]) hx hb dX5_bestPaper_114 hl (k := 7) rfl (zI_add _ _) (by decide) rfl (fun ls hl => ?_)
                refine lv_goto (tgt := 13) hx hb dX5_bestPaper_117 (by decide) ?_
                exact ih13 (g + 1) g (tGR (S 9 1) g) (tGC (S 9 1) g) M_43 L_29 _ _ _ (by omega) (by omega) (by rw [tBg_s _ hg.1]; obtain ⟨h1, h2, h3⟩ := hab; first | (rw [if_pos (by omega)]; exact ⟨rfl, rfl, rfl⟩) | (rw [if_neg (by omega)]; exact ⟨h1, h2, h3⟩) | (exfalso; omega)) hH (lv_sub hl [7, 3, 2, 1, 0] rfl)
        · refine lv_iload hx hb dX5_bestPaper_55 (lv_at hl 1 rfl) ?_
          refine lv_iload_n hx hb dX5_bestPaper_57 rfl (lv_at hl 4 rfl) ?_
          refine zb_cne (tgt := 71) h (by omega) (by omega) dX5_bestPaper_58 (by decide) (fun c_58 => ?_) (fun c_58 => ?_)
          · refine zb_ic h dX5_bestPaper_71 ?_
            refine lv_istore (lv' := [(7, .int (zI 0)), (6, .int (zI (tGC (S 9 1) g))), (5, .int (zI (tGR (S 9 1) g))), (0, .ref (za G 9 0)), (1, .int (zI a)), (2, .int (zI b)), (3, .int (zI d)), (4, .int (zI g))]) hx hb dX5_bestPaper_72 hl (by decide) rfl (fun ls hl => ?_)
            refine lv_iload hx hb dX5_bestPaper_74 (lv_at hl 0 rfl) ?_
            refine zb_ieq (tgt := 84) h (by omega) dX5_bestPaper_76 (by decide) (fun c_76 => ?_) (fun c_76 => ?_)
            · refine lv_iload_n hx hb dX5_bestPaper_84 rfl (lv_at hl 4 rfl) ?_
              refine lv_istore_n (lv' := [(1, .int (zI a)), (7, .int (zI 0)), (6, .int (zI (tGC (S 9 1) g))), (5, .int (zI (tGR (S 9 1) g))), (0, .ref (za G 9 0)), (2, .int (zI b)), (3, .int (zI d)), (4, .int (zI g))]) hx hb dX5_bestPaper_85 rfl hl (by decide) rfl (fun ls hl => ?_)
              refine lv_iload hx hb dX5_bestPaper_86 (lv_at hl 1 rfl) ?_
              refine zb_ieq (tgt := 96) h (by omega) dX5_bestPaper_88 (by decide) (fun c_88 => ?_) (fun c_88 => ?_)
              · refine lv_iload_n hx hb dX5_bestPaper_96 rfl (lv_at hl 5 rfl) ?_
                refine lv_istore_n (lv' := [(2, .int (zI b)), (1, .int (zI a)), (7, .int (zI 0)), (6, .int (zI (tGC (S 9 1) g))), (5, .int (zI (tGR (S 9 1) g))), (0, .ref (za G 9 0)), (3, .int (zI d)), (4, .int (zI g))]) hx hb dX5_bestPaper_97 rfl hl (by decide) rfl (fun ls hl => ?_)
                refine lv_iload hx hb dX5_bestPaper_98 (lv_at hl 2 rfl) ?_
                refine zb_ieq (tgt := 108) h (by omega) dX5_bestPaper_100 (by decide) (fun c_100 => ?_) (fun c_100 => ?_)
                · refine lv_iload_n hx hb dX5_bestPaper_108 rfl (lv_at hl 6 rfl) ?_
                  refine lv_istore_n (lv' := [(3, .int (zI d)), (2, .int (zI b)), (1, .int (zI a)), (7, .int (zI 0)), (6, .int (zI (tGC (S 9 1) g))), (5, .int (zI (tGR (S 9 1) g))), (0, .ref (za G 9 0)), (4, .int (zI g))]) hx hb dX5_bestPaper_109 rfl hl (by decide) rfl (fun ls hl => ?_)
                  refine lv_aload_n hx hb dX5_bestPaper_110 rfl (lv_at hl 6 rfl) ?_
                  refine zcVv h hH (zr_5 h hH) (As := []) (rest := []) (c_X5_putBack l G hG (zMo S (S 9 0) (tPlan (zup (S 9 1) (1) g)) (S 9 1) (S 9 3) (S 9 4) M_43 L_29)) zce_X5_putBack zcv_X5_putBack zm_X5_197 hl.1 rfl rfl ⟨rfl, rfl⟩ ⟨Nat.le_of_ble_eq_true rfl, Nat.le_of_ble_eq_true rfl⟩ (Nat.le_of_ble_eq_true rfl) ⟨Nat.zero_le _, Nat.zero_le _⟩ dX5_bestPaper_111 (fun S_111 H locs hq hH => ?_)
                  obtain rfl := hq
                  simp only [zM_M, zM_0, zM_1, zM_2, zM_3, zM_4, zM_5, zM_6] at hH
                  refine lv_iinc (v := zI (g + 1)) (lv' := [(4, .int (zI (g + 1))), (3, .int (zI d)), (2, .int (zI b)), (1, .int (zI a)), (7, .int (zI 0)), (6, .int (zI (tGC (S 9 1) g))), (5, .int (zI (tGR (S 9 1) g))), (0, .ref (za G 9 0))]) hx hb dX5_bestPaper_114 hl (k := 7) rfl (zI_add _ _) (by decide) rfl (fun ls hl => ?_)
                  refine lv_goto (tgt := 13) hx hb dX5_bestPaper_117 (by decide) ?_
                  exact ih13 (g + 1) a b d M_43 L_29 _ _ _ (by omega) (by omega) (by rw [tBg_s _ hg.1]; obtain ⟨h1, h2, h3⟩ := hab; first | (rw [if_pos (by omega)]; exact ⟨rfl, rfl, rfl⟩) | (rw [if_neg (by omega)]; exact ⟨h1, h2, h3⟩) | (exfalso; omega)) hH (lv_sub hl [7, 3, 2, 1, 0] rfl)
                · refine lv_iload hx hb dX5_bestPaper_103 (lv_at hl 3 rfl) ?_
                  refine lv_goto (tgt := 109) hx hb dX5_bestPaper_105 (by decide) ?_
                  refine lv_istore_n (lv' := [(3, .int (zI (tGC (S 9 1) g))), (2, .int (zI b)), (1, .int (zI a)), (7, .int (zI 0)), (6, .int (zI (tGC (S 9 1) g))), (5, .int (zI (tGR (S 9 1) g))), (0, .ref (za G 9 0)), (4, .int (zI g))]) hx hb dX5_bestPaper_109 rfl hl (by decide) rfl (fun ls hl => ?_)
                  refine lv_aload_n hx hb dX5_bestPaper_110 rfl (lv_at hl 6 rfl) ?_
                  refine zcVv h hH (zr_5 h hH) (As := []) (rest := []) (c_X5_putBack l G hG (zMo S (S 9 0) (tPlan (zup (S 9 1) (1) g)) (S 9 1) (S 9 3) (S 9 4) M_43 L_29)) zce_X5_putBack zcv_X5_putBack zm_X5_197 hl.1 rfl rfl ⟨rfl, rfl⟩ ⟨Nat.le_of_ble_eq_true rfl, Nat.le_of_ble_eq_true rfl⟩ (Nat.le_of_ble_eq_true rfl) ⟨Nat.zero_le _, Nat.zero_le _⟩ dX5_bestPaper_111 (fun S_111 H locs hq hH => ?_)
                  obtain rfl := hq
                  simp only [zM_M, zM_0, zM_1, zM_2, zM_3, zM_4, zM_5, zM_6] at hH
                  refine lv_iinc (v := zI (g + 1)) (lv' := [(4, .int (zI (g + 1))), (3, .int (zI (tGC (S 9 1) g))), (2, .int (zI b)), (1, .int (zI a)), (7, .int (zI 0)), (6, .int (zI (tGC (S 9 1) g))), (5, .int (zI (tGR (S 9 1) g))), (0, .ref (za G 9 0))]) hx hb dX5_bestPaper_114 hl (k := 7) rfl (zI_add _ _) (by decide) rfl (fun ls hl => ?_)
                  refine lv_goto (tgt := 13) hx hb dX5_bestPaper_117 (by decide) ?_
                  exact ih13 (g + 1) a b (tGC (S 9 1) g) M_43 L_29 _ _ _ (by omega) (by omega) (by rw [tBg_s _ hg.1]; obtain ⟨h1, h2, h3⟩ := hab; first | (rw [if_pos (by omega)]; exact ⟨rfl, rfl, rfl⟩) | (rw [if_neg (by omega)]; exact ⟨h1, h2, h3⟩) | (exfalso; omega)) hH (lv_sub hl [7, 3, 2, 1, 0] rfl)
              · refine lv_iload hx hb dX5_bestPaper_91 (lv_at hl 3 rfl) ?_
                refine lv_goto (tgt := 97) hx hb dX5_bestPaper_93 (by decide) ?_
                refine lv_istore_n (lv' := [(2, .int (zI (tGR (S 9 1) g))), (1, .int (zI a)), (7, .int (zI 0)), (6, .int (zI (tGC (S 9 1) g))), (5, .int (zI (tGR (S 9 1) g))), (0, .ref (za G 9 0)), (3, .int (zI d)), (4, .int (zI g))]) hx hb dX5_bestPaper_97 rfl hl (by decide) rfl (fun ls hl => ?_)
                refine lv_iload hx hb dX5_bestPaper_98 (lv_at hl 2 rfl) ?_
                refine zb_ieq (tgt := 108) h (by omega) dX5_bestPaper_100 (by decide) (fun c_100 => ?_) (fun c_100 => ?_)
                · refine lv_iload_n hx hb dX5_bestPaper_108 rfl (lv_at hl 6 rfl) ?_
                  refine lv_istore_n (lv' := [(3, .int (zI d)), (2, .int (zI (tGR (S 9 1) g))), (1, .int (zI a)), (7, .int (zI 0)), (6, .int (zI (tGC (S 9 1) g))), (5, .int (zI (tGR (S 9 1) g))), (0, .ref (za G 9 0)), (4, .int (zI g))]) hx hb dX5_bestPaper_109 rfl hl (by decide) rfl (fun ls hl => ?_)
                  refine lv_aload_n hx hb dX5_bestPaper_110 rfl (lv_at hl 6 rfl) ?_
                  refine zcVv h hH (zr_5 h hH) (As := []) (rest := []) (c_X5_putBack l G hG (zMo S (S 9 0) (tPlan (zup (S 9 1) (1) g)) (S 9 1) (S 9 3) (S 9 4) M_43 L_29)) zce_X5_putBack zcv_X5_putBack zm_X5_197 hl.1 rfl rfl ⟨rfl, rfl⟩ ⟨Nat.le_of_ble_eq_true rfl, Nat.le_of_ble_eq_true rfl⟩ (Nat.le_of_ble_eq_true rfl) ⟨Nat.zero_le _, Nat.zero_le _⟩ dX5_bestPaper_111 (fun S_111 H locs hq hH => ?_)
                  obtain rfl := hq
                  simp only [zM_M, zM_0, zM_1, zM_2, zM_3, zM_4, zM_5, zM_6] at hH
                  refine lv_iinc (v := zI (g + 1)) (lv' := [(4, .int (zI (g + 1))), (3, .int (zI d)), (2, .int (zI (tGR (S 9 1) g))), (1, .int (zI a)), (7, .int (zI 0)), (6, .int (zI (tGC (S 9 1) g))), (5, .int (zI (tGR (S 9 1) g))), (0, .ref (za G 9 0))]) hx hb dX5_bestPaper_114 hl (k := 7) rfl (zI_add _ _) (by decide) rfl (fun ls hl => ?_)
                  refine lv_goto (tgt := 13) hx hb dX5_bestPaper_117 (by decide) ?_
                  exact ih13 (g + 1) a (tGR (S 9 1) g) d M_43 L_29 _ _ _ (by omega) (by omega) (by rw [tBg_s _ hg.1]; obtain ⟨h1, h2, h3⟩ := hab; first | (rw [if_pos (by omega)]; exact ⟨rfl, rfl, rfl⟩) | (rw [if_neg (by omega)]; exact ⟨h1, h2, h3⟩) | (exfalso; omega)) hH (lv_sub hl [7, 3, 2, 1, 0] rfl)
                · refine lv_iload hx hb dX5_bestPaper_103 (lv_at hl 3 rfl) ?_
                  refine lv_goto (tgt := 109) hx hb dX5_bestPaper_105 (by decide) ?_
                  refine lv_istore_n (lv' := [(3, .int (zI (tGC (S 9 1) g))), (2, .int (zI (tGR (S 9 1) g))), (1, .int (zI a)), (7, .int (zI 0)), (6, .int (zI (tGC (S 9 1) g))), (5, .int (zI (tGR (S 9 1) g))), (0, .ref (za G 9 0)), (4, .int (zI g))]) hx hb dX5_bestPaper_109 rfl hl (by decide) rfl (fun ls hl => ?_)
                  refine lv_aload_n hx hb dX5_bestPaper_110 rfl (lv_at hl 6 rfl) ?_
                  refine zcVv h hH (zr_5 h hH) (As := []) (rest := []) (c_X5_putBack l G hG (zMo S (S 9 0) (tPlan (zup (S 9 1) (1) g)) (S 9 1) (S 9 3) (S 9 4) M_43 L_29)) zce_X5_putBack zcv_X5_putBack zm_X5_197 hl.1 rfl rfl ⟨rfl, rfl⟩ ⟨Nat.le_of_ble_eq_true rfl, Nat.le_of_ble_eq_true rfl⟩ (Nat.le_of_ble_eq_true rfl) ⟨Nat.zero_le _, Nat.zero_le _⟩ dX5_bestPaper_111 (fun S_111 H locs hq hH => ?_)
                  obtain rfl := hq
                  simp only [zM_M, zM_0, zM_1, zM_2, zM_3, zM_4, zM_5, zM_6] at hH
                  refine lv_iinc (v := zI (g + 1)) (lv' := [(4, .int (zI (g + 1))), (3, .int (zI (tGC (S 9 1) g))), (2, .int (zI (tGR (S 9 1) g))), (1, .int (zI a)), (7, .int (zI 0)), (6, .int (zI (tGC (S 9 1) g))), (5, .int (zI (tGR (S 9 1) g))), (0, .ref (za G 9 0))]) hx hb dX5_bestPaper_114 hl (k := 7) rfl (zI_add _ _) (by decide) rfl (fun ls hl => ?_)
                  refine lv_goto (tgt := 13) hx hb dX5_bestPaper_117 (by decide) ?_
                  exact ih13 (g + 1) a (tGR (S 9 1) g) (tGC (S 9 1) g) M_43 L_29 _ _ _ (by omega) (by omega) (by rw [tBg_s _ hg.1]; obtain ⟨h1, h2, h3⟩ := hab; first | (rw [if_pos (by omega)]; exact ⟨rfl, rfl, rfl⟩) | (rw [if_neg (by omega)]; exact ⟨h1, h2, h3⟩) | (exfalso; omega)) hH (lv_sub hl [7, 3, 2, 1, 0] rfl)
            · refine lv_iload hx hb dX5_bestPaper_79 (lv_at hl 7 rfl) ?_
              refine lv_goto (tgt := 85) hx hb dX5_bestPaper_81 (by decide) ?_
              refine lv_istore_n (lv' := [(1, .int (zI g)), (7, .int (zI 0)), (6, .int (zI (tGC (S 9 1) g))), (5, .int (zI (tGR (S 9 1) g))), (0, .ref (za G 9 0)), (2, .int (zI b)), (3, .int (zI d)), (4, .int (zI g))]) hx hb dX5_bestPaper_85 rfl hl (by decide) rfl (fun ls hl => ?_)
              refine lv_iload hx hb dX5_bestPaper_86 (lv_at hl 1 rfl) ?_
              refine zb_ieq (tgt := 96) h (by omega) dX5_bestPaper_88 (by decide) (fun c_88 => ?_) (fun c_88 => ?_)
              · refine lv_iload_n hx hb dX5_bestPaper_96 rfl (lv_at hl 5 rfl) ?_
                refine lv_istore_n (lv' := [(2, .int (zI b)), (1, .int (zI g)), (7, .int (zI 0)), (6, .int (zI (tGC (S 9 1) g))), (5, .int (zI (tGR (S 9 1) g))), (0, .ref (za G 9 0)), (3, .int (zI d)), (4, .int (zI g))]) hx hb dX5_bestPaper_97 rfl hl (by decide) rfl (fun ls hl => ?_)
                refine lv_iload hx hb dX5_bestPaper_98 (lv_at hl 2 rfl) ?_
                refine zb_ieq (tgt := 108) h (by omega) dX5_bestPaper_100 (by decide) (fun c_100 => ?_) (fun c_100 => ?_)
                · refine lv_iload_n hx hb dX5_bestPaper_108 rfl (lv_at hl 6 rfl) ?_
                  refine lv_istore_n (lv' := [(3, .int (zI d)), (2, .int (zI b)), (1, .int (zI g)), (7, .int (zI 0)), (6, .int (zI (tGC (S 9 1) g))), (5, .int (zI (tGR (S 9 1) g))), (0, .ref (za G 9 0)), (4, .int (zI g))]) hx hb dX5_bestPaper_109 rfl hl (by decide) rfl (fun ls hl => ?_)
                  refine lv_aload_n hx hb dX5_bestPaper_110 rfl (lv_at hl 6 rfl) ?_
                  refine zcVv h hH (zr_5 h hH) (As := []) (rest := []) (c_X5_putBack l G hG (zMo S (S 9 0) (tPlan (zup (S 9 1) (1) g)) (S 9 1) (S 9 3) (S 9 4) M_43 L_29)) zce_X5_putBack zcv_X5_putBack zm_X5_197 hl.1 rfl rfl ⟨rfl, rfl⟩ ⟨Nat.le_of_ble_eq_true rfl, Nat.le_of_ble_eq_true rfl⟩ (Nat.le_of_ble_eq_true rfl) ⟨Nat.zero_le _, Nat.zero_le _⟩ dX5_bestPaper_111 (fun S_111 H locs hq hH => ?_)
                  obtain rfl := hq
                  simp only [zM_M, zM_0, zM_1, zM_2, zM_3, zM_4, zM_5, zM_6] at hH
                  refine lv_iinc (v := zI (g + 1)) (lv' := [(4, .int (zI (g + 1))), (3, .int (zI d)), (2, .int (zI b)), (1, .int (zI g)), (7, .int (zI 0)), (6, .int (zI (tGC (S 9 1) g))), (5, .int (zI (tGR (S 9 1) g))), (0, .ref (za G 9 0))]) hx hb dX5_bestPaper_114 hl (k := 7) rfl (zI_add _ _) (by decide) rfl (fun ls hl => ?_)
                  refine lv_goto (tgt := 13) hx hb dX5_bestPaper_117 (by decide) ?_
                  exact ih13 (g + 1) g b d M_43 L_29 _ _ _ (by omega) (by omega) (by rw [tBg_s _ hg.1]; obtain ⟨h1, h2, h3⟩ := hab; first | (rw [if_pos (by omega)]; exact ⟨rfl, rfl, rfl⟩) | (rw [if_neg (by omega)]; exact ⟨h1, h2, h3⟩) | (exfalso; omega)) hH (lv_sub hl [7, 3, 2, 1, 0] rfl)
                · refine lv_iload hx hb dX5_bestPaper_103 (lv_at hl 3 rfl) ?_
                  refine lv_goto (tgt := 109) hx hb dX5_bestPaper_105 (by decide) ?_
                  refine lv_istore_n (lv' := [(3, .int (zI (tGC (S 9 1) g))), (2, .int (zI b)), (1, .int (zI g)), (7, .int (zI 0)), (6, .int (zI (tGC (S 9 1) g))), (5, .int (zI (tGR (S 9 1) g))), (0, .ref (za G 9 0)), (4, .int (zI g))]) hx hb dX5_bestPaper_109 rfl hl (by decide) rfl (fun ls hl => ?_)
                  refine lv_aload_n hx hb dX5_bestPaper_110 rfl (lv_at hl 6 rfl) ?_
                  refine zcVv h hH (zr_5 h hH) (As := []) (rest := []) (c_X5_putBack l G hG (zMo S (S 9 0) (tPlan (zup (S 9 1) (1) g)) (S 9 1) (S 9 3) (S 9 4) M_43 L_29)) zce_X5_putBack zcv_X5_putBack zm_X5_197 hl.1 rfl rfl ⟨rfl, rfl⟩ ⟨Nat.le_of_ble_eq_true rfl, Nat.le_of_ble_eq_true rfl⟩ (Nat.le_of_ble_eq_true rfl) ⟨Nat.zero_le _, Nat.zero_le _⟩ dX5_bestPaper_111 (fun S_111 H locs hq hH => ?_)
                  obtain rfl := hq
                  simp only [zM_M, zM_0, zM_1, zM_2, zM_3, zM_4, zM_5, zM_6] at hH
                  refine lv_iinc (v := zI (g + 1)) (lv' := [(4, .int (zI (g + 1))), (3, .int (zI (tGC (S 9 1) g))), (2, .int (zI b)), (1, .int (zI g)), (7, .int (zI 0)), (6, .int (zI (tGC (S 9 1) g))), (5, .int (zI (tGR (S 9 1) g))), (0, .ref (za G 9 0))]) hx hb dX5_bestPaper_114 hl (k := 7) rfl (zI_add _ _) (by decide) rfl (fun ls hl => ?_)
                  refine lv_goto (tgt := 13) hx hb dX5_bestPaper_117 (by decide) ?_
                  exact ih13 (g + 1) g b (tGC (S 9 1) g) M_43 L_29 _ _ _ (by omega) (by omega) (by rw [tBg_s _ hg.1]; obtain ⟨h1, h2, h3⟩ := hab; first | (rw [if_pos (by omega)]; exact ⟨rfl, rfl, rfl⟩) | (rw [if_neg (by omega)]; exact ⟨h1, h2, h3⟩) | (exfalso; omega)) hH (lv_sub hl [7, 3, 2, 1, 0] rfl)
              · refine lv_iload hx hb dX5_bestPaper_91 (lv_at hl 3 rfl) ?_
                refine lv_goto (tgt := 97) hx hb dX5_bestPaper_93 (by decide) ?_
                refine lv_istore_n (lv' := [(2, .int (zI (tGR (S 9 1) g))), (1, .int (zI g)), (7, .int (zI 0)), (6, .int (zI (tGC (S 9 1) g))), (5, .int (zI (tGR (S 9 1) g))), (0, .ref (za G 9 0)), (3, .int (zI d)), (4, .int (zI g))]) hx hb dX5_bestPaper_97 rfl hl (by decide) rfl (fun ls hl => ?_)
                refine lv_iload hx hb dX5_bestPaper_98 (lv_at hl 2 rfl) ?_
                refine zb_ieq (tgt := 108) h (by omega) dX5_bestPaper_100 (by decide) (fun c_100 => ?_) (fun c_100 => ?_)
                · refine lv_iload_n hx hb dX5_bestPaper_108 rfl (lv_at hl 6 rfl) ?_
                  refine lv_istore_n (lv' := [(3, .int (zI d)), (2, .int (zI (tGR (S 9 1) g))), (1, .int (zI g)), (7, .int (zI 0)), (6, .int (zI (tGC (S 9 1) g))), (5, .int (zI (tGR (S 9 1) g))), (0, .ref (za G 9 0)), (4, .int (zI g))]) hx hb dX5_bestPaper_109 rfl hl (by decide) rfl (fun ls hl => ?_)
                  refine lv_aload_n hx hb dX5_bestPaper_110 rfl (lv_at hl 6 rfl) ?_
                  refine zcVv h hH (zr_5 h hH) (As := []) (rest := []) (c_X5_putBack l G hG (zMo S (S 9 0) (tPlan (zup (S 9 1) (1) g)) (S 9 1) (S 9 3) (S 9 4) M_43 L_29)) zce_X5_putBack zcv_X5_putBack zm_X5_197 hl.1 rfl rfl ⟨rfl, rfl⟩ ⟨Nat.le_of_ble_eq_true rfl, Nat.le_of_ble_eq_true rfl⟩ (Nat.le_of_ble_eq_true rfl) ⟨Nat.zero_le _, Nat.zero_le _⟩ dX5_bestPaper_111 (fun S_111 H locs hq hH => ?_)
                  obtain rfl := hq
                  simp only [zM_M, zM_0, zM_1, zM_2, zM_3, zM_4, zM_5, zM_6] at hH
                  refine lv_iinc (v := zI (g + 1)) (lv' := [(4, .int (zI (g + 1))), (3, .int (zI d)), (2, .int (zI (tGR (S 9 1) g))), (1, .int (zI g)), (7, .int (zI 0)), (6, .int (zI (tGC (S 9 1) g))), (5, .int (zI (tGR (S 9 1) g))), (0, .ref (za G 9 0))]) hx hb dX5_bestPaper_114 hl (k := 7) rfl (zI_add _ _) (by decide) rfl (fun ls hl => ?_)
                  refine lv_goto (tgt := 13) hx hb dX5_bestPaper_117 (by decide) ?_
                  exact ih13 (g + 1) g (tGR (S 9 1) g) d M_43 L_29 _ _ _ (by omega) (by omega) (by rw [tBg_s _ hg.1]; obtain ⟨h1, h2, h3⟩ := hab; first | (rw [if_pos (by omega)]; exact ⟨rfl, rfl, rfl⟩) | (rw [if_neg (by omega)]; exact ⟨h1, h2, h3⟩) | (exfalso; omega)) hH (lv_sub hl [7, 3, 2, 1, 0] rfl)
                · refine lv_iload hx hb dX5_bestPaper_103 (lv_at hl 3 rfl) ?_
                  refine lv_goto (tgt := 109) hx hb dX5_bestPaper_105 (by decide) ?_
                  refine lv_istore_n (lv' := [(3, .int (zI (tGC (S 9 1) g))), (2, .int (zI (tGR (S 9 1) g))), (1, .int (zI g)), (7, .int (zI 0)), (6, .int (zI (tGC (S 9 1) g))), (5, .int (zI (tGR (S 9 1) g))), (0, .ref (za G 9 0)), (4, .int (zI g))]) hx hb dX5_bestPaper_109 rfl hl (by decide) rfl (fun ls hl => ?_)
                  refine lv_aload_n hx hb dX5_bestPaper_110 rfl (lv_at hl 6 rfl) ?_
                  refine zcVv h hH (zr_5 h hH) (As := []) (rest := []) (c_X5_putBack l G hG (zMo S (S 9 0) (tPlan (zup (S 9 1) (1) g)) (S 9 1) (S 9 3) (S 9 4) M_43 L_29)) zce_X5_putBack zcv_X5_putBack zm_X5_197 hl.1 rfl rfl ⟨rfl, rfl⟩ ⟨Nat.le_of_ble_eq_true rfl, Nat.le_of_ble_eq_true rfl⟩ (Nat.le_of_ble_eq_true rfl) ⟨Nat.zero_le _, Nat.zero_le _⟩ dX5_bestPaper_111 (fun S_111 H locs hq hH => ?_)
                  obtain rfl := hq
                  simp only [zM_M, zM_0, zM_1, zM_2, zM_3, zM_4, zM_5, zM_6] at hH
                  refine lv_iinc (v := zI (g + 1)) (lv' := [(4, .int (zI (g + 1))), (3, .int (zI (tGC (S 9 1) g))), (2, .int (zI (tGR (S 9 1) g))), (1, .int (zI g)), (7, .int (zI 0)), (6, .int (zI (tGC (S 9 1) g))), (5, .int (zI (tGR (S 9 1) g))), (0, .ref (za G 9 0))]) hx hb dX5_bestPaper_114 hl (k := 7) rfl (zI_add _ _) (by decide) rfl (fun ls hl => ?_)
                  refine lv_goto (tgt := 13) hx hb dX5_bestPaper_117 (by decide) ?_
                  exact ih13 (g + 1) g (tGR (S 9 1) g) (tGC (S 9 1) g) M_43 L_29 _ _ _ (by omega) (by omega) (by rw [tBg_s _ hg.1]; obtain ⟨h1, h2, h3⟩ := hab; first | (rw [if_pos (by omega)]; exact ⟨rfl, rfl, rfl⟩) | (rw [if_neg (by omega)]; exact ⟨h1, h2, h3⟩) | (exfalso; omega)) hH (lv_sub hl [7, 3, 2, 1, 0] rfl)
          · refine lv_iload hx hb dX5_bestPaper_61 (lv_at hl 0 rfl) ?_
            refine lv_iload_n hx hb dX5_bestPaper_63 rfl (lv_at hl 5 rfl) ?_
            refine zb_cge (tgt := 71) h (by omega) (by omega) dX5_bestPaper_64 (by decide) (fun c_64 => ?_) (fun c_64 => ?_)
            · refine zb_ic h dX5_bestPaper_71 ?_
              refine lv_istore (lv' := [(7, .int (zI 0)), (6, .int (zI (tGC (S 9 1) g))), (5, .int (zI (tGR (S 9 1) g))), (0, .ref (za G 9 0)), (1, .int (zI a)), (2, .int (zI b)), (3, .int (zI d)), (4, .int (zI g))]) hx hb dX5_bestPaper_72 hl (by decide) rfl (fun ls hl => ?_)
              refine lv_iload hx hb dX5_bestPaper_74 (lv_at hl 0 rfl) ?_
              refine zb_ieq (tgt := 84) h (by omega) dX5_bestPaper_76 (by decide) (fun c_76 => ?_) (fun c_76 => ?_)
              · refine lv_iload_n hx hb dX5_bestPaper_84 rfl (lv_at hl 4 rfl) ?_
                refine lv_istore_n (lv' := [(1, .int (zI a)), (7, .int (zI 0)), (6, .int (zI (tGC (S 9 1) g))), (5, .int (zI (tGR (S 9 1) g))), (0, .ref (za G 9 0)), (2, .int (zI b)), (3, .int (zI d)), (4, .int (zI g))]) hx hb dX5_bestPaper_85 rfl hl (by decide) rfl (fun ls hl => ?_)
                refine lv_iload hx hb dX5_bestPaper_86 (lv_at hl 1 rfl) ?_
                refine zb_ieq (tgt := 96) h (by omega) dX5_bestPaper_88 (by decide) (fun c_88 => ?_) (fun c_88 => ?_)
                · refine lv_iload_n hx hb dX5_bestPaper_96 rfl (lv_at hl 5 rfl) ?_
                  refine lv_istore_n (lv' := [(2, .int (zI b)), (1, .int (zI a)), (7, .int (zI 0)), (6, .int (zI (tGC (S 9 1) g))), (5, .int (zI (tGR (S 9 1) g))), (0, .ref (za G 9 0)), (3, .int (zI d)), (4, .int (zI g))]) hx hb dX5_bestPaper_97 rfl hl (by decide) rfl (fun ls hl => ?_)
                  refine lv_iload hx hb dX5_bestPaper_98 (lv_at hl 2 rfl) ?_
                  refine zb_ieq (tgt := 108) h (by omega) dX5_bestPaper_100 (by decide) (fun c_100 => ?_) (fun c_100 => ?_)
                  · refine lv_iload_n hx hb dX5_bestPaper_108 rfl (lv_at hl 6 rfl) ?_
                    refine lv_istore_n (lv' := [(3, .int (zI d)), (2, .int (zI b)), (1, .int (zI a)), (7, .int (zI 0)), (6, .int (zI (tGC (S 9 1) g))), (5, .int (zI (tGR (S 9 1) g))), (0, .ref (za G 9 0)), (4, .int (zI g))]) hx hb dX5_bestPaper_109 rfl hl (by decide) rfl (fun ls hl => ?_)
                    refine lv_aload_n hx hb dX5_bestPaper_110 rfl (lv_at hl 6 rfl) ?_
                    refine zcVv h hH (zr_5 h hH) (As := []) (rest := []) (c_X5_putBack l G hG (zMo S (S 9 0) (tPlan (zup (S 9 1) (1) g)) (S 9 1) (S 9 3) (S 9 4) M_43 L_29)) zce_X5_putBack zcv_X5_putBack zm_X5_197 hl.1 rfl rfl ⟨rfl, rfl⟩ ⟨Nat.le_of_ble_eq_true rfl, Nat.le_of_ble_eq_true rfl⟩ (Nat.le_of_ble_eq_true rfl) ⟨Nat.zero_le _, Nat.zero_le _⟩ dX5_bestPaper_111 (fun S_111 H locs hq hH => ?_)
                    obtain rfl := hq
                    simp only [zM_M, zM_0, zM_1, zM_2, zM_3, zM_4, zM_5, zM_6] at hH
                    refine lv_iinc (v := zI (g + 1)) (lv' := [(4, .int (zI (g + 1))), (3, .int (zI d)), (2, .int (zI b)), (1, .int (zI a)), (7, .int (zI 0)), (6, .int (zI (tGC (S 9 1) g))), (5, .int (zI (tGR (S 9 1) g))), (0, .ref (za G 9 0))]) hx hb dX5_bestPaper_114 hl (k := 7) rfl (zI_add _ _) (by decide) rfl (fun ls hl => ?_)
                    refine lv_goto (tgt := 13) hx hb dX5_bestPaper_117 (by decide) ?_
                    exact ih13 (g + 1) a b d M_43 L_29 _ _ _ (by omega) (by omega) (by rw [tBg_s _ hg.1]; obtain ⟨h1, h2, h3⟩ := hab; first | (rw [if_pos (by omega)]; exact ⟨rfl, rfl, rfl⟩) | (rw [if_neg (by omega)]; exact ⟨h1, h2, h3⟩) | (exfalso; omega)) hH (lv_sub hl [7, 3, 2, 1, 0] rfl)
                  · refine lv_iload hx hb dX5_bestPaper_103 (lv_at hl 3 rfl) ?_
                    refine lv_goto (tgt := 109) hx hb dX5_bestPaper_105 (by decide) ?_
                    refine lv_istore_n (lv' := [(3, .int (zI (tGC (S 9 1) g))), (2, .int (zI b)), (1, .int (zI a)), (7, .int (zI 0)), (6, .int (zI (tGC (S 9 1) g))), (5, .int (zI (tGR (S 9 1) g))), (0, .ref (za G 9 0)), (4, .int (zI g))]) hx hb dX5_bestPaper_109 rfl hl (by decide) rfl (fun ls hl => ?_)
                    refine lv_aload_n hx hb dX5_bestPaper_110 rfl (lv_at hl 6 rfl) ?_
                    refine zcVv h hH (zr_5 h hH) (As := []) (rest := []) (c_X5_putBack l G hG (zMo S (S 9 0) (tPlan (zup (S 9 1) (1) g)) (S 9 1) (S 9 3) (S 9 4) M_43 L_29)) zce_X5_putBack zcv_X5_putBack zm_X5_197 hl.1 rfl rfl ⟨rfl, rfl⟩ ⟨Nat.le_of_ble_eq_true rfl, Nat.le_of_ble_eq_true rfl⟩ (Nat.le_of_ble_eq_true rfl) ⟨Nat.zero_le _, Nat.zero_le _⟩ dX5_bestPaper_111 (fun S_111 H locs hq hH => ?_)
                    obtain rfl := hq
                    simp only [zM_M, zM_0, zM_1, zM_2, zM_3, zM_4, zM_5, zM_6] at hH
                    refine lv_iinc (v := zI (g + 1)) (lv' := [(4, .int (zI (g + 1))), (3, .int (zI (tGC (S 9 1) g))), (2, .int (zI b)), (1, .int (zI a)), (7, .int (zI 0)), (6, .int (zI (tGC (S 9 1) g))), (5, .int (zI (tGR (S 9 1) g))), (0, .ref (za G 9 0))]) hx hb dX5_bestPaper_114 hl (k := 7) rfl (zI_add _ _) (by decide) rfl (fun ls hl => ?_)
                    refine lv_goto (tgt := 13) hx hb dX5_bestPaper_117 (by decide) ?_
                    exact ih13 (g + 1) a b (tGC (S 9 1) g) M_43 L_29 _ _ _ (by omega) (by omega) (by rw [tBg_s _ hg.1]; obtain ⟨h1, h2, h3⟩ := hab; first | (rw [if_pos (by omega)]; exact ⟨rfl, rfl, rfl⟩) | (rw [if_neg (by omega)]; exact ⟨h1, h2, h3⟩) | (exfalso; omega)) hH (lv_sub hl [7, 3, 2, 1, 0] rfl)
                · refine lv_iload hx hb dX5_bestPaper_91 (lv_at hl 3 rfl) ?_
                  refine lv_goto (tgt := 97) hx hb dX5_bestPaper_93 (by decide) ?_
                  refine lv_istore_n (lv' := [(2, .int (zI (tGR (S 9 1) g))), (1, .int (zI a)), (7, .int (zI 0)), (6, .int (zI (tGC (S 9 1) g))), (5, .int (zI (tGR (S 9 1) g))), (0, .ref (za G 9 0)), (3, .int (zI d)), (4, .int (zI g))]) hx hb dX5_bestPaper_97 rfl hl (by decide) rfl (fun ls hl => ?_)
                  refine lv_iload hx hb dX5_bestPaper_98 (lv_at hl 2 rfl) ?_
                  refine zb_ieq (tgt := 108) h (by omega) dX5_bestPaper_100 (by decide) (fun c_100 => ?_) (fun c_100 => ?_)
                  · refine lv_iload_n hx hb dX5_bestPaper_108 rfl (lv_at hl 6 rfl) ?_
                    refine lv_istore_n (lv' := [(3, .int (zI d)), (2, .int (zI (tGR (S 9 1) g))), (1, .int (zI a)), (7, .int (zI 0)), (6, .int (zI (tGC (S 9 1) g))), (5, .int (zI (tGR (S 9 1) g))), (0, .ref (za G 9 0)), (4, .int (zI g))]) hx hb dX5_bestPaper_109 rfl hl (by decide) rfl (fun ls hl => ?_)
                    refine lv_aload_n hx hb dX5_bestPaper_110 rfl (lv_at hl 6 rfl) ?_
                    refine zcVv h hH (zr_5 h hH) (As := []) (rest := []) (c_X5_putBack l G hG (zMo S (S 9 0) (tPlan (zup (S 9 1) (1) g)) (S 9 1) (S 9 3) (S 9 4) M_43 L_29)) zce_X5_putBack zcv_X5_putBack zm_X5_197 hl.1 rfl rfl ⟨rfl, rfl⟩ ⟨Nat.le_of_ble_eq_true rfl, Nat.le_of_ble_eq_true rfl⟩ (Nat.le_of_ble_eq_true rfl) ⟨Nat.zero_le _, Nat.zero_le _⟩ dX5_bestPaper_111 (fun S_111 H locs hq hH => ?_)
                    obtain rfl := hq
                    simp only [zM_M, zM_0, zM_1, zM_2, zM_3, zM_4, zM_5, zM_6] at hH
                    refine lv_iinc (v := zI (g + 1)) (lv' := [(4, .int (zI (g + 1))), (3, .int (zI d)), (2, .int (zI (tGR (S 9 1) g))), (1, .int (zI a)), (7, .int (zI 0)), (6, .int (zI (tGC (S 9 1) g))), (5, .int (zI (tGR (S 9 1) g))), (0, .ref (za G 9 0))]) hx hb dX5_bestPaper_114 hl (k := 7) rfl (zI_add _ _) (by decide) rfl (fun ls hl => ?_)
                    refine lv_goto (tgt := 13) hx hb dX5_bestPaper_117 (by decide) ?_
                    exact ih13 (g + 1) a (tGR (S 9 1) g) d M_43 L_29 _ _ _ (by omega) (by omega) (by rw [tBg_s _ hg.1]; obtain ⟨h1, h2, h3⟩ := hab; first | (rw [if_pos (by omega)]; exact ⟨rfl, rfl, rfl⟩) | (rw [if_neg (by omega)]; exact ⟨h1, h2, h3⟩) | (exfalso; omega)) hH (lv_sub hl [7, 3, 2, 1, 0] rfl)
                  · refine lv_iload hx hb dX5_bestPaper_103 (lv_at hl 3 rfl) ?_
                    refine lv_goto (tgt := 109) hx hb dX5_bestPaper_105 (by decide) ?_
                    refine lv_istore_n (lv' := [(3, .int (zI (tGC (S 9 1) g))), (2, .int (zI (tGR (S 9 1) g))), (1, .int (zI a)), (7, .int (zI 0)), (6, .int (zI (tGC (S 9 1) g))), (5, .int (zI (tGR (S 9 1) g))), (0, .ref (za G 9 0)), (4, .int (zI g))]) hx hb dX5_bestPaper_109 rfl hl (by decide) rfl (fun ls hl => ?_)
                    refine lv_aload_n hx hb dX5_bestPaper_110 rfl (lv_at hl 6 rfl) ?_
                    refine zcVv h hH (zr_5 h hH) (As := []) (rest := []) (c_X5_putBack l G hG (zMo S (S 9 0) (tPlan (zup (S 9 1) (1) g)) (S 9 1) (S 9 3) (S 9 4) M_43 L_29)) zce_X5_putBack zcv_X5_putBack zm_X5_197 hl.1 rfl rfl ⟨rfl, rfl⟩ ⟨Nat.le_of_ble_eq_true rfl, Nat.le_of_ble_eq_true rfl⟩ (Nat.le_of_ble_eq_true rfl) ⟨Nat.zero_le _, Nat.zero_le _⟩ dX5_bestPaper_111 (fun S_111 H locs hq hH => ?_)
                    obtain rfl := hq
                    simp only [zM_M, zM_0, zM_1, zM_2, zM_3, zM_4, zM_5, zM_6] at hH
                    refine lv_iinc (v := zI (g + 1)) (lv' := [(4, .int (zI (g + 1))), (3, .int (zI (tGC (S 9 1) g))), (2, .int (zI (tGR (S 9 1) g))), (1, .int (zI a)), (7, .int (zI 0)), (6, .int (zI (tGC (S 9 1) g))), (5, .int (zI (tGR (S 9 1) g))), (0, .ref (za G 9 0))]) hx hb dX5_bestPaper_114 hl (k := 7) rfl (zI_add _ _) (by decide) rfl (fun ls hl => ?_)
                    refine lv_goto (tgt := 13) hx hb dX5_bestPaper_117 (by decide) ?_
                    exact ih13 (g + 1) a (tGR (S 9 1) g) (tGC (S 9 1) g) M_43 L_29 _ _ _ (by omega) (by omega) (by rw [tBg_s _ hg.1]; obtain ⟨h1, h2, h3⟩ := hab; first | (rw [if_pos (by omega)]; exact ⟨rfl, rfl, rfl⟩) | (rw [if_neg (by omega)]; exact ⟨h1, h2, h3⟩) | (exfalso; omega)) hH (lv_sub hl [7, 3, 2, 1, 0] rfl)
              · refine lv_iload hx hb dX5_bestPaper_79 (lv_at hl 7 rfl) ?_
                refine lv_goto (tgt := 85) hx hb dX5_bestPaper_81 (by decide) ?_
                refine lv_istore_n (lv' := [(1, .int (zI g)), (7, .int (zI 0)), (6, .int (zI (tGC (S 9 1) g))), (5, .int (zI (tGR (S 9 1) g))), (0, .ref (za G 9 0)), (2, .int (zI b)), (3, .int (zI d)), (4, .int (zI g))]) hx hb dX5_bestPaper_85 rfl hl (by decide) rfl (fun ls hl => ?_)
                refine lv_iload hx hb dX5_bestPaper_86 (lv_at hl 1 rfl) ?_
                refine zb_ieq (tgt := 96) h (by omega) dX5_bestPaper_88 (by decide) (fun c_88 => ?_) (fun c_88 => ?_)
                · refine lv_iload_n hx hb dX5_bestPaper_96 rfl (lv_at hl 5 rfl) ?_
                  refine lv_istore_n (lv' := [(2, .int (zI b)), (1, .int (zI g)), (7, .int (zI 0)), (6, .int (zI (tGC (S 9 1) g))), (5, .int (zI (tGR (S 9 1) g))), (0, .ref (za G 9 0)), (3, .int (zI d)), (4, .int (zI g))]) hx hb dX5_bestPaper_97 rfl hl (by decide) rfl (fun ls hl => ?_)
                  refine lv_iload hx hb dX5_bestPaper_98 (lv_at hl 2 rfl) ?_
                  refine zb_ieq (tgt := 108) h (by omega) dX5_bestPaper_100 (by decide) (fun c_100 => ?_) (fun c_100 => ?_)
                  · refine lv_iload_n hx hb dX5_bestPaper_108 rfl (lv_at hl 6 rfl) ?_
                    refine lv_istore_n (lv' := [(3, .int (zI d)), (2, .int (zI b)), (1, .int (zI g)), (7, .int (zI 0)), (6, .int (zI (tGC (S 9 1) g))), (5, .int (zI (tGR (S 9 1) g))), (0, .ref (za G 9 0)), (4, .int (zI g))]) hx hb dX5_bestPaper_109 rfl hl (by decide) rfl (fun ls hl => ?_)
                    refine lv_aload_n hx hb dX5_bestPaper_110 rfl (lv_at hl 6 rfl) ?_
                    refine zcVv h hH (zr_5 h hH) (As := []) (rest := []) (c_X5_putBack l G hG (zMo S (S 9 0) (tPlan (zup (S 9 1) (1) g)) (S 9 1) (S 9 3) (S 9 4) M_43 L_29)) zce_X5_putBack zcv_X5_putBack zm_X5_197 hl.1 rfl rfl ⟨rfl, rfl⟩ ⟨Nat.le_of_ble_eq_true rfl, Nat.le_of_ble_eq_true rfl⟩ (Nat.le_of_ble_eq_true rfl) ⟨Nat.zero_le _, Nat.zero_le _⟩ dX5_bestPaper_111 (fun S_111 H locs hq hH => ?_)
                    obtain rfl := hq
                    simp only [zM_M, zM_0, zM_1, zM_2, zM_3, zM_4, zM_5, zM_6] at hH
                    refine lv_iinc (v := zI (g + 1)) (lv' := [(4, .int (zI (g + 1))), (3, .int (zI d)), (2, .int (zI b)), (1, .int (zI g)), (7, .int (zI 0)), (6, .int (zI (tGC (S 9 1) g))), (5, .int (zI (tGR (S 9 1) g))), (0, .ref (za G 9 0))]) hx hb dX5_bestPaper_114 hl (k := 7) rfl (zI_add _ _) (by decide) rfl (fun ls hl => ?_)
                    refine lv_goto (tgt := 13) hx hb dX5_bestPaper_117 (by decide) ?_
                    exact ih13 (g + 1) g b d M_43 L_29 _ _ _ (by omega) (by omega) (by rw [tBg_s _ hg.1]; obtain ⟨h1, h2, h3⟩ := hab; first | (rw [if_pos (by omega)]; exact ⟨rfl, rfl, rfl⟩) | (rw [if_neg (by omega)]; exact ⟨h1, h2, h3⟩) | (exfalso; omega)) hH (lv_sub hl [7, 3, 2, 1, 0] rfl)
                  · refine lv_iload hx hb dX5_bestPaper_103 (lv_at hl 3 rfl) ?_
                    refine lv_goto (tgt := 109) hx hb dX5_bestPaper_105 (by decide) ?_
                    refine lv_istore_n (lv' := [(3, .int (zI (tGC (S 9 1) g))), (2, .int (zI b)), (1, .int (zI g)), (7, .int (zI 0)), (6, .int (zI (tGC (S 9 1) g))), (5, .int (zI (tGR (S 9 1) g))), (0, .ref (za G 9 0)), (4, .int (zI g))]) hx hb dX5_bestPaper_109 rfl hl (by decide) rfl (fun ls hl => ?_)
                    refine lv_aload_n hx hb dX5_bestPaper_110 rfl (lv_at hl 6 rfl) ?_
                    refine zcVv h hH (zr_5 h hH) (As := []) (rest := []) (c_X5_putBack l G hG (zMo S (S 9 0) (tPlan (zup (S 9 1) (1) g)) (S 9 1) (S 9 3) (S 9 4) M_43 L_29)) zce_X5_putBack zcv_X5_putBack zm_X5_197 hl.1 rfl rfl ⟨rfl, rfl⟩ ⟨Nat.le_of_ble_eq_true rfl, Nat.le_of_ble_eq_true rfl⟩ (Nat.le_of_ble_eq_true rfl) ⟨Nat.zero_le _, Nat.zero_le _⟩ dX5_bestPaper_111 (fun S_111 H locs hq hH => ?_)
                    obtain rfl := hq
                    simp only [zM_M, zM_0, zM_1, zM_2, zM_3, zM_4, zM_5, zM_6] at hH
                    refine lv_iinc (v := zI (g + 1)) (lv' := [(4, .int (zI (g + 1))), (3, .int (zI (tGC (S 9 1) g))), (2, .int (zI b)), (1, .int (zI g)), (7, .int (zI 0)), (6, .int (zI (tGC (S 9 1) g))), (5, .int (zI (tGR (S 9 1) g))), (0, .ref (za G 9 0))]) hx hb dX5_bestPaper_114 hl (k := 7) rfl (zI_add _ _) (by decide) rfl (fun ls hl => ?_)
                    refine lv_goto (tgt := 13) hx hb dX5_bestPaper_117 (by decide) ?_
                    exact ih13 (g + 1) g b (tGC (S 9 1) g) M_43 L_29 _ _ _ (by omega) (by omega) (by rw [tBg_s _ hg.1]; obtain ⟨h1, h2, h3⟩ := hab; first | (rw [if_pos (by omega)]; exact ⟨rfl, rfl, rfl⟩) | (rw [if_neg (by omega)]; exact ⟨h1, h2, h3⟩) | (exfalso; omega)) hH (lv_sub hl [7, 3, 2, 1, 0] rfl)
                · refine lv_iload hx hb dX5_bestPaper_91 (lv_at hl 3 rfl) ?_
                  refine lv_goto (tgt := 97) hx hb dX5_bestPaper_93 (by decide) ?_
                  refine lv_istore_n (lv' := [(2, .int (zI (tGR (S 9 1) g))), (1, .int (zI g)), (7, .int (zI 0)), (6, .int (zI (tGC (S 9 1) g))), (5, .int (zI (tGR (S 9 1) g))), (0, .ref (za G 9 0)), (3, .int (zI d)), (4, .int (zI g))]) hx hb dX5_bestPaper_97 rfl hl (by decide) rfl (fun ls hl => ?_)
                  refine lv_iload hx hb dX5_bestPaper_98 (lv_at hl 2 rfl) ?_
                  refine zb_ieq (tgt := 108) h (by omega) dX5_bestPaper_100 (by decide) (fun c_100 => ?_) (fun c_100 => ?_)
                  · refine lv_iload_n hx hb dX5_bestPaper_108 rfl (lv_at hl 6 rfl) ?_
                    refine lv_istore_n (lv' := [(3, .int (zI d)), (2, .int (zI (tGR (S 9 1) g))), (1, .int (zI g)), (7, .int (zI 0)), (6, .int (zI (tGC (S 9 1) g))), (5, .int (zI (tGR (S 9 1) g))), (0, .ref (za G 9 0)), (4, .int (zI g))]) hx hb dX5_bestPaper_109 rfl hl (by decide) rfl (fun ls hl => ?_)
                    refine lv_aload_n hx hb dX5_bestPaper_110 rfl (lv_at hl 6 rfl) ?_
                    refine zcVv h hH (zr_5 h hH) (As := []) (rest := []) (c_X5_putBack l G hG (zMo S (S 9 0) (tPlan (zup (S 9 1) (1) g)) (S 9 1) (S 9 3) (S 9 4) M_43 L_29)) zce_X5_putBack zcv_X5_putBack zm_X5_197 hl.1 rfl rfl ⟨rfl, rfl⟩ ⟨Nat.le_of_ble_eq_true rfl, Nat.le_of_ble_eq_true rfl⟩ (Nat.le_of_ble_eq_true rfl) ⟨Nat.zero_le _, Nat.zero_le _⟩ dX5_bestPaper_111 (fun S_111 H locs hq hH => ?_)
                    obtain rfl := hq
                    simp only [zM_M, zM_0, zM_1, zM_2, zM_3, zM_4, zM_5, zM_6] at hH
                    refine lv_iinc (v := zI (g + 1)) (lv' := [(4, .int (zI (g + 1))), (3, .int (zI d)), (2, .int (zI (tGR (S 9 1) g))), (1, .int (zI g)), (7, .int (zI 0)), (6, .int (zI (tGC (S 9 1) g))), (5, .int (zI (tGR (S 9 1) g))), (0, .ref (za G 9 0))]) hx hb dX5_bestPaper_114 hl (k := 7) rfl (zI_add _ _) (by decide) rfl (fun ls hl => ?_)
                    refine lv_goto (tgt := 13) hx hb dX5_bestPaper_117 (by decide) ?_
                    exact ih13 (g + 1) g (tGR (S 9 1) g) d M_43 L_29 _ _ _ (by omega) (by omega) (by rw [tBg_s _ hg.1]; obtain ⟨h1, h2, h3⟩ := hab; first | (rw [if_pos (by omega)]; exact ⟨rfl, rfl, rfl⟩) | (rw [if_neg (by omega)]; exact ⟨h1, h2, h3⟩) | (exfalso; omega)) hH (lv_sub hl [7, 3, 2, 1, 0] rfl)
                  · refine lv_iload hx hb dX5_bestPaper_103 (lv_at hl 3 rfl) ?_
                    refine lv_goto (tgt := 109) hx hb dX5_bestPaper_105 (by decide) ?_
                    refine lv_istore_n (lv' := [(3, .int (zI (tGC (S 9 1) g))), (2, .int (zI (tGR (S 9 1) g))), (1, .int (zI g)), (7, .int (zI 0)), (6, .int (zI (tGC (S 9 1) g))), (5, .int (zI (tGR (S 9 1) g))), (0, .ref (za G 9 0)), (4, .int (zI g))]) hx hb dX5_bestPaper_109 rfl hl (by decide) rfl (fun ls hl => ?_)
                    refine lv_aload_n hx hb dX5_bestPaper_110 rfl (lv_at hl 6 rfl) ?_
                    refine zcVv h hH (zr_5 h hH) (As := []) (rest := []) (c_X5_putBack l G hG (zMo S (S 9 0) (tPlan (zup (S 9 1) (1) g)) (S 9 1) (S 9 3) (S 9 4) M_43 L_29)) zce_X5_putBack zcv_X5_putBack zm_X5_197 hl.1 rfl rfl ⟨rfl, rfl⟩ ⟨Nat.le_of_ble_eq_true rfl, Nat.le_of_ble_eq_true rfl⟩ (Nat.le_of_ble_eq_true rfl) ⟨Nat.zero_le _, Nat.zero_le _⟩ dX5_bestPaper_111 (fun S_111 H locs hq hH => ?_)
                    obtain rfl := hq
                    simp only [zM_M, zM_0, zM_1, zM_2, zM_3, zM_4, zM_5, zM_6] at hH
                    refine lv_iinc (v := zI (g + 1)) (lv' := [(4, .int (zI (g + 1))), (3, .int (zI (tGC (S 9 1) g))), (2, .int (zI (tGR (S 9 1) g))), (1, .int (zI g)), (7, .int (zI 0)), (6, .int (zI (tGC (S 9 1) g))), (5, .int (zI (tGR (S 9 1) g))), (0, .ref (za G 9 0))]) hx hb dX5_bestPaper_114 hl (k := 7) rfl (zI_add _ _) (by decide) rfl (fun ls hl => ?_)
                    refine lv_goto (tgt := 13) hx hb dX5_bestPaper_117 (by decide) ?_
                    exact ih13 (g + 1) g (tGR (S 9 1) g) (tGC (S 9 1) g) M_43 L_29 _ _ _ (by omega) (by omega) (by rw [tBg_s _ hg.1]; obtain ⟨h1, h2, h3⟩ := hab; first | (rw [if_pos (by omega)]; exact ⟨rfl, rfl, rfl⟩) | (rw [if_neg (by omega)]; exact ⟨h1, h2, h3⟩) | (exfalso; omega)) hH (lv_sub hl [7, 3, 2, 1, 0] rfl)
            · refine zb_ic h dX5_bestPaper_67 ?_
              refine lv_goto (tgt := 72) hx hb dX5_bestPaper_68 (by decide) ?_
              refine lv_istore (lv' := [(7, .int (zI 1)), (6, .int (zI (tGC (S 9 1) g))), (5, .int (zI (tGR (S 9 1) g))), (0, .ref (za G 9 0)), (1, .int (zI a)), (2, .int (zI b)), (3, .int (zI d)), (4, .int (zI g))]) hx hb dX5_bestPaper_72 hl (by decide) rfl (fun ls hl => ?_)
              refine lv_iload hx hb dX5_bestPaper_74 (lv_at hl 0 rfl) ?_
              refine zb_ieq (tgt := 84) h (by omega) dX5_bestPaper_76 (by decide) (fun c_76 => ?_) (fun c_76 => ?_)
              · refine lv_iload_n hx hb dX5_bestPaper_84 rfl (lv_at hl 4 rfl) ?_
                refine lv_istore_n (lv' := [(1, .int (zI a)), (7, .int (zI 1)), (6, .int (zI (tGC (S 9 1) g))), (5, .int (zI (tGR (S 9 1) g))), (0, .ref (za G 9 0)), (2, .int (zI b)), (3, .int (zI d)), (4, .int (zI g))]) hx hb dX5_bestPaper_85 rfl hl (by decide) rfl (fun ls hl => ?_)
                refine lv_iload hx hb dX5_bestPaper_86 (lv_at hl 1 rfl) ?_
                refine zb_ieq (tgt := 96) h (by omega) dX5_bestPaper_88 (by decide) (fun c_88 => ?_) (fun c_88 => ?_)
                · refine lv_iload_n hx hb dX5_bestPaper_96 rfl (lv_at hl 5 rfl) ?_
                  refine lv_istore_n (lv' := [(2, .int (zI b)), (1, .int (zI a)), (7, .int (zI 1)), (6, .int (zI (tGC (S 9 1) g))), (5, .int (zI (tGR (S 9 1) g))), (0, .ref (za G 9 0)), (3, .int (zI d)), (4, .int (zI g))]) hx hb dX5_bestPaper_97 rfl hl (by decide) rfl (fun ls hl => ?_)
                  refine lv_iload hx hb dX5_bestPaper_98 (lv_at hl 2 rfl) ?_
                  refine zb_ieq (tgt := 108) h (by omega) dX5_bestPaper_100 (by decide) (fun c_100 => ?_) (fun c_100 => ?_)
                  · refine lv_iload_n hx hb dX5_bestPaper_108 rfl (lv_at hl 6 rfl) ?_
                    refine lv_istore_n (lv' := [(3, .int (zI d)), (2, .int (zI b)), (1, .int (zI a)), (7, .int (zI 1)), (6, .int (zI (tGC (S 9 1) g))), (5, .int (zI (tGR (S 9 1) g))), (0, .ref (za G 9 0)), (4, .int (zI g))]) hx hb dX5_bestPaper_109 rfl hl (by decide) rfl (fun ls hl => ?_)
                    refine lv_aload_n hx hb dX5_bestPaper_110 rfl (lv_at hl 6 rfl) ?_
                    refine zcVv h hH (zr_5 h hH) (As := []) (rest := []) (c_X5_putBack l G hG (zMo S (S 9 0) (tPlan (zup (S 9 1) (1) g)) (S 9 1) (S 9 3) (S 9 4) M_43 L_29)) zce_X5_putBack zcv_X5_putBack zm_X5_197 hl.1 rfl rfl ⟨rfl, rfl⟩ ⟨Nat.le_of_ble_eq_true rfl, Nat.le_of_ble_eq_true rfl⟩ (Nat.le_of_ble_eq_true rfl) ⟨Nat.zero_le _, Nat.zero_le _⟩ dX5_bestPaper_111 (fun S_111 H locs hq hH => ?_)
                    obtain rfl := hq
                    simp only [zM_M, zM_0, zM_1, zM_2, zM_3, zM_4, zM_5, zM_6] at hH
                    refine lv_iinc (v := zI (g + 1)) (lv' := [(4, .int (zI (g + 1))), (3, .int (zI d)), (2, .int (zI b)), (1, .int (zI a)), (7, .int (zI 1)), (6, .int (zI (tGC (S 9 1) g))), (5, .int (zI (tGR (S 9 1) g))), (0, .ref (za G 9 0))]) hx hb dX5_bestPaper_114 hl (k := 7) rfl (zI_add _ _) (by decide) rfl (fun ls hl => ?_)
                    refine lv_goto (tgt := 13) hx hb dX5_bestPaper_117 (by decide) ?_
                    exact ih13 (g + 1) a b d M_43 L_29 _ _ _ (by omega) (by omega) (by rw [tBg_s _ hg.1]; obtain ⟨h1, h2, h3⟩ := hab; first | (rw [if_pos (by omega)]; exact ⟨rfl, rfl, rfl⟩) | (rw [if_neg (by omega)]; exact ⟨h1, h2, h3⟩) | (exfalso; omega)) hH (lv_sub hl [7, 3, 2, 1, 0] rfl)
                  · refine lv_iload hx hb dX5_bestPaper_103 (lv_at hl 3 rfl) ?_
                    refine lv_goto (tgt := 109) hx hb dX5_bestPaper_105 (by decide) ?_
                    refine lv_istore_n (lv' := [(3, .int (zI (tGC (S 9 1) g))), (2, .int (zI b)), (1, .int (zI a)), (7, .int (zI 1)), (6, .int (zI (tGC (S 9 1) g))), (5, .int (zI (tGR (S 9 1) g))), (0, .ref (za G 9 0)), (4, .int (zI g))]) hx hb dX5_bestPaper_109 rfl hl (by decide) rfl (fun ls hl => ?_)
                    refine lv_aload_n hx hb dX5_bestPaper_110 rfl (lv_at hl 6 rfl) ?_
                    refine zcVv h hH (zr_5 h hH) (As := []) (rest := []) (c_X5_putBack l G hG (zMo S (S 9 0) (tPlan (zup (S 9 1) (1) g)) (S 9 1) (S 9 3) (S 9 4) M_43 L_29)) zce_X5_putBack zcv_X5_putBack zm_X5_197 hl.1 rfl rfl ⟨rfl, rfl⟩ ⟨Nat.le_of_ble_eq_true rfl, Nat.le_of_ble_eq_true rfl⟩ (Nat.le_of_ble_eq_true rfl) ⟨Nat.zero_le _, Nat.zero_le _⟩ dX5_bestPaper_111 (fun S_111 H locs hq hH => ?_)
                    obtain rfl := hq
                    simp only [zM_M, zM_0, zM_1, zM_2, zM_3, zM_4, zM_5, zM_6] at hH
                    refine lv_iinc (v := zI (g + 1)) (lv' := [(4, .int (zI (g + 1))), (3, .int (zI (tGC (S 9 1) g))), (2, .int (zI b)), (1, .int (zI a)), (7, .int (zI 1)), (6, .int (zI (tGC (S 9 1) g))), (5, .int (zI (tGR (S 9 1) g))), (0, .ref (za G 9 0))]) hx hb dX5_bestPaper_114 hl (k := 7) rfl (zI_add _ _) (by decide) rfl (fun ls hl => ?_)
                    refine lv_goto (tgt := 13) hx hb dX5_bestPaper_117 (by decide) ?_
                    exact ih13 (g + 1) a b (tGC (S 9 1) g) M_43 L_29 _ _ _ (by omega) (by omega) (by rw [tBg_s _ hg.1]; obtain ⟨h1, h2, h3⟩ := hab; first | (rw [if_pos (by omega)]; exact ⟨rfl, rfl, rfl⟩) | (rw [if_neg (by omega)]; exact ⟨h1, h2, h3⟩) | (exfalso; omega)) hH (lv_sub hl [7, 3, 2, 1, 0] rfl)
                · refine lv_iload hx hb dX5_bestPaper_91 (lv_at hl 3 rfl) ?_
                  refine lv_goto (tgt := 97) hx hb dX5_bestPaper_93 (by decide) ?_
                  refine lv_istore_n (lv' := [(2, .int (zI (tGR (S 9 1) g))), (1, .int (zI a)), (7, .int (zI 1)), (6, .int (zI (tGC (S 9 1) g))), (5, .int (zI (tGR (S 9 1) g))), (0, .ref (za G 9 0)), (3, .int (zI d)), (4, .int (zI g))]) hx hb dX5_bestPaper_97 rfl hl (by decide) rfl (fun ls hl => ?_)
                  refine lv_iload hx hb dX5_bestPaper_98 (lv_at hl 2 rfl) ?_
                  refine zb_ieq (tgt := 108) h (by omega) dX5_bestPaper_100 (by decide) (fun c_100 => ?_) (fun c_100 => ?_)
                  · refine lv_iload_n hx hb dX5_bestPaper_108 rfl (lv_at hl 6 rfl) ?_
                    refine lv_istore_n (lv' := [(3, .int (zI d)), (2, .int (zI (tGR (S 9 1) g))), (1, .int (zI a)), (7, .int (zI 1)), (6, .int (zI (tGC (S 9 1) g))), (5, .int (zI (tGR (S 9 1) g))), (0, .ref (za G 9 0)), (4, .int (zI g))]) hx hb dX5_bestPaper_109 rfl hl (by decide) rfl (fun ls hl => ?_)
                    refine lv_aload_n hx hb dX5_bestPaper_110 rfl (lv_at hl 6 rfl) ?_
                    refine zcVv h hH (zr_5 h hH) (As := []) (rest := []) (c_X5_putBack l G hG (zMo S (S 9 0) (tPlan (zup (S 9 1) (1) g)) (S 9 1) (S 9 3) (S 9 4) M_43 L_29)) zce_X5_putBack zcv_X5_putBack zm_X5_197 hl.1 rfl rfl ⟨rfl, rfl⟩ ⟨Nat.le_of_ble_eq_true rfl, Nat.le_of_ble_eq_true rfl⟩ (Nat.le_of_ble_eq_true rfl) ⟨Nat.zero_le _, Nat.zero_le _⟩ dX5_bestPaper_111 (fun S_111 H locs hq hH => ?_)
                    obtain rfl := hq
                    simp only [zM_M, zM_0, zM_1, zM_2, zM_3, zM_4, zM_5, zM_6] at hH
                    refine lv_iinc (v := zI (g + 1)) (lv' := [(4, .int (zI (g + 1))), (3, .int (zI d)), (2, .int (zI (tGR (S 9 1) g))), (1, .int (zI a)), (7, .int (zI 1)), (6, .int (zI (tGC (S 9 1) g))), (5, .int (zI (tGR (S 9 1) g))), (0, .ref (za G 9 0))]) hx hb dX5_bestPaper_114 hl (k := 7) rfl (zI_add _ _) (by decide) rfl (fun ls hl => ?_)
                    refine lv_goto (tgt := 13) hx hb dX5_bestPaper_117 (by decide) ?_
                    exact ih13 (g + 1) a (tGR (S 9 1) g) d M_43 L_29 _ _ _ (by omega) (by omega) (by rw [tBg_s _ hg.1]; obtain ⟨h1, h2, h3⟩ := hab; first | (rw [if_pos (by omega)]; exact ⟨rfl, rfl, rfl⟩) | (rw [if_neg (by omega)]; exact ⟨h1, h2, h3⟩) | (exfalso; omega)) hH (lv_sub hl [7, 3, 2, 1, 0] rfl)
                  · refine lv_iload hx hb dX5_bestPaper_103 (lv_at hl 3 rfl) ?_
                    refine lv_goto (tgt := 109) hx hb dX5_bestPaper_105 (by decide) ?_
                    refine lv_istore_n (lv' := [(3, .int (zI (tGC (S 9 1) g))), (2, .int (zI (tGR (S 9 1) g))), (1, .int (zI a)), (7, .int (zI 1)), (6, .int (zI (tGC (S 9 1) g))), (5, .int (zI (tGR (S 9 1) g))), (0, .ref (za G 9 0)), (4, .int (zI g))]) hx hb dX5_bestPaper_109 rfl hl (by decide) rfl (fun ls hl => ?_)
                    refine lv_aload_n hx hb dX5_bestPaper_110 rfl (lv_at hl 6 rfl) ?_
                    refine zcVv h hH (zr_5 h hH) (As := []) (rest := []) (c_X5_putBack l G hG (zMo S (S 9 0) (tPlan (zup (S 9 1) (1) g)) (S 9 1) (S 9 3) (S 9 4) M_43 L_29)) zce_X5_putBack zcv_X5_putBack zm_X5_197 hl.1 rfl rfl ⟨rfl, rfl⟩ ⟨Nat.le_of_ble_eq_true rfl, Nat.le_of_ble_eq_true rfl⟩ (Nat.le_of_ble_eq_true rfl) ⟨Nat.zero_le _, Nat.zero_le _⟩ dX5_bestPaper_111 (fun S_111 H locs hq hH => ?_)
                    obtain rfl := hq
                    simp only [zM_M, zM_0, zM_1, zM_2, zM_3, zM_4, zM_5, zM_6] at hH
                    refine lv_iinc (v := zI (g + 1)) (lv' := [(4, .int (zI (g + 1))), (3, .int (zI (tGC (S 9 1) g))), (2, .int (zI (tGR (S 9 1) g))), (1, .int (zI a)), (7, .int (zI 1)), (6, .int (zI (tGC (S 9 1) g))), (5, .int (zI (tGR (S 9 1) g))), (0, .ref (za G 9 0))]) hx hb dX5_bestPaper_114 hl (k := 7) rfl (zI_add _ _) (by decide) rfl (fun ls hl => ?_)
                    refine lv_goto (tgt := 13) hx hb dX5_bestPaper_117 (by decide) ?_
                    exact ih13 (g + 1) a (tGR (S 9 1) g) (tGC (S 9 1) g) M_43 L_29 _ _ _ (by omega) (by omega) (by rw [tBg_s _ hg.1]; obtain ⟨h1, h2, h3⟩ := hab; first | (rw [if_pos (by omega)]; exact ⟨rfl, rfl, rfl⟩) | (rw [if_neg (by omega)]; exact ⟨h1, h2, h3⟩) | (exfalso; omega)) hH (lv_sub hl [7, 3, 2, 1, 0] rfl)
              · refine lv_iload hx hb dX5_bestPaper_79 (lv_at hl 7 rfl) ?_
                refine lv_goto (tgt := 85) hx hb dX5_bestPaper_81 (by decide) ?_
                refine lv_istore_n (lv' := [(1, .int (zI g)), (7, .int (zI 1)), (6, .int (zI (tGC (S 9 1) g))), (5, .int (zI (tGR (S 9 1) g))), (0, .ref (za G 9 0)), (2, .int (zI b)), (3, .int (zI d)), (4, .int (zI g))]) hx hb dX5_bestPaper_85 rfl hl (by decide) rfl (fun ls hl => ?_)
                refine lv_iload hx hb dX5_bestPaper_86 (lv_at hl 1 rfl) ?_
                refine zb_ieq (tgt := 96) h (by omega) dX5_bestPaper_88 (by decide) (fun c_88 => ?_) (fun c_88 => ?_)
                · refine lv_iload_n hx hb dX5_bestPaper_96 rfl (lv_at hl 5 rfl) ?_
                  refine lv_istore_n (lv' := [(2, .int (zI b)), (1, .int (zI g)), (7, .int (zI 1)), (6, .int (zI (tGC (S 9 1) g))), (5, .int (zI (tGR (S 9 1) g))), (0, .ref (za G 9 0)), (3, .int (zI d)), (4, .int (zI g))]) hx hb dX5_bestPaper_97 rfl hl (by decide) rfl (fun ls hl => ?_)
                  refine lv_iload hx hb dX5_bestPaper_98 (lv_at hl 2 rfl) ?_
                  refine zb_ieq (tgt := 108) h (by omega) dX5_bestPaper_100 (by decide) (fun c_100 => ?_) (fun c_100 => ?_)
                  · refine lv_iload_n hx hb dX5_bestPaper_108 rfl (lv_at hl 6 rfl) ?_
                    refine lv_istore_n (lv' := [(3, .int (zI d)), (2, .int (zI b)), (1, .int (zI g)), (7, .int (zI 1)), (6, .int (zI (tGC (S 9 1) g))), (5, .int (zI (tGR (S 9 1) g))), (0, .ref (za G 9 0)), (4, .int (zI g))]) hx hb dX5_bestPaper_109 rfl hl (by decide) rfl (fun ls hl => ?_)
                    refine lv_aload_n hx hb dX5_bestPaper_110 rfl (lv_at hl 6 rfl) ?_
                    refine zcVv h hH (zr_5 h hH) (As := []) (rest := []) (c_X5_putBack l G hG (zMo S (S 9 0) (tPlan (zup (S 9 1) (1) g)) (S 9 1) (S 9 3) (S 9 4) M_43 L_29)) zce_X5_putBack zcv_X5_putBack zm_X5_197 hl.1 rfl rfl ⟨rfl, rfl⟩ ⟨Nat.le_of_ble_eq_true rfl, Nat.le_of_ble_eq_true rfl⟩ (Nat.le_of_ble_eq_true rfl) ⟨Nat.zero_le _, Nat.zero_le _⟩ dX5_bestPaper_111 (fun S_111 H locs hq hH => ?_)
                    obtain rfl := hq
                    simp only [zM_M, zM_0, zM_1, zM_2, zM_3, zM_4, zM_5, zM_6] at hH
                    refine lv_iinc (v := zI (g + 1)) (lv' := [(4, .int (zI (g + 1))), (3, .int (zI d)), (2, .int (zI b)), (1, .int (zI g)), (7, .int (zI 1)), (6, .int (zI (tGC (S 9 1) g))), (5, .int (zI (tGR (S 9 1) g))), (0, .ref (za G 9 0))]) hx hb dX5_bestPaper_114 hl (k := 7) rfl (zI_add _ _) (by decide) rfl (fun ls hl => ?_)
                    refine lv_goto (tgt := 13) hx hb dX5_bestPaper_117 (by decide) ?_
                    exact ih13 (g + 1) g b d M_43 L_29 _ _ _ (by omega) (by omega) (by rw [tBg_s _ hg.1]; obtain ⟨h1, h2, h3⟩ := hab; first | (rw [if_pos (by omega)]; exact ⟨rfl, rfl, rfl⟩) | (rw [if_neg (by omega)]; exact ⟨h1, h2, h3⟩) | (exfalso; omega)) hH (lv_sub hl [7, 3, 2, 1, 0] rfl)
                  · refine lv_iload hx hb dX5_bestPaper_103 (lv_at hl 3 rfl) ?_
                    refine lv_goto (tgt := 109) hx hb dX5_bestPaper_105 (by decide) ?_
                    refine lv_istore_n (lv' := [(3, .int (zI (tGC (S 9 1) g))), (2, .int (zI b)), (1, .int (zI g)), (7, .int (zI 1)), (6, .int (zI (tGC (S 9 1) g))), (5, .int (zI (tGR (S 9 1) g))), (0, .ref (za G 9 0)), (4, .int (zI g))]) hx hb dX5_bestPaper_109 rfl hl (by decide) rfl (fun ls hl => ?_)
                    refine lv_aload_n hx hb dX5_bestPaper_110 rfl (lv_at hl 6 rfl) ?_
                    refine zcVv h hH (zr_5 h hH) (As := []) (rest := []) (c_X5_putBack l G hG (zMo S (S 9 0) (tPlan (zup (S 9 1) (1) g)) (S 9 1) (S 9 3) (S 9 4) M_43 L_29)) zce_X5_putBack zcv_X5_putBack zm_X5_197 hl.1 rfl rfl ⟨rfl, rfl⟩ ⟨Nat.le_of_ble_eq_true rfl, Nat.le_of_ble_eq_true rfl⟩ (Nat.le_of_ble_eq_true rfl) ⟨Nat.zero_le _, Nat.zero_le _⟩ dX5_bestPaper_111 (fun S_111 H locs hq hH => ?_)
                    obtain rfl := hq
                    simp only [zM_M, zM_0, zM_1, zM_2, zM_3, zM_4, zM_5, zM_6] at hH
                    refine lv_iinc (v := zI (g + 1)) (lv' := [(4, .int (zI (g + 1))), (3, .int (zI (tGC (S 9 1) g))), (2, .int (zI b)), (1, .int (zI g)), (7, .int (zI 1)), (6, .int (zI (tGC (S 9 1) g))), (5, .int (zI (tGR (S 9 1) g))), (0, .ref (za G 9 0))]) hx hb dX5_bestPaper_114 hl (k := 7) rfl (zI_add _ _) (by decide) rfl (fun ls hl => ?_)
                    refine lv_goto (tgt := 13) hx hb dX5_bestPaper_117 (by decide) ?_
                    exact ih13 (g + 1) g b (tGC (S 9 1) g) M_43 L_29 _ _ _ (by omega) (by omega) (by rw [tBg_s _ hg.1]; obtain ⟨h1, h2, h3⟩ := hab; first | (rw [if_pos (by omega)]; exact ⟨rfl, rfl, rfl⟩) | (rw [if_neg (by omega)]; exact ⟨h1, h2, h3⟩) | (exfalso; omega)) hH (lv_sub hl [7, 3, 2, 1, 0] rfl)
                · refine lv_iload hx hb dX5_bestPaper_91 (lv_at hl 3 rfl) ?_
                  refine lv_goto (tgt := 97) hx hb dX5_bestPaper_93 (by decide) ?_
                  refine lv_istore_n (lv' := [(2, .int (zI (tGR (S 9 1) g))), (1, .int (zI g)), (7, .int (zI 1)), (6, .int (zI (tGC (S 9 1) g))), (5, .int (zI (tGR (S 9 1) g))), (0, .ref (za G 9 0)), (3, .int (zI d)), (4, .int (zI g))]) hx hb dX5_bestPaper_97 rfl hl (by decide) rfl (fun ls hl => ?_)
                  refine lv_iload hx hb dX5_bestPaper_98 (lv_at hl 2 rfl) ?_
                  refine zb_ieq (tgt := 108) h (by omega) dX5_bestPaper_100 (by decide) (fun c_100 => ?_) (fun c_100 => ?_)
                  · refine lv_iload_n hx hb dX5_bestPaper_108 rfl (lv_at hl 6 rfl) ?_
                    refine lv_istore_n (lv' := [(3, .int (zI d)), (2, .int (zI (tGR (S 9 1) g))), (1, .int (zI g)), (7, .int (zI 1)), (6, .int (zI (tGC (S 9 1) g))), (5, .int (zI (tGR (S 9 1) g))), (0, .ref (za G 9 0)), (4, .int (zI g))]) hx hb dX5_bestPaper_109 rfl hl (by decide) rfl (fun ls hl => ?_)
                    refine lv_aload_n hx hb dX5_bestPaper_110 rfl (lv_at hl 6 rfl) ?_
                    refine zcVv h hH (zr_5 h hH) (As := []) (rest := []) (c_X5_putBack l G hG (zMo S (S 9 0) (tPlan (zup (S 9 1) (1) g)) (S 9 1) (S 9 3) (S 9 4) M_43 L_29)) zce_X5_putBack zcv_X5_putBack zm_X5_197 hl.1 rfl rfl ⟨rfl, rfl⟩ ⟨Nat.le_of_ble_eq_true rfl, Nat.le_of_ble_eq_true rfl⟩ (Nat.le_of_ble_eq_true rfl) ⟨Nat.zero_le _, Nat.zero_le _⟩ dX5_bestPaper_111 (fun S_111 H locs hq hH => ?_)
                    obtain rfl := hq
                    simp only [zM_M, zM_0, zM_1, zM_2, zM_3, zM_4, zM_5, zM_6] at hH
                    refine lv_iinc (v := zI (g + 1)) (lv' := [(4, .int (zI (g + 1))), (3, .int (zI d)), (2, .int (zI (tGR (S 9 1) g))), (1, .int (zI g)), (7, .int (zI 1)), (6, .int (zI (tGC (S 9 1) g))), (5, .int (zI (tGR (S 9 1) g))), (0, .ref (za G 9 0))]) hx hb dX5_bestPaper_114 hl (k := 7) rfl (zI_add _ _) (by decide) rfl (fun ls hl => ?_)
                    refine lv_goto (tgt := 13) hx hb dX5_bestPaper_117 (by decide) ?_
                    exact ih13 (g + 1) g (tGR (S 9 1) g) d M_43 L_29 _ _ _ (by omega) (by omega) (by rw [tBg_s _ hg.1]; obtain ⟨h1, h2, h3⟩ := hab; first | (rw [if_pos (by omega)]; exact ⟨rfl, rfl, rfl⟩) | (rw [if_neg (by omega)]; exact ⟨h1, h2, h3⟩) | (exfalso; omega)) hH (lv_sub hl [7, 3, 2, 1, 0] rfl)
                  · refine lv_iload hx hb dX5_bestPaper_103 (lv_at hl 3 rfl) ?_
                    refine lv_goto (tgt := 109) hx hb dX5_bestPaper_105 (by decide) ?_
                    refine lv_istore_n (lv' := [(3, .int (zI (tGC (S 9 1) g))), (2, .int (zI (tGR (S 9 1) g))), (1, .int (zI g)), (7, .int (zI 1)), (6, .int (zI (tGC (S 9 1) g))), (5, .int (zI (tGR (S 9 1) g))), (0, .ref (za G 9 0)), (4, .int (zI g))]) hx hb dX5_bestPaper_109 rfl hl (by decide) rfl (fun ls hl => ?_)
                    refine lv_aload_n hx hb dX5_bestPaper_110 rfl (lv_at hl 6 rfl) ?_
                    refine zcVv h hH (zr_5 h hH) (As := []) (rest := []) (c_X5_putBack l G hG (zMo S (S 9 0) (tPlan (zup (S 9 1) (1) g)) (S 9 1) (S 9 3) (S 9 4) M_43 L_29)) zce_X5_putBack zcv_X5_putBack zm_X5_197 hl.1 rfl rfl ⟨rfl, rfl⟩ ⟨Nat.le_of_ble_eq_true rfl, Nat.le_of_ble_eq_true rfl⟩ (Nat.le_of_ble_eq_true rfl) ⟨Nat.zero_le _, Nat.zero_le _⟩ dX5_bestPaper_111 (fun S_111 H locs hq hH => ?_)
                    obtain rfl := hq
                    simp only [zM_M, zM_0, zM_1, zM_2, zM_3, zM_4, zM_5, zM_6] at hH
                    refine lv_iinc (v := zI (g + 1)) (lv' := [(4, .int (zI (g + 1))), (3, .int (zI (tGC (S 9 1) g))), (2, .int (zI (tGR (S 9 1) g))), (1, .int (zI g)), (7, .int (zI 1)), (6, .int (zI (tGC (S 9 1) g))), (5, .int (zI (tGR (S 9 1) g))), (0, .ref (za G 9 0))]) hx hb dX5_bestPaper_114 hl (k := 7) rfl (zI_add _ _) (by decide) rfl (fun ls hl => ?_)
                    refine lv_goto (tgt := 13) hx hb dX5_bestPaper_117 (by decide) ?_
                    exact ih13 (g + 1) g (tGR (S 9 1) g) (tGC (S 9 1) g) M_43 L_29 _ _ _ (by omega) (by omega) (by rw [tBg_s _ hg.1]; obtain ⟨h1, h2, h3⟩ := hab; first | (rw [if_pos (by omega)]; exact ⟨rfl, rfl, rfl⟩) | (rw [if_neg (by omega)]; exact ⟨h1, h2, h3⟩) | (exfalso; omega)) hH (lv_sub hl [7, 3, 2, 1, 0] rfl)
  refine zb_ic h dX5_bestPaper_0 ?_
  refine lv_istore_n (lv' := [(1, .int (zI 0)), (0, .ref (za G 9 0))]) hx hb dX5_bestPaper_1 rfl hl (by decide) rfl (fun ls hl => ?_)
  refine zb_ic h dX5_bestPaper_2 ?_
  refine lv_istore_n (lv' := [(2, .int (zI (-1))), (1, .int (zI 0)), (0, .ref (za G 9 0))]) hx hb dX5_bestPaper_3 rfl hl (by decide) rfl (fun ls hl => ?_)
  refine zb_ic h dX5_bestPaper_4 ?_
  refine lv_istore_n (lv' := [(3, .int (zI 0)), (2, .int (zI (-1))), (1, .int (zI 0)), (0, .ref (za G 9 0))]) hx hb dX5_bestPaper_5 rfl hl (by decide) rfl (fun ls hl => ?_)
  refine lv_aload_n hx hb dX5_bestPaper_6 rfl (lv_at hl 3 rfl) ?_
  refine zcVv h hH (zr_5 h hH) (As := []) (rest := []) (c_X5_putAside l G hG (zMo S (S 9 0) (S 9 1) (S 9 2) (S 9 3) (S 9 4) (S 9 5) (S 9 6))) zce_X5_putAside zcv_X5_putAside zm_X5_194 hl.1 rfl rfl ⟨rfl, rfl⟩ ⟨Nat.le_of_ble_eq_true rfl, Nat.le_of_ble_eq_true rfl⟩ (Nat.le_of_ble_eq_true rfl) ⟨Nat.zero_le _, Nat.zero_le _⟩ dX5_bestPaper_7 (fun S_7 H locs hq hH => ?_)
  obtain rfl := hq
  simp only [zM_M, zM_0, zM_1, zM_2, zM_3, zM_4, zM_5, zM_6] at hH
  refine zb_ic h dX5_bestPaper_10 ?_
  refine lv_istore (lv' := [(4, .int (zI 0)), (3, .int (zI 0)), (2, .int (zI (-1))), (1, .int (zI 0)), (0, .ref (za G 9 0))]) hx hb dX5_bestPaper_11 hl (by decide) rfl (fun ls hl => ?_)
  exact C13 ((6 - 0 : Int).toNat + 1) 0 0 (-1) 0 (S 9 5) (S 9 6) _ _ _ (by omega) (by omega) ⟨rfl, rfl, rfl⟩ hH (lv_sub hl [4, 3, 2, 1, 0] rfl)
theorem dX4_plan_0 : decode cX4_plan 0 = .ok (.aload_n 0, 1) := by decide +kernel
theorem dX4_plan_1 : decode cX4_plan 1 = .ok (.getfield 22, 3) := by decide +kernel
theorem dX4_plan_4 : decode cX4_plan 4 = .ok (.aload_n 0, 1) := by decide +kernel
theorem dX4_plan_5 : decode cX4_plan 5 = .ok (.getfield 10, 3) := by decide +kernel
theorem dX4_plan_8 : decode cX4_plan 8 = .ok (.invokevirtual 61, 3) := by decide +kernel
theorem dX4_plan_11 : decode cX4_plan 11 = .ok (.aload_n 0, 1) := by decide +kernel
theorem dX4_plan_12 : decode cX4_plan 12 = .ok (.getfield 10, 3) := by decide +kernel
theorem dX4_plan_15 : decode cX4_plan 15 = .ok (.invokevirtual 125, 3) := by decide +kernel
theorem dX4_plan_18 : decode cX4_plan 18 = .ok (.aload_n 0, 1) := by decide +kernel
theorem dX4_plan_19 : decode cX4_plan 19 = .ok (.getfield 10, 3) := by decide +kernel
theorem dX4_plan_22 : decode cX4_plan 22 = .ok (.iconst 0, 1) := by decide +kernel
theorem dX4_plan_23 : decode cX4_plan 23 = .ok (.invokevirtual 98, 3) := by decide +kernel
theorem dX4_plan_26 : decode cX4_plan 26 = .ok (.ireturn, 1) := by decide +kernel
def q_X4_plan (S : zM) : Int32 → zM → Prop := fun r S1 => r = zI (tCnt (tPlan (S 0 0)) 0) ∧ ∃ q', zPut (zKeep S) 0 (tPlan (S 0 0)) (S 0 2) q' = S1
def r_X4_plan : Room := { frames := 5, cells := 0, slots := 0, locals := 116 }
set_option maxHeartbeats 4000000 in
set_option maxRecDepth 100000 in
theorem c_X4_plan (l : Launch) (G : zG) (hG : zok G) (S : zM) (hnx : 0 ≤ S 8 1 2 ∧ S 8 1 2 ≤ 600) (hsz : 0 ≤ S 8 1 1 ∧ S 8 1 1 ≤ 6) (hms : zMs S 0) (hw : zW (S 0 0))  : Met l yX4_plan (Cond.code yX4_plan cX4_plan 1 (some FieldType.int) :: zTbl) r_X4_plan (va_Pc [.ref (za G 8 0)] (zB G S)) (va_Qi (q_X4_plan S) (zB G) (zA G)) 0 0 (zA G) := by
  refine zMet [(0, .ref (za G 8 0))] hG (by decide) (Nat.le_of_ble_eq_true rfl) rfl (fun p e s m args below meth c ls h hx hb hr hH hl => ?_)
  refine lv_aload_n hx hb dX4_plan_0 rfl (lv_at hl 0 rfl) ?_
  refine zg_4_2 h hH zf_X4_22 dX4_plan_1 ?_
  refine lv_aload_n hx hb dX4_plan_4 rfl (lv_at hl 0 rfl) ?_
  refine zg_4_0 h hH zf_X4_10 dX4_plan_5 ?_
  refine zcVv h hH (zr_0 h hH) (As := [.ref (za G 0 0)]) (rest := []) (c_X0_keep l G hG S hnx hsz hw) zce_X0_keep zcv_X0_keep zm_X4_61 hl.1 rfl rfl ⟨rfl, rfl⟩ ⟨Nat.le_of_ble_eq_true rfl, Nat.le_of_ble_eq_true rfl⟩ (Nat.le_of_ble_eq_true rfl) ⟨Nat.zero_le _, Nat.zero_le _⟩ dX4_plan_8 (fun S_8 H locs hq hH => ?_)
  obtain rfl := hq
  have hH : zH G (zKeep S) s H locs := hH
  rw [← zP_id (zKeep S) 0, zKp_0] at hH
  refine lv_aload_n hx hb dX4_plan_11 rfl (lv_at hl 0 rfl) ?_
  refine zg_4_0 h hH zf_X4_10 dX4_plan_12 ?_
  refine zcVv h hH (zr_3 h hH (by omega)) (As := []) (rest := []) (c_X3_makePlan l G hG 0 (by omega) (zPut (zKeep S) 0 (S 0 0) (S 0 2) (S 0 8)) (zP_ms hms) (zP_hw hw)) zce_X3_makePlan zcv_X3_makePlan zm_X4_125 hl.1 rfl rfl ⟨rfl, rfl⟩ ⟨Nat.le_of_ble_eq_true rfl, Nat.le_of_ble_eq_true rfl⟩ (Nat.le_of_ble_eq_true rfl) ⟨Nat.zero_le _, Nat.zero_le _⟩ dX4_plan_15 (fun S_15 H locs hq hH => ?_)
  obtain ⟨q_15, rfl⟩ := hq
  simp only [zP_P, zP_0, zP_2, zP_8] at hH
  refine lv_aload_n hx hb dX4_plan_18 rfl (lv_at hl 0 rfl) ?_
  refine zg_4_0 h hH zf_X4_10 dX4_plan_19 ?_
  have hd := tPlan_in hw
  have hMd : ∀ j : Int, 0 ≤ j → j < 10 → S 0 2 j = zMk (tPlan (S 0 0) 1) (tPlan (S 0 0) 2) j := by rw [hd.2.2.1, hd.2.2.2]; exact hms
  refine zb_ic h dX4_plan_22 ?_
  refine zcVi h hH (zr_3 h hH (by omega)) (As := [.int (zI 0)]) (rest := []) (c_X3_zonesOff l G hG 0 (by omega) (zPut (zKeep S) 0 (tPlan (S 0 0)) (S 0 2) q_15) 0 (by omega) (zP_ms hMd) (zP_hw hd.1)) zce_X3_zonesOff zcv_X3_zonesOff zm_X4_98 hl.1 rfl rfl ⟨rfl, rfl⟩ ⟨Nat.le_of_ble_eq_true rfl, Nat.le_of_ble_eq_true rfl⟩ (Nat.le_of_ble_eq_true rfl) ⟨Nat.zero_le _, Nat.zero_le _⟩ dX4_plan_23 (fun r_23 S_23 H locs hq hH => ?_)
  obtain ⟨rfl, rfl⟩ := hq
  rw [zP_0]
  refine zri h hr hH ?_ dX4_plan_26
  exact ⟨rfl, _, rfl⟩
theorem dX4_bestGrade_0 : decode cX4_bestGrade 0 = .ok (.iconst (-1), 1) := by decide +kernel
theorem dX4_bestGrade_1 : decode cX4_bestGrade 1 = .ok (.istore_n 1, 1) := by decide +kernel
theorem dX4_bestGrade_2 : decode cX4_bestGrade 2 = .ok (.iconst 0, 1) := by decide +kernel
theorem dX4_bestGrade_3 : decode cX4_bestGrade 3 = .ok (.istore_n 2, 1) := by decide +kernel
theorem dX4_bestGrade_4 : decode cX4_bestGrade 4 = .ok (.iconst 0, 1) := by decide +kernel
theorem dX4_bestGrade_5 : decode cX4_bestGrade 5 = .ok (.istore_n 3, 1) := by decide +kernel
theorem dX4_bestGrade_6 : decode cX4_bestGrade 6 = .ok (.iconst 0, 1) := by decide +kernel
theorem dX4_bestGrade_7 : decode cX4_bestGrade 7 = .ok (.istore 4, 2) := by decide +kernel
theorem dX4_bestGrade_9 : decode cX4_bestGrade 9 = .ok (.iload 4, 2) := by decide +kernel
theorem dX4_bestGrade_11 : decode cX4_bestGrade 11 = .ok (.iconst 5, 1) := by decide +kernel
theorem dX4_bestGrade_12 : decode cX4_bestGrade 12 = .ok (.if_icmp .gt 122, 3) := by decide +kernel
theorem dX4_bestGrade_15 : decode cX4_bestGrade 15 = .ok (.aload_n 0, 1) := by decide +kernel
theorem dX4_bestGrade_16 : decode cX4_bestGrade 16 = .ok (.getfield 16, 3) := by decide +kernel
theorem dX4_bestGrade_19 : decode cX4_bestGrade 19 = .ok (.aload_n 0, 1) := by decide +kernel
theorem dX4_bestGrade_20 : decode cX4_bestGrade 20 = .ok (.getfield 10, 3) := by decide +kernel
theorem dX4_bestGrade_23 : decode cX4_bestGrade 23 = .ok (.invokevirtual 189, 3) := by decide +kernel
theorem dX4_bestGrade_26 : decode cX4_bestGrade 26 = .ok (.aload_n 0, 1) := by decide +kernel
theorem dX4_bestGrade_27 : decode cX4_bestGrade 27 = .ok (.getfield 16, 3) := by decide +kernel
theorem dX4_bestGrade_30 : decode cX4_bestGrade 30 = .ok (.getfield 115, 3) := by decide +kernel
theorem dX4_bestGrade_33 : decode cX4_bestGrade 33 = .ok (.iload 4, 2) := by decide +kernel
theorem dX4_bestGrade_35 : decode cX4_bestGrade 35 = .ok (.aload_n 0, 1) := by decide +kernel
theorem dX4_bestGrade_36 : decode cX4_bestGrade 36 = .ok (.getfield 10, 3) := by decide +kernel
theorem dX4_bestGrade_39 : decode cX4_bestGrade 39 = .ok (.getfield 115, 3) := by decide +kernel
theorem dX4_bestGrade_42 : decode cX4_bestGrade 42 = .ok (.getfield 195, 3) := by decide +kernel
theorem dX4_bestGrade_45 : decode cX4_bestGrade 45 = .ok (.invokevirtual 119, 3) := by decide +kernel
theorem dX4_bestGrade_48 : decode cX4_bestGrade 48 = .ok (.aload_n 0, 1) := by decide +kernel
theorem dX4_bestGrade_49 : decode cX4_bestGrade 49 = .ok (.getfield 16, 3) := by decide +kernel
theorem dX4_bestGrade_52 : decode cX4_bestGrade 52 = .ok (.invokevirtual 125, 3) := by decide +kernel
theorem dX4_bestGrade_55 : decode cX4_bestGrade 55 = .ok (.aload_n 0, 1) := by decide +kernel
theorem dX4_bestGrade_56 : decode cX4_bestGrade 56 = .ok (.getfield 16, 3) := by decide +kernel
theorem dX4_bestGrade_59 : decode cX4_bestGrade 59 = .ok (.iconst 0, 1) := by decide +kernel
theorem dX4_bestGrade_60 : decode cX4_bestGrade 60 = .ok (.invokevirtual 98, 3) := by decide +kernel
theorem dX4_bestGrade_63 : decode cX4_bestGrade 63 = .ok (.istore 5, 2) := by decide +kernel
theorem dX4_bestGrade_65 : decode cX4_bestGrade 65 = .ok (.aload_n 0, 1) := by decide +kernel
theorem dX4_bestGrade_66 : decode cX4_bestGrade 66 = .ok (.getfield 16, 3) := by decide +kernel
theorem dX4_bestGrade_69 : decode cX4_bestGrade 69 = .ok (.aload_n 0, 1) := by decide +kernel
theorem dX4_bestGrade_70 : decode cX4_bestGrade 70 = .ok (.getfield 16, 3) := by decide +kernel
theorem dX4_bestGrade_73 : decode cX4_bestGrade 73 = .ok (.getfield 104, 3) := by decide +kernel
theorem dX4_bestGrade_76 : decode cX4_bestGrade 76 = .ok (.invokevirtual 198, 3) := by decide +kernel
theorem dX4_bestGrade_79 : decode cX4_bestGrade 79 = .ok (.aload_n 0, 1) := by decide +kernel
theorem dX4_bestGrade_80 : decode cX4_bestGrade 80 = .ok (.getfield 16, 3) := by decide +kernel
theorem dX4_bestGrade_83 : decode cX4_bestGrade 83 = .ok (.aload_n 0, 1) := by decide +kernel
theorem dX4_bestGrade_84 : decode cX4_bestGrade 84 = .ok (.getfield 16, 3) := by decide +kernel
theorem dX4_bestGrade_87 : decode cX4_bestGrade 87 = .ok (.getfield 110, 3) := by decide +kernel
theorem dX4_bestGrade_90 : decode cX4_bestGrade 90 = .ok (.invokevirtual 198, 3) := by decide +kernel
theorem dX4_bestGrade_93 : decode cX4_bestGrade 93 = .ok (.iadd, 1) := by decide +kernel
theorem dX4_bestGrade_94 : decode cX4_bestGrade 94 = .ok (.istore 6, 2) := by decide +kernel
theorem dX4_bestGrade_96 : decode cX4_bestGrade 96 = .ok (.iload_n 1, 1) := by decide +kernel
theorem dX4_bestGrade_97 : decode cX4_bestGrade 97 = .ok (.iconst (-1), 1) := by decide +kernel
theorem dX4_bestGrade_98 : decode cX4_bestGrade 98 = .ok (.if_icmp .eq 21, 3) := by decide +kernel
theorem dX4_bestGrade_101 : decode cX4_bestGrade 101 = .ok (.iload 5, 2) := by decide +kernel
theorem dX4_bestGrade_103 : decode cX4_bestGrade 103 = .ok (.iload_n 2, 1) := by decide +kernel
theorem dX4_bestGrade_104 : decode cX4_bestGrade 104 = .ok (.if_icmp .gt 15, 3) := by decide +kernel
theorem dX4_bestGrade_107 : decode cX4_bestGrade 107 = .ok (.iload 5, 2) := by decide +kernel
theorem dX4_bestGrade_109 : decode cX4_bestGrade 109 = .ok (.iload_n 2, 1) := by decide +kernel
theorem dX4_bestGrade_110 : decode cX4_bestGrade 110 = .ok (.if_icmp .ne 18, 3) := by decide +kernel
theorem dX4_bestGrade_113 : decode cX4_bestGrade 113 = .ok (.iload 6, 2) := by decide +kernel
theorem dX4_bestGrade_115 : decode cX4_bestGrade 115 = .ok (.iload_n 3, 1) := by decide +kernel
theorem dX4_bestGrade_116 : decode cX4_bestGrade 116 = .ok (.if_icmp .ge 12, 3) := by decide +kernel
theorem dX4_bestGrade_119 : decode cX4_bestGrade 119 = .ok (.iload 4, 2) := by decide +kernel
theorem dX4_bestGrade_121 : decode cX4_bestGrade 121 = .ok (.istore_n 1, 1) := by decide +kernel
theorem dX4_bestGrade_122 : decode cX4_bestGrade 122 = .ok (.iload 5, 2) := by decide +kernel
theorem dX4_bestGrade_124 : decode cX4_bestGrade 124 = .ok (.istore_n 2, 1) := by decide +kernel
theorem dX4_bestGrade_125 : decode cX4_bestGrade 125 = .ok (.iload 6, 2) := by decide +kernel
theorem dX4_bestGrade_127 : decode cX4_bestGrade 127 = .ok (.istore_n 3, 1) := by decide +kernel
theorem dX4_bestGrade_128 : decode cX4_bestGrade 128 = .ok (.iinc 4 1, 3) := by decide +kernel
theorem dX4_bestGrade_131 : decode cX4_bestGrade 131 = .ok (.goto (-122), 3) := by decide +kernel
theorem dX4_bestGrade_134 : decode cX4_bestGrade 134 = .ok (.iload_n 1, 1) := by decide +kernel
theorem dX4_bestGrade_135 : decode cX4_bestGrade 135 = .ok (.ireturn, 1) := by decide +kernel
def q_X4_bestGrade (S : zM) : Int32 → zM → Prop := fun r S1 => r = zI (tBgr (S 0 0)) ∧ ∃ σ' M' q', zPut S 1 σ' M' q' = S1
def r_X4_bestGrade : Room := { frames := 5, cells := 0, slots := 0, locals := 116 }
set_option maxHeartbeats 4000000 in
set_option maxRecDepth 100000 in
theorem c_X4_bestGrade (l : Launch) (G : zG) (hG : zok G) (S : zM) (hw : zW (S 0 0)) : Met l yX4_bestGrade (Cond.code yX4_bestGrade cX4_bestGrade 7 (some FieldType.int) :: zTbl) r_X4_bestGrade (va_Pc [.ref (za G 8 0)] (zB G S)) (va_Qi (q_X4_bestGrade S) (zB G) (zA G)) 0 0 (zA G) := by
  refine zMet [(0, .ref (za G 8 0))] hG (by decide) (Nat.le_of_ble_eq_true rfl) rfl (fun p e s m args below meth c ls h hx hb hr hH hl => ?_)
  rw [← zP_id S 1] at hH
  have C9 : ∀ (fu : Nat) (g a b d : Int) (τ M q : Int → Int) (H : Heap) (locs : List Loc) (ls : Array Slot), (6 - g).toNat < fu → (0 ≤ g ∧ g ≤ 6) → ((g = 0 ∧ a = -1 ∧ b = 0 ∧ d = 0) ∨ (1 ≤ g ∧ a = (tBg (S 0 0) g.toNat).1 ∧ b = (tBg (S 0 0) g.toNat).2.1 ∧ d = (tBg (S 0 0) g.toNat).2.2)) → zH G (zPut S 1 τ M q) s H locs → lv_has ls 7 [(0, .ref (za G 8 0)), (1, .int (zI a)), (2, .int (zI b)), (3, .int (zI d)), (4, .int (zI g))] → W p l e r_X4_bestGrade s m args below meth c H locs 0 0 (MQ below (va_Qi (q_X4_bestGrade S) (zB G) (zA G)) args s 0 0 (zA G)) (F0 m 9 ls []) := by
    intro fu
    induction fu with
    | zero => intro g a b d τ M q H locs ls hfu; omega
    | succ fu ih9 =>
      intro g a b d τ M q H locs ls hfu hg hab hH hl
      refine lv_iload hx hb dX4_bestGrade_9 (lv_at hl 4 rfl) ?_
      refine zb_ic h dX4_bestGrade_11 ?_
      refine zb_cgt (tgt := 134) h (by omega) (by omega) dX4_bestGrade_12 (by decide) (fun c_12 => ?_) (fun c_12 => ?_)
      · refine lv_iload_n hx hb dX4_bestGrade_134 rfl (lv_at hl 1 rfl) ?_
        refine zri h hr hH ?_ dX4_bestGrade_135
        obtain rfl : g = 6 := by omega
        exact ⟨congrArg zI (by rcases hab with q1 | q1; exact absurd q1.1 (by omega); rw [q1.2.1]; rfl), _, _, _, rfl⟩
      · have hgi := tGR_in hw (g := g) (by omega)
        have hgj := tGC_in hw (g := g) (by omega)
        have hgk := tBg_in hw g.toNat (by omega)
        refine lv_aload_n hx hb dX4_bestGrade_15 rfl (lv_at hl 0 rfl) ?_
        refine zg_4_1 h hH zf_X4_16 dX4_bestGrade_16 ?_
        refine lv_aload_n hx hb dX4_bestGrade_19 rfl (lv_at hl 0 rfl) ?_
        refine zg_4_0 h hH zf_X4_10 dX4_bestGrade_20 ?_
        refine zcVv h hH (zr_3 h hH (by omega)) (As := [.ref (za G 0 0)]) (rest := []) (c_X3_copyFrom l G hG 1 0 (by omega) (by omega) (by omega) (zPut S 1 τ M q) (by rw [zP_n (by omega)]; exact hw)) zce_X3_copyFrom zcv_X3_copyFrom zm_X4_189 hl.1 rfl rfl ⟨rfl, rfl⟩ ⟨Nat.le_of_ble_eq_true rfl, Nat.le_of_ble_eq_true rfl⟩ (Nat.le_of_ble_eq_true rfl) ⟨Nat.zero_le _, Nat.zero_le _⟩ dX4_bestGrade_23 (fun S_23 H locs hq hH => ?_)
        obtain rfl := hq
        rw [zP_n (show (0 : Nat) ≠ 1 by omega)] at hH
        simp only [zP_P, zP_8] at hH
        refine lv_aload_n hx hb dX4_bestGrade_26 rfl (lv_at hl 0 rfl) ?_
        refine zg_4_1 h hH zf_X4_16 dX4_bestGrade_27 ?_
        refine zgn_3_0 h hH (by omega) zfn_X4_115 dX4_bestGrade_30 ?_
        refine lv_iload hx hb dX4_bestGrade_33 (lv_at hl 4 rfl) ?_
        refine lv_aload_n hx hb dX4_bestGrade_35 rfl (lv_at hl 0 rfl) ?_
        refine zg_4_0 h hH zf_X4_10 dX4_bestGrade_36 ?_
        refine zgn_3_0 h hH (by omega) zfn_X4_115 dX4_bestGrade_39 ?_
        refine zgn_2_2 h hH (by omega) zfn_X4_195 dX4_bestGrade_42 ?_
        rw [zP_n (by omega)]
        have f_42 := zW_2 hw
        refine zcVv h hH (zr_2 h hH (by omega)) (As := [.int (zI g), .int (zI (S 0 0 2))]) (rest := []) (c_X2_take l G hG 1 (by omega) (zPut S 1 (S 0 0) (zMk (S 0 0 1) (S 0 0 2)) q) g (S 0 0 2) (by omega) (by omega)) zce_X2_take zcv_X2_take zm_X4_119 hl.1 rfl rfl ⟨rfl, rfl⟩ ⟨Nat.le_of_ble_eq_true rfl, Nat.le_of_ble_eq_true rfl⟩ (Nat.le_of_ble_eq_true rfl) ⟨Nat.zero_le _, Nat.zero_le _⟩ dX4_bestGrade_45 (fun S_45 H locs hq hH => ?_)
        obtain rfl := hq
        have e_45 : zup (zup (S 0 0) 1 g) 2 (S 0 0 2) = zup (S 0 0) 1 g := zup_at _ (zup_n (by omega))
        simp only [zP_P, zP_0, zP_8] at hH
        rw [e_45] at hH
        have hwg := zW_g hw (g := g) (by omega)
        have hMg : ∀ j : Int, 0 ≤ j → j < 10 → zMk g (S 0 0 2) j = zMk (zup (S 0 0) 1 g 1) (zup (S 0 0) 1 g 2) j := by intro j _ _; rw [zup_s, zup_n (by omega)]
        refine lv_aload_n hx hb dX4_bestGrade_48 rfl (lv_at hl 0 rfl) ?_
        refine zg_4_1 h hH zf_X4_16 dX4_bestGrade_49 ?_
        refine zcVv h hH (zr_3 h hH (by omega)) (As := []) (rest := []) (c_X3_makePlan l G hG 1 (by omega) (zPut S 1 (zup (S 0 0) 1 g) (zMk g (S 0 0 2)) q) (zP_ms hMg) (zP_hw hwg)) zce_X3_makePlan zcv_X3_makePlan zm_X4_125 hl.1 rfl rfl ⟨rfl, rfl⟩ ⟨Nat.le_of_ble_eq_true rfl, Nat.le_of_ble_eq_true rfl⟩ (Nat.le_of_ble_eq_true rfl) ⟨Nat.zero_le _, Nat.zero_le _⟩ dX4_bestGrade_52 (fun S_52 H locs hq hH => ?_)
        obtain ⟨q_52, rfl⟩ := hq
        simp only [zP_P, zP_0, zP_2, zP_8] at hH
        have hd := tPlan_in hwg
        have hMd : ∀ j : Int, 0 ≤ j → j < 10 → zMk g (S 0 0 2) j = zMk (tPlan (zup (S 0 0) 1 g) 1) (tPlan (zup (S 0 0) 1 g) 2) j := by rw [hd.2.2.1, hd.2.2.2]; exact hMg
        refine lv_aload_n hx hb dX4_bestGrade_55 rfl (lv_at hl 0 rfl) ?_
        refine zg_4_1 h hH zf_X4_16 dX4_bestGrade_56 ?_
        refine zb_ic h dX4_bestGrade_59 ?_
        refine zcVi h hH (zr_3 h hH (by omega)) (As := [.int (zI 0)]) (rest := []) (c_X3_zonesOff l G hG 1 (by omega) (zPut S 1 (tPlan (zup (S 0 0) 1 g)) (zMk g (S 0 0 2)) q_52) 0 (by omega) (zP_ms hMd) (zP_hw hd.1)) zce_X3_zonesOff zcv_X3_zonesOff zm_X4_98 hl.1 rfl rfl ⟨rfl, rfl⟩ ⟨Nat.le_of_ble_eq_true rfl, Nat.le_of_ble_eq_true rfl⟩ (Nat.le_of_ble_eq_true rfl) ⟨Nat.zero_le _, Nat.zero_le _⟩ dX4_bestGrade_60 (fun r_60 S_60 H locs hq hH => ?_)
        obtain ⟨rfl, rfl⟩ := hq
        rw [zP_0]
        refine zb_top (y := tGR (S 0 0) g) rfl ?_
        refine lv_istore (lv' := [(5, .int (zI (tGR (S 0 0) g))), (0, .ref (za G 8 0)), (1, .int (zI a)), (2, .int (zI b)), (3, .int (zI d)), (4, .int (zI g))]) hx hb dX4_bestGrade_63 hl (by decide) rfl (fun ls hl => ?_)
        refine lv_aload_n hx hb dX4_bestGrade_65 rfl (lv_at hl 1 rfl) ?_
        refine zg_4_1 h hH zf_X4_16 dX4_bestGrade_66 ?_
        refine lv_aload_n hx hb dX4_bestGrade_69 rfl (lv_at hl 1 rfl) ?_
        refine zg_4_1 h hH zf_X4_16 dX4_bestGrade_70 ?_
        refine zgn_3_3 h hH (by omega) zfn_X4_104 dX4_bestGrade_73 ?_
        refine zcVi h hH (zr_3 h hH (by omega)) (As := [.ref (za G 1 5)]) (rest := []) (c_X3_sumOf_bu l G hG 1 (by omega) (zPut S 1 (tPlan (zup (S 0 0) 1 g)) (zMk g (S 0 0 2)) q_52) (zP_hw hd.1)) zce_X3_sumOf zcv_X3_sumOf zm_X4_198 hl.1 rfl rfl ⟨rfl, rfl⟩ ⟨Nat.le_of_ble_eq_true rfl, Nat.le_of_ble_eq_true rfl⟩ (Nat.le_of_ble_eq_true rfl) ⟨Nat.zero_le _, Nat.zero_le _⟩ dX4_bestGrade_76 (fun r_76 S_76 H locs hq hH => ?_)
        obtain ⟨rfl, rfl⟩ := hq
        rw [zP_0]
        refine lv_aload_n hx hb dX4_bestGrade_79 rfl (lv_at hl 1 rfl) ?_
        refine zg_4_1 h hH zf_X4_16 dX4_bestGrade_80 ?_
        refine lv_aload_n hx hb dX4_bestGrade_83 rfl (lv_at hl 1 rfl) ?_
        refine zg_4_1 h hH zf_X4_16 dX4_bestGrade_84 ?_
        refine zgn_3_4 h hH (by omega) zfn_X4_110 dX4_bestGrade_87 ?_
        refine zcVi h hH (zr_3 h hH (by omega)) (As := [.ref (za G 1 6)]) (rest := [.int (zI (tSum (tPlan (zup (S 0 0) 1 g)) 2))]) (c_X3_sumOf_ho l G hG 1 (by omega) (zPut S 1 (tPlan (zup (S 0 0) 1 g)) (zMk g (S 0 0 2)) q_52) (zP_hw hd.1)) zce_X3_sumOf zcv_X3_sumOf zm_X4_198 hl.1 rfl rfl ⟨rfl, rfl⟩ ⟨Nat.le_of_ble_eq_true rfl, Nat.le_of_ble_eq_true rfl⟩ (Nat.le_of_ble_eq_true rfl) ⟨Nat.zero_le _, Nat.zero_le _⟩ dX4_bestGrade_90 (fun r_90 S_90 H locs hq hH => ?_)
        obtain ⟨rfl, rfl⟩ := hq
        rw [zP_0]
        have bS2 := tSum_in hd.1 (w := 2) (by omega)
        have bS3 := tSum_in hd.1 (w := 3) (by omega)
        refine zb_iadd h dX4_bestGrade_93 ?_
        refine zb_top (y := tGC (S 0 0) g) rfl ?_
        refine lv_istore (lv' := [(6, .int (zI (tGC (S 0 0) g))), (5, .int (zI (tGR (S 0 0) g))), (0, .ref (za G 8 0)), (1, .int (zI a)), (2, .int (zI b)), (3, .int (zI d)), (4, .int (zI g))]) hx hb dX4_bestGrade_94 hl (by decide) rfl (fun ls hl => ?_)
        refine lv_iload_n hx hb dX4_bestGrade_96 rfl (lv_at hl 3 rfl) ?_
        refine zb_ic h dX4_bestGrade_97 ?_
        refine zb_ceq (tgt := 119) h (by omega) (by omega) dX4_bestGrade_98 (by decide) (fun c_98 => ?_) (fun c_98 => ?_)
        · refine lv_iload hx hb dX4_bestGrade_119 (lv_at hl 6 rfl) ?_
          refine lv_istore_n (lv' := [(1, .int (zI g)), (6, .int (zI (tGC (S 0 0) g))), (5, .int (zI (tGR (S 0 0) g))), (0, .ref (za G 8 0)), (2, .int (zI b)), (3, .int (zI d)), (4, .int (zI g))]) hx hb dX4_bestGrade_121 rfl hl (by decide) rfl (fun ls hl => ?_)
          refine lv_iload hx hb dX4_bestGrade_122 (lv_at hl 2 rfl) ?_
          refine lv_istore_n (lv' := [(2, .int (zI (tGR (S 0 0) g))), (1, .int (zI g)), (6, .int (zI (tGC (S 0 0) g))), (5, .int (zI (tGR (S 0 0) g))), (0, .ref (za G 8 0)), (3, .int (zI d)), (4, .int (zI g))]) hx hb dX4_bestGrade_124 rfl hl (by decide) rfl (fun ls hl => ?_)
          refine lv_iload hx hb dX4_bestGrade_125 (lv_at hl 2 rfl) ?_
          refine lv_istore_n (lv' := [(3, .int (zI (tGC (S 0 0) g))), (2, .int (zI (tGR (S 0 0) g))), (1, .int (zI g)), (6, .int (zI (tGC (S 0 0) g))), (5, .int (zI (tGR (S 0 0) g))), (0, .ref (za G 8 0)), (4, .int (zI g))]) hx hb dX4_bestGrade_127 rfl hl (by decide) rfl (fun ls hl => ?_)
          refine lv_iinc (v := zI (g + 1)) (lv' := [(4, .int (zI (g + 1))), (3, .int (zI (tGC (S 0 0) g))), (2, .int (zI (tGR (S 0 0) g))), (1, .int (zI g)), (6, .int (zI (tGC (S 0 0) g))), (5, .int (zI (tGR (S 0 0) g))), (0, .ref (za G 8 0))]) hx hb dX4_bestGrade_128 hl (k := 6) rfl (zI_add _ _) (by decide) rfl (fun ls hl => ?_)
          refine lv_goto (tgt := 9) hx hb dX4_bestGrade_131 (by decide) ?_
          exact ih9 (g + 1) g (tGR (S 0 0) g) (tGC (S 0 0) g) (tPlan (zup (S 0 0) 1 g)) (zMk g (S 0 0 2)) q_52 _ _ _ (by omega) (by omega) (Or.inr (tBg_step hw (show 0 ≤ g ∧ g ≤ 5 by omega) hab (rfl : tGR (S 0 0) g = tGR (S 0 0) g) (rfl : tGC (S 0 0) g = tGC (S 0 0) g) (by omega))) hH (lv_sub hl [6, 3, 2, 1, 0] rfl)
        · refine lv_iload hx hb dX4_bestGrade_101 (lv_at hl 1 rfl) ?_
          refine lv_iload_n hx hb dX4_bestGrade_103 rfl (lv_at hl 4 rfl) ?_
          refine zb_cgt (tgt := 119) h (by omega) (by omega) dX4_bestGrade_104 (by decide) (fun c_104 => ?_) (fun c_104 => ?_)
          · refine lv_iload hx hb dX4_bestGrade_119 (lv_at hl 6 rfl) ?_
            refine lv_istore_n (lv' := [(1, .int (zI g)), (6, .int (zI (tGC (S 0 0) g))), (5, .int (zI (tGR (S 0 0) g))), (0, .ref (za G 8 0)), (2, .int (zI b)), (3, .int (zI d)), (4, .int (zI g))]) hx hb dX4_bestGrade_121 rfl hl (by decide) rfl (fun ls hl => ?_)
            refine lv_iload hx hb dX4_bestGrade_122 (lv_at hl 2 rfl) ?_
            refine lv_istore_n (lv' := [(2, .int (zI (tGR (S 0 0) g))), (1, .int (zI g)), (6, .int (zI (tGC (S 0 0) g))), (5, .int (zI (tGR (S 0 0) g))), (0, .ref (za G 8 0)), (3, .int (zI d)), (4, .int (zI g))]) hx hb dX4_bestGrade_124 rfl hl (by decide) rfl (fun ls hl => ?_)
            refine lv_iload hx hb dX4_bestGrade_125 (lv_at hl 2 rfl) ?_
            refine lv_istore_n (lv' := [(3, .int (zI (tGC (S 0 0) g))), (2, .int (zI (tGR (S 0 0) g))), (1, .int (zI g)), (6, .int (zI (tGC (S 0 0) g))), (5, .int (zI (tGR (S 0 0) g))), (0, .ref (za G 8 0)), (4, .int (zI g))]) hx hb dX4_bestGrade_127 rfl hl (by decide) rfl (fun ls hl => ?_)
            refine lv_iinc (v := zI (g + 1)) (lv' := [(4, .int (zI (g + 1))), (3, .int (zI (tGC (S 0 0) g))), (2, .int (zI (tGR (S 0 0) g))), (1, .int (zI g)), (6, .int (zI (tGC (S 0 0) g))), (5, .int (zI (tGR (S 0 0) g))), (0, .ref (za G 8 0))]) hx hb dX4_bestGrade_128 hl (k := 6) rfl (zI_add _ _) (by decide) rfl (fun ls hl => ?_)
            refine lv_goto (tgt := 9) hx hb dX4_bestGrade_131 (by decide) ?_
            exact ih9 (g + 1) g (tGR (S 0 0) g) (tGC (S 0 0) g) (tPlan (zup (S 0 0) 1 g)) (zMk g (S 0 0 2)) q_52 _ _ _ (by omega) (by omega) (Or.inr (tBg_step hw (show 0 ≤ g ∧ g ≤ 5 by omega) hab (rfl : tGR (S 0 0) g = tGR (S 0 0) g) (rfl : tGC (S 0 0) g = tGC (S 0 0) g) (by omega))) hH (lv_sub hl [6, 3, 2, 1, 0] rfl)
          · refine lv_iload hx hb dX4_bestGrade_107 (lv_at hl 1 rfl) ?_
            refine lv_iload_n hx hb dX4_bestGrade_109 rfl (lv_at hl 4 rfl) ?_
            refine zb_cne (tgt := 128) h (by omega) (by omega) dX4_bestGrade_110 (by decide) (fun c_110 => ?_) (fun c_110 => ?_)
            · refine lv_iinc (v := zI (g + 1)) (lv' := [(4, .int (zI (g + 1))), (6, .int (zI (tGC (S 0 0) g))), (5, .int (zI (tGR (S 0 0) g))), (0, .ref (za G 8 0)), (1, .int (zI a)), (2, .int (zI b)), (3, .int (zI d))]) hx hb dX4_bestGrade_128 hl (k := 6) rfl (zI_add _ _) (by decide) rfl (fun ls hl => ?_)
              refine lv_goto (tgt := 9) hx hb dX4_bestGrade_131 (by decide) ?_
              exact ih9 (g + 1) a b d (tPlan (zup (S 0 0) 1 g)) (zMk g (S 0 0 2)) q_52 _ _ _ (by omega) (by omega) (Or.inr (tBg_step hw (show 0 ≤ g ∧ g ≤ 5 by omega) hab (rfl : tGR (S 0 0) g = tGR (S 0 0) g) (rfl : tGC (S 0 0) g = tGC (S 0 0) g) (by omega))) hH (lv_sub hl [3, 4, 5, 6, 0] rfl)
            · refine lv_iload hx hb dX4_bestGrade_113 (lv_at hl 0 rfl) ?_
              refine lv_iload_n hx hb dX4_bestGrade_115 rfl (lv_at hl 5 rfl) ?_
              refine zb_cge (tgt := 128) h (by omega) (by omega) dX4_bestGrade_116 (by decide) (fun c_116 => ?_) (fun c_116 => ?_)
              · refine lv_iinc (v := zI (g + 1)) (lv' := [(4, .int (zI (g + 1))), (6, .int (zI (tGC (S 0 0) g))), (5, .int (zI (tGR (S 0 0) g))), (0, .ref (za G 8 0)), (1, .int (zI a)), (2, .int (zI b)), (3, .int (zI d))]) hx hb dX4_bestGrade_128 hl (k := 6) rfl (zI_add _ _) (by decide) rfl (fun ls hl => ?_)
                refine lv_goto (tgt := 9) hx hb dX4_bestGrade_131 (by decide) ?_
                exact ih9 (g + 1) a b d (tPlan (zup (S 0 0) 1 g)) (zMk g (S 0 0 2)) q_52 _ _ _ (by omega) (by omega) (Or.inr (tBg_step hw (show 0 ≤ g ∧ g ≤ 5 by omega) hab (rfl : tGR (S 0 0) g = tGR (S 0 0) g) (rfl : tGC (S 0 0) g = tGC (S 0 0) g) (by omega))) hH (lv_sub hl [3, 4, 5, 6, 0] rfl)
              · refine lv_iload hx hb dX4_bestGrade_119 (lv_at hl 6 rfl) ?_
                refine lv_istore_n (lv' := [(1, .int (zI g)), (6, .int (zI (tGC (S 0 0) g))), (5, .int (zI (tGR (S 0 0) g))), (0, .ref (za G 8 0)), (2, .int (zI b)), (3, .int (zI d)), (4, .int (zI g))]) hx hb dX4_bestGrade_121 rfl hl (by decide) rfl (fun ls hl => ?_)
                refine lv_iload hx hb dX4_bestGrade_122 (lv_at hl 2 rfl) ?_
                refine lv_istore_n (lv' := [(2, .int (zI (tGR (S 0 0) g))), (1, .int (zI g)), (6, .int (zI (tGC (S 0 0) g))), (5, .int (zI (tGR (S 0 0) g))), (0, .ref (za G 8 0)), (3, .int (zI d)), (4, .int (zI g))]) hx hb dX4_bestGrade_124 rfl hl (by decide) rfl (fun ls hl => ?_)
                refine lv_iload hx hb dX4_bestGrade_125 (lv_at hl 2 rfl) ?_
                refine lv_istore_n (lv' := [(3, .int (zI (tGC (S 0 0) g))), (2, .int (zI (tGR (S 0 0) g))), (1, .int (zI g)), (6, .int (zI (tGC (S 0 0) g))), (5, .int (zI (tGR (S 0 0) g))), (0, .ref (za G 8 0)), (4, .int (zI g))]) hx hb dX4_bestGrade_127 rfl hl (by decide) rfl (fun ls hl => ?_)
                refine lv_iinc (v := zI (g + 1)) (lv' := [(4, .int (zI (g + 1))), (3, .int (zI (tGC (S 0 0) g))), (2, .int (zI (tGR (S 0 0) g))), (1, .int (zI g)), (6, .int (zI (tGC (S 0 0) g))), (5, .int (zI (tGR (S 0 0) g))), (0, .ref (za G 8 0))]) hx hb dX4_bestGrade_128 hl (k := 6) rfl (zI_add _ _) (by decide) rfl (fun ls hl => ?_)
                refine lv_goto (tgt := 9) hx hb dX4_bestGrade_131 (by decide) ?_
                exact ih9 (g + 1) g (tGR (S 0 0) g) (tGC (S 0 0) g) (tPlan (zup (S 0 0) 1 g)) (zMk g (S 0 0 2)) q_52 _ _ _ (by omega) (by omega) (Or.inr (tBg_step hw (show 0 ≤ g ∧ g ≤ 5 by omega) hab (rfl : tGR (S 0 0) g = tGR (S 0 0) g) (rfl : tGC (S 0 0) g = tGC (S 0 0) g) (by omega))) hH (lv_sub hl [6, 3, 2, 1, 0] rfl)
  refine zb_ic h dX4_bestGrade_0 ?_
  refine lv_istore_n (lv' := [(1, .int (zI (-1))), (0, .ref (za G 8 0))]) hx hb dX4_bestGrade_1 rfl hl (by decide) rfl (fun ls hl => ?_)
  refine zb_ic h dX4_bestGrade_2 ?_
  refine lv_istore_n (lv' := [(2, .int (zI 0)), (1, .int (zI (-1))), (0, .ref (za G 8 0))]) hx hb dX4_bestGrade_3 rfl hl (by decide) rfl (fun ls hl => ?_)
  refine zb_ic h dX4_bestGrade_4 ?_
  refine lv_istore_n (lv' := [(3, .int (zI 0)), (2, .int (zI 0)), (1, .int (zI (-1))), (0, .ref (za G 8 0))]) hx hb dX4_bestGrade_5 rfl hl (by decide) rfl (fun ls hl => ?_)
  refine zb_ic h dX4_bestGrade_6 ?_
  refine lv_istore (lv' := [(4, .int (zI 0)), (3, .int (zI 0)), (2, .int (zI 0)), (1, .int (zI (-1))), (0, .ref (za G 8 0))]) hx hb dX4_bestGrade_7 hl (by decide) rfl (fun ls hl => ?_)
  exact C9 ((6 - 0 : Int).toNat + 1) 0 (-1) 0 0 (S 1 0) (S 1 2) (S 1 8) _ _ _ (by omega) (by omega) (Or.inl ⟨rfl, rfl, rfl, rfl⟩) hH (lv_sub hl [4, 3, 2, 1, 0] rfl)
