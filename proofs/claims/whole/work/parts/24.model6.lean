theorem dX5_sum_0 : decode cX5_sum 0 = .ok (.iconst 0, 1) := by decide +kernel
theorem dX5_sum_1 : decode cX5_sum 1 = .ok (.istore_n 2, 1) := by decide +kernel
theorem dX5_sum_2 : decode cX5_sum 2 = .ok (.iconst 0, 1) := by decide +kernel
theorem dX5_sum_3 : decode cX5_sum 3 = .ok (.istore_n 3, 1) := by decide +kernel
theorem dX5_sum_4 : decode cX5_sum 4 = .ok (.iload_n 3, 1) := by decide +kernel
theorem dX5_sum_5 : decode cX5_sum 5 = .ok (.aload_n 0, 1) := by decide +kernel
theorem dX5_sum_6 : decode cX5_sum 6 = .ok (.getfield 7, 3) := by decide +kernel
theorem dX5_sum_9 : decode cX5_sum 9 = .ok (.iconst 4, 1) := by decide +kernel
theorem dX5_sum_10 : decode cX5_sum 10 = .ok (.iaload, 1) := by decide +kernel
theorem dX5_sum_11 : decode cX5_sum 11 = .ok (.if_icmp .ge 176, 3) := by decide +kernel
theorem dX5_sum_14 : decode cX5_sum 14 = .ok (.aload_n 0, 1) := by decide +kernel
theorem dX5_sum_15 : decode cX5_sum 15 = .ok (.iload_n 3, 1) := by decide +kernel
theorem dX5_sum_16 : decode cX5_sum 16 = .ok (.invokevirtual 71, 3) := by decide +kernel
theorem dX5_sum_19 : decode cX5_sum 19 = .ok (.aload_n 0, 1) := by decide +kernel
theorem dX5_sum_20 : decode cX5_sum 20 = .ok (.getfield 7, 3) := by decide +kernel
theorem dX5_sum_23 : decode cX5_sum 23 = .ok (.iload_n 3, 1) := by decide +kernel
theorem dX5_sum_24 : decode cX5_sum 24 = .ok (.iconst 1, 1) := by decide +kernel
theorem dX5_sum_25 : decode cX5_sum 25 = .ok (.invokestatic 51, 3) := by decide +kernel
theorem dX5_sum_28 : decode cX5_sum 28 = .ok (.iaload, 1) := by decide +kernel
theorem dX5_sum_29 : decode cX5_sum 29 = .ok (.isub, 1) := by decide +kernel
theorem dX5_sum_30 : decode cX5_sum 30 = .ok (.istore 4, 2) := by decide +kernel
theorem dX5_sum_32 : decode cX5_sum 32 = .ok (.iload_n 1, 1) := by decide +kernel
theorem dX5_sum_33 : decode cX5_sum 33 = .ok (.iconst 5, 1) := by decide +kernel
theorem dX5_sum_34 : decode cX5_sum 34 = .ok (.if_icmp .ne 16, 3) := by decide +kernel
theorem dX5_sum_37 : decode cX5_sum 37 = .ok (.iload 4, 2) := by decide +kernel
theorem dX5_sum_39 : decode cX5_sum 39 = .ok (.ifCond .ge 7, 3) := by decide +kernel
theorem dX5_sum_42 : decode cX5_sum 42 = .ok (.iconst 1, 1) := by decide +kernel
theorem dX5_sum_43 : decode cX5_sum 43 = .ok (.goto 46, 3) := by decide +kernel
theorem dX5_sum_46 : decode cX5_sum 46 = .ok (.iconst 0, 1) := by decide +kernel
theorem dX5_sum_47 : decode cX5_sum 47 = .ok (.goto 42, 3) := by decide +kernel
theorem dX5_sum_50 : decode cX5_sum 50 = .ok (.iload_n 1, 1) := by decide +kernel
theorem dX5_sum_51 : decode cX5_sum 51 = .ok (.bipush 6, 2) := by decide +kernel
theorem dX5_sum_53 : decode cX5_sum 53 = .ok (.if_icmp .ne 16, 3) := by decide +kernel
theorem dX5_sum_56 : decode cX5_sum 56 = .ok (.iload 4, 2) := by decide +kernel
theorem dX5_sum_58 : decode cX5_sum 58 = .ok (.ifCond .le 7, 3) := by decide +kernel
theorem dX5_sum_61 : decode cX5_sum 61 = .ok (.iconst 1, 1) := by decide +kernel
theorem dX5_sum_62 : decode cX5_sum 62 = .ok (.goto 27, 3) := by decide +kernel
theorem dX5_sum_65 : decode cX5_sum 65 = .ok (.iconst 0, 1) := by decide +kernel
theorem dX5_sum_66 : decode cX5_sum 66 = .ok (.goto 23, 3) := by decide +kernel
theorem dX5_sum_69 : decode cX5_sum 69 = .ok (.iload_n 1, 1) := by decide +kernel
theorem dX5_sum_70 : decode cX5_sum 70 = .ok (.bipush 9, 2) := by decide +kernel
theorem dX5_sum_72 : decode cX5_sum 72 = .ok (.if_icmp .ne 16, 3) := by decide +kernel
theorem dX5_sum_75 : decode cX5_sum 75 = .ok (.aload_n 0, 1) := by decide +kernel
theorem dX5_sum_76 : decode cX5_sum 76 = .ok (.iload_n 3, 1) := by decide +kernel
theorem dX5_sum_77 : decode cX5_sum 77 = .ok (.invokevirtual 81, 3) := by decide +kernel
theorem dX5_sum_80 : decode cX5_sum 80 = .ok (.iconst (-1), 1) := by decide +kernel
theorem dX5_sum_81 : decode cX5_sum 81 = .ok (.if_icmp .ne 7, 3) := by decide +kernel
theorem dX5_sum_84 : decode cX5_sum 84 = .ok (.iconst 1, 1) := by decide +kernel
theorem dX5_sum_85 : decode cX5_sum 85 = .ok (.goto 4, 3) := by decide +kernel
theorem dX5_sum_88 : decode cX5_sum 88 = .ok (.iconst 0, 1) := by decide +kernel
theorem dX5_sum_89 : decode cX5_sum 89 = .ok (.istore 5, 2) := by decide +kernel
theorem dX5_sum_91 : decode cX5_sum 91 = .ok (.iload_n 2, 1) := by decide +kernel
theorem dX5_sum_92 : decode cX5_sum 92 = .ok (.iload_n 1, 1) := by decide +kernel
theorem dX5_sum_93 : decode cX5_sum 93 = .ok (.bipush 7, 2) := by decide +kernel
theorem dX5_sum_95 : decode cX5_sum 95 = .ok (.if_icmp .ne 16, 3) := by decide +kernel
theorem dX5_sum_98 : decode cX5_sum 98 = .ok (.aload_n 0, 1) := by decide +kernel
theorem dX5_sum_99 : decode cX5_sum 99 = .ok (.getfield 7, 3) := by decide +kernel
theorem dX5_sum_102 : decode cX5_sum 102 = .ok (.iload_n 3, 1) := by decide +kernel
theorem dX5_sum_103 : decode cX5_sum 103 = .ok (.iconst 2, 1) := by decide +kernel
theorem dX5_sum_104 : decode cX5_sum 104 = .ok (.invokestatic 51, 3) := by decide +kernel
theorem dX5_sum_107 : decode cX5_sum 107 = .ok (.iaload, 1) := by decide +kernel
theorem dX5_sum_108 : decode cX5_sum 108 = .ok (.goto 32, 3) := by decide +kernel
theorem dX5_sum_111 : decode cX5_sum 111 = .ok (.iload_n 1, 1) := by decide +kernel
theorem dX5_sum_112 : decode cX5_sum 112 = .ok (.bipush 8, 2) := by decide +kernel
theorem dX5_sum_114 : decode cX5_sum 114 = .ok (.if_icmp .ne 16, 3) := by decide +kernel
theorem dX5_sum_117 : decode cX5_sum 117 = .ok (.aload_n 0, 1) := by decide +kernel
theorem dX5_sum_118 : decode cX5_sum 118 = .ok (.getfield 7, 3) := by decide +kernel
theorem dX5_sum_121 : decode cX5_sum 121 = .ok (.iload_n 3, 1) := by decide +kernel
theorem dX5_sum_122 : decode cX5_sum 122 = .ok (.iconst 3, 1) := by decide +kernel
theorem dX5_sum_123 : decode cX5_sum 123 = .ok (.invokestatic 51, 3) := by decide +kernel
theorem dX5_sum_126 : decode cX5_sum 126 = .ok (.iaload, 1) := by decide +kernel
theorem dX5_sum_127 : decode cX5_sum 127 = .ok (.goto 13, 3) := by decide +kernel
theorem dX5_sum_130 : decode cX5_sum 130 = .ok (.iload 5, 2) := by decide +kernel
theorem dX5_sum_132 : decode cX5_sum 132 = .ok (.ifCond .eq 7, 3) := by decide +kernel
theorem dX5_sum_135 : decode cX5_sum 135 = .ok (.iconst 1, 1) := by decide +kernel
theorem dX5_sum_136 : decode cX5_sum 136 = .ok (.goto 4, 3) := by decide +kernel
theorem dX5_sum_139 : decode cX5_sum 139 = .ok (.iconst 0, 1) := by decide +kernel
theorem dX5_sum_140 : decode cX5_sum 140 = .ok (.iadd, 1) := by decide +kernel
theorem dX5_sum_141 : decode cX5_sum 141 = .ok (.istore_n 2, 1) := by decide +kernel
theorem dX5_sum_142 : decode cX5_sum 142 = .ok (.iconst 0, 1) := by decide +kernel
theorem dX5_sum_143 : decode cX5_sum 143 = .ok (.istore 6, 2) := by decide +kernel
theorem dX5_sum_145 : decode cX5_sum 145 = .ok (.iload 6, 2) := by decide +kernel
theorem dX5_sum_147 : decode cX5_sum 147 = .ok (.iload_n 3, 1) := by decide +kernel
theorem dX5_sum_148 : decode cX5_sum 148 = .ok (.if_icmp .ge 33, 3) := by decide +kernel
theorem dX5_sum_151 : decode cX5_sum 151 = .ok (.iload_n 1, 1) := by decide +kernel
theorem dX5_sum_152 : decode cX5_sum 152 = .ok (.bipush 10, 2) := by decide +kernel
theorem dX5_sum_154 : decode cX5_sum 154 = .ok (.if_icmp .ne 27, 3) := by decide +kernel
theorem dX5_sum_157 : decode cX5_sum 157 = .ok (.iload_n 2, 1) := by decide +kernel
theorem dX5_sum_158 : decode cX5_sum 158 = .ok (.aload_n 0, 1) := by decide +kernel
theorem dX5_sum_159 : decode cX5_sum 159 = .ok (.iload_n 3, 1) := by decide +kernel
theorem dX5_sum_160 : decode cX5_sum 160 = .ok (.iload 6, 2) := by decide +kernel
theorem dX5_sum_162 : decode cX5_sum 162 = .ok (.invokevirtual 103, 3) := by decide +kernel
theorem dX5_sum_165 : decode cX5_sum 165 = .ok (.ifCond .eq 7, 3) := by decide +kernel
theorem dX5_sum_168 : decode cX5_sum 168 = .ok (.iconst 1, 1) := by decide +kernel
theorem dX5_sum_169 : decode cX5_sum 169 = .ok (.goto 4, 3) := by decide +kernel
theorem dX5_sum_172 : decode cX5_sum 172 = .ok (.iconst 0, 1) := by decide +kernel
theorem dX5_sum_173 : decode cX5_sum 173 = .ok (.iadd, 1) := by decide +kernel
theorem dX5_sum_174 : decode cX5_sum 174 = .ok (.istore_n 2, 1) := by decide +kernel
theorem dX5_sum_175 : decode cX5_sum 175 = .ok (.iinc 6 1, 3) := by decide +kernel
theorem dX5_sum_178 : decode cX5_sum 178 = .ok (.goto (-33), 3) := by decide +kernel
theorem dX5_sum_181 : decode cX5_sum 181 = .ok (.iinc 3 1, 3) := by decide +kernel
theorem dX5_sum_184 : decode cX5_sum 184 = .ok (.goto (-180), 3) := by decide +kernel
theorem dX5_sum_187 : decode cX5_sum 187 = .ok (.iload_n 2, 1) := by decide +kernel
theorem dX5_sum_188 : decode cX5_sum 188 = .ok (.ireturn, 1) := by decide +kernel
def q_X5_sum (S : zM) (what : Int) : Int32 → zM → Prop := fun r S1 => r = zI (zsum (tSu (S 9 1) what) (S 9 1 4).toNat) ∧ ∃ M', zMo S (S 9 0) (S 9 1) (S 9 2) (S 9 3) (S 9 4) M' (S 9 6) = S1
def r_X5_sum : Room := { frames := 5, cells := 0, slots := 0, locals := 116 }
set_option maxHeartbeats 4000000 in
set_option maxRecDepth 100000 in
theorem c_X5_sum (l : Launch) (G : zG) (hG : zok G) (S : zM) (what : Int) (hwh : 5 ≤ what ∧ what ≤ 10) (hw : zW (S 9 1)) : Met l yX5_sum (Cond.code yX5_sum cX5_sum 7 (some FieldType.int) :: zTbl) r_X5_sum (va_Pc [.ref (za G 9 0), .int (zI what)] (zB G S)) (va_Qi (q_X5_sum S what) (zB G) (zA G)) 0 0 (zA G) := by
  refine zMet [(0, .ref (za G 9 0)), (1, .int (zI what))] hG (by decide) (Nat.le_of_ble_eq_true rfl) rfl (fun p e s m args below meth c ls h hx hb hr hH hl => ?_)
  rw [← zM_id S] at hH
  have C4 : ∀ (fu : Nat) (o n : Int) (M : Int → Int) (H : Heap) (locs : List Loc) (ls : Array Slot), (S 9 1 4 - o).toNat < fu → (0 ≤ o ∧ o ≤ S 9 1 4) → (n = zsum (tSu (S 9 1) what) o.toNat) → zH G (zMo S (S 9 0) (S 9 1) (S 9 2) (S 9 3) (S 9 4) M (S 9 6)) s H locs → lv_has ls 7 [(0, .ref (za G 9 0)), (1, .int (zI what)), (2, .int (zI n)), (3, .int (zI o))] → W p l e r_X5_sum s m args below meth c H locs 0 0 (MQ below (va_Qi (q_X5_sum S what) (zB G) (zA G)) args s 0 0 (zA G)) (F0 m 4 ls []) := by
    intro fu
    induction fu with
    | zero => intro o n M H locs ls hfu; omega
    | succ fu ih4 =>
      intro o n M H locs ls hfu ho hn hH hl
      have f4 := zW_4 hw
      have C145 : ∀ (fu : Nat) (j n2 : Int) (M2 : Int → Int) (H : Heap) (locs : List Loc) (ls : Array Slot), (o - j).toNat < fu → (0 ≤ j ∧ j ≤ o) → (o < S 9 1 4) → (n2 = n + (if what = 10 then zsum (fun o_1 => if S 9 1 (5 + 5 * o + 4) / 2 ^ o_1.toNat % 2 = 1 then 1 else 0) j.toNat else tSu (S 9 1) what o)) → zH G (zMo S (S 9 0) (S 9 1) (S 9 2) (S 9 3) (S 9 4) M2 (S 9 6)) s H locs → lv_has ls 7 [(0, .ref (za G 9 0)), (1, .int (zI what)), (2, .int (zI n2)), (3, .int (zI o)), (6, .int (zI j))] → W p l e r_X5_sum s m args below meth c H locs 0 0 (MQ below (va_Qi (q_X5_sum S what) (zB G) (zA G)) args s 0 0 (zA G)) (F0 m 145 ls []) := by
        intro fu
        induction fu with
        | zero => intro j n2 M2 H locs ls hfu; omega
        | succ fu ih145 =>
          intro j n2 M2 H locs ls hfu hj hol hn2 hH hl
          refine lv_iload hx hb dX5_sum_145 (lv_at hl 4 rfl) ?_
          refine lv_iload_n hx hb dX5_sum_147 rfl (lv_at hl 3 rfl) ?_
          refine zb_cge (tgt := 181) h (by omega) (by omega) dX5_sum_148 (by decide) (fun c_148 => ?_) (fun c_148 => ?_)
          · refine lv_iinc (v := zI (o + 1)) (lv' := [(3, .int (zI (o + 1))), (0, .ref (za G 9 0)), (1, .int (zI what)), (2, .int (zI n2)), (6, .int (zI j))]) hx hb dX5_sum_181 hl (k := 3) rfl (zI_add _ _) (by decide) rfl (fun ls hl => ?_)
            refine lv_goto (tgt := 4) hx hb dX5_sum_184 (by decide) ?_
            exact ih4 (o + 1) n2 M2 _ _ _ (by omega) (by have := zW_4 hw; omega) (by rw [zsum_s _ ho.1, ← hn, hn2]; exact (if e10 : what = 10 then (by first | exact absurd e10 (by omega) | (rw [if_pos e10, show j = o by omega]; unfold tSu; rw [if_neg (by omega), if_neg (by omega), if_neg (by omega), if_neg (by omega), if_neg (by omega)])) else (by rw [if_neg e10]))) hH (lv_sub hl [1, 2, 3, 0] rfl)
          · refine lv_iload_n hx hb dX5_sum_151 rfl (lv_at hl 1 rfl) ?_
            refine zb_bi h dX5_sum_152 (by decide) (by decide) ?_
            refine zb_cne (tgt := 181) h (by omega) (by omega) dX5_sum_154 (by decide) (fun c_154 => ?_) (fun c_154 => ?_)
            · refine lv_iinc (v := zI (o + 1)) (lv' := [(3, .int (zI (o + 1))), (0, .ref (za G 9 0)), (1, .int (zI what)), (2, .int (zI n2)), (6, .int (zI j))]) hx hb dX5_sum_181 hl (k := 3) rfl (zI_add _ _) (by decide) rfl (fun ls hl => ?_)
              refine lv_goto (tgt := 4) hx hb dX5_sum_184 (by decide) ?_
              exact ih4 (o + 1) n2 M2 _ _ _ (by omega) (by have := zW_4 hw; omega) (by rw [zsum_s _ ho.1, ← hn, hn2]; exact (if e10 : what = 10 then (by first | exact absurd e10 (by omega) | (rw [if_pos e10, show j = o by omega]; unfold tSu; rw [if_neg (by omega), if_neg (by omega), if_neg (by omega), if_neg (by omega), if_neg (by omega)])) else (by rw [if_neg e10]))) hH (lv_sub hl [1, 2, 3, 0] rfl)
            · refine lv_iload_n hx hb dX5_sum_157 rfl (lv_at hl 2 rfl) ?_
              refine lv_aload_n hx hb dX5_sum_158 rfl (lv_at hl 0 rfl) ?_
              refine lv_iload_n hx hb dX5_sum_159 rfl (lv_at hl 3 rfl) ?_
              refine lv_iload hx hb dX5_sum_160 (lv_at hl 4 rfl) ?_
              refine zcVi h hH (zr_5 h hH) (As := [.int (zI o), .int (zI j)]) (rest := [.int (zI n2)]) (c_X5_areLinked l G hG (zMo S (S 9 0) (S 9 1) (S 9 2) (S 9 3) (S 9 4) M2 (S 9 6)) o j (by omega) (by omega) (zM_hw hw)) zce_X5_areLinked zcv_X5_areLinked zm_X5_103 hl.1 rfl rfl ⟨rfl, rfl⟩ ⟨Nat.le_of_ble_eq_true rfl, Nat.le_of_ble_eq_true rfl⟩ (Nat.le_of_ble_eq_true rfl) ⟨Nat.zero_le _, Nat.zero_le _⟩ dX5_sum_162 (fun r_162 S_162 H locs hq hH => ?_)
              obtain ⟨b_162, rfl, hb_162, rfl⟩ := hq
              (try rw [zM_1] at hb_162)
              refine zb_ieq (tgt := 172) h (by omega) dX5_sum_165 (by decide) (fun c_165 => ?_) (fun c_165 => ?_)
              · refine zb_ic h dX5_sum_172 ?_
                refine zb_iadd h dX5_sum_173 ?_
                refine lv_istore_n (lv' := [(2, .int (zI (n2 + 0))), (0, .ref (za G 9 0)), (1, .int (zI what)), (3, .int (zI o)), (6, .int (zI j))]) hx hb dX5_sum_174 rfl hl (by decide) rfl (fun ls hl => ?_)
                refine lv_iinc (v := zI (j + 1)) (lv' := [(6, .int (zI (j + 1))), (2, .int (zI (n2 + 0))), (0, .ref (za G 9 0)), (1, .int (zI what)), (3, .int (zI o))]) hx hb dX5_sum_175 hl (k := 4) rfl (zI_add _ _) (by decide) rfl (fun ls hl => ?_)
                refine lv_goto (tgt := 145) hx hb dX5_sum_178 (by decide) ?_
                exact ih145 (j + 1) (n2 + 0) M2 _ _ _ (by omega) (by omega) (by omega) (by rw [if_pos (by omega)] at hn2; rw [if_pos (by omega), zsum_s _ hj.1, hn2]; first | (rw [if_pos (by omega)]; omega) | (rw [if_neg (by omega)]; omega)) hH (lv_sub hl [2, 3, 1, 4, 0] rfl)
              · refine zb_ic h dX5_sum_168 ?_
                refine lv_goto (tgt := 173) hx hb dX5_sum_169 (by decide) ?_
                refine zb_iadd h dX5_sum_173 ?_
                refine lv_istore_n (lv' := [(2, .int (zI (n2 + 1))), (0, .ref (za G 9 0)), (1, .int (zI what)), (3, .int (zI o)), (6, .int (zI j))]) hx hb dX5_sum_174 rfl hl (by decide) rfl (fun ls hl => ?_)
                refine lv_iinc (v := zI (j + 1)) (lv' := [(6, .int (zI (j + 1))), (2, .int (zI (n2 + 1))), (0, .ref (za G 9 0)), (1, .int (zI what)), (3, .int (zI o))]) hx hb dX5_sum_175 hl (k := 4) rfl (zI_add _ _) (by decide) rfl (fun ls hl => ?_)
                refine lv_goto (tgt := 145) hx hb dX5_sum_178 (by decide) ?_
                exact ih145 (j + 1) (n2 + 1) M2 _ _ _ (by omega) (by omega) (by omega) (by rw [if_pos (by omega)] at hn2; rw [if_pos (by omega), zsum_s _ hj.1, hn2]; first | (rw [if_pos (by omega)]; omega) | (rw [if_neg (by omega)]; omega)) hH (lv_sub hl [2, 3, 1, 4, 0] rfl)
      have C89 : ∀ (w0 : Int) (M2 : Int → Int) (H : Heap) (locs : List Loc) (ls : Array Slot), (o < S 9 1 4) → ((w0 = 1 ∧ (what = 5 ∧ tOff (S 9 1) o < 0 ∨ what = 6 ∧ 0 < tOff (S 9 1) o ∨ what = 9 ∧ tLn (S 9 1) o = -1)) ∨ (w0 = 0 ∧ ¬ (what = 5 ∧ tOff (S 9 1) o < 0 ∨ what = 6 ∧ 0 < tOff (S 9 1) o ∨ what = 9 ∧ tLn (S 9 1) o = -1))) → zH G (zMo S (S 9 0) (S 9 1) (S 9 2) (S 9 3) (S 9 4) M2 (S 9 6)) s H locs → lv_has ls 7 [(0, .ref (za G 9 0)), (1, .int (zI what)), (2, .int (zI n)), (3, .int (zI o)), (4, .int (zI ((tTo (S 9 1) o) - (S 9 1 (5 + 5 * o + 1)))))] → W p l e r_X5_sum s m args below meth c H locs 0 0 (MQ below (va_Qi (q_X5_sum S what) (zB G) (zA G)) args s 0 0 (zA G)) (F0 m 89 ls [.int (zI w0)]) := by
        intro w0 M2 H locs ls hol hw0 hH hl
        refine lv_istore (lv' := [(5, .int (zI w0)), (0, .ref (za G 9 0)), (1, .int (zI what)), (2, .int (zI n)), (3, .int (zI o)), (4, .int (zI ((tTo (S 9 1) o) - (S 9 1 (5 + 5 * o + 1)))))]) hx hb dX5_sum_89 hl (by decide) rfl (fun ls hl => ?_)
        refine lv_iload_n hx hb dX5_sum_91 rfl (lv_at hl 3 rfl) ?_
        refine lv_iload_n hx hb dX5_sum_92 rfl (lv_at hl 2 rfl) ?_
        refine zb_bi h dX5_sum_93 (by decide) (by decide) ?_
        refine zb_cne (tgt := 111) h (by omega) (by omega) dX5_sum_95 (by decide) (fun c_95 => ?_) (fun c_95 => ?_)
        · refine lv_iload_n hx hb dX5_sum_111 rfl (lv_at hl 2 rfl) ?_
          refine zb_bi h dX5_sum_112 (by decide) (by decide) ?_
          refine zb_cne (tgt := 130) h (by omega) (by omega) dX5_sum_114 (by decide) (fun c_114 => ?_) (fun c_114 => ?_)
          · refine lv_iload hx hb dX5_sum_130 (lv_at hl 0 rfl) ?_
            refine zb_ieq (tgt := 139) h (by omega) dX5_sum_132 (by decide) (fun c_132 => ?_) (fun c_132 => ?_)
            · refine zb_ic h dX5_sum_139 ?_
              refine zb_iadd h dX5_sum_140 ?_
              refine lv_istore_n (lv' := [(2, .int (zI (n + 0))), (5, .int (zI w0)), (0, .ref (za G 9 0)), (1, .int (zI what)), (3, .int (zI o)), (4, .int (zI ((tTo (S 9 1) o) - (S 9 1 (5 + 5 * o + 1)))))]) hx hb dX5_sum_141 rfl hl (by decide) rfl (fun ls hl => ?_)
              refine zb_ic h dX5_sum_142 ?_
              refine lv_istore (lv' := [(6, .int (zI 0)), (2, .int (zI (n + 0))), (5, .int (zI w0)), (0, .ref (za G 9 0)), (1, .int (zI what)), (3, .int (zI o)), (4, .int (zI ((tTo (S 9 1) o) - (S 9 1 (5 + 5 * o + 1)))))]) hx hb dX5_sum_143 hl (by decide) rfl (fun ls hl => ?_)
              exact C145 ((o - 0 : Int).toNat + 1) 0 (n + 0) M2 _ _ _ (by omega) (by omega) (by omega) (if e10 : what = 10 then (by rw [if_pos e10]; first | rfl | (exfalso; omega)) else (by rw [if_neg e10]; unfold tSu; (repeat split) <;> omega)) hH (lv_sub hl [3, 4, 1, 5, 0] rfl)
            · refine zb_ic h dX5_sum_135 ?_
              refine lv_goto (tgt := 140) hx hb dX5_sum_136 (by decide) ?_
              refine zb_iadd h dX5_sum_140 ?_
              refine lv_istore_n (lv' := [(2, .int (zI (n + 1))), (5, .int (zI w0)), (0, .ref (za G 9 0)), (1, .int (zI what)), (3, .int (zI o)), (4, .int (zI ((tTo (S 9 1) o) - (S 9 1 (5 + 5 * o + 1)))))]) hx hb dX5_sum_141 rfl hl (by decide) rfl (fun ls hl => ?_)
              refine zb_ic h dX5_sum_142 ?_
              refine lv_istore (lv' := [(6, .int (zI 0)), (2, .int (zI (n + 1))), (5, .int (zI w0)), (0, .ref (za G 9 0)), (1, .int (zI what)), (3, .int (zI o)), (4, .int (zI ((tTo (S 9 1) o) - (S 9 1 (5 + 5 * o + 1)))))]) hx hb dX5_sum_143 hl (by decide) rfl (fun ls hl => ?_)
              exact C145 ((o - 0 : Int).toNat + 1) 0 (n + 1) M2 _ _ _ (by omega) (by omega) (by omega) (if e10 : what = 10 then (by rw [if_pos e10]; first | rfl | (exfalso; omega)) else (by rw [if_neg e10]; unfold tSu; (repeat split) <;> omega)) hH (lv_sub hl [3, 4, 1, 5, 0] rfl)
          · refine lv_aload_n hx hb dX5_sum_117 rfl (lv_at hl 1 rfl) ?_
            refine zg_5_1 h hH zf_X5_7 dX5_sum_118 ?_
            refine lv_iload_n hx hb dX5_sum_121 rfl (lv_at hl 4 rfl) ?_
            refine zb_ic h dX5_sum_122 ?_
            refine zcSi h hH (As := [.int (zI o), .int (zI 3)]) (rest := [.ref (za G 9 1), .int (zI n)]) (c_X5_of l G hG (zMo S (S 9 0) (S 9 1) (S 9 2) (S 9 3) (S 9 4) M2 (S 9 6)) o 3) zce_X5_of zt_X5_of zm_X5_51 hl.1 rfl rfl ⟨rfl, rfl⟩ ⟨Nat.le_of_ble_eq_true rfl, Nat.le_of_ble_eq_true rfl⟩ (Nat.le_of_ble_eq_true rfl) ⟨Nat.zero_le _, Nat.zero_le _⟩ dX5_sum_123 (fun r_123 S_123 H locs hq hH => ?_)
            obtain ⟨rfl, rfl⟩ := hq
            refine zld_ar_s h hH (by omega) dX5_sum_126 ?_
            rw [zM_1]
            have f_126 := zW_ho hw (show 0 ≤ o ∧ o < 8 by omega)
            refine lv_goto (tgt := 140) hx hb dX5_sum_127 (by decide) ?_
            refine zb_iadd h dX5_sum_140 ?_
            refine lv_istore_n (lv' := [(2, .int (zI (n + (S 9 1 (5 + 5 * o + 3))))), (5, .int (zI w0)), (0, .ref (za G 9 0)), (1, .int (zI what)), (3, .int (zI o)), (4, .int (zI ((tTo (S 9 1) o) - (S 9 1 (5 + 5 * o + 1)))))]) hx hb dX5_sum_141 rfl hl (by decide) rfl (fun ls hl => ?_)
            refine zb_ic h dX5_sum_142 ?_
            refine lv_istore (lv' := [(6, .int (zI 0)), (2, .int (zI (n + (S 9 1 (5 + 5 * o + 3))))), (5, .int (zI w0)), (0, .ref (za G 9 0)), (1, .int (zI what)), (3, .int (zI o)), (4, .int (zI ((tTo (S 9 1) o) - (S 9 1 (5 + 5 * o + 1)))))]) hx hb dX5_sum_143 hl (by decide) rfl (fun ls hl => ?_)
            exact C145 ((o - 0 : Int).toNat + 1) 0 (n + (S 9 1 (5 + 5 * o + 3))) M2 _ _ _ (by omega) (by omega) (by omega) (if e10 : what = 10 then (by rw [if_pos e10]; first | rfl | (exfalso; omega)) else (by rw [if_neg e10]; unfold tSu; (repeat split) <;> omega)) hH (lv_sub hl [3, 4, 1, 5, 0] rfl)
        · refine lv_aload_n hx hb dX5_sum_98 rfl (lv_at hl 1 rfl) ?_
          refine zg_5_1 h hH zf_X5_7 dX5_sum_99 ?_
          refine lv_iload_n hx hb dX5_sum_102 rfl (lv_at hl 4 rfl) ?_
          refine zb_ic h dX5_sum_103 ?_
          refine zcSi h hH (As := [.int (zI o), .int (zI 2)]) (rest := [.ref (za G 9 1), .int (zI n)]) (c_X5_of l G hG (zMo S (S 9 0) (S 9 1) (S 9 2) (S 9 3) (S 9 4) M2 (S 9 6)) o 2) zce_X5_of zt_X5_of zm_X5_51 hl.1 rfl rfl ⟨rfl, rfl⟩ ⟨Nat.le_of_ble_eq_true rfl, Nat.le_of_ble_eq_true rfl⟩ (Nat.le_of_ble_eq_true rfl) ⟨Nat.zero_le _, Nat.zero_le _⟩ dX5_sum_104 (fun r_104 S_104 H locs hq hH => ?_)
          obtain ⟨rfl, rfl⟩ := hq
          refine zld_ar_s h hH (by omega) dX5_sum_107 ?_
          rw [zM_1]
          have f_107 := zW_bu hw (show 0 ≤ o ∧ o < 8 by omega)
          refine lv_goto (tgt := 140) hx hb dX5_sum_108 (by decide) ?_
          refine zb_iadd h dX5_sum_140 ?_
          refine lv_istore_n (lv' := [(2, .int (zI (n + (S 9 1 (5 + 5 * o + 2))))), (5, .int (zI w0)), (0, .ref (za G 9 0)), (1, .int (zI what)), (3, .int (zI o)), (4, .int (zI ((tTo (S 9 1) o) - (S 9 1 (5 + 5 * o + 1)))))]) hx hb dX5_sum_141 rfl hl (by decide) rfl (fun ls hl => ?_)
          refine zb_ic h dX5_sum_142 ?_
          refine lv_istore (lv' := [(6, .int (zI 0)), (2, .int (zI (n + (S 9 1 (5 + 5 * o + 2))))), (5, .int (zI w0)), (0, .ref (za G 9 0)), (1, .int (zI what)), (3, .int (zI o)), (4, .int (zI ((tTo (S 9 1) o) - (S 9 1 (5 + 5 * o + 1)))))]) hx hb dX5_sum_143 hl (by decide) rfl (fun ls hl => ?_)
          exact C145 ((o - 0 : Int).toNat + 1) 0 (n + (S 9 1 (5 + 5 * o + 2))) M2 _ _ _ (by omega) (by omega) (by omega) (if e10 : what = 10 then (by rw [if_pos e10]; first | rfl | (exfalso; omega)) else (by rw [if_neg e10]; unfold tSu; (repeat split) <;> omega)) hH (lv_sub hl [3, 4, 1, 5, 0] rfl)
      refine lv_iload_n hx hb dX5_sum_4 rfl (lv_at hl 3 rfl) ?_
      refine lv_aload_n hx hb dX5_sum_5 rfl (lv_at hl 0 rfl) ?_
      refine zg_5_1 h hH zf_X5_7 dX5_sum_6 ?_
      refine zb_ic h dX5_sum_9 ?_
      refine zld_ar_s h hH (by omega) dX5_sum_10 ?_
      rw [zM_1]
      have f_10 := zW_4 hw
      refine zb_cge (tgt := 187) h (by omega) (by omega) dX5_sum_11 (by decide) (fun c_11 => ?_) (fun c_11 => ?_)
      · refine lv_iload_n hx hb dX5_sum_187 rfl (lv_at hl 2 rfl) ?_
        refine zri h hr hH ?_ dX5_sum_188
        obtain rfl : o = S 9 1 4 := by omega
        exact ⟨by rw [hn], _, rfl⟩
      · refine lv_aload_n hx hb dX5_sum_14 rfl (lv_at hl 0 rfl) ?_
        refine lv_iload_n hx hb dX5_sum_15 rfl (lv_at hl 3 rfl) ?_
        refine zcVi h hH (zr_5 h hH) (As := [.int (zI o)]) (rest := []) (c_X5_tone l G hG (zMo S (S 9 0) (S 9 1) (S 9 2) (S 9 3) (S 9 4) M (S 9 6)) o (by omega) (zM_hw hw)) zce_X5_tone zcv_X5_tone zm_X5_71 hl.1 rfl rfl ⟨rfl, rfl⟩ ⟨Nat.le_of_ble_eq_true rfl, Nat.le_of_ble_eq_true rfl⟩ (Nat.le_of_ble_eq_true rfl) ⟨Nat.zero_le _, Nat.zero_le _⟩ dX5_sum_16 (fun r_16 S_16 H locs hq hH => ?_)
        obtain ⟨rfl, M_16, rfl⟩ := hq
        simp only [zM_M, zM_0, zM_1, zM_2, zM_3, zM_4, zM_5, zM_6] at hH
        rw [zM_1]
        have b_16 := tTo_in (S 9 1) o
        have bo := tOff_in hw (show 0 ≤ o ∧ o < 8 by omega)
        have et : tOff (S 9 1) o = tTo (S 9 1) o - S 9 1 (5 + 5 * o + 1) := rfl
        refine lv_aload_n hx hb dX5_sum_19 rfl (lv_at hl 0 rfl) ?_
        refine zg_5_1 h hH zf_X5_7 dX5_sum_20 ?_
        refine lv_iload_n hx hb dX5_sum_23 rfl (lv_at hl 3 rfl) ?_
        refine zb_ic h dX5_sum_24 ?_
        refine zcSi h hH (As := [.int (zI o), .int (zI 1)]) (rest := [.ref (za G 9 1), .int (zI (tTo (S 9 1) o))]) (c_X5_of l G hG (zMo S (S 9 0) (S 9 1) (S 9 2) (S 9 3) (S 9 4) M_16 (S 9 6)) o 1) zce_X5_of zt_X5_of zm_X5_51 hl.1 rfl rfl ⟨rfl, rfl⟩ ⟨Nat.le_of_ble_eq_true rfl, Nat.le_of_ble_eq_true rfl⟩ (Nat.le_of_ble_eq_true rfl) ⟨Nat.zero_le _, Nat.zero_le _⟩ dX5_sum_25 (fun r_25 S_25 H locs hq hH => ?_)
        obtain ⟨rfl, rfl⟩ := hq
        refine zld_ar_s h hH (by omega) dX5_sum_28 ?_
        rw [zM_1]
        have f_28 := zW_wa hw (show 0 ≤ o ∧ o < 8 by omega)
        refine zb_isub h dX5_sum_29 ?_
        refine lv_istore (lv' := [(4, .int (zI ((tTo (S 9 1) o) - (S 9 1 (5 + 5 * o + 1))))), (0, .ref (za G 9 0)), (1, .int (zI what)), (2, .int (zI n)), (3, .int (zI o))]) hx hb dX5_sum_30 hl (by decide) rfl (fun ls hl => ?_)
        refine lv_iload_n hx hb dX5_sum_32 rfl (lv_at hl 2 rfl) ?_
        refine zb_ic h dX5_sum_33 ?_
        refine zb_cne (tgt := 50) h (by omega) (by omega) dX5_sum_34 (by decide) (fun c_34 => ?_) (fun c_34 => ?_)
        · refine lv_iload_n hx hb dX5_sum_50 rfl (lv_at hl 2 rfl) ?_
          refine zb_bi h dX5_sum_51 (by decide) (by decide) ?_
          refine zb_cne (tgt := 69) h (by omega) (by omega) dX5_sum_53 (by decide) (fun c_53 => ?_) (fun c_53 => ?_)
          · refine lv_iload_n hx hb dX5_sum_69 rfl (lv_at hl 2 rfl) ?_
            refine zb_bi h dX5_sum_70 (by decide) (by decide) ?_
            refine zb_cne (tgt := 88) h (by omega) (by omega) dX5_sum_72 (by decide) (fun c_72 => ?_) (fun c_72 => ?_)
            · refine zb_ic h dX5_sum_88 ?_
              exact C89 0 M_16 _ _ _  (by omega) (by omega) hH (lv_sub hl [1, 2, 3, 4, 0] rfl)
            · refine lv_aload_n hx hb dX5_sum_75 rfl (lv_at hl 1 rfl) ?_
              refine lv_iload_n hx hb dX5_sum_76 rfl (lv_at hl 4 rfl) ?_
              refine zcVi h hH (zr_5 h hH) (As := [.int (zI o)]) (rest := []) (c_X5_leastNeeded l G hG (zMo S (S 9 0) (S 9 1) (S 9 2) (S 9 3) (S 9 4) M_16 (S 9 6)) o (by omega) (zM_hw hw)) zce_X5_leastNeeded zcv_X5_leastNeeded zm_X5_81 hl.1 rfl rfl ⟨rfl, rfl⟩ ⟨Nat.le_of_ble_eq_true rfl, Nat.le_of_ble_eq_true rfl⟩ (Nat.le_of_ble_eq_true rfl) ⟨Nat.zero_le _, Nat.zero_le _⟩ dX5_sum_77 (fun r_77 S_77 H locs hq hH => ?_)
              obtain ⟨rfl, M_77, rfl⟩ := hq
              simp only [zM_M, zM_0, zM_1, zM_2, zM_3, zM_4, zM_5, zM_6] at hH
              rw [zM_1]
              have b_77 := tLn_in hw o
              refine zb_ic h dX5_sum_80 ?_
              refine zb_cne (tgt := 88) h (by omega) (by omega) dX5_sum_81 (by decide) (fun c_81 => ?_) (fun c_81 => ?_)
              · refine zb_ic h dX5_sum_88 ?_
                exact C89 0 M_77 _ _ _  (by omega) (by omega) hH (lv_sub hl [1, 2, 3, 4, 0] rfl)
              · refine zb_ic h dX5_sum_84 ?_
                refine lv_goto (tgt := 89) hx hb dX5_sum_85 (by decide) ?_
                exact C89 1 M_77 _ _ _  (by omega) (by omega) hH (lv_sub hl [1, 2, 3, 4, 0] rfl)
          · refine lv_iload hx hb dX5_sum_56 (lv_at hl 0 rfl) ?_
            refine zb_ile (tgt := 65) h (by omega) dX5_sum_58 (by decide) (fun c_58 => ?_) (fun c_58 => ?_)
            · refine zb_ic h dX5_sum_65 ?_
              refine lv_goto (tgt := 89) hx hb dX5_sum_66 (by decide) ?_
              exact C89 0 M_16 _ _ _  (by omega) (by omega) hH (lv_sub hl [1, 2, 3, 4, 0] rfl)
            · refine zb_ic h dX5_sum_61 ?_
              refine lv_goto (tgt := 89) hx hb dX5_sum_62 (by decide) ?_
              exact C89 1 M_16 _ _ _  (by omega) (by omega) hH (lv_sub hl [1, 2, 3, 4, 0] rfl)
        · refine lv_iload hx hb dX5_sum_37 (lv_at hl 0 rfl) ?_
          refine zb_ige (tgt := 46) h (by omega) dX5_sum_39 (by decide) (fun c_39 => ?_) (fun c_39 => ?_)
          · refine zb_ic h dX5_sum_46 ?_
            refine lv_goto (tgt := 89) hx hb dX5_sum_47 (by decide) ?_
            exact C89 0 M_16 _ _ _  (by omega) (by omega) hH (lv_sub hl [1, 2, 3, 4, 0] rfl)
          · refine zb_ic h dX5_sum_42 ?_
            refine lv_goto (tgt := 89) hx hb dX5_sum_43 (by decide) ?_
            exact C89 1 M_16 _ _ _  (by omega) (by omega) hH (lv_sub hl [1, 2, 3, 4, 0] rfl)
  refine zb_ic h dX5_sum_0 ?_
  refine lv_istore_n (lv' := [(2, .int (zI 0)), (0, .ref (za G 9 0)), (1, .int (zI what))]) hx hb dX5_sum_1 rfl hl (by decide) rfl (fun ls hl => ?_)
  refine zb_ic h dX5_sum_2 ?_
  refine lv_istore_n (lv' := [(3, .int (zI 0)), (2, .int (zI 0)), (0, .ref (za G 9 0)), (1, .int (zI what))]) hx hb dX5_sum_3 rfl hl (by decide) rfl (fun ls hl => ?_)
  exact C4 ((S 9 1 4 - 0 : Int).toNat + 1) 0 0 (S 9 5) _ _ _ (by omega) (by have := zW_4 hw; omega) rfl hH (lv_sub hl [2, 3, 1, 0] rfl)
theorem dX5_counted_0 : decode cX5_counted 0 = .ok (.iload_n 1, 1) := by decide +kernel
theorem dX5_counted_1 : decode cX5_counted 1 = .ok (.tableswitch 91 0 11 #[63, 70, 70, 70, 81, 91, 91, 91, 91, 91, 91, 86], 63) := by decide +kernel
theorem dX5_counted_64 : decode cX5_counted 64 = .ok (.aload_n 0, 1) := by decide +kernel
theorem dX5_counted_65 : decode cX5_counted 65 = .ok (.getfield 7, 3) := by decide +kernel
theorem dX5_counted_68 : decode cX5_counted 68 = .ok (.iconst 4, 1) := by decide +kernel
theorem dX5_counted_69 : decode cX5_counted 69 = .ok (.iaload, 1) := by decide +kernel
theorem dX5_counted_70 : decode cX5_counted 70 = .ok (.ireturn, 1) := by decide +kernel
theorem dX5_counted_71 : decode cX5_counted 71 = .ok (.aload_n 0, 1) := by decide +kernel
theorem dX5_counted_72 : decode cX5_counted 72 = .ok (.getfield 7, 3) := by decide +kernel
theorem dX5_counted_75 : decode cX5_counted 75 = .ok (.iconst 0, 1) := by decide +kernel
theorem dX5_counted_76 : decode cX5_counted 76 = .ok (.iload_n 1, 1) := by decide +kernel
theorem dX5_counted_77 : decode cX5_counted 77 = .ok (.iadd, 1) := by decide +kernel
theorem dX5_counted_78 : decode cX5_counted 78 = .ok (.iconst 1, 1) := by decide +kernel
theorem dX5_counted_79 : decode cX5_counted 79 = .ok (.isub, 1) := by decide +kernel
theorem dX5_counted_80 : decode cX5_counted 80 = .ok (.iaload, 1) := by decide +kernel
theorem dX5_counted_81 : decode cX5_counted 81 = .ok (.ireturn, 1) := by decide +kernel
theorem dX5_counted_82 : decode cX5_counted 82 = .ok (.aload_n 0, 1) := by decide +kernel
theorem dX5_counted_83 : decode cX5_counted 83 = .ok (.invokevirtual 107, 3) := by decide +kernel
theorem dX5_counted_86 : decode cX5_counted 86 = .ok (.ireturn, 1) := by decide +kernel
theorem dX5_counted_87 : decode cX5_counted 87 = .ok (.aload_n 0, 1) := by decide +kernel
theorem dX5_counted_88 : decode cX5_counted 88 = .ok (.getfield 36, 3) := by decide +kernel
theorem dX5_counted_91 : decode cX5_counted 91 = .ok (.ireturn, 1) := by decide +kernel
theorem dX5_counted_92 : decode cX5_counted 92 = .ok (.aload_n 0, 1) := by decide +kernel
theorem dX5_counted_93 : decode cX5_counted 93 = .ok (.iload_n 1, 1) := by decide +kernel
theorem dX5_counted_94 : decode cX5_counted 94 = .ok (.invokevirtual 179, 3) := by decide +kernel
theorem dX5_counted_97 : decode cX5_counted 97 = .ok (.ireturn, 1) := by decide +kernel
def q_X5_counted (S : zM) (what : Int) : Int32 → zM → Prop := fun r S1 => r = zI (tNum (S 9 1) (S 9 0 4) what) ∧ ∃ M', zMo S (S 9 0) (S 9 1) (S 9 2) (S 9 3) (S 9 4) M' (S 9 6) = S1
def r_X5_counted : Room := { frames := 6, cells := 0, slots := 0, locals := 142 }
set_option maxHeartbeats 4000000 in
set_option maxRecDepth 100000 in
theorem c_X5_counted (l : Launch) (G : zG) (hG : zok G) (S : zM) (what : Int) (hwh : 0 ≤ what ∧ what ≤ 11) (hw : zW (S 9 1)) : Met l yX5_counted (Cond.code yX5_counted cX5_counted 2 (some FieldType.int) :: zTbl) r_X5_counted (va_Pc [.ref (za G 9 0), .int (zI what)] (zB G S)) (va_Qi (q_X5_counted S what) (zB G) (zA G)) 0 0 (zA G) := by
  refine zMet [(0, .ref (za G 9 0)), (1, .int (zI what))] hG (by decide) (Nat.le_of_ble_eq_true rfl) rfl (fun p e s m args below meth c ls h hx hb hr hH hl => ?_)
  rw [← zM_id S] at hH
  refine lv_iload_n hx hb dX5_counted_0 rfl (lv_at hl 1 rfl) ?_
  have x_1 : (zI what).toInt = what := zI_toInt (by omega) (by omega)
  by_cases e_1_0 : what = 0
  · refine lv_tableIn (tgt := 64) hx hb dX5_counted_1 (by omega) (by omega) (show _ = some (63 : Int) by rw [x_1, e_1_0]; rfl) (by decide) ?_
    refine lv_aload_n hx hb dX5_counted_64 rfl (lv_at hl 0 rfl) ?_
    refine zg_5_1 h hH zf_X5_7 dX5_counted_65 ?_
    refine zb_ic h dX5_counted_68 ?_
    refine zld_ar_s h hH (by omega) dX5_counted_69 ?_
    rw [zM_1]
    have f_69 := zW_4 hw
    refine zri h hr hH ?_ dX5_counted_70
    exact ⟨congrArg zI (by unfold tNum; rw [if_pos e_1_0]), _, rfl⟩
  by_cases e_1_1 : what = 1
  · refine lv_tableIn (tgt := 71) hx hb dX5_counted_1 (by omega) (by omega) (show _ = some (70 : Int) by rw [x_1, e_1_1]; rfl) (by decide) ?_
    refine lv_aload_n hx hb dX5_counted_71 rfl (lv_at hl 0 rfl) ?_
    refine zg_5_1 h hH zf_X5_7 dX5_counted_72 ?_
    refine zb_ic h dX5_counted_75 ?_
    refine lv_iload_n hx hb dX5_counted_76 rfl (lv_at hl 1 rfl) ?_
    refine zb_iadd h dX5_counted_77 ?_
    refine zb_ic h dX5_counted_78 ?_
    refine zb_isub h dX5_counted_79 ?_
    refine zld_ar_s h hH (by omega) dX5_counted_80 ?_
    rw [zM_1]
    refine zri h hr hH ?_ dX5_counted_81
    first | exact ⟨congrArg zI (by unfold tNum; rw [if_neg (by omega), if_pos (by omega), show 0 + what - 1 = 0 by omega]), _, rfl⟩ | exact ⟨congrArg zI (by unfold tNum; rw [if_neg (by omega), if_neg (by omega), if_pos (by omega), show 0 + what - 1 = 1 by omega]), _, rfl⟩ | exact ⟨congrArg zI (by unfold tNum; rw [if_neg (by omega), if_neg (by omega), if_neg (by omega), if_pos (by omega), show 0 + what - 1 = 2 by omega]), _, rfl⟩
  by_cases e_1_2 : what = 2
  · refine lv_tableIn (tgt := 71) hx hb dX5_counted_1 (by omega) (by omega) (show _ = some (70 : Int) by rw [x_1, e_1_2]; rfl) (by decide) ?_
    refine lv_aload_n hx hb dX5_counted_71 rfl (lv_at hl 0 rfl) ?_
    refine zg_5_1 h hH zf_X5_7 dX5_counted_72 ?_
    refine zb_ic h dX5_counted_75 ?_
    refine lv_iload_n hx hb dX5_counted_76 rfl (lv_at hl 1 rfl) ?_
    refine zb_iadd h dX5_counted_77 ?_
    refine zb_ic h dX5_counted_78 ?_
    refine zb_isub h dX5_counted_79 ?_
    refine zld_ar_s h hH (by omega) dX5_counted_80 ?_
    rw [zM_1]
    refine zri h hr hH ?_ dX5_counted_81
    first | exact ⟨congrArg zI (by unfold tNum; rw [if_neg (by omega), if_pos (by omega), show 0 + what - 1 = 0 by omega]), _, rfl⟩ | exact ⟨congrArg zI (by unfold tNum; rw [if_neg (by omega), if_neg (by omega), if_pos (by omega), show 0 + what - 1 = 1 by omega]), _, rfl⟩ | exact ⟨congrArg zI (by unfold tNum; rw [if_neg (by omega), if_neg (by omega), if_neg (by omega), if_pos (by omega), show 0 + what - 1 = 2 by omega]), _, rfl⟩
  by_cases e_1_3 : what = 3
  · refine lv_tableIn (tgt := 71) hx hb dX5_counted_1 (by omega) (by omega) (show _ = some (70 : Int) by rw [x_1, e_1_3]; rfl) (by decide) ?_
    refine lv_aload_n hx hb dX5_counted_71 rfl (lv_at hl 0 rfl) ?_
    refine zg_5_1 h hH zf_X5_7 dX5_counted_72 ?_
    refine zb_ic h dX5_counted_75 ?_
    refine lv_iload_n hx hb dX5_counted_76 rfl (lv_at hl 1 rfl) ?_
    refine zb_iadd h dX5_counted_77 ?_
    refine zb_ic h dX5_counted_78 ?_
    refine zb_isub h dX5_counted_79 ?_
    refine zld_ar_s h hH (by omega) dX5_counted_80 ?_
    rw [zM_1]
    refine zri h hr hH ?_ dX5_counted_81
    first | exact ⟨congrArg zI (by unfold tNum; rw [if_neg (by omega), if_pos (by omega), show 0 + what - 1 = 0 by omega]), _, rfl⟩ | exact ⟨congrArg zI (by unfold tNum; rw [if_neg (by omega), if_neg (by omega), if_pos (by omega), show 0 + what - 1 = 1 by omega]), _, rfl⟩ | exact ⟨congrArg zI (by unfold tNum; rw [if_neg (by omega), if_neg (by omega), if_neg (by omega), if_pos (by omega), show 0 + what - 1 = 2 by omega]), _, rfl⟩
  by_cases e_1_4 : what = 4
  · refine lv_tableIn (tgt := 82) hx hb dX5_counted_1 (by omega) (by omega) (show _ = some (81 : Int) by rw [x_1, e_1_4]; rfl) (by decide) ?_
    refine lv_aload_n hx hb dX5_counted_82 rfl (lv_at hl 0 rfl) ?_
    refine zcVi h hH (zr_5 h hH) (As := []) (rest := []) (c_X5_right l G hG (zMo S (S 9 0) (S 9 1) (S 9 2) (S 9 3) (S 9 4) (S 9 5) (S 9 6)) (zM_hw hw)) zce_X5_right zcv_X5_right zm_X5_107 hl.1 rfl rfl ⟨rfl, rfl⟩ ⟨Nat.le_of_ble_eq_true rfl, Nat.le_of_ble_eq_true rfl⟩ (Nat.le_of_ble_eq_true rfl) ⟨Nat.zero_le _, Nat.zero_le _⟩ dX5_counted_83 (fun r_83 S_83 H locs hq hH => ?_)
    obtain ⟨rfl, M_83, rfl⟩ := hq
    simp only [zM_M, zM_0, zM_1, zM_2, zM_3, zM_4, zM_5, zM_6] at hH
    rw [zM_1]
    refine zri h hr hH ?_ dX5_counted_86
    exact ⟨congrArg zI (by unfold tNum; (repeat (first | rw [if_pos (by omega)] | rw [if_neg (by omega)]))), _, rfl⟩
  by_cases e_1_5 : what = 5
  · refine lv_tableIn (tgt := 92) hx hb dX5_counted_1 (by omega) (by omega) (show _ = some (91 : Int) by rw [x_1, e_1_5]; rfl) (by decide) ?_
    refine lv_aload_n hx hb dX5_counted_92 rfl (lv_at hl 0 rfl) ?_
    refine lv_iload_n hx hb dX5_counted_93 rfl (lv_at hl 1 rfl) ?_
    refine zcVi h hH (zr_5 h hH) (As := [.int (zI what)]) (rest := []) (c_X5_sum l G hG (zMo S (S 9 0) (S 9 1) (S 9 2) (S 9 3) (S 9 4) (S 9 5) (S 9 6)) what (by omega) (zM_hw hw)) zce_X5_sum zcv_X5_sum zm_X5_179 hl.1 rfl rfl ⟨rfl, rfl⟩ ⟨Nat.le_of_ble_eq_true rfl, Nat.le_of_ble_eq_true rfl⟩ (Nat.le_of_ble_eq_true rfl) ⟨Nat.zero_le _, Nat.zero_le _⟩ dX5_counted_94 (fun r_94 S_94 H locs hq hH => ?_)
    obtain ⟨rfl, M_94, rfl⟩ := hq
    simp only [zM_M, zM_0, zM_1, zM_2, zM_3, zM_4, zM_5, zM_6] at hH
    rw [zM_1]
    refine zri h hr hH ?_ dX5_counted_97
    exact ⟨congrArg zI (by unfold tNum; (repeat (first | rw [if_pos (by omega)] | rw [if_neg (by omega)]))), _, rfl⟩
  by_cases e_1_6 : what = 6
  · refine lv_tableIn (tgt := 92) hx hb dX5_counted_1 (by omega) (by omega) (show _ = some (91 : Int) by rw [x_1, e_1_6]; rfl) (by decide) ?_
    refine lv_aload_n hx hb dX5_counted_92 rfl (lv_at hl 0 rfl) ?_
    refine lv_iload_n hx hb dX5_counted_93 rfl (lv_at hl 1 rfl) ?_
    refine zcVi h hH (zr_5 h hH) (As := [.int (zI what)]) (rest := []) (c_X5_sum l G hG (zMo S (S 9 0) (S 9 1) (S 9 2) (S 9 3) (S 9 4) (S 9 5) (S 9 6)) what (by omega) (zM_hw hw)) zce_X5_sum zcv_X5_sum zm_X5_179 hl.1 rfl rfl ⟨rfl, rfl⟩ ⟨Nat.le_of_ble_eq_true rfl, Nat.le_of_ble_eq_true rfl⟩ (Nat.le_of_ble_eq_true rfl) ⟨Nat.zero_le _, Nat.zero_le _⟩ dX5_counted_94 (fun r_94 S_94 H locs hq hH => ?_)
    obtain ⟨rfl, M_94, rfl⟩ := hq
    simp only [zM_M, zM_0, zM_1, zM_2, zM_3, zM_4, zM_5, zM_6] at hH
    rw [zM_1]
    refine zri h hr hH ?_ dX5_counted_97
    exact ⟨congrArg zI (by unfold tNum; (repeat (first | rw [if_pos (by omega)] | rw [if_neg (by omega)]))), _, rfl⟩
  by_cases e_1_7 : what = 7
  · refine lv_tableIn (tgt := 92) hx hb dX5_counted_1 (by omega) (by omega) (show _ = some (91 : Int) by rw [x_1, e_1_7]; rfl) (by decide) ?_
    refine lv_aload_n hx hb dX5_counted_92 rfl (lv_at hl 0 rfl) ?_
    refine lv_iload_n hx hb dX5_counted_93 rfl (lv_at hl 1 rfl) ?_
    refine zcVi h hH (zr_5 h hH) (As := [.int (zI what)]) (rest := []) (c_X5_sum l G hG (zMo S (S 9 0) (S 9 1) (S 9 2) (S 9 3) (S 9 4) (S 9 5) (S 9 6)) what (by omega) (zM_hw hw)) zce_X5_sum zcv_X5_sum zm_X5_179 hl.1 rfl rfl ⟨rfl, rfl⟩ ⟨Nat.le_of_ble_eq_true rfl, Nat.le_of_ble_eq_true rfl⟩ (Nat.le_of_ble_eq_true rfl) ⟨Nat.zero_le _, Nat.zero_le _⟩ dX5_counted_94 (fun r_94 S_94 H locs hq hH => ?_)
    obtain ⟨rfl, M_94, rfl⟩ := hq
    simp only [zM_M, zM_0, zM_1, zM_2, zM_3, zM_4, zM_5, zM_6] at hH
    rw [zM_1]
    refine zri h hr hH ?_ dX5_counted_97
    exact ⟨congrArg zI (by unfold tNum; (repeat (first | rw [if_pos (by omega)] | rw [if_neg (by omega)]))), _, rfl⟩
  by_cases e_1_8 : what = 8
  · refine lv_tableIn (tgt := 92) hx hb dX5_counted_1 (by omega) (by omega) (show _ = some (91 : Int) by rw [x_1, e_1_8]; rfl) (by decide) ?_
    refine lv_aload_n hx hb dX5_counted_92 rfl (lv_at hl 0 rfl) ?_
    refine lv_iload_n hx hb dX5_counted_93 rfl (lv_at hl 1 rfl) ?_
    refine zcVi h hH (zr_5 h hH) (As := [.int (zI what)]) (rest := []) (c_X5_sum l G hG (zMo S (S 9 0) (S 9 1) (S 9 2) (S 9 3) (S 9 4) (S 9 5) (S 9 6)) what (by omega) (zM_hw hw)) zce_X5_sum zcv_X5_sum zm_X5_179 hl.1 rfl rfl ⟨rfl, rfl⟩ ⟨Nat.le_of_ble_eq_true rfl, Nat.le_of_ble_eq_true rfl⟩ (Nat.le_of_ble_eq_true rfl) ⟨Nat.zero_le _, Nat.zero_le _⟩ dX5_counted_94 (fun r_94 S_94 H locs hq hH => ?_)
    obtain ⟨rfl, M_94, rfl⟩ := hq
    simp only [zM_M, zM_0, zM_1, zM_2, zM_3, zM_4, zM_5, zM_6] at hH
    rw [zM_1]
    refine zri h hr hH ?_ dX5_counted_97
    exact ⟨congrArg zI (by unfold tNum; (repeat (first | rw [if_pos (by omega)] | rw [if_neg (by omega)]))), _, rfl⟩
  by_cases e_1_9 : what = 9
  · refine lv_tableIn (tgt := 92) hx hb dX5_counted_1 (by omega) (by omega) (show _ = some (91 : Int) by rw [x_1, e_1_9]; rfl) (by decide) ?_
    refine lv_aload_n hx hb dX5_counted_92 rfl (lv_at hl 0 rfl) ?_
    refine lv_iload_n hx hb dX5_counted_93 rfl (lv_at hl 1 rfl) ?_
    refine zcVi h hH (zr_5 h hH) (As := [.int (zI what)]) (rest := []) (c_X5_sum l G hG (zMo S (S 9 0) (S 9 1) (S 9 2) (S 9 3) (S 9 4) (S 9 5) (S 9 6)) what (by omega) (zM_hw hw)) zce_X5_sum zcv_X5_sum zm_X5_179 hl.1 rfl rfl ⟨rfl, rfl⟩ ⟨Nat.le_of_ble_eq_true rfl, Nat.le_of_ble_eq_true rfl⟩ (Nat.le_of_ble_eq_true rfl) ⟨Nat.zero_le _, Nat.zero_le _⟩ dX5_counted_94 (fun r_94 S_94 H locs hq hH => ?_)
    obtain ⟨rfl, M_94, rfl⟩ := hq
    simp only [zM_M, zM_0, zM_1, zM_2, zM_3, zM_4, zM_5, zM_6] at hH
    rw [zM_1]
    refine zri h hr hH ?_ dX5_counted_97
    exact ⟨congrArg zI (by unfold tNum; (repeat (first | rw [if_pos (by omega)] | rw [if_neg (by omega)]))), _, rfl⟩
  by_cases e_1_10 : what = 10
  · refine lv_tableIn (tgt := 92) hx hb dX5_counted_1 (by omega) (by omega) (show _ = some (91 : Int) by rw [x_1, e_1_10]; rfl) (by decide) ?_
    refine lv_aload_n hx hb dX5_counted_92 rfl (lv_at hl 0 rfl) ?_
    refine lv_iload_n hx hb dX5_counted_93 rfl (lv_at hl 1 rfl) ?_
    refine zcVi h hH (zr_5 h hH) (As := [.int (zI what)]) (rest := []) (c_X5_sum l G hG (zMo S (S 9 0) (S 9 1) (S 9 2) (S 9 3) (S 9 4) (S 9 5) (S 9 6)) what (by omega) (zM_hw hw)) zce_X5_sum zcv_X5_sum zm_X5_179 hl.1 rfl rfl ⟨rfl, rfl⟩ ⟨Nat.le_of_ble_eq_true rfl, Nat.le_of_ble_eq_true rfl⟩ (Nat.le_of_ble_eq_true rfl) ⟨Nat.zero_le _, Nat.zero_le _⟩ dX5_counted_94 (fun r_94 S_94 H locs hq hH => ?_)
    obtain ⟨rfl, M_94, rfl⟩ := hq
    simp only [zM_M, zM_0, zM_1, zM_2, zM_3, zM_4, zM_5, zM_6] at hH
    rw [zM_1]
    refine zri h hr hH ?_ dX5_counted_97
    exact ⟨congrArg zI (by unfold tNum; (repeat (first | rw [if_pos (by omega)] | rw [if_neg (by omega)]))), _, rfl⟩
  by_cases e_1_11 : what = 11
  · refine lv_tableIn (tgt := 87) hx hb dX5_counted_1 (by omega) (by omega) (show _ = some (86 : Int) by rw [x_1, e_1_11]; rfl) (by decide) ?_
    refine lv_aload_n hx hb dX5_counted_87 rfl (lv_at hl 0 rfl) ?_
    refine zg_5_4 h hH zf_X5_36 dX5_counted_88 ?_
    rw [zM_0]
    refine zri h hr hH ?_ dX5_counted_91
    exact ⟨congrArg zI (by unfold tNum; (repeat (first | rw [if_pos (by omega)] | rw [if_neg (by omega)]))), _, rfl⟩
  refine lv_tableOut (tgt := 92) hx hb dX5_counted_1 (by omega) (by decide) ?_
  exact absurd hwh (by omega)
theorem dX5_count_0 : decode cX5_count 0 = .ok (.aload_n 0, 1) := by decide +kernel
theorem dX5_count_1 : decode cX5_count 1 = .ok (.iload_n 1, 1) := by decide +kernel
theorem dX5_count_2 : decode cX5_count 2 = .ok (.iconst 0, 1) := by decide +kernel
theorem dX5_count_3 : decode cX5_count 3 = .ok (.bipush 11, 2) := by decide +kernel
theorem dX5_count_5 : decode cX5_count 5 = .ok (.invokestatic 32, 3) := by decide +kernel
theorem dX5_count_8 : decode cX5_count 8 = .ok (.ifCond .eq 7, 3) := by decide +kernel
theorem dX5_count_11 : decode cX5_count 11 = .ok (.iconst 0, 1) := by decide +kernel
theorem dX5_count_12 : decode cX5_count 12 = .ok (.goto 4, 3) := by decide +kernel
theorem dX5_count_15 : decode cX5_count 15 = .ok (.iconst 1, 1) := by decide +kernel
theorem dX5_count_16 : decode cX5_count 16 = .ok (.invokevirtual 87, 3) := by decide +kernel
theorem dX5_count_19 : decode cX5_count 19 = .ok (.ifCond .eq 11, 3) := by decide +kernel
theorem dX5_count_22 : decode cX5_count 22 = .ok (.aload_n 0, 1) := by decide +kernel
theorem dX5_count_23 : decode cX5_count 23 = .ok (.iload_n 1, 1) := by decide +kernel
theorem dX5_count_24 : decode cX5_count 24 = .ok (.invokevirtual 182, 3) := by decide +kernel
theorem dX5_count_27 : decode cX5_count 27 = .ok (.goto 4, 3) := by decide +kernel
theorem dX5_count_30 : decode cX5_count 30 = .ok (.iconst 0, 1) := by decide +kernel
theorem dX5_count_31 : decode cX5_count 31 = .ok (.ireturn, 1) := by decide +kernel
def q_X5_count (S : zM) (what : Int) : Int32 → zM → Prop := fun r S1 => ((¬ (0 ≤ what ∧ what ≤ 11)) ∧ zMo S (zup (S 9 0) 0 1) (S 9 1) (S 9 2) (S 9 3) (S 9 4) (S 9 5) (S 9 6) = S1) ∨ ((0 ≤ what ∧ what ≤ 11) ∧ r = zI (tNum (S 9 1) ((zup (S 9 0) 0 0) 4) what) ∧ ∃ M', zMo S (zup (S 9 0) 0 0) (S 9 1) (S 9 2) (S 9 3) (S 9 4) M' (S 9 6) = S1)
def r_X5_count : Room := { frames := 7, cells := 0, slots := 0, locals := 163 }
set_option maxHeartbeats 4000000 in
set_option maxRecDepth 100000 in
theorem c_X5_count (l : Launch) (G : zG) (hG : zok G) (S : zM) (what : Int) (hwhat_ : -2147483648 ≤ what ∧ what ≤ 2147483647) (hw : zW (S 9 1)) : Met l yX5_count (Cond.code yX5_count cX5_count 2 (some FieldType.int) :: zTbl) r_X5_count (va_Pc [.ref (za G 9 0), .int (zI what)] (zB G S)) (va_Qi (q_X5_count S what) (zB G) (zA G)) 0 0 (zA G) := by
  refine zMet [(0, .ref (za G 9 0)), (1, .int (zI what))] hG (by decide) (Nat.le_of_ble_eq_true rfl) rfl (fun p e s m args below meth c ls h hx hb hr hH hl => ?_)
  rw [← zM_id S] at hH
  refine lv_aload_n hx hb dX5_count_0 rfl (lv_at hl 0 rfl) ?_
  refine lv_iload_n hx hb dX5_count_1 rfl (lv_at hl 1 rfl) ?_
  refine zb_ic h dX5_count_2 ?_
  refine zb_bi h dX5_count_3 (by decide) (by decide) ?_
  refine zcSi h hH (As := [.int (zI what), .int (zI 0), .int (zI 11)]) (rest := [.ref (za G 9 0)]) (c_X5_in l G hG (zMo S (S 9 0) (S 9 1) (S 9 2) (S 9 3) (S 9 4) (S 9 5) (S 9 6)) what 0 11 (by omega) (by omega) (by omega)) zce_X5_in zt_X5_in zm_X5_32 hl.1 rfl rfl ⟨rfl, rfl⟩ ⟨Nat.le_of_ble_eq_true rfl, Nat.le_of_ble_eq_true rfl⟩ (Nat.le_of_ble_eq_true rfl) ⟨Nat.zero_le _, Nat.zero_le _⟩ dX5_count_5 (fun r_5 S_5 H locs hq hH => ?_)
  obtain ⟨b_5, rfl, hb_5, rfl⟩ := hq
  (try rw [zM_1] at hb_5)
  refine zb_ieq (tgt := 15) h (by omega) dX5_count_8 (by decide) (fun c_8 => ?_) (fun c_8 => ?_)
  · refine zb_ic h dX5_count_15 ?_
    refine zcVi h hH (zr_5 h hH) (As := [.int (zI 1)]) (rest := []) (c_X5_holds l G hG (zMo S (S 9 0) (S 9 1) (S 9 2) (S 9 3) (S 9 4) (S 9 5) (S 9 6)) 1 (by omega)) zce_X5_holds zcv_X5_holds zm_X5_87 hl.1 rfl rfl ⟨rfl, rfl⟩ ⟨Nat.le_of_ble_eq_true rfl, Nat.le_of_ble_eq_true rfl⟩ (Nat.le_of_ble_eq_true rfl) ⟨Nat.zero_le _, Nat.zero_le _⟩ dX5_count_16 (fun r_16 S_16 H locs hq hH => ?_)
    obtain ⟨b_16, rfl, hb_16, rfl⟩ := hq
    (try rw [zM_1] at hb_16)
    simp only [zM_M, zM_0, zM_1, zM_2, zM_3, zM_4, zM_5, zM_6] at hH
    refine zb_ieq (tgt := 30) h (by omega) dX5_count_19 (by decide) (fun c_19 => ?_) (fun c_19 => ?_)
    · refine zb_ic h dX5_count_30 ?_
      refine zri h hr hH ?_ dX5_count_31
      exact Or.inl ⟨by omega, rfl⟩
    · exact absurd c_19 (by omega)
  · refine zb_ic h dX5_count_11 ?_
    refine lv_goto (tgt := 16) hx hb dX5_count_12 (by decide) ?_
    refine zcVi h hH (zr_5 h hH) (As := [.int (zI 0)]) (rest := []) (c_X5_holds l G hG (zMo S (S 9 0) (S 9 1) (S 9 2) (S 9 3) (S 9 4) (S 9 5) (S 9 6)) 0 (by omega)) zce_X5_holds zcv_X5_holds zm_X5_87 hl.1 rfl rfl ⟨rfl, rfl⟩ ⟨Nat.le_of_ble_eq_true rfl, Nat.le_of_ble_eq_true rfl⟩ (Nat.le_of_ble_eq_true rfl) ⟨Nat.zero_le _, Nat.zero_le _⟩ dX5_count_16 (fun r_16 S_16 H locs hq hH => ?_)
    obtain ⟨b_16, rfl, hb_16, rfl⟩ := hq
    (try rw [zM_1] at hb_16)
    simp only [zM_M, zM_0, zM_1, zM_2, zM_3, zM_4, zM_5, zM_6] at hH
    refine zb_ieq (tgt := 30) h (by omega) dX5_count_19 (by decide) (fun c_19 => ?_) (fun c_19 => ?_)
    · exact absurd c_19 (by omega)
    · refine lv_aload_n hx hb dX5_count_22 rfl (lv_at hl 0 rfl) ?_
      refine lv_iload_n hx hb dX5_count_23 rfl (lv_at hl 1 rfl) ?_
      refine zcVi h hH (zr_5 h hH) (As := [.int (zI what)]) (rest := []) (c_X5_counted l G hG (zMo S (zup (S 9 0) 0 0) (S 9 1) (S 9 2) (S 9 3) (S 9 4) (S 9 5) (S 9 6)) what (by omega) (zM_hw hw)) zce_X5_counted zcv_X5_counted zm_X5_182 hl.1 rfl rfl ⟨rfl, rfl⟩ ⟨Nat.le_of_ble_eq_true rfl, Nat.le_of_ble_eq_true rfl⟩ (Nat.le_of_ble_eq_true rfl) ⟨Nat.zero_le _, Nat.zero_le _⟩ dX5_count_24 (fun r_24 S_24 H locs hq hH => ?_)
      obtain ⟨rfl, M_24, rfl⟩ := hq
      simp only [zM_M, zM_0, zM_1, zM_2, zM_3, zM_4, zM_5, zM_6] at hH
      rw [zM_1]
      refine lv_goto (tgt := 31) hx hb dX5_count_27 (by decide) ?_
      refine zri h hr hH ?_ dX5_count_31
      exact Or.inr (⟨by omega, rfl, _, rfl⟩)
