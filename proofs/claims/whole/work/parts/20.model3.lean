theorem dX5_save_0 : decode cX5_save 0 = .ok (.aload_n 0, 1) := by decide +kernel
theorem dX5_save_1 : decode cX5_save 1 = .ok (.getfield 36, 3) := by decide +kernel
theorem dX5_save_4 : decode cX5_save 4 = .ok (.bipush 6, 2) := by decide +kernel
theorem dX5_save_6 : decode cX5_save 6 = .ok (.if_icmp .ne 43, 3) := by decide +kernel
theorem dX5_save_9 : decode cX5_save 9 = .ok (.iconst 0, 1) := by decide +kernel
theorem dX5_save_10 : decode cX5_save 10 = .ok (.istore_n 1, 1) := by decide +kernel
theorem dX5_save_11 : decode cX5_save 11 = .ok (.iload_n 1, 1) := by decide +kernel
theorem dX5_save_12 : decode cX5_save 12 = .ok (.sipush 225, 3) := by decide +kernel
theorem dX5_save_15 : decode cX5_save 15 = .ok (.if_icmp .ge 24, 3) := by decide +kernel
theorem dX5_save_18 : decode cX5_save 18 = .ok (.aload_n 0, 1) := by decide +kernel
theorem dX5_save_19 : decode cX5_save 19 = .ok (.getfield 16, 3) := by decide +kernel
theorem dX5_save_22 : decode cX5_save 22 = .ok (.iload_n 1, 1) := by decide +kernel
theorem dX5_save_23 : decode cX5_save 23 = .ok (.aload_n 0, 1) := by decide +kernel
theorem dX5_save_24 : decode cX5_save 24 = .ok (.getfield 16, 3) := by decide +kernel
theorem dX5_save_27 : decode cX5_save 27 = .ok (.bipush 45, 2) := by decide +kernel
theorem dX5_save_29 : decode cX5_save 29 = .ok (.iload_n 1, 1) := by decide +kernel
theorem dX5_save_30 : decode cX5_save 30 = .ok (.iadd, 1) := by decide +kernel
theorem dX5_save_31 : decode cX5_save 31 = .ok (.iaload, 1) := by decide +kernel
theorem dX5_save_32 : decode cX5_save 32 = .ok (.iastore, 1) := by decide +kernel
theorem dX5_save_33 : decode cX5_save 33 = .ok (.iinc 1 1, 3) := by decide +kernel
theorem dX5_save_36 : decode cX5_save 36 = .ok (.goto (-25), 3) := by decide +kernel
theorem dX5_save_39 : decode cX5_save 39 = .ok (.aload_n 0, 1) := by decide +kernel
theorem dX5_save_40 : decode cX5_save 40 = .ok (.dup, 1) := by decide +kernel
theorem dX5_save_41 : decode cX5_save 41 = .ok (.getfield 36, 3) := by decide +kernel
theorem dX5_save_44 : decode cX5_save 44 = .ok (.iconst 1, 1) := by decide +kernel
theorem dX5_save_45 : decode cX5_save 45 = .ok (.isub, 1) := by decide +kernel
theorem dX5_save_46 : decode cX5_save 46 = .ok (.putfield 36, 3) := by decide +kernel
theorem dX5_save_49 : decode cX5_save 49 = .ok (.iconst 0, 1) := by decide +kernel
theorem dX5_save_50 : decode cX5_save 50 = .ok (.istore_n 1, 1) := by decide +kernel
theorem dX5_save_51 : decode cX5_save 51 = .ok (.iload_n 1, 1) := by decide +kernel
theorem dX5_save_52 : decode cX5_save 52 = .ok (.bipush 45, 2) := by decide +kernel
theorem dX5_save_54 : decode cX5_save 54 = .ok (.if_icmp .ge 29, 3) := by decide +kernel
theorem dX5_save_57 : decode cX5_save 57 = .ok (.aload_n 0, 1) := by decide +kernel
theorem dX5_save_58 : decode cX5_save 58 = .ok (.getfield 16, 3) := by decide +kernel
theorem dX5_save_61 : decode cX5_save 61 = .ok (.bipush 45, 2) := by decide +kernel
theorem dX5_save_63 : decode cX5_save 63 = .ok (.aload_n 0, 1) := by decide +kernel
theorem dX5_save_64 : decode cX5_save 64 = .ok (.getfield 36, 3) := by decide +kernel
theorem dX5_save_67 : decode cX5_save 67 = .ok (.imul, 1) := by decide +kernel
theorem dX5_save_68 : decode cX5_save 68 = .ok (.iload_n 1, 1) := by decide +kernel
theorem dX5_save_69 : decode cX5_save 69 = .ok (.iadd, 1) := by decide +kernel
theorem dX5_save_70 : decode cX5_save 70 = .ok (.aload_n 0, 1) := by decide +kernel
theorem dX5_save_71 : decode cX5_save 71 = .ok (.getfield 7, 3) := by decide +kernel
theorem dX5_save_74 : decode cX5_save 74 = .ok (.iload_n 1, 1) := by decide +kernel
theorem dX5_save_75 : decode cX5_save 75 = .ok (.iaload, 1) := by decide +kernel
theorem dX5_save_76 : decode cX5_save 76 = .ok (.iastore, 1) := by decide +kernel
theorem dX5_save_77 : decode cX5_save 77 = .ok (.iinc 1 1, 3) := by decide +kernel
theorem dX5_save_80 : decode cX5_save 80 = .ok (.goto (-29), 3) := by decide +kernel
theorem dX5_save_83 : decode cX5_save 83 = .ok (.aload_n 0, 1) := by decide +kernel
theorem dX5_save_84 : decode cX5_save 84 = .ok (.dup, 1) := by decide +kernel
theorem dX5_save_85 : decode cX5_save 85 = .ok (.getfield 36, 3) := by decide +kernel
theorem dX5_save_88 : decode cX5_save 88 = .ok (.iconst 1, 1) := by decide +kernel
theorem dX5_save_89 : decode cX5_save 89 = .ok (.iadd, 1) := by decide +kernel
theorem dX5_save_90 : decode cX5_save 90 = .ok (.putfield 36, 3) := by decide +kernel
theorem dX5_save_93 : decode cX5_save 93 = .ok (.return_, 1) := by decide +kernel
def q_X5_save (S : zM) : zM → Prop := fun S1 => zMo S (zup (S 9 0) 4 (zSm (S 9 0 4))) (S 9 1) (S 9 2) (zSv (S 9 3) (S 9 1) (S 9 0 4)) (S 9 4) (S 9 5) (S 9 6) = S1
def r_X5_save : Room := { frames := 0, cells := 0, slots := 0, locals := 0 }
set_option maxHeartbeats 4000000 in
set_option maxRecDepth 100000 in
theorem c_X5_save (l : Launch) (G : zG) (hG : zok G) (S : zM) (hsm : 0 ≤ S 9 0 4 ∧ S 9 0 4 ≤ 6)  : Met l yX5_save (Cond.code yX5_save cX5_save 2 (none : Option FieldType) :: zTbl) r_X5_save (va_Pc [.ref (za G 9 0)] (zB G S)) (va_Qv (q_X5_save S) (zB G) (zA G)) 0 0 (zA G) := by
  refine zMet [(0, .ref (za G 9 0))] hG (by decide) (Nat.le_of_ble_eq_true rfl) rfl (fun p e s m args below meth c ls h hx hb hr hH hl => ?_)
  rw [← zM_id S] at hH
  have C49 : ∀ (f v : Int → Int) (H : Heap) (locs : List Loc) (ls : Array Slot), (f 4 = if S 9 0 4 = 6 then 5 else S 9 0 4) → (∀ x, zup f 4 x = zup (S 9 0) 4 x) → (v = if S 9 0 4 = 6 then zshift (S 9 3) 225 else S 9 3) → zH G (zMo S f (S 9 1) (S 9 2) v (S 9 4) (S 9 5) (S 9 6)) s H locs → lv_has ls 2 [(0, .ref (za G 9 0))] → W p l e r_X5_save s m args below meth c H locs 0 0 (MQ below (va_Qv (q_X5_save S) (zB G) (zA G)) args s 0 0 (zA G)) (F0 m 49 ls []) := by
    intro f v H locs ls hf4 hfz hv hH hl
    have bf : 0 ≤ f 4 ∧ f 4 ≤ 5 := by rw [hf4]; split <;> omega
    have C51 : ∀ (fu : Nat) (i : Int) (v2 : Int → Int) (H : Heap) (locs : List Loc) (ls : Array Slot), (45 - i).toNat < fu → (0 ≤ i ∧ i ≤ 45) → (v2 = zputs v (45 * f 4) (S 9 1) i) → zH G (zMo S f (S 9 1) (S 9 2) v2 (S 9 4) (S 9 5) (S 9 6)) s H locs → lv_has ls 2 [(0, .ref (za G 9 0)), (1, .int (zI i))] → W p l e r_X5_save s m args below meth c H locs 0 0 (MQ below (va_Qv (q_X5_save S) (zB G) (zA G)) args s 0 0 (zA G)) (F0 m 51 ls []) := by
      intro fu
      induction fu with
      | zero => intro i v2 H locs ls hfu; omega
      | succ fu ih51 =>
        intro i v2 H locs ls hfu hi hv2 hH hl
        refine lv_iload_n hx hb dX5_save_51 rfl (lv_at hl 1 rfl) ?_
        refine zb_bi h dX5_save_52 (by decide) (by decide) ?_
        refine zb_cge (tgt := 83) h (by omega) (by omega) dX5_save_54 (by decide) (fun c_54 => ?_) (fun c_54 => ?_)
        · refine lv_aload_n hx hb dX5_save_83 rfl (lv_at hl 0 rfl) ?_
          refine lv_dup hx hb dX5_save_84 rfl ?_
          refine zg_5_4 h hH zf_X5_36 dX5_save_85 ?_
          rw [zM_0]
          refine zb_ic h dX5_save_88 ?_
          refine zb_iadd h dX5_save_89 ?_
          refine zu_5_4 h hH zf_X5_36 dX5_save_90 (fun H locs hH => ?_)
          rw [zs_M0] at hH
          refine zrv h hr hH ?_ dX5_save_93
          obtain rfl : i = 45 := by omega
          refine (show zMo S (zup (S 9 0) 4 (zSm (S 9 0 4))) (S 9 1) (S 9 2) (zSv (S 9 3) (S 9 1) (S 9 0 4)) (S 9 4) (S 9 5) (S 9 6) = _ from ?_)
          rw [hfz, hv2, hf4, hv]
          unfold zSm zSv
          split <;> rfl
        · refine lv_aload_n hx hb dX5_save_57 rfl (lv_at hl 0 rfl) ?_
          refine zg_5_3 h hH zf_X5_16 dX5_save_58 ?_
          refine zb_bi h dX5_save_61 (by decide) (by decide) ?_
          refine lv_aload_n hx hb dX5_save_63 rfl (lv_at hl 0 rfl) ?_
          refine zg_5_4 h hH zf_X5_36 dX5_save_64 ?_
          rw [zM_0]
          refine zb_imul h dX5_save_67 ?_
          refine lv_iload_n hx hb dX5_save_68 rfl (lv_at hl 1 rfl) ?_
          refine zb_iadd h dX5_save_69 ?_
          refine lv_aload_n hx hb dX5_save_70 rfl (lv_at hl 0 rfl) ?_
          refine zg_5_1 h hH zf_X5_7 dX5_save_71 ?_
          refine lv_iload_n hx hb dX5_save_74 rfl (lv_at hl 1 rfl) ?_
          refine zld_ar_s h hH (by omega) dX5_save_75 ?_
          rw [zM_1]
          refine zst_ar_sv h hH (by omega) dX5_save_76 (fun H locs hH => ?_)
          rw [zs_M3] at hH
          refine lv_iinc (v := zI (i + 1)) (lv' := [(1, .int (zI (i + 1))), (0, .ref (za G 9 0))]) hx hb dX5_save_77 hl (k := 1) rfl (zI_add _ _) (by decide) rfl (fun ls hl => ?_)
          refine lv_goto (tgt := 51) hx hb dX5_save_80 (by decide) ?_
          exact ih51 (i + 1) (zup v2 (((45 * (f 4)) + i)) (S 9 1 i)) _ _ _ (by omega) (by omega) (by rw [zputs_s _ _ _ hi.1, hv2]) hH (lv_sub hl [1, 0] rfl)
    refine zb_ic h dX5_save_49 ?_
    refine lv_istore_n (lv' := [(1, .int (zI 0)), (0, .ref (za G 9 0))]) hx hb dX5_save_50 rfl hl (by decide) rfl (fun ls hl => ?_)
    exact C51 ((45 - 0 : Int).toNat + 1) 0 v _ _ _ (by omega) (by omega) (zputs_0 _ _ _).symm hH (lv_sub hl [1, 0] rfl)
  have C11 : ∀ (fu : Nat) (i : Int) (v : Int → Int) (H : Heap) (locs : List Loc) (ls : Array Slot), (225 - i).toNat < fu → (0 ≤ i ∧ i ≤ 225) → (S 9 0 4 = 6) → (v = zshift (S 9 3) i) → zH G (zMo S (S 9 0) (S 9 1) (S 9 2) v (S 9 4) (S 9 5) (S 9 6)) s H locs → lv_has ls 2 [(0, .ref (za G 9 0)), (1, .int (zI i))] → W p l e r_X5_save s m args below meth c H locs 0 0 (MQ below (va_Qv (q_X5_save S) (zB G) (zA G)) args s 0 0 (zA G)) (F0 m 11 ls []) := by
    intro fu
    induction fu with
    | zero => intro i v H locs ls hfu; omega
    | succ fu ih11 =>
      intro i v H locs ls hfu hi h6 hv hH hl
      refine lv_iload_n hx hb dX5_save_11 rfl (lv_at hl 1 rfl) ?_
      refine zb_si h dX5_save_12 (by decide) (by decide) ?_
      refine zb_cge (tgt := 39) h (by omega) (by omega) dX5_save_15 (by decide) (fun c_15 => ?_) (fun c_15 => ?_)
      · refine lv_aload_n hx hb dX5_save_39 rfl (lv_at hl 0 rfl) ?_
        refine lv_dup hx hb dX5_save_40 rfl ?_
        refine zg_5_4 h hH zf_X5_36 dX5_save_41 ?_
        rw [zM_0]
        refine zb_ic h dX5_save_44 ?_
        refine zb_isub h dX5_save_45 ?_
        refine zu_5_4 h hH zf_X5_36 dX5_save_46 (fun H locs hH => ?_)
        rw [zs_M0] at hH
        exact C49 (zup (S 9 0) 4 ((S 9 0 4) - 1)) v _ _ _  (by first | (rw [if_neg (by omega)]; done) | (rw [zup_s, if_pos h6]; omega)) (fun x => by first | rfl | exact zup_zup _ _ _ _) (by first | (rw [if_neg (by omega)]; done) | (rw [if_pos h6, hv, show i = 225 by omega]; done)) hH (lv_sub hl [0] rfl)
      · refine lv_aload_n hx hb dX5_save_18 rfl (lv_at hl 0 rfl) ?_
        refine zg_5_3 h hH zf_X5_16 dX5_save_19 ?_
        refine lv_iload_n hx hb dX5_save_22 rfl (lv_at hl 1 rfl) ?_
        refine lv_aload_n hx hb dX5_save_23 rfl (lv_at hl 0 rfl) ?_
        refine zg_5_3 h hH zf_X5_16 dX5_save_24 ?_
        refine zb_bi h dX5_save_27 (by decide) (by decide) ?_
        refine lv_iload_n hx hb dX5_save_29 rfl (lv_at hl 1 rfl) ?_
        refine zb_iadd h dX5_save_30 ?_
        refine zld_ar_sv h hH (by omega) dX5_save_31 ?_
        rw [zM_3]
        refine zst_ar_sv h hH (by omega) dX5_save_32 (fun H locs hH => ?_)
        rw [zs_M3] at hH
        refine lv_iinc (v := zI (i + 1)) (lv' := [(1, .int (zI (i + 1))), (0, .ref (za G 9 0))]) hx hb dX5_save_33 hl (k := 1) rfl (zI_add _ _) (by decide) rfl (fun ls hl => ?_)
        refine lv_goto (tgt := 11) hx hb dX5_save_36 (by decide) ?_
        exact ih11 (i + 1) (zup v (i) (v (45 + i))) _ _ _ (by omega) (by omega) (by omega) (by rw [zshift_s _ hi.1, hv, zshift_at _ (by omega)]) hH (lv_sub hl [1, 0] rfl)
  refine lv_aload_n hx hb dX5_save_0 rfl (lv_at hl 0 rfl) ?_
  refine zg_5_4 h hH zf_X5_36 dX5_save_1 ?_
  rw [zM_0]
  refine zb_bi h dX5_save_4 (by decide) (by decide) ?_
  refine zb_cne (tgt := 49) h (by omega) (by omega) dX5_save_6 (by decide) (fun c_6 => ?_) (fun c_6 => ?_)
  · exact C49 (S 9 0) (S 9 3) _ _ _  (by first | (rw [if_neg (by omega)]; done) | (rw [zup_s, if_pos h6]; omega)) (fun x => by first | rfl | exact zup_zup _ _ _ _) (by first | (rw [if_neg (by omega)]; done) | (rw [if_pos h6, hv, show i = 225 by omega]; done)) hH (lv_sub hl [0] rfl)
  · refine zb_ic h dX5_save_9 ?_
    refine lv_istore_n (lv' := [(1, .int (zI 0)), (0, .ref (za G 9 0))]) hx hb dX5_save_10 rfl hl (by decide) rfl (fun ls hl => ?_)
    exact C11 ((225 - 0 : Int).toNat + 1) 0 (S 9 3) _ _ _ (by omega) (by omega) (by omega) (zshift_0 _).symm hH (lv_sub hl [1, 0] rfl)
theorem dX5_putAside_0 : decode cX5_putAside 0 = .ok (.iconst 0, 1) := by decide +kernel
theorem dX5_putAside_1 : decode cX5_putAside 1 = .ok (.istore_n 1, 1) := by decide +kernel
theorem dX5_putAside_2 : decode cX5_putAside 2 = .ok (.iload_n 1, 1) := by decide +kernel
theorem dX5_putAside_3 : decode cX5_putAside 3 = .ok (.bipush 45, 2) := by decide +kernel
theorem dX5_putAside_5 : decode cX5_putAside 5 = .ok (.if_icmp .ge 21, 3) := by decide +kernel
theorem dX5_putAside_8 : decode cX5_putAside 8 = .ok (.aload_n 0, 1) := by decide +kernel
theorem dX5_putAside_9 : decode cX5_putAside 9 = .ok (.getfield 13, 3) := by decide +kernel
theorem dX5_putAside_12 : decode cX5_putAside 12 = .ok (.iload_n 1, 1) := by decide +kernel
theorem dX5_putAside_13 : decode cX5_putAside 13 = .ok (.aload_n 0, 1) := by decide +kernel
theorem dX5_putAside_14 : decode cX5_putAside 14 = .ok (.getfield 7, 3) := by decide +kernel
theorem dX5_putAside_17 : decode cX5_putAside 17 = .ok (.iload_n 1, 1) := by decide +kernel
theorem dX5_putAside_18 : decode cX5_putAside 18 = .ok (.iaload, 1) := by decide +kernel
theorem dX5_putAside_19 : decode cX5_putAside 19 = .ok (.iastore, 1) := by decide +kernel
theorem dX5_putAside_20 : decode cX5_putAside 20 = .ok (.iinc 1 1, 3) := by decide +kernel
theorem dX5_putAside_23 : decode cX5_putAside 23 = .ok (.goto (-21), 3) := by decide +kernel
theorem dX5_putAside_26 : decode cX5_putAside 26 = .ok (.return_, 1) := by decide +kernel
def q_X5_putAside (S : zM) : zM → Prop := fun S1 => zMo S (S 9 0) (S 9 1) (S 9 1) (S 9 3) (S 9 4) (S 9 5) (S 9 6) = S1
def r_X5_putAside : Room := { frames := 0, cells := 0, slots := 0, locals := 0 }
set_option maxHeartbeats 4000000 in
set_option maxRecDepth 100000 in
theorem c_X5_putAside (l : Launch) (G : zG) (hG : zok G) (S : zM)  : Met l yX5_putAside (Cond.code yX5_putAside cX5_putAside 2 (none : Option FieldType) :: zTbl) r_X5_putAside (va_Pc [.ref (za G 9 0)] (zB G S)) (va_Qv (q_X5_putAside S) (zB G) (zA G)) 0 0 (zA G) := by
  refine zMet [(0, .ref (za G 9 0))] hG (by decide) (Nat.le_of_ble_eq_true rfl) rfl (fun p e s m args below meth c ls h hx hb hr hH hl => ?_)
  rw [← zM_id S] at hH
  have C2 : ∀ (fu : Nat) (i : Int) (q : Int → Int) (H : Heap) (locs : List Loc) (ls : Array Slot), (45 - i).toNat < fu → (0 ≤ i ∧ i ≤ 45) → (∀ x : Int, 0 ≤ x → x < i → q x = S 9 1 x) → zH G (zMo S (S 9 0) (S 9 1) q (S 9 3) (S 9 4) (S 9 5) (S 9 6)) s H locs → lv_has ls 2 [(0, .ref (za G 9 0)), (1, .int (zI i))] → W p l e r_X5_putAside s m args below meth c H locs 0 0 (MQ below (va_Qv (q_X5_putAside S) (zB G) (zA G)) args s 0 0 (zA G)) (F0 m 2 ls []) := by
    intro fu
    induction fu with
    | zero => intro i q H locs ls hfu; omega
    | succ fu ih2 =>
      intro i q H locs ls hfu hi hq hH hl
      refine lv_iload_n hx hb dX5_putAside_2 rfl (lv_at hl 1 rfl) ?_
      refine zb_bi h dX5_putAside_3 (by decide) (by decide) ?_
      refine zb_cge (tgt := 26) h (by omega) (by omega) dX5_putAside_5 (by decide) (fun c_5 => ?_) (fun c_5 => ?_)
      · have hH := zH_mo (a' := S 9 1) (fun _ _ _ => rfl) (fun _ _ _ => rfl) (fun x h1 h2 => hq x h1 (by omega)) (fun _ _ _ => rfl) (fun _ _ _ => rfl) (fun _ _ _ => rfl) (fun _ _ _ => rfl) hH
        refine zrv h hr hH ?_ dX5_putAside_26
        exact rfl
      · refine lv_aload_n hx hb dX5_putAside_8 rfl (lv_at hl 0 rfl) ?_
        refine zg_5_2 h hH zf_X5_13 dX5_putAside_9 ?_
        refine lv_iload_n hx hb dX5_putAside_12 rfl (lv_at hl 1 rfl) ?_
        refine lv_aload_n hx hb dX5_putAside_13 rfl (lv_at hl 0 rfl) ?_
        refine zg_5_1 h hH zf_X5_7 dX5_putAside_14 ?_
        refine lv_iload_n hx hb dX5_putAside_17 rfl (lv_at hl 1 rfl) ?_
        refine zld_ar_s h hH (by omega) dX5_putAside_18 ?_
        rw [zM_1]
        refine zst_ar_as h hH (by omega) dX5_putAside_19 (fun H locs hH => ?_)
        rw [zs_M2] at hH
        refine lv_iinc (v := zI (i + 1)) (lv' := [(1, .int (zI (i + 1))), (0, .ref (za G 9 0))]) hx hb dX5_putAside_20 hl (k := 1) rfl (zI_add _ _) (by decide) rfl (fun ls hl => ?_)
        refine lv_goto (tgt := 2) hx hb dX5_putAside_23 (by decide) ?_
        exact ih2 (i + 1) (zup q (i) (S 9 1 i)) _ _ _ (by omega) (by omega) (fun x h1 h2 => if e : x = i then (by rw [e, zup_s]) else (by rw [zup_n e]; exact hq x h1 (by omega))) hH (lv_sub hl [1, 0] rfl)
  refine zb_ic h dX5_putAside_0 ?_
  refine lv_istore_n (lv' := [(1, .int (zI 0)), (0, .ref (za G 9 0))]) hx hb dX5_putAside_1 rfl hl (by decide) rfl (fun ls hl => ?_)
  exact C2 ((45 - 0 : Int).toNat + 1) 0 (S 9 2) _ _ _ (by omega) (by omega) (fun x h1 h2 => absurd h1 (by omega)) hH (lv_sub hl [1, 0] rfl)
theorem dX5_putBack_0 : decode cX5_putBack 0 = .ok (.iconst 0, 1) := by decide +kernel
theorem dX5_putBack_1 : decode cX5_putBack 1 = .ok (.istore_n 1, 1) := by decide +kernel
theorem dX5_putBack_2 : decode cX5_putBack 2 = .ok (.iload_n 1, 1) := by decide +kernel
theorem dX5_putBack_3 : decode cX5_putBack 3 = .ok (.bipush 45, 2) := by decide +kernel
theorem dX5_putBack_5 : decode cX5_putBack 5 = .ok (.if_icmp .ge 21, 3) := by decide +kernel
theorem dX5_putBack_8 : decode cX5_putBack 8 = .ok (.aload_n 0, 1) := by decide +kernel
theorem dX5_putBack_9 : decode cX5_putBack 9 = .ok (.getfield 7, 3) := by decide +kernel
theorem dX5_putBack_12 : decode cX5_putBack 12 = .ok (.iload_n 1, 1) := by decide +kernel
theorem dX5_putBack_13 : decode cX5_putBack 13 = .ok (.aload_n 0, 1) := by decide +kernel
theorem dX5_putBack_14 : decode cX5_putBack 14 = .ok (.getfield 13, 3) := by decide +kernel
theorem dX5_putBack_17 : decode cX5_putBack 17 = .ok (.iload_n 1, 1) := by decide +kernel
theorem dX5_putBack_18 : decode cX5_putBack 18 = .ok (.iaload, 1) := by decide +kernel
theorem dX5_putBack_19 : decode cX5_putBack 19 = .ok (.iastore, 1) := by decide +kernel
theorem dX5_putBack_20 : decode cX5_putBack 20 = .ok (.iinc 1 1, 3) := by decide +kernel
theorem dX5_putBack_23 : decode cX5_putBack 23 = .ok (.goto (-21), 3) := by decide +kernel
theorem dX5_putBack_26 : decode cX5_putBack 26 = .ok (.return_, 1) := by decide +kernel
def q_X5_putBack (S : zM) : zM → Prop := fun S1 => zMo S (S 9 0) (S 9 2) (S 9 2) (S 9 3) (S 9 4) (S 9 5) (S 9 6) = S1
def r_X5_putBack : Room := { frames := 0, cells := 0, slots := 0, locals := 0 }
set_option maxHeartbeats 4000000 in
set_option maxRecDepth 100000 in
theorem c_X5_putBack (l : Launch) (G : zG) (hG : zok G) (S : zM)  : Met l yX5_putBack (Cond.code yX5_putBack cX5_putBack 2 (none : Option FieldType) :: zTbl) r_X5_putBack (va_Pc [.ref (za G 9 0)] (zB G S)) (va_Qv (q_X5_putBack S) (zB G) (zA G)) 0 0 (zA G) := by
  refine zMet [(0, .ref (za G 9 0))] hG (by decide) (Nat.le_of_ble_eq_true rfl) rfl (fun p e s m args below meth c ls h hx hb hr hH hl => ?_)
  rw [← zM_id S] at hH
  have C2 : ∀ (fu : Nat) (i : Int) (q : Int → Int) (H : Heap) (locs : List Loc) (ls : Array Slot), (45 - i).toNat < fu → (0 ≤ i ∧ i ≤ 45) → (∀ x : Int, 0 ≤ x → x < i → q x = S 9 2 x) → zH G (zMo S (S 9 0) q (S 9 2) (S 9 3) (S 9 4) (S 9 5) (S 9 6)) s H locs → lv_has ls 2 [(0, .ref (za G 9 0)), (1, .int (zI i))] → W p l e r_X5_putBack s m args below meth c H locs 0 0 (MQ below (va_Qv (q_X5_putBack S) (zB G) (zA G)) args s 0 0 (zA G)) (F0 m 2 ls []) := by
    intro fu
    induction fu with
    | zero => intro i q H locs ls hfu; omega
    | succ fu ih2 =>
      intro i q H locs ls hfu hi hq hH hl
      refine lv_iload_n hx hb dX5_putBack_2 rfl (lv_at hl 1 rfl) ?_
      refine zb_bi h dX5_putBack_3 (by decide) (by decide) ?_
      refine zb_cge (tgt := 26) h (by omega) (by omega) dX5_putBack_5 (by decide) (fun c_5 => ?_) (fun c_5 => ?_)
      · have hH := zH_mo (σ' := S 9 2) (fun _ _ _ => rfl) (fun x h1 h2 => hq x h1 (by omega)) (fun _ _ _ => rfl) (fun _ _ _ => rfl) (fun _ _ _ => rfl) (fun _ _ _ => rfl) (fun _ _ _ => rfl) hH
        refine zrv h hr hH ?_ dX5_putBack_26
        exact rfl
      · refine lv_aload_n hx hb dX5_putBack_8 rfl (lv_at hl 0 rfl) ?_
        refine zg_5_1 h hH zf_X5_7 dX5_putBack_9 ?_
        refine lv_iload_n hx hb dX5_putBack_12 rfl (lv_at hl 1 rfl) ?_
        refine lv_aload_n hx hb dX5_putBack_13 rfl (lv_at hl 0 rfl) ?_
        refine zg_5_2 h hH zf_X5_13 dX5_putBack_14 ?_
        refine lv_iload_n hx hb dX5_putBack_17 rfl (lv_at hl 1 rfl) ?_
        refine zld_ar_as h hH (by omega) dX5_putBack_18 ?_
        rw [zM_2]
        refine zst_ar_s h hH (by omega) dX5_putBack_19 (fun H locs hH => ?_)
        rw [zs_M1] at hH
        refine lv_iinc (v := zI (i + 1)) (lv' := [(1, .int (zI (i + 1))), (0, .ref (za G 9 0))]) hx hb dX5_putBack_20 hl (k := 1) rfl (zI_add _ _) (by decide) rfl (fun ls hl => ?_)
        refine lv_goto (tgt := 2) hx hb dX5_putBack_23 (by decide) ?_
        exact ih2 (i + 1) (zup q (i) (S 9 2 i)) _ _ _ (by omega) (by omega) (fun x h1 h2 => if e : x = i then (by rw [e, zup_s]) else (by rw [zup_n e]; exact hq x h1 (by omega))) hH (lv_sub hl [1, 0] rfl)
  refine zb_ic h dX5_putBack_0 ?_
  refine lv_istore_n (lv' := [(1, .int (zI 0)), (0, .ref (za G 9 0))]) hx hb dX5_putBack_1 rfl hl (by decide) rfl (fun ls hl => ?_)
  exact C2 ((45 - 0 : Int).toNat + 1) 0 (S 9 1) _ _ _ (by omega) (by omega) (fun x h1 h2 => absurd h1 (by omega)) hH (lv_sub hl [1, 0] rfl)
theorem dX5_zone_0 : decode cX5_zone 0 = .ok (.aload_n 0, 1) := by decide +kernel
theorem dX5_zone_1 : decode cX5_zone 1 = .ok (.aload_n 0, 1) := by decide +kernel
theorem dX5_zone_2 : decode cX5_zone 2 = .ok (.iload_n 1, 1) := by decide +kernel
theorem dX5_zone_3 : decode cX5_zone 3 = .ok (.iload_n 2, 1) := by decide +kernel
theorem dX5_zone_4 : decode cX5_zone 4 = .ok (.invokevirtual 84, 3) := by decide +kernel
theorem dX5_zone_7 : decode cX5_zone 7 = .ok (.invokevirtual 87, 3) := by decide +kernel
theorem dX5_zone_10 : decode cX5_zone 10 = .ok (.ifCond .ne 5, 3) := by decide +kernel
theorem dX5_zone_13 : decode cX5_zone 13 = .ok (.iconst 0, 1) := by decide +kernel
theorem dX5_zone_14 : decode cX5_zone 14 = .ok (.ireturn, 1) := by decide +kernel
theorem dX5_zone_15 : decode cX5_zone 15 = .ok (.aload_n 0, 1) := by decide +kernel
theorem dX5_zone_16 : decode cX5_zone 16 = .ok (.invokevirtual 90, 3) := by decide +kernel
theorem dX5_zone_19 : decode cX5_zone 19 = .ok (.aload_n 0, 1) := by decide +kernel
theorem dX5_zone_20 : decode cX5_zone 20 = .ok (.iload_n 1, 1) := by decide +kernel
theorem dX5_zone_21 : decode cX5_zone 21 = .ok (.iload_n 2, 1) := by decide +kernel
theorem dX5_zone_22 : decode cX5_zone 22 = .ok (.invokevirtual 93, 3) := by decide +kernel
theorem dX5_zone_25 : decode cX5_zone 25 = .ok (.ireturn, 1) := by decide +kernel
def q_X5_zone (S : zM) (d : Int) (w : Int) : Int32 → zM → Prop := fun r S1 => ((¬ (0 ≤ d ∧ d ≤ 24 ∧ 0 ≤ w ∧ w ≤ 10)) ∧ zMo S (zup (S 9 0) 0 1) (S 9 1) (S 9 2) (S 9 3) (S 9 4) (S 9 5) (S 9 6) = S1) ∨ (((0 ≤ d ∧ d ≤ 24 ∧ 0 ≤ w ∧ w ≤ 10) ∧ S 9 1 4 = 8) ∧ zMo S (zup (S 9 0) 0 2) (S 9 1) (S 9 2) (S 9 3) (S 9 4) (S 9 5) (S 9 6) = S1) ∨ (((0 ≤ d ∧ d ≤ 24 ∧ 0 ≤ w ∧ w ≤ 10) ∧ S 9 1 4 < 8) ∧ r = zI (S 9 1 4) ∧ zMo S (zup (zup (S 9 0) 0 0) 4 (zSm ((zup (S 9 0) 0 0) 4))) (tAdd (S 9 1) d w) (S 9 2) (zSv (S 9 3) (S 9 1) ((zup (S 9 0) 0 0) 4)) (S 9 4) (S 9 5) (S 9 6) = S1)
def r_X5_zone : Room := { frames := 2, cells := 0, slots := 0, locals := 44 }
set_option maxHeartbeats 4000000 in
set_option maxRecDepth 100000 in
theorem c_X5_zone (l : Launch) (G : zG) (hG : zok G) (S : zM) (d : Int) (hd_ : -2147483648 ≤ d ∧ d ≤ 2147483647) (w : Int) (hw_ : -2147483648 ≤ w ∧ w ≤ 2147483647) (hsm : 0 ≤ S 9 0 4 ∧ S 9 0 4 ≤ 6) (hw : zW (S 9 1)) : Met l yX5_zone (Cond.code yX5_zone cX5_zone 3 (some FieldType.int) :: zTbl) r_X5_zone (va_Pc [.ref (za G 9 0), .int (zI d), .int (zI w)] (zB G S)) (va_Qi (q_X5_zone S d w) (zB G) (zA G)) 0 0 (zA G) := by
  refine zMet [(0, .ref (za G 9 0)), (1, .int (zI d)), (2, .int (zI w))] hG (by decide) (Nat.le_of_ble_eq_true rfl) rfl (fun p e s m args below meth c ls h hx hb hr hH hl => ?_)
  rw [← zM_id S] at hH
  refine lv_aload_n hx hb dX5_zone_0 rfl (lv_at hl 0 rfl) ?_
  refine lv_aload_n hx hb dX5_zone_1 rfl (lv_at hl 0 rfl) ?_
  refine lv_iload_n hx hb dX5_zone_2 rfl (lv_at hl 1 rfl) ?_
  refine lv_iload_n hx hb dX5_zone_3 rfl (lv_at hl 2 rfl) ?_
  refine zcVi h hH (zr_5 h hH) (As := [.int (zI d), .int (zI w)]) (rest := [.ref (za G 9 0)]) (c_X5_zoneFault l G hG (zMo S (S 9 0) (S 9 1) (S 9 2) (S 9 3) (S 9 4) (S 9 5) (S 9 6)) d w (by omega) (by omega) (zM_hw hw)) zce_X5_zoneFault zcv_X5_zoneFault zm_X5_84 hl.1 rfl rfl ⟨rfl, rfl⟩ ⟨Nat.le_of_ble_eq_true rfl, Nat.le_of_ble_eq_true rfl⟩ (Nat.le_of_ble_eq_true rfl) ⟨Nat.zero_le _, Nat.zero_le _⟩ dX5_zone_4 (fun r_4 S_4 H locs hq hH => ?_)
  obtain ⟨b_4, rfl, hb_4, rfl⟩ := hq
  (try rw [zM_1] at hb_4)
  refine zcVi h hH (zr_5 h hH) (As := [.int (zI b_4)]) (rest := []) (c_X5_holds l G hG (zMo S (S 9 0) (S 9 1) (S 9 2) (S 9 3) (S 9 4) (S 9 5) (S 9 6)) b_4 (by omega)) zce_X5_holds zcv_X5_holds zm_X5_87 hl.1 rfl rfl ⟨rfl, rfl⟩ ⟨Nat.le_of_ble_eq_true rfl, Nat.le_of_ble_eq_true rfl⟩ (Nat.le_of_ble_eq_true rfl) ⟨Nat.zero_le _, Nat.zero_le _⟩ dX5_zone_7 (fun r_7 S_7 H locs hq hH => ?_)
  obtain ⟨b_7, rfl, hb_7, rfl⟩ := hq
  (try rw [zM_1] at hb_7)
  simp only [zM_M, zM_0, zM_1, zM_2, zM_3, zM_4, zM_5, zM_6] at hH
  refine zb_ine (tgt := 15) h (by omega) dX5_zone_10 (by decide) (fun c_10 => ?_) (fun c_10 => ?_)
  · obtain rfl : b_4 = 0 := by omega
    refine lv_aload_n hx hb dX5_zone_15 rfl (lv_at hl 0 rfl) ?_
    refine zcVv h hH (zr_5 h hH) (As := []) (rest := []) (c_X5_save l G hG (zMo S (zup (S 9 0) 0 0) (S 9 1) (S 9 2) (S 9 3) (S 9 4) (S 9 5) (S 9 6)) (by rw [zM_0, zup_n (by omega)]; exact hsm)) zce_X5_save zcv_X5_save zm_X5_90 hl.1 rfl rfl ⟨rfl, rfl⟩ ⟨Nat.le_of_ble_eq_true rfl, Nat.le_of_ble_eq_true rfl⟩ (Nat.le_of_ble_eq_true rfl) ⟨Nat.zero_le _, Nat.zero_le _⟩ dX5_zone_16 (fun S_16 H locs hq hH => ?_)
    obtain rfl := hq
    simp only [zM_M, zM_0, zM_1, zM_2, zM_3, zM_4, zM_5, zM_6] at hH
    refine lv_aload_n hx hb dX5_zone_19 rfl (lv_at hl 0 rfl) ?_
    refine lv_iload_n hx hb dX5_zone_20 rfl (lv_at hl 1 rfl) ?_
    refine lv_iload_n hx hb dX5_zone_21 rfl (lv_at hl 2 rfl) ?_
    refine zcVi h hH (zr_5 h hH) (As := [.int (zI d), .int (zI w)]) (rest := []) (c_X5_zones l G hG (zMo S (zup (zup (S 9 0) 0 0) 4 (zSm ((zup (S 9 0) 0 0) 4))) (S 9 1) (S 9 2) (zSv (S 9 3) (S 9 1) ((zup (S 9 0) 0 0) 4)) (S 9 4) (S 9 5) (S 9 6)) d w (by rw [zM_1]; omega) (zM_hw hw)) zce_X5_zones zcv_X5_zones zm_X5_93 hl.1 rfl rfl ⟨rfl, rfl⟩ ⟨Nat.le_of_ble_eq_true rfl, Nat.le_of_ble_eq_true rfl⟩ (Nat.le_of_ble_eq_true rfl) ⟨Nat.zero_le _, Nat.zero_le _⟩ dX5_zone_22 (fun r_22 S_22 H locs hq hH => ?_)
    obtain ⟨rfl, rfl⟩ := hq
    simp only [zM_M, zM_0, zM_1, zM_2, zM_3, zM_4, zM_5, zM_6] at hH
    rw [zM_1]
    refine zri h hr hH ?_ dX5_zone_25
    exact Or.inr (Or.inr (⟨by omega, rfl, rfl⟩))
  · refine zb_ic h dX5_zone_13 ?_
    refine zri h hr hH ?_ dX5_zone_14
    rcases hb_4 with ⟨rfl, q1⟩ | ⟨rfl, q1⟩ | ⟨rfl, q1⟩
    · exact Or.inl ⟨by omega, rfl⟩
    · exact Or.inr (Or.inl ⟨by omega, rfl⟩)
    · exfalso; omega
theorem dX5_burn_0 : decode cX5_burn 0 = .ok (.aload_n 0, 1) := by decide +kernel
theorem dX5_burn_1 : decode cX5_burn 1 = .ok (.aload_n 0, 1) := by decide +kernel
theorem dX5_burn_2 : decode cX5_burn 2 = .ok (.iload_n 1, 1) := by decide +kernel
theorem dX5_burn_3 : decode cX5_burn 3 = .ok (.iload_n 2, 1) := by decide +kernel
theorem dX5_burn_4 : decode cX5_burn 4 = .ok (.invokevirtual 114, 3) := by decide +kernel
theorem dX5_burn_7 : decode cX5_burn 7 = .ok (.invokevirtual 87, 3) := by decide +kernel
theorem dX5_burn_10 : decode cX5_burn 10 = .ok (.ifCond .ne 5, 3) := by decide +kernel
theorem dX5_burn_13 : decode cX5_burn 13 = .ok (.iconst 0, 1) := by decide +kernel
theorem dX5_burn_14 : decode cX5_burn 14 = .ok (.ireturn, 1) := by decide +kernel
theorem dX5_burn_15 : decode cX5_burn 15 = .ok (.aload_n 0, 1) := by decide +kernel
theorem dX5_burn_16 : decode cX5_burn 16 = .ok (.invokevirtual 90, 3) := by decide +kernel
theorem dX5_burn_19 : decode cX5_burn 19 = .ok (.aload_n 0, 1) := by decide +kernel
theorem dX5_burn_20 : decode cX5_burn 20 = .ok (.iload_n 1, 1) := by decide +kernel
theorem dX5_burn_21 : decode cX5_burn 21 = .ok (.iconst 2, 1) := by decide +kernel
theorem dX5_burn_22 : decode cX5_burn 22 = .ok (.iload_n 2, 1) := by decide +kernel
theorem dX5_burn_23 : decode cX5_burn 23 = .ok (.invokevirtual 117, 3) := by decide +kernel
theorem dX5_burn_26 : decode cX5_burn 26 = .ok (.ireturn, 1) := by decide +kernel
def q_X5_burn (S : zM) (z : Int) (t : Int) : Int32 → zM → Prop := fun r S1 => ((¬ (0 ≤ z ∧ z < S 9 1 4)) ∧ zMo S (zup (S 9 0) 0 1) (S 9 1) (S 9 2) (S 9 3) (S 9 4) (S 9 5) (S 9 6) = S1) ∨ (((0 ≤ z ∧ z < S 9 1 4) ∧ ¬ (0 ≤ t ∧ t ≤ 999)) ∧ zMo S (zup (S 9 0) 0 2) (S 9 1) (S 9 2) (S 9 3) (S 9 4) (S 9 5) (S 9 6) = S1) ∨ (((0 ≤ z ∧ z < S 9 1 4) ∧ (0 ≤ t ∧ t ≤ 999)) ∧ r = zI (tTo (zup (S 9 1) (5 + 5 * z + 2) t) z) ∧ ∃ M', zMo S (zup (zup (S 9 0) 0 0) 4 (zSm ((zup (S 9 0) 0 0) 4))) (zup (S 9 1) (5 + 5 * z + 2) t) (S 9 2) (zSv (S 9 3) (S 9 1) ((zup (S 9 0) 0 0) 4)) (S 9 4) M' (S 9 6) = S1)
def r_X5_burn : Room := { frames := 5, cells := 0, slots := 0, locals := 113 }
set_option maxHeartbeats 4000000 in
set_option maxRecDepth 100000 in
theorem c_X5_burn (l : Launch) (G : zG) (hG : zok G) (S : zM) (z : Int) (hz_ : -2147483648 ≤ z ∧ z ≤ 2147483647) (t : Int) (ht_ : -2147483648 ≤ t ∧ t ≤ 2147483647) (hsm : 0 ≤ S 9 0 4 ∧ S 9 0 4 ≤ 6) (hw : zW (S 9 1)) : Met l yX5_burn (Cond.code yX5_burn cX5_burn 3 (some FieldType.int) :: zTbl) r_X5_burn (va_Pc [.ref (za G 9 0), .int (zI z), .int (zI t)] (zB G S)) (va_Qi (q_X5_burn S z t) (zB G) (zA G)) 0 0 (zA G) := by
  refine zMet [(0, .ref (za G 9 0)), (1, .int (zI z)), (2, .int (zI t))] hG (by decide) (Nat.le_of_ble_eq_true rfl) rfl (fun p e s m args below meth c ls h hx hb hr hH hl => ?_)
  rw [← zM_id S] at hH
  refine lv_aload_n hx hb dX5_burn_0 rfl (lv_at hl 0 rfl) ?_
  refine lv_aload_n hx hb dX5_burn_1 rfl (lv_at hl 0 rfl) ?_
  refine lv_iload_n hx hb dX5_burn_2 rfl (lv_at hl 1 rfl) ?_
  refine lv_iload_n hx hb dX5_burn_3 rfl (lv_at hl 2 rfl) ?_
  refine zcVi h hH (zr_5 h hH) (As := [.int (zI z), .int (zI t)]) (rest := [.ref (za G 9 0)]) (c_X5_partFault l G hG (zMo S (S 9 0) (S 9 1) (S 9 2) (S 9 3) (S 9 4) (S 9 5) (S 9 6)) z t (by omega) (by omega) (zM_hw hw)) zce_X5_partFault zcv_X5_partFault zm_X5_114 hl.1 rfl rfl ⟨rfl, rfl⟩ ⟨Nat.le_of_ble_eq_true rfl, Nat.le_of_ble_eq_true rfl⟩ (Nat.le_of_ble_eq_true rfl) ⟨Nat.zero_le _, Nat.zero_le _⟩ dX5_burn_4 (fun r_4 S_4 H locs hq hH => ?_)
  obtain ⟨b_4, rfl, hb_4, rfl⟩ := hq
  (try rw [zM_1] at hb_4)
  refine zcVi h hH (zr_5 h hH) (As := [.int (zI b_4)]) (rest := []) (c_X5_holds l G hG (zMo S (S 9 0) (S 9 1) (S 9 2) (S 9 3) (S 9 4) (S 9 5) (S 9 6)) b_4 (by omega)) zce_X5_holds zcv_X5_holds zm_X5_87 hl.1 rfl rfl ⟨rfl, rfl⟩ ⟨Nat.le_of_ble_eq_true rfl, Nat.le_of_ble_eq_true rfl⟩ (Nat.le_of_ble_eq_true rfl) ⟨Nat.zero_le _, Nat.zero_le _⟩ dX5_burn_7 (fun r_7 S_7 H locs hq hH => ?_)
  obtain ⟨b_7, rfl, hb_7, rfl⟩ := hq
  (try rw [zM_1] at hb_7)
  simp only [zM_M, zM_0, zM_1, zM_2, zM_3, zM_4, zM_5, zM_6] at hH
  refine zb_ine (tgt := 15) h (by omega) dX5_burn_10 (by decide) (fun c_10 => ?_) (fun c_10 => ?_)
  · have f4 := zW_4 hw
    obtain rfl : b_4 = 0 := by omega
    refine lv_aload_n hx hb dX5_burn_15 rfl (lv_at hl 0 rfl) ?_
    refine zcVv h hH (zr_5 h hH) (As := []) (rest := []) (c_X5_save l G hG (zMo S (zup (S 9 0) 0 0) (S 9 1) (S 9 2) (S 9 3) (S 9 4) (S 9 5) (S 9 6)) (by rw [zM_0, zup_n (by omega)]; exact hsm)) zce_X5_save zcv_X5_save zm_X5_90 hl.1 rfl rfl ⟨rfl, rfl⟩ ⟨Nat.le_of_ble_eq_true rfl, Nat.le_of_ble_eq_true rfl⟩ (Nat.le_of_ble_eq_true rfl) ⟨Nat.zero_le _, Nat.zero_le _⟩ dX5_burn_16 (fun S_16 H locs hq hH => ?_)
    obtain rfl := hq
    simp only [zM_M, zM_0, zM_1, zM_2, zM_3, zM_4, zM_5, zM_6] at hH
    refine lv_aload_n hx hb dX5_burn_19 rfl (lv_at hl 0 rfl) ?_
    refine lv_iload_n hx hb dX5_burn_20 rfl (lv_at hl 1 rfl) ?_
    refine zb_ic h dX5_burn_21 ?_
    refine lv_iload_n hx hb dX5_burn_22 rfl (lv_at hl 2 rfl) ?_
    refine zcVi h hH (zr_5 h hH) (As := [.int (zI z), .int (zI 2), .int (zI t)]) (rest := []) (c_X5_parts_bu l G hG (zMo S (zup (zup (S 9 0) 0 0) 4 (zSm ((zup (S 9 0) 0 0) 4))) (S 9 1) (S 9 2) (zSv (S 9 3) (S 9 1) ((zup (S 9 0) 0 0) 4)) (S 9 4) (S 9 5) (S 9 6)) z t (by omega) (by omega) (zM_hw hw)) zce_X5_parts zcv_X5_parts zm_X5_117 hl.1 rfl rfl ⟨rfl, rfl⟩ ⟨Nat.le_of_ble_eq_true rfl, Nat.le_of_ble_eq_true rfl⟩ (Nat.le_of_ble_eq_true rfl) ⟨Nat.zero_le _, Nat.zero_le _⟩ dX5_burn_23 (fun r_23 S_23 H locs hq hH => ?_)
    obtain ⟨rfl, M_23, rfl⟩ := hq
    simp only [zM_M, zM_0, zM_1, zM_2, zM_3, zM_4, zM_5, zM_6] at hH
    rw [zM_1]
    refine zri h hr hH ?_ dX5_burn_26
    exact Or.inr (Or.inr (⟨by omega, rfl, _, rfl⟩))
  · refine zb_ic h dX5_burn_13 ?_
    refine zri h hr hH ?_ dX5_burn_14
    rcases hb_4 with ⟨rfl, q1⟩ | ⟨rfl, q1⟩ | ⟨rfl, q1⟩
    · exact Or.inl ⟨by omega, rfl⟩
    · exact Or.inr (Or.inl ⟨by omega, rfl⟩)
    · exfalso; omega
theorem dX5_hold_0 : decode cX5_hold 0 = .ok (.aload_n 0, 1) := by decide +kernel
theorem dX5_hold_1 : decode cX5_hold 1 = .ok (.aload_n 0, 1) := by decide +kernel
theorem dX5_hold_2 : decode cX5_hold 2 = .ok (.iload_n 1, 1) := by decide +kernel
theorem dX5_hold_3 : decode cX5_hold 3 = .ok (.iload_n 2, 1) := by decide +kernel
theorem dX5_hold_4 : decode cX5_hold 4 = .ok (.invokevirtual 114, 3) := by decide +kernel
theorem dX5_hold_7 : decode cX5_hold 7 = .ok (.invokevirtual 87, 3) := by decide +kernel
theorem dX5_hold_10 : decode cX5_hold 10 = .ok (.ifCond .ne 5, 3) := by decide +kernel
theorem dX5_hold_13 : decode cX5_hold 13 = .ok (.iconst 0, 1) := by decide +kernel
theorem dX5_hold_14 : decode cX5_hold 14 = .ok (.ireturn, 1) := by decide +kernel
theorem dX5_hold_15 : decode cX5_hold 15 = .ok (.aload_n 0, 1) := by decide +kernel
theorem dX5_hold_16 : decode cX5_hold 16 = .ok (.invokevirtual 90, 3) := by decide +kernel
theorem dX5_hold_19 : decode cX5_hold 19 = .ok (.aload_n 0, 1) := by decide +kernel
theorem dX5_hold_20 : decode cX5_hold 20 = .ok (.iload_n 1, 1) := by decide +kernel
theorem dX5_hold_21 : decode cX5_hold 21 = .ok (.iconst 3, 1) := by decide +kernel
theorem dX5_hold_22 : decode cX5_hold 22 = .ok (.iload_n 2, 1) := by decide +kernel
theorem dX5_hold_23 : decode cX5_hold 23 = .ok (.invokevirtual 117, 3) := by decide +kernel
theorem dX5_hold_26 : decode cX5_hold 26 = .ok (.ireturn, 1) := by decide +kernel
def q_X5_hold (S : zM) (z : Int) (t : Int) : Int32 → zM → Prop := fun r S1 => ((¬ (0 ≤ z ∧ z < S 9 1 4)) ∧ zMo S (zup (S 9 0) 0 1) (S 9 1) (S 9 2) (S 9 3) (S 9 4) (S 9 5) (S 9 6) = S1) ∨ (((0 ≤ z ∧ z < S 9 1 4) ∧ ¬ (0 ≤ t ∧ t ≤ 999)) ∧ zMo S (zup (S 9 0) 0 2) (S 9 1) (S 9 2) (S 9 3) (S 9 4) (S 9 5) (S 9 6) = S1) ∨ (((0 ≤ z ∧ z < S 9 1 4) ∧ (0 ≤ t ∧ t ≤ 999)) ∧ r = zI (tTo (zup (S 9 1) (5 + 5 * z + 3) t) z) ∧ ∃ M', zMo S (zup (zup (S 9 0) 0 0) 4 (zSm ((zup (S 9 0) 0 0) 4))) (zup (S 9 1) (5 + 5 * z + 3) t) (S 9 2) (zSv (S 9 3) (S 9 1) ((zup (S 9 0) 0 0) 4)) (S 9 4) M' (S 9 6) = S1)
def r_X5_hold : Room := { frames := 5, cells := 0, slots := 0, locals := 113 }
set_option maxHeartbeats 4000000 in
set_option maxRecDepth 100000 in
theorem c_X5_hold (l : Launch) (G : zG) (hG : zok G) (S : zM) (z : Int) (hz_ : -2147483648 ≤ z ∧ z ≤ 2147483647) (t : Int) (ht_ : -2147483648 ≤ t ∧ t ≤ 2147483647) (hsm : 0 ≤ S 9 0 4 ∧ S 9 0 4 ≤ 6) (hw : zW (S 9 1)) : Met l yX5_hold (Cond.code yX5_hold cX5_hold 3 (some FieldType.int) :: zTbl) r_X5_hold (va_Pc [.ref (za G 9 0), .int (zI z), .int (zI t)] (zB G S)) (va_Qi (q_X5_hold S z t) (zB G) (zA G)) 0 0 (zA G) := by
  refine zMet [(0, .ref (za G 9 0)), (1, .int (zI z)), (2, .int (zI t))] hG (by decide) (Nat.le_of_ble_eq_true rfl) rfl (fun p e s m args below meth c ls h hx hb hr hH hl => ?_)
  rw [← zM_id S] at hH
  refine lv_aload_n hx hb dX5_hold_0 rfl (lv_at hl 0 rfl) ?_
  refine lv_aload_n hx hb dX5_hold_1 rfl (lv_at hl 0 rfl) ?_
  refine lv_iload_n hx hb dX5_hold_2 rfl (lv_at hl 1 rfl) ?_
  refine lv_iload_n hx hb dX5_hold_3 rfl (lv_at hl 2 rfl) ?_
  refine zcVi h hH (zr_5 h hH) (As := [.int (zI z), .int (zI t)]) (rest := [.ref (za G 9 0)]) (c_X5_partFault l G hG (zMo S (S 9 0) (S 9 1) (S 9 2) (S 9 3) (S 9 4) (S 9 5) (S 9 6)) z t (by omega) (by omega) (zM_hw hw)) zce_X5_partFault zcv_X5_partFault zm_X5_114 hl.1 rfl rfl ⟨rfl, rfl⟩ ⟨Nat.le_of_ble_eq_true rfl, Nat.le_of_ble_eq_true rfl⟩ (Nat.le_of_ble_eq_true rfl) ⟨Nat.zero_le _, Nat.zero_le _⟩ dX5_hold_4 (fun r_4 S_4 H locs hq hH => ?_)
  obtain ⟨b_4, rfl, hb_4, rfl⟩ := hq
  (try rw [zM_1] at hb_4)
  refine zcVi h hH (zr_5 h hH) (As := [.int (zI b_4)]) (rest := []) (c_X5_holds l G hG (zMo S (S 9 0) (S 9 1) (S 9 2) (S 9 3) (S 9 4) (S 9 5) (S 9 6)) b_4 (by omega)) zce_X5_holds zcv_X5_holds zm_X5_87 hl.1 rfl rfl ⟨rfl, rfl⟩ ⟨Nat.le_of_ble_eq_true rfl, Nat.le_of_ble_eq_true rfl⟩ (Nat.le_of_ble_eq_true rfl) ⟨Nat.zero_le _, Nat.zero_le _⟩ dX5_hold_7 (fun r_7 S_7 H locs hq hH => ?_)
  obtain ⟨b_7, rfl, hb_7, rfl⟩ := hq
  (try rw [zM_1] at hb_7)
  simp only [zM_M, zM_0, zM_1, zM_2, zM_3, zM_4, zM_5, zM_6] at hH
  refine zb_ine (tgt := 15) h (by omega) dX5_hold_10 (by decide) (fun c_10 => ?_) (fun c_10 => ?_)
  · have f4 := zW_4 hw
    obtain rfl : b_4 = 0 := by omega
    refine lv_aload_n hx hb dX5_hold_15 rfl (lv_at hl 0 rfl) ?_
    refine zcVv h hH (zr_5 h hH) (As := []) (rest := []) (c_X5_save l G hG (zMo S (zup (S 9 0) 0 0) (S 9 1) (S 9 2) (S 9 3) (S 9 4) (S 9 5) (S 9 6)) (by rw [zM_0, zup_n (by omega)]; exact hsm)) zce_X5_save zcv_X5_save zm_X5_90 hl.1 rfl rfl ⟨rfl, rfl⟩ ⟨Nat.le_of_ble_eq_true rfl, Nat.le_of_ble_eq_true rfl⟩ (Nat.le_of_ble_eq_true rfl) ⟨Nat.zero_le _, Nat.zero_le _⟩ dX5_hold_16 (fun S_16 H locs hq hH => ?_)
    obtain rfl := hq
    simp only [zM_M, zM_0, zM_1, zM_2, zM_3, zM_4, zM_5, zM_6] at hH
    refine lv_aload_n hx hb dX5_hold_19 rfl (lv_at hl 0 rfl) ?_
    refine lv_iload_n hx hb dX5_hold_20 rfl (lv_at hl 1 rfl) ?_
    refine zb_ic h dX5_hold_21 ?_
    refine lv_iload_n hx hb dX5_hold_22 rfl (lv_at hl 2 rfl) ?_
    refine zcVi h hH (zr_5 h hH) (As := [.int (zI z), .int (zI 3), .int (zI t)]) (rest := []) (c_X5_parts_ho l G hG (zMo S (zup (zup (S 9 0) 0 0) 4 (zSm ((zup (S 9 0) 0 0) 4))) (S 9 1) (S 9 2) (zSv (S 9 3) (S 9 1) ((zup (S 9 0) 0 0) 4)) (S 9 4) (S 9 5) (S 9 6)) z t (by omega) (by omega) (zM_hw hw)) zce_X5_parts zcv_X5_parts zm_X5_117 hl.1 rfl rfl ⟨rfl, rfl⟩ ⟨Nat.le_of_ble_eq_true rfl, Nat.le_of_ble_eq_true rfl⟩ (Nat.le_of_ble_eq_true rfl) ⟨Nat.zero_le _, Nat.zero_le _⟩ dX5_hold_23 (fun r_23 S_23 H locs hq hH => ?_)
    obtain ⟨rfl, M_23, rfl⟩ := hq
    simp only [zM_M, zM_0, zM_1, zM_2, zM_3, zM_4, zM_5, zM_6] at hH
    rw [zM_1]
    refine zri h hr hH ?_ dX5_hold_26
    exact Or.inr (Or.inr (⟨by omega, rfl, _, rfl⟩))
  · refine zb_ic h dX5_hold_13 ?_
    refine zri h hr hH ?_ dX5_hold_14
    rcases hb_4 with ⟨rfl, q1⟩ | ⟨rfl, q1⟩ | ⟨rfl, q1⟩
    · exact Or.inl ⟨by omega, rfl⟩
    · exact Or.inr (Or.inl ⟨by omega, rfl⟩)
    · exfalso; omega
theorem dX5_want_0 : decode cX5_want 0 = .ok (.aload_n 0, 1) := by decide +kernel
theorem dX5_want_1 : decode cX5_want 1 = .ok (.aload_n 0, 1) := by decide +kernel
theorem dX5_want_2 : decode cX5_want 2 = .ok (.iload_n 1, 1) := by decide +kernel
theorem dX5_want_3 : decode cX5_want 3 = .ok (.invokevirtual 96, 3) := by decide +kernel
theorem dX5_want_6 : decode cX5_want 6 = .ok (.ifCond .ne 7, 3) := by decide +kernel
theorem dX5_want_9 : decode cX5_want 9 = .ok (.iconst 1, 1) := by decide +kernel
theorem dX5_want_10 : decode cX5_want 10 = .ok (.goto 18, 3) := by decide +kernel
theorem dX5_want_13 : decode cX5_want 13 = .ok (.iload_n 2, 1) := by decide +kernel
theorem dX5_want_14 : decode cX5_want 14 = .ok (.iconst 0, 1) := by decide +kernel
theorem dX5_want_15 : decode cX5_want 15 = .ok (.bipush 10, 2) := by decide +kernel
theorem dX5_want_17 : decode cX5_want 17 = .ok (.invokestatic 32, 3) := by decide +kernel
theorem dX5_want_20 : decode cX5_want 20 = .ok (.ifCond .ne 7, 3) := by decide +kernel
theorem dX5_want_23 : decode cX5_want 23 = .ok (.iconst 2, 1) := by decide +kernel
theorem dX5_want_24 : decode cX5_want 24 = .ok (.goto 4, 3) := by decide +kernel
theorem dX5_want_27 : decode cX5_want 27 = .ok (.iconst 0, 1) := by decide +kernel
theorem dX5_want_28 : decode cX5_want 28 = .ok (.invokevirtual 87, 3) := by decide +kernel
theorem dX5_want_31 : decode cX5_want 31 = .ok (.ifCond .ne 5, 3) := by decide +kernel
theorem dX5_want_34 : decode cX5_want 34 = .ok (.iconst 0, 1) := by decide +kernel
theorem dX5_want_35 : decode cX5_want 35 = .ok (.ireturn, 1) := by decide +kernel
theorem dX5_want_36 : decode cX5_want 36 = .ok (.aload_n 0, 1) := by decide +kernel
theorem dX5_want_37 : decode cX5_want 37 = .ok (.invokevirtual 90, 3) := by decide +kernel
theorem dX5_want_40 : decode cX5_want 40 = .ok (.aload_n 0, 1) := by decide +kernel
theorem dX5_want_41 : decode cX5_want 41 = .ok (.getfield 7, 3) := by decide +kernel
theorem dX5_want_44 : decode cX5_want 44 = .ok (.iload_n 1, 1) := by decide +kernel
theorem dX5_want_45 : decode cX5_want 45 = .ok (.iconst 1, 1) := by decide +kernel
theorem dX5_want_46 : decode cX5_want 46 = .ok (.invokestatic 51, 3) := by decide +kernel
theorem dX5_want_49 : decode cX5_want 49 = .ok (.iaload, 1) := by decide +kernel
theorem dX5_want_50 : decode cX5_want 50 = .ok (.istore_n 3, 1) := by decide +kernel
theorem dX5_want_51 : decode cX5_want 51 = .ok (.aload_n 0, 1) := by decide +kernel
theorem dX5_want_52 : decode cX5_want 52 = .ok (.getfield 7, 3) := by decide +kernel
theorem dX5_want_55 : decode cX5_want 55 = .ok (.iload_n 1, 1) := by decide +kernel
theorem dX5_want_56 : decode cX5_want 56 = .ok (.iconst 1, 1) := by decide +kernel
theorem dX5_want_57 : decode cX5_want 57 = .ok (.invokestatic 51, 3) := by decide +kernel
theorem dX5_want_60 : decode cX5_want 60 = .ok (.iload_n 2, 1) := by decide +kernel
theorem dX5_want_61 : decode cX5_want 61 = .ok (.iastore, 1) := by decide +kernel
theorem dX5_want_62 : decode cX5_want 62 = .ok (.iload_n 3, 1) := by decide +kernel
theorem dX5_want_63 : decode cX5_want 63 = .ok (.ireturn, 1) := by decide +kernel
def q_X5_want (S : zM) (z : Int) (w : Int) : Int32 → zM → Prop := fun r S1 => ((¬ (0 ≤ z ∧ z < S 9 1 4)) ∧ zMo S (zup (S 9 0) 0 1) (S 9 1) (S 9 2) (S 9 3) (S 9 4) (S 9 5) (S 9 6) = S1) ∨ (((0 ≤ z ∧ z < S 9 1 4) ∧ ¬ (0 ≤ w ∧ w ≤ 10)) ∧ zMo S (zup (S 9 0) 0 2) (S 9 1) (S 9 2) (S 9 3) (S 9 4) (S 9 5) (S 9 6) = S1) ∨ (((0 ≤ z ∧ z < S 9 1 4) ∧ (0 ≤ w ∧ w ≤ 10)) ∧ r = zI (S 9 1 (5 + 5 * z + 1)) ∧ zMo S (zup (zup (S 9 0) 0 0) 4 (zSm ((zup (S 9 0) 0 0) 4))) (zup (S 9 1) (5 + 5 * z + 1) w) (S 9 2) (zSv (S 9 3) (S 9 1) ((zup (S 9 0) 0 0) 4)) (S 9 4) (S 9 5) (S 9 6) = S1)
def r_X5_want : Room := { frames := 2, cells := 0, slots := 0, locals := 43 }
set_option maxHeartbeats 4000000 in
set_option maxRecDepth 100000 in
theorem c_X5_want (l : Launch) (G : zG) (hG : zok G) (S : zM) (z : Int) (hz_ : -2147483648 ≤ z ∧ z ≤ 2147483647) (w : Int) (hw_ : -2147483648 ≤ w ∧ w ≤ 2147483647) (hsm : 0 ≤ S 9 0 4 ∧ S 9 0 4 ≤ 6) (hw : zW (S 9 1)) : Met l yX5_want (Cond.code yX5_want cX5_want 4 (some FieldType.int) :: zTbl) r_X5_want (va_Pc [.ref (za G 9 0), .int (zI z), .int (zI w)] (zB G S)) (va_Qi (q_X5_want S z w) (zB G) (zA G)) 0 0 (zA G) := by
  refine zMet [(0, .ref (za G 9 0)), (1, .int (zI z)), (2, .int (zI w))] hG (by decide) (Nat.le_of_ble_eq_true rfl) rfl (fun p e s m args below meth c ls h hx hb hr hH hl => ?_)
  rw [← zM_id S] at hH
  refine lv_aload_n hx hb dX5_want_0 rfl (lv_at hl 0 rfl) ?_
  refine lv_aload_n hx hb dX5_want_1 rfl (lv_at hl 0 rfl) ?_
  refine lv_iload_n hx hb dX5_want_2 rfl (lv_at hl 1 rfl) ?_
  refine zcVi h hH (zr_5 h hH) (As := [.int (zI z)]) (rest := [.ref (za G 9 0)]) (c_X5_isZone l G hG (zMo S (S 9 0) (S 9 1) (S 9 2) (S 9 3) (S 9 4) (S 9 5) (S 9 6)) z (by omega) (zM_hw hw)) zce_X5_isZone zcv_X5_isZone zm_X5_96 hl.1 rfl rfl ⟨rfl, rfl⟩ ⟨Nat.le_of_ble_eq_true rfl, Nat.le_of_ble_eq_true rfl⟩ (Nat.le_of_ble_eq_true rfl) ⟨Nat.zero_le _, Nat.zero_le _⟩ dX5_want_3 (fun r_3 S_3 H locs hq hH => ?_)
  obtain ⟨b_3, rfl, hb_3, rfl⟩ := hq
  (try rw [zM_1] at hb_3)
  refine zb_ine (tgt := 13) h (by omega) dX5_want_6 (by decide) (fun c_6 => ?_) (fun c_6 => ?_)
  · refine lv_iload_n hx hb dX5_want_13 rfl (lv_at hl 2 rfl) ?_
    refine zb_ic h dX5_want_14 ?_
    refine zb_bi h dX5_want_15 (by decide) (by decide) ?_
    refine zcSi h hH (As := [.int (zI w), .int (zI 0), .int (zI 10)]) (rest := [.ref (za G 9 0)]) (c_X5_in l G hG (zMo S (S 9 0) (S 9 1) (S 9 2) (S 9 3) (S 9 4) (S 9 5) (S 9 6)) w 0 10 (by omega) (by omega) (by omega)) zce_X5_in zt_X5_in zm_X5_32 hl.1 rfl rfl ⟨rfl, rfl⟩ ⟨Nat.le_of_ble_eq_true rfl, Nat.le_of_ble_eq_true rfl⟩ (Nat.le_of_ble_eq_true rfl) ⟨Nat.zero_le _, Nat.zero_le _⟩ dX5_want_17 (fun r_17 S_17 H locs hq hH => ?_)
    obtain ⟨b_17, rfl, hb_17, rfl⟩ := hq
    (try rw [zM_1] at hb_17)
    refine zb_ine (tgt := 27) h (by omega) dX5_want_20 (by decide) (fun c_20 => ?_) (fun c_20 => ?_)
    · refine zb_ic h dX5_want_27 ?_
      refine zcVi h hH (zr_5 h hH) (As := [.int (zI 0)]) (rest := []) (c_X5_holds l G hG (zMo S (S 9 0) (S 9 1) (S 9 2) (S 9 3) (S 9 4) (S 9 5) (S 9 6)) 0 (by omega)) zce_X5_holds zcv_X5_holds zm_X5_87 hl.1 rfl rfl ⟨rfl, rfl⟩ ⟨Nat.le_of_ble_eq_true rfl, Nat.le_of_ble_eq_true rfl⟩ (Nat.le_of_ble_eq_true rfl) ⟨Nat.zero_le _, Nat.zero_le _⟩ dX5_want_28 (fun r_28 S_28 H locs hq hH => ?_)
      obtain ⟨b_28, rfl, hb_28, rfl⟩ := hq
      (try rw [zM_1] at hb_28)
      simp only [zM_M, zM_0, zM_1, zM_2, zM_3, zM_4, zM_5, zM_6] at hH
      refine zb_ine (tgt := 36) h (by omega) dX5_want_31 (by decide) (fun c_31 => ?_) (fun c_31 => ?_)
      · have f4 := zW_4 hw
        refine lv_aload_n hx hb dX5_want_36 rfl (lv_at hl 0 rfl) ?_
        refine zcVv h hH (zr_5 h hH) (As := []) (rest := []) (c_X5_save l G hG (zMo S (zup (S 9 0) 0 0) (S 9 1) (S 9 2) (S 9 3) (S 9 4) (S 9 5) (S 9 6)) (by rw [zM_0, zup_n (by omega)]; exact hsm)) zce_X5_save zcv_X5_save zm_X5_90 hl.1 rfl rfl ⟨rfl, rfl⟩ ⟨Nat.le_of_ble_eq_true rfl, Nat.le_of_ble_eq_true rfl⟩ (Nat.le_of_ble_eq_true rfl) ⟨Nat.zero_le _, Nat.zero_le _⟩ dX5_want_37 (fun S_37 H locs hq hH => ?_)
        obtain rfl := hq
        simp only [zM_M, zM_0, zM_1, zM_2, zM_3, zM_4, zM_5, zM_6] at hH
        refine lv_aload_n hx hb dX5_want_40 rfl (lv_at hl 0 rfl) ?_
        refine zg_5_1 h hH zf_X5_7 dX5_want_41 ?_
        refine lv_iload_n hx hb dX5_want_44 rfl (lv_at hl 1 rfl) ?_
        refine zb_ic h dX5_want_45 ?_
        refine zcSi h hH (As := [.int (zI z), .int (zI 1)]) (rest := [.ref (za G 9 1)]) (c_X5_of l G hG (zMo S (zup (zup (S 9 0) 0 0) 4 (zSm ((zup (S 9 0) 0 0) 4))) (S 9 1) (S 9 2) (zSv (S 9 3) (S 9 1) ((zup (S 9 0) 0 0) 4)) (S 9 4) (S 9 5) (S 9 6)) z 1) zce_X5_of zt_X5_of zm_X5_51 hl.1 rfl rfl ⟨rfl, rfl⟩ ⟨Nat.le_of_ble_eq_true rfl, Nat.le_of_ble_eq_true rfl⟩ (Nat.le_of_ble_eq_true rfl) ⟨Nat.zero_le _, Nat.zero_le _⟩ dX5_want_46 (fun r_46 S_46 H locs hq hH => ?_)
        obtain ⟨rfl, rfl⟩ := hq
        refine zld_ar_s h hH (by omega) dX5_want_49 ?_
        rw [zM_1]
        have f_49 := zW_wa hw (show 0 ≤ z ∧ z < 8 by omega)
        refine lv_istore_n (lv' := [(3, .int (zI (S 9 1 (5 + 5 * z + 1)))), (0, .ref (za G 9 0)), (1, .int (zI z)), (2, .int (zI w))]) hx hb dX5_want_50 rfl hl (by decide) rfl (fun ls hl => ?_)
        refine lv_aload_n hx hb dX5_want_51 rfl (lv_at hl 1 rfl) ?_
        refine zg_5_1 h hH zf_X5_7 dX5_want_52 ?_
        refine lv_iload_n hx hb dX5_want_55 rfl (lv_at hl 2 rfl) ?_
        refine zb_ic h dX5_want_56 ?_
        refine zcSi h hH (As := [.int (zI z), .int (zI 1)]) (rest := [.ref (za G 9 1)]) (c_X5_of l G hG (zMo S (zup (zup (S 9 0) 0 0) 4 (zSm ((zup (S 9 0) 0 0) 4))) (S 9 1) (S 9 2) (zSv (S 9 3) (S 9 1) ((zup (S 9 0) 0 0) 4)) (S 9 4) (S 9 5) (S 9 6)) z 1) zce_X5_of zt_X5_of zm_X5_51 hl.1 rfl rfl ⟨rfl, rfl⟩ ⟨Nat.le_of_ble_eq_true rfl, Nat.le_of_ble_eq_true rfl⟩ (Nat.le_of_ble_eq_true rfl) ⟨Nat.zero_le _, Nat.zero_le _⟩ dX5_want_57 (fun r_57 S_57 H locs hq hH => ?_)
        obtain ⟨rfl, rfl⟩ := hq
        refine lv_iload_n hx hb dX5_want_60 rfl (lv_at hl 3 rfl) ?_
        refine zst_ar_s h hH (by omega) dX5_want_61 (fun H locs hH => ?_)
        rw [zs_M1] at hH
        refine lv_iload_n hx hb dX5_want_62 rfl (lv_at hl 0 rfl) ?_
        refine zri h hr hH ?_ dX5_want_63
        exact Or.inr (Or.inr (⟨by omega, rfl, rfl⟩))
      · exact absurd c_31 (by omega)
    · refine zb_ic h dX5_want_23 ?_
      refine lv_goto (tgt := 28) hx hb dX5_want_24 (by decide) ?_
      refine zcVi h hH (zr_5 h hH) (As := [.int (zI 2)]) (rest := []) (c_X5_holds l G hG (zMo S (S 9 0) (S 9 1) (S 9 2) (S 9 3) (S 9 4) (S 9 5) (S 9 6)) 2 (by omega)) zce_X5_holds zcv_X5_holds zm_X5_87 hl.1 rfl rfl ⟨rfl, rfl⟩ ⟨Nat.le_of_ble_eq_true rfl, Nat.le_of_ble_eq_true rfl⟩ (Nat.le_of_ble_eq_true rfl) ⟨Nat.zero_le _, Nat.zero_le _⟩ dX5_want_28 (fun r_28 S_28 H locs hq hH => ?_)
      obtain ⟨b_28, rfl, hb_28, rfl⟩ := hq
      (try rw [zM_1] at hb_28)
      simp only [zM_M, zM_0, zM_1, zM_2, zM_3, zM_4, zM_5, zM_6] at hH
      refine zb_ine (tgt := 36) h (by omega) dX5_want_31 (by decide) (fun c_31 => ?_) (fun c_31 => ?_)
      · exact absurd c_31 (by omega)
      · refine zb_ic h dX5_want_34 ?_
        refine zri h hr hH ?_ dX5_want_35
        exact Or.inr (Or.inl ⟨by omega, rfl⟩)
  · refine zb_ic h dX5_want_9 ?_
    refine lv_goto (tgt := 28) hx hb dX5_want_10 (by decide) ?_
    refine zcVi h hH (zr_5 h hH) (As := [.int (zI 1)]) (rest := []) (c_X5_holds l G hG (zMo S (S 9 0) (S 9 1) (S 9 2) (S 9 3) (S 9 4) (S 9 5) (S 9 6)) 1 (by omega)) zce_X5_holds zcv_X5_holds zm_X5_87 hl.1 rfl rfl ⟨rfl, rfl⟩ ⟨Nat.le_of_ble_eq_true rfl, Nat.le_of_ble_eq_true rfl⟩ (Nat.le_of_ble_eq_true rfl) ⟨Nat.zero_le _, Nat.zero_le _⟩ dX5_want_28 (fun r_28 S_28 H locs hq hH => ?_)
    obtain ⟨b_28, rfl, hb_28, rfl⟩ := hq
    (try rw [zM_1] at hb_28)
    simp only [zM_M, zM_0, zM_1, zM_2, zM_3, zM_4, zM_5, zM_6] at hH
    refine zb_ine (tgt := 36) h (by omega) dX5_want_31 (by decide) (fun c_31 => ?_) (fun c_31 => ?_)
    · exact absurd c_31 (by omega)
    · refine zb_ic h dX5_want_34 ?_
      refine zri h hr hH ?_ dX5_want_35
      exact Or.inl ⟨by omega, rfl⟩
theorem dX5_expose_0 : decode cX5_expose 0 = .ok (.aload_n 0, 1) := by decide +kernel
theorem dX5_expose_1 : decode cX5_expose 1 = .ok (.iload_n 1, 1) := by decide +kernel
theorem dX5_expose_2 : decode cX5_expose 2 = .ok (.iconst 1, 1) := by decide +kernel
theorem dX5_expose_3 : decode cX5_expose 3 = .ok (.sipush 2000, 3) := by decide +kernel
theorem dX5_expose_6 : decode cX5_expose 6 = .ok (.invokestatic 32, 3) := by decide +kernel
theorem dX5_expose_9 : decode cX5_expose 9 = .ok (.ifCond .eq 7, 3) := by decide +kernel
theorem dX5_expose_12 : decode cX5_expose 12 = .ok (.iconst 0, 1) := by decide +kernel
theorem dX5_expose_13 : decode cX5_expose 13 = .ok (.goto 4, 3) := by decide +kernel
theorem dX5_expose_16 : decode cX5_expose 16 = .ok (.iconst 1, 1) := by decide +kernel
theorem dX5_expose_17 : decode cX5_expose 17 = .ok (.invokevirtual 87, 3) := by decide +kernel
theorem dX5_expose_20 : decode cX5_expose 20 = .ok (.ifCond .ne 5, 3) := by decide +kernel
theorem dX5_expose_23 : decode cX5_expose 23 = .ok (.iconst 0, 1) := by decide +kernel
theorem dX5_expose_24 : decode cX5_expose 24 = .ok (.ireturn, 1) := by decide +kernel
theorem dX5_expose_25 : decode cX5_expose 25 = .ok (.aload_n 0, 1) := by decide +kernel
theorem dX5_expose_26 : decode cX5_expose 26 = .ok (.invokevirtual 90, 3) := by decide +kernel
theorem dX5_expose_29 : decode cX5_expose 29 = .ok (.aload_n 0, 1) := by decide +kernel
theorem dX5_expose_30 : decode cX5_expose 30 = .ok (.iload_n 1, 1) := by decide +kernel
theorem dX5_expose_31 : decode cX5_expose 31 = .ok (.invokevirtual 111, 3) := by decide +kernel
theorem dX5_expose_34 : decode cX5_expose 34 = .ok (.ireturn, 1) := by decide +kernel
def q_X5_expose (S : zM) (t : Int) : Int32 → zM → Prop := fun r S1 => ((¬ (1 ≤ t ∧ t ≤ 2000)) ∧ zMo S (zup (S 9 0) 0 1) (S 9 1) (S 9 2) (S 9 3) (S 9 4) (S 9 5) (S 9 6) = S1) ∨ ((1 ≤ t ∧ t ≤ 2000) ∧ r = zI (tCnt (zup (S 9 1) 0 t) 0) ∧ ∃ M', zMo S (zup (zup (S 9 0) 0 0) 4 (zSm ((zup (S 9 0) 0 0) 4))) (zup (S 9 1) 0 t) (S 9 2) (zSv (S 9 3) (S 9 1) ((zup (S 9 0) 0 0) 4)) (S 9 4) M' (S 9 6) = S1)
def r_X5_expose : Room := { frames := 7, cells := 0, slots := 0, locals := 154 }
set_option maxHeartbeats 4000000 in
set_option maxRecDepth 100000 in
theorem c_X5_expose (l : Launch) (G : zG) (hG : zok G) (S : zM) (t : Int) (ht_ : -2147483648 ≤ t ∧ t ≤ 2147483647) (hsm : 0 ≤ S 9 0 4 ∧ S 9 0 4 ≤ 6) (hw : zW (S 9 1)) : Met l yX5_expose (Cond.code yX5_expose cX5_expose 2 (some FieldType.int) :: zTbl) r_X5_expose (va_Pc [.ref (za G 9 0), .int (zI t)] (zB G S)) (va_Qi (q_X5_expose S t) (zB G) (zA G)) 0 0 (zA G) := by
  refine zMet [(0, .ref (za G 9 0)), (1, .int (zI t))] hG (by decide) (Nat.le_of_ble_eq_true rfl) rfl (fun p e s m args below meth c ls h hx hb hr hH hl => ?_)
  rw [← zM_id S] at hH
  refine lv_aload_n hx hb dX5_expose_0 rfl (lv_at hl 0 rfl) ?_
  refine lv_iload_n hx hb dX5_expose_1 rfl (lv_at hl 1 rfl) ?_
  refine zb_ic h dX5_expose_2 ?_
  refine zb_si h dX5_expose_3 (by decide) (by decide) ?_
  refine zcSi h hH (As := [.int (zI t), .int (zI 1), .int (zI 2000)]) (rest := [.ref (za G 9 0)]) (c_X5_in l G hG (zMo S (S 9 0) (S 9 1) (S 9 2) (S 9 3) (S 9 4) (S 9 5) (S 9 6)) t 1 2000 (by omega) (by omega) (by omega)) zce_X5_in zt_X5_in zm_X5_32 hl.1 rfl rfl ⟨rfl, rfl⟩ ⟨Nat.le_of_ble_eq_true rfl, Nat.le_of_ble_eq_true rfl⟩ (Nat.le_of_ble_eq_true rfl) ⟨Nat.zero_le _, Nat.zero_le _⟩ dX5_expose_6 (fun r_6 S_6 H locs hq hH => ?_)
  obtain ⟨b_6, rfl, hb_6, rfl⟩ := hq
  (try rw [zM_1] at hb_6)
  refine zb_ieq (tgt := 16) h (by omega) dX5_expose_9 (by decide) (fun c_9 => ?_) (fun c_9 => ?_)
  · refine zb_ic h dX5_expose_16 ?_
    refine zcVi h hH (zr_5 h hH) (As := [.int (zI 1)]) (rest := []) (c_X5_holds l G hG (zMo S (S 9 0) (S 9 1) (S 9 2) (S 9 3) (S 9 4) (S 9 5) (S 9 6)) 1 (by omega)) zce_X5_holds zcv_X5_holds zm_X5_87 hl.1 rfl rfl ⟨rfl, rfl⟩ ⟨Nat.le_of_ble_eq_true rfl, Nat.le_of_ble_eq_true rfl⟩ (Nat.le_of_ble_eq_true rfl) ⟨Nat.zero_le _, Nat.zero_le _⟩ dX5_expose_17 (fun r_17 S_17 H locs hq hH => ?_)
    obtain ⟨b_17, rfl, hb_17, rfl⟩ := hq
    (try rw [zM_1] at hb_17)
    simp only [zM_M, zM_0, zM_1, zM_2, zM_3, zM_4, zM_5, zM_6] at hH
    refine zb_ine (tgt := 25) h (by omega) dX5_expose_20 (by decide) (fun c_20 => ?_) (fun c_20 => ?_)
    · exact absurd c_20 (by omega)
    · refine zb_ic h dX5_expose_23 ?_
      refine zri h hr hH ?_ dX5_expose_24
      exact Or.inl ⟨by omega, rfl⟩
  · refine zb_ic h dX5_expose_12 ?_
    refine lv_goto (tgt := 17) hx hb dX5_expose_13 (by decide) ?_
    refine zcVi h hH (zr_5 h hH) (As := [.int (zI 0)]) (rest := []) (c_X5_holds l G hG (zMo S (S 9 0) (S 9 1) (S 9 2) (S 9 3) (S 9 4) (S 9 5) (S 9 6)) 0 (by omega)) zce_X5_holds zcv_X5_holds zm_X5_87 hl.1 rfl rfl ⟨rfl, rfl⟩ ⟨Nat.le_of_ble_eq_true rfl, Nat.le_of_ble_eq_true rfl⟩ (Nat.le_of_ble_eq_true rfl) ⟨Nat.zero_le _, Nat.zero_le _⟩ dX5_expose_17 (fun r_17 S_17 H locs hq hH => ?_)
    obtain ⟨b_17, rfl, hb_17, rfl⟩ := hq
    (try rw [zM_1] at hb_17)
    simp only [zM_M, zM_0, zM_1, zM_2, zM_3, zM_4, zM_5, zM_6] at hH
    refine zb_ine (tgt := 25) h (by omega) dX5_expose_20 (by decide) (fun c_20 => ?_) (fun c_20 => ?_)
    · refine lv_aload_n hx hb dX5_expose_25 rfl (lv_at hl 0 rfl) ?_
      refine zcVv h hH (zr_5 h hH) (As := []) (rest := []) (c_X5_save l G hG (zMo S (zup (S 9 0) 0 0) (S 9 1) (S 9 2) (S 9 3) (S 9 4) (S 9 5) (S 9 6)) (by rw [zM_0, zup_n (by omega)]; exact hsm)) zce_X5_save zcv_X5_save zm_X5_90 hl.1 rfl rfl ⟨rfl, rfl⟩ ⟨Nat.le_of_ble_eq_true rfl, Nat.le_of_ble_eq_true rfl⟩ (Nat.le_of_ble_eq_true rfl) ⟨Nat.zero_le _, Nat.zero_le _⟩ dX5_expose_26 (fun S_26 H locs hq hH => ?_)
      obtain rfl := hq
      simp only [zM_M, zM_0, zM_1, zM_2, zM_3, zM_4, zM_5, zM_6] at hH
      refine lv_aload_n hx hb dX5_expose_29 rfl (lv_at hl 0 rfl) ?_
      refine lv_iload_n hx hb dX5_expose_30 rfl (lv_at hl 1 rfl) ?_
      refine zcVi h hH (zr_5 h hH) (As := [.int (zI t)]) (rest := []) (c_X5_exposes l G hG (zMo S (zup (zup (S 9 0) 0 0) 4 (zSm ((zup (S 9 0) 0 0) 4))) (S 9 1) (S 9 2) (zSv (S 9 3) (S 9 1) ((zup (S 9 0) 0 0) 4)) (S 9 4) (S 9 5) (S 9 6)) t (by omega) (zM_hw hw)) zce_X5_exposes zcv_X5_exposes zm_X5_111 hl.1 rfl rfl ⟨rfl, rfl⟩ ⟨Nat.le_of_ble_eq_true rfl, Nat.le_of_ble_eq_true rfl⟩ (Nat.le_of_ble_eq_true rfl) ⟨Nat.zero_le _, Nat.zero_le _⟩ dX5_expose_31 (fun r_31 S_31 H locs hq hH => ?_)
      obtain ⟨rfl, M_31, rfl⟩ := hq
      simp only [zM_M, zM_0, zM_1, zM_2, zM_3, zM_4, zM_5, zM_6] at hH
      rw [zM_1]
      refine zri h hr hH ?_ dX5_expose_34
      exact Or.inr (⟨by omega, rfl, _, rfl⟩)
    · exact absurd c_20 (by omega)
theorem dX5_paper_0 : decode cX5_paper 0 = .ok (.aload_n 0, 1) := by decide +kernel
theorem dX5_paper_1 : decode cX5_paper 1 = .ok (.iload_n 1, 1) := by decide +kernel
theorem dX5_paper_2 : decode cX5_paper 2 = .ok (.iconst 0, 1) := by decide +kernel
theorem dX5_paper_3 : decode cX5_paper 3 = .ok (.iconst 5, 1) := by decide +kernel
theorem dX5_paper_4 : decode cX5_paper 4 = .ok (.invokestatic 32, 3) := by decide +kernel
theorem dX5_paper_7 : decode cX5_paper 7 = .ok (.ifCond .eq 19, 3) := by decide +kernel
theorem dX5_paper_10 : decode cX5_paper 10 = .ok (.iload_n 2, 1) := by decide +kernel
theorem dX5_paper_11 : decode cX5_paper 11 = .ok (.bipush 10, 2) := by decide +kernel
theorem dX5_paper_13 : decode cX5_paper 13 = .ok (.sipush 999, 3) := by decide +kernel
theorem dX5_paper_16 : decode cX5_paper 16 = .ok (.invokestatic 32, 3) := by decide +kernel
theorem dX5_paper_19 : decode cX5_paper 19 = .ok (.ifCond .eq 7, 3) := by decide +kernel
theorem dX5_paper_22 : decode cX5_paper 22 = .ok (.iconst 0, 1) := by decide +kernel
theorem dX5_paper_23 : decode cX5_paper 23 = .ok (.goto 4, 3) := by decide +kernel
theorem dX5_paper_26 : decode cX5_paper 26 = .ok (.iconst 1, 1) := by decide +kernel
theorem dX5_paper_27 : decode cX5_paper 27 = .ok (.invokevirtual 87, 3) := by decide +kernel
theorem dX5_paper_30 : decode cX5_paper 30 = .ok (.ifCond .ne 5, 3) := by decide +kernel
theorem dX5_paper_33 : decode cX5_paper 33 = .ok (.iconst 0, 1) := by decide +kernel
theorem dX5_paper_34 : decode cX5_paper 34 = .ok (.ireturn, 1) := by decide +kernel
theorem dX5_paper_35 : decode cX5_paper 35 = .ok (.aload_n 0, 1) := by decide +kernel
theorem dX5_paper_36 : decode cX5_paper 36 = .ok (.invokevirtual 90, 3) := by decide +kernel
theorem dX5_paper_39 : decode cX5_paper 39 = .ok (.aload_n 0, 1) := by decide +kernel
theorem dX5_paper_40 : decode cX5_paper 40 = .ok (.getfield 7, 3) := by decide +kernel
theorem dX5_paper_43 : decode cX5_paper 43 = .ok (.iconst 1, 1) := by decide +kernel
theorem dX5_paper_44 : decode cX5_paper 44 = .ok (.iload_n 1, 1) := by decide +kernel
theorem dX5_paper_45 : decode cX5_paper 45 = .ok (.iastore, 1) := by decide +kernel
theorem dX5_paper_46 : decode cX5_paper 46 = .ok (.aload_n 0, 1) := by decide +kernel
theorem dX5_paper_47 : decode cX5_paper 47 = .ok (.getfield 7, 3) := by decide +kernel
theorem dX5_paper_50 : decode cX5_paper 50 = .ok (.iconst 2, 1) := by decide +kernel
theorem dX5_paper_51 : decode cX5_paper 51 = .ok (.iload_n 2, 1) := by decide +kernel
theorem dX5_paper_52 : decode cX5_paper 52 = .ok (.iastore, 1) := by decide +kernel
theorem dX5_paper_53 : decode cX5_paper 53 = .ok (.aload_n 0, 1) := by decide +kernel
theorem dX5_paper_54 : decode cX5_paper 54 = .ok (.invokevirtual 107, 3) := by decide +kernel
theorem dX5_paper_57 : decode cX5_paper 57 = .ok (.ireturn, 1) := by decide +kernel
def q_X5_paper (S : zM) (g : Int) (v : Int) : Int32 → zM → Prop := fun r S1 => ((¬ (0 ≤ g ∧ g ≤ 5 ∧ 10 ≤ v ∧ v ≤ 999)) ∧ zMo S (zup (S 9 0) 0 1) (S 9 1) (S 9 2) (S 9 3) (S 9 4) (S 9 5) (S 9 6) = S1) ∨ ((0 ≤ g ∧ g ≤ 5 ∧ 10 ≤ v ∧ v ≤ 999) ∧ r = zI (tCnt (zup (zup (S 9 1) 1 g) 2 v) 0) ∧ ∃ M', zMo S (zup (zup (S 9 0) 0 0) 4 (zSm ((zup (S 9 0) 0 0) 4))) (zup (zup (S 9 1) 1 g) 2 v) (S 9 2) (zSv (S 9 3) (S 9 1) ((zup (S 9 0) 0 0) 4)) (S 9 4) M' (S 9 6) = S1)
def r_X5_paper : Room := { frames := 6, cells := 0, slots := 0, locals := 133 }
set_option maxHeartbeats 4000000 in
set_option maxRecDepth 100000 in
theorem c_X5_paper (l : Launch) (G : zG) (hG : zok G) (S : zM) (g : Int) (hg_ : -2147483648 ≤ g ∧ g ≤ 2147483647) (v : Int) (hv_ : -2147483648 ≤ v ∧ v ≤ 2147483647) (hsm : 0 ≤ S 9 0 4 ∧ S 9 0 4 ≤ 6) (hw : zW (S 9 1)) : Met l yX5_paper (Cond.code yX5_paper cX5_paper 3 (some FieldType.int) :: zTbl) r_X5_paper (va_Pc [.ref (za G 9 0), .int (zI g), .int (zI v)] (zB G S)) (va_Qi (q_X5_paper S g v) (zB G) (zA G)) 0 0 (zA G) := by
  refine zMet [(0, .ref (za G 9 0)), (1, .int (zI g)), (2, .int (zI v))] hG (by decide) (Nat.le_of_ble_eq_true rfl) rfl (fun p e s m args below meth c ls h hx hb hr hH hl => ?_)
  rw [← zM_id S] at hH
  refine lv_aload_n hx hb dX5_paper_0 rfl (lv_at hl 0 rfl) ?_
  refine lv_iload_n hx hb dX5_paper_1 rfl (lv_at hl 1 rfl) ?_
  refine zb_ic h dX5_paper_2 ?_
  refine zb_ic h dX5_paper_3 ?_
  refine zcSi h hH (As := [.int (zI g), .int (zI 0), .int (zI 5)]) (rest := [.ref (za G 9 0)]) (c_X5_in l G hG (zMo S (S 9 0) (S 9 1) (S 9 2) (S 9 3) (S 9 4) (S 9 5) (S 9 6)) g 0 5 (by omega) (by omega) (by omega)) zce_X5_in zt_X5_in zm_X5_32 hl.1 rfl rfl ⟨rfl, rfl⟩ ⟨Nat.le_of_ble_eq_true rfl, Nat.le_of_ble_eq_true rfl⟩ (Nat.le_of_ble_eq_true rfl) ⟨Nat.zero_le _, Nat.zero_le _⟩ dX5_paper_4 (fun r_4 S_4 H locs hq hH => ?_)
  obtain ⟨b_4, rfl, hb_4, rfl⟩ := hq
  (try rw [zM_1] at hb_4)
  refine zb_ieq (tgt := 26) h (by omega) dX5_paper_7 (by decide) (fun c_7 => ?_) (fun c_7 => ?_)
  · refine zb_ic h dX5_paper_26 ?_
    refine zcVi h hH (zr_5 h hH) (As := [.int (zI 1)]) (rest := []) (c_X5_holds l G hG (zMo S (S 9 0) (S 9 1) (S 9 2) (S 9 3) (S 9 4) (S 9 5) (S 9 6)) 1 (by omega)) zce_X5_holds zcv_X5_holds zm_X5_87 hl.1 rfl rfl ⟨rfl, rfl⟩ ⟨Nat.le_of_ble_eq_true rfl, Nat.le_of_ble_eq_true rfl⟩ (Nat.le_of_ble_eq_true rfl) ⟨Nat.zero_le _, Nat.zero_le _⟩ dX5_paper_27 (fun r_27 S_27 H locs hq hH => ?_)
    obtain ⟨b_27, rfl, hb_27, rfl⟩ := hq
    (try rw [zM_1] at hb_27)
    simp only [zM_M, zM_0, zM_1, zM_2, zM_3, zM_4, zM_5, zM_6] at hH
    refine zb_ine (tgt := 35) h (by omega) dX5_paper_30 (by decide) (fun c_30 => ?_) (fun c_30 => ?_)
    · exact absurd c_30 (by omega)
    · refine zb_ic h dX5_paper_33 ?_
      refine zri h hr hH ?_ dX5_paper_34
      exact Or.inl ⟨by omega, rfl⟩
  · refine lv_iload_n hx hb dX5_paper_10 rfl (lv_at hl 2 rfl) ?_
    refine zb_bi h dX5_paper_11 (by decide) (by decide) ?_
    refine zb_si h dX5_paper_13 (by decide) (by decide) ?_
    refine zcSi h hH (As := [.int (zI v), .int (zI 10), .int (zI 999)]) (rest := [.ref (za G 9 0)]) (c_X5_in l G hG (zMo S (S 9 0) (S 9 1) (S 9 2) (S 9 3) (S 9 4) (S 9 5) (S 9 6)) v 10 999 (by omega) (by omega) (by omega)) zce_X5_in zt_X5_in zm_X5_32 hl.1 rfl rfl ⟨rfl, rfl⟩ ⟨Nat.le_of_ble_eq_true rfl, Nat.le_of_ble_eq_true rfl⟩ (Nat.le_of_ble_eq_true rfl) ⟨Nat.zero_le _, Nat.zero_le _⟩ dX5_paper_16 (fun r_16 S_16 H locs hq hH => ?_)
    obtain ⟨b_16, rfl, hb_16, rfl⟩ := hq
    (try rw [zM_1] at hb_16)
    refine zb_ieq (tgt := 26) h (by omega) dX5_paper_19 (by decide) (fun c_19 => ?_) (fun c_19 => ?_)
    · refine zb_ic h dX5_paper_26 ?_
      refine zcVi h hH (zr_5 h hH) (As := [.int (zI 1)]) (rest := []) (c_X5_holds l G hG (zMo S (S 9 0) (S 9 1) (S 9 2) (S 9 3) (S 9 4) (S 9 5) (S 9 6)) 1 (by omega)) zce_X5_holds zcv_X5_holds zm_X5_87 hl.1 rfl rfl ⟨rfl, rfl⟩ ⟨Nat.le_of_ble_eq_true rfl, Nat.le_of_ble_eq_true rfl⟩ (Nat.le_of_ble_eq_true rfl) ⟨Nat.zero_le _, Nat.zero_le _⟩ dX5_paper_27 (fun r_27 S_27 H locs hq hH => ?_)
      obtain ⟨b_27, rfl, hb_27, rfl⟩ := hq
      (try rw [zM_1] at hb_27)
      simp only [zM_M, zM_0, zM_1, zM_2, zM_3, zM_4, zM_5, zM_6] at hH
      refine zb_ine (tgt := 35) h (by omega) dX5_paper_30 (by decide) (fun c_30 => ?_) (fun c_30 => ?_)
      · exact absurd c_30 (by omega)
      · refine zb_ic h dX5_paper_33 ?_
        refine zri h hr hH ?_ dX5_paper_34
        exact Or.inl ⟨by omega, rfl⟩
    · refine zb_ic h dX5_paper_22 ?_
      refine lv_goto (tgt := 27) hx hb dX5_paper_23 (by decide) ?_
      refine zcVi h hH (zr_5 h hH) (As := [.int (zI 0)]) (rest := []) (c_X5_holds l G hG (zMo S (S 9 0) (S 9 1) (S 9 2) (S 9 3) (S 9 4) (S 9 5) (S 9 6)) 0 (by omega)) zce_X5_holds zcv_X5_holds zm_X5_87 hl.1 rfl rfl ⟨rfl, rfl⟩ ⟨Nat.le_of_ble_eq_true rfl, Nat.le_of_ble_eq_true rfl⟩ (Nat.le_of_ble_eq_true rfl) ⟨Nat.zero_le _, Nat.zero_le _⟩ dX5_paper_27 (fun r_27 S_27 H locs hq hH => ?_)
      obtain ⟨b_27, rfl, hb_27, rfl⟩ := hq
      (try rw [zM_1] at hb_27)
      simp only [zM_M, zM_0, zM_1, zM_2, zM_3, zM_4, zM_5, zM_6] at hH
      refine zb_ine (tgt := 35) h (by omega) dX5_paper_30 (by decide) (fun c_30 => ?_) (fun c_30 => ?_)
      · refine lv_aload_n hx hb dX5_paper_35 rfl (lv_at hl 0 rfl) ?_
        refine zcVv h hH (zr_5 h hH) (As := []) (rest := []) (c_X5_save l G hG (zMo S (zup (S 9 0) 0 0) (S 9 1) (S 9 2) (S 9 3) (S 9 4) (S 9 5) (S 9 6)) (by rw [zM_0, zup_n (by omega)]; exact hsm)) zce_X5_save zcv_X5_save zm_X5_90 hl.1 rfl rfl ⟨rfl, rfl⟩ ⟨Nat.le_of_ble_eq_true rfl, Nat.le_of_ble_eq_true rfl⟩ (Nat.le_of_ble_eq_true rfl) ⟨Nat.zero_le _, Nat.zero_le _⟩ dX5_paper_36 (fun S_36 H locs hq hH => ?_)
        obtain rfl := hq
        simp only [zM_M, zM_0, zM_1, zM_2, zM_3, zM_4, zM_5, zM_6] at hH
        refine lv_aload_n hx hb dX5_paper_39 rfl (lv_at hl 0 rfl) ?_
        refine zg_5_1 h hH zf_X5_7 dX5_paper_40 ?_
        refine zb_ic h dX5_paper_43 ?_
        refine lv_iload_n hx hb dX5_paper_44 rfl (lv_at hl 1 rfl) ?_
        refine zst_ar_s h hH (by omega) dX5_paper_45 (fun H locs hH => ?_)
        rw [zs_M1] at hH
        refine lv_aload_n hx hb dX5_paper_46 rfl (lv_at hl 0 rfl) ?_
        refine zg_5_1 h hH zf_X5_7 dX5_paper_47 ?_
        refine zb_ic h dX5_paper_50 ?_
        refine lv_iload_n hx hb dX5_paper_51 rfl (lv_at hl 2 rfl) ?_
        refine zst_ar_s h hH (by omega) dX5_paper_52 (fun H locs hH => ?_)
        rw [zs_M1] at hH
        have hw1 := zW_upg hw (show 0 ≤ g ∧ g ≤ 5 by omega) (show 10 ≤ v ∧ v ≤ 999 by omega)
        refine lv_aload_n hx hb dX5_paper_53 rfl (lv_at hl 0 rfl) ?_
        refine zcVi h hH (zr_5 h hH) (As := []) (rest := []) (c_X5_right l G hG (zMo S (zup (zup (S 9 0) 0 0) 4 (zSm ((zup (S 9 0) 0 0) 4))) (zup (zup (S 9 1) (1) g) (2) v) (S 9 2) (zSv (S 9 3) (S 9 1) ((zup (S 9 0) 0 0) 4)) (S 9 4) (S 9 5) (S 9 6)) (zM_hw hw1)) zce_X5_right zcv_X5_right zm_X5_107 hl.1 rfl rfl ⟨rfl, rfl⟩ ⟨Nat.le_of_ble_eq_true rfl, Nat.le_of_ble_eq_true rfl⟩ (Nat.le_of_ble_eq_true rfl) ⟨Nat.zero_le _, Nat.zero_le _⟩ dX5_paper_54 (fun r_54 S_54 H locs hq hH => ?_)
        obtain ⟨rfl, M_54, rfl⟩ := hq
        simp only [zM_M, zM_0, zM_1, zM_2, zM_3, zM_4, zM_5, zM_6] at hH
        rw [zM_1]
        refine zri h hr hH ?_ dX5_paper_57
        exact Or.inr (⟨by omega, rfl, _, rfl⟩)
      · exact absurd c_30 (by omega)
theorem dX5_set_0 : decode cX5_set 0 = .ok (.aload_n 0, 1) := by decide +kernel
theorem dX5_set_1 : decode cX5_set 1 = .ok (.iload_n 1, 1) := by decide +kernel
theorem dX5_set_2 : decode cX5_set 2 = .ok (.iconst 0, 1) := by decide +kernel
theorem dX5_set_3 : decode cX5_set 3 = .ok (.bipush 50, 2) := by decide +kernel
theorem dX5_set_5 : decode cX5_set 5 = .ok (.invokestatic 32, 3) := by decide +kernel
theorem dX5_set_8 : decode cX5_set 8 = .ok (.ifCond .eq 7, 3) := by decide +kernel
theorem dX5_set_11 : decode cX5_set 11 = .ok (.iconst 0, 1) := by decide +kernel
theorem dX5_set_12 : decode cX5_set 12 = .ok (.goto 4, 3) := by decide +kernel
theorem dX5_set_15 : decode cX5_set 15 = .ok (.iconst 1, 1) := by decide +kernel
theorem dX5_set_16 : decode cX5_set 16 = .ok (.invokevirtual 87, 3) := by decide +kernel
theorem dX5_set_19 : decode cX5_set 19 = .ok (.ifCond .ne 5, 3) := by decide +kernel
theorem dX5_set_22 : decode cX5_set 22 = .ok (.iconst 0, 1) := by decide +kernel
theorem dX5_set_23 : decode cX5_set 23 = .ok (.ireturn, 1) := by decide +kernel
theorem dX5_set_24 : decode cX5_set 24 = .ok (.aload_n 0, 1) := by decide +kernel
theorem dX5_set_25 : decode cX5_set 25 = .ok (.invokevirtual 90, 3) := by decide +kernel
theorem dX5_set_28 : decode cX5_set 28 = .ok (.aload_n 0, 1) := by decide +kernel
theorem dX5_set_29 : decode cX5_set 29 = .ok (.getfield 7, 3) := by decide +kernel
theorem dX5_set_32 : decode cX5_set 32 = .ok (.iconst 3, 1) := by decide +kernel
theorem dX5_set_33 : decode cX5_set 33 = .ok (.iaload, 1) := by decide +kernel
theorem dX5_set_34 : decode cX5_set 34 = .ok (.istore_n 2, 1) := by decide +kernel
theorem dX5_set_35 : decode cX5_set 35 = .ok (.aload_n 0, 1) := by decide +kernel
theorem dX5_set_36 : decode cX5_set 36 = .ok (.getfield 7, 3) := by decide +kernel
theorem dX5_set_39 : decode cX5_set 39 = .ok (.iconst 3, 1) := by decide +kernel
theorem dX5_set_40 : decode cX5_set 40 = .ok (.iload_n 1, 1) := by decide +kernel
theorem dX5_set_41 : decode cX5_set 41 = .ok (.iastore, 1) := by decide +kernel
theorem dX5_set_42 : decode cX5_set 42 = .ok (.iload_n 2, 1) := by decide +kernel
theorem dX5_set_43 : decode cX5_set 43 = .ok (.ireturn, 1) := by decide +kernel
def q_X5_set (S : zM) (t : Int) : Int32 → zM → Prop := fun r S1 => ((¬ (0 ≤ t ∧ t ≤ 50)) ∧ zMo S (zup (S 9 0) 0 1) (S 9 1) (S 9 2) (S 9 3) (S 9 4) (S 9 5) (S 9 6) = S1) ∨ ((0 ≤ t ∧ t ≤ 50) ∧ r = zI (S 9 1 3) ∧ zMo S (zup (zup (S 9 0) 0 0) 4 (zSm ((zup (S 9 0) 0 0) 4))) (zup (S 9 1) 3 t) (S 9 2) (zSv (S 9 3) (S 9 1) ((zup (S 9 0) 0 0) 4)) (S 9 4) (S 9 5) (S 9 6) = S1)
def r_X5_set : Room := { frames := 1, cells := 0, slots := 0, locals := 22 }
set_option maxHeartbeats 4000000 in
set_option maxRecDepth 100000 in
theorem c_X5_set (l : Launch) (G : zG) (hG : zok G) (S : zM) (t : Int) (ht_ : -2147483648 ≤ t ∧ t ≤ 2147483647) (hsm : 0 ≤ S 9 0 4 ∧ S 9 0 4 ≤ 6) (hw : zW (S 9 1)) : Met l yX5_set (Cond.code yX5_set cX5_set 3 (some FieldType.int) :: zTbl) r_X5_set (va_Pc [.ref (za G 9 0), .int (zI t)] (zB G S)) (va_Qi (q_X5_set S t) (zB G) (zA G)) 0 0 (zA G) := by
  refine zMet [(0, .ref (za G 9 0)), (1, .int (zI t))] hG (by decide) (Nat.le_of_ble_eq_true rfl) rfl (fun p e s m args below meth c ls h hx hb hr hH hl => ?_)
  rw [← zM_id S] at hH
  refine lv_aload_n hx hb dX5_set_0 rfl (lv_at hl 0 rfl) ?_
  refine lv_iload_n hx hb dX5_set_1 rfl (lv_at hl 1 rfl) ?_
  refine zb_ic h dX5_set_2 ?_
  refine zb_bi h dX5_set_3 (by decide) (by decide) ?_
  refine zcSi h hH (As := [.int (zI t), .int (zI 0), .int (zI 50)]) (rest := [.ref (za G 9 0)]) (c_X5_in l G hG (zMo S (S 9 0) (S 9 1) (S 9 2) (S 9 3) (S 9 4) (S 9 5) (S 9 6)) t 0 50 (by omega) (by omega) (by omega)) zce_X5_in zt_X5_in zm_X5_32 hl.1 rfl rfl ⟨rfl, rfl⟩ ⟨Nat.le_of_ble_eq_true rfl, Nat.le_of_ble_eq_true rfl⟩ (Nat.le_of_ble_eq_true rfl) ⟨Nat.zero_le _, Nat.zero_le _⟩ dX5_set_5 (fun r_5 S_5 H locs hq hH => ?_)
  obtain ⟨b_5, rfl, hb_5, rfl⟩ := hq
  (try rw [zM_1] at hb_5)
  refine zb_ieq (tgt := 15) h (by omega) dX5_set_8 (by decide) (fun c_8 => ?_) (fun c_8 => ?_)
  · refine zb_ic h dX5_set_15 ?_
    refine zcVi h hH (zr_5 h hH) (As := [.int (zI 1)]) (rest := []) (c_X5_holds l G hG (zMo S (S 9 0) (S 9 1) (S 9 2) (S 9 3) (S 9 4) (S 9 5) (S 9 6)) 1 (by omega)) zce_X5_holds zcv_X5_holds zm_X5_87 hl.1 rfl rfl ⟨rfl, rfl⟩ ⟨Nat.le_of_ble_eq_true rfl, Nat.le_of_ble_eq_true rfl⟩ (Nat.le_of_ble_eq_true rfl) ⟨Nat.zero_le _, Nat.zero_le _⟩ dX5_set_16 (fun r_16 S_16 H locs hq hH => ?_)
    obtain ⟨b_16, rfl, hb_16, rfl⟩ := hq
    (try rw [zM_1] at hb_16)
    simp only [zM_M, zM_0, zM_1, zM_2, zM_3, zM_4, zM_5, zM_6] at hH
    refine zb_ine (tgt := 24) h (by omega) dX5_set_19 (by decide) (fun c_19 => ?_) (fun c_19 => ?_)
    · exact absurd c_19 (by omega)
    · refine zb_ic h dX5_set_22 ?_
      refine zri h hr hH ?_ dX5_set_23
      exact Or.inl ⟨by omega, rfl⟩
  · refine zb_ic h dX5_set_11 ?_
    refine lv_goto (tgt := 16) hx hb dX5_set_12 (by decide) ?_
    refine zcVi h hH (zr_5 h hH) (As := [.int (zI 0)]) (rest := []) (c_X5_holds l G hG (zMo S (S 9 0) (S 9 1) (S 9 2) (S 9 3) (S 9 4) (S 9 5) (S 9 6)) 0 (by omega)) zce_X5_holds zcv_X5_holds zm_X5_87 hl.1 rfl rfl ⟨rfl, rfl⟩ ⟨Nat.le_of_ble_eq_true rfl, Nat.le_of_ble_eq_true rfl⟩ (Nat.le_of_ble_eq_true rfl) ⟨Nat.zero_le _, Nat.zero_le _⟩ dX5_set_16 (fun r_16 S_16 H locs hq hH => ?_)
    obtain ⟨b_16, rfl, hb_16, rfl⟩ := hq
    (try rw [zM_1] at hb_16)
    simp only [zM_M, zM_0, zM_1, zM_2, zM_3, zM_4, zM_5, zM_6] at hH
    refine zb_ine (tgt := 24) h (by omega) dX5_set_19 (by decide) (fun c_19 => ?_) (fun c_19 => ?_)
    · refine lv_aload_n hx hb dX5_set_24 rfl (lv_at hl 0 rfl) ?_
      refine zcVv h hH (zr_5 h hH) (As := []) (rest := []) (c_X5_save l G hG (zMo S (zup (S 9 0) 0 0) (S 9 1) (S 9 2) (S 9 3) (S 9 4) (S 9 5) (S 9 6)) (by rw [zM_0, zup_n (by omega)]; exact hsm)) zce_X5_save zcv_X5_save zm_X5_90 hl.1 rfl rfl ⟨rfl, rfl⟩ ⟨Nat.le_of_ble_eq_true rfl, Nat.le_of_ble_eq_true rfl⟩ (Nat.le_of_ble_eq_true rfl) ⟨Nat.zero_le _, Nat.zero_le _⟩ dX5_set_25 (fun S_25 H locs hq hH => ?_)
      obtain rfl := hq
      simp only [zM_M, zM_0, zM_1, zM_2, zM_3, zM_4, zM_5, zM_6] at hH
      refine lv_aload_n hx hb dX5_set_28 rfl (lv_at hl 0 rfl) ?_
      refine zg_5_1 h hH zf_X5_7 dX5_set_29 ?_
      refine zb_ic h dX5_set_32 ?_
      refine zld_ar_s h hH (by omega) dX5_set_33 ?_
      rw [zM_1]
      have f_33 := zW_3 hw
      refine lv_istore_n (lv' := [(2, .int (zI (S 9 1 3))), (0, .ref (za G 9 0)), (1, .int (zI t))]) hx hb dX5_set_34 rfl hl (by decide) rfl (fun ls hl => ?_)
      refine lv_aload_n hx hb dX5_set_35 rfl (lv_at hl 1 rfl) ?_
      refine zg_5_1 h hH zf_X5_7 dX5_set_36 ?_
      refine zb_ic h dX5_set_39 ?_
      refine lv_iload_n hx hb dX5_set_40 rfl (lv_at hl 2 rfl) ?_
      refine zst_ar_s h hH (by omega) dX5_set_41 (fun H locs hH => ?_)
      rw [zs_M1] at hH
      refine lv_iload_n hx hb dX5_set_42 rfl (lv_at hl 0 rfl) ?_
      refine zri h hr hH ?_ dX5_set_43
      exact Or.inr (⟨by omega, rfl, rfl⟩)
    · exact absurd c_19 (by omega)
