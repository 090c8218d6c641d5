/-! the constructors of the reference, the history and the class -/
def zS0 : Int → Int := zup (zup (zup (zup (fun _ => 0) 0 100) 1 2) 2 100) 3 10
abbrev zPT : Type := (Nat → Nat) × (Int → Int)
def zHw (G : zG) (q b : Nat) (L : List zPT) : va_W := [(q, .inr (0, [.ref b, .int 0, .int 0])), (b, .inl (zcO G, 6, .inr (.inr (.inr (.inr (fun j => (L[j]?).map (fun u => u.1 0)))))))] ++ L.flatMap (zPb G)
theorem zHw_s (G : zG) (q b : Nat) (L : List zPT) (u : zPT) : ((zHw G q b L) ++ zPb G u).set 1 (b, .inl (zcO G, 6, .inr (.inr (.inr (.inr (va_up (fun j => (L[j]?).map (fun u => u.1 0)) L.length (some (u.1 0)))))))) = zHw G q b (L ++ [u]) := by
  have e : va_up (fun j => (L[j]?).map (fun u => u.1 0)) L.length (some (u.1 0)) = fun j => ((L ++ [u])[j]?).map (fun u => u.1 0) := by
    funext j
    unfold va_up
    by_cases h1 : j = L.length
    · subst h1
      rw [if_pos rfl, List.getElem?_append_right (Nat.le_refl _), Nat.sub_self]; rfl
    · rw [if_neg h1]
      by_cases h2 : j < L.length
      · rw [List.getElem?_append_left h2]
      · have a1 : L[j]? = none := List.getElem?_eq_none (by omega)
        have a2 : (L ++ [u])[j]? = none := List.getElem?_eq_none (by rw [List.length_append]; simp only [List.length_cons, List.length_nil]; omega)
        show (L[j]?).map (fun u : zPT => u.1 0) = _
        rw [a1, a2]
  rw [e]
  unfold zHw
  rw [List.flatMap_append]
  show (q, _) :: (b, _) :: (([] ++ L.flatMap (zPb G)) ++ zPb G u) = (q, _) :: (b, _) :: ([] ++ (L.flatMap (zPb G) ++ [u].flatMap (zPb G)))
  rw [List.nil_append, List.nil_append, show [u].flatMap (zPb G) = zPb G u from by simp only [List.flatMap_cons, List.flatMap_nil, List.append_nil]]
theorem dX5_init_0 : decode cX5_init 0 = .ok (.aload_n 0, 1) := by decide +kernel
theorem dX5_init_1 : decode cX5_init 1 = .ok (.invokespecial 1, 3) := by decide +kernel
theorem dX5_init_4 : decode cX5_init 4 = .ok (.aload_n 0, 1) := by decide +kernel
theorem dX5_init_5 : decode cX5_init 5 = .ok (.bipush 45, 2) := by decide +kernel
theorem dX5_init_7 : decode cX5_init 7 = .ok (.newarray .int, 2) := by decide +kernel
theorem dX5_init_9 : decode cX5_init 9 = .ok (.putfield 7, 3) := by decide +kernel
theorem dX5_init_12 : decode cX5_init 12 = .ok (.aload_n 0, 1) := by decide +kernel
theorem dX5_init_13 : decode cX5_init 13 = .ok (.bipush 45, 2) := by decide +kernel
theorem dX5_init_15 : decode cX5_init 15 = .ok (.newarray .int, 2) := by decide +kernel
theorem dX5_init_17 : decode cX5_init 17 = .ok (.putfield 13, 3) := by decide +kernel
theorem dX5_init_20 : decode cX5_init 20 = .ok (.aload_n 0, 1) := by decide +kernel
theorem dX5_init_21 : decode cX5_init 21 = .ok (.sipush 270, 3) := by decide +kernel
theorem dX5_init_24 : decode cX5_init 24 = .ok (.newarray .int, 2) := by decide +kernel
theorem dX5_init_26 : decode cX5_init 26 = .ok (.putfield 16, 3) := by decide +kernel
theorem dX5_init_29 : decode cX5_init 29 = .ok (.aload_n 0, 1) := by decide +kernel
theorem dX5_init_30 : decode cX5_init 30 = .ok (.bipush 60, 2) := by decide +kernel
theorem dX5_init_32 : decode cX5_init 32 = .ok (.newarray .int, 2) := by decide +kernel
theorem dX5_init_34 : decode cX5_init 34 = .ok (.putfield 19, 3) := by decide +kernel
theorem dX5_init_37 : decode cX5_init 37 = .ok (.aload_n 0, 1) := by decide +kernel
theorem dX5_init_38 : decode cX5_init 38 = .ok (.bipush 10, 2) := by decide +kernel
theorem dX5_init_40 : decode cX5_init 40 = .ok (.newarray .int, 2) := by decide +kernel
theorem dX5_init_42 : decode cX5_init 42 = .ok (.putfield 22, 3) := by decide +kernel
theorem dX5_init_45 : decode cX5_init 45 = .ok (.aload_n 0, 1) := by decide +kernel
theorem dX5_init_46 : decode cX5_init 46 = .ok (.bipush 8, 2) := by decide +kernel
theorem dX5_init_48 : decode cX5_init 48 = .ok (.newarray .int, 2) := by decide +kernel
theorem dX5_init_50 : decode cX5_init 50 = .ok (.putfield 25, 3) := by decide +kernel
theorem dX5_init_53 : decode cX5_init 53 = .ok (.aload_n 0, 1) := by decide +kernel
theorem dX5_init_54 : decode cX5_init 54 = .ok (.getfield 7, 3) := by decide +kernel
theorem dX5_init_57 : decode cX5_init 57 = .ok (.iconst 0, 1) := by decide +kernel
theorem dX5_init_58 : decode cX5_init 58 = .ok (.bipush 100, 2) := by decide +kernel
theorem dX5_init_60 : decode cX5_init 60 = .ok (.iastore, 1) := by decide +kernel
theorem dX5_init_61 : decode cX5_init 61 = .ok (.aload_n 0, 1) := by decide +kernel
theorem dX5_init_62 : decode cX5_init 62 = .ok (.getfield 7, 3) := by decide +kernel
theorem dX5_init_65 : decode cX5_init 65 = .ok (.iconst 1, 1) := by decide +kernel
theorem dX5_init_66 : decode cX5_init 66 = .ok (.iconst 2, 1) := by decide +kernel
theorem dX5_init_67 : decode cX5_init 67 = .ok (.iastore, 1) := by decide +kernel
theorem dX5_init_68 : decode cX5_init 68 = .ok (.aload_n 0, 1) := by decide +kernel
theorem dX5_init_69 : decode cX5_init 69 = .ok (.getfield 7, 3) := by decide +kernel
theorem dX5_init_72 : decode cX5_init 72 = .ok (.iconst 2, 1) := by decide +kernel
theorem dX5_init_73 : decode cX5_init 73 = .ok (.bipush 100, 2) := by decide +kernel
theorem dX5_init_75 : decode cX5_init 75 = .ok (.iastore, 1) := by decide +kernel
theorem dX5_init_76 : decode cX5_init 76 = .ok (.aload_n 0, 1) := by decide +kernel
theorem dX5_init_77 : decode cX5_init 77 = .ok (.getfield 7, 3) := by decide +kernel
theorem dX5_init_80 : decode cX5_init 80 = .ok (.iconst 3, 1) := by decide +kernel
theorem dX5_init_81 : decode cX5_init 81 = .ok (.bipush 10, 2) := by decide +kernel
theorem dX5_init_83 : decode cX5_init 83 = .ok (.iastore, 1) := by decide +kernel
theorem dX5_init_84 : decode cX5_init 84 = .ok (.return_, 1) := by decide +kernel
def zMw (G : zG) (q : Nat) (u : Nat → Nat) : va_W := [(q, .inr (5, [.int (zI 0), .ref (u 1), .ref (u 2), .ref (u 3), .int (zI 0), .ref (u 4), .int (zI 0), .ref (u 5), .ref (u 6), .int (zI 0), .int (zI 0), .int (zI 0), .int (zI 0), .int (zI 0), .long (zL 0)])), (u 1, .inl (zcI G, 45, .inl (fun i : Nat => zI (zS0 i)))), (u 2, .inl (zcI G, 45, .inl (fun _ => zI 0))), (u 3, .inl (zcI G, 270, .inl (fun _ => zI 0))), (u 4, .inl (zcI G, 60, .inl (fun _ => zI 0))), (u 5, .inl (zcI G, 10, .inl (fun _ => zI 0))), (u 6, .inl (zcI G, 8, .inl (fun _ => zI 0)))]
def r_X5_init : Room := { frames := 1, cells := 6, slots := 438, locals := 30 }
set_option maxHeartbeats 4000000 in
set_option maxRecDepth 20000 in
/-- the reference's constructor -/
theorem c_X5_init (l : Launch) (G : zG) (hG : zok G) (q : Nat) : ∀ sz : Nat, Met l yX5_init (Cond.code yX5_init cX5_init 1 (none : Option FieldType) :: zTbl) r_X5_init (va_Pc [.ref q] (zBI G ([(q, .inr (5, [.int 0, .null, .null, .null, .int 0, .null, .int 0, .null, .null, .int 0, .int 0, .int 0, .int 0, .int 0, .long 0]))]) sz)) (va_Qv (fun _ => True) (fun (u : Nat → Nat) t => va_P (zD G) vwCl (zMw G q u) t.heap ∧ va_D (va_A ([(q, .inr (5, [.int 0, .null, .null, .null, .int 0, .null, .int 0, .null, .null, .int 0, .int 0, .int 0, .int 0, .int 0, .long 0]))]) sz) (zMw G q u)) (va_A ([(q, .inr (5, [.int 0, .null, .null, .null, .int 0, .null, .int 0, .null, .null, .int 0, .int 0, .int 0, .int 0, .int 0, .long 0]))]) sz)) 6 438 (va_A ([(q, .inr (5, [.int 0, .null, .null, .null, .int 0, .null, .int 0, .null, .null, .int 0, .int 0, .int 0, .int 0, .int 0, .long 0]))]) sz) := by
  refine zMetN [(0, .ref q)] hG (by decide) (Nat.le_of_ble_eq_true rfl) rfl (fun p e s m args below meth c ls h hO hn2 hr hP hD hAz hl => ?_)
  have hx := h.1
  have hb := h.2.1
  have hK := h.2.2.2.2.2.2.1.1
  have hi : meth.name = "<init>" := hn2
  have hS : va_S (va_A ([(q, .inr (5, [.int 0, .null, .null, .null, .int 0, .null, .int 0, .null, .null, .int 0, .int 0, .int 0, .int 0, .int 0, .long 0]))]) s.heap.size) s.heap s.heap [] := va_S.rf
  have hA : ∀ q9, s.heap.size ≤ q9 → va_A ([(q, .inr (5, [.int 0, .null, .null, .null, .int 0, .null, .int 0, .null, .null, .int 0, .int 0, .int 0, .int 0, .int 0, .long 0]))]) s.heap.size q9 := fun _ z => Or.inr z
  generalize hAe : va_A ([(q, .inr (5, [.int 0, .null, .null, .null, .int 0, .null, .int 0, .null, .null, .int 0, .int 0, .int 0, .int 0, .int 0, .long 0]))]) s.heap.size = A at hD hS hA hAz ⊢
  refine lv_aload_n hx hb dX5_init_0 rfl (lv_at hl 0 rfl) ?_
  refine zObj h zm_X5_1 hl.1 (by decide +kernel) (Nat.le_of_ble_eq_true rfl) dX5_init_1 ?_
  refine lv_aload_n hx hb dX5_init_4 rfl (lv_at hl 0 rfl) ?_
  refine zb_bi (n := 45) h dX5_init_5 (by omega) (by omega) ?_
  refine zNewI (n := 45) (N := 45) h hP hD hS hA rfl (by omega) ⟨Nat.le_of_ble_eq_true rfl, Nat.le_of_ble_eq_true rfl⟩ dX5_init_7 (fun b1 H hP hD hS => ?_)
  have hP : va_P (zD G) vwCl ([(q, .inr (5, [.int 0, .null, .null, .null, .int 0, .null, .int 0, .null, .null, .int 0, .int 0, .int 0, .int 0, .int 0, .long 0])), (b1, .inl (zcI G, 45, .inl (fun _ => zI 0)))]) H := hP
  have hD : va_D A ([(q, .inr (5, [.int 0, .null, .null, .null, .int 0, .null, .int 0, .null, .null, .int 0, .int 0, .int 0, .int 0, .int 0, .long 0])), (b1, .inl (zcI G, 45, .inl (fun _ => zI 0)))]) := hD
  refine va_putF (D := zD G) (C := RX5) (T := TX5) (N := 15) (ci := 5) (v := .ref b1) (ty := tyX5 1) h.1 h.2.1 h.2.2.2.2.1 zin_X5 tyX5 tyX5_ok nmX5 h.2.2.2.1 hK hP hD hS 0 rfl rfl 1 (by omega) (h.2.2.2.2.1 _ zf_X5_7) (fun _ h9 => h9) rfl hi rfl (by decide +kernel) rfl rfl (Nat.le_of_ble_eq_true rfl) dX5_init_9 (fun H locs hP hD hS => ?_)
  have hP : va_P (zD G) vwCl ([(q, .inr (5, [.int 0, .ref b1, .null, .null, .int 0, .null, .int 0, .null, .null, .int 0, .int 0, .int 0, .int 0, .int 0, .long 0])), (b1, .inl (zcI G, 45, .inl (fun _ => zI 0)))]) H := hP
  have hD : va_D A ([(q, .inr (5, [.int 0, .ref b1, .null, .null, .int 0, .null, .int 0, .null, .null, .int 0, .int 0, .int 0, .int 0, .int 0, .long 0])), (b1, .inl (zcI G, 45, .inl (fun _ => zI 0)))]) := hD
  refine lv_aload_n hx hb dX5_init_12 rfl (lv_at hl 0 rfl) ?_
  refine zb_bi (n := 45) h dX5_init_13 (by omega) (by omega) ?_
  refine zNewI (n := 45) (N := 45) h hP hD hS hA rfl (by omega) ⟨Nat.le_of_ble_eq_true rfl, Nat.le_of_ble_eq_true rfl⟩ dX5_init_15 (fun b2 H hP hD hS => ?_)
  have hP : va_P (zD G) vwCl ([(q, .inr (5, [.int 0, .ref b1, .null, .null, .int 0, .null, .int 0, .null, .null, .int 0, .int 0, .int 0, .int 0, .int 0, .long 0])), (b1, .inl (zcI G, 45, .inl (fun _ => zI 0))), (b2, .inl (zcI G, 45, .inl (fun _ => zI 0)))]) H := hP
  have hD : va_D A ([(q, .inr (5, [.int 0, .ref b1, .null, .null, .int 0, .null, .int 0, .null, .null, .int 0, .int 0, .int 0, .int 0, .int 0, .long 0])), (b1, .inl (zcI G, 45, .inl (fun _ => zI 0))), (b2, .inl (zcI G, 45, .inl (fun _ => zI 0)))]) := hD
  refine va_putF (D := zD G) (C := RX5) (T := TX5) (N := 15) (ci := 5) (v := .ref b2) (ty := tyX5 2) h.1 h.2.1 h.2.2.2.2.1 zin_X5 tyX5 tyX5_ok nmX5 h.2.2.2.1 hK hP hD hS 0 rfl rfl 2 (by omega) (h.2.2.2.2.1 _ zf_X5_13) (fun _ h9 => h9) rfl hi rfl (by decide +kernel) rfl rfl (Nat.le_of_ble_eq_true rfl) dX5_init_17 (fun H locs hP hD hS => ?_)
  have hP : va_P (zD G) vwCl ([(q, .inr (5, [.int 0, .ref b1, .ref b2, .null, .int 0, .null, .int 0, .null, .null, .int 0, .int 0, .int 0, .int 0, .int 0, .long 0])), (b1, .inl (zcI G, 45, .inl (fun _ => zI 0))), (b2, .inl (zcI G, 45, .inl (fun _ => zI 0)))]) H := hP
  have hD : va_D A ([(q, .inr (5, [.int 0, .ref b1, .ref b2, .null, .int 0, .null, .int 0, .null, .null, .int 0, .int 0, .int 0, .int 0, .int 0, .long 0])), (b1, .inl (zcI G, 45, .inl (fun _ => zI 0))), (b2, .inl (zcI G, 45, .inl (fun _ => zI 0)))]) := hD
  refine lv_aload_n hx hb dX5_init_20 rfl (lv_at hl 0 rfl) ?_
  refine zb_si (n := 270) h dX5_init_21 (by omega) (by omega) ?_
  refine zNewI (n := 270) (N := 270) h hP hD hS hA rfl (by omega) ⟨Nat.le_of_ble_eq_true rfl, Nat.le_of_ble_eq_true rfl⟩ dX5_init_24 (fun b3 H hP hD hS => ?_)
  have hP : va_P (zD G) vwCl ([(q, .inr (5, [.int 0, .ref b1, .ref b2, .null, .int 0, .null, .int 0, .null, .null, .int 0, .int 0, .int 0, .int 0, .int 0, .long 0])), (b1, .inl (zcI G, 45, .inl (fun _ => zI 0))), (b2, .inl (zcI G, 45, .inl (fun _ => zI 0))), (b3, .inl (zcI G, 270, .inl (fun _ => zI 0)))]) H := hP
  have hD : va_D A ([(q, .inr (5, [.int 0, .ref b1, .ref b2, .null, .int 0, .null, .int 0, .null, .null, .int 0, .int 0, .int 0, .int 0, .int 0, .long 0])), (b1, .inl (zcI G, 45, .inl (fun _ => zI 0))), (b2, .inl (zcI G, 45, .inl (fun _ => zI 0))), (b3, .inl (zcI G, 270, .inl (fun _ => zI 0)))]) := hD
  refine va_putF (D := zD G) (C := RX5) (T := TX5) (N := 15) (ci := 5) (v := .ref b3) (ty := tyX5 3) h.1 h.2.1 h.2.2.2.2.1 zin_X5 tyX5 tyX5_ok nmX5 h.2.2.2.1 hK hP hD hS 0 rfl rfl 3 (by omega) (h.2.2.2.2.1 _ zf_X5_16) (fun _ h9 => h9) rfl hi rfl (by decide +kernel) rfl rfl (Nat.le_of_ble_eq_true rfl) dX5_init_26 (fun H locs hP hD hS => ?_)
  have hP : va_P (zD G) vwCl ([(q, .inr (5, [.int 0, .ref b1, .ref b2, .ref b3, .int 0, .null, .int 0, .null, .null, .int 0, .int 0, .int 0, .int 0, .int 0, .long 0])), (b1, .inl (zcI G, 45, .inl (fun _ => zI 0))), (b2, .inl (zcI G, 45, .inl (fun _ => zI 0))), (b3, .inl (zcI G, 270, .inl (fun _ => zI 0)))]) H := hP
  have hD : va_D A ([(q, .inr (5, [.int 0, .ref b1, .ref b2, .ref b3, .int 0, .null, .int 0, .null, .null, .int 0, .int 0, .int 0, .int 0, .int 0, .long 0])), (b1, .inl (zcI G, 45, .inl (fun _ => zI 0))), (b2, .inl (zcI G, 45, .inl (fun _ => zI 0))), (b3, .inl (zcI G, 270, .inl (fun _ => zI 0)))]) := hD
  refine lv_aload_n hx hb dX5_init_29 rfl (lv_at hl 0 rfl) ?_
  refine zb_bi (n := 60) h dX5_init_30 (by omega) (by omega) ?_
  refine zNewI (n := 60) (N := 60) h hP hD hS hA rfl (by omega) ⟨Nat.le_of_ble_eq_true rfl, Nat.le_of_ble_eq_true rfl⟩ dX5_init_32 (fun b4 H hP hD hS => ?_)
  have hP : va_P (zD G) vwCl ([(q, .inr (5, [.int 0, .ref b1, .ref b2, .ref b3, .int 0, .null, .int 0, .null, .null, .int 0, .int 0, .int 0, .int 0, .int 0, .long 0])), (b1, .inl (zcI G, 45, .inl (fun _ => zI 0))), (b2, .inl (zcI G, 45, .inl (fun _ => zI 0))), (b3, .inl (zcI G, 270, .inl (fun _ => zI 0))), (b4, .inl (zcI G, 60, .inl (fun _ => zI 0)))]) H := hP
  have hD : va_D A ([(q, .inr (5, [.int 0, .ref b1, .ref b2, .ref b3, .int 0, .null, .int 0, .null, .null, .int 0, .int 0, .int 0, .int 0, .int 0, .long 0])), (b1, .inl (zcI G, 45, .inl (fun _ => zI 0))), (b2, .inl (zcI G, 45, .inl (fun _ => zI 0))), (b3, .inl (zcI G, 270, .inl (fun _ => zI 0))), (b4, .inl (zcI G, 60, .inl (fun _ => zI 0)))]) := hD
  refine va_putF (D := zD G) (C := RX5) (T := TX5) (N := 15) (ci := 5) (v := .ref b4) (ty := tyX5 5) h.1 h.2.1 h.2.2.2.2.1 zin_X5 tyX5 tyX5_ok nmX5 h.2.2.2.1 hK hP hD hS 0 rfl rfl 5 (by omega) (h.2.2.2.2.1 _ zf_X5_19) (fun _ h9 => h9) rfl hi rfl (by decide +kernel) rfl rfl (Nat.le_of_ble_eq_true rfl) dX5_init_34 (fun H locs hP hD hS => ?_)
  have hP : va_P (zD G) vwCl ([(q, .inr (5, [.int 0, .ref b1, .ref b2, .ref b3, .int 0, .ref b4, .int 0, .null, .null, .int 0, .int 0, .int 0, .int 0, .int 0, .long 0])), (b1, .inl (zcI G, 45, .inl (fun _ => zI 0))), (b2, .inl (zcI G, 45, .inl (fun _ => zI 0))), (b3, .inl (zcI G, 270, .inl (fun _ => zI 0))), (b4, .inl (zcI G, 60, .inl (fun _ => zI 0)))]) H := hP
  have hD : va_D A ([(q, .inr (5, [.int 0, .ref b1, .ref b2, .ref b3, .int 0, .ref b4, .int 0, .null, .null, .int 0, .int 0, .int 0, .int 0, .int 0, .long 0])), (b1, .inl (zcI G, 45, .inl (fun _ => zI 0))), (b2, .inl (zcI G, 45, .inl (fun _ => zI 0))), (b3, .inl (zcI G, 270, .inl (fun _ => zI 0))), (b4, .inl (zcI G, 60, .inl (fun _ => zI 0)))]) := hD
  refine lv_aload_n hx hb dX5_init_37 rfl (lv_at hl 0 rfl) ?_
  refine zb_bi (n := 10) h dX5_init_38 (by omega) (by omega) ?_
  refine zNewI (n := 10) (N := 10) h hP hD hS hA rfl (by omega) ⟨Nat.le_of_ble_eq_true rfl, Nat.le_of_ble_eq_true rfl⟩ dX5_init_40 (fun b5 H hP hD hS => ?_)
  have hP : va_P (zD G) vwCl ([(q, .inr (5, [.int 0, .ref b1, .ref b2, .ref b3, .int 0, .ref b4, .int 0, .null, .null, .int 0, .int 0, .int 0, .int 0, .int 0, .long 0])), (b1, .inl (zcI G, 45, .inl (fun _ => zI 0))), (b2, .inl (zcI G, 45, .inl (fun _ => zI 0))), (b3, .inl (zcI G, 270, .inl (fun _ => zI 0))), (b4, .inl (zcI G, 60, .inl (fun _ => zI 0))), (b5, .inl (zcI G, 10, .inl (fun _ => zI 0)))]) H := hP
  have hD : va_D A ([(q, .inr (5, [.int 0, .ref b1, .ref b2, .ref b3, .int 0, .ref b4, .int 0, .null, .null, .int 0, .int 0, .int 0, .int 0, .int 0, .long 0])), (b1, .inl (zcI G, 45, .inl (fun _ => zI 0))), (b2, .inl (zcI G, 45, .inl (fun _ => zI 0))), (b3, .inl (zcI G, 270, .inl (fun _ => zI 0))), (b4, .inl (zcI G, 60, .inl (fun _ => zI 0))), (b5, .inl (zcI G, 10, .inl (fun _ => zI 0)))]) := hD
  refine va_putF (D := zD G) (C := RX5) (T := TX5) (N := 15) (ci := 5) (v := .ref b5) (ty := tyX5 7) h.1 h.2.1 h.2.2.2.2.1 zin_X5 tyX5 tyX5_ok nmX5 h.2.2.2.1 hK hP hD hS 0 rfl rfl 7 (by omega) (h.2.2.2.2.1 _ zf_X5_22) (fun _ h9 => h9) rfl hi rfl (by decide +kernel) rfl rfl (Nat.le_of_ble_eq_true rfl) dX5_init_42 (fun H locs hP hD hS => ?_)
  have hP : va_P (zD G) vwCl ([(q, .inr (5, [.int 0, .ref b1, .ref b2, .ref b3, .int 0, .ref b4, .int 0, .ref b5, .null, .int 0, .int 0, .int 0, .int 0, .int 0, .long 0])), (b1, .inl (zcI G, 45, .inl (fun _ => zI 0))), (b2, .inl (zcI G, 45, .inl (fun _ => zI 0))), (b3, .inl (zcI G, 270, .inl (fun _ => zI 0))), (b4, .inl (zcI G, 60, .inl (fun _ => zI 0))), (b5, .inl (zcI G, 10, .inl (fun _ => zI 0)))]) H := hP
  have hD : va_D A ([(q, .inr (5, [.int 0, .ref b1, .ref b2, .ref b3, .int 0, .ref b4, .int 0, .ref b5, .null, .int 0, .int 0, .int 0, .int 0, .int 0, .long 0])), (b1, .inl (zcI G, 45, .inl (fun _ => zI 0))), (b2, .inl (zcI G, 45, .inl (fun _ => zI 0))), (b3, .inl (zcI G, 270, .inl (fun _ => zI 0))), (b4, .inl (zcI G, 60, .inl (fun _ => zI 0))), (b5, .inl (zcI G, 10, .inl (fun _ => zI 0)))]) := hD
  refine lv_aload_n hx hb dX5_init_45 rfl (lv_at hl 0 rfl) ?_
  refine zb_bi (n := 8) h dX5_init_46 (by omega) (by omega) ?_
  refine zNewI (n := 8) (N := 8) h hP hD hS hA rfl (by omega) ⟨Nat.le_of_ble_eq_true rfl, Nat.le_of_ble_eq_true rfl⟩ dX5_init_48 (fun b6 H hP hD hS => ?_)
  have hP : va_P (zD G) vwCl ([(q, .inr (5, [.int 0, .ref b1, .ref b2, .ref b3, .int 0, .ref b4, .int 0, .ref b5, .null, .int 0, .int 0, .int 0, .int 0, .int 0, .long 0])), (b1, .inl (zcI G, 45, .inl (fun _ => zI 0))), (b2, .inl (zcI G, 45, .inl (fun _ => zI 0))), (b3, .inl (zcI G, 270, .inl (fun _ => zI 0))), (b4, .inl (zcI G, 60, .inl (fun _ => zI 0))), (b5, .inl (zcI G, 10, .inl (fun _ => zI 0))), (b6, .inl (zcI G, 8, .inl (fun _ => zI 0)))]) H := hP
  have hD : va_D A ([(q, .inr (5, [.int 0, .ref b1, .ref b2, .ref b3, .int 0, .ref b4, .int 0, .ref b5, .null, .int 0, .int 0, .int 0, .int 0, .int 0, .long 0])), (b1, .inl (zcI G, 45, .inl (fun _ => zI 0))), (b2, .inl (zcI G, 45, .inl (fun _ => zI 0))), (b3, .inl (zcI G, 270, .inl (fun _ => zI 0))), (b4, .inl (zcI G, 60, .inl (fun _ => zI 0))), (b5, .inl (zcI G, 10, .inl (fun _ => zI 0))), (b6, .inl (zcI G, 8, .inl (fun _ => zI 0)))]) := hD
  refine va_putF (D := zD G) (C := RX5) (T := TX5) (N := 15) (ci := 5) (v := .ref b6) (ty := tyX5 8) h.1 h.2.1 h.2.2.2.2.1 zin_X5 tyX5 tyX5_ok nmX5 h.2.2.2.1 hK hP hD hS 0 rfl rfl 8 (by omega) (h.2.2.2.2.1 _ zf_X5_25) (fun _ h9 => h9) rfl hi rfl (by decide +kernel) rfl rfl (Nat.le_of_ble_eq_true rfl) dX5_init_50 (fun H locs hP hD hS => ?_)
  have hP : va_P (zD G) vwCl ([(q, .inr (5, [.int 0, .ref b1, .ref b2, .ref b3, .int 0, .ref b4, .int 0, .ref b5, .ref b6, .int 0, .int 0, .int 0, .int 0, .int 0, .long 0])), (b1, .inl (zcI G, 45, .inl (fun _ => zI 0))), (b2, .inl (zcI G, 45, .inl (fun _ => zI 0))), (b3, .inl (zcI G, 270, .inl (fun _ => zI 0))), (b4, .inl (zcI G, 60, .inl (fun _ => zI 0))), (b5, .inl (zcI G, 10, .inl (fun _ => zI 0))), (b6, .inl (zcI G, 8, .inl (fun _ => zI 0)))]) H := hP
  have hD : va_D A ([(q, .inr (5, [.int 0, .ref b1, .ref b2, .ref b3, .int 0, .ref b4, .int 0, .ref b5, .ref b6, .int 0, .int 0, .int 0, .int 0, .int 0, .long 0])), (b1, .inl (zcI G, 45, .inl (fun _ => zI 0))), (b2, .inl (zcI G, 45, .inl (fun _ => zI 0))), (b3, .inl (zcI G, 270, .inl (fun _ => zI 0))), (b4, .inl (zcI G, 60, .inl (fun _ => zI 0))), (b5, .inl (zcI G, 10, .inl (fun _ => zI 0))), (b6, .inl (zcI G, 8, .inl (fun _ => zI 0)))]) := hD
  refine lv_aload_n hx hb dX5_init_53 rfl (lv_at hl 0 rfl) ?_
  refine va_get (D := zD G) (C := RX5) (T := TX5) (N := 15) (ci := 5) (v := .ref b1) h.1 h.2.1 h.2.2.2.2.1 zin_X5 h.2.2.2.1 hK hP 0 rfl rfl 1 (by omega) (h.2.2.2.2.1 _ zf_X5_7) (fun _ h9 => h9) rfl dX5_init_54 ?_
  refine zb_ic (n := 0) h dX5_init_57 ?_
  refine zb_bi (n := 100) h dX5_init_58 (by omega) (by omega) ?_
  refine va_iast (n := 45) (f := (fun i : Nat => zI ((fun _ => 0 : Int → Int) i))) h.1 h.2.1 hK hP hD hS 1 0 rfl rfl (zI_in (by omega) (by omega) (by omega)) dX5_init_60 (fun H locs hP hD hS => ?_)
  rw [yupd (F := (fun _ => 0 : Int → Int)) (by omega) (by omega)] at hP hD
  have hP : va_P (zD G) vwCl ([(q, .inr (5, [.int 0, .ref b1, .ref b2, .ref b3, .int 0, .ref b4, .int 0, .ref b5, .ref b6, .int 0, .int 0, .int 0, .int 0, .int 0, .long 0])), (b1, .inl (zcI G, 45, .inl (fun i : Nat => zI ((zup (fun _ => 0 : Int → Int) 0 100) i)))), (b2, .inl (zcI G, 45, .inl (fun _ => zI 0))), (b3, .inl (zcI G, 270, .inl (fun _ => zI 0))), (b4, .inl (zcI G, 60, .inl (fun _ => zI 0))), (b5, .inl (zcI G, 10, .inl (fun _ => zI 0))), (b6, .inl (zcI G, 8, .inl (fun _ => zI 0)))]) H := hP
  have hD : va_D A ([(q, .inr (5, [.int 0, .ref b1, .ref b2, .ref b3, .int 0, .ref b4, .int 0, .ref b5, .ref b6, .int 0, .int 0, .int 0, .int 0, .int 0, .long 0])), (b1, .inl (zcI G, 45, .inl (fun i : Nat => zI ((zup (fun _ => 0 : Int → Int) 0 100) i)))), (b2, .inl (zcI G, 45, .inl (fun _ => zI 0))), (b3, .inl (zcI G, 270, .inl (fun _ => zI 0))), (b4, .inl (zcI G, 60, .inl (fun _ => zI 0))), (b5, .inl (zcI G, 10, .inl (fun _ => zI 0))), (b6, .inl (zcI G, 8, .inl (fun _ => zI 0)))]) := hD
  refine lv_aload_n hx hb dX5_init_61 rfl (lv_at hl 0 rfl) ?_
  refine va_get (D := zD G) (C := RX5) (T := TX5) (N := 15) (ci := 5) (v := .ref b1) h.1 h.2.1 h.2.2.2.2.1 zin_X5 h.2.2.2.1 hK hP 0 rfl rfl 1 (by omega) (h.2.2.2.2.1 _ zf_X5_7) (fun _ h9 => h9) rfl dX5_init_62 ?_
  refine zb_ic (n := 1) h dX5_init_65 ?_
  refine zb_ic (n := 2) h dX5_init_66 ?_
  refine va_iast (n := 45) (f := (fun i : Nat => zI ((zup (fun _ => 0 : Int → Int) 0 100) i))) h.1 h.2.1 hK hP hD hS 1 0 rfl rfl (zI_in (by omega) (by omega) (by omega)) dX5_init_67 (fun H locs hP hD hS => ?_)
  rw [yupd (F := (zup (fun _ => 0 : Int → Int) 0 100)) (by omega) (by omega)] at hP hD
  have hP : va_P (zD G) vwCl ([(q, .inr (5, [.int 0, .ref b1, .ref b2, .ref b3, .int 0, .ref b4, .int 0, .ref b5, .ref b6, .int 0, .int 0, .int 0, .int 0, .int 0, .long 0])), (b1, .inl (zcI G, 45, .inl (fun i : Nat => zI ((zup (zup (fun _ => 0 : Int → Int) 0 100) 1 2) i)))), (b2, .inl (zcI G, 45, .inl (fun _ => zI 0))), (b3, .inl (zcI G, 270, .inl (fun _ => zI 0))), (b4, .inl (zcI G, 60, .inl (fun _ => zI 0))), (b5, .inl (zcI G, 10, .inl (fun _ => zI 0))), (b6, .inl (zcI G, 8, .inl (fun _ => zI 0)))]) H := hP
  have hD : va_D A ([(q, .inr (5, [.int 0, .ref b1, .ref b2, .ref b3, .int 0, .ref b4, .int 0, .ref b5, .ref b6, .int 0, .int 0, .int 0, .int 0, .int 0, .long 0])), (b1, .inl (zcI G, 45, .inl (fun i : Nat => zI ((zup (zup (fun _ => 0 : Int → Int) 0 100) 1 2) i)))), (b2, .inl (zcI G, 45, .inl (fun _ => zI 0))), (b3, .inl (zcI G, 270, .inl (fun _ => zI 0))), (b4, .inl (zcI G, 60, .inl (fun _ => zI 0))), (b5, .inl (zcI G, 10, .inl (fun _ => zI 0))), (b6, .inl (zcI G, 8, .inl (fun _ => zI 0)))]) := hD
  refine lv_aload_n hx hb dX5_init_68 rfl (lv_at hl 0 rfl) ?_
  refine va_get (D := zD G) (C := RX5) (T := TX5) (N := 15) (ci := 5) (v := .ref b1) h.1 h.2.1 h.2.2.2.2.1 zin_X5 h.2.2.2.1 hK hP 0 rfl rfl 1 (by omega) (h.2.2.2.2.1 _ zf_X5_7) (fun _ h9 => h9) rfl dX5_init_69 ?_
  refine zb_ic (n := 2) h dX5_init_72 ?_
  refine zb_bi (n := 100) h dX5_init_73 (by omega) (by omega) ?_
  refine va_iast (n := 45) (f := (fun i : Nat => zI ((zup (zup (fun _ => 0 : Int → Int) 0 100) 1 2) i))) h.1 h.2.1 hK hP hD hS 1 0 rfl rfl (zI_in (by omega) (by omega) (by omega)) dX5_init_75 (fun H locs hP hD hS => ?_)
  rw [yupd (F := (zup (zup (fun _ => 0 : Int → Int) 0 100) 1 2)) (by omega) (by omega)] at hP hD
  have hP : va_P (zD G) vwCl ([(q, .inr (5, [.int 0, .ref b1, .ref b2, .ref b3, .int 0, .ref b4, .int 0, .ref b5, .ref b6, .int 0, .int 0, .int 0, .int 0, .int 0, .long 0])), (b1, .inl (zcI G, 45, .inl (fun i : Nat => zI ((zup (zup (zup (fun _ => 0 : Int → Int) 0 100) 1 2) 2 100) i)))), (b2, .inl (zcI G, 45, .inl (fun _ => zI 0))), (b3, .inl (zcI G, 270, .inl (fun _ => zI 0))), (b4, .inl (zcI G, 60, .inl (fun _ => zI 0))), (b5, .inl (zcI G, 10, .inl (fun _ => zI 0))), (b6, .inl (zcI G, 8, .inl (fun _ => zI 0)))]) H := hP
  have hD : va_D A ([(q, .inr (5, [.int 0, .ref b1, .ref b2, .ref b3, .int 0, .ref b4, .int 0, .ref b5, .ref b6, .int 0, .int 0, .int 0, .int 0, .int 0, .long 0])), (b1, .inl (zcI G, 45, .inl (fun i : Nat => zI ((zup (zup (zup (fun _ => 0 : Int → Int) 0 100) 1 2) 2 100) i)))), (b2, .inl (zcI G, 45, .inl (fun _ => zI 0))), (b3, .inl (zcI G, 270, .inl (fun _ => zI 0))), (b4, .inl (zcI G, 60, .inl (fun _ => zI 0))), (b5, .inl (zcI G, 10, .inl (fun _ => zI 0))), (b6, .inl (zcI G, 8, .inl (fun _ => zI 0)))]) := hD
  refine lv_aload_n hx hb dX5_init_76 rfl (lv_at hl 0 rfl) ?_
  refine va_get (D := zD G) (C := RX5) (T := TX5) (N := 15) (ci := 5) (v := .ref b1) h.1 h.2.1 h.2.2.2.2.1 zin_X5 h.2.2.2.1 hK hP 0 rfl rfl 1 (by omega) (h.2.2.2.2.1 _ zf_X5_7) (fun _ h9 => h9) rfl dX5_init_77 ?_
  refine zb_ic (n := 3) h dX5_init_80 ?_
  refine zb_bi (n := 10) h dX5_init_81 (by omega) (by omega) ?_
  refine va_iast (n := 45) (f := (fun i : Nat => zI ((zup (zup (zup (fun _ => 0 : Int → Int) 0 100) 1 2) 2 100) i))) h.1 h.2.1 hK hP hD hS 1 0 rfl rfl (zI_in (by omega) (by omega) (by omega)) dX5_init_83 (fun H locs hP hD hS => ?_)
  rw [yupd (F := (zup (zup (zup (fun _ => 0 : Int → Int) 0 100) 1 2) 2 100)) (by omega) (by omega)] at hP hD
  have hP : va_P (zD G) vwCl ([(q, .inr (5, [.int 0, .ref b1, .ref b2, .ref b3, .int 0, .ref b4, .int 0, .ref b5, .ref b6, .int 0, .int 0, .int 0, .int 0, .int 0, .long 0])), (b1, .inl (zcI G, 45, .inl (fun i : Nat => zI ((zup (zup (zup (zup (fun _ => 0 : Int → Int) 0 100) 1 2) 2 100) 3 10) i)))), (b2, .inl (zcI G, 45, .inl (fun _ => zI 0))), (b3, .inl (zcI G, 270, .inl (fun _ => zI 0))), (b4, .inl (zcI G, 60, .inl (fun _ => zI 0))), (b5, .inl (zcI G, 10, .inl (fun _ => zI 0))), (b6, .inl (zcI G, 8, .inl (fun _ => zI 0)))]) H := hP
  have hD : va_D A ([(q, .inr (5, [.int 0, .ref b1, .ref b2, .ref b3, .int 0, .ref b4, .int 0, .ref b5, .ref b6, .int 0, .int 0, .int 0, .int 0, .int 0, .long 0])), (b1, .inl (zcI G, 45, .inl (fun i : Nat => zI ((zup (zup (zup (zup (fun _ => 0 : Int → Int) 0 100) 1 2) 2 100) 3 10) i)))), (b2, .inl (zcI G, 45, .inl (fun _ => zI 0))), (b3, .inl (zcI G, 270, .inl (fun _ => zI 0))), (b4, .inl (zcI G, 60, .inl (fun _ => zI 0))), (b5, .inl (zcI G, 10, .inl (fun _ => zI 0))), (b6, .inl (zcI G, 8, .inl (fun _ => zI 0)))]) := hD
  exact zrvN (α := Nat → Nat) (Wf := fun u => zMw G q u) h hr (fun j => match j with | 0 => q | 1 => b1 | 2 => b2 | 3 => b3 | 4 => b4 | 5 => b5 | _ => b6) trivial hP hD hS dX5_init_84
theorem dX0_init_0 : decode cX0_init 0 = .ok (.aload_n 0, 1) := by decide +kernel
theorem dX0_init_1 : decode cX0_init 1 = .ok (.invokespecial 3, 3) := by decide +kernel
theorem dX0_init_4 : decode cX0_init 4 = .ok (.aload_n 0, 1) := by decide +kernel
theorem dX0_init_5 : decode cX0_init 5 = .ok (.bipush 6, 2) := by decide +kernel
theorem dX0_init_7 : decode cX0_init 7 = .ok (.anewarray 9, 3) := by decide +kernel
theorem dX0_init_10 : decode cX0_init 10 = .ok (.putfield 11, 3) := by decide +kernel
theorem dX0_init_13 : decode cX0_init 13 = .ok (.iconst 0, 1) := by decide +kernel
theorem dX0_init_14 : decode cX0_init 14 = .ok (.istore_n 1, 1) := by decide +kernel
theorem dX0_init_15 : decode cX0_init 15 = .ok (.iload_n 1, 1) := by decide +kernel
theorem dX0_init_16 : decode cX0_init 16 = .ok (.aload_n 0, 1) := by decide +kernel
theorem dX0_init_17 : decode cX0_init 17 = .ok (.getfield 11, 3) := by decide +kernel
theorem dX0_init_20 : decode cX0_init 20 = .ok (.arraylength, 1) := by decide +kernel
theorem dX0_init_21 : decode cX0_init 21 = .ok (.if_icmp .ge 22, 3) := by decide +kernel
theorem dX0_init_24 : decode cX0_init 24 = .ok (.aload_n 0, 1) := by decide +kernel
theorem dX0_init_25 : decode cX0_init 25 = .ok (.getfield 11, 3) := by decide +kernel
theorem dX0_init_28 : decode cX0_init 28 = .ok (.iload_n 1, 1) := by decide +kernel
theorem dX0_init_29 : decode cX0_init 29 = .ok (.new 9, 3) := by decide +kernel
theorem dX0_init_32 : decode cX0_init 32 = .ok (.dup, 1) := by decide +kernel
theorem dX0_init_33 : decode cX0_init 33 = .ok (.invokespecial 17, 3) := by decide +kernel
theorem dX0_init_36 : decode cX0_init 36 = .ok (.aastore, 1) := by decide +kernel
theorem dX0_init_37 : decode cX0_init 37 = .ok (.iinc 1 1, 3) := by decide +kernel
theorem dX0_init_40 : decode cX0_init 40 = .ok (.goto (-25), 3) := by decide +kernel
theorem dX0_init_43 : decode cX0_init 43 = .ok (.aload_n 0, 1) := by decide +kernel
theorem dX0_init_44 : decode cX0_init 44 = .ok (.iconst 0, 1) := by decide +kernel
theorem dX0_init_45 : decode cX0_init 45 = .ok (.putfield 18, 3) := by decide +kernel
theorem dX0_init_48 : decode cX0_init 48 = .ok (.aload_n 0, 1) := by decide +kernel
theorem dX0_init_49 : decode cX0_init 49 = .ok (.iconst 0, 1) := by decide +kernel
theorem dX0_init_50 : decode cX0_init 50 = .ok (.putfield 22, 3) := by decide +kernel
theorem dX0_init_53 : decode cX0_init 53 = .ok (.return_, 1) := by decide +kernel
def r_X0_init : Room := { frames := 4, cells := 55, slots := 432, locals := 88 }
set_option maxHeartbeats 4000000 in
set_option maxRecDepth 20000 in
/-- History's constructor -/
theorem c_X0_init (l : Launch) (G : zG) (hG : zok G) (q : Nat) : ∀ sz : Nat, Met l yX0_init (Cond.code yX0_init cX0_init 2 (none : Option FieldType) :: zTbl) r_X0_init (va_Pc [.ref q] (zBI G ([(q, .inr (0, [.null, .int 0, .int 0]))]) sz)) (va_Qv (fun u => u.2.length = 6 ∧ ∀ x ∈ u.2, ∀ j : Int, 0 ≤ j → j < 10 → x.2 j = zMk 2 100 j) (fun (u : Nat × List zPT) t => va_P (zD G) vwCl (zHw G q u.1 u.2) t.heap ∧ va_D (va_A ([(q, .inr (0, [.null, .int 0, .int 0]))]) sz) (zHw G q u.1 u.2)) (va_A ([(q, .inr (0, [.null, .int 0, .int 0]))]) sz)) 55 432 (va_A ([(q, .inr (0, [.null, .int 0, .int 0]))]) sz) := by
  refine zMetN [(0, .ref q)] hG (by decide) (Nat.le_of_ble_eq_true rfl) rfl (fun p e s m args below meth c ls h hO hn2 hr hP hD hAz hl => ?_)
  have hx := h.1
  have hb := h.2.1
  have hK := h.2.2.2.2.2.2.1.1
  have hi : meth.name = "<init>" := hn2
  have hS : va_S (va_A ([(q, .inr (0, [.null, .int 0, .int 0]))]) s.heap.size) s.heap s.heap [] := va_S.rf
  have hA : ∀ q9, s.heap.size ≤ q9 → va_A ([(q, .inr (0, [.null, .int 0, .int 0]))]) s.heap.size q9 := fun _ z => Or.inr z
  generalize hAe : va_A ([(q, .inr (0, [.null, .int 0, .int 0]))]) s.heap.size = A at hD hS hA hAz ⊢
  obtain ⟨Q, hQ⟩ : ∃ Q, Q = MQ below (va_Qv (fun u : Nat × List zPT => u.2.length = 6 ∧ ∀ x ∈ u.2, ∀ j : Int, 0 ≤ j → j < 10 → x.2 j = zMk 2 100 j) (fun (u : Nat × List zPT) t => va_P (zD G) vwCl (zHw G q u.1 u.2) t.heap ∧ va_D A (zHw G q u.1 u.2)) A) args s 55 432 A := ⟨_, rfl⟩
  rw [← hQ]
  have C15 : ∀ (b1 : Nat) (fu n : Nat) (Ls : List zPT) (H : Heap) (locs : List Loc) (ls : Array Slot), 6 - n < fu → n ≤ 6 → Ls.length = n → (∀ x ∈ Ls, ∀ j : Int, 0 ≤ j → j < 10 → x.2 j = zMk 2 100 j) → va_P (zD G) vwCl (zHw G q b1 Ls) H → va_D A (zHw G q b1 Ls) → va_S A s.heap H locs → lv_has ls 2 [(0, .ref q), (1, .int (zI (n : Int)))] → W p l e r_X0_init s m args below meth c H locs (1 + 9 * n) (6 + 71 * n) Q (F0 m 15 ls []) := by
    intro b1 fu
    induction fu with
    | zero => intro n Ls H locs ls hfu; omega
    | succ fu ih =>
      intro n Ls H locs ls hfu hn hLs hM hP hD hS hl
      refine lv_iload_n hx hb dX0_init_15 rfl (lv_at hl 1 rfl) ?_
      refine lv_aload_n hx hb dX0_init_16 rfl (lv_at hl 0 rfl) ?_
      refine va_get (D := zD G) (C := RX0) (T := TX0) (N := 3) (ci := 0) (v := .ref b1) h.1 h.2.1 h.2.2.2.2.1 zin_X0 h.2.2.2.1 hK hP 0 rfl rfl 0 (by omega) (h.2.2.2.2.1 _ zf_X0_11) (fun _ h9 => h9) rfl dX0_init_17 ?_
      refine va_alen (x := (6, .inr (.inr (.inr (.inr (fun j => (Ls[j]?).map (fun u => u.1 0))))))) h.1 h.2.1 hK hP 1 1 rfl rfl (zI_nat 6) dX0_init_20 ?_
      refine zb_cge (x := (n : Int)) (y := 6) (tgt := 43) h (by omega) (by omega) dX0_init_21 (by decide) (fun c_21 => ?_) (fun c_21 => ?_)
      · have e6 : n = 6 := by omega
        subst e6
        refine lv_aload_n hx hb dX0_init_43 rfl (lv_at hl 0 rfl) ?_
        refine zb_ic (n := 0) h dX0_init_44 ?_
        refine va_put (D := zD G) (C := RX0) (T := TX0) (N := 3) (ci := 0) (v := .int (zI 0)) (ty := tyX0 1) (fs := [.ref b1, .int 0, .int 0]) h.1 h.2.1 h.2.2.2.2.1 zin_X0 tyX0 tyX0_ok nmX0 h.2.2.2.1 hK hP hD hS 0 rfl rfl 1 (by omega) (h.2.2.2.2.1 _ zf_X0_18) (fun _ h9 => h9) rfl (by decide +kernel) rfl rfl (Nat.le_of_ble_eq_true rfl) dX0_init_45 (fun H locs hP hD hS => ?_)
        have hP : va_P (zD G) vwCl (zHw G q b1 Ls) H := hP
        have hD : va_D A (zHw G q b1 Ls) := hD
        refine lv_aload_n hx hb dX0_init_48 rfl (lv_at hl 0 rfl) ?_
        refine zb_ic (n := 0) h dX0_init_49 ?_
        refine va_put (D := zD G) (C := RX0) (T := TX0) (N := 3) (ci := 0) (v := .int (zI 0)) (ty := tyX0 2) (fs := [.ref b1, .int 0, .int 0]) h.1 h.2.1 h.2.2.2.2.1 zin_X0 tyX0 tyX0_ok nmX0 h.2.2.2.1 hK hP hD hS 0 rfl rfl 2 (by omega) (h.2.2.2.2.1 _ zf_X0_22) (fun _ h9 => h9) rfl (by decide +kernel) rfl rfl (Nat.le_of_ble_eq_true rfl) dX0_init_50 (fun H locs hP hD hS => ?_)
        have hP : va_P (zD G) vwCl (zHw G q b1 Ls) H := hP
        have hD : va_D A (zHw G q b1 Ls) := hD
        rw [hQ]
        exact zrvN (α := Nat × List zPT) (Wf := fun u => zHw G q u.1 u.2) h hr (b1, Ls) ⟨hLs, hM⟩ hP hD hS dX0_init_53
      · refine lv_aload_n hx hb dX0_init_24 rfl (lv_at hl 0 rfl) ?_
        refine va_get (D := zD G) (C := RX0) (T := TX0) (N := 3) (ci := 0) (v := .ref b1) h.1 h.2.1 h.2.2.2.2.1 zin_X0 h.2.2.2.1 hK hP 0 rfl rfl 0 (by omega) (h.2.2.2.2.1 _ zf_X0_11) (fun _ h9 => h9) rfl dX0_init_25 ?_
        refine lv_iload_n hx hb dX0_init_28 rfl (lv_at hl 1 rfl) ?_
        refine va_new (D := zD G) (ci := 3) (fs := [.null, .null, .null, .null, .null, .null, .null, .int 0, .int 0, .int 0]) (C := RX3) (T := TX3) (N := 10) h.1 h.2.1 h.2.2.2.2.1 zin_X3 tyX3 tyX3_ok h.2.2.2.1 (h.2.2.2.2.1 _ zl_X0_9) (h.2.2.2.2.1 _ zo_X3) (h.2.2.2.2.1 _ zn_X3) hK hP hD hS hA rfl (zdf_X3) (by show _ ≤ 55; omega) (by show _ ≤ 432; omega) dX0_init_29 (fun q2 H hP hD hS => ?_)
        refine lv_dup hx hb dX0_init_32 rfl ?_
        refine zCtor (wc := [(q2, .inr (3, [.null, .null, .null, .null, .null, .null, .null, .int 0, .int 0, .int 0]))]) h hO hP hD hS hA hAz (c_X3_init l G hG q2) zce_X3_init zi_X3_init rfl zm_X0_17 hl.1 (by decide) ⟨Nat.le_of_ble_eq_true rfl, Nat.le_of_ble_eq_true rfl⟩ (Nat.le_of_ble_eq_true rfl) ⟨(by show _ ≤ 55; omega), (by show _ ≤ 432; omega)⟩ dX0_init_33 (fun u H locs hu hP hD hS => ?_)
        rw [← hu.1]
        have hu := hu.2
        have e0 : (zI (n : Int)).toNatClampNeg = Ls.length := by have := zI_clamp (a := (n : Int)) (by omega) (by omega); omega
        refine va_astq (f := fun j => (Ls[j]?).map (fun u => u.1 0)) (n := 6) (v := u.1 0) (r := (RX3, TX3, 10)) (ci := 3) h.1 h.2.1 hK hP hD hS 1 1 (zHw G q b1 Ls).length rfl rfl (by rw [List.getElem?_append_right (Nat.le_refl _), Nat.sub_self]; rfl) rfl (zI_in (a := (n : Int)) (by omega) (by omega) (by omega)) dX0_init_36 (fun H locs hP hD hS => ?_)
        rw [e0, zHw_s] at hP hD
        refine lv_iinc (v := zI (n + 1)) (lv' := [(1, .int (zI ((n : Int) + 1))), (0, .ref q)]) hx hb dX0_init_37 hl (k := 1) rfl (zI_add _ _) (by decide) rfl (fun ls hl => ?_)
        refine lv_goto (tgt := 15) hx hb dX0_init_40 (by decide) ?_
        have k9 := ih (n + 1) (Ls ++ [u]) _ _ _ (by omega) (by omega) (by rw [List.length_append]; simp only [List.length_cons, List.length_nil]; omega) (fun x hx9 => (List.mem_append.mp hx9).elim (hM x) (fun h9 => by rw [List.mem_singleton.mp h9]; exact hu)) hP hD hS (lv_sub hl [1, 0] rfl)
        rw [show 1 + 9 * n + 1 + 8 = 1 + 9 * (n + 1) by omega, show 6 + 71 * n + 10 + 61 = 6 + 71 * (n + 1) by omega]
        exact k9
  refine lv_aload_n hx hb dX0_init_0 rfl (lv_at hl 0 rfl) ?_
  refine zObj h zm_X0_3 hl.1 (by decide +kernel) (Nat.le_of_ble_eq_true rfl) dX0_init_1 ?_
  refine lv_aload_n hx hb dX0_init_4 rfl (lv_at hl 0 rfl) ?_
  refine zb_bi (n := 6) h dX0_init_5 (by omega) (by omega) ?_
  refine va_newq (C := "ZonePrint$Print") (n := zI 6) (N' := 6) h.1 h.2.1 h.2.2.2.1 (h.2.2.2.2.1 _ zl_X0_9) hO hK hP hD hS hA (by rw [zI_0]; decide) (by decide) (by omega) (Nat.le_of_ble_eq_true rfl) (Nat.le_of_ble_eq_true rfl) dX0_init_7 (fun b1 cA H hK2 hP hD hS => ?_)
  obtain ⟨_, _, _, _, _, ea⟩ := (hK2.2 3 (cA, .object "ZonePrint$Print") rfl).2
  obtain ⟨_, _, _, _, _, eb⟩ := (hK.2 1 (zcO G, .object "ZonePrint$Print") rfl).2
  have ec : cA = zcO G := Option.some.inj (ea.symm.trans eb)
  subst ec
  have hP : va_P (zD G) vwCl ([(q, .inr (0, [.null, .int 0, .int 0])), (b1, .inl (zcO G, 6, .inr (.inr (.inr (.inr (fun _ => none))))))]) H := hP
  have hD : va_D A ([(q, .inr (0, [.null, .int 0, .int 0])), (b1, .inl (zcO G, 6, .inr (.inr (.inr (.inr (fun _ => none))))))]) := hD
  refine va_putF (D := zD G) (C := RX0) (T := TX0) (N := 3) (ci := 0) (v := .ref b1) (ty := tyX0 0) h.1 h.2.1 h.2.2.2.2.1 zin_X0 tyX0 tyX0_ok nmX0 h.2.2.2.1 hK hP hD hS 0 rfl rfl 0 (by omega) (h.2.2.2.2.1 _ zf_X0_11) (fun _ h9 => h9) rfl hi rfl (by decide +kernel) rfl rfl (Nat.le_of_ble_eq_true rfl) dX0_init_10 (fun H locs hP hD hS => ?_)
  have hP : va_P (zD G) vwCl ([(q, .inr (0, [.ref b1, .int 0, .int 0])), (b1, .inl (zcO G, 6, .inr (.inr (.inr (.inr (fun _ => none))))))]) H := hP
  have hD : va_D A ([(q, .inr (0, [.ref b1, .int 0, .int 0])), (b1, .inl (zcO G, 6, .inr (.inr (.inr (.inr (fun _ => none))))))]) := hD
  refine zb_ic (n := 0) h dX0_init_13 ?_
  have hP : va_P (zD G) vwCl (zHw G q b1 []) H := hP
  have hD : va_D A (zHw G q b1 []) := hD
  refine lv_istore_n (lv' := [(1, .int (zI 0)), (0, .ref q)]) hx hb dX0_init_14 rfl hl (by decide) rfl (fun ls hl => ?_)
  exact C15 b1 7 0 [] _ _ _ (by omega) (by omega) rfl (fun x hx9 => by cases hx9) hP hD hS (lv_sub hl [1, 0] rfl)
theorem dX4_init_0 : decode cX4_init 0 = .ok (.aload_n 0, 1) := by decide +kernel
theorem dX4_init_1 : decode cX4_init 1 = .ok (.invokespecial 1, 3) := by decide +kernel
theorem dX4_init_4 : decode cX4_init 4 = .ok (.aload_n 0, 1) := by decide +kernel
theorem dX4_init_5 : decode cX4_init 5 = .ok (.new 7, 3) := by decide +kernel
theorem dX4_init_8 : decode cX4_init 8 = .ok (.dup, 1) := by decide +kernel
theorem dX4_init_9 : decode cX4_init 9 = .ok (.invokespecial 9, 3) := by decide +kernel
theorem dX4_init_12 : decode cX4_init 12 = .ok (.putfield 10, 3) := by decide +kernel
theorem dX4_init_15 : decode cX4_init 15 = .ok (.aload_n 0, 1) := by decide +kernel
theorem dX4_init_16 : decode cX4_init 16 = .ok (.new 7, 3) := by decide +kernel
theorem dX4_init_19 : decode cX4_init 19 = .ok (.dup, 1) := by decide +kernel
theorem dX4_init_20 : decode cX4_init 20 = .ok (.invokespecial 9, 3) := by decide +kernel
theorem dX4_init_23 : decode cX4_init 23 = .ok (.putfield 16, 3) := by decide +kernel
theorem dX4_init_26 : decode cX4_init 26 = .ok (.aload_n 0, 1) := by decide +kernel
theorem dX4_init_27 : decode cX4_init 27 = .ok (.new 19, 3) := by decide +kernel
theorem dX4_init_30 : decode cX4_init 30 = .ok (.dup, 1) := by decide +kernel
theorem dX4_init_31 : decode cX4_init 31 = .ok (.invokespecial 21, 3) := by decide +kernel
theorem dX4_init_34 : decode cX4_init 34 = .ok (.putfield 22, 3) := by decide +kernel
theorem dX4_init_37 : decode cX4_init 37 = .ok (.aload_n 0, 1) := by decide +kernel
theorem dX4_init_38 : decode cX4_init 38 = .ok (.new 26, 3) := by decide +kernel
theorem dX4_init_41 : decode cX4_init 41 = .ok (.dup, 1) := by decide +kernel
theorem dX4_init_42 : decode cX4_init 42 = .ok (.invokespecial 28, 3) := by decide +kernel
theorem dX4_init_45 : decode cX4_init 45 = .ok (.putfield 29, 3) := by decide +kernel
theorem dX4_init_48 : decode cX4_init 48 = .ok (.aload_n 0, 1) := by decide +kernel
theorem dX4_init_49 : decode cX4_init 49 = .ok (.bipush 60, 2) := by decide +kernel
theorem dX4_init_51 : decode cX4_init 51 = .ok (.newarray .int, 2) := by decide +kernel
theorem dX4_init_53 : decode cX4_init 53 = .ok (.putfield 33, 3) := by decide +kernel
theorem dX4_init_56 : decode cX4_init 56 = .ok (.aload_n 0, 1) := by decide +kernel
theorem dX4_init_57 : decode cX4_init 57 = .ok (.iconst 0, 1) := by decide +kernel
theorem dX4_init_58 : decode cX4_init 58 = .ok (.putfield 37, 3) := by decide +kernel
theorem dX4_init_61 : decode cX4_init 61 = .ok (.return_, 1) := by decide +kernel
abbrev zCT : Type := zPT × zPT × (Nat × Nat) × List zPT × Nat × Nat
def zCw (G : zG) (q : Nat) (u : zCT) : va_W := ((((([(q, .inr (4, [.ref (u.1.1 0), .ref (u.2.1.1 0), .ref u.2.2.1.1, .ref u.2.2.2.2.1, .ref u.2.2.2.2.2, .int (zI 0)]))]) ++ zPb G u.1) ++ zPb G u.2.1) ++ zHw G u.2.2.1.1 u.2.2.1.2 u.2.2.2.1) ++ [(u.2.2.2.2.1, .inr (1, [.int (zI 0), .int (zI (-1)), .int (zI (-1)), .int (zI (-1))]))]) ++ [(u.2.2.2.2.2, .inl (zcI G, 60, .inl (fun _ => zI 0)))]
def r_X4_init : Room := { frames := 5, cells := 76, slots := 641, locals := 109 }
set_option maxHeartbeats 4000000 in
set_option maxRecDepth 20000 in
/-- the class's constructor -/
theorem c_X4_init (l : Launch) (G : zG) (hG : zok G) (q : Nat) : ∀ sz : Nat, Met l yX4_init (Cond.code yX4_init cX4_init 1 (none : Option FieldType) :: zTbl) r_X4_init (va_Pc [.ref q] (zBI G ([(q, .inr (4, [.null, .null, .null, .null, .null, .int 0]))]) sz)) (va_Qv (fun u => u.2.2.2.1.length = 6 ∧ (∀ x ∈ u.2.2.2.1, ∀ j : Int, 0 ≤ j → j < 10 → x.2 j = zMk 2 100 j) ∧ ∀ j : Int, 0 ≤ j → j < 10 → u.1.2 j = zMk 2 100 j) (fun (u : zCT) t => va_P (zD G) vwCl (zCw G q u) t.heap ∧ va_D (va_A ([(q, .inr (4, [.null, .null, .null, .null, .null, .int 0]))]) sz) (zCw G q u)) (va_A ([(q, .inr (4, [.null, .null, .null, .null, .null, .int 0]))]) sz)) 76 641 (va_A ([(q, .inr (4, [.null, .null, .null, .null, .null, .int 0]))]) sz) := by
  refine zMetN [(0, .ref q)] hG (by decide) (Nat.le_of_ble_eq_true rfl) rfl (fun p e s m args below meth c ls h hO hn2 hr hP hD hAz hl => ?_)
  have hx := h.1
  have hb := h.2.1
  have hK := h.2.2.2.2.2.2.1.1
  have hi : meth.name = "<init>" := hn2
  have hS : va_S (va_A ([(q, .inr (4, [.null, .null, .null, .null, .null, .int 0]))]) s.heap.size) s.heap s.heap [] := va_S.rf
  have hA : ∀ q9, s.heap.size ≤ q9 → va_A ([(q, .inr (4, [.null, .null, .null, .null, .null, .int 0]))]) s.heap.size q9 := fun _ z => Or.inr z
  generalize hAe : va_A ([(q, .inr (4, [.null, .null, .null, .null, .null, .int 0]))]) s.heap.size = A at hD hS hA hAz ⊢
  refine lv_aload_n hx hb dX4_init_0 rfl (lv_at hl 0 rfl) ?_
  refine zObj h zm_X4_1 hl.1 (by decide +kernel) (Nat.le_of_ble_eq_true rfl) dX4_init_1 ?_
  refine lv_aload_n hx hb dX4_init_4 rfl (lv_at hl 0 rfl) ?_
  refine va_new (D := zD G) (ci := 3) (fs := [.null, .null, .null, .null, .null, .null, .null, .int 0, .int 0, .int 0]) (C := RX3) (T := TX3) (N := 10) h.1 h.2.1 h.2.2.2.2.1 zin_X3 tyX3 tyX3_ok h.2.2.2.1 (h.2.2.2.2.1 _ zl_X4_7) (h.2.2.2.2.1 _ zo_X3) (h.2.2.2.2.1 _ zn_X3) hK hP hD hS hA rfl (zdf_X3) (Nat.le_of_ble_eq_true rfl) (Nat.le_of_ble_eq_true rfl) dX4_init_5 (fun b H hP hD hS => ?_)
  refine lv_dup hx hb dX4_init_8 rfl ?_
  refine zCtor (wc := [(b, .inr (3, [.null, .null, .null, .null, .null, .null, .null, .int 0, .int 0, .int 0]))]) h hO hP hD hS hA hAz (c_X3_init l G hG b) zce_X3_init zi_X3_init rfl zm_X4_9 hl.1 (by decide) ⟨Nat.le_of_ble_eq_true rfl, Nat.le_of_ble_eq_true rfl⟩ (Nat.le_of_ble_eq_true rfl) ⟨Nat.le_of_ble_eq_true rfl, Nat.le_of_ble_eq_true rfl⟩ dX4_init_9 (fun u1 H locs hu1 hP hD hS => ?_)
  rw [← hu1.1]
  have hu1 := hu1.2
  refine va_putF (D := zD G) (C := RX4) (T := TX4) (N := 6) (ci := 4) (v := .ref (u1.1 0)) (ty := tyX4 0) (fs := [.null, .null, .null, .null, .null, .int 0]) h.1 h.2.1 h.2.2.2.2.1 zin_X4 tyX4 tyX4_ok nmX4 h.2.2.2.1 hK hP hD hS 0 rfl rfl 0 (by omega) (h.2.2.2.2.1 _ zf_X4_10) (fun _ h9 => h9) rfl hi rfl (by decide +kernel) rfl rfl (Nat.le_of_ble_eq_true rfl) dX4_init_12 (fun H locs hP hD hS => ?_)
  have hP : va_P (zD G) vwCl (([(q, .inr (4, [.ref (u1.1 0), .null, .null, .null, .null, .int 0]))]) ++ zPb G u1) H := hP
  have hD : va_D A (([(q, .inr (4, [.ref (u1.1 0), .null, .null, .null, .null, .int 0]))]) ++ zPb G u1) := hD
  refine lv_aload_n hx hb dX4_init_15 rfl (lv_at hl 0 rfl) ?_
  refine va_new (D := zD G) (ci := 3) (fs := [.null, .null, .null, .null, .null, .null, .null, .int 0, .int 0, .int 0]) (C := RX3) (T := TX3) (N := 10) h.1 h.2.1 h.2.2.2.2.1 zin_X3 tyX3 tyX3_ok h.2.2.2.1 (h.2.2.2.2.1 _ zl_X4_7) (h.2.2.2.2.1 _ zo_X3) (h.2.2.2.2.1 _ zn_X3) hK hP hD hS hA rfl (zdf_X3) (Nat.le_of_ble_eq_true rfl) (Nat.le_of_ble_eq_true rfl) dX4_init_16 (fun b H hP hD hS => ?_)
  refine lv_dup hx hb dX4_init_19 rfl ?_
  refine zCtor (wc := [(b, .inr (3, [.null, .null, .null, .null, .null, .null, .null, .int 0, .int 0, .int 0]))]) h hO hP hD hS hA hAz (c_X3_init l G hG b) zce_X3_init zi_X3_init rfl zm_X4_9 hl.1 (by decide) ⟨Nat.le_of_ble_eq_true rfl, Nat.le_of_ble_eq_true rfl⟩ (Nat.le_of_ble_eq_true rfl) ⟨Nat.le_of_ble_eq_true rfl, Nat.le_of_ble_eq_true rfl⟩ dX4_init_20 (fun u2 H locs hu2 hP hD hS => ?_)
  rw [← hu2.1]
  have hu2 := hu2.2
  refine va_putF (D := zD G) (C := RX4) (T := TX4) (N := 6) (ci := 4) (v := .ref (u2.1 0)) (ty := tyX4 1) (fs := [.ref (u1.1 0), .null, .null, .null, .null, .int 0]) h.1 h.2.1 h.2.2.2.2.1 zin_X4 tyX4 tyX4_ok nmX4 h.2.2.2.1 hK hP hD hS 0 rfl rfl 1 (by omega) (h.2.2.2.2.1 _ zf_X4_16) (fun _ h9 => h9) rfl hi rfl (by decide +kernel) rfl rfl (Nat.le_of_ble_eq_true rfl) dX4_init_23 (fun H locs hP hD hS => ?_)
  have hP : va_P (zD G) vwCl ((([(q, .inr (4, [.ref (u1.1 0), .ref (u2.1 0), .null, .null, .null, .int 0]))]) ++ zPb G u1) ++ zPb G u2) H := hP
  have hD : va_D A ((([(q, .inr (4, [.ref (u1.1 0), .ref (u2.1 0), .null, .null, .null, .int 0]))]) ++ zPb G u1) ++ zPb G u2) := hD
  refine lv_aload_n hx hb dX4_init_26 rfl (lv_at hl 0 rfl) ?_
  refine va_new (D := zD G) (ci := 0) (fs := [.null, .int 0, .int 0]) (C := RX0) (T := TX0) (N := 3) h.1 h.2.1 h.2.2.2.2.1 zin_X0 tyX0 tyX0_ok h.2.2.2.1 (h.2.2.2.2.1 _ zl_X4_19) (h.2.2.2.2.1 _ zo_X0) (h.2.2.2.2.1 _ zn_X0) hK hP hD hS hA rfl (zdf_X0) (Nat.le_of_ble_eq_true rfl) (Nat.le_of_ble_eq_true rfl) dX4_init_27 (fun b3 H hP hD hS => ?_)
  refine lv_dup hx hb dX4_init_30 rfl ?_
  refine zCtor (wc := [(b3, .inr (0, [.null, .int 0, .int 0]))]) h hO hP hD hS hA hAz (c_X0_init l G hG b3) zce_X0_init zi_X0_init rfl zm_X4_21 hl.1 (by decide) ⟨Nat.le_of_ble_eq_true rfl, Nat.le_of_ble_eq_true rfl⟩ (Nat.le_of_ble_eq_true rfl) ⟨Nat.le_of_ble_eq_true rfl, Nat.le_of_ble_eq_true rfl⟩ dX4_init_31 (fun u3 H locs hu3 hP hD hS => ?_)
  refine va_putF (D := zD G) (C := RX4) (T := TX4) (N := 6) (ci := 4) (v := .ref b3) (ty := tyX4 2) (fs := [.ref (u1.1 0), .ref (u2.1 0), .null, .null, .null, .int 0]) h.1 h.2.1 h.2.2.2.2.1 zin_X4 tyX4 tyX4_ok nmX4 h.2.2.2.1 hK hP hD hS 0 rfl rfl 2 (by omega) (h.2.2.2.2.1 _ zf_X4_22) (fun _ h9 => h9) rfl hi rfl (by decide +kernel) rfl rfl (Nat.le_of_ble_eq_true rfl) dX4_init_34 (fun H locs hP hD hS => ?_)
  have hP : va_P (zD G) vwCl (((([(q, .inr (4, [.ref (u1.1 0), .ref (u2.1 0), .ref b3, .null, .null, .int 0]))]) ++ zPb G u1) ++ zPb G u2) ++ zHw G b3 u3.1 u3.2) H := hP
  have hD : va_D A (((([(q, .inr (4, [.ref (u1.1 0), .ref (u2.1 0), .ref b3, .null, .null, .int 0]))]) ++ zPb G u1) ++ zPb G u2) ++ zHw G b3 u3.1 u3.2) := hD
  refine lv_aload_n hx hb dX4_init_37 rfl (lv_at hl 0 rfl) ?_
  refine va_new (D := zD G) (ci := 1) (fs := [.int 0, .int 0, .int 0, .int 0]) (C := RX1) (T := TX1) (N := 4) h.1 h.2.1 h.2.2.2.2.1 zin_X1 tyX1 tyX1_ok h.2.2.2.1 (h.2.2.2.2.1 _ zl_X4_26) (h.2.2.2.2.1 _ zo_X1) (h.2.2.2.2.1 _ zn_X1) hK hP hD hS hA rfl (zdf_X1) (Nat.le_of_ble_eq_true rfl) (Nat.le_of_ble_eq_true rfl) dX4_init_38 (fun b4 H hP hD hS => ?_)
  refine lv_dup hx hb dX4_init_41 rfl ?_
  refine zCtor (wc := [(b4, .inr (1, [.int 0, .int 0, .int 0, .int 0]))]) h hO hP hD hS hA hAz (c_X1_init l G hG b4) zce_X1_init zi_X1_init rfl zm_X4_28 hl.1 (by decide) ⟨Nat.le_of_ble_eq_true rfl, Nat.le_of_ble_eq_true rfl⟩ (Nat.le_of_ble_eq_true rfl) ⟨Nat.le_of_ble_eq_true rfl, Nat.le_of_ble_eq_true rfl⟩ dX4_init_42 (fun u4 H locs hu4 hP hD hS => ?_)
  refine va_putF (D := zD G) (C := RX4) (T := TX4) (N := 6) (ci := 4) (v := .ref b4) (ty := tyX4 3) (fs := [.ref (u1.1 0), .ref (u2.1 0), .ref b3, .null, .null, .int 0]) h.1 h.2.1 h.2.2.2.2.1 zin_X4 tyX4 tyX4_ok nmX4 h.2.2.2.1 hK hP hD hS 0 rfl rfl 3 (by omega) (h.2.2.2.2.1 _ zf_X4_29) (fun _ h9 => h9) rfl hi rfl (by decide +kernel) rfl rfl (Nat.le_of_ble_eq_true rfl) dX4_init_45 (fun H locs hP hD hS => ?_)
  have hP : va_P (zD G) vwCl ((((([(q, .inr (4, [.ref (u1.1 0), .ref (u2.1 0), .ref b3, .ref b4, .null, .int 0]))]) ++ zPb G u1) ++ zPb G u2) ++ zHw G b3 u3.1 u3.2) ++ [(b4, .inr (1, [.int (zI 0), .int (zI (-1)), .int (zI (-1)), .int (zI (-1))]))]) H := hP
  have hD : va_D A ((((([(q, .inr (4, [.ref (u1.1 0), .ref (u2.1 0), .ref b3, .ref b4, .null, .int 0]))]) ++ zPb G u1) ++ zPb G u2) ++ zHw G b3 u3.1 u3.2) ++ [(b4, .inr (1, [.int (zI 0), .int (zI (-1)), .int (zI (-1)), .int (zI (-1))]))]) := hD
  refine lv_aload_n hx hb dX4_init_48 rfl (lv_at hl 0 rfl) ?_
  refine zb_bi (n := 60) h dX4_init_49 (by omega) (by omega) ?_
  refine zNewI (n := 60) (N := 60) h hP hD hS hA rfl (by omega) ⟨Nat.le_of_ble_eq_true rfl, Nat.le_of_ble_eq_true rfl⟩ dX4_init_51 (fun b5 H hP hD hS => ?_)
  refine va_putF (D := zD G) (C := RX4) (T := TX4) (N := 6) (ci := 4) (v := .ref b5) (ty := tyX4 4) (fs := [.ref (u1.1 0), .ref (u2.1 0), .ref b3, .ref b4, .null, .int 0]) h.1 h.2.1 h.2.2.2.2.1 zin_X4 tyX4 tyX4_ok nmX4 h.2.2.2.1 hK hP hD hS 0 rfl rfl 4 (by omega) (h.2.2.2.2.1 _ zf_X4_33) (fun _ h9 => h9) rfl hi rfl (by decide +kernel) rfl rfl (Nat.le_of_ble_eq_true rfl) dX4_init_53 (fun H locs hP hD hS => ?_)
  have hP : va_P (zD G) vwCl (((((([(q, .inr (4, [.ref (u1.1 0), .ref (u2.1 0), .ref b3, .ref b4, .ref b5, .int 0]))]) ++ zPb G u1) ++ zPb G u2) ++ zHw G b3 u3.1 u3.2) ++ [(b4, .inr (1, [.int (zI 0), .int (zI (-1)), .int (zI (-1)), .int (zI (-1))]))]) ++ [(b5, .inl (zcI G, 60, .inl (fun _ => zI 0)))]) H := hP
  have hD : va_D A (((((([(q, .inr (4, [.ref (u1.1 0), .ref (u2.1 0), .ref b3, .ref b4, .ref b5, .int 0]))]) ++ zPb G u1) ++ zPb G u2) ++ zHw G b3 u3.1 u3.2) ++ [(b4, .inr (1, [.int (zI 0), .int (zI (-1)), .int (zI (-1)), .int (zI (-1))]))]) ++ [(b5, .inl (zcI G, 60, .inl (fun _ => zI 0)))]) := hD
  refine lv_aload_n hx hb dX4_init_56 rfl (lv_at hl 0 rfl) ?_
  refine zb_ic (n := 0) h dX4_init_57 ?_
  refine va_put (D := zD G) (C := RX4) (T := TX4) (N := 6) (ci := 4) (v := .int (zI 0)) (ty := tyX4 5) (fs := [.ref (u1.1 0), .ref (u2.1 0), .ref b3, .ref b4, .ref b5, .int 0]) h.1 h.2.1 h.2.2.2.2.1 zin_X4 tyX4 tyX4_ok nmX4 h.2.2.2.1 hK hP hD hS 0 rfl rfl 5 (by omega) (h.2.2.2.2.1 _ zf_X4_37) (fun _ h9 => h9) rfl (by decide +kernel) rfl rfl (Nat.le_of_ble_eq_true rfl) dX4_init_58 (fun H locs hP hD hS => ?_)
  have hP : va_P (zD G) vwCl (((((([(q, .inr (4, [.ref (u1.1 0), .ref (u2.1 0), .ref b3, .ref b4, .ref b5, .int (zI 0)]))]) ++ zPb G u1) ++ zPb G u2) ++ zHw G b3 u3.1 u3.2) ++ [(b4, .inr (1, [.int (zI 0), .int (zI (-1)), .int (zI (-1)), .int (zI (-1))]))]) ++ [(b5, .inl (zcI G, 60, .inl (fun _ => zI 0)))]) H := hP
  have hD : va_D A (((((([(q, .inr (4, [.ref (u1.1 0), .ref (u2.1 0), .ref b3, .ref b4, .ref b5, .int (zI 0)]))]) ++ zPb G u1) ++ zPb G u2) ++ zHw G b3 u3.1 u3.2) ++ [(b4, .inr (1, [.int (zI 0), .int (zI (-1)), .int (zI (-1)), .int (zI (-1))]))]) ++ [(b5, .inl (zcI G, 60, .inl (fun _ => zI 0)))]) := hD
  exact zrvN (α := zCT) (Wf := fun u => zCw G q u) h hr (u1, u2, (b3, u3.1), u3.2, b4, b5) ⟨hu3.1, hu3.2, hu1⟩ hP hD hS dX4_init_61
