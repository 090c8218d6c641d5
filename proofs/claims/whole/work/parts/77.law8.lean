/-! the world of the start; whole_start -/
def z9 (G : zG) (S : zM) (k : Nat) : va_W := [(za G k 0, zpr G k 0 (S k)), (za G k 1, zpr G k 1 (S k)), (za G k 2, zpr G k 2 (S k)), (za G k 3, zpr G k 3 (S k)), (za G k 4, zpr G k 4 (S k)), (za G k 5, zpr G k 5 (S k)), (za G k 6, zpr G k 6 (S k)), (za G k 7, zpr G k 7 (S k)), (za G k 8, zpr G k 8 (S k))]
def z8 (G : zG) (S : zM) : va_W := [(za G 8 0, zcl G 0 (S 8)), (za G 8 1, zcl G 1 (S 8)), (za G 8 2, zcl G 2 (S 8)), (za G 8 3, zcl G 3 (S 8)), (za G 8 4, zcl G 4 (S 8)), (za G 8 5, zcl G 5 (S 8))]
def z7 (G : zG) (S : zM) : va_W := [(za G 9 0, zmo G 0 (S 9)), (za G 9 1, zmo G 1 (S 9)), (za G 9 2, zmo G 2 (S 9)), (za G 9 3, zmo G 3 (S 9)), (za G 9 4, zmo G 4 (S 9)), (za G 9 5, zmo G 5 (S 9)), (za G 9 6, zmo G 6 (S 9))]
set_option maxRecDepth 100000 in
theorem zw_eq (G : zG) (S : zM) : zw G S = z9 G S 0 ++ (z9 G S 1 ++ (z9 G S 2 ++ (z9 G S 3 ++ (z9 G S 4 ++ (z9 G S 5 ++ (z9 G S 6 ++ (z9 G S 7 ++ (z8 G S ++ z7 G S)))))))) := rfl
theorem zS0_n {x : Int} (h : x < 0 ∨ 4 ≤ x) : zS0 x = 0 := by unfold zS0; rw [zup_n (by omega), zup_n (by omega), zup_n (by omega), zup_n (by omega)]
theorem zS0_0 : zS0 0 = 100 := by decide
theorem zS0_1 : zS0 1 = 2 := by decide
theorem zS0_2 : zS0 2 = 100 := by decide
theorem zS0_3 : zS0 3 = 10 := by decide
theorem zS0_4 : zS0 4 = 0 := by decide
theorem zS0_r {d : Int} (hd : 0 ≤ d) : (fun i : Nat => zI (zS0 (5 + 5 * i + d))) = fun _ => zI 0 := funext fun i => congrArg zI (zS0_n (by omega))
theorem zS0_r0 : (fun i : Nat => zI (zS0 (5 + 5 * i))) = fun _ => zI 0 := funext fun i => congrArg zI (zS0_n (by omega))
theorem zOk_S0 : zOk zS0 := by
  refine ⟨⟨?_, ?_, ?_, ?_, ?_, ?_⟩, ?_, ?_⟩
  · rw [zS0_0]; omega
  · rw [zS0_1]; omega
  · rw [zS0_2]; omega
  · rw [zS0_3]; omega
  · rw [zS0_4]; omega
  · intro z hz
    rw [zS0_n (x := 5 + 5 * z) (by omega), zS0_n (x := 5 + 5 * z + 1) (by omega), zS0_n (x := 5 + 5 * z + 2) (by omega), zS0_n (x := 5 + 5 * z + 3) (by omega), zS0_n (x := 5 + 5 * z + 4) (by omega)]
    omega
  · intro z h0 h1
    rw [zS0_n (by omega)]
    rw [Int.zero_ediv]; rfl
  · intro a b h0 h1 h2 h3
    unfold tb
    rw [zS0_n (by omega), zS0_n (by omega), Int.zero_ediv, Int.zero_ediv]
    exact ⟨rfl, fun h => absurd h (by decide)⟩
theorem z9_eq {G' G : zG} {S : zM} {k : Nat} {u : zPT} (hc : zcI G' = zcI G) (ha : ∀ j, za G' k j = u.1 j) (h0 : S k 0 = zS0) (h2 : S k 2 = u.2) (h8 : S k 8 = fun _ => 0) : z9 G' S k = zPb G u := by
  unfold z9 zPb
  simp only [zpr, ha, h0, h2, h8, hc, zS0_0, zS0_1, zS0_2, zS0_3, zS0_4, zS0_r0, zS0_r (d := 1) (by omega), zS0_r (d := 2) (by omega), zS0_r (d := 3) (by omega), zS0_r (d := 4) (by omega)]
theorem va_P.lr {D : va_G} {cl : List vw_C} {w1 w2 : va_W} {H : Heap} (h : va_P D cl (w1 ++ w2) H) : va_P D cl w1 H ∧ va_P D cl w2 H :=
  ⟨fun k q hq => h k q (by rw [List.getElem?_append_left (List.getElem?_eq_some_iff.mp hq).1]; exact hq), fun k q hq => h (w1.length + k) q (by rw [List.getElem?_append_right (by omega), show w1.length + k - w1.length = k by omega]; exact hq)⟩
theorem vD_nd {A : Nat → Prop} {ws : va_W} (h : va_D A ws) : (ws.map Prod.fst).Nodup ∧ ∀ q ∈ ws, A q.1 := by
  refine ⟨?_, fun q hq => ?_⟩
  · rw [List.Nodup, List.pairwise_iff_getElem]
    intro i j hi hj hij he
    rw [List.getElem_map, List.getElem_map] at he
    have hi' : i < ws.length := by rw [List.length_map] at hi; exact hi
    have hj' : j < ws.length := by rw [List.length_map] at hj; exact hj
    have := h.1 i j ws[i] ws[j] (List.getElem?_eq_getElem hi') (List.getElem?_eq_getElem hj') he
    omega
  · obtain ⟨k, hk⟩ := List.mem_iff_getElem?.mp hq
    exact h.2 k q hk
theorem vD_of {A : Nat → Prop} {ws : va_W} (h1 : (ws.map Prod.fst).Nodup) (h2 : ∀ q ∈ ws, A q.1) : va_D A ws := by
  refine ⟨fun i j p q hp hq he => ?_, fun k q hq => h2 q (List.mem_of_getElem? hq)⟩
  have hi : i < (ws.map Prod.fst).length := by rw [List.length_map]; exact (List.getElem?_eq_some_iff.mp hp).1
  refine (List.getElem?_inj hi h1).mp ?_
  rw [List.getElem?_map, List.getElem?_map, hp, hq]
  exact congrArg some he
theorem vD_permf {A : Nat → Prop} {ws wt : va_W} (hp : (ws.map Prod.fst).Perm (wt.map Prod.fst)) (h : va_D A ws) : va_D A wt := by
  obtain ⟨h1, h2⟩ := vD_nd h
  refine vD_of (hp.nodup_iff.mp h1) (fun q hq => ?_)
  obtain ⟨r, hr, e⟩ := List.mem_map.mp (hp.mem_iff.mpr (List.mem_map_of_mem (f := Prod.fst) hq))
  rw [← e]
  exact h2 r hr
theorem vp_ext {cA : ClassId} {n : Nat} {f g : Nat → Option Nat} (h : ∀ j, j < n → f j = g j) : vp_cell cA (n, .inr (.inr (.inr (.inr f)))) = vp_cell cA (n, .inr (.inr (.inr (.inr g)))) := by
  rw [vp_cell_q, vp_cell_q]
  unfold arrV
  congr 1
  congr 1
  funext j
  exact congrArg va_rf (h j.1 j.2)
theorem zok_of {G : zG} {S : zM} (h : va_D (zA G) (zw G S)) : zok G := by
  refine ⟨fun k j k' j' h1 h2 he => ?_, fun k j h1 => h.2 _ _ (zw_at (S := S) h1)⟩
  have := h.1 _ _ _ _ (zw_at (S := S) h1) (zw_at (S := S) h2) he
  unfold zp at this
  have a1 := h1
  have a2 := h2
  unfold zin at a1 a2
  split at this <;> split at this <;> (try split at this) <;> (try split at this) <;> omega
def zaF (q4 q5 rj : Nat) (u : zCT) (x : Nat → zPT) (v : Nat → Nat) : Nat → Nat → Nat := fun k j =>
  if k = 8 then (match j with | 0 => q4 | 1 => u.2.2.1.1 | 2 => u.2.2.1.2 | 3 => u.2.2.2.2.1 | 4 => u.2.2.2.2.2 | _ => rj)
  else if k = 9 then (match j with | 0 => q5 | _ => v j)
  else if k = 0 then u.1.1 j else if k = 1 then u.2.1.1 j else (x (k - 2)).1 j
def zSF (u : zCT) (x : Nat → zPT) : zM := fun k j =>
  if k = 8 then (match j with | 3 => (fun i => if i = 0 then 0 else -1) | _ => fun _ => 0)
  else if k = 9 then (match j with | 1 => zS0 | _ => fun _ => 0)
  else (match j with | 0 => zS0 | 2 => (if k = 0 then u.1.2 else if k = 1 then u.2.1.2 else (x (k - 2)).2) | _ => fun _ => 0)
/-- the world that the start has made is the law's -/
theorem zw_start {G : zG} {A : Nat → Prop} {H : Heap} {q4 q5 rj : Nat} {u : zCT} {v : Nat → Nat} (hL : u.2.2.2.1.length = 6)
    (hP : va_P (zD G) vwCl (((zCw G q4 u) ++ zMw G q5 v) ++ [(rj, .inl (zcJ G, 1, .inr (.inl (fun _ => zL 0))))]) H) (hD : va_D A (((zCw G q4 u) ++ zMw G q5 v) ++ [(rj, .inl (zcJ G, 1, .inr (.inl (fun _ => zL 0))))])) :
    ∃ x : Nat → zPT, (∀ k, x k ∈ u.2.2.2.1) ∧ va_P (zD G) vwCl (zw (G.1, G.2.1, zaF q4 q5 rj u x v, G.2.2.2) (zSF u x)) H ∧ va_D A (zw (G.1, G.2.1, zaF q4 q5 rj u x v, G.2.2.2) (zSF u x)) := by
  obtain ⟨u1, u2, ⟨b3, b6⟩, Ls, b4, b5⟩ := u
  match Ls, hL with
  | [x0, x1, x2, x3, x4, x5], _ =>
    refine ⟨fun k => match k with | 0 => x0 | 1 => x1 | 2 => x2 | 3 => x3 | 4 => x4 | _ => x5, fun k => ?_, ?_⟩
    · show _ ∈ [x0, x1, x2, x3, x4, x5]
      match k with
      | 0 => simp
      | 1 => simp
      | 2 => simp
      | 3 => simp
      | 4 => simp
      | k + 5 => simp
    · generalize hx : (fun k : Nat => match k with | 0 => x0 | 1 => x1 | 2 => x2 | 3 => x3 | 4 => x4 | _ => x5) = x
      generalize hG' : ((G.1, G.2.1, zaF q4 q5 rj (u1, u2, (b3, b6), [x0, x1, x2, x3, x4, x5], b4, b5) x v, G.2.2.2) : zG) = G'
      generalize hS' : zSF (u1, u2, (b3, b6), [x0, x1, x2, x3, x4, x5], b4, b5) x = S'
      have e0 : z9 G' S' 0 = zPb G u1 := z9_eq (by subst hG'; rfl) (fun j => by subst hG'; rfl) (by subst hS'; rfl) (by subst hS'; rfl) (by subst hS'; rfl)
      have e1 : z9 G' S' 1 = zPb G u2 := z9_eq (by subst hG'; rfl) (fun j => by subst hG'; rfl) (by subst hS'; rfl) (by subst hS'; rfl) (by subst hS'; rfl)
      have e2 : z9 G' S' 2 = zPb G x0 := z9_eq (by subst hG'; rfl) (fun j => by subst hG'; subst hx; rfl) (by subst hS'; rfl) (by subst hS'; subst hx; rfl) (by subst hS'; rfl)
      have e3 : z9 G' S' 3 = zPb G x1 := z9_eq (by subst hG'; rfl) (fun j => by subst hG'; subst hx; rfl) (by subst hS'; rfl) (by subst hS'; subst hx; rfl) (by subst hS'; rfl)
      have e4 : z9 G' S' 4 = zPb G x2 := z9_eq (by subst hG'; rfl) (fun j => by subst hG'; subst hx; rfl) (by subst hS'; rfl) (by subst hS'; subst hx; rfl) (by subst hS'; rfl)
      have e5 : z9 G' S' 5 = zPb G x3 := z9_eq (by subst hG'; rfl) (fun j => by subst hG'; subst hx; rfl) (by subst hS'; rfl) (by subst hS'; subst hx; rfl) (by subst hS'; rfl)
      have e6 : z9 G' S' 6 = zPb G x4 := z9_eq (by subst hG'; rfl) (fun j => by subst hG'; subst hx; rfl) (by subst hS'; rfl) (by subst hS'; subst hx; rfl) (by subst hS'; rfl)
      have e7 : z9 G' S' 7 = zPb G x5 := z9_eq (by subst hG'; rfl) (fun j => by subst hG'; subst hx; rfl) (by subst hS'; rfl) (by subst hS'; subst hx; rfl) (by subst hS'; rfl)
      have e9 : z7 G' S' = zMw G q5 v := by
        subst hG' hS'
        rfl
      have w := zw_eq G' S'
      rw [e0, e1, e2, e3, e4, e5, e6, e7, e9] at w
      have hfl : [x0, x1, x2, x3, x4, x5].flatMap (zPb G) = zPb G x0 ++ (zPb G x1 ++ (zPb G x2 ++ (zPb G x3 ++ (zPb G x4 ++ zPb G x5)))) := by simp only [List.flatMap_cons, List.flatMap_nil, List.append_nil]
      have hsp : ∀ (P : va_E → Prop), True := fun _ => trivial
      unfold zCw zHw at hP hD
      rw [hfl] at hP hD
      obtain ⟨hP, p11⟩ := hP.lr
      obtain ⟨hP, p10⟩ := hP.lr
      obtain ⟨hP, p9⟩ := hP.lr
      obtain ⟨hP, p8⟩ := hP.lr
      obtain ⟨hP, p7⟩ := hP.lr
      obtain ⟨p71, p72⟩ := p7.lr
      obtain ⟨y0, p72⟩ := p72.lr
      obtain ⟨y1, p72⟩ := p72.lr
      obtain ⟨y2, p72⟩ := p72.lr
      obtain ⟨y3, p72⟩ := p72.lr
      obtain ⟨y4, y5⟩ := p72.lr
      obtain ⟨hP, p2⟩ := hP.lr
      obtain ⟨p0, p1⟩ := hP.lr
      have e8 : ∃ E : va_E, z8 G' S' = [(q4, .inr (4, [.ref (u1.1 0), .ref (u2.1 0), .ref b3, .ref b4, .ref b5, .int (zI 0)])), (b3, .inr (0, [.ref b6, .int 0, .int 0])), (b6, E), (b4, .inr (1, [.int (zI 0), .int (zI (-1)), .int (zI (-1)), .int (zI (-1))])), (b5, .inl (zcI G, 60, .inl (fun _ => zI 0))), (rj, .inl (zcJ G, 1, .inr (.inl (fun _ => zL 0))))] ∧ (∀ H' : Heap, va_P (zD G) vwCl [(b3, .inr (0, [.ref b6, .int 0, .int 0])), (b6, .inl (zcO G, 6, .inr (.inr (.inr (.inr (fun j => ([x0, x1, x2, x3, x4, x5][j]?).map (fun u => u.1 0)))))))] H' → va_P (zD G) vwCl [(b3, .inr (0, [.ref b6, .int 0, .int 0])), (b6, E)] H') := by
        refine ⟨.inl (zcO G, 6, .inr (.inr (.inr (.inr (fun i => some (za G' (i + 2) 0)))))), by subst hG' hS'; rfl, fun H' h k q hq => ?_⟩
        match k, hq with
        | 0, hq => exact h 0 q hq
        | 1, hq =>
          cases hq
          have h1 := h 1 _ rfl
          refine Eq.trans h1 (congrArg some (vp_ext (fun j hj => ?_)))
          subst hG' hx
          rcases (show j = 0 ∨ j = 1 ∨ j = 2 ∨ j = 3 ∨ j = 4 ∨ j = 5 by omega) with rfl | rfl | rfl | rfl | rfl | rfl <;> rfl
        | k + 2, hq => simp at hq
      obtain ⟨E, e8, hE⟩ := e8
      rw [e8] at w
      have p71 := hE H p71
      rw [w]
      refine ⟨p1.app (p2.app (y0.app (y1.app (y2.app (y3.app (y4.app (y5.app ((p0.app (p71.app (p8.app (p9.app p11)))).app p10)))))))), ?_⟩
      refine vD_permf (List.perm_iff_count.mpr (fun a => ?_)) hD
      simp only [List.map_append, List.count_append, List.map_cons, List.map_nil, List.count_cons, List.count_nil]
      omega
theorem zNest_on : ∀ w ∈ zNest, w.onTables = true := by decide +kernel
theorem zInv_start {G : zG} {u : zCT} {x : Nat → zPT} (hM : ∀ j : Int, 0 ≤ j → j < 10 → u.1.2 j = zMk 2 100 j) : zInv (zSF u x) 0 := by
  refine ⟨zOk_S0, fun j h0 h1 => ?_, rfl, ⟨rfl, rfl, ?_, fun i _ _ => ?_⟩, ?_, ⟨rfl, ?_, ?_, ?_⟩, fun i h0 h1 => ?_⟩
  · show u.1.2 j = zMk (zS0 1) (zS0 2) j
    rw [zS0_1, zS0_2]; exact hM j h0 h1
  · show (0 : Int) ≤ 0 ∧ (0 : Int) ≤ 60; omega
  · show (0 : Int) ≤ 0 ∧ (0 : Int) ≤ 126; omega
  · show zRd (fun i => if i = 0 then 0 else -1)
    unfold zRd
    simp
  · show (0 : Int) ≤ 0 ∧ (0 : Int) ≤ 6; omega
  · show (0 : Int) ≤ 0; omega
  · show (0 : Int) ≤ 0; omega
  · have h2 : i < 0 := h1
    omega

