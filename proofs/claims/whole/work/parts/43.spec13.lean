/-! neighbours: symmetric, none its own, among the zones alone; pairs counted in two ways -/
def tb (σ : Int → Int) (a b : Int) : Int := σ (5 + 5 * a + 4) / 2 ^ b.toNat % 2
def zLk (σ : Int → Int) : Prop := ∀ a b : Int, 0 ≤ a → a < 8 → 0 ≤ b → b < 8 → tb σ a b = tb σ b a ∧ (tb σ a b = 1 → a < σ 4 ∧ b < σ 4)
theorem zsum_cut {f : Int → Int} (n : Nat) : ∀ d : Nat, (∀ j : Int, n ≤ j → j < (n + d : Nat) → f j = 0) → zsum f (n + d) = zsum f n := by
  intro d
  induction d with
  | zero => intro _; rfl
  | succ d ih =>
    intro h
    show zsum f (n + d) + f ((n + d : Nat) : Int) = _
    rw [ih (fun j h1 h2 => h j h1 (by omega)), h _ (by omega) (by omega)]
    omega
theorem zsum_add (f g : Int → Int) : ∀ n : Nat, zsum (fun z => f z + g z) n = zsum f n + zsum g n := by
  intro n
  induction n with
  | zero => rfl
  | succ n ih => simp only [zsum]; rw [ih]; omega
theorem zpair {b : Int → Int → Int} {N : Nat} (hs : ∀ i j : Int, 0 ≤ i → i < N → 0 ≤ j → j < N → b i j = b j i) (hd : ∀ i : Int, 0 ≤ i → i < N → b i i = 0) : ∀ n : Nat, n ≤ N → zsum (fun z => zsum (b z) n) n = 2 * zsum (fun z => zsum (b z) z.toNat) n := by
  intro n
  induction n with
  | zero => intro _; rfl
  | succ n ih =>
    intro hn
    have e1 := zsum_add (fun z => zsum (b z) n) (fun z => b z n) n
    have e2 : zsum (fun z => b z n) n = zsum (b n) n := zsum_congr n (fun j h1 h2 => hs j n h1 (by omega) (by omega) (by omega))
    have e3 := hd n (by omega) (by omega)
    have e4 := ih (by omega)
    show zsum (fun z => zsum (b z) n + b z n) n + (zsum (b n) n + b n n) = 2 * (zsum (fun z => zsum (b z) z.toNat) n + zsum (b n) (n : Int).toNat)
    rw [e1, e2, e3, e4, Int.toNat_natCast]
    omega
def zbc (m : Int) : Int := zsum (fun k => m / 2 ^ k.toNat % 2) 8
def tPa (σ : Int → Int) : Int := zsum (fun z => zbc (σ (5 + 5 * z + 4))) (σ 4).toNat / 2
theorem zbit_if (x : Int) : (if x % 2 = 1 then (1 : Int) else 0) = x % 2 := by split <;> omega
theorem tPa_eq {σ : Int → Int} (hw : zW σ) (hn : zNl σ) (hl : zLk σ) : tPa σ = zsum (tSu σ 10) (σ 4).toNat := by
  have h4 := zW_4 hw
  have e1 : zsum (fun z => zbc (σ (5 + 5 * z + 4))) (σ 4).toNat = zsum (fun z => zsum (tb σ z) (σ 4).toNat) (σ 4).toNat := zsum_congr _ (fun z h1 h2 => by
    have e : 8 = (σ 4).toNat + (8 - (σ 4).toNat) := by omega
    show zsum (tb σ z) 8 = _
    rw [e]
    exact zsum_cut _ _ (fun j h3 h5 => by
      have h6 := (hl z j h1 (by omega) (by omega) (by omega)).2
      have h7 : tb σ z j = σ (5 + 5 * z + 4) / 2 ^ j.toNat % 2 := rfl
      refine Classical.byContradiction fun q => ?_
      have := h6 (by omega)
      omega))
  have e2 := zpair (b := tb σ) (N := 8) (fun i j h1 h2 h3 h5 => (hl i j h1 (by omega) h3 (by omega)).1) (fun i h1 h2 => hn i h1 (by omega)) (σ 4).toNat (by omega)
  have e3 : zsum (tSu σ 10) (σ 4).toNat = zsum (fun z => zsum (tb σ z) z.toNat) (σ 4).toNat := zsum_congr _ (fun z h1 h2 => by
    unfold tSu
    rw [if_neg (by omega), if_neg (by omega), if_neg (by omega), if_neg (by omega), if_neg (by omega)]
    exact zsum_congr _ (fun j _ _ => zbit_if _))
  unfold tPa
  rw [e1, e2, e3]
  omega
theorem tSu_v5 (σ : Int → Int) (z : Int) : tSu σ 5 z = if tOff σ z < 0 then 1 else 0 := by unfold tSu; rw [if_pos rfl]
theorem tSu_v6 (σ : Int → Int) (z : Int) : tSu σ 6 z = if 0 < tOff σ z then 1 else 0 := by unfold tSu; rw [if_neg (by omega), if_pos rfl]
theorem tSu_v9 (σ : Int → Int) (z : Int) : tSu σ 9 z = if tLn σ z = -1 then 1 else 0 := by unfold tSu; rw [if_neg (by omega), if_neg (by omega), if_neg (by omega), if_neg (by omega), if_pos rfl]
theorem zsg_m (x : Int) : (if zsg x = -1 then (1 : Int) else 0) = if x < 0 then 1 else 0 := by unfold zsg; (repeat split) <;> omega
theorem zsg_p (x : Int) : (if zsg x = 1 then (1 : Int) else 0) = if 0 < x then 1 else 0 := by unfold zsg; (repeat split) <;> omega
theorem tSu_5 (σ : Int → Int) : tCnt σ (-1) = zsum (tSu σ 5) (σ 4).toNat := zsum_congr _ (fun z _ _ => (zsg_m _).trans (tSu_v5 σ z).symm)
theorem tSu_6 (σ : Int → Int) : tCnt σ 1 = zsum (tSu σ 6) (σ 4).toNat := zsum_congr _ (fun z _ _ => (zsg_p _).trans (tSu_v6 σ z).symm)
theorem tSu_9 (σ : Int → Int) : tNo σ = zsum (tSu σ 9) (σ 4).toNat := zsum_congr _ (fun z _ _ => (tSu_v9 σ z).symm)
/-- masks: a bit turned -/
theorem zmask0 : ∀ n, n < 256 → ∀ b, b < 8 → (0 ≤ zxor (n : Nat) (1 * 2 ^ b) ∧ zxor (n : Nat) (1 * 2 ^ b) ≤ 255) ∧ (((n : Nat) : Int) / 2 ^ b % 2 = 1 → zand (n : Nat) (zxor (1 * 2 ^ b) (-1)) = zxor (n : Nat) (1 * 2 ^ b) ∧ zor (n : Nat) (1 * 2 ^ b) = (n : Nat)) ∧ (((n : Nat) : Int) / 2 ^ b % 2 = 0 → zor (n : Nat) (1 * 2 ^ b) = zxor (n : Nat) (1 * 2 ^ b)) ∧ ∀ k, k < 8 → zxor (n : Nat) (1 * 2 ^ b) / 2 ^ k % 2 = if k = b then 1 - ((n : Nat) : Int) / 2 ^ b % 2 else ((n : Nat) : Int) / 2 ^ k % 2 := by decide +kernel
theorem zmask {m b : Int} (hm : 0 ≤ m ∧ m ≤ 255) (hb : 0 ≤ b ∧ b < 8) : (0 ≤ zxor m (1 * 2 ^ b.toNat) ∧ zxor m (1 * 2 ^ b.toNat) ≤ 255) ∧ (m / 2 ^ b.toNat % 2 = 1 → zclr m b = zxor m (1 * 2 ^ b.toNat) ∧ zset m b = m) ∧ (m / 2 ^ b.toNat % 2 = 0 → zset m b = zxor m (1 * 2 ^ b.toNat)) ∧ ∀ k : Int, 0 ≤ k → k < 8 → zxor m (1 * 2 ^ b.toNat) / 2 ^ k.toNat % 2 = if k = b then 1 - m / 2 ^ b.toNat % 2 else m / 2 ^ k.toNat % 2 := by
  obtain ⟨n, rfl⟩ := Int.eq_ofNat_of_zero_le hm.1
  obtain ⟨b, rfl⟩ := Int.eq_ofNat_of_zero_le hb.1
  have h := zmask0 n (by omega) b (by omega)
  rw [Int.toNat_natCast]
  refine ⟨h.1, h.2.1, h.2.2.1, fun k h1 h2 => ?_⟩
  obtain ⟨k, rfl⟩ := Int.eq_ofNat_of_zero_le h1
  have h3 := h.2.2.2 k (by omega)
  rw [Int.toNat_natCast, h3]
  by_cases e : k = b
  · rw [if_pos e, if_pos (by omega)]
  · rw [if_neg e, if_neg (by omega)]
/-- a link turned, by both -/
theorem tTw_bit {σ : Int → Int} (hw : zW σ) {a b : Int} (ha : 0 ≤ a ∧ a < 8) (hb : 0 ≤ b ∧ b < 8) (hab : a ≠ b) {x y : Int} (hx : 0 ≤ x ∧ x < 8) (hy : 0 ≤ y ∧ y < 8) : tb (tTw σ a b) x y = if x = a ∧ y = b ∨ x = b ∧ y = a then 1 - tb σ x y else tb σ x y := by
  have m1 := (zmask (zW_nb hw ha) hb).2.2.2 y hy.1 hy.2
  have m2 := (zmask (zW_nb hw hb) ha).2.2.2 y hy.1 hy.2
  unfold tb tTw
  by_cases e2 : x = b
  · subst e2
    rw [zup_s, m2]
    by_cases e3 : y = a
    · subst e3; rw [if_pos rfl, if_pos (Or.inr ⟨rfl, rfl⟩)]
    · rw [if_neg e3, if_neg (by omega)]
  · rw [zup_n (by omega)]
    by_cases e1 : x = a
    · subst e1
      rw [zup_s, m1]
      by_cases e3 : y = b
      · subst e3; rw [if_pos rfl, if_pos (Or.inl ⟨rfl, rfl⟩)]
      · rw [if_neg e3, if_neg (by omega)]
    · rw [zup_n (by omega), if_neg (by omega)]
theorem tTw_4 (σ : Int → Int) {a b : Int} (ha : 0 ≤ a) (hb : 0 ≤ b) : tTw σ a b 4 = σ 4 := by unfold tTw; rw [zup_n (by omega), zup_n (by omega)]
theorem tTw_zW {σ : Int → Int} (hw : zW σ) {a b : Int} (ha : 0 ≤ a ∧ a < 8) (hb : 0 ≤ b ∧ b < 8) : zW (tTw σ a b) := by
  have m1 := (zmask (zW_nb hw ha) hb).1
  have m2 := (zmask (zW_nb hw hb) ha).1
  exact zW_upz (zW_upz hw ha.1 (w := 4) (by omega) (by omega) rfl) hb.1 (w := 4) (by omega) (by omega) rfl
theorem tTw_nl {σ : Int → Int} (hw : zW σ) (hn : zNl σ) {a b : Int} (ha : 0 ≤ a ∧ a < 8) (hb : 0 ≤ b ∧ b < 8) (hab : a ≠ b) : zNl (tTw σ a b) := by
  intro z h0 h1
  have e := tTw_bit hw ha hb hab (x := z) (y := z) ⟨h0, h1⟩ ⟨h0, h1⟩
  rw [if_neg (by omega)] at e
  exact e.trans (hn z h0 h1)
theorem tTw_lk {σ : Int → Int} (hw : zW σ) (hl : zLk σ) {a b : Int} (ha : 0 ≤ a ∧ a < σ 4) (hb : 0 ≤ b ∧ b < σ 4) (hab : a ≠ b) : zLk (tTw σ a b) := by
  have h4 := zW_4 hw
  intro x y h0 h1 h2 h3
  rw [tTw_bit hw (by omega) (by omega) hab (x := x) (y := y) ⟨h0, h1⟩ ⟨h2, h3⟩, tTw_bit hw (by omega) (by omega) hab (x := y) (y := x) ⟨h2, h3⟩ ⟨h0, h1⟩, tTw_4 σ ha.1 hb.1]
  have h5 := hl x y h0 h1 h2 h3
  by_cases c : x = a ∧ y = b ∨ x = b ∧ y = a
  · rw [if_pos c, if_pos (by omega)]
    exact ⟨by omega, fun _ => by omega⟩
  · rw [if_neg c, if_neg (by omega)]
    exact h5
/-- the class's way: a bit set or cleared in both -/
theorem tLk_tw {σ : Int → Int} (hw : zW σ) (hl : zLk σ) {a b l : Int} (ha : 0 ≤ a ∧ a < 8) (hb : 0 ≤ b ∧ b < 8) (hll : l = 1 - tb σ a b) : tLk σ a b l = if a = b then tLk σ a b l else tTw σ a b := by
  by_cases hab : a = b
  · rw [if_pos hab]
  · rw [if_neg hab]
    have m1 := zmask (zW_nb hw ha) hb
    have m2 := zmask (zW_nb hw hb) ha
    have hs := (hl a b ha.1 ha.2 hb.1 hb.2).1
    have t1 : tb σ a b = σ (5 + 5 * a + 4) / 2 ^ b.toNat % 2 := rfl
    have t2 : tb σ b a = σ (5 + 5 * b + 4) / 2 ^ a.toNat % 2 := rfl
    unfold tLk tTw
    by_cases c : l = 1
    · rw [if_pos c, m1.2.2.1 (by omega), m2.2.2.1 (by omega)]
    · rw [if_neg c, (m1.2.1 (by omega)).1, (m2.2.1 (by omega)).1]
theorem tLk_set {σ : Int → Int} (hw : zW σ) (hl : zLk σ) {a b : Int} (ha : 0 ≤ a ∧ a < 8) (hb : 0 ≤ b ∧ b < 8) (hab : a ≠ b) : tLk σ a b 1 = if tb σ a b = 1 then σ else tTw σ a b := by
  have m1 := zmask (zW_nb hw ha) hb
  have m2 := zmask (zW_nb hw hb) ha
  have hs := (hl a b ha.1 ha.2 hb.1 hb.2).1
  have t1 : tb σ a b = σ (5 + 5 * a + 4) / 2 ^ b.toNat % 2 := rfl
  have t2 : tb σ b a = σ (5 + 5 * b + 4) / 2 ^ a.toNat % 2 := rfl
  unfold tLk tTw
  rw [if_pos rfl]
  by_cases c : tb σ a b = 1
  · rw [if_pos c, (m1.2.1 (by omega)).2, (m2.2.1 (by omega)).2, zup_id, zup_id]
  · rw [if_neg c, m1.2.2.1 (by omega), m2.2.2.1 (by omega)]
theorem zLk_of {σ τ : Int → Int} (h : ∀ z : Int, 0 ≤ z → z < 8 → τ (5 + 5 * z + 4) = σ (5 + 5 * z + 4)) (h4 : σ 4 ≤ τ 4) (hl : zLk σ) : zLk τ := by
  intro a b h0 h1 h2 h3
  have h5 := hl a b h0 h1 h2 h3
  unfold tb at h5 ⊢
  rw [h a h0 h1, h b h2 h3]
  exact ⟨h5.1, fun q => by have := h5.2 q; omega⟩
theorem tAdd_nb {σ : Int → Int} (hl : zLk σ) (hw : zW σ) (h8 : σ 4 < 8) (d w : Int) : ∀ z : Int, 0 ≤ z → z < 8 → tAdd σ d w (5 + 5 * z + 4) = σ (5 + 5 * z + 4) := by
  intro z h0 h1
  have h4 := zW_4 hw
  unfold tAdd
  rw [zup_n (by omega)]
  by_cases e : z = σ 4
  · rw [e, zup_s]
    have hm := zW_nb hw (z := σ 4) (by omega)
    have hz : ∀ b : Int, 0 ≤ b → b < 8 → σ (5 + 5 * σ 4 + 4) / 2 ^ b.toNat % 2 = 0 := by
      intro b h2 h3
      have h5 := (hl (σ 4) b (by omega) h8 h2 h3).2
      have t1 : tb σ (σ 4) b = σ (5 + 5 * σ 4 + 4) / 2 ^ b.toNat % 2 := rfl
      refine Classical.byContradiction fun q => ?_
      have := h5 (by omega)
      omega
    have z0 := hz 0 (by omega) (by omega)
    have z1 := hz 1 (by omega) (by omega)
    have z2 := hz 2 (by omega) (by omega)
    have z3 := hz 3 (by omega) (by omega)
    have z4 := hz 4 (by omega) (by omega)
    have z5 := hz 5 (by omega) (by omega)
    have z6 := hz 6 (by omega) (by omega)
    have z7 := hz 7 (by omega) (by omega)
    have p : ((2 : Int) ^ (0 : Int).toNat = 1 ∧ (2 : Int) ^ (1 : Int).toNat = 2 ∧ (2 : Int) ^ (2 : Int).toNat = 4 ∧ (2 : Int) ^ (3 : Int).toNat = 8) ∧ ((2 : Int) ^ (4 : Int).toNat = 16 ∧ (2 : Int) ^ (5 : Int).toNat = 32 ∧ (2 : Int) ^ (6 : Int).toNat = 64 ∧ (2 : Int) ^ (7 : Int).toNat = 128) := by decide
    rw [p.1.1] at z0
    rw [p.1.2.1] at z1
    rw [p.1.2.2.1] at z2
    rw [p.1.2.2.2] at z3
    rw [p.2.1] at z4
    rw [p.2.2.1] at z5
    rw [p.2.2.2.1] at z6
    rw [p.2.2.2.2] at z7
    omega
  · rw [zup_n (by omega), zup_n (by omega), zup_n (by omega), zup_n (by omega), zup_n (by omega)]
theorem tAdd_4 (σ : Int → Int) (d w : Int) : tAdd σ d w 4 = σ 4 + 1 := by unfold tAdd; rw [zup_s]
theorem tAdd_zW {σ : Int → Int} (hw : zW σ) (h8 : σ 4 < 8) {d w : Int} (hd : 0 ≤ d ∧ d ≤ 24) (hwn : 0 ≤ w ∧ w ≤ 10) : zW (tAdd σ d w) := by
  have h4 := zW_4 hw
  have h1 := zW_upz hw (z := σ 4) (w := 0) (v := d) (by omega) (by omega) (by omega) (show 5 + 5 * σ 4 = 5 + 5 * σ 4 + 0 by omega)
  have h2 := zW_upz h1 (z := σ 4) (w := 1) (v := w) (by omega) (by omega) (by omega) rfl
  have h3 := zW_upz h2 (z := σ 4) (w := 2) (v := 0) (by omega) (by omega) (by omega) rfl
  have h5 := zW_upz h3 (z := σ 4) (w := 3) (v := 0) (by omega) (by omega) (by omega) rfl
  have h6 := zW_upz h5 (z := σ 4) (w := 4) (v := 0) (by omega) (by omega) (by omega) rfl
  unfold tAdd
  refine ⟨by rw [zup_n (by omega)]; exact h6.1, by rw [zup_n (by omega)]; exact h6.2.1, by rw [zup_n (by omega)]; exact h6.2.2.1, by rw [zup_n (by omega)]; exact h6.2.2.2.1, by rw [zup_s]; omega, fun z hz => ?_⟩
  have g := h6.2.2.2.2.2 z hz
  rw [zup_n (show 5 + 5 * z ≠ 4 by omega), zup_n (show 5 + 5 * z + 1 ≠ 4 by omega), zup_n (show 5 + 5 * z + 2 ≠ 4 by omega), zup_n (show 5 + 5 * z + 3 ≠ 4 by omega), zup_n (show 5 + 5 * z + 4 ≠ 4 by omega)]
  exact g
/-- all that a print's row must be -/
def zOk (σ : Int → Int) : Prop := zW σ ∧ zNl σ ∧ zLk σ
theorem zOk_of {σ τ : Int → Int} (h : zOk σ) (hw : zW τ) (hnb : ∀ z : Int, 0 ≤ z → z < 8 → τ (5 + 5 * z + 4) = σ (5 + 5 * z + 4)) (h4 : σ 4 ≤ τ 4) : zOk τ := ⟨hw, zNl_of hnb h.2.1, zLk_of hnb h4 h.2.2⟩
theorem zOk_add {σ : Int → Int} (h : zOk σ) (h8 : σ 4 < 8) {d w : Int} (hd : 0 ≤ d ∧ d ≤ 24) (hwn : 0 ≤ w ∧ w ≤ 10) : zOk (tAdd σ d w) := zOk_of h (tAdd_zW h.1 h8 hd hwn) (tAdd_nb h.2.2 h.1 h8 d w) (by rw [tAdd_4]; omega)
theorem zOk_tw {σ : Int → Int} (h : zOk σ) {a b : Int} (ha : 0 ≤ a ∧ a < σ 4) (hb : 0 ≤ b ∧ b < σ 4) (hab : a ≠ b) : zOk (tTw σ a b) := by
  have h4 := zW_4 h.1
  exact ⟨tTw_zW h.1 (by omega) (by omega), tTw_nl h.1 h.2.1 (by omega) (by omega) hab, tTw_lk h.1 h.2.2 ha hb hab⟩
theorem zOk_0 {σ : Int → Int} (h : zOk σ) {v : Int} (hv : 1 ≤ v ∧ v ≤ 2000) : zOk (zup σ 0 v) := zOk_of h (zW_up0 h.1 hv) (fun z _ _ => zup_n (by omega)) (by rw [zup_n (by omega)]; omega)
theorem zOk_3 {σ : Int → Int} (h : zOk σ) {v : Int} (hv : 0 ≤ v ∧ v ≤ 50) : zOk (zup σ 3 v) := zOk_of h (zW_up3 h.1 hv) (fun z _ _ => zup_n (by omega)) (by rw [zup_n (by omega)]; omega)
theorem zOk_g {σ : Int → Int} (h : zOk σ) {g v : Int} (hg : 0 ≤ g ∧ g ≤ 5) (hv : 10 ≤ v ∧ v ≤ 999) : zOk (zup (zup σ 1 g) 2 v) := zOk_of h (zW_upg h.1 hg hv) (fun z _ _ => by rw [zup_n (by omega), zup_n (by omega)]) (by rw [zup_n (by omega), zup_n (by omega)]; omega)
theorem zOk_z {σ : Int → Int} (h : zOk σ) {z w v : Int} (hz : 0 ≤ z) (hw : 1 ≤ w ∧ w < 4) (hv : 0 ≤ v ∧ (w = 1 → v ≤ 10) ∧ (w = 2 ∨ w = 3 → v ≤ 999)) : zOk (zup σ (5 + 5 * z + w) v) := zOk_of h (zW_upz h.1 hz (w := w) (by omega) (by omega) rfl) (fun y _ _ => zup_n (by omega)) (by rw [zup_n (by omega)]; omega)
theorem zOk_plan {σ : Int → Int} (h : zOk σ) : zOk (tPlan σ) := zOk_of h (tPlan_in h.1).1 (fun z h0 _ => (tPlan_nb σ z).resolve_right (by omega)) (by rw [(tPlan_in h.1).2.1]; omega)
