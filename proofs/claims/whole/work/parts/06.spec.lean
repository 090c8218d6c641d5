/-! what the document says, in numbers: a print is a row σ of 45 numbers: 0 time, 1 grade, 2 speed, 3 spill, 4 zones, then five a zone: density, wanted, burn, hold, neighbours -/
def zW (σ : Int → Int) : Prop := (1 ≤ σ 0 ∧ σ 0 ≤ 2000) ∧ (0 ≤ σ 1 ∧ σ 1 ≤ 5) ∧ (10 ≤ σ 2 ∧ σ 2 ≤ 999) ∧ (0 ≤ σ 3 ∧ σ 3 ≤ 50) ∧ (0 ≤ σ 4 ∧ σ 4 ≤ 8) ∧ ∀ z : Int, 0 ≤ z ∧ z < 8 → (0 ≤ σ (5 + 5 * z) ∧ σ (5 + 5 * z) ≤ 24) ∧ (0 ≤ σ (5 + 5 * z + 1) ∧ σ (5 + 5 * z + 1) ≤ 10) ∧ (0 ≤ σ (5 + 5 * z + 2) ∧ σ (5 + 5 * z + 2) ≤ 999) ∧ (0 ≤ σ (5 + 5 * z + 3) ∧ σ (5 + 5 * z + 3) ≤ 999) ∧ (0 ≤ σ (5 + 5 * z + 4) ∧ σ (5 + 5 * z + 4) ≤ 255)
theorem zW_0 {σ : Int → Int} (h : zW σ) : 1 ≤ σ 0 ∧ σ 0 ≤ 2000 := h.1
theorem zW_1 {σ : Int → Int} (h : zW σ) : 0 ≤ σ 1 ∧ σ 1 ≤ 5 := h.2.1
theorem zW_2 {σ : Int → Int} (h : zW σ) : 10 ≤ σ 2 ∧ σ 2 ≤ 999 := h.2.2.1
theorem zW_3 {σ : Int → Int} (h : zW σ) : 0 ≤ σ 3 ∧ σ 3 ≤ 50 := h.2.2.2.1
theorem zW_4 {σ : Int → Int} (h : zW σ) : 0 ≤ σ 4 ∧ σ 4 ≤ 8 := h.2.2.2.2.1
theorem zW_de {σ : Int → Int} {z : Int} (h : zW σ) (hz : 0 ≤ z ∧ z < 8) : 0 ≤ σ (5 + 5 * z) ∧ σ (5 + 5 * z) ≤ 24 := (h.2.2.2.2.2 z hz).1
theorem zW_wa {σ : Int → Int} {z : Int} (h : zW σ) (hz : 0 ≤ z ∧ z < 8) : 0 ≤ σ (5 + 5 * z + 1) ∧ σ (5 + 5 * z + 1) ≤ 10 := (h.2.2.2.2.2 z hz).2.1
theorem zW_bu {σ : Int → Int} {z : Int} (h : zW σ) (hz : 0 ≤ z ∧ z < 8) : 0 ≤ σ (5 + 5 * z + 2) ∧ σ (5 + 5 * z + 2) ≤ 999 := (h.2.2.2.2.2 z hz).2.2.1
theorem zW_ho {σ : Int → Int} {z : Int} (h : zW σ) (hz : 0 ≤ z ∧ z < 8) : 0 ≤ σ (5 + 5 * z + 3) ∧ σ (5 + 5 * z + 3) ≤ 999 := (h.2.2.2.2.2 z hz).2.2.2.1
theorem zW_nb {σ : Int → Int} {z : Int} (h : zW σ) (hz : 0 ≤ z ∧ z < 8) : 0 ≤ σ (5 + 5 * z + 4) ∧ σ (5 + 5 * z + 4) ≤ 255 := (h.2.2.2.2.2 z hz).2.2.2.2
/-- how many of the first n numbers are at most x -/
def zcnt (f : Int → Int) (x : Int) : Nat → Int
  | 0 => 0
  | n + 1 => zcnt f x n + (if f n ≤ x then 1 else 0)
theorem zcnt_in (f : Int → Int) (x : Int) : ∀ n : Nat, 0 ≤ zcnt f x n ∧ zcnt f x n ≤ n := by
  intro n
  induction n with
  | zero => exact ⟨by simp [zcnt], by simp [zcnt]⟩
  | succ n ih => simp only [zcnt]; split <;> omega
theorem zcnt_congr {f g : Int → Int} {x : Int} : ∀ n : Nat, (∀ j : Int, 0 ≤ j → j < n → f j = g j) → zcnt f x n = zcnt g x n := by
  intro n
  induction n with
  | zero => intro _; rfl
  | succ n ih => intro h; simp only [zcnt]; rw [ih (fun j h1 h2 => h j h1 (by omega)), h n (by omega) (by omega)]
/-- the marks -/
def zmkN (g v : Int) : Nat → Int
  | 0 => 100 * v
  | k + 1 => max (zmkN g v k * zSteps g / 1000) (zmkN g v k + 1)
def zMk (g v j : Int) : Int := zmkN g v j.toNat
/-- the light of the time t through the density d -/
def zLt (d t : Int) : Int := t * zThr (d % 3) / 2 ^ (d / 3).toNat / 100
/-- what spills onto a zone out of the first n zones -/
def zSp (σ : Int → Int) (z : Int) : Nat → Int
  | 0 => 0
  | n + 1 => zSp σ z n + (if σ (5 + 5 * z + 4) / 2 ^ n % 2 = 1 then σ (5 + 5 * (n : Int) + 2) * σ 3 / 100 else 0)
def tSp (σ : Int → Int) (z : Int) : Int := zSp σ z (σ 4).toNat
def tTm (σ : Int → Int) (z : Int) : Int := max (σ 0 - σ (5 + 5 * z + 3)) (σ 0 / 2) + σ (5 + 5 * z + 2) + tSp σ z
def tAt (σ : Int → Int) (z t : Int) : Int := zcnt (zMk (σ 1) (σ 2)) (zLt (σ (5 + 5 * z)) t) 10
def tTo (σ : Int → Int) (z : Int) : Int := tAt σ z (tTm σ z)
def tOff (σ : Int → Int) (z : Int) : Int := tTo σ z - σ (5 + 5 * z + 1)
theorem zSp_in {σ : Int → Int} (hw : zW σ) (z : Int) : ∀ n : Nat, n ≤ 8 → 0 ≤ zSp σ z n ∧ zSp σ z n ≤ 500 * n := by
  intro n
  induction n with
  | zero => intro _; exact ⟨by simp [zSp], by simp [zSp]⟩
  | succ n ih =>
    intro hn
    have h1 := ih (by omega)
    have h2 := zW_bu hw (z := n) (by omega)
    have h3 := zW_3 hw
    have h4 : σ (5 + 5 * (n : Int) + 2) * σ 3 ≤ 999 * 50 := Int.mul_le_mul h2.2 h3.2 h3.1 (by omega)
    have h5 : 0 ≤ σ (5 + 5 * (n : Int) + 2) * σ 3 := Int.mul_nonneg h2.1 h3.1
    simp only [zSp]
    split <;> omega
theorem tSp_in {σ : Int → Int} (hw : zW σ) (z : Int) : 0 ≤ tSp σ z ∧ tSp σ z ≤ 4000 := by
  have h := zW_4 hw
  have := zSp_in hw z (σ 4).toNat (by omega)
  unfold tSp
  omega
theorem tTm_in {σ : Int → Int} (hw : zW σ) {z : Int} (hz : 0 ≤ z ∧ z < 8) : 0 ≤ tTm σ z ∧ tTm σ z ≤ 7000 := by
  have h1 := tSp_in hw z
  have h2 := zW_0 hw
  have h3 := zW_ho hw hz
  have h4 := zW_bu hw hz
  unfold tTm
  omega
theorem tAt_in (σ : Int → Int) (z t : Int) : 0 ≤ tAt σ z t ∧ tAt σ z t ≤ 10 := zcnt_in _ _ 10
theorem tTo_in (σ : Int → Int) (z : Int) : 0 ≤ tTo σ z ∧ tTo σ z ≤ 10 := zcnt_in _ _ 10
theorem zThr_in (j : Int) : 63000 ≤ zThr j ∧ zThr j ≤ 100000 := by
  unfold zThr
  split <;> (try split) <;> omega
theorem zpow_pos (k : Nat) : (0 : Int) < 2 ^ k := Int.pow_pos (by omega)
theorem zdiv_le {a b : Int} (ha : 0 ≤ a) (hb : 0 < b) : 0 ≤ a / b ∧ a / b ≤ a := ⟨Int.ediv_nonneg ha (by omega), Int.ediv_le_self _ ha⟩
theorem zLt_x {t j : Int} (ht : 0 ≤ t ∧ t ≤ 100000) : 0 ≤ t * zThr j ∧ t * zThr j ≤ 10000000000 := by
  have h1 := zThr_in j
  have h2 : t * zThr j ≤ 100000 * 100000 := Int.mul_le_mul ht.2 h1.2 (by omega) (by omega)
  have h3 : 0 ≤ t * zThr j := Int.mul_nonneg ht.1 (by omega)
  omega
theorem zLt_y {t d : Int} (ht : 0 ≤ t ∧ t ≤ 100000) : 0 ≤ t * zThr (d % 3) / 2 ^ (d / 3).toNat ∧ t * zThr (d % 3) / 2 ^ (d / 3).toNat ≤ 10000000000 := by
  have h1 := zLt_x (j := d % 3) ht
  have h2 := zdiv_le (b := 2 ^ (d / 3).toNat) h1.1 (zpow_pos _)
  omega
theorem zLt_in {t d : Int} (ht : 0 ≤ t ∧ t ≤ 100000) : 0 ≤ zLt d t ∧ zLt d t ≤ 100000000 := by
  have h1 := zLt_y (d := d) ht
  unfold zLt
  omega
/-- a print's marks are those of its paper -/
def zMs (S : zM) (k : Nat) : Prop := ∀ j : Int, 0 ≤ j → j < 10 → S k 2 j = zMk (S k 0 1) (S k 0 2) j
section ZJ
variable {p : Program} {l : Launch} {e : Env} {R : Room} {s : State} {m : MethodId} {args : Array Value} {below : List Frame} {meth : Method} {c : Code} {H : Heap} {locs : List Loc} {cells slots : Nat} {Q : State → Prop} {cc : ByteArray} {pc : Nat} {ls : Array Slot} {rest : List Value} {nL : Nat} {own : String} {G : zG} {S : zM}
theorem zI_lsm : ∀ n, n < 64 → ((zI (n : Nat)).toInt64 &&& 63).toBitVec.smod 64 = BitVec.ofNat 64 n := by decide +kernel
theorem zL_shr {a b : Int} (ha : 0 ≤ a ∧ a < 4611686018427387904) (hb : 0 ≤ b ∧ b < 64) : zL a >>> ((zI b).toInt64 &&& 63) = zL (a / 2 ^ b.toNat) := by
  obtain ⟨n, rfl⟩ := Int.eq_ofNat_of_zero_le ha.1
  obtain ⟨k, rfl⟩ := Int.eq_ofNat_of_zero_le hb.1
  have h := zI_lsm k (by omega)
  have e : zL (n : Int) = Int64.ofNat n := Int64.ofInt_eq_ofNat
  have hn : (Int64.ofNat n).toBitVec = BitVec.ofNat 64 n := Int64.toBitVec_ofNat
  apply Int64.toBitVec_inj.mp
  rw [e]
  show (Int64.ofNat n).toBitVec.sshiftRight' (((zI (k : Int)).toInt64 &&& 63).toBitVec.smod 64) = _
  rw [h, hn]
  apply BitVec.eq_of_toInt_eq
  rw [BitVec.sshiftRight_eq', BitVec.toInt_sshiftRight]
  have h1 : (BitVec.ofNat 64 n).toInt = n := by rw [BitVec.toInt_eq_toNat_cond, BitVec.toNat_ofNat, Nat.mod_eq_of_lt (by omega), if_pos (by omega)]
  have h2 : (BitVec.ofNat 64 k).toNat = k := by rw [BitVec.toNat_ofNat]; omega
  rw [h1, h2]
  show (n : Int) >>> k = (zL ((n : Int) / 2 ^ k)).toInt
  have h3 := zdiv_le (a := n) (b := 2 ^ k) (by omega) (zpow_pos k)
  rw [zL_toInt (by omega) (by omega), Int.shiftRight_eq_div_pow]
  norm_cast
theorem zb_lshr (h : zE p s m args meth c cc nL own G) {x y : Int} (h0 : 0 ≤ x ∧ x < 4611686018427387904) (h1 : 0 ≤ y ∧ y < 64) (hdg : decode cc pc = .ok (.lshr, 1)) (k : W p l e R s m args below meth c H locs cells slots Q (F0 m (pc + 1) ls (.long (zL (x / 2 ^ y.toNat)) :: rest))) : W p l e R s m args below meth c H locs cells slots Q (F0 m pc ls (.int (zI y) :: .long (zL x) :: rest)) := lv_lshr h.1 h.2.1 hdg (zL_shr h0 h1) k
theorem zmaxI (h : zE p s m args meth c cc nL own G) (hls : ls.size = nL) {index : Nat} (hl : Cond.methodLink own index yJ9_max_7cf53 ∈ zTbl) (hf : 1 ≤ R.frames) (hL : 21 ≤ R.locals) (hcs : cells ≤ R.cells ∧ slots ≤ R.slots) {x y : Int} (hx : -2147483648 ≤ x ∧ x ≤ 2147483647) (hy : -2147483648 ≤ y ∧ y ≤ 2147483647) (hW : (rest.map fun v => v.category).sum ≤ 8) (hdg : decode cc pc = .ok (.invokestatic index, 3)) (k : W p l e R s m args below meth c H locs cells slots Q (F0 m (pc + 3) ls (.int (zI (max x y)) :: rest))) : W p l e R s m args below meth c H locs cells slots Q (F0 m pc ls (.int (zI y) :: .int (zI x) :: rest)) := by
  refine va_mmax h.1 h.2.1 (h.2.2.1.trans hls.symm) h.2.2.2.1 (h.2.2.2.2.1 _ hl) (h.2.2.2.2.1 _ zt_J9_max_7cf53) (h.2.2.2.2.1 _ zn_J9) (h.2.2.2.2.1 _ zc_J9_max_7cf53) hf (by omega) hcs.1 hcs.2 hdg ?_
  have e : (if zI x < zI y then zI y else zI x) = zI (max x y) := by
    by_cases q : x < y
    · rw [if_pos ((zI_lt hx hy).mpr q), Int.max_def, if_pos (by omega)]
    · rw [if_neg (fun q2 => q ((zI_lt hx hy).mp q2)), Int.max_def]
      split
      · rw [show x = y by omega]
      · rfl
  rw [e]
  exact k
end ZJ
theorem zSteps_in (g : Int) : 1120 ≤ zSteps g ∧ zSteps g ≤ 1400 := by
  unfold zSteps
  repeat (first | omega | split)
theorem zmkN_in {g v : Int} (hv : 10 ≤ v ∧ v ≤ 999) : ∀ k : Nat, 1000 ≤ zmkN g v k ∧ zmkN g v k ≤ 100000 * 2 ^ k := by
  intro k
  induction k with
  | zero => simp only [zmkN]; omega
  | succ k ih =>
    have h1 := zSteps_in g
    have h2 : zmkN g v k * zSteps g ≤ zmkN g v k * 1400 := Int.mul_le_mul_of_nonneg_left h1.2 (by omega)
    have h4 : 0 ≤ zmkN g v k * zSteps g := Int.mul_nonneg (by omega) (by omega)
    have h3 : (2 : Int) ^ (k + 1) = 2 ^ k * 2 := Int.pow_succ 2 k
    simp only [zmkN]
    rw [h3]
    omega
theorem zMk_in {g v : Int} (hv : 10 ≤ v ∧ v ≤ 999) {j : Int} (hj : 0 ≤ j ∧ j < 10) : 1000 ≤ zMk g v j ∧ zMk g v j ≤ 51200000 := by
  unfold zMk
  have h := zmkN_in (g := g) hv j.toNat
  have h2 := (by decide : ∀ k, k < 10 → (2 : Int) ^ k ≤ 512) j.toNat (by omega)
  omega
theorem zcnt_s (f : Int → Int) (x : Int) {i : Int} (hi : 0 ≤ i) : zcnt f x (i + 1).toNat = zcnt f x i.toNat + (if f i ≤ x then 1 else 0) := by
  obtain ⟨n, rfl⟩ := Int.eq_ofNat_of_zero_le hi
  rfl
theorem zSp_s (σ : Int → Int) (z : Int) {i : Int} (hi : 0 ≤ i) : zSp σ z (i + 1).toNat = zSp σ z i.toNat + (if σ (5 + 5 * z + 4) / 2 ^ i.toNat % 2 = 1 then σ (5 + 5 * i + 2) * σ 3 / 100 else 0) := by
  obtain ⟨n, rfl⟩ := Int.eq_ofNat_of_zero_le hi
  rfl
/-- sums and counts -/
def zsum (f : Int → Int) : Nat → Int
  | 0 => 0
  | n + 1 => zsum f n + f n
theorem zsum_s (f : Int → Int) {i : Int} (hi : 0 ≤ i) : zsum f (i + 1).toNat = zsum f i.toNat + f i := by
  obtain ⟨n, rfl⟩ := Int.eq_ofNat_of_zero_le hi
  rfl
theorem zsum_in {f : Int → Int} {a b : Int} : ∀ n : Nat, (∀ j : Int, 0 ≤ j → j < n → a ≤ f j ∧ f j ≤ b) → a * n ≤ zsum f n ∧ zsum f n ≤ b * n := by
  intro n
  induction n with
  | zero => intro _; exact ⟨by simp [zsum], by simp [zsum]⟩
  | succ n ih =>
    intro h
    have h1 := ih (fun j h1 h2 => h j h1 (by omega))
    have h2 := h n (by omega) (by omega)
    have e1 : a * ((n + 1 : Nat) : Int) = a * n + a := by rw [Int.natCast_add, Int.mul_add]; simp
    have e2 : b * ((n + 1 : Nat) : Int) = b * n + b := by rw [Int.natCast_add, Int.mul_add]; simp
    simp only [zsum]
    omega
theorem zsum_congr {f g : Int → Int} : ∀ n : Nat, (∀ j : Int, 0 ≤ j → j < n → f j = g j) → zsum f n = zsum g n := by
  intro n
  induction n with
  | zero => intro _; rfl
  | succ n ih => intro h; simp only [zsum]; rw [ih (fun j h1 h2 => h j h1 (by omega)), h n (by omega) (by omega)]
def zsg (x : Int) : Int := if x < 0 then -1 else if x = 0 then 0 else 1
theorem zsg_in (x : Int) : -1 ≤ zsg x ∧ zsg x ≤ 1 := by unfold zsg; repeat (first | omega | split)
def zabs (x : Int) : Int := if x < 0 then -x else x
def tCnt (σ : Int → Int) (side : Int) : Int := zsum (fun z => if zsg (tOff σ z) = side then 1 else 0) (σ 4).toNat
def tMis (σ : Int → Int) : Int := zsum (fun z => zabs (tOff σ z)) (σ 4).toNat
def tSum (σ : Int → Int) (w : Int) : Int := zsum (fun z => σ (5 + 5 * z + w)) (σ 4).toNat
/-- the least time with a tone or a greater one, 10000 if there is none up to 9999 -/
def tLe (σ : Int → Int) (d tone : Int) : Int := if tone < 1 then 1 else if tone > 10 then 10000 else min ((zMk (σ 1) (σ 2) (tone - 1) * 100 * 2 ^ (d / 3).toNat + zThr (d % 3) - 1) / zThr (d % 3)) 10000
def tLn (σ : Int → Int) (z : Int) : Int := if tLe σ (σ (5 + 5 * z)) (σ (5 + 5 * z + 1)) < tLe σ (σ (5 + 5 * z)) (σ (5 + 5 * z + 1) + 1) then tLe σ (σ (5 + 5 * z)) (σ (5 + 5 * z + 1)) else -1
def tGn (σ : Int → Int) (z : Int) : Int := if tLe σ (σ (5 + 5 * z)) (σ (5 + 5 * z + 1)) < tLe σ (σ (5 + 5 * z)) (σ (5 + 5 * z + 1) + 1) then tLe σ (σ (5 + 5 * z)) (σ (5 + 5 * z + 1) + 1) - 1 else -1
def tNo (σ : Int → Int) : Int := zsum (fun z => if tLn σ z = -1 then 1 else 0) (σ 4).toNat
def tCL (σ : Int → Int) : Nat → Int
  | 0 => -1
  | n + 1 => if tLn σ n = -1 then tCL σ n else max (tCL σ n) (tLn σ n)
def tCG (σ : Int → Int) : Nat → Int
  | 0 => 9999
  | n + 1 => if tLn σ n = -1 then tCG σ n else min (tCG σ n) (tGn σ n)
theorem tCL_s (σ : Int → Int) {i : Int} (hi : 0 ≤ i) : tCL σ (i + 1).toNat = if tLn σ i = -1 then tCL σ i.toNat else max (tCL σ i.toNat) (tLn σ i) := by
  obtain ⟨n, rfl⟩ := Int.eq_ofNat_of_zero_le hi
  rfl
theorem tCG_s (σ : Int → Int) {i : Int} (hi : 0 ≤ i) : tCG σ (i + 1).toNat = if tLn σ i = -1 then tCG σ i.toNat else min (tCG σ i.toNat) (tGn σ i) := by
  obtain ⟨n, rfl⟩ := Int.eq_ofNat_of_zero_le hi
  rfl
def tCo (σ : Int → Int) (what : Int) : Int := if tCL σ (σ 4).toNat = -1 ∨ tCL σ (σ 4).toNat > tCG σ (σ 4).toNat then -1 else if what = 0 then tCL σ (σ 4).toNat else tCG σ (σ 4).toNat
/-- a strip's time -/
def zStr (f k : Int) : Int := f * 2 ^ (k / 3).toNat * zThi (k % 3) / 100
def tSf (σ : Int → Int) (z f : Int) : Nat → Int
  | 0 => -1
  | n + 1 => if tSf σ z f n = -1 ∧ σ (5 + 5 * z + 1) ≤ tAt σ z (zStr f n) then n else tSf σ z f n
theorem tSf_s (σ : Int → Int) (z f : Int) {i : Int} (hi : 0 ≤ i) : tSf σ z f (i + 1).toNat = if tSf σ z f i.toNat = -1 ∧ σ (5 + 5 * z + 1) ≤ tAt σ z (zStr f i) then i else tSf σ z f i.toNat := by
  obtain ⟨n, rfl⟩ := Int.eq_ofNat_of_zero_le hi
  rfl
theorem tSf_in (σ : Int → Int) (z f : Int) : ∀ n : Nat, -1 ≤ tSf σ z f n ∧ tSf σ z f n < n ∨ tSf σ z f n = -1 := by
  intro n
  induction n with
  | zero => exact Or.inr rfl
  | succ n ih => simp only [tSf]; split <;> omega
def tSh (σ : Int → Int) (z f : Int) (n : Nat) : Int := zsum (fun k => if tAt σ z (zStr f k) = σ (5 + 5 * z + 1) then 1 else 0) n
def tStr (σ : Int → Int) (z f n what : Int) : Int := if what = 2 then tSh σ z f n.toNat else if what = 3 then tAt σ z (zStr f (n - 1)) else if what = 1 ∨ tSf σ z f n.toNat = -1 then tSf σ z f n.toNat else zStr f (tSf σ z f n.toNat)
theorem tOff_in {σ : Int → Int} (hw : zW σ) {z : Int} (hz : 0 ≤ z ∧ z < 8) : -10 ≤ tOff σ z ∧ tOff σ z ≤ 10 := by
  have h1 := tTo_in σ z
  have h2 := zW_wa hw hz
  unfold tOff
  omega
theorem tLe_in {σ : Int → Int} (hw : zW σ) (d tone : Int) : 1 ≤ tLe σ d tone ∧ tLe σ d tone ≤ 10000 := by
  unfold tLe
  split
  · omega
  · split
    · omega
    · have h1 := zThr_in (d % 3)
      have h2 := zMk_in (g := σ 1) (zW_2 hw) (show 0 ≤ tone - 1 ∧ tone - 1 < 10 by omega)
      have h3 := zpow_pos (d / 3).toNat
      have h4 : 1 ≤ zMk (σ 1) (σ 2) (tone - 1) * 100 * 2 ^ (d / 3).toNat := Int.mul_pos (by omega) h3
      have h5 : 1 ≤ (zMk (σ 1) (σ 2) (tone - 1) * 100 * 2 ^ (d / 3).toNat + zThr (d % 3) - 1) / zThr (d % 3) := (Int.le_ediv_iff_mul_le (by omega)).mpr (by omega)
      omega
theorem tLn_in {σ : Int → Int} (hw : zW σ) (z : Int) : -1 ≤ tLn σ z ∧ tLn σ z ≤ 9999 := by
  have h1 := tLe_in hw (σ (5 + 5 * z)) (σ (5 + 5 * z + 1))
  have h2 := tLe_in hw (σ (5 + 5 * z)) (σ (5 + 5 * z + 1) + 1)
  unfold tLn
  split <;> omega
theorem tGn_in {σ : Int → Int} (hw : zW σ) (z : Int) : -1 ≤ tGn σ z ∧ tGn σ z ≤ 9999 := by
  have h1 := tLe_in hw (σ (5 + 5 * z)) (σ (5 + 5 * z + 1))
  have h2 := tLe_in hw (σ (5 + 5 * z)) (σ (5 + 5 * z + 1) + 1)
  unfold tGn
  split <;> omega
theorem tCL_in {σ : Int → Int} (hw : zW σ) : ∀ n : Nat, -1 ≤ tCL σ n ∧ tCL σ n ≤ 9999 := by
  intro n
  induction n with
  | zero => exact ⟨by simp [tCL], by simp [tCL]⟩
  | succ n ih => have := tLn_in hw n; simp only [tCL]; split <;> omega
theorem tCG_in {σ : Int → Int} (hw : zW σ) : ∀ n : Nat, -1 ≤ tCG σ n ∧ tCG σ n ≤ 9999 := by
  intro n
  induction n with
  | zero => exact ⟨by simp [tCG], by simp [tCG]⟩
  | succ n ih => have := tGn_in hw n; simp only [tCG]; split <;> omega
theorem zThi_in (j : Int) : 100 ≤ zThi j ∧ zThi j ≤ 159 := by
  unfold zThi
  split <;> (try split) <;> omega
theorem zStr_x {f k : Int} (hf : 1 ≤ f ∧ f ≤ 999) (hk : 0 ≤ k ∧ k < 9) : 1 ≤ f * 2 ^ (k / 3).toNat ∧ f * 2 ^ (k / 3).toNat ≤ 3996 := by
  rcases (show k / 3 = 0 ∨ k / 3 = 1 ∨ k / 3 = 2 by omega) with e | e | e <;> rw [e] <;> simp <;> omega
theorem zStr_y {f k : Int} (hf : 1 ≤ f ∧ f ≤ 999) (hk : 0 ≤ k ∧ k < 9) : 100 ≤ f * 2 ^ (k / 3).toNat * zThi (k % 3) ∧ f * 2 ^ (k / 3).toNat * zThi (k % 3) ≤ 635364 := by
  have h1 := zStr_x hf hk
  have h2 := zThi_in (k % 3)
  have h3 : f * 2 ^ (k / 3).toNat * zThi (k % 3) ≤ 3996 * 159 := Int.mul_le_mul h1.2 h2.2 (by omega) (by omega)
  have h4 : 1 * 100 ≤ f * 2 ^ (k / 3).toNat * zThi (k % 3) := Int.mul_le_mul h1.1 h2.1 (by omega) (by omega)
  omega
theorem zStr_in {f k : Int} (hf : 1 ≤ f ∧ f ≤ 999) (hk : 0 ≤ k ∧ k < 9) : 1 ≤ zStr f k ∧ zStr f k ≤ 6354 := by
  have h := zStr_y hf hk
  unfold zStr
  omega
