/-! the digest in numbers -/
def zmx (f : Int → Int) (h : Int) : Nat → Int
  | 0 => h
  | n + 1 => 31 * zmx f h n + f n
theorem zmx_s (f : Int → Int) (h : Int) {i : Int} (hi : 0 ≤ i) : zmx f h (i + 1).toNat = 31 * zmx f h i.toNat + f i := by
  obtain ⟨n, rfl⟩ := Int.eq_ofNat_of_zero_le hi
  rfl
theorem zdg (F : Int → Int) (h v : Int) : zup (zup F 14 h) 14 (31 * (zup F 14 h) 14 + v) = zup F 14 (31 * h + v) := by rw [zup_s, zup_zup]
/-- a share: right ones of all, as a double -/
def zShv (q n : Int) : UInt64 := if n = 0 then FP.dconst1 else FP.ddiv (FP.i2d (zI q)) (FP.i2d (zI n))
def dIt (x : UInt64) : Nat → UInt64
  | 0 => x
  | k + 1 => FP.dmul (dIt x k) 4611686018427387904
def zKf (q n : Int) : Nat := if n ≤ q then 0 else if n ≤ 2 * q then 1 else if n ≤ 4 * q then 2 else 3
def zBm (x : UInt64) (k : Nat) : UInt64 := FP.dmul (FP.dsub (dIt x k) FP.dconst1) 4841369599423283200
def zBt (q n : Int) : Int := if n ≠ 0 ∧ q = 0 then 0 else (1023 - (zKf q n : Int)) * 4503599627370496 + (FP.d2l (zBm (zShv q n) (zKf q n))).toInt
def zBp (x : UInt64) (K : Nat) : Prop := K ≤ 3 ∧ (Op.cmpValue (FP.dcmp x FP.dconst0) .g = zI 1 ∧ Op.cmpValue (FP.dcmp x FP.dconst0) .l = zI 1) ∧ (∀ k, k < K → Op.cmpValue (FP.dcmp (dIt x k) FP.dconst1) .g = zI (-1) ∧ vf_n64 (FP.dmul (dIt x k) 4611686018427387904)) ∧ (Op.cmpValue (FP.dcmp (dIt x K) FP.dconst1) .g = zI 0 ∨ Op.cmpValue (FP.dcmp (dIt x K) FP.dconst1) .g = zI 1) ∧ vf_n64 (FP.dsub (dIt x K) FP.dconst1) ∧ vf_n64 (zBm x K)
theorem zBp1 : ∀ n, n < 9 → ∀ q, q < 9 → (n ≠ 0 ∧ q = 0) ∨ n < q ∨ (zKf (q : Nat) (n : Nat) ≤ 3) := by decide +kernel
theorem zBp2 : ∀ n, n < 9 → ∀ q, q < 9 → (n ≠ 0 ∧ q = 0) ∨ n < q ∨ (Op.cmpValue (FP.dcmp (zShv (q : Nat) (n : Nat)) FP.dconst0) .g = zI 1 ∧ Op.cmpValue (FP.dcmp (zShv (q : Nat) (n : Nat)) FP.dconst0) .l = zI 1) := by decide +kernel
theorem zBp3 : ∀ n, n < 9 → ∀ q, q < 9 → (n ≠ 0 ∧ q = 0) ∨ n < q ∨ (∀ k, k < 4 → ((zKf (q : Nat) (n : Nat)) ≤ k ∨ Op.cmpValue (FP.dcmp (dIt (zShv (q : Nat) (n : Nat)) k) FP.dconst1) .g = zI (-1))) := by decide +kernel
theorem zBp4 : ∀ n, n < 9 → ∀ q, q < 9 → (n ≠ 0 ∧ q = 0) ∨ n < q ∨ (∀ k, k < 4 → (FP.dmul (dIt (zShv (q : Nat) (n : Nat)) k) 4611686018427387904 &&& 0x7fffffffffffffff) ≤ 0x7ff0000000000000) := by decide +kernel
theorem zBp5 : ∀ n, n < 9 → ∀ q, q < 9 → (n ≠ 0 ∧ q = 0) ∨ n < q ∨ (Op.cmpValue (FP.dcmp (dIt (zShv (q : Nat) (n : Nat)) (zKf (q : Nat) (n : Nat))) FP.dconst1) .g = zI 0 ∨ Op.cmpValue (FP.dcmp (dIt (zShv (q : Nat) (n : Nat)) (zKf (q : Nat) (n : Nat))) FP.dconst1) .g = zI 1) := by decide +kernel
theorem zBp6 : ∀ n, n < 9 → ∀ q, q < 9 → (n ≠ 0 ∧ q = 0) ∨ n < q ∨ ((FP.dsub (dIt (zShv (q : Nat) (n : Nat)) (zKf (q : Nat) (n : Nat))) FP.dconst1 &&& 0x7fffffffffffffff) ≤ 0x7ff0000000000000) := by decide +kernel
theorem zBp7 : ∀ n, n < 9 → ∀ q, q < 9 → (n ≠ 0 ∧ q = 0) ∨ n < q ∨ ((zBm (zShv (q : Nat) (n : Nat)) (zKf (q : Nat) (n : Nat)) &&& 0x7fffffffffffffff) ≤ 0x7ff0000000000000) := by decide +kernel
theorem zBp_of {q n : Int} (hn : 0 ≤ n ∧ n ≤ 8) (hq : 0 ≤ q ∧ q ≤ n) (h : n = 0 ∨ 1 ≤ q) : zBp (zShv q n) (zKf q n) := by
  obtain ⟨n, rfl⟩ := Int.eq_ofNat_of_zero_le hn.1
  obtain ⟨q, rfl⟩ := Int.eq_ofNat_of_zero_le hq.1
  have e : ∀ {A : Prop}, ((n ≠ 0 ∧ q = 0) ∨ n < q ∨ A) → A := fun h9 => (h9.resolve_left (by omega)).resolve_left (by omega)
  have h1 := e (zBp1 n (by omega) q (by omega))
  exact ⟨h1, e (zBp2 n (by omega) q (by omega)), fun k hk => ⟨(e (zBp3 n (by omega) q (by omega)) k (by omega)).resolve_left (by omega), e (zBp4 n (by omega) q (by omega)) k (by omega)⟩, e (zBp5 n (by omega) q (by omega)), e (zBp6 n (by omega) q (by omega)), e (zBp7 n (by omega) q (by omega))⟩
theorem zB00 : ∀ n, n < 9 → 1 ≤ n → Op.cmpValue (FP.dcmp (zShv 0 (n : Nat)) FP.dconst0) .g = zI 0 ∧ Op.cmpValue (FP.dcmp (zShv 0 (n : Nat)) FP.dconst0) .l = zI 0 := by decide +kernel
theorem zB0_of {n : Int} (hn : 1 ≤ n ∧ n ≤ 8) : Op.cmpValue (FP.dcmp (zShv 0 n) FP.dconst0) .g = zI 0 ∧ Op.cmpValue (FP.dcmp (zShv 0 n) FP.dconst0) .l = zI 0 := by
  obtain ⟨n, rfl⟩ := Int.eq_ofNat_of_zero_le (show 0 ≤ n by omega)
  exact zB00 n (by omega) (by omega)
theorem zDv0 : ∀ n, n < 9 → ∀ q, q < 9 → 1 ≤ n → FP.ddiv (FP.i2d (zI (q : Nat))) (FP.i2d (zI (n : Nat))) &&& 0x7fffffffffffffff ≤ 0x7ff0000000000000 := by decide +kernel
theorem zDv_of {q n : Int} (hn : 1 ≤ n ∧ n ≤ 8) (hq : 0 ≤ q ∧ q ≤ 8) : vf_n64 (FP.ddiv (FP.i2d (zI q)) (FP.i2d (zI n))) := by
  obtain ⟨n, rfl⟩ := Int.eq_ofNat_of_zero_le (show 0 ≤ n by omega)
  obtain ⟨q, rfl⟩ := Int.eq_ofNat_of_zero_le hq.1
  exact zDv0 n (by omega) q (by omega) (by omega)
theorem zL_self (x : Int64) : zL x.toInt = x := Int64.ofInt_toInt x
def dZ (σ : Int → Int) (z h : Int) : Int := 31 * (31 * zmx (tStr σ z 10 9) (zmx (tPr σ z) h 11) 4 + tBu σ z 50 0) + tBu σ z 50 1
def dZs (σ : Int → Int) (h : Int) : Nat → Int
  | 0 => h
  | n + 1 => dZ σ n (dZs σ h n)
theorem dZs_s (σ : Int → Int) (h : Int) {i : Int} (hi : 0 ≤ i) : dZs σ h (i + 1).toNat = dZ σ i (dZs σ h i.toNat) := by
  obtain ⟨n, rfl⟩ := Int.eq_ofNat_of_zero_le hi
  rfl
def dHd (σ : Int → Int) (n : Int) : Int := zmx (zMk (σ 1) (σ 2)) (31 * zmx (tNum σ n) 2879 12 + σ 3) 10
def dTl (σ : Int → Int) (h : Int) : Int := 31 * (31 * (31 * (31 * (31 * (31 * (31 * h + tEx σ 200 0) + tEx σ 200 1) + tBt σ) + tBgr σ) + tCo σ 0) + tCo σ 1) + zBt (tCnt σ 0) (σ 4)
def tDig (σ b : Int → Int) (n len : Int) : Int := zmx b (31 * dTl σ (dZs σ (dHd σ n) (σ 4).toNat) + len) len.toNat
/-! bounds -/
theorem tBu_in {σ : Int → Int} (hw : zW σ) {z t : Int} (hz : 0 ≤ z) (ht : 0 ≤ t ∧ t ≤ 999) (w : Int) : 0 ≤ tBu σ z t w ∧ tBu σ z t w ≤ 10 := by
  have h1 := tTo_in (zup σ (5 + 5 * z + 2) t) z
  have h2 := tCnt_in (zW_upz hw hz (w := 2) (v := t) (by omega) (by omega) rfl) 0
  unfold tBu
  split <;> omega
theorem tBF_in (σ : Int → Int) : ∀ n : Nat, 10 ≤ tBF σ n ∧ tBF σ n ≤ 10 + 10 * n := by
  intro n
  induction n with
  | zero => simp [tBF]
  | succ n ih => simp only [tBF]; split <;> omega
theorem tBt_in (σ : Int → Int) : 10 ≤ tBt σ ∧ tBt σ ≤ 2000 := tBF_in σ 199
theorem tBgr_in {σ : Int → Int} (hw : zW σ) : 0 ≤ tBgr σ ∧ tBgr σ ≤ 5 := (tBg_in hw 6 (by omega)).1
theorem tCo_in {σ : Int → Int} (hw : zW σ) (w : Int) : -1 ≤ tCo σ w ∧ tCo σ w ≤ 9999 := by
  have h1 := tCL_in hw (σ 4).toNat
  have h2 := tCG_in hw (σ 4).toNat
  unfold tCo
  split
  · omega
  · split <;> omega
theorem tStr_in (σ : Int → Int) {z f n w : Int} (hf : 1 ≤ f ∧ f ≤ 999) (hn : 1 ≤ n ∧ n ≤ 9) : -1 ≤ tStr σ z f n w ∧ tStr σ z f n w ≤ 6354 := by
  have h1 := zsum_in (f := fun k => if tAt σ z (zStr f k) = σ (5 + 5 * z + 1) then 1 else 0) (a := 0) (b := 1) n.toNat (fun j _ _ => by split <;> omega)
  have h2 := tAt_in σ z (zStr f (n - 1))
  have h3 := tSf_in σ z f n.toNat
  unfold tStr tSh
  split
  · omega
  · split
    · omega
    · split
      · omega
      · next q =>
        have h4 := zStr_in hf (k := tSf σ z f n.toNat) (by omega)
        omega
theorem tPr_in {σ : Int → Int} (hw : zW σ) {z : Int} (hz : 0 ≤ z ∧ z < 8) (w : Int) : -1 ≤ tPr σ z w ∧ tPr σ z w ≤ 100000000 := by
  have h0 := zW_de hw hz
  have h1 := zW_wa hw hz
  have h2 := zW_bu hw hz
  have h3 := zW_ho hw hz
  have h4 := tTm_in hw hz
  have h5 := zLt_in (d := σ (5 + 5 * z)) (t := tTm σ z) (by omega)
  have h6 := tTo_in σ z
  have h7 := zW_nb hw hz
  have h8 := tLn_in hw z
  have h9 := tGn_in hw z
  have h10 := tSp_in hw z
  unfold tPr
  (repeat split) <;> omega
theorem tSu_in {σ : Int → Int} (hw : zW σ) {w : Int} (hwh : 5 ≤ w ∧ w ≤ 10) {z : Int} (hz : 0 ≤ z ∧ z < 8) : 0 ≤ tSu σ w z ∧ tSu σ w z ≤ 999 := by
  have h2 := zW_bu hw hz
  have h3 := zW_ho hw hz
  have h4 := zsum_in (f := fun o => if σ (5 + 5 * z + 4) / 2 ^ o.toNat % 2 = 1 then 1 else 0) (a := 0) (b := 1) z.toNat (fun j _ _ => by split <;> omega)
  unfold tSu
  (repeat split) <;> omega
theorem tNum_in {σ : Int → Int} (hw : zW σ) {n w : Int} (hn : 0 ≤ n ∧ n ≤ 6) (hwh : 0 ≤ w ∧ w ≤ 11) : 0 ≤ tNum σ n w ∧ tNum σ n w ≤ 10000 := by
  have h0 := zW_0 hw
  have h1 := zW_1 hw
  have h2 := zW_2 hw
  have h4 := zW_4 hw
  have h5 := tCnt_in hw 0
  unfold tNum
  by_cases c : 5 ≤ w ∧ w ≤ 10
  · have h6 := zsum_in (f := tSu σ w) (a := 0) (b := 999) (σ 4).toNat (fun j h7 h8 => tSu_in hw c (by omega))
    (repeat split) <;> omega
  · (repeat split) <;> omega
theorem zMs_n {S : zM} {σ M q : Int → Int} (h : zMs S 0) : zMs (zPut S 1 σ M q) 0 := by
  intro j h1 h2
  rw [zP_n (by omega)]
  exact h j h1 h2
