/-! what holds between two calls of the law; n: how many calls are done -/
def zsl (S : zM) (i : Int) : Nat := ((S 8 1 2 - S 8 1 1 + i) % 6).toNat + 2
def zInv (S : zM) (n : Int) : Prop :=
  zOk (S 0 0) ∧ zMs S 0 ∧ S 9 1 = S 0 0 ∧ (S 9 4 = S 8 4 ∧ S 9 0 6 = S 8 0 5 ∧ (0 ≤ S 8 0 5 ∧ S 8 0 5 ≤ 60) ∧ ∀ i : Int, 0 ≤ i → i < 60 → 0 ≤ S 8 4 i ∧ S 8 4 i ≤ 126) ∧ zRd (S 8 3) ∧ (S 9 0 4 = S 8 1 1 ∧ (0 ≤ S 8 1 1 ∧ S 8 1 1 ≤ 6) ∧ S 8 1 1 ≤ S 8 1 2 ∧ S 8 1 2 ≤ n) ∧
    ∀ i : Int, 0 ≤ i → i < S 8 1 1 → zOk (S (zsl S i) 0) ∧ ∀ x : Int, 0 ≤ x → x < 45 → S (zsl S i) 0 x = S 9 3 (45 * i + x)
theorem zKp_k0 {S : zM} {k : Nat} (hk : 2 ≤ k ∧ k < 8) : zKeep S k 0 = if k = (S 8 1 2 % 6).toNat + 2 then S 0 0 else S k 0 := by
  unfold zKeep
  rw [zC_n (by omega)]
  by_cases e : k = (S 8 1 2 % 6).toNat + 2
  · rw [if_pos e, ← e, zP_0]
  · rw [if_neg e, zP_n e]
/-- a state kept by both -/
theorem inv_K {S T : zM} {n : Int} {f σ a t Mx L : Int → Int} (hI : zInv S n) (hok : zOk σ) (hT0 : T 0 0 = σ) (hT2 : ∀ j : Int, 0 ≤ j → j < 10 → T 0 2 j = zMk (σ 1) (σ 2) j) (h85 : f 6 = T 8 0 5) (hr : 0 ≤ T 8 0 5 ∧ T 8 0 5 ≤ 60) (h81 : T 8 1 = zKeep S 8 1) (hrd : zRd (T 8 3)) (h84 : T 8 4 = S 8 4) (ht : t = S 8 4) (hk : ∀ k : Nat, 2 ≤ k → k < 8 → T k 0 = zKeep S k 0) (hf4 : f 4 = zSm (S 9 0 4)) :
    zInv (zMo T f σ a (zSv (S 9 3) (S 9 1) (S 9 0 4)) t Mx L) (n + 1) := by
  obtain ⟨iok, ims, i91, ⟨i94, i96, ilen, ibf⟩, ird, ⟨i04, isz, inx1, inx2⟩, isv⟩ := hI
  have e81 : ∀ x : Int, T 8 1 x = zup (zup (S 8 1) 2 (S 8 1 2 + 1)) 1 (min (S 8 1 1 + 1) 6) x := fun x => by rw [h81, zKp_81]
  have e1 : T 8 1 1 = min (S 8 1 1 + 1) 6 := by rw [e81, zup_s]
  have e2 : T 8 1 2 = S 8 1 2 + 1 := by rw [e81, zup_n (by omega), zup_s]
  have hN : ∀ k : Nat, k ≠ 9 → zMo T f σ a (zSv (S 9 3) (S 9 1) (S 9 0 4)) t Mx L k = T k := fun k hk9 => zM_n hk9
  have hm : zSm (S 9 0 4) = min (S 8 1 1 + 1) 6 := by unfold zSm; rw [i04]; split <;> omega
  unfold zInv zMs zsl
  simp only [zM_0, zM_1, zM_3, zM_4, hN 0 (by omega), hN 8 (by omega)]
  rw [hT0, e1, e2, h84]
  refine ⟨hok, fun j h1 h2 => hT2 j h1 h2, rfl, ⟨ht, h85, hr, ibf⟩, hrd, ⟨by rw [hf4, hm], by omega, by omega, by omega⟩, fun i h1 h2 => ?_⟩
  have hlt : ((S 8 1 2 + 1 - min (S 8 1 1 + 1) 6 + i) % 6).toNat + 2 < 8 := by omega
  rw [hN _ (by omega), hk _ (by omega) hlt, zKp_k0 ⟨by omega, hlt⟩, i91, i04]
  by_cases c : i + 1 = min (S 8 1 1 + 1) 6
  · have es : ((S 8 1 2 + 1 - min (S 8 1 1 + 1) 6 + i) % 6).toNat + 2 = (S 8 1 2 % 6).toNat + 2 := by
      rw [show S 8 1 2 + 1 - min (S 8 1 1 + 1) 6 + i = S 8 1 2 by omega]
    rw [if_pos es]
    refine ⟨iok, fun x h3 h4 => ?_⟩
    unfold zSv zputs
    by_cases c6 : S 8 1 1 = 6
    · rw [if_pos c6, if_pos c6, if_pos (by omega)]
      congr 1; omega
    · rw [if_neg c6, if_neg c6, if_pos (by omega)]
      congr 1; omega
  · have en : ¬ ((S 8 1 2 + 1 - min (S 8 1 1 + 1) 6 + i) % 6).toNat + 2 = (S 8 1 2 % 6).toNat + 2 := by omega
    rw [if_neg en]
    by_cases c6 : S 8 1 1 = 6
    · have es : ((S 8 1 2 + 1 - min (S 8 1 1 + 1) 6 + i) % 6).toNat + 2 = zsl S (i + 1) := by
        unfold zsl
        rw [show S 8 1 2 + 1 - min (S 8 1 1 + 1) 6 + i = S 8 1 2 - S 8 1 1 + (i + 1) by omega]
      rw [es]
      have h5 := isv (i + 1) (by omega) (by omega)
      refine ⟨h5.1, fun x h3 h4 => ?_⟩
      rw [h5.2 x h3 h4]
      unfold zSv zputs zshift
      rw [if_pos c6, if_pos c6, if_neg (by omega)]
      show _ = if 0 ≤ 45 * i + x ∧ 45 * i + x < 225 then S 9 3 (45 * i + x + 45) else S 9 3 (45 * i + x)
      rw [if_pos (by omega)]
      congr 1; omega
    · have es : ((S 8 1 2 + 1 - min (S 8 1 1 + 1) 6 + i) % 6).toNat + 2 = zsl S i := by
        unfold zsl
        rw [show S 8 1 2 + 1 - min (S 8 1 1 + 1) 6 + i = S 8 1 2 - S 8 1 1 + i by omega]
      rw [es]
      have h5 := isv i h1 (by omega)
      refine ⟨h5.1, fun x h3 h4 => ?_⟩
      rw [h5.2 x h3 h4]
      unfold zSv zputs
      rw [if_neg c6, if_neg c6, if_neg (by omega)]
/-- nothing but looks: print 0, the history, the text as they were -/
theorem inv_L {S T : zM} {n : Int} {f a Mx L : Int → Int} (hI : zInv S n) (hT : ∀ k : Nat, k ≠ 1 → k < 8 → T k 0 = S k 0) (hT2 : T 0 2 = S 0 2) (h80 : T 8 0 5 = S 8 0 5) (h81 : T 8 1 = S 8 1) (hrd : zRd (T 8 3)) (h84 : T 8 4 = S 8 4) (hf4 : f 4 = S 9 0 4) (hf6 : f 6 = S 9 0 6) :
    zInv (zMo T f (S 9 1) a (S 9 3) (S 9 4) Mx L) (n + 1) := by
  obtain ⟨iok, ims, i91, ⟨i94, i96, ilen, ibf⟩, ird, ⟨i04, isz, inx1, inx2⟩, isv⟩ := hI
  have hN : ∀ k : Nat, k ≠ 9 → zMo T f (S 9 1) a (S 9 3) (S 9 4) Mx L k = T k := fun k hk9 => zM_n hk9
  unfold zInv zMs zsl
  simp only [zM_0, zM_1, zM_3, zM_4, hN 0 (by omega), hN 8 (by omega)]
  rw [hT 0 (by omega) (by omega), hT2, h80, h81, h84, hf4, hf6]
  refine ⟨iok, ims, i91, ⟨i94, i96, ilen, ibf⟩, hrd, ⟨i04, isz, inx1, by omega⟩, fun i h1 h2 => ?_⟩
  have h5 := isv i h1 h2
  rw [hN _ (by omega), hT _ (by omega) (by omega)]
  exact h5
/-- the text changed -/
theorem inv_T {S T : zM} {n : Int} {f a t Mx L : Int → Int} (hI : zInv S n) (hT : ∀ k : Nat, k < 8 → T k 0 = S k 0) (hT2 : T 0 2 = S 0 2) (h80 : f 6 = T 8 0 5) (hr : 0 ≤ T 8 0 5 ∧ T 8 0 5 ≤ 60) (h81 : T 8 1 = S 8 1) (hrd : zRd (T 8 3)) (ht : t = T 8 4) (hb : ∀ i : Int, 0 ≤ i → i < 60 → 0 ≤ T 8 4 i ∧ T 8 4 i ≤ 126) (hf4 : f 4 = S 9 0 4) :
    zInv (zMo T f (S 9 1) a (S 9 3) t Mx L) (n + 1) := by
  obtain ⟨iok, ims, i91, ⟨i94, i96, ilen, ibf⟩, ird, ⟨i04, isz, inx1, inx2⟩, isv⟩ := hI
  have hN : ∀ k : Nat, k ≠ 9 → zMo T f (S 9 1) a (S 9 3) t Mx L k = T k := fun k hk9 => zM_n hk9
  unfold zInv zMs zsl
  simp only [zM_0, zM_1, zM_3, zM_4, hN 0 (by omega), hN 8 (by omega)]
  rw [hT 0 (by omega), hT2, h81, hf4]
  refine ⟨iok, ims, i91, ⟨ht, h80, hr, hb⟩, hrd, ⟨i04, isz, inx1, by omega⟩, fun i h1 h2 => ?_⟩
  have h5 := isv i h1 h2
  rw [hN _ (by omega), hT _ (by omega)]
  exact h5
/-- a state given back -/
theorem inv_U {S T : zM} {n : Int} {f a t Mx L : Int → Int} (hI : zInv S n) (h1 : 1 ≤ S 8 1 1) (hT0 : T 0 0 = S (zsl S (S 8 1 1 - 1)) 0) (hT2 : T 0 2 = zMk (T 0 0 1) (T 0 0 2)) (hT : ∀ k : Nat, 2 ≤ k → k < 8 → T k 0 = S k 0) (h80 : T 8 0 = S 8 0) (h81a : T 8 1 1 = S 8 1 1 - 1) (h81b : T 8 1 2 = S 8 1 2 - 1) (h83 : T 8 3 = S 8 3) (h84 : T 8 4 = S 8 4) (hf4 : f 4 = S 9 0 4 - 1) (hf6 : f 6 = S 9 0 6) (ht : t = S 9 4) :
    zInv (zMo T f (T 0 0) a (S 9 3) t Mx L) (n + 1) ∧ zeqv (zMo T f (fun x => S 9 3 (45 * (S 9 0 4 - 1) + x)) a (S 9 3) t Mx L) (zMo T f (T 0 0) a (S 9 3) t Mx L) := by
  subst ht
  obtain ⟨iok, ims, i91, ⟨i94, i96, ilen, ibf⟩, ird, ⟨i04, isz, inx1, inx2⟩, isv⟩ := hI
  have h6 := isv (S 8 1 1 - 1) (by omega) (by omega)
  refine ⟨?_, ?_⟩
  · have hN : ∀ k : Nat, k ≠ 9 → zMo T f (T 0 0) a (S 9 3) (S 9 4) Mx L k = T k := fun k hk9 => zM_n hk9
    unfold zInv zMs
    simp only [zM_0, zM_1, zM_3, zM_4, hN 0 (by omega), hN 8 (by omega)]
    rw [h81a, h81b, h80, h83, h84, hf4, hf6, hT2]
    refine ⟨by rw [hT0]; exact h6.1, fun j _ _ => rfl, trivial, ⟨i94, i96, ilen, ibf⟩, ird, ⟨by omega, by omega, by omega, by omega⟩, fun i h2 h3 => ?_⟩
    have h5 := isv i h2 (by omega)
    have es : zsl (zMo T f (T 0 0) a (S 9 3) (S 9 4) Mx L) i = zsl S i := by
      unfold zsl
      rw [hN 8 (by omega), h81a, h81b, show S 8 1 2 - 1 - (S 8 1 1 - 1) + i = S 8 1 2 - S 8 1 1 + i by omega]
    have hlt : 2 ≤ zsl S i ∧ zsl S i < 8 := by unfold zsl; omega
    rw [es, hN _ (by omega), hT _ hlt.1 hlt.2]
    exact h5
  · intro k j x hk hx0 hx1
    by_cases e9 : k = 9
    · subst e9
      by_cases e1 : j = 1
      · subst e1
        rw [zM_1, zM_1, hT0, i04]
        exact (h6.2 x hx0 hx1).symm
      · unfold zMo
        rw [if_pos rfl, if_pos rfl, if_neg e1, if_neg e1]
    · rw [zM_n e9, zM_n e9]
theorem zeqv_rf (S : zM) : zeqv S S := fun _ _ _ _ _ _ => rfl
/-- what a call of the law leaves: the throw's number, the answers alike, the next state -/
def zGl (r r2 : Int32) (S2 : zM) (n : Int) : Prop := ∃ k : Int, (0 ≤ k ∧ k ≤ 2) ∧ r = zI k ∧ S2 9 0 0 = k ∧ (k = 0 → r2 = zI (S2 8 5 0) ∧ -2147483648 ≤ S2 8 5 0 ∧ S2 8 5 0 ≤ 2147483647) ∧ ∃ S3 : zM, zeqv S2 S3 ∧ zInv S3 (n + 1)
