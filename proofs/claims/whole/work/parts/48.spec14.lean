theorem tNum_0 (σ : Int → Int) (n : Int) : tNum σ n 0 = σ 4 := rfl
theorem tNum_1 (σ : Int → Int) (n : Int) : tNum σ n 1 = σ 0 := rfl
theorem tNum_2 (σ : Int → Int) (n : Int) : tNum σ n 2 = σ 1 := rfl
theorem tNum_3 (σ : Int → Int) (n : Int) : tNum σ n 3 = σ 2 := rfl
theorem tNum_4 (σ : Int → Int) (n : Int) : tNum σ n 4 = tCnt σ 0 := rfl
theorem tNum_5 (σ : Int → Int) (n : Int) : tNum σ n 5 = zsum (tSu σ 5) (σ 4).toNat := rfl
theorem tNum_6 (σ : Int → Int) (n : Int) : tNum σ n 6 = zsum (tSu σ 6) (σ 4).toNat := rfl
theorem tNum_7 (σ : Int → Int) (n : Int) : tNum σ n 7 = zsum (tSu σ 7) (σ 4).toNat := rfl
theorem tNum_8 (σ : Int → Int) (n : Int) : tNum σ n 8 = zsum (tSu σ 8) (σ 4).toNat := rfl
theorem tNum_9 (σ : Int → Int) (n : Int) : tNum σ n 9 = zsum (tSu σ 9) (σ 4).toNat := rfl
theorem tNum_10 (σ : Int → Int) (n : Int) : tNum σ n 10 = zsum (tSu σ 10) (σ 4).toNat := rfl
theorem tNum_11 (σ : Int → Int) (n : Int) : tNum σ n 11 = n := rfl
/-- the class's memory behind a state given back -/
def zGive (S : zM) : zM := zCl (zPut S 0 (S (((S 8 1 2 - 1) % 6).toNat + 2) 0) (zMk (S (((S 8 1 2 - 1) % 6).toNat + 2) 0 1) (S (((S 8 1 2 - 1) % 6).toNat + 2) 0 2)) (S 0 8)) (S 8 0) (zup (zup (S 8 1) 2 (S 8 1 2 - 1)) 1 (S 8 1 1 - 1)) (S 8 3) (S 8 4) (S 8 5)
theorem zGv_81 (S : zM) : zGive S 8 1 1 = S 8 1 1 - 1 := by unfold zGive; rw [zC_1, zup_s]
theorem tb_in (σ : Int → Int) (a b : Int) : 0 ≤ tb σ a b ∧ tb σ a b ≤ 1 := by unfold tb; omega
