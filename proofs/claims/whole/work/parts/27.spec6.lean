theorem oWd_in {n t : Int} (hn : -1 ≤ n ∧ n ≤ 2000) (ht : -1 ≤ t ∧ t ≤ 126) : -1 ≤ oWd n t ∧ oWd n t ≤ 20010 := by
  unfold oWd; (repeat split) <;> omega
theorem oMf_in (k : Int) : 6 ≤ oMf k ∧ oMf k ≤ 24 := by unfold oMf; (repeat split) <;> omega
theorem oMl_in (k : Int) : 7 ≤ oMl k ∧ oMl k ≤ 2000 := by unfold oMl; (repeat split) <;> omega
theorem oSep_in (k : Int) : 58 ≤ oSep k ∧ oSep k ≤ 61 := by unfold oSep; (repeat split) <;> omega
theorem oLl_in {r : Int → Int} (h : -1 ≤ r 2 ∧ r 2 ≤ 24) : 0 ≤ oLl r ∧ oLl r ≤ 25 := by unfold oLl; (repeat split) <;> omega
def oKL (t : Int) : Prop := t = 122 ∨ t = 110 ∨ t = 116 ∨ t = 98 ∨ t = 104
def oL (r : Int → Int) (t : Int) : Int → Int := zup (zup (zup (zup r 1 t) 2 (-1)) 3 (-1)) 0 (if t = 116 then 2 else 1)
def oKF (r : Int → Int) (t : Int) : Prop := (r 2 ≠ -1 ∧ t = oSep (r 1)) ∨ ¬ (oWd (r 2) t = -1 ∨ oMf (r 1) < oWd (r 2) t)
def oF (r : Int → Int) (t : Int) : Int → Int := if r 2 ≠ -1 ∧ t = oSep (r 1) then zup r 0 2 else if r 1 = 110 then zup (zup r 2 (oWd (r 2) t)) 0 2 else zup r 2 (oWd (r 2) t)
def oKA (r : Int → Int) (t : Int) : Prop := (r 3 ≠ -1 ∧ t = 59) ∨ ¬ (oWd (r 3) t = -1 ∨ oWd (r 3) t < oLl r ∨ oMl (r 1) < oWd (r 3) t)
def oA (r : Int → Int) (t : Int) : Int → Int := if r 3 ≠ -1 ∧ t = 59 then zup r 0 0 else zup r 3 (oWd (r 3) t)
def oK (r : Int → Int) (t : Int) : Prop := if r 0 = 0 then oKL t else if r 0 = 1 then oKF r t else oKA r t
def oN (r : Int → Int) (t : Int) : Int → Int := if r 0 = 0 then oL r t else if r 0 = 1 then oF r t else oA r t
