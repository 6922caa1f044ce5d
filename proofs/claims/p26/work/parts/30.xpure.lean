theorem vz_ltn {x y : Int32} (h : y ≤ x) : ¬ x < y := Int32.not_lt.mpr h
theorem netOK_f {x : Int32} (h : x < nI 1 ∨ nI 4 < x) : netOK x = false := by
  unfold netOK
  rcases h with h | h <;> simp [h]
theorem o_ne0 {o : Int32} (h : o < 0 ∨ nI 4 < o) : ¬ o = 0 := by
  intro e; subst e
  exact absurd h (by decide)
theorem lt_one {o : Int32} (h : o < 0) : o < nI 1 := by
  rw [Int32.lt_iff_toInt_lt] at h ⊢
  have e0 : (0 : Int32).toInt = 0 := by decide
  have e1 : (nI 1).toInt = 1 := by decide
  omega
theorem netOK_f2 {x : Int32} (h : x < 0 ∨ nI 4 < x) : netOK x = false := netOK_f (h.imp lt_one id)
theorem cut1 {n : Nat} (h : n ≤ 60) : (if 60 ≤ n then 60 else n) = n := by split <;> omega
