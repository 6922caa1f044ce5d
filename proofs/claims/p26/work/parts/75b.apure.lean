theorem smN_b (v : Int32) {n : Nat} (h : 0 < n) (h2 : n ≤ 2 ^ 31) : smN v n < 2 ^ 31 := Nat.lt_of_lt_of_le (smN_lt v h) h2
theorem nI_nle1 {a : Nat} (h : 1 < a) (h2 : a < 2 ^ 31) : ¬ nI a ≤ nI 1 := nI_ge h h2
theorem rowN_0 {g e : Nat → Nat} : rowN g e 0 = e := by
  funext j
  simp [rowN]
theorem rowB_0 {g e : Nat → Bool} : rowB g e 0 = e := by
  funext j
  simp [rowB]
theorem gF_begin {ne : Nat → Int32} {pn : Nat → Nat} {tr : Nat → Bool} {ft : Nat → Int32} : ∀ j, j < 16 → gF (rowK (fun _ => nI 1) ne 4) (rowN (fun _ => 1) pn 4) (rowB (fun _ => false) tr 4) (rowK (fun _ => nI 0) ft 4) j = gF (fun _ => bit1 0) (fun _ => 1) (fun _ => false) (fun _ => nI 0) j := by
  intro j hj
  simp only [gF, rowK, rowN, rowB]
  have e : nI 1 = bit1 0 := by decide
  by_cases h4 : j < 4
  · rw [if_pos h4, if_pos h4, if_pos h4, e]
  · rw [if_neg h4, if_neg h4]
    by_cases h8 : j < 8
    · rw [if_pos h8, if_pos h8, if_pos (by omega)]
    · rw [if_neg h8, if_neg h8]
      by_cases h12 : j < 12
      · rw [if_pos h12, if_pos h12, if_pos (by omega)]
      · rw [if_neg h12, if_neg h12, if_pos (by omega)]
