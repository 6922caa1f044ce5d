/-! WHAT A SCRIPT'S NUMBER MAY BE -/
theorem i_le {n : Nat} {x : Int32} (h : n < 2 ^ 30) : nI (n + 1) ≤ x ↔ nI n < x := by
  rw [Int32.le_iff_toInt_le, Int32.lt_iff_toInt_lt, nI_toInt (by omega), nI_toInt (by omega)]
  omega
theorem spl (x : Int32) {lo hi : Nat} (hh : hi < 2 ^ 30) (hl : lo ≤ hi) : (x < nI lo ∨ nI hi < x) ∨ ∃ a, lo ≤ a ∧ a ≤ hi ∧ x = nI a := by
  by_cases h1 : x < nI lo
  · exact Or.inl (Or.inl h1)
  · by_cases h2 : nI hi < x
    · exact Or.inl (Or.inr h2)
    · right
      rw [Int32.lt_iff_toInt_lt, nI_toInt (by omega)] at h1 h2
      refine ⟨x.toInt.toNat, by omega, by omega, ?_⟩
      have : ((x.toInt.toNat : Nat) : Int) = x.toInt := by omega
      apply Int32.toInt_inj.mp
      rw [nI_toInt (by omega), this]
theorem spl0 (x : Int32) {n : Nat} (hh : n < 2 ^ 30) (h0 : 0 < n) : (x < 0 ∨ nI n ≤ x) ∨ ∃ a, a < n ∧ x = nI a := by
  rcases spl x (lo := 0) (hi := n - 1) (by omega) (by omega) with h | ⟨a, _, h1, h2⟩
  · left
    rw [nI_0] at h
    refine h.imp id fun h => ?_
    have := (i_le (n := n - 1) (x := x) (by omega)).mpr h
    rw [show n - 1 + 1 = n by omega] at this
    exact this
  · exact Or.inr ⟨a, by omega, h2⟩
theorem splN (x : Int32) {n : Nat} (hh : n < 2 ^ 30) : (x < 0 ∨ nI n ≤ x) ∨ ∃ a, a < n ∧ x = nI a := by
  by_cases h0 : 0 < n
  · exact spl0 x hh h0
  · have : n = 0 := by omega
    subst this
    left
    rw [nI_0]
    by_cases h : x < 0
    · exact Or.inl h
    · exact Or.inr (Int32.not_lt.mp h)
theorem spl4 {x : Int32} {n : Nat} (hh : n < 2 ^ 30) (h : x < 0 ∨ nI n < x) : x < 0 ∨ nI (n + 1) ≤ x := h.imp id (i_le hh).mpr
theorem spl5 {x : Int32} {n : Nat} (hh : n < 2 ^ 30) (h : x < 0 ∨ nI (n + 1) ≤ x) : x < 0 ∨ nI n < x := h.imp id (i_le hh).mp
theorem splF (x y : Int32) : (x < 0 ∨ y ≤ x) ∨ ∃ a, a < 2 ^ 31 ∧ x = nI a ∧ nI a < y := by
  by_cases h1 : x < 0
  · exact Or.inl (Or.inl h1)
  · by_cases h2 : y ≤ x
    · exact Or.inl (Or.inr h2)
    · right
      have h3 := x.toInt_lt
      rw [Int32.lt_iff_toInt_lt] at h1
      have h0 : (0 : Int32).toInt = 0 := by decide
      have e : nI x.toInt.toNat = x := by
        apply Int32.toInt_inj.mp
        rw [nI_toInt (by omega)]
        omega
      exact ⟨x.toInt.toNat, by omega, e.symm, by rw [e]; exact Int32.not_le.mp h2⟩
theorem and31 (x : Int32) : ∃ t, t < 32 ∧ (x &&& nI 31) = nI t := by
  refine ⟨(x &&& nI 31).toBitVec.toNat, ?_, ?_⟩
  · have : (x &&& nI 31).toBitVec = x.toBitVec &&& 31#32 := rfl
    rw [this, BitVec.toNat_and]
    exact Nat.lt_of_le_of_lt Nat.and_le_right (by decide)
  · apply Int32.toBitVec_inj.mp
    apply BitVec.eq_of_toNat_eq
    rw [bv_toNat_nI, BitVec.toNat_ofNat, Nat.mod_eq_of_lt (BitVec.isLt _)]
theorem hd_lt {L i : Nat} (hL : L ≤ 2560) (hi : i ≤ 2570) : nI L - nI 5 < nI i ↔ ¬ i + 5 ≤ L := by
  by_cases h : 5 ≤ L
  · rw [pk_sub h, nI_ltI (by omega) (by omega)]
    omega
  · have key : ∀ L, L < 5 → (nI L - nI 5).toInt = (L : Int) - 5 := by decide +kernel
    rw [Int32.lt_iff_toInt_lt, key L (by omega), nI_toInt (by omega)]
    omega
