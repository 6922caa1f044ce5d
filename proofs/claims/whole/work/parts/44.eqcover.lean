/-! cover: the list that both make -/
def mcv (c : Nat → Nat) (np n : Nat) : Nat → Nat → Nat
  | 0 => c
  | k + 1 => if n ≤ k then upN (mcv c np n k) k (scX (scB (mmB (mcv c np n k) k) (60 * np)).2) else mcv c np n k
theorem mcv_start (c : Nat → Nat) (np n : Nat) : ∀ k, k ≤ n → mcv c np n k = c := by
  intro k
  induction k with
  | zero => intro _; rfl
  | succ k ih => intro h; simp only [mcv]; rw [if_neg (by omega)]; exact ih (by omega)
theorem mcv_step {c : Nat → Nat} {np n k : Nat} (h : n ≤ k) : upN (mcv c np n k) k (scX (scB (mmB (mcv c np n k) k) (60 * np)).2) = mcv c np n (k + 1) := by
  simp only [mcv]; rw [if_pos h]
def cvP (c : Nat → Nat) (np n k : Nat) : Prop := 0 < (scB (mmB (mcv c np n k) k) (60 * np)).1
theorem mmB_congr {c c' : Nat → Nat} : ∀ k, (∀ j, j < k → c j = c' j) → mmB c k = mmB c' k := by
  intro k
  induction k with
  | zero => intro _; rfl
  | succ k ih => intro h; simp only [mmB]; rw [ih (fun j hj => h j (by omega)), h k (by omega)]
theorem mcv_ok {c : Nat → Nat} {np n : Nat} (h6 : np ≤ 6) (hc : ∀ j, j < n → okN np (c j)) : ∀ k, n ≤ k → (∀ j, n ≤ j → j < k → cvP c np n j) → ∀ j, j < k → okN np (mcv c np n k j) := by
  intro k
  induction k with
  | zero => intro _ _ j hj; omega
  | succ k ih =>
    intro hk hp j hj
    by_cases e : n = k + 1
    · subst e; rw [mcv_start c np (k + 1) _ (Nat.le_refl _)]; exact hc j hj
    · rw [← mcv_step (by omega : n ≤ k)]
      simp only [upN]
      by_cases ej : j = k
      · rw [if_pos ej]
        have h0 := hp k (by omega) (by omega)
        unfold cvP at h0
        rcases scB_inv (m := mmB (mcv c np n k) k) (60 * np) with ⟨e1, _⟩ | ⟨_, _, hb⟩
        · omega
        · exact sc_ok h6 hb.2.1
      · rw [if_neg ej]
        exact ih (by omega) (fun i h1 h2 => hp i h1 (by omega)) j (by omega)
theorem cv_eq {c : Nat → Nat} {np n : Nat} (h6 : np ≤ 6) (hc : ∀ j, j < n → okN np (c j)) : ∀ k, (∀ j, n ≤ j → j < k → cvP c np n j) → cvC c np n k = mcv c np n k := by
  intro k
  induction k with
  | zero => intro _; rfl
  | succ k ih =>
    intro hp
    have ih := ih fun j h1 h2 => hp j h1 (by omega)
    simp only [cvC, mcv]
    rw [ih]
    by_cases e : n ≤ k
    · rw [if_pos e, if_pos e]
      have hA : RelA (mmB (mcv c np n k) k) (mallF (mcv c np n k) k) := RelA_all k fun j hj => (mcv_ok h6 hc k e (fun i h1 h2 => hp i h1 (by omega)) j hj).1
      rw [best_eq h6 hA (hp k e (by omega))]
    · rw [if_neg e, if_neg e]
theorem first_not {P : Nat → Prop} {n M : Nat} (h : n ≤ M) : ∃ N, n ≤ N ∧ N ≤ M ∧ (∀ k, n ≤ k → k < N → P k) ∧ (N = M ∨ ¬ P N) := by
  have key : ∀ d n, n + d = M → ∃ N, n ≤ N ∧ N ≤ M ∧ (∀ k, n ≤ k → k < N → P k) ∧ (N = M ∨ ¬ P N) := by
    intro d
    induction d with
    | zero => intro n e; exact ⟨n, Nat.le_refl _, by omega, fun k h1 h2 => by omega, Or.inl (by omega)⟩
    | succ d ih =>
      intro n e
      by_cases hP : P n
      · obtain ⟨N, a1, a2, a3, a4⟩ := ih (n + 1) (by omega)
        refine ⟨N, by omega, a2, fun k h1 h2 => ?_, a4⟩
        by_cases ek : k = n
        · rw [ek]; exact hP
        · exact a3 k (by omega) h2
      · exact ⟨n, Nat.le_refl _, by omega, fun k h1 h2 => by omega, Or.inr hP⟩
  exact key (M - n) n (by omega)
def cvS (c : Nat → Nat) (np n k : Nat) : Int32 := sumI (fun v => bcF (mallF (cvC c np n k) k v)) 18
def cvN (c : Nat → Nat) (np n k : Nat) : Nat := cnt384 (mmB (mcv c np n k) k)
theorem cover_cases {c : Nat → Nat} {np n : Nat} (h2 : 2 ≤ np) (h6 : np ≤ 6) (hn : n ≤ 60) (hc : ∀ j, j < n → okN np (c j)) :
    ∃ N, n ≤ N ∧ N ≤ 60 ∧ (∀ k, n ≤ k → k < N → cvP c np n k) ∧ (N = 60 ∨ (scB (mmB (mcv c np n N) N) (60 * np)).1 = 0) ∧ cvC c np n N = mcv c np n N ∧ (∀ j, j < N → okN np (mcv c np n N j)) ∧ (∀ k, n ≤ k → k < N → cvS c np n k < nI (np * 12 + 35 + 12)) ∧ cvS c np n N = nI (cvN c np n N) ∧ cvN c np n N ≤ np * 12 + 35 + 12 ∧ (cvN c np n N < np * 12 + 35 + 12 → N = 60) := by
  obtain ⟨N, a1, a2, a3, a4⟩ := first_not (P := cvP c np n) hn
  have hk : ∀ k, n ≤ k → k ≤ N → RelA (mmB (mcv c np n k) k) (mallF (mcv c np n k) k) ∧ subM np (mxF (mallF (mcv c np n k) k)) ∧ cvS c np n k = nI (cvN c np n k) := by
    intro k h1 h3
    have hok := mcv_ok h6 hc k h1 fun j b1 b2 => a3 j b1 (by omega)
    have hA : RelA (mmB (mcv c np n k) k) (mallF (mcv c np n k) k) := RelA_all k fun j hj => (hok j hj).1
    refine ⟨hA, sub_all k hok, ?_⟩
    unfold cvS cvN
    rw [cv_eq h6 hc k fun j b1 b2 => a3 j b1 (by omega)]
    exact met_eq hA
  have hi : ∀ k, n ≤ k → k ≤ N → cvN c np n k ≤ np * 12 + 35 + 12 ∧ (cvN c np n k < np * 12 + 35 + 12 ↔ cvP c np n k) := fun k h1 h3 => all_iff h2 h6 (hk k h1 h3).1 (hk k h1 h3).2.1
  refine ⟨N, a1, a2, a3, ?_, cv_eq h6 hc N a3, mcv_ok h6 hc N a1 a3, fun k h1 h3 => ?_, (hk N a1 (Nat.le_refl _)).2.2, (hi N a1 (Nat.le_refl _)).1, fun hlt => ?_⟩
  · refine a4.imp id fun h => ?_
    unfold cvP at h
    omega
  · rw [(hk k h1 (by omega)).2.2]
    have := (hi k h1 (by omega)).2.mpr (a3 k h1 h3)
    exact (nI_ltI (by omega) (by omega)).mpr this
  · exact a4.resolve_right fun h => h ((hi N a1 (Nat.le_refl _)).2.mp hlt)
/-- pairsMet -/
theorem met_all {c : Nat → Nat} {n : Nat} (hc : ∀ j, j < n → okF (c j)) : sumI (fun v => bcF (mallF c n v)) 18 = nI (cnt384 (mmB c n)) := met_eq (RelA_all n hc)
/-! what differs -/
theorem dif_eq {f : Nat → Int32} {a : Nat → Bool} : ∀ n, (∀ k, k < n → (f k = 0 ↔ a k = true)) → difL f n = mdifL a n := by
  intro n
  induction n with
  | zero => intro _; rfl
  | succ n ih =>
    intro h
    simp only [difL, mdifL]
    rw [ih fun k hk => h k (by omega)]
    have := h n (by omega)
    by_cases e : f n = 0
    · rw [if_pos e, if_pos (this.mp e)]
      exact (Int64.or_zero).symm
    · rw [if_neg e, if_neg fun h9 => e (this.mpr h9)]
theorem xor_0 {x y : Int32} : x ^^^ y = 0 ↔ x = y := by
  constructor
  · intro h
    refine tb_ext fun i hi => ?_
    have := congrArg (fun z => tb z i) h
    try dsimp only at this
    rw [tb_xor, tb_0] at this
    cases h1 : tb x i <;> cases h2 : tb y i <;> simp_all
  · intro h; rw [h]; exact Int32.xor_self
theorem or_0 {x y : Int32} : x ||| y = 0 ↔ x = 0 ∧ y = 0 := by
  constructor
  · intro h
    refine ⟨tb_ext fun i hi => ?_, tb_ext fun i hi => ?_⟩ <;>
    · have := congrArg (fun z => tb z i) h
      try dsimp only at this
      rw [tb_or, tb_0] at this
      rw [tb_0]
      cases h1 : tb x i <;> cases h2 : tb y i <;> simp_all
  · rintro ⟨h1, h2⟩; rw [h1, h2]; rfl
theorem dfK_as {a b x y : Nat → Int32} {k : Nat} : dfK a b x y k = 0 ↔ asS a x b y k = true := by
  unfold dfK asS
  rw [or_0, xor_0, xor_0]
  simp
theorem dfc_eq {f : Nat → Int32} {g : Nat → Bool} {p : Nat} : ∀ n, (∀ k, k < n → tb (f k) p = g k) → dfcI f p n = nI (sumN (fun k => if g k = true then 1 else 0) n) := by
  intro n
  induction n with
  | zero => intro _; rfl
  | succ n ih =>
    intro h
    simp only [dfcI, sumN]
    rw [ih fun k hk => h k (by omega), h n (by omega), ← nI_add, vz_bN]
theorem dfK_D {a b x y : Nat → Int32} {p k : Nat} : tb (dfK a b x y k) p = mdD a x b y p k := by
  unfold dfK mdD
  rw [tb_or]
