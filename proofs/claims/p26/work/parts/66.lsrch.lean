/-! THE LAW'S SEARCH AND THE CLASS'S (pure) -/
def R4 (sz : Nat) (s : sS) (m : S4) : Prop := bdS s ∧ s.2.1 = m.2.2.2 ∧ (m.2.2.2 = 0 → m.1 = (-1)) ∧ (m.2.2.2 ≠ 0 → s.1 = nI sz ∧ m.1 = nI sz ∧ m.2.1 = lnum s.2.2.1 ∧ m.2.2.1 = lnum s.2.2.2)
theorem R4_try {b : Bool} {sz o t : Nat} {s : sS} {m : S4} (h : R4 sz s m) (ho : o < 30) (ht : t < 30) : R4 sz (tryS b sz o t s) (ltry b sz o t m) := by
  refine ⟨bd_try h.1 ho ht, ?_⟩
  obtain ⟨-, h1, h2, h3⟩ := h
  cases b
  · exact ⟨h1, h2, h3⟩
  · refine ⟨by simp [tryS, ltry, h1], fun h9 => absurd h9 (by simp [ltry]), fun _ => ?_⟩
    by_cases e : m.2.2.2 = 0
    · simp [tryS, ltry, h1, e]
    · have := h3 e
      simp [tryS, ltry, h1, e, this]
theorem R4_sz {sz sz2 : Nat} {s : sS} {m : S4} (h : R4 sz s m) (h0 : m.2.2.2 = 0) : R4 sz2 s m := ⟨h.1, h.2.1, h.2.2.1, fun h9 => absurd h0 h9⟩
section LSR
variable {fit : Int32 → Bool} {mf : (Nat → Int32) → Bool} {np : Nat} {s : sS} {m : S4}
theorem lM0_1 : lM mf np 0 m 1 = ltry (mf z0) 0 0 0 m := by
  have e1 : lLo 0 0 = 0 := rfl
  have e2 : lHi np 0 0 = 1 := rfl
  show lI mf 0 0 (lLo 0 0) m (lHi np 0 0) = _
  rw [e1, e2]
  rfl
theorem lM1_succ (o : Nat) : lM mf np 1 m (o + 1) = ltry (mf (fb2 o o)) 1 o o (lM mf np 1 m o) := by
  have e1 : lLo 1 o = o := rfl
  have e2 : lHi np 1 o = o + 1 := rfl
  show lI mf 1 o (lLo 1 o) (lM mf np 1 m o) (lHi np 1 o) = _
  rw [e1, e2, lI, if_pos (Nat.le_refl _), lI_start _ _ _ _ _ _ (Nat.le_refl _)]
  rfl
theorem lM2_succ (o : Nat) : lM mf np 2 m (o + 1) = lI mf 2 o (o + 1) (lM mf np 2 m o) (5 * np) := rfl
theorem R4_ones (h4 : np ≤ 4) (hf : ∀ o, o < 5 * np → fit (rkB o) = mf (fb2 o o)) (h : R4 1 s m) : ∀ k, k ≤ 5 * np → R4 1 (onesS fit s k) (lM mf np 1 m k) := by
  intro k
  induction k with
  | zero => intro _; exact h
  | succ k ih =>
    intro hk
    rw [lM1_succ]
    simp only [onesS]
    rw [hf k (by omega)]
    exact R4_try (ih (by omega)) (by omega) (by omega)
theorem R4_twI (h4 : np ≤ 4) {o : Nat} (ho : o < 5 * np) (hf : ∀ t, t < 5 * np → fit (rkB o ||| rkB t) = mf (fb2 o t)) (h : R4 2 s m) : ∀ k, k ≤ 5 * np → R4 2 (twI fit o s k) (lI mf 2 o (o + 1) m k) := by
  intro k
  induction k with
  | zero => intro _; exact h
  | succ k ih =>
    intro hk
    have e : lfb 2 o k = fb2 o k := rfl
    simp only [twI, lI]
    by_cases h9 : o < k
    · rw [if_pos h9, if_pos (by omega), hf k (by omega), e]
      exact R4_try (ih (by omega)) (by omega) (by omega)
    · rw [if_neg h9, if_neg (by omega)]
      exact ih (by omega)
theorem R4_twS (h4 : np ≤ 4) (hf : ∀ o t, o < 5 * np → t < 5 * np → fit (rkB o ||| rkB t) = mf (fb2 o t)) (h : R4 2 s m) : ∀ k, k ≤ 5 * np → R4 2 (twS fit s (5 * np) k) (lM mf np 2 m k) := by
  intro k
  induction k with
  | zero => intro _; exact h
  | succ k ih =>
    intro hk
    rw [lM2_succ]
    simp only [twS]
    exact R4_twI h4 (by omega) (fun t ht => hf k t (by omega) ht) (ih (by omega)) (5 * np) (Nat.le_refl _)
end LSR
def SrE (S : sS) (M : S4) : Prop := S.1 = M.1 ∧ S.2.1 = M.2.2.2 ∧ (nI 0 < M.1 → M.2.1 = lnum S.2.2.1) ∧ (nI 1 < M.1 → M.2.2.1 = lnum S.2.2.2) ∧ ¬ nI 2 < M.1
def SrN (F : (Nat → Int32) → Bool) (np N : Nat) : Prop := N ≤ 3 ∧ (∀ k, k < N → (lO F np k).2.2.2 = 0) ∧ (N = 3 ∨ ¬ (lO F np N).2.2.2 = 0)
def SrOK (F : (Nat → Int32) → Bool) (np : Nat) (S : sS) : Prop := bdS S ∧ ∀ N, SrN F np N → SrE S (lO F np N)
theorem SrE_of {sz : Nat} {s : sS} {m : S4} (h : R4 sz s m) (h2 : sz ≤ 2) (h0 : m.2.2.2 ≠ 0) : SrE s m := by
  obtain ⟨-, h1, -, h3⟩ := h
  obtain ⟨a1, a2, a3, a4⟩ := h3 h0
  exact ⟨a1.trans a2.symm, h1, fun _ => a3, fun _ => a4, by rw [a2]; exact nI_nlt h2 (by omega)⟩
theorem SrE_none {s : sS} {m : S4} (h : R4 2 s m) (h0 : m.2.2.2 = 0) : SrE ((-1), s.2) m := by
  obtain ⟨-, h1, h2, -⟩ := h
  have e := h2 h0
  exact ⟨e.symm, h1, fun h9 => absurd h9 (by rw [e]; decide), fun h9 => absurd h9 (by rw [e]; decide), by rw [e]; decide⟩
theorem srch_ok {fit : Int32 → Bool} {mf : (Nat → Int32) → Bool} {np : Nat} (h4 : np ≤ 4) (h0 : fit (nI 0) = mf z0) (h1 : ∀ o, o < 5 * np → fit (rkB o) = mf (fb2 o o)) (h2 : ∀ o t, o < 5 * np → t < 5 * np → fit (rkB o ||| rkB t) = mf (fb2 o t)) (fw : Int32) {fi se : Nat} (hb : fi < 2 ^ 31 ∧ se < 2 ^ 31) : SrOK mf np (ffS fit (5 * np) (fw, 0, fi, se)) := by
  have r0 : R4 0 (tryS (fit (nI 0)) 0 0 0 (fw, 0, fi, se)) (lO mf np 1) := by
    have e : lO mf np 1 = ltry (mf z0) 0 0 0 ((-1), (-1), (-1), 0) := lM0_1
    rw [e, h0]
    exact R4_try ⟨hb, rfl, fun _ => rfl, fun h => absurd rfl h⟩ (by decide) (by decide)
  unfold ffS
  generalize tryS (fit (nI 0)) 0 0 0 (fw, 0, fi, se) = A0 at r0 ⊢
  have r1 : (lO mf np 1).2.2.2 = 0 → R4 1 (onesS fit A0 (5 * np)) (lO mf np 2) := fun hz => R4_ones h4 h1 (R4_sz r0 hz) (5 * np) (Nat.le_refl _)
  generalize onesS fit A0 (5 * np) = A1 at r1 ⊢
  have r2 : (lO mf np 1).2.2.2 = 0 → (lO mf np 2).2.2.2 = 0 → R4 2 (twS fit A1 (5 * np) (5 * np)) (lO mf np 3) := fun hz hy => R4_twS h4 h2 (R4_sz (r1 hz) hy) (5 * np) (Nat.le_refl _)
  generalize twS fit A1 (5 * np) (5 * np) = A2 at r2 ⊢
  have n0 : (lO mf np 0).2.2.2 = 0 := rfl
  by_cases z1 : (lO mf np 1).2.2.2 = 0
  · have a0 : A0.2.1 = 0 := r0.2.1.trans z1
    have r1 := r1 z1
    rw [if_pos a0]
    by_cases z2 : (lO mf np 2).2.2.2 = 0
    · have a1 : A1.2.1 = 0 := r1.2.1.trans z2
      have r2 := r2 z1 z2
      have hN3 : ∀ N, SrN mf np N → N = 3 := by
        intro N hN
        obtain h | h | h | h : N = 0 ∨ N = 1 ∨ N = 2 ∨ N = 3 := by have := hN.1; omega
        · subst h; exact (hN.2.2.elim (fun h8 => absurd h8 (by decide)) (fun h8 => absurd n0 h8))
        · subst h; exact (hN.2.2.elim (fun h8 => absurd h8 (by decide)) (fun h8 => absurd z1 h8))
        · subst h; exact (hN.2.2.elim (fun h8 => absurd h8 (by decide)) (fun h8 => absurd z2 h8))
        · exact h
      rw [if_pos a1]
      by_cases z3 : (lO mf np 3).2.2.2 = 0
      · rw [if_pos (r2.2.1.trans z3)]
        refine ⟨r2.1, fun N hN => ?_⟩
        rw [hN3 N hN]
        exact SrE_none r2 z3
      · rw [if_neg (fun h => z3 (r2.2.1.symm.trans h))]
        refine ⟨r2.1, fun N hN => ?_⟩
        rw [hN3 N hN]
        exact SrE_of r2 (by decide) z3
    · rw [if_neg (fun h => z2 (r1.2.1.symm.trans h))]
      refine ⟨r1.1, fun N hN => ?_⟩
      have e : N = 2 := by
        obtain h | h | h | h : N = 0 ∨ N = 1 ∨ N = 2 ∨ N = 3 := by have := hN.1; omega
        · subst h; exact (hN.2.2.elim (fun h8 => absurd h8 (by decide)) (fun h8 => absurd n0 h8))
        · subst h; exact (hN.2.2.elim (fun h8 => absurd h8 (by decide)) (fun h8 => absurd z1 h8))
        · exact h
        · subst h; exact absurd (hN.2.1 2 (by decide)) z2
      rw [e]
      exact SrE_of r1 (by decide) z2
  · rw [if_neg (fun h => z1 (r0.2.1.symm.trans h))]
    refine ⟨r0.1, fun N hN => ?_⟩
    have e : N = 1 := by
      obtain h | h | h | h : N = 0 ∨ N = 1 ∨ N = 2 ∨ N = 3 := by have := hN.1; omega
      · subst h; exact (hN.2.2.elim (fun h8 => absurd h8 (by decide)) (fun h8 => absurd n0 h8))
      · exact h
      · subst h; exact absurd (hN.2.1 1 (by decide)) z1
      · subst h; exact absurd (hN.2.1 1 (by decide)) z1
    rw [e]
    exact SrE_of r0 (by decide) z1
theorem first_not {P : Nat → Prop} : ∀ M, ∃ N, N ≤ M ∧ (∀ k, k < N → P k) ∧ (N = M ∨ ¬ P N) := by
  intro M
  induction M with
  | zero => exact ⟨0, Nat.le_refl _, fun k hk => absurd hk (Nat.not_lt_zero _), Or.inl rfl⟩
  | succ M ih =>
    obtain ⟨N, h1, h2, h3⟩ := ih
    rcases h3 with h3 | h3
    · subst h3
      by_cases hp : P N
      · refine ⟨N + 1, Nat.le_refl _, fun k hk => ?_, Or.inl rfl⟩
        by_cases e : k = N
        · subst e; exact hp
        · exact h2 k (by omega)
      · exact ⟨N, Nat.le_succ _, h2, Or.inr hp⟩
    · exact ⟨N, by omega, h2, Or.inr h3⟩
theorem srN_ex (F : (Nat → Int32) → Bool) (np : Nat) : ∃ N, SrN F np N := by
  obtain ⟨N, h1, h2, h3⟩ := first_not (P := fun k => (lO F np k).2.2.2 = 0) 3
  exact ⟨N, h1, h2, h3⟩
theorem lO_lt (fit : (Nat → Int32) → Bool) {np N : Nat} (h2 : 2 ≤ np) (h4 : np ≤ 4) (h : N ≤ 3) : (lO fit np N).2.2.2 < 2 ^ 31 := by
  have := lO_ct fit h2 h4 N
  omega
