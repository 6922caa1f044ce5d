/-! RUNS AND THE SEARCH: class and reference -/
section RUN
variable {np n : Nat} {ac me na fl : Int32} {ne : Nat → Int32} {tr : Nat → Bool} {pn : Nat → Nat} {ft : Nat → Int32} {c : Nat → Nat}
theorem RelS_0 : RelS np (fun _ => (-1)) (fun _ => (-1)) := ⟨fun _ _ _ _ _ => rfl, fun _ => Or.inl rfl⟩
theorem run_pl (hR : RelP np ac me na ne tr pn) (hF : RelF np fl ft) (hc : ∀ k, k < n → okN np (c k)) : ∀ k, k ≤ n → RelS np (runPl ac me na fl c k) (mL ne tr pn ft c k) := by
  intro k
  induction k with
  | zero => intro _; exact RelS_0
  | succ k ih => intro h; exact s_pl hR hF (hc k (by omega)) (ih (by omega))
theorem run_ex (hR : RelP np ac me na ne tr pn) (hF : RelF np fl ft) (hc : ∀ k, k < n → okN np (c k)) {k : Nat} (h : k < n) : rEx ac me na fl c k = mE ne tr pn ft np c k :=
  s_ex hR hF (hc k h) (run_pl hR hF hc k (by omega))
theorem run_tg (hR : RelP np ac me na ne tr pn) (hF : RelF np fl ft) (hc : ∀ k, k < n → okN np (c k)) {k : Nat} (h : k < n) : rTg ac me na fl c k = mT ne tr pn ft np c k :=
  s_tg hR hF (hc k h) (run_pl hR hF hc k (by omega))
theorem RelF_0 : RelF np (nI 0) z0 := fun p k _ _ => by rw [tb_n0]; exact (tb_n0 k).symm
theorem lost_0 (x : Nat) : lostF (nI 0) x = false := by unfold lostF; rw [tb_n0, tb_n0]; rfl
theorem run_wh (hR : RelP np ac me na ne tr pn) (hc : ∀ k, k < n → okN np (c k)) {k : Nat} (h : k < n) : rWh ac me na (nI 0) c k = mW ne tr pn z0 np c k :=
  s_wh hR RelF_0 (hc k h) (run_pl hR RelF_0 hc k (by omega)) (lost_0 _)
theorem allB_congr {f g : Nat → Bool} : ∀ n, (∀ k, k < n → f k = g k) → allB f n = allB g n := by
  intro n
  induction n with
  | zero => intro _; rfl
  | succ n ih => intro h; simp only [allB]; rw [ih (fun k hk => h k (by omega)), h n (by omega)]
theorem fit_eq (hR : RelP np ac me na ne tr pn) (hF : RelF np fl ft) (hc : ∀ k, k < n → okN np (c k)) {e t so sg : Nat → Int32} (he : ∀ k, k < n → e k = so k) (ht : ∀ k, k < n → t k = sg k) : fitB ac me na fl c e t n = mfit ne tr pn ft np c so sg n := by
  unfold fitB mfit
  refine allB_congr n fun k hk => ?_
  unfold fitG asS
  rw [run_ex hR hF hc hk, run_tg hR hF hc hk, he k hk, ht k hk]
theorem RelF_1 {o : Nat} (h6 : np ≤ 6) (h : o < 5 * np) : RelF np (rkB o) (fb1 o) := by
  intro p k hp hk
  unfold rkB fb1
  rw [tb_bit (by omega) (by omega)]
  simp only [upd]
  by_cases e : p = o / 5
  · rw [if_pos e, tb_or, tb_n0, Bool.false_or, tb_bit (by omega) (by omega)]
    exact decide_eq_decide.mpr ⟨fun _ => by omega, fun _ => by omega⟩
  · rw [if_neg e]
    show _ = tb (nI 0) k
    rw [tb_n0]
    exact decide_eq_false (by omega)
theorem RelF_2 {o t : Nat} (h6 : np ≤ 6) (h : o < 5 * np) (ht : t < 5 * np) : RelF np (rkB o ||| rkB t) (fb2 o t) := by
  intro p k hp hk
  have h1 := RelF_1 h6 h p k hp hk
  have h2 := RelF_1 h6 ht p k hp hk
  rw [tb_or, h1]
  unfold fb2
  simp only [upd]
  by_cases e : p = t / 5
  · subst e
    rw [if_pos rfl, tb_or, h2]
    congr 1
    have e1 : fb1 t (t / 5) = nI 0 ||| bit1 (t % 5) := if_pos rfl
    rw [e1, tb_or, tb_n0, Bool.false_or]
  · rw [if_neg e, h2]
    have : tb (fb1 t p) k = false := by
      unfold fb1
      simp only [upd]
      rw [if_neg e]
      exact tb_n0 k
    rw [this, Bool.or_false]
end RUN
/-! the search -/
def bdS (s : sS) : Prop := s.2.2.1 < 2 ^ 31 ∧ s.2.2.2 < 2 ^ 31
def S1 (s : sS) (m : mS) : Prop := bdS s ∧ s.2.1 = m.2.2 ∧ (m.2.2 ≠ 0 → s.1 = nI 1 ∧ m.1 = nI s.2.2.1 ∧ s.2.2.1 < 30)
def S2 (s : sS) (m : mS) : Prop := bdS s ∧ s.2.1 = m.2.2 ∧ (m.2.2 ≠ 0 → s.1 = nI 2 ∧ m.1 = nI s.2.2.1 ∧ s.2.2.1 < 30 ∧ m.2.1 = nI s.2.2.2 ∧ s.2.2.2 < 30)
theorem bd_try {b : Bool} {z o t : Nat} {s : sS} (h : bdS s) (ho : o < 30) (ht : t < 30) : bdS (tryS b z o t s) := by
  obtain ⟨h1, h2⟩ := h
  unfold bdS tryS
  dsimp only
  refine ⟨?_, ?_⟩ <;> (repeat' split) <;> omega
theorem S1_try {b : Bool} {o : Nat} {s : sS} {m : mS} (h : S1 s m) (ho : o < 30) : S1 (tryS b 1 o o s) (mtry b (nI o) (-1) m) := by
  refine ⟨bd_try h.1 ho ho, ?_⟩
  obtain ⟨-, h1, h2⟩ := h
  cases b
  · exact ⟨h1, h2⟩
  · refine ⟨by simp [tryS, mtry, h1], fun _ => ?_⟩
    by_cases e : m.2.2 = 0
    · simp [tryS, mtry, h1, e, ho]
    · have := h2 e
      simp [tryS, mtry, h1, e, this]
theorem S2_try {b : Bool} {o t : Nat} {s : sS} {m : mS} (h : S2 s m) (ho : o < 30) (ht : t < 30) : S2 (tryS b 2 o t s) (mtry b (nI o) (nI t) m) := by
  refine ⟨bd_try h.1 ho ht, ?_⟩
  obtain ⟨-, h1, h2⟩ := h
  cases b
  · exact ⟨h1, h2⟩
  · refine ⟨by simp [tryS, mtry, h1], fun _ => ?_⟩
    by_cases e : m.2.2 = 0
    · simp [tryS, mtry, h1, e, ho, ht]
    · have := h2 e
      simp [tryS, mtry, h1, e, this]
section SRC
variable {fit : Int32 → Bool} {mf : (Nat → Int32) → Bool} {N : Nat} {s : sS} {m : mS}
theorem S1_ones (hN : N ≤ 30) (hf : ∀ o, o < N → fit (rkB o) = mf (fb1 o)) (h : S1 s m) : ∀ k, k ≤ N → S1 (onesS fit s k) (mones mf m k) := by
  intro k
  induction k with
  | zero => intro _; exact h
  | succ k ih => intro hk; simp only [onesS, mones]; rw [hf k (by omega)]; exact S1_try (ih (by omega)) (by omega)
theorem S2_twI (hN : N ≤ 30) {o : Nat} (ho : o < N) (hf : ∀ t, t < N → fit (rkB o ||| rkB t) = mf (fb2 o t)) (h : S2 s m) : ∀ k, k ≤ N → S2 (twI fit o s k) (mtwI mf o m k) := by
  intro k
  induction k with
  | zero => intro _; exact h
  | succ k ih =>
    intro hk
    simp only [twI, mtwI]
    split
    · rw [hf k (by omega)]; exact S2_try (ih (by omega)) (by omega) (by omega)
    · exact ih (by omega)
theorem S2_twS (hN : N ≤ 30) (hf : ∀ o t, o < N → t < N → fit (rkB o ||| rkB t) = mf (fb2 o t)) (h : S2 s m) : ∀ k, k ≤ N → S2 (twS fit s N k) (mtwS mf m N k) := by
  intro k
  induction k with
  | zero => intro _; exact h
  | succ k ih => intro hk; simp only [twS, mtwS]; exact S2_twI hN (by omega) (fun t ht => hf k t (by omega) ht) (ih (by omega)) N (Nat.le_refl _)
end SRC
/-- what is told of a search: how many faults, how many explanations, the faults themselves -/
def numW (fi se k : Nat) : Nat := 10 * ((if k = 0 then fi else se) / 5) + (if k = 0 then fi else se) % 5
def SrchE (S : sS) (x : Int32 × mS) : Prop := bdS S ∧ S.1 = x.1 ∧ S.2.1 = x.2.2.2 ∧ ∀ k, k < 2 ^ 31 → nI k < S.1 → nI (numW S.2.2.1 S.2.2.2 k) = blF (if k = 0 then x.2.1 else x.2.2.1)
def SrchOK (mf : (Nat → Int32) → Bool) (N : Nat) (S : sS) : Prop := ∀ fs sc : Int32, SrchE S (exS mf N (fs, sc, 0))
theorem blF_n {o : Nat} (h : o < 30) : blF (nI o) = nI (10 * (o / 5) + o % 5) := by
  have key : ∀ o, o < 30 → blF (nI o) = nI (10 * (o / 5) + o % 5) := by decide +kernel
  exact key o h
theorem k_lt0 {k : Nat} (hk : k < 2 ^ 31) (h : nI k < nI 0) : False := by
  have := (nI_ltI hk (by decide : 0 < 2 ^ 31)).mp h
  omega
theorem k_ltm {k : Nat} (hk : k < 2 ^ 31) (h : nI k < (-1)) : False := by
  rw [Int32.lt_iff_toInt_lt, nI_toInt hk] at h
  have : ((-1 : Int32).toInt) = -1 := by decide
  omega
theorem srch_eq {fit : Int32 → Bool} {mf : (Nat → Int32) → Bool} {N : Nat} (hN : N ≤ 30) (h0 : fit (nI 0) = mf z0) (h1 : ∀ o, o < N → fit (rkB o) = mf (fb1 o)) (h2 : ∀ o t, o < N → t < N → fit (rkB o ||| rkB t) = mf (fb2 o t)) (fw : Int32) {fi se : Nat} (hb : fi < 2 ^ 31 ∧ se < 2 ^ 31) : SrchOK mf N (ffS fit N (fw, 0, fi, se)) := by
  intro fs sc
  unfold ffS exS
  rw [h0]
  cases hz : mf z0
  · have e0 : tryS false 0 0 0 (fw, 0, fi, se) = (fw, 0, fi, se) := rfl
    rw [e0, if_pos (rfl : ((fw, 0, fi, se) : sS).2.1 = 0), if_neg (by decide : ¬ false = true)]
    have r1 := S1_ones hN h1 (s := (fw, 0, fi, se)) (m := (fs, sc, 0)) ⟨hb, rfl, fun h => absurd rfl h⟩ N (Nat.le_refl _)
    generalize onesS fit (fw, 0, fi, se) N = A at r1 ⊢
    generalize mones mf (fs, sc, 0) N = B at r1 ⊢
    rw [r1.2.1]
    by_cases eB : B.2.2 = 0
    · rw [if_pos eB, if_pos eB]
      have r2 := S2_twS hN h2 (s := A) (m := B) ⟨r1.1, r1.2.1, fun h => absurd eB h⟩ N (Nat.le_refl _)
      generalize twS fit A N N = A2 at r2 ⊢
      generalize mtwS mf B N N = B2 at r2 ⊢
      rw [r2.2.1]
      by_cases eC : B2.2.2 = 0
      · rw [if_pos eC, if_pos eC]
        exact ⟨r2.1, rfl, r2.2.1, fun k hk h => (k_ltm hk h).elim⟩
      · rw [if_neg eC, if_neg eC]
        obtain ⟨g1, g2, g3, g4, g5⟩ := r2.2.2 eC
        refine ⟨r2.1, g1, r2.2.1, fun k hk h => ?_⟩
        unfold numW
        by_cases ek : k = 0
        · rw [if_pos ek, if_pos ek]; dsimp only; rw [g2, blF_n g3]
        · rw [if_neg ek, if_neg ek]; dsimp only; rw [g4, blF_n g5]
    · rw [if_neg eB, if_neg eB]
      obtain ⟨g1, g2, g3⟩ := r1.2.2 eB
      refine ⟨r1.1, g1, r1.2.1, fun k hk h => ?_⟩
      unfold numW
      have ek : k = 0 := by
        rw [g1] at h
        have := (nI_ltI hk (by decide : 1 < 2 ^ 31)).mp h
        omega
      rw [if_pos ek, if_pos ek]; dsimp only; rw [g2, blF_n g3]
  · have e0 : tryS true 0 0 0 (fw, 0, fi, se) = (nI 0, 1, 0, 0) := rfl
    rw [e0, if_neg (by decide : ¬ ((nI 0, 1, 0, 0) : sS).2.1 = 0), if_pos (rfl : true = true)]
    exact ⟨⟨by decide, by decide⟩, rfl, rfl, fun k hk h => (k_lt0 hk h).elim⟩
