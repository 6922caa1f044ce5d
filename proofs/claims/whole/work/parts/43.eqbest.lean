/-! THE BEST FRAME, cover -/
theorem sc_ok {np k : Nat} (h6 : np ≤ 6) (hk : k < 60 * np) : okN np (scX k) := by
  obtain ⟨e1, e2, e3, e4⟩ := sc_parts (a := k / 60) (b := k % 60 / 12) (c := k % 12 / 4) (d := k % 4) (by omega) (by omega) (by omega)
  have e0 : scX k = 1000 * (k / 60) + 100 * (k % 60 / 12) + 10 * (k % 12 / 4) + k % 4 := rfl
  unfold okN okF
  rw [e0]
  refine ⟨⟨?_, ?_, ?_, ?_⟩, ?_⟩ <;> omega
theorem sc_at {p t s d : Nat} (ht : t < 5) (hs : s < 3) (hd : d < 4) : scX (60 * p + 12 * t + 4 * s + d) = 1000 * p + 100 * t + 10 * s + d := by
  unfold scX; omega
/-- k is the first of the best in [lo, hi) -/
def Best (V : Nat → Nat) (lo hi k : Nat) : Prop := lo ≤ k ∧ k < hi ∧ (∀ j, lo ≤ j → j < hi → V j ≤ V k) ∧ ∀ j, lo ≤ j → j < k → V j < V k
theorem Best.uniq {V : Nat → Nat} {lo hi k k' : Nat} (h : Best V lo hi k) (h' : Best V lo hi k') : k = k' := by
  obtain ⟨a1, a2, a3, a4⟩ := h
  obtain ⟨b1, b2, b3, b4⟩ := h'
  by_cases e : k = k'
  · exact e
  · by_cases e1 : k < k'
    · have := b4 k a1 e1; have := a3 k' b1 b2; omega
    · have := a4 k' b1 (by omega); have := b3 k a1 a2; omega
def InvB (V : Nat → Nat) (lo hi : Nat) (a : Nat × Int32) : Prop := (lo = hi ∧ a = (0, (-1))) ∨ ∃ k, Best V lo hi k ∧ a = (scX k, nI (V k))
theorem le_m1 {n : Nat} (h : n < 2 ^ 31) : ¬ nI n ≤ (-1) := by
  rw [Int32.le_iff_toInt_le, nI_toInt h]
  have : ((-1 : Int32).toInt) = -1 := by decide
  omega
section BST
variable {G : Nat → Int32} {V : Nat → Nat}
/-- a run of frames behind another, its best one first of all -/
theorem InvB_join (hV : ∀ k, V k < 2 ^ 31) {lo mid hi k : Nat} {a : Nat × Int32} (hl : lo ≤ mid) (h : InvB V lo mid a) (hk : Best V mid hi k) (hG : G (scX k) = nI (V k)) : InvB V lo hi (bfStep G (scX k) a) := by
  obtain ⟨k1, k2, k3, k4⟩ := hk
  rcases h with ⟨e, rfl⟩ | ⟨j, hj, rfl⟩
  · subst e
    have : bfStep G (scX k) (0, (-1)) = (scX k, nI (V k)) := by
      simp only [bfStep]
      rw [hG, if_neg (le_m1 (hV k)), if_neg (le_m1 (hV k))]
    rw [this]
    exact Or.inr ⟨k, ⟨k1, k2, k3, k4⟩, rfl⟩
  · obtain ⟨j1, j2, j3, j4⟩ := hj
    by_cases hle : V k ≤ V j
    · have : bfStep G (scX k) (scX j, nI (V j)) = (scX j, nI (V j)) := by
        simp only [bfStep]
        rw [hG, if_pos ((nI_leI (hV k) (hV j)).mpr hle), if_pos ((nI_leI (hV k) (hV j)).mpr hle)]
      rw [this]
      refine Or.inr ⟨j, ⟨j1, by omega, fun i h1 h2 => ?_, j4⟩, rfl⟩
      by_cases hi' : i < mid
      · exact j3 i h1 hi'
      · have := k3 i (by omega) h2; omega
    · have hn : ¬ nI (V k) ≤ nI (V j) := fun h9 => hle ((nI_leI (hV k) (hV j)).mp h9)
      have : bfStep G (scX k) (scX j, nI (V j)) = (scX k, nI (V k)) := by
        simp only [bfStep]
        rw [hG, if_neg hn, if_neg hn]
      rw [this]
      refine Or.inr ⟨k, ⟨by omega, k2, fun i h1 h2 => ?_, fun i h1 h2 => ?_⟩, rfl⟩
      · by_cases hi' : i < mid
        · have := j3 i h1 hi'; omega
        · exact k3 i (by omega) h2
      · by_cases hi' : i < mid
        · have := j3 i h1 hi'; omega
        · exact k4 i (by omega) h2
theorem InvB_one (hV : ∀ k, V k < 2 ^ 31) {lo hi : Nat} {a : Nat × Int32} (hl : lo ≤ hi) (h : InvB V lo hi a) (hG : G (scX hi) = nI (V hi)) : InvB V lo (hi + 1) (bfStep G (scX hi) a) :=
  InvB_join hV hl h ⟨Nat.le_refl _, by omega, fun j h1 h2 => Nat.le_of_eq (congrArg V (by omega)), fun j h1 h2 => by omega⟩ hG
theorem InvB_D (hV : ∀ k, V k < 2 ^ 31) {p t s lo : Nat} {a : Nat × Int32} (ht : t < 5) (hs : s < 3) (hG : ∀ k, k < 60 * (p + 1) → G (scX k) = nI (V k)) (hl : lo ≤ 60 * p + 12 * t + 4 * s) (h : InvB V lo (60 * p + 12 * t + 4 * s) a) : ∀ d, d ≤ 4 → InvB V lo (60 * p + 12 * t + 4 * s + d) (bfD G (1000 * p + 100 * t + 10 * s) a d) := by
  intro d
  induction d with
  | zero => intro _; exact h
  | succ d ih =>
    intro hd
    simp only [bfD]
    rw [← sc_at ht hs (by omega : d < 4)]
    exact InvB_one (hi := 60 * p + 12 * t + 4 * s + d) hV (by omega) (ih (by omega)) (hG (60 * p + 12 * t + 4 * s + d) (by omega))
theorem InvB_S (hV : ∀ k, V k < 2 ^ 31) {p t : Nat} (ht : t < 5) (hG : ∀ k, k < 60 * (p + 1) → G (scX k) = nI (V k)) : ∀ s, s ≤ 3 → InvB V (60 * p + 12 * t) (60 * p + 12 * t + 4 * s) (bfS G (1000 * p + 100 * t) s) := by
  intro s
  induction s with
  | zero => intro _; exact Or.inl ⟨rfl, rfl⟩
  | succ s ih =>
    intro hs
    simp only [bfS]
    have := InvB_D hV (p := p) (t := t) (s := s) (lo := 60 * p + 12 * t) ht (by omega) hG (by omega) (ih (by omega)) 4 (Nat.le_refl _)
    rw [show 60 * p + 12 * t + 4 * (s + 1) = 60 * p + 12 * t + 4 * s + 4 by omega]
    exact this
theorem InvB_T (hV : ∀ k, V k < 2 ^ 31) {p : Nat} {a : Nat × Int32} (hG : ∀ k, k < 60 * (p + 1) → G (scX k) = nI (V k)) (h : InvB V 0 (60 * p) a) : ∀ t, t ≤ 5 → InvB V 0 (60 * p + 12 * t) (bfT G p a t) := by
  intro t
  induction t with
  | zero => intro _; exact h
  | succ t ih =>
    intro ht
    simp only [bfT]
    have h1 := InvB_S hV (G := G) (p := p) (t := t) (by omega) hG 3 (Nat.le_refl _)
    rcases h1 with ⟨e, _⟩ | ⟨k, hk, e⟩
    · omega
    · have e1 : (bfS G (1000 * p + 100 * t) 3).1 = scX k := by rw [e]
      rw [e1]
      have hk1 := hk.1
      have hk2 := hk.2.1
      rw [show 60 * p + 12 * (t + 1) = 60 * p + 12 * t + 4 * 3 by omega]
      exact InvB_join hV (Nat.zero_le _) (ih (by omega)) hk (hG k (by omega))
theorem InvB_P (hV : ∀ k, V k < 2 ^ 31) : ∀ p, (∀ k, k < 60 * p → G (scX k) = nI (V k)) → InvB V 0 (60 * p) (bfP G p) := by
  intro p
  induction p with
  | zero => intro _; exact Or.inl ⟨rfl, rfl⟩
  | succ p ih =>
    intro hG
    simp only [bfP]
    have := InvB_T hV hG (ih fun k hk => hG k (by omega)) 5 (Nat.le_refl _)
    rw [show 60 * (p + 1) = 60 * p + 12 * 5 by omega]
    exact this
end BST
theorem scB_inv {m : Nat → Bool} : ∀ K, ((scB m K).1 = 0 ∧ ∀ j, j < K → npN m (scX j) = 0) ∨ (0 < (scB m K).1 ∧ (scB m K).1 = npN m (scX (scB m K).2) ∧ Best (fun k => npN m (scX k)) 0 K (scB m K).2) := by
  intro K
  induction K with
  | zero => exact Or.inl ⟨rfl, fun j h => by omega⟩
  | succ K ih =>
    simp only [scB]
    generalize scB m K = z at ih ⊢
    by_cases hle : npN m (scX K) ≤ z.1
    · rw [if_pos hle, if_pos hle]
      rcases ih with ⟨h1, h2⟩ | ⟨h1, h2, b1, b2, b3, b4⟩
      · refine Or.inl ⟨h1, fun j hj => ?_⟩
        by_cases e : j = K
        · subst e; omega
        · exact h2 j (by omega)
      · refine Or.inr ⟨h1, h2, b1, by omega, fun j _ hj => ?_, b4⟩
        by_cases e : j = K
        · subst e; dsimp only; omega
        · exact b3 j (by omega) (by omega)
    · rw [if_neg hle, if_neg hle]
      refine Or.inr ⟨by omega, rfl, Nat.zero_le _, by omega, fun j _ hj => ?_, fun j _ hj => ?_⟩
      · dsimp only
        by_cases e : j = K
        · subst e; exact Nat.le_refl _
        · rcases ih with ⟨h1, h2⟩ | ⟨h1, h2, b1, b2, b3, b4⟩
          · have := h2 j (by omega); omega
          · have := b3 j (by omega) (by omega); dsimp only at this; omega
      · dsimp only
        rcases ih with ⟨h1, h2⟩ | ⟨h1, h2, b1, b2, b3, b4⟩
        · have := h2 j (by omega); omega
        · have := b3 j (by omega) (by omega); dsimp only at this; omega
theorem best_eq {m : Nat → Bool} {f : Nat → Int32} {np : Nat} (h6 : np ≤ 6) (h : RelA m f) (h0 : 0 < (scB m (60 * np)).1) : (bfP (gainF f) np).1 = scX (scB m (60 * np)).2 := by
  have hG : ∀ k, k < 60 * np → gainF f (scX k) = nI (npN m (scX k)) := fun k hk => gain_eq (sc_ok h6 hk).1 h.2.1
  have h1 := InvB_P (G := gainF f) (V := fun k => npN m (scX k)) (fun k => npN_lt _ _) np hG
  rcases scB_inv (m := m) (60 * np) with ⟨e, _⟩ | ⟨_, _, hb⟩
  · omega
  · rcases h1 with ⟨e, _⟩ | ⟨k, hk, e⟩
    · have := hb.2.1; omega
    · rw [e, hk.uniq hb]
/-! all pairs met: nothing is gained any more -/
def fullM (np v w : Nat) : Bool := (decide (v < np) && decide (6 ≤ w)) || (decide (6 ≤ v) && decide (v < 11) && decide (11 ≤ w)) || (decide (11 ≤ v) && decide (v < 14) && decide (14 ≤ w))
theorem full_cnt {np : Nat} (h : np ≤ 6) : cM (fullM np) = np * 12 + 35 + 12 := by
  have key : ∀ np, np < 7 → cM (fullM np) = np * 12 + 35 + 12 := by decide +kernel
  exact key np (by omega)
def subM (np : Nat) (A : Nat → Nat → Bool) : Prop := ∀ v w, v < 18 → w < 18 → A v w = true → fullM np v w = true
theorem full_ab {np q x : Nat} (hq : q < 6) (hx : okN np x) : fullM np (va q x) (vb q x) = true := by
  obtain ⟨⟨h1, h2, h3, h4⟩, h5⟩ := hx
  unfold fullM
  simp only [Bool.or_eq_true, Bool.and_eq_true, decide_eq_true_eq]
  obtain rfl | rfl | rfl | rfl | rfl | rfl : q = 0 ∨ q = 1 ∨ q = 2 ∨ q = 3 ∨ q = 4 ∨ q = 5 := by omega
  all_goals
    simp only [va, vb]
    simp
    omega
theorem sub_meet {np x : Nat} {f : Nat → Int32} (hx : okN np x) (h : subM np (mxF f)) : subM np (mxF (meetF f x)) := by
  intro v w hv hw
  rw [mx_meet hx.1 hv hw, mqA_at]
  rintro (h1 | ⟨q, hq, rfl, rfl⟩)
  · exact h v w hv hw h1
  · exact full_ab hq hx
theorem sub_all {np : Nat} {c : Nat → Nat} : ∀ k, (∀ j, j < k → okN np (c j)) → subM np (mxF (mallF c k)) := by
  intro k
  induction k with
  | zero =>
    intro _ v w _ _ h
    exact absurd ((tb_n0 w).symm.trans h) (by decide)
  | succ k ih => intro h; exact sub_meet (h k (by omega)) (ih fun j hj => h j (by omega))
theorem full_diff {np : Nat} {A : Nat → Nat → Bool} (h6 : np ≤ 6) (h : subM np A) : np * 12 + 35 + 12 = cM A + cM (fun v w => fullM np v w && !A v w) := by
  rw [← full_cnt h6]
  refine cM_add fun v w hv hw => ?_
  have := h v w hv hw
  cases hA : A v w <;> cases hF : fullM np v w <;> simp_all
theorem full_of {np v w : Nat} (h6 : np ≤ 6) (h2 : 2 ≤ np) (hv : v < 18) (hw : w < 18) (h : fullM np v w = true) : ∃ q k, q < 6 ∧ k < 60 * np ∧ v = va q (scX k) ∧ w = vb q (scX k) := by
  unfold fullM at h
  simp only [Bool.or_eq_true, Bool.and_eq_true, decide_eq_true_eq] at h
  have go : ∀ q p t s d, p < np → t < 5 → s < 3 → d < 4 → q < 6 → v = va q (1000 * p + 100 * t + 10 * s + d) → w = vb q (1000 * p + 100 * t + 10 * s + d) → ∃ q k, q < 6 ∧ k < 60 * np ∧ v = va q (scX k) ∧ w = vb q (scX k) := by
    intro q p t s d hp ht hs hd hq e1 e2
    exact ⟨q, 60 * p + 12 * t + 4 * s + d, hq, by omega, by rw [sc_at ht hs hd]; exact e1, by rw [sc_at ht hs hd]; exact e2⟩
  rcases h with (⟨h1, h3⟩ | ⟨⟨h1, h3⟩, h4⟩) | ⟨⟨h1, h3⟩, h4⟩
  · by_cases a : w < 11
    · exact go 0 v (w - 6) 0 0 (by omega) (by omega) (by omega) (by omega) (by omega) (by simp [va]; omega) (by simp [vb]; omega)
    · by_cases b : w < 14
      · exact go 1 v 0 (w - 11) 0 (by omega) (by omega) (by omega) (by omega) (by omega) (by simp [va]; omega) (by simp [vb]; omega)
      · exact go 2 v 0 0 (w - 14) (by omega) (by omega) (by omega) (by omega) (by omega) (by simp [va]; omega) (by simp [vb]; omega)
  · by_cases b : w < 14
    · exact go 3 0 (v - 6) (w - 11) 0 (by omega) (by omega) (by omega) (by omega) (by omega) (by simp [va]; omega) (by simp [vb]; omega)
    · exact go 4 0 (v - 6) 0 (w - 14) (by omega) (by omega) (by omega) (by omega) (by omega) (by simp [va]; omega) (by simp [vb]; omega)
  · exact go 5 0 0 (v - 11) (w - 14) (by omega) (by omega) (by omega) (by omega) (by omega) (by simp [va]; omega) (by simp [vb]; omega)
theorem sum_zero {g : Nat → Nat} : ∀ n, (∀ k, k < n → g k = 0) → sumN g n = 0 := by
  intro n
  induction n with
  | zero => intro _; rfl
  | succ n ih => intro h; simp only [sumN]; rw [ih fun k hk => h k (by omega), h n (by omega)]
theorem cM_zero {A : Nat → Nat → Bool} (h : ∀ v w, v < 18 → w < 18 → A v w = false) : cM A = 0 :=
  sum_zero 18 fun v hv => sum_zero 18 fun w hw => by rw [h v w hv hw]; rfl
/-- fewer than all are met as long as a frame gains something -/
theorem all_iff {np : Nat} {m : Nat → Bool} {f : Nat → Int32} (h2 : 2 ≤ np) (h6 : np ≤ 6) (h : RelA m f) (hs : subM np (mxF f)) : cnt384 m ≤ np * 12 + 35 + 12 ∧ (cnt384 m < np * 12 + 35 + 12 ↔ 0 < (scB m (60 * np)).1) := by
  have hd := full_diff h6 hs
  rw [h.2.2] at hd
  refine ⟨by omega, ⟨fun hlt => ?_, fun h0 => ?_⟩⟩
  · rcases scB_inv (m := m) (60 * np) with ⟨_, hz⟩ | ⟨h0, _⟩
    · exfalso
      have : cM (fun v w => fullM np v w && !mxF f v w) = 0 := by
        refine cM_zero fun v w hv hw => ?_
        cases hF : fullM np v w with
        | false => rfl
        | true =>
          obtain ⟨q, k, hq, hk, rfl, rfl⟩ := full_of h6 h2 hv hw hF
          have h9 := hz k hk
          have hx := (sc_ok h6 hk).1
          rw [np_A hx h.2.1] at h9
          cases hA : mxF f (va q (scX k)) (vb q (scX k)) with
          | true => rfl
          | false =>
            have := sumN_pos (g := fun q => if mxF f (va q (scX k)) (vb q (scX k)) = true then 0 else 1) 6 hq (by rw [hA]; decide)
            omega
      omega
    · exact h0
  · rcases scB_inv (m := m) (60 * np) with ⟨e, _⟩ | ⟨_, e, hb⟩
    · omega
    · have hk := hb.2.1
      have hx := sc_ok h6 hk
      generalize (scB m (60 * np)).2 = k at *
      rw [e, np_A hx.1 h.2.1] at h0
      have : ∃ q, q < 6 ∧ mxF f (va q (scX k)) (vb q (scX k)) = false := by
        refine Classical.byContradiction fun hn => ?_
        have := sum_zero (g := fun q => if mxF f (va q (scX k)) (vb q (scX k)) = true then 0 else 1) 6 (fun q hq => by
          cases hA : mxF f (va q (scX k)) (vb q (scX k)) with
          | true => rfl
          | false => exact absurd ⟨q, hq, hA⟩ hn)
        omega
      obtain ⟨q, hq, hA⟩ := this
      have := cM_pos (A := fun v w => fullM np v w && !mxF f v w) (ab_lt hq hx.1).1 (ab_lt hq hx.1).2 (by rw [full_ab hq hx, hA]; rfl)
      omega
