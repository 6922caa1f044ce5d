/-! PAIRS: the class's rows of bits and the reference's row of booleans -/
def va (q x : Nat) : Nat := if 3 ≤ q then (if 5 ≤ q then 11 + x / 10 % 10 else 6 + x / 100 % 10) else x / 1000
def vb (q x : Nat) : Nat := if q = 0 then 6 + x / 100 % 10 else if q = 1 then 11 + x / 10 % 10 else if q = 3 then 11 + x / 10 % 10 else 14 + x % 10
def mxF (f : Nat → Int32) (v w : Nat) : Bool := tb (f v) w
def pxF (x v w : Nat) : Bool := tb (valsF x) v && tb (valsF x) w && decide (v < w)
def cM (A : Nat → Nat → Bool) : Nat := sumN (fun v => sumN (fun w => if A v w = true then 1 else 0) 18) 18
def cfW (y : Int32) : Prop := ∀ w, w < 32 → (w < 6 ∨ 18 ≤ w) → tb y w = false
theorem sumN_congr {g h : Nat → Nat} : ∀ n, (∀ k, k < n → g k = h k) → sumN g n = sumN h n := by
  intro n
  induction n with
  | zero => intro _; rfl
  | succ n ih => intro e; simp only [sumN]; rw [ih (fun k hk => e k (by omega)), e n (by omega)]
theorem sumN_add {g h : Nat → Nat} : ∀ n, sumN (fun k => g k + h k) n = sumN g n + sumN h n := by
  intro n
  induction n with
  | zero => rfl
  | succ n ih => simp only [sumN]; rw [ih]; omega
theorem sumN_upd {g h : Nat → Nat} {i : Nat} (e : ∀ k, k ≠ i → h k = g k) : ∀ n, i < n → sumN h n + g i = sumN g n + h i := by
  intro n
  induction n with
  | zero => intro h; omega
  | succ n ih =>
    intro hi
    simp only [sumN]
    by_cases e1 : i = n
    · subst e1
      have := sumN_congr (g := h) (h := g) i (fun k hk => e k (by omega))
      omega
    · have h1 := ih (by omega)
      have h2 := e n (fun h => e1 h.symm)
      omega
theorem sumN_pos {g : Nat → Nat} {i : Nat} : ∀ n, i < n → 0 < g i → 0 < sumN g n := by
  intro n
  induction n with
  | zero => intro h; omega
  | succ n ih =>
    intro hi hg
    simp only [sumN]
    by_cases e : i = n
    · subst e; omega
    · have := ih (by omega) hg; omega
theorem sumI_n {g : Nat → Nat} {f : Nat → Int32} : ∀ n, (∀ k, k < n → f k = nI (g k)) → sumI f n = nI (sumN g n) := by
  intro n
  induction n with
  | zero => intro _; rfl
  | succ n ih => intro h; simp only [sumI, sumN]; rw [ih (fun k hk => h k (by omega)), h n (by omega), nI_add]
theorem cM_congr {A B : Nat → Nat → Bool} (h : ∀ v w, v < 18 → w < 18 → A v w = B v w) : cM A = cM B :=
  sumN_congr 18 fun v hv => sumN_congr 18 fun w hw => by rw [h v w hv hw]
theorem cM_add {A B C : Nat → Nat → Bool} (h : ∀ v w, v < 18 → w < 18 → (if C v w = true then 1 else 0) = (if A v w = true then 1 else 0) + (if B v w = true then 1 else 0)) : cM C = cM A + cM B := by
  unfold cM
  rw [← sumN_add]
  refine sumN_congr 18 fun v hv => ?_
  rw [← sumN_add]
  exact sumN_congr 18 fun w hw => h v w hv hw
theorem cM_set {A B : Nat → Nat → Bool} {i j : Nat} (hi : i < 18) (hj : j < 18) (h : ∀ v w, B v w = if v = i ∧ w = j then true else A v w) : cM B = cM A + (if A i j = true then 0 else 1) := by
  unfold cM
  have h2 := sumN_upd (g := fun w => if A i w = true then 1 else 0) (h := fun w => if B i w = true then 1 else 0) (i := j) (fun w hw => by rw [show B i w = A i w from (h i w).trans (if_neg fun e => hw e.2)]) 18 hj
  have h3 : B i j = true := by rw [h, if_pos ⟨rfl, rfl⟩]
  have h1 := sumN_upd (g := fun v => sumN (fun w => if A v w = true then 1 else 0) 18) (h := fun v => sumN (fun w => if B v w = true then 1 else 0) 18) (i := i) (fun v hv => sumN_congr 18 fun w hw => by rw [show B v w = A v w from (h v w).trans (if_neg fun e => hv e.1)]) 18 hi
  try dsimp only at h1 h2
  rw [h3, if_pos rfl] at h2
  split <;> rename_i h9
  · rw [if_pos h9] at h2; omega
  · rw [if_neg h9] at h2; omega
theorem cM_pos {A : Nat → Nat → Bool} {i j : Nat} (hi : i < 18) (hj : j < 18) (h : A i j = true) : 0 < cM A :=
  sumN_pos 18 hi (sumN_pos (g := fun w => if A i w = true then 1 else 0) 18 hj (by rw [if_pos h]; decide))
/-! bits counted -/
theorem cf_form {x : Int32} (h : cfW x) : ∃ y, y < 4096 ∧ x = nI (64 * y) := by
  have hlt : x.toBitVec.toNat < 2 ^ 18 := by
    apply Nat.lt_pow_two_of_testBit
    intro i hi
    by_cases h32 : i < 32
    · exact h i h32 (Or.inr hi)
    · exact Nat.testBit_lt_two_pow (Nat.lt_of_lt_of_le x.toBitVec.isLt (Nat.pow_le_pow_right (by decide) (by omega)))
  have hmod : x.toBitVec.toNat % 64 = 0 := by
    apply Nat.eq_of_testBit_eq
    intro i
    rw [Nat.zero_testBit, show (64 : Nat) = 2 ^ 6 from rfl, Nat.testBit_mod_two_pow]
    by_cases h6 : i < 6
    · have := h i (by omega) (Or.inl h6)
      unfold tb BitVec.getLsbD at this
      rw [this]; simp
    · simp [h6]
  refine ⟨x.toBitVec.toNat / 64, by omega, ?_⟩
  apply Int32.toBitVec_inj.mp
  apply BitVec.eq_of_toNat_eq
  rw [bv_toNat_nI, BitVec.toNat_ofNat]
  have := x.toBitVec.isLt
  omega
theorem bc_cnt {x : Int32} (h : cfW x) : bcF x = nI (sumN (fun w => if tb x w = true then 1 else 0) 18) := by
  obtain ⟨y, hy, rfl⟩ := cf_form h
  exact bc_key y hy
theorem tb_hi {x : Int32} {i : Nat} (h : 32 ≤ i) : tb x i = false := by
  unfold tb; exact BitVec.getLsbD_of_ge _ _ h
theorem tb_m2 {v w : Nat} (hv : v < 32) (hw : w < 32) : tb ((-2) <<< (nI v &&& 31)) w = decide (v < w) := by
  have key : ∀ v, v < 32 → ∀ w, w < 32 → tb ((-2) <<< (nI v &&& 31)) w = decide (v < w) := by decide +kernel
  exact key v hv w hw
theorem tb_vals {x w : Nat} (hx : okF x) (hw : w < 32) : tb (valsF x) w = (decide (w = x / 1000) || decide (w = 6 + x / 100 % 10) || decide (w = 11 + x / 10 % 10) || decide (w = 14 + x % 10)) := by
  obtain ⟨h1, h2, h3, h4⟩ := hx
  unfold valsF
  rw [tb_or, tb_or, tb_or, tb_bit (by omega) hw, tb_bit (by omega) hw, tb_bit (by omega) hw, tb_bit (by omega) hw]
  simp only [eq_comm]
theorem tb_part {x v w : Nat} (hw : w < 32) : tb (partF v (valsF x)) w = pxF x v w := by
  unfold partF pxF
  by_cases h : tb (valsF x) v = true
  · have hv : v < 32 := by
      by_cases h9 : v < 32
      · exact h9
      · rw [tb_hi (by omega)] at h; cases h
    rw [if_pos h, tb_and, tb_m2 hv hw, h]
    rfl
  · rw [if_neg h, tb_n0, vz_bnt h]; rfl
theorem px_iff {x v w : Nat} (hx : okF x) (hv : v < 18) (hw : w < 18) : pxF x v w = true ↔ ∃ q, q < 6 ∧ v = va q x ∧ w = vb q x := by
  have hx' := hx
  obtain ⟨h1, h2, h3, h4⟩ := hx'
  unfold pxF
  rw [tb_vals hx (by omega), tb_vals hx (by omega)]
  simp only [Bool.and_eq_true, Bool.or_eq_true, decide_eq_true_eq]
  constructor
  · intro ⟨⟨ha, hb⟩, hlt⟩
    rcases ha with ((ha | ha) | ha) | ha <;> rcases hb with ((hb | hb) | hb) | hb
    all_goals first
      | (exfalso; omega)
      | exact ⟨0, by decide, ha, hb⟩
      | exact ⟨1, by decide, ha, hb⟩
      | exact ⟨2, by decide, ha, hb⟩
      | exact ⟨3, by decide, ha, hb⟩
      | exact ⟨4, by decide, ha, hb⟩
      | exact ⟨5, by decide, ha, hb⟩
  · intro ⟨q, hq, ha, hb⟩
    obtain rfl | rfl | rfl | rfl | rfl | rfl : q = 0 ∨ q = 1 ∨ q = 2 ∨ q = 3 ∨ q = 4 ∨ q = 5 := by omega
    all_goals
      simp only [va, vb] at ha hb
      simp at ha hb
      omega
theorem cf_part {x : Nat} (hx : okF x) (v : Nat) : cfW (partF v (valsF x)) := by
  intro w hw h
  rw [tb_part hw]
  have hx' := hx
  obtain ⟨h1, h2, h3, h4⟩ := hx'
  cases hb : pxF x v w with
  | false => rfl
  | true =>
    exfalso
    unfold pxF at hb
    simp only [Bool.and_eq_true, decide_eq_true_eq] at hb
    obtain ⟨⟨ha, hb⟩, hlt⟩ := hb
    rw [tb_vals hx (by omega)] at ha hb
    simp only [Bool.or_eq_true, decide_eq_true_eq] at ha hb
    omega
theorem ab_lt {q x : Nat} (hq : q < 6) (hx : okF x) : va q x < 18 ∧ vb q x < 18 := by
  obtain ⟨h1, h2, h3, h4⟩ := hx
  unfold va vb
  refine ⟨?_, ?_⟩ <;> (repeat' split) <;> omega
theorem pr_iff {q q' x y : Nat} (hq : q < 6) (hq' : q' < 6) (hx : okF x) (hy : okF y) : prX q x = prX q' y ↔ (va q x = va q' y ∧ vb q x = vb q' y) := by
  obtain ⟨h1, h2, h3, h4⟩ := hx
  obtain ⟨k1, k2, k3, k4⟩ := hy
  obtain rfl | rfl | rfl | rfl | rfl | rfl : q = 0 ∨ q = 1 ∨ q = 2 ∨ q = 3 ∨ q = 4 ∨ q = 5 := by omega
  all_goals
    obtain rfl | rfl | rfl | rfl | rfl | rfl : q' = 0 ∨ q' = 1 ∨ q' = 2 ∨ q' = 3 ∨ q' = 4 ∨ q' = 5 := by omega
    all_goals
      simp only [prX, prI, va, vb]
      simp
      omega
theorem pr_ne {q q' x : Nat} (hq : q < 6) (hq' : q' < 6) (hx : okF x) (h : q ≠ q') : prX q x ≠ prX q' x := by
  obtain ⟨h1, h2, h3, h4⟩ := hx
  unfold prX prI
  have a1 : (if 3 ≤ q then if 5 ≤ q then x / 10 % 10 else x / 100 % 10 else x / 1000) < 8 := by (repeat' split) <;> omega
  have a2 : (if 3 ≤ q' then if 5 ≤ q' then x / 10 % 10 else x / 100 % 10 else x / 1000) < 8 := by (repeat' split) <;> omega
  have b1 : (if q = 0 then x / 100 % 10 else if q = 1 then x / 10 % 10 else if q = 3 then x / 10 % 10 else x % 10) < 8 := by (repeat' split) <;> omega
  have b2 : (if q' = 0 then x / 100 % 10 else if q' = 1 then x / 10 % 10 else if q' = 3 then x / 10 % 10 else x % 10) < 8 := by (repeat' split) <;> omega
  omega
theorem prX_lt {q x : Nat} (hq : q < 6) (hx : okF x) : prX q x < 384 := prI_lt hq (by have := hx.1; omega) hx.2.1 hx.2.2.1 hx.2.2.2
/-! a frame met -/
theorem mqB_at {m : Nat → Bool} {x j : Nat} : ∀ k, mqB m x k j = true ↔ (m j = true ∨ ∃ q, q < k ∧ prX q x = j) := by
  intro k
  induction k with
  | zero => simp [mqB]
  | succ k ih =>
    simp only [mqB, upB]
    by_cases e : j = prX k x
    · rw [if_pos e]
      exact ⟨fun _ => Or.inr ⟨k, by omega, e.symm⟩, fun _ => rfl⟩
    · rw [if_neg e, ih]
      constructor
      · rintro (h | ⟨q, h1, h2⟩)
        · exact Or.inl h
        · exact Or.inr ⟨q, by omega, h2⟩
      · rintro (h | ⟨q, h1, h2⟩)
        · exact Or.inl h
        · by_cases eq : q = k
          · subst eq; exact absurd h2.symm e
          · exact Or.inr ⟨q, by omega, h2⟩
def mqA (A : Nat → Nat → Bool) (x : Nat) : Nat → Nat → Nat → Bool
  | 0 => A
  | q + 1 => fun v w => if v = va q x ∧ w = vb q x then true else mqA A x q v w
theorem mqA_at {A : Nat → Nat → Bool} {x v w : Nat} : ∀ k, mqA A x k v w = true ↔ (A v w = true ∨ ∃ q, q < k ∧ v = va q x ∧ w = vb q x) := by
  intro k
  induction k with
  | zero => simp [mqA]
  | succ k ih =>
    simp only [mqA]
    by_cases e : v = va k x ∧ w = vb k x
    · rw [if_pos e]
      exact ⟨fun _ => Or.inr ⟨k, by omega, e⟩, fun _ => rfl⟩
    · rw [if_neg e, ih]
      constructor
      · rintro (h | ⟨q, h1, h2⟩)
        · exact Or.inl h
        · exact Or.inr ⟨q, by omega, h2⟩
      · rintro (h | ⟨q, h1, h2⟩)
        · exact Or.inl h
        · by_cases eq : q = k
          · subst eq; exact absurd h2 e
          · exact Or.inr ⟨q, by omega, h2⟩
theorem bool_iff {a b : Bool} (h : a = true ↔ b = true) : a = b := by cases a <;> cases b <;> simp_all
theorem cnt_set {m m' : Nat → Bool} {i : Nat} (hi : i < 384) (h : m' = upB m i true) : cnt384 m' = cnt384 m + (if m i = true then 0 else 1) := by
  unfold cnt384
  have h1 := sumN_upd (g := fun k => if m k = true then 1 else 0) (h := fun k => if m' k = true then 1 else 0) (i := i) (fun k hk => by rw [show m' k = m k from (congrFun h k).trans (if_neg hk)]) 384 hi
  have h2 : m' i = true := by rw [h]; simp [upB]
  try dsimp only at h1
  rw [h2, if_pos rfl] at h1
  generalize sumN (fun k => if m' k = true then 1 else 0) 384 = z1 at h1 ⊢
  generalize sumN (fun k => if m k = true then 1 else 0) 384 = z2 at h1 ⊢
  split <;> rename_i h9
  · rw [if_pos h9] at h1; omega
  · rw [if_neg h9] at h1; omega
theorem cnt_mq {m : Nat → Bool} {x : Nat} (hx : okF x) : ∀ k, k ≤ 6 → cnt384 (mqB m x k) = cnt384 m + sumN (fun q => if m (prX q x) = true then 0 else 1) k := by
  intro k
  induction k with
  | zero => intro _; exact (Nat.add_zero _).symm
  | succ k ih =>
    intro hk
    have e : mqB m x k (prX k x) = m (prX k x) := bool_iff ((mqB_at k).trans ⟨fun h => h.elim id fun ⟨q, h1, h2⟩ => absurd h2 (pr_ne (by omega) (by omega) hx (by omega)), Or.inl⟩)
    have h1 := cnt_set (m := mqB m x k) (m' := mqB m x (k + 1)) (prX_lt (q := k) (by omega) hx) rfl
    rw [h1, ih (by omega), e]
    simp only [sumN]
    omega
theorem cM_mq {A : Nat → Nat → Bool} {x : Nat} (hx : okF x) : ∀ k, k ≤ 6 → cM (mqA A x k) = cM A + sumN (fun q => if A (va q x) (vb q x) = true then 0 else 1) k := by
  intro k
  induction k with
  | zero => intro _; exact (Nat.add_zero _).symm
  | succ k ih =>
    intro hk
    have e : mqA A x k (va k x) (vb k x) = A (va k x) (vb k x) := bool_iff ((mqA_at k).trans ⟨fun h => h.elim id fun ⟨q, h1, h2, h3⟩ => absurd ((pr_iff (by omega) (by omega) hx hx).mpr ⟨h2, h3⟩) (pr_ne (q := k) (q' := q) (by omega) (by omega) hx (by omega)), Or.inl⟩)
    have h1 := cM_set (A := mqA A x k) (B := mqA A x (k + 1)) (ab_lt (q := k) (by omega) hx).1 (ab_lt (q := k) (by omega) hx).2 (fun v w => rfl)
    rw [h1, ih (by omega), e]
    simp only [sumN]
    omega
/-- class and reference have met the same pairs -/
def RelM (m : Nat → Bool) (A : Nat → Nat → Bool) : Prop := ∀ q x, q < 6 → okF x → m (prX q x) = A (va q x) (vb q x)
theorem RelM_mq {m : Nat → Bool} {A : Nat → Nat → Bool} {x : Nat} (hx : okF x) (h : RelM m A) : RelM (mqB m x 6) (mqA A x 6) := by
  intro q y hq hy
  refine bool_iff ?_
  rw [mqB_at, mqA_at, h q y hq hy]
  constructor
  · rintro (h | ⟨q', h1, h2⟩)
    · exact Or.inl h
    · exact Or.inr ⟨q', h1, (pr_iff hq h1 hy hx).mp h2.symm⟩
  · rintro (h | ⟨q', h1, h2⟩)
    · exact Or.inl h
    · exact Or.inr ⟨q', h1, ((pr_iff hq h1 hy hx).mpr h2).symm⟩
theorem np_A {m : Nat → Bool} {A : Nat → Nat → Bool} {x : Nat} (hx : okF x) (h : RelM m A) : npN m x = sumN (fun q => if A (va q x) (vb q x) = true then 0 else 1) 6 :=
  sumN_congr 6 fun q hq => by rw [h q x hq hx]
theorem mx_meet {f : Nat → Int32} {x : Nat} (hx : okF x) {v w : Nat} (hv : v < 18) (hw : w < 18) : mxF (meetF f x) v w = mqA (mxF f) x 6 v w := by
  refine bool_iff ?_
  rw [mqA_at, ← px_iff hx hv hw, ← tb_part (x := x) (v := v) (by omega : w < 32)]
  unfold mxF meetF
  rw [tb_or, Bool.or_eq_true]
theorem cM_gain {f : Nat → Int32} {x : Nat} (hx : okF x) : cM (mxF (meetF f x)) = cM (mxF f) + cM (fun v w => pxF x v w && !mxF f v w) := by
  refine cM_add fun v w hv hw => ?_
  unfold mxF meetF
  rw [tb_or, tb_part (by omega)]
  cases tb (f v) w <;> cases pxF x v w <;> rfl
theorem gain_eq {f : Nat → Int32} {m : Nat → Bool} {x : Nat} (hx : okF x) (h : RelM m (mxF f)) : gainF f x = nI (npN m x) := by
  have h1 : gainF f x = nI (cM (fun v w => pxF x v w && !mxF f v w)) := by
    unfold gainF
    refine sumI_n 18 fun v hv => ?_
    rw [bc_cnt (fun w hw h9 => by rw [tb_and, cf_part hx v w hw h9]; rfl)]
    congr 1
    refine sumN_congr 18 fun w hw => ?_
    rw [tb_and, tb_part (by omega), tb_not (by omega)]
    rfl
  rw [h1]
  congr 1
  have h2 := cM_gain (f := f) hx
  have h3 := cM_mq (A := mxF f) hx 6 (Nat.le_refl _)
  have h4 : cM (mxF (meetF f x)) = cM (mqA (mxF f) x 6) := cM_congr fun v w hv hw => mx_meet hx hv hw
  rw [← h4, ← np_A hx h] at h3
  omega
theorem meet_cnt {f : Nat → Int32} {m : Nat → Bool} {x : Nat} (hx : okF x) (h : RelM m (mxF f)) : cM (mxF (meetF f x)) = cM (mxF f) + npN m x := by
  rw [np_A hx h, ← cM_mq hx 6 (Nat.le_refl _)]
  exact cM_congr fun v w hv hw => mx_meet hx hv hw
def RelA (m : Nat → Bool) (f : Nat → Int32) : Prop := (∀ v, cfW (f v)) ∧ RelM m (mxF f) ∧ cM (mxF f) = cnt384 m
theorem RelA_meet {f : Nat → Int32} {m : Nat → Bool} {x : Nat} (hx : okF x) (h : RelA m f) : RelA (mqB m x 6) (meetF f x) := by
  obtain ⟨h1, h2, h3⟩ := h
  refine ⟨fun v w hw h9 => ?_, fun q y hq hy => ?_, ?_⟩
  · unfold meetF
    rw [tb_or, h1 v w hw h9, cf_part hx v w hw h9]; rfl
  · rw [mx_meet hx (ab_lt hq hy).1 (ab_lt hq hy).2]
    exact RelM_mq hx h2 q y hq hy
  · rw [meet_cnt hx h2, h3, cnt_mq hx 6 (Nat.le_refl _)]
    rfl
theorem cnt_0 : cnt384 (fun _ => false) = 0 := by decide +kernel
theorem RelA_0 : RelA (fun _ => false) (fun _ => nI 0) := by
  refine ⟨fun v w _ _ => tb_n0 w, fun q x _ _ => (tb_n0 _).symm, ?_⟩
  rw [cnt_0]
  have : cM (mxF fun _ => nI 0) = cM (fun _ _ => false) := cM_congr fun v w _ _ => tb_n0 w
  rw [this]
  decide +kernel
theorem RelA_all {c : Nat → Nat} : ∀ k, (∀ j, j < k → okF (c j)) → RelA (mmB c k) (mallF c k) := by
  intro k
  induction k with
  | zero => intro _; exact RelA_0
  | succ k ih => intro h; exact RelA_meet (h k (by omega)) (ih fun j hj => h j (by omega))
theorem met_eq {m : Nat → Bool} {f : Nat → Int32} (h : RelA m f) : sumI (fun v => bcF (f v)) 18 = nI (cnt384 m) := by
  rw [← h.2.2]
  exact sumI_n 18 fun v hv => bc_cnt (h.1 v)
