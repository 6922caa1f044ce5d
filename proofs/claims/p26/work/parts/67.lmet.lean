/-! THE PAIRS THAT ARE MET: the law's count and the model's (pure) -/
theorem sumN_split {g : Nat → Nat} (a : Nat) : ∀ b, sumN g (a + b) = sumN g a + sumN (fun i => g (a + i)) b := by
  intro b
  induction b with
  | zero => rfl
  | succ b ih =>
    show sumN g (a + b) + g (a + b) = _
    rw [ih]
    simp only [sumN]
    omega
theorem blk64 {h : Nat → Nat} (hz : ∀ i, i < 64 → (6 ≤ i / 8 ∨ 5 ≤ i % 8) → h i = 0) : sumN h 64 = sumN (fun k => h (8 * (k / 5) + k % 5)) 30 := by
  have z5 := hz 5 (by decide) (by decide)
  have z6 := hz 6 (by decide) (by decide)
  have z7 := hz 7 (by decide) (by decide)
  have z13 := hz 13 (by decide) (by decide)
  have z14 := hz 14 (by decide) (by decide)
  have z15 := hz 15 (by decide) (by decide)
  have z21 := hz 21 (by decide) (by decide)
  have z22 := hz 22 (by decide) (by decide)
  have z23 := hz 23 (by decide) (by decide)
  have z29 := hz 29 (by decide) (by decide)
  have z30 := hz 30 (by decide) (by decide)
  have z31 := hz 31 (by decide) (by decide)
  have z37 := hz 37 (by decide) (by decide)
  have z38 := hz 38 (by decide) (by decide)
  have z39 := hz 39 (by decide) (by decide)
  have z45 := hz 45 (by decide) (by decide)
  have z46 := hz 46 (by decide) (by decide)
  have z47 := hz 47 (by decide) (by decide)
  have z48 := hz 48 (by decide) (by decide)
  have z49 := hz 49 (by decide) (by decide)
  have z50 := hz 50 (by decide) (by decide)
  have z51 := hz 51 (by decide) (by decide)
  have z52 := hz 52 (by decide) (by decide)
  have z53 := hz 53 (by decide) (by decide)
  have z54 := hz 54 (by decide) (by decide)
  have z55 := hz 55 (by decide) (by decide)
  have z56 := hz 56 (by decide) (by decide)
  have z57 := hz 57 (by decide) (by decide)
  have z58 := hz 58 (by decide) (by decide)
  have z59 := hz 59 (by decide) (by decide)
  have z60 := hz 60 (by decide) (by decide)
  have z61 := hz 61 (by decide) (by decide)
  have z62 := hz 62 (by decide) (by decide)
  have z63 := hz 63 (by decide) (by decide)
  have e1 : sumN h 64 = 0 + h 0 + h 1 + h 2 + h 3 + h 4 + h 5 + h 6 + h 7 + h 8 + h 9 + h 10 + h 11 + h 12 + h 13 + h 14 + h 15 + h 16 + h 17 + h 18 + h 19 + h 20 + h 21 + h 22 + h 23 + h 24 + h 25 + h 26 + h 27 + h 28 + h 29 + h 30 + h 31 + h 32 + h 33 + h 34 + h 35 + h 36 + h 37 + h 38 + h 39 + h 40 + h 41 + h 42 + h 43 + h 44 + h 45 + h 46 + h 47 + h 48 + h 49 + h 50 + h 51 + h 52 + h 53 + h 54 + h 55 + h 56 + h 57 + h 58 + h 59 + h 60 + h 61 + h 62 + h 63 := rfl
  have e2 : sumN (fun k => h (8 * (k / 5) + k % 5)) 30 = 0 + h 0 + h 1 + h 2 + h 3 + h 4 + h 8 + h 9 + h 10 + h 11 + h 12 + h 16 + h 17 + h 18 + h 19 + h 20 + h 24 + h 25 + h 26 + h 27 + h 28 + h 32 + h 33 + h 34 + h 35 + h 36 + h 40 + h 41 + h 42 + h 43 + h 44 := rfl
  rw [e1, e2]
  omega
theorem mmB_at {c : Nat → Nat} {j : Nat} : ∀ n, mmB c n j = true ↔ ∃ m, m < n ∧ ∃ q, q < 6 ∧ prX q (c m) = j := by
  intro n
  induction n with
  | zero =>
    constructor
    · intro h; exact Bool.noConfusion (show false = true from h)
    · rintro ⟨m, hm, -⟩; exact absurd hm (Nat.not_lt_zero _)
  | succ n ih =>
    show mqB (mmB c n) (c n) 6 j = true ↔ _
    rw [mqB_at, ih]
    constructor
    · rintro (⟨m, hm, h⟩ | ⟨q, hq, h⟩)
      · exact ⟨m, by omega, h⟩
      · exact ⟨n, by omega, q, hq, h⟩
    · rintro ⟨m, hm, h⟩
      by_cases e : m = n
      · subst e; exact Or.inr h
      · exact Or.inl ⟨m, by omega, h⟩
theorem anyB_at {g : Nat → Bool} : ∀ n, anyB g n = true ↔ ∃ m, m < n ∧ g m = true := by
  intro n
  induction n with
  | zero =>
    constructor
    · intro h; exact Bool.noConfusion (show false = true from h)
    · rintro ⟨m, hm, -⟩; exact absurd hm (Nat.not_lt_zero _)
  | succ n ih =>
    simp only [anyB, Bool.or_eq_true]
    rw [ih]
    constructor
    · rintro (⟨m, hm, h⟩ | h)
      · exact ⟨m, by omega, h⟩
      · exact ⟨n, by omega, h⟩
    · rintro ⟨m, hm, h⟩
      by_cases e : m = n
      · subst e; exact Or.inr h
      · exact Or.inl ⟨m, by omega, h⟩
/-- the settings of a pair's kind -/
def qa (q : Nat) : Nat := if 3 ≤ q then (if 5 ≤ q then 2 else 1) else 0
def qb (q : Nat) : Nat := if q = 0 then 1 else if q = 1 then 2 else if q = 3 then 2 else 3
theorem fr4_q {c : Nat → Nat} {m q : Nat} : prX q (c m) = 64 * q + 8 * fr4 c (4 * m + qa q) + fr4 c (4 * m + qb q) := by
  unfold prX prI qa qb
  have e0 : fr4 c (4 * m + 0) = c m / 1000 := fr4_n0
  have e1 : fr4 c (4 * m + 1) = c m / 100 % 10 := fr4_n1
  have e2 : fr4 c (4 * m + 2) = c m / 10 % 10 := fr4_n2
  have e3 : fr4 c (4 * m + 3) = c m % 10 := fr4_n3
  by_cases h3 : 3 ≤ q
  · by_cases h5 : 5 ≤ q
    · rw [if_pos h3, if_pos h5, if_pos h3, if_pos h5, if_neg (by omega), if_neg (by omega), if_neg (by omega), if_neg (by omega), if_neg (by omega), if_neg (by omega), e2, e3]
    · rw [if_pos h3, if_neg h5, if_pos h3, if_neg h5, if_neg (by omega), if_neg (by omega), if_neg (by omega : ¬ q = 0), if_neg (by omega : ¬ q = 1), e1]
      by_cases h : q = 3
      · rw [if_pos h, if_pos h, e2]
      · rw [if_neg h, if_neg h, e3]
  · rw [if_neg h3, if_neg h3, e0]
    by_cases h0 : q = 0
    · rw [if_pos h0, if_pos h0, e1]
    · rw [if_neg h0, if_neg h0]
      by_cases h1 : q = 1
      · rw [if_pos h1, if_pos h1, e2]
      · rw [if_neg h1, if_neg h1, if_neg (by omega), if_neg (by omega), e3]
theorem fr4_qb {np : Nat} {c : Nat → Nat} {m q : Nat} (hx : okN np (c m)) (h4 : np ≤ 4) (hq : q < 6) : fr4 c (4 * m + qa q) < 6 ∧ fr4 c (4 * m + qb q) < 5 := by
  obtain ⟨⟨h1, h2, h3, h5⟩, h6⟩ := hx
  have e0 : fr4 c (4 * m + 0) = c m / 1000 := fr4_n0
  have e1 : fr4 c (4 * m + 1) = c m / 100 % 10 := fr4_n1
  have e2 : fr4 c (4 * m + 2) = c m / 10 % 10 := fr4_n2
  have e3 : fr4 c (4 * m + 3) = c m % 10 := fr4_n3
  unfold qa qb
  constructor
  · repeat' split
    · rw [e2]; omega
    · rw [e1]; omega
    · rw [e0]; omega
  · repeat' split
    · rw [e1]; omega
    · rw [e2]; omega
    · rw [e2]; omega
    · rw [e3]; omega
section LMT
variable {np n : Nat} {c : Nat → Nat}
theorem mm_any (h4 : np ≤ 4) (hc : ∀ k, k < n → okN np (c k)) {q k : Nat} (hq : q < 6) (hk : k < 30) : mmB c n (64 * q + (8 * (k / 5) + k % 5)) = anyB (lmF c (qa q) (qb q) k) n := by
  refine bool_iff ?_
  rw [mmB_at, anyB_at]
  constructor
  · rintro ⟨m, hm, q', hq', h⟩
    rw [fr4_q] at h
    have hb := fr4_qb (hc m hm) h4 hq'
    have e : q' = q := by omega
    subst e
    refine ⟨m, hm, ?_⟩
    unfold lmF
    rw [decide_eq_true (by omega : fr4 c (4 * m + qa q') = k / 5), decide_eq_true (by omega : fr4 c (4 * m + qb q') = k % 5)]
    rfl
  · rintro ⟨m, hm, h⟩
    unfold lmF at h
    rw [Bool.and_eq_true] at h
    have h1 := of_decide_eq_true h.1
    have h2 := of_decide_eq_true h.2
    exact ⟨m, hm, q, hq, by rw [fr4_q, h1, h2]; omega⟩
theorem mm_out (h4 : np ≤ 4) (hc : ∀ k, k < n → okN np (c k)) {q i : Nat} (hi : i < 64) (h : 6 ≤ i / 8 ∨ 5 ≤ i % 8) : mmB c n (64 * q + i) = false := by
  cases hb : mmB c n (64 * q + i)
  · rfl
  · obtain ⟨m, hm, q', hq', h9⟩ := (mmB_at n).mp hb
    rw [fr4_q] at h9
    have hb := fr4_qb (hc m hm) h4 hq'
    exfalso
    omega
def lmS (c : Nat → Nat) (n a b : Nat) : Nat := sumN (fun i => if anyB (lmF c a b i) n = true then 1 else 0) 30
theorem lmK_sum (a b ct : Nat) : ∀ k, lmK c n a b ct k = ct + sumN (fun i => if anyB (lmF c a b i) n = true then 1 else 0) k := by
  intro k
  induction k with
  | zero => rfl
  | succ k ih => simp only [lmK, sumN]; rw [ih]; omega
theorem lmK_eq (a b ct : Nat) : lmK c n a b ct 30 = ct + lmS c n a b := lmK_sum a b ct 30
theorem mm_blk (h4 : np ≤ 4) (hc : ∀ k, k < n → okN np (c k)) {q a b : Nat} (hq : q < 6) (ha : qa q = a) (hb : qb q = b) : sumN (fun i => if mmB c n (64 * q + i) = true then 1 else 0) 64 = lmS c n a b := by
  subst ha
  subst hb
  refine (blk64 (h := fun i => if mmB c n (64 * q + i) = true then 1 else 0) (fun i hi h => ?_)).trans (sumN_congr 30 fun k hk => ?_)
  · show (if mmB c n (64 * q + i) = true then 1 else 0) = 0
    rw [mm_out h4 hc hi h]
    rfl
  · show (if mmB c n (64 * q + (8 * (k / 5) + k % 5)) = true then 1 else 0) = _
    rw [mm_any h4 hc hq hk]
theorem sumN_blk {g : Nat → Nat} : ∀ m, sumN g (64 * m) = sumN (fun q => sumN (fun i => g (64 * q + i)) 64) m := by
  intro m
  induction m with
  | zero => rfl
  | succ m ih =>
    rw [show 64 * (m + 1) = 64 * m + 64 from by omega, sumN_split, ih]
    rfl
theorem sum6 {G : Nat → Nat} {a0 a1 a2 a3 a4 a5 : Nat} (h0 : G 0 = a0) (h1 : G 1 = a1) (h2 : G 2 = a2) (h3 : G 3 = a3) (h4 : G 4 = a4) (h5 : G 5 = a5) : sumN G 6 = a0 + a1 + a2 + a3 + a4 + a5 := by
  subst h0 h1 h2 h3 h4 h5
  simp only [sumN]
  omega
theorem lmB_y {a ct b : Nat} (h : a < b) : lmB c n a ct (b + 1) = lmB c n a ct b + lmS c n a b := (if_pos h).trans (lmK_eq a b _)
theorem lmB_n {a ct b : Nat} (h : ¬ a < b) : lmB c n a ct (b + 1) = lmB c n a ct b := if_neg h
theorem lmB_00 {a ct : Nat} : lmB c n a ct 0 = ct := rfl
theorem lmA_eq : lmA c n 4 = lmS c n 0 1 + lmS c n 0 2 + lmS c n 0 3 + lmS c n 1 2 + lmS c n 1 3 + lmS c n 2 3 := by
  have k0 : ∀ ct, lmB c n 0 ct 4 = ct + lmS c n 0 1 + lmS c n 0 2 + lmS c n 0 3 := fun ct => by
    rw [lmB_y (b := 3) (by decide), lmB_y (b := 2) (by decide), lmB_y (b := 1) (by decide), lmB_n (b := 0) (by decide), lmB_00]
  have k1 : ∀ ct, lmB c n 1 ct 4 = ct + lmS c n 1 2 + lmS c n 1 3 := fun ct => by
    rw [lmB_y (b := 3) (by decide), lmB_y (b := 2) (by decide), lmB_n (b := 1) (by decide), lmB_n (b := 0) (by decide), lmB_00]
  have k2 : ∀ ct, lmB c n 2 ct 4 = ct + lmS c n 2 3 := fun ct => by
    rw [lmB_y (b := 3) (by decide), lmB_n (b := 2) (by decide), lmB_n (b := 1) (by decide), lmB_n (b := 0) (by decide), lmB_00]
  have k3 : ∀ ct, lmB c n 3 ct 4 = ct := fun ct => by
    rw [lmB_n (b := 3) (by decide), lmB_n (b := 2) (by decide), lmB_n (b := 1) (by decide), lmB_n (b := 0) (by decide), lmB_00]
  have a1 : ∀ a, lmA c n (a + 1) = lmB c n a (lmA c n a) 4 := fun _ => rfl
  rw [a1 3, k3, a1 2, k2, a1 1, k1, a1 0, k0]
  show (0 : Nat) + lmS c n 0 1 + lmS c n 0 2 + lmS c n 0 3 + lmS c n 1 2 + lmS c n 1 3 + lmS c n 2 3 = _
  rw [Nat.zero_add]
theorem met_eqL (h4 : np ≤ 4) (hc : ∀ k, k < n → okN np (c k)) : cnt384 (mmB c n) = lmA c n 4 := by
  rw [lmA_eq]
  exact (sumN_blk (g := fun k => if mmB c n k = true then 1 else 0) 6).trans (sum6 (mm_blk h4 hc (by decide) (by decide) (by decide)) (mm_blk h4 hc (by decide) (by decide) (by decide)) (mm_blk h4 hc (by decide) (by decide) (by decide)) (mm_blk h4 hc (by decide) (by decide) (by decide)) (mm_blk h4 hc (by decide) (by decide) (by decide)) (mm_blk h4 hc (by decide) (by decide) (by decide)))
end LMT
