/-! PURE WORDS: what the methods answer, and do to their cells, as functions -/
def tb (x : Int32) (i : Nat) : Bool := x.toBitVec.getLsbD i
def bit1 (i : Nat) : Int32 := nI 1 <<< (nI i &&& 31)
def secF (x : Int32) (r : Nat) : Int32 := x >>> (nI (6 * r) &&& 31) &&& nI 63
theorem bv_toNat_nI (i : Nat) : (nI i).toBitVec = BitVec.ofNat 32 i := rfl
theorem nI_and31 {i : Nat} (h : i < 32) : nI i &&& 31 = nI i := by
  have := pk_andN (n := i) (by omega) (m := 31) 5 (by decide)
  rw [this, Nat.mod_eq_of_lt (by omega)]
theorem smod32 {i : Nat} (h : i < 32) : ((nI i).toBitVec.smod 32).toNat = i := by
  have key : ∀ i, i < 32 → ((nI i).toBitVec.smod 32).toNat = i := by decide +kernel
  exact key i h
theorem tb_shr {x : Int32} {i : Nat} (h : i < 32) : x >>> (nI i &&& 31) &&& nI 1 = bI (tb x i) := by
  rw [nI_and31 h]
  apply Int32.toBitVec_inj.mp
  have e1 : (x >>> nI i).toBitVec = x.toBitVec.sshiftRight i := by
    show (x.toBitVec.sshiftRight ((nI i).toBitVec.smod 32).toNat) = _
    rw [smod32 h]
  have e2 : (x >>> nI i &&& nI 1).toBitVec = (x >>> nI i).toBitVec &&& (nI 1).toBitVec := rfl
  rw [e2, e1]
  apply BitVec.eq_of_getLsbD_eq
  intro j hj
  rw [BitVec.getLsbD_and, BitVec.getLsbD_sshiftRight]
  have e3 : (nI 1).toBitVec.getLsbD j = decide (j = 0) := by
    have key : ∀ j, j < 32 → (nI 1).toBitVec.getLsbD j = decide (j = 0) := by decide +kernel
    exact key j hj
  rw [e3]
  by_cases hj0 : j = 0
  · subst hj0
    have : i + 0 < 32 := h
    cases hb : tb x i <;> simp [tb, bI, h] at hb ⊢ <;> simp [hb]
  · have key : ∀ (b : Bool) j, j < 32 → j ≠ 0 → (bI b).toBitVec.getLsbD j = false := by decide +kernel
    rw [key _ j hj hj0]
    simp [hj0]
/-- the network of a port's native frames, 0 for none -/
def natF (na : Int32) (p : Nat) : Nat := if tb na (6 + p) = true then 1 else if tb na (12 + p) = true then 2 else if tb na (18 + p) = true then 3 else if tb na (24 + p) = true then 4 else 0
def lostF (fl : Int32) (x : Nat) : Bool := tb fl (6 * 0 + x / 1000) || (tb fl (6 * 3 + x / 1000) && decide (x / 100 % 10 = 0))
def refF (ac me na fl : Int32) (x : Nat) : Nat := if x / 100 % 10 = 0 then (if natF na (x / 1000) = 0 then 2 else 0) else if tb fl (6 * 4 + x / 1000) = true then 0 else if tb ac (x / 1000) = true then 1 else if tb me (6 * (x / 100 % 10) + x / 1000) = true then 0 else 3
def fwdAt (pl : Nat → Int32) (v d : Nat) : Int32 := if d = 3 then (-1) else pl ((v - 1) * 3 + d)
def fwdWant (me : Int32) (pl : Nat → Int32) (p v d : Nat) : Int32 := if fwdAt pl v d = (-1) then secF me v &&& (bit1 p ^^^ (-1)) else nI 1 <<< (fwdAt pl v d &&& 31)
def fwdWh (me : Int32) (pl : Nat → Int32) (p v d wh : Nat) : Nat := if fwdAt pl v d = nI p then 4 else if fwdWant me pl p v d = 0 then 5 else wh
def fwdEx (me fl : Int32) (pl : Nat → Int32) (p v d : Nat) (ex : Int32) : Int32 := if fwdAt pl v d = nI p then ex else if fwdWant me pl p v d = 0 then ex else fwdWant me pl p v d &&& (secF fl 0 ^^^ (-1))
def fwdTg (ac me na fl : Int32) (pl : Nat → Int32) (p v d : Nat) (tg : Int32) : Int32 := if fwdAt pl v d = nI p then tg else if fwdWant me pl p v d = 0 then tg else (fwdWant me pl p v d &&& (secF fl 0 ^^^ (-1))) &&& (((ac ||| secF na v) ||| secF fl 2) ^^^ (-1))
def sndV (na : Int32) (x : Nat) : Nat := if x / 100 % 10 = 0 then natF na (x / 1000) else x / 100 % 10
def sndPl0 (na fl : Int32) (pl : Nat → Int32) (x : Nat) : Nat → Int32 := if tb fl (6 * 1 + x / 1000) = true then pl else upd pl ((sndV na x - 1) * 3 + x / 10 % 10) (nI (x / 1000))
def sndPl (ac me na fl : Int32) (pl : Nat → Int32) (x : Nat) : Nat → Int32 := if lostF fl x = true then pl else if refF ac me na fl x = 0 then sndPl0 na fl pl x else pl
def sndEx (ac me na fl : Int32) (pl : Nat → Int32) (x : Nat) : Int32 := if lostF fl x = true then nI 0 else if refF ac me na fl x = 0 then fwdEx me fl (sndPl0 na fl pl x) (x / 1000) (sndV na x) (x % 10) (nI 0) else nI 0
def sndTg (ac me na fl : Int32) (pl : Nat → Int32) (x : Nat) : Int32 := if lostF fl x = true then nI 0 else if refF ac me na fl x = 0 then fwdTg ac me na fl (sndPl0 na fl pl x) (x / 1000) (sndV na x) (x % 10) (nI 0) else nI 0
def sndWh (ac me na fl : Int32) (pl : Nat → Int32) (x : Nat) : Nat := if lostF fl x = true then 0 else if refF ac me na fl x = 0 then fwdWh me (sndPl0 na fl pl x) (x / 1000) (sndV na x) (x % 10) (refF ac me na fl x) else refF ac me na fl x
/-- the numbers of a run's rows behind k frames -/
def runPl (ac me na fl : Int32) (f : Nat → Nat) : Nat → Nat → Int32
  | 0 => fun _ => (-1)
  | k + 1 => sndPl ac me na fl (runPl ac me na fl f k) (f k)
/-- the ports' tables -/
def mtM (set : Int32) (p : Nat) (me : Int32) : Nat → Int32
  | 0 => me
  | k + 1 => if tb set k = true then mtM set p me k ||| bit1 (6 * (k + 1) + p) else mtM set p me k &&& (bit1 (6 * (k + 1) + p) ^^^ (-1))
def mtN (o p : Nat) (na : Int32) : Nat → Int32
  | 0 => na
  | k + 1 => if k + 1 = o then mtN o p na k ||| bit1 (6 * (k + 1) + p) else mtN o p na k &&& (bit1 (6 * (k + 1) + p) ^^^ (-1))
def rsA (k : Nat) : Int32 := nI (2 ^ k - 1)
def rsM (k : Nat) : Int32 := nI ((2 ^ k - 1) * 64)
theorem rs_A : ∀ k, k < 6 → (rsA k &&& (bit1 k ^^^ (-1))) ||| bit1 k = rsA (k + 1) := by decide +kernel
theorem rs_M : ∀ k, k < 6 → mtM (bit1 0) k (rsM k) 4 = rsM (k + 1) := by decide +kernel
theorem rs_N : ∀ k, k < 6 → mtN 1 k (rsM k) 4 = rsM (k + 1) := by decide +kernel
/-- sums -/
def sumI (g : Nat → Int32) : Nat → Int32
  | 0 => nI 0
  | k + 1 => sumI g k + g k
/-- bits counted, as java.lang.Integer does -/
def bcF (x : Int32) : Int32 :=
  let a := x - ((x.toUInt32 >>> ((nI 1).toUInt32 &&& Int32.toUInt32 31)).toInt32 &&& nI 1431655765)
  let b := (a &&& nI 858993459) + ((a.toUInt32 >>> ((nI 2).toUInt32 &&& Int32.toUInt32 31)).toInt32 &&& nI 858993459)
  let c := (b + (b.toUInt32 >>> ((nI 4).toUInt32 &&& Int32.toUInt32 31)).toInt32) &&& nI 252645135
  let d := c + (c.toUInt32 >>> ((nI 8).toUInt32 &&& Int32.toUInt32 31)).toInt32
  let e := d + (d.toUInt32 >>> ((nI 16).toUInt32 &&& Int32.toUInt32 31)).toInt32
  e &&& nI 63
def valsF (x : Nat) : Int32 := ((bit1 (x / 1000) ||| bit1 (6 + x / 100 % 10)) ||| bit1 (11 + x / 10 % 10)) ||| bit1 (14 + x % 10)
def partF (v : Nat) (vals : Int32) : Int32 := if tb vals v = true then vals &&& ((-2) <<< (nI v &&& 31)) else nI 0
def gainF (f : Nat → Int32) (x : Nat) : Int32 := sumI (fun v => bcF (partF v (valsF x) &&& (f v ^^^ (-1)))) 18
def meetF (f : Nat → Int32) (x : Nat) : Nat → Int32 := fun j => f j ||| partF j (valsF x)
def meetK (f : Nat → Int32) (x k : Nat) : Nat → Int32 := fun j => if j < k then f j ||| partF j (valsF x) else f j
def mallF (c : Nat → Nat) : Nat → Nat → Int32
  | 0 => fun _ => nI 0
  | k + 1 => meetF (mallF c k) (c k)
def bfStep (G : Nat → Int32) (x : Nat) (a : Nat × Int32) : Nat × Int32 := (if G x ≤ a.2 then a.1 else x, if G x ≤ a.2 then a.2 else G x)
def bfD (G : Nat → Int32) (b : Nat) (a : Nat × Int32) : Nat → Nat × Int32
  | 0 => a
  | d + 1 => bfStep G (b + d) (bfD G b a d)
def bfS (G : Nat → Int32) (b : Nat) : Nat → Nat × Int32
  | 0 => (0, (-1))
  | s + 1 => bfD G (b + 10 * s) (bfS G b s) 4
def bfT (G : Nat → Int32) (p : Nat) (a : Nat × Int32) : Nat → Nat × Int32
  | 0 => a
  | t + 1 => bfStep G (bfS G (1000 * p + 100 * t) 3).1 (bfT G p a t)
def bfP (G : Nat → Int32) : Nat → Nat × Int32
  | 0 => (0, (-1))
  | p + 1 => bfT G p (bfP G p) 5
theorem natF_le (na : Int32) (p : Nat) : natF na p ≤ 4 := by
  unfold natF
  split
  · decide
  · split
    · decide
    · split
      · decide
      · split <;> decide
theorem natF_lt (na : Int32) (p : Nat) : natF na p < 2 ^ 31 := Nat.lt_of_le_of_lt (natF_le na p) (by decide)
theorem refF_le (ac me na fl : Int32) (x : Nat) : refF ac me na fl x ≤ 3 := by
  unfold refF
  split
  · split <;> decide
  · split
    · decide
    · split
      · decide
      · split <;> decide
theorem refF_lt (ac me na fl : Int32) (x : Nat) : refF ac me na fl x < 2 ^ 31 := Nat.lt_of_le_of_lt (refF_le ac me na fl x) (by decide)
theorem sndV_rng {ac me na fl : Int32} {x : Nat} (h5 : x / 100 % 10 < 5) (h : refF ac me na fl x = 0) : 1 ≤ sndV na x ∧ sndV na x ≤ 4 := by
  unfold sndV
  by_cases ht : x / 100 % 10 = 0
  · rw [if_pos ht]
    refine ⟨?_, natF_le _ _⟩
    unfold refF at h
    rw [if_pos ht] at h
    by_cases h0 : natF na (x / 1000) = 0
    · rw [if_pos h0] at h; cases h
    · omega
  · rw [if_neg ht]; omega
theorem tb_and (a b : Int32) (i : Nat) : tb (a &&& b) i = (tb a i && tb b i) := by simp [tb]
theorem tb_or (a b : Int32) (i : Nat) : tb (a ||| b) i = (tb a i || tb b i) := by simp [tb]
theorem tb_xor (a b : Int32) (i : Nat) : tb (a ^^^ b) i = (tb a i != tb b i) := by simp [tb]
theorem tb_m1 {i : Nat} (h : i < 32) : tb (-1) i = true := by
  have key : ∀ i, i < 32 → tb (-1) i = true := by decide +kernel
  exact key i h
theorem tb_bit {i j : Nat} (hi : i < 32) (hj : j < 32) : tb (bit1 i) j = decide (i = j) := by
  have key : ∀ i, i < 32 → ∀ j, j < 32 → tb (bit1 i) j = decide (i = j) := by decide +kernel
  exact key i hi j hj
theorem tb_ext {a b : Int32} (h : ∀ i, i < 32 → tb a i = tb b i) : a = b :=
  Int32.toBitVec_inj.mp (BitVec.eq_of_getLsbD_eq h)
theorem tb_0 (i : Nat) : tb 0 i = false := by simp [tb]
theorem tb_bit1 {a : Int32} {i : Nat} (h : i < 32) : ¬ (a &&& bit1 i) = 0 ↔ tb a i = true := by
  constructor
  · intro h1
    cases hb : tb a i with
    | true => rfl
    | false =>
      refine absurd (tb_ext fun j hj => ?_) h1
      rw [tb_and, tb_bit h hj, tb_0]
      by_cases e : i = j
      · rw [← e, hb]; rfl
      · simp [e]
  · intro h1 h2
    have := tb_and a (bit1 i) i
    rw [h2, tb_0, h1, tb_bit h h] at this
    simp at this
def netOK (x : Int32) : Bool := ((!decide (x < nI 1)) && (!decide (nI 4 < x)))
/-! lists of frames, runs, the search -/
def nF (c : Nat → Nat) : Nat → Int32 := fun k => nI (c k)
def upN (c : Nat → Nat) (n x : Nat) : Nat → Nat := fun k => if k = n then x else c k
theorem upd_nF (c : Nat → Nat) (n x : Nat) : upd (nF c) n (nI x) = nF (upN c n x) := by
  funext k
  simp only [upd, nF, upN]
  split <;> rfl
def okF (x : Nat) : Prop := x < 6000 ∧ x / 100 % 10 < 5 ∧ x / 10 % 10 < 3 ∧ x % 10 ≤ 3
def rowK (g e : Nat → Int32) (k : Nat) : Nat → Int32 := fun j => if j < k then g j else e j
theorem upd_rowK (g e : Nat → Int32) (k : Nat) : upd (rowK g e k) k (g k) = rowK g e (k + 1) := by
  funext j
  simp only [upd, rowK]
  by_cases h : j = k
  · subst h; rw [if_pos rfl, if_pos (by omega)]
  · rw [if_neg h]
    by_cases h2 : j < k
    · rw [if_pos h2, if_pos (by omega)]
    · rw [if_neg h2, if_neg (by omega)]
def lastI (g : Nat → Int32) (x : Int32) : Nat → Int32
  | 0 => x
  | k + 1 => g k
def lastN (g : Nat → Nat) (x : Nat) : Nat → Nat
  | 0 => x
  | k + 1 => g k
def rEx (ac me na fl : Int32) (c : Nat → Nat) (j : Nat) : Int32 := sndEx ac me na fl (runPl ac me na fl c j) (c j)
def rTg (ac me na fl : Int32) (c : Nat → Nat) (j : Nat) : Int32 := sndTg ac me na fl (runPl ac me na fl c j) (c j)
def rWh (ac me na fl : Int32) (c : Nat → Nat) (j : Nat) : Nat := sndWh ac me na fl (runPl ac me na fl c j) (c j)
def allB (g : Nat → Bool) : Nat → Bool
  | 0 => true
  | k + 1 => allB g k && g k
theorem allB_iff (g : Nat → Bool) (n : Nat) : allB g n = true ↔ ∀ k, k < n → g k = true := by
  induction n with
  | zero => simp [allB]
  | succ n ih =>
    simp only [allB, Bool.and_eq_true, ih]
    constructor
    · intro h k hk
      by_cases e : k = n
      · subst e; exact h.2
      · exact h.1 k (by omega)
    · intro h
      exact ⟨fun k hk => h k (by omega), h n (by omega)⟩
theorem allB_f {g : Nat → Bool} {n k : Nat} (hk : k < n) (h : g k = false) : nI 0 = bI (allB g n) := by
  have : allB g n = false := by
    cases hb : allB g n with
    | false => rfl
    | true => rw [(allB_iff g n).mp hb k hk] at h; cases h
  rw [this]; decide
theorem allB_t {g : Nat → Bool} {n : Nat} (h : allB g n = true) : nI 1 = bI (allB g n) := by rw [h]; decide
def fitG (ac me na fl : Int32) (c : Nat → Nat) (e t : Nat → Int32) (k : Nat) : Bool := decide (rEx ac me na fl c k = e k) && decide (rTg ac me na fl c k = t k)
def fitB (ac me na fl : Int32) (c : Nat → Nat) (e t : Nat → Int32) (n : Nat) : Bool := allB (fitG ac me na fl c e t) n
abbrev sS : Type := Int32 × Nat × Nat × Nat
def tryS (b : Bool) (z o t : Nat) (s : sS) : sS :=
  (if b = true then (if s.2.1 = 0 then nI z else s.1) else s.1, if b = true then s.2.1 + 1 else s.2.1, if b = true then (if s.2.1 = 0 then o else s.2.2.1) else s.2.2.1, if b = true then (if s.2.1 = 0 then t else s.2.2.2) else s.2.2.2)
def rkB (k : Nat) : Int32 := bit1 (6 * (k % 5) + k / 5)
def onesS (fit : Int32 → Bool) (s : sS) : Nat → sS
  | 0 => s
  | k + 1 => tryS (fit (rkB k)) 1 k k (onesS fit s k)
def twI (fit : Int32 → Bool) (one : Nat) (s : sS) : Nat → sS
  | 0 => s
  | k + 1 => if one < k then tryS (fit (rkB one ||| rkB k)) 2 one k (twI fit one s k) else twI fit one s k
theorem twI_start (fit : Int32 → Bool) (one : Nat) (s : sS) : ∀ k, k ≤ one + 1 → twI fit one s k = s := by
  intro k
  induction k with
  | zero => intro _; rfl
  | succ k ih => intro h; simp only [twI]; rw [if_neg (by omega)]; exact ih (by omega)
def twS (fit : Int32 → Bool) (s : sS) (N : Nat) : Nat → sS
  | 0 => s
  | o + 1 => twI fit o (twS fit s N o) N
def ffS (fit : Int32 → Bool) (N : Nat) (s0 : sS) : sS :=
  if (tryS (fit (nI 0)) 0 0 0 s0).2.1 = 0 then
    (if (onesS fit (tryS (fit (nI 0)) 0 0 0 s0) N).2.1 = 0 then
      (if (twS fit (onesS fit (tryS (fit (nI 0)) 0 0 0 s0) N) N N).2.1 = 0 then
        ((-1), (twS fit (onesS fit (tryS (fit (nI 0)) 0 0 0 s0) N) N N).2)
      else twS fit (onesS fit (tryS (fit (nI 0)) 0 0 0 s0) N) N N)
    else onesS fit (tryS (fit (nI 0)) 0 0 0 s0) N)
  else tryS (fit (nI 0)) 0 0 0 s0
theorem bfStep_lt {G : Nat → Int32} {x N : Nat} {a : Nat × Int32} (h1 : x < N) (h2 : a.1 < N) : (bfStep G x a).1 < N := by
  unfold bfStep
  dsimp only
  split
  · exact h2
  · exact h1
theorem bfD_lt {G : Nat → Int32} {b N : Nat} {a : Nat × Int32} (h2 : a.1 < N) : ∀ d, b + d ≤ N → (bfD G b a d).1 < N := by
  intro d
  induction d with
  | zero => intro _; exact h2
  | succ d ih => intro h; exact bfStep_lt (by omega) (ih (by omega))
theorem bfS_lt {G : Nat → Int32} {b N : Nat} : ∀ s, 0 < N → b + 10 * s ≤ N → s ≤ 3 → (bfS G b s).1 < N := by
  intro s
  induction s with
  | zero => intro h _ _; exact h
  | succ s ih => intro h0 h h3; exact bfD_lt (ih h0 (by omega) (by omega)) 4 (by omega)
def rowN (g e : Nat → Nat) (k : Nat) : Nat → Nat := fun j => if j < k then g j else e j
theorem upd_rowN (g e : Nat → Nat) (k : Nat) : upd (nF (rowN g e k)) k (nI (g k)) = nF (rowN g e (k + 1)) := by
  rw [upd_nF]
  congr
  funext j
  simp only [upN, rowN]
  by_cases h : j = k
  · subst h; rw [if_pos rfl, if_pos (by omega)]
  · rw [if_neg h]
    by_cases h2 : j < k
    · rw [if_pos h2, if_pos (by omega)]
    · rw [if_neg h2, if_neg (by omega)]
theorem upd_meetK (f : Nat → Int32) (x k : Nat) : upd (meetK f x k) k (meetK f x k k ||| partF k (valsF x)) = meetK f x (k + 1) := by
  funext j
  simp only [upd, meetK]
  by_cases h : j = k
  · subst h; rw [if_pos rfl, if_neg (by omega), if_pos (by omega)]
  · rw [if_neg h]
    by_cases h2 : j < k
    · rw [if_pos h2, if_pos (by omega)]
    · rw [if_neg h2, if_neg (by omega)]
theorem tryS_ct (b : Bool) (z o t : Nat) (s : sS) : (tryS b z o t s).2.1 ≤ s.2.1 + 1 := by
  simp only [tryS]
  split <;> omega
theorem onesS_ct (fit : Int32 → Bool) (s : sS) : ∀ k, (onesS fit s k).2.1 ≤ s.2.1 + k := by
  intro k
  induction k with
  | zero => exact Nat.le_refl _
  | succ k ih =>
    have h := tryS_ct (fit (rkB k)) 1 k k (onesS fit s k)
    simp only [onesS]
    omega
theorem twI_ct (fit : Int32 → Bool) (o : Nat) (s : sS) : ∀ k, (twI fit o s k).2.1 ≤ s.2.1 + k := by
  intro k
  induction k with
  | zero => exact Nat.le_refl _
  | succ k ih =>
    have h := tryS_ct (fit (rkB o ||| rkB k)) 2 o k (twI fit o s k)
    simp only [twI]
    split <;> omega
theorem twS_ct (fit : Int32 → Bool) (s : sS) (N : Nat) : ∀ o, (twS fit s N o).2.1 ≤ s.2.1 + o * N := by
  intro o
  induction o with
  | zero => simp [twS]
  | succ o ih =>
    have h := twI_ct fit o (twS fit s N o) N
    simp only [twS]
    rw [Nat.succ_mul]
    omega
theorem tw_bd {o np : Nat} (h1 : o < 5 * np) (h2 : np ≤ 6) : o * (5 * np) ≤ 900 := by
  have h3 : o ≤ 30 := by omega
  have h4 : 5 * np ≤ 30 := by omega
  exact Nat.mul_le_mul h3 h4
theorem cut0 (n : Nat) : (if n ≤ 0 then n else 0) = 0 := by split <;> omega
theorem tb_bit1e {a : Int32} {i : Nat} (h : i < 32) : (a &&& bit1 i) = 0 ↔ ¬ tb a i = true := by
  rw [← tb_bit1 h]
  exact Decidable.not_not.symm
def dfK (a b x y : Nat → Int32) (k : Nat) : Int32 := (a k ^^^ x k) ||| (b k ^^^ y k)
def difL (g : Nat → Int32) : Nat → Int64
  | 0 => 0
  | k + 1 => if g k = 0 then difL g k else difL g k ||| (1 <<< ((nI k).toInt64 &&& 63))
def dfcI (g : Nat → Int32) (p : Nat) : Nat → Int32
  | 0 => nI 0
  | k + 1 => dfcI g p k + bI (tb (g k) p)
def cvC (c : Nat → Nat) (np n : Nat) : Nat → Nat → Nat
  | 0 => c
  | k + 1 => if n ≤ k then upN (cvC c np n k) k (bfP (gainF (mallF (cvC c np n k) k)) np).1 else cvC c np n k
theorem cvC_start (c : Nat → Nat) (np n : Nat) : ∀ k, k ≤ n → cvC c np n k = c := by
  intro k
  induction k with
  | zero => intro _; rfl
  | succ k ih => intro h; simp only [cvC]; rw [if_neg (by omega)]; exact ih (by omega)
theorem mallF_congr {c c' : Nat → Nat} : ∀ k, (∀ j, j < k → c j = c' j) → mallF c k = mallF c' k := by
  intro k
  induction k with
  | zero => intro _; rfl
  | succ k ih =>
    intro h
    simp only [mallF]
    rw [ih (fun j hj => h j (by omega)), h k (by omega)]
theorem mallF_upN (c : Nat → Nat) (k x : Nat) : mallF (upN c k x) (k + 1) = meetF (mallF c k) x := by
  simp only [mallF]
  rw [mallF_congr k (fun j hj => by simp only [upN]; rw [if_neg (by omega)] : ∀ j, j < k → upN c k x j = c j)]
  simp [upN]
theorem cv_met {c : Nat → Nat} {np n k : Nat} (h : n ≤ k) : meetF (mallF (cvC c np n k) k) (bfP (gainF (mallF (cvC c np n k) k)) np).1 = mallF (cvC c np n (k + 1)) (k + 1) := by
  rw [← mallF_upN]
  simp only [cvC]
  rw [if_pos h]
theorem bfT_lt {G : Nat → Int32} {p N : Nat} {a : Nat × Int32} (hp : p < 6) (h2 : a.1 < 6000) : ∀ t, t ≤ 5 → (bfT G p a t).1 < 6000 := by
  intro t
  induction t with
  | zero => intro _; exact h2
  | succ t ih => intro h; exact bfStep_lt (bfS_lt 3 (by decide) (by omega) (by decide)) (ih (by omega))
theorem bfP_lt {G : Nat → Int32} : ∀ p, p ≤ 6 → (bfP G p).1 < 6000 := by
  intro p
  induction p with
  | zero => intro _; show 0 < 6000; decide
  | succ p ih => intro h; exact bfT_lt (N := 0) (by omega) (ih (by omega)) 5 (by decide)
