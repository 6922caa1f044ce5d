/-! THE REFERENCE'S PURE WORDS -/
def zF (b : Nat → Bool) : Nat → Int32 := fun k => bI (b k)
def upB (b : Nat → Bool) (j : Nat) (v : Bool) : Nat → Bool := fun k => if k = j then v else b k
theorem upd_zF (b : Nat → Bool) (j : Nat) (v : Bool) : upd (zF b) j (vp_nar .boolean (bI v)) = zF (upB b j v) := by
  funext k
  simp only [upd, zF, upB, vz_zv]
  split <;> rfl
theorem upd_zF0 (b : Nat → Bool) (j : Nat) : upd (zF b) j (vp_nar .boolean (nI 0)) = zF (upB b j false) := by rw [← vz_bI0, upd_zF]
theorem upd_zF1 (b : Nat → Bool) (j : Nat) : upd (zF b) j (vp_nar .boolean (nI 1)) = zF (upB b j true) := by rw [← vz_bI1, upd_zF]
theorem upd_upd (f : Nat → Int32) (k : Nat) (x y : Int32) : upd (upd f k x) k y = upd f k y := by
  funext j
  simp only [upd]
  split <;> rfl
def rowB (g e : Nat → Bool) (k : Nat) : Nat → Bool := fun j => if j < k then g j else e j
theorem upB_rowB (g e : Nat → Bool) (k : Nat) : upB (rowB g e k) k (g k) = rowB g e (k + 1) := by
  funext j
  simp only [upB, rowB]
  by_cases h : j = k
  · subst h; rw [if_pos rfl, if_pos (by omega)]
  · rw [if_neg h]
    by_cases h2 : j < k
    · rw [if_pos h2, if_pos (by omega)]
    · rw [if_neg h2, if_neg (by omega)]
theorem upN_rowN (g e : Nat → Nat) (k : Nat) : upN (rowN g e k) k (g k) = rowN g e (k + 1) := by
  funext j
  simp only [upN, rowN]
  by_cases h : j = k
  · subst h; rw [if_pos rfl, if_pos (by omega)]
  · rw [if_neg h]
    by_cases h2 : j < k
    · rw [if_pos h2, if_pos (by omega)]
    · rw [if_neg h2, if_neg (by omega)]
def cP (c : Nat → Nat) : Nat → Nat := fun k => c k / 1000
def cT (c : Nat → Nat) : Nat → Nat := fun k => c k / 100 % 10
def cS (c : Nat → Nat) : Nat → Nat := fun k => c k / 10 % 10
def cD (c : Nat → Nat) : Nat → Nat := fun k => c k % 10
theorem put_P {c : Nat → Nat} {n p t s d : Nat} (ht : t < 10) (hs : s < 10) (hd : d < 10) : upd (nF (cP c)) n (nI p) = nF (cP (upN c n (1000 * p + 100 * t + 10 * s + d))) := by
  rw [upd_nF]; congr; funext k; simp only [upN, cP]; split
  · omega
  · rfl
theorem put_T {c : Nat → Nat} {n p t s d : Nat} (ht : t < 10) (hs : s < 10) (hd : d < 10) : upd (nF (cT c)) n (nI t) = nF (cT (upN c n (1000 * p + 100 * t + 10 * s + d))) := by
  rw [upd_nF]; congr; funext k; simp only [upN, cT]; split
  · omega
  · rfl
theorem put_S {c : Nat → Nat} {n p t s d : Nat} (ht : t < 10) (hs : s < 10) (hd : d < 10) : upd (nF (cS c)) n (nI s) = nF (cS (upN c n (1000 * p + 100 * t + 10 * s + d))) := by
  rw [upd_nF]; congr; funext k; simp only [upN, cS]; split
  · omega
  · rfl
theorem put_D {c : Nat → Nat} {n p t s d : Nat} (ht : t < 10) (hs : s < 10) (hd : d < 10) : upd (nF (cD c)) n (nI d) = nF (cD (upN c n (1000 * p + 100 * t + 10 * s + d))) := by
  rw [upd_nF]; congr; funext k; simp only [upN, cD]; split
  · omega
  · rfl
/-- the pair of kind q of a frame -/
def prI (q p t s d : Nat) : Nat := 64 * q + 8 * (if 3 ≤ q then (if 5 ≤ q then s else t) else p) + (if q = 0 then t else if q = 1 then s else if q = 3 then s else d)
def prX (q x : Nat) : Nat := prI q (x / 1000) (x / 100 % 10) (x / 10 % 10) (x % 10)
def mqB (m : Nat → Bool) (x : Nat) : Nat → Nat → Bool
  | 0 => m
  | q + 1 => upB (mqB m x q) (prX q x) true
def mmB (c : Nat → Nat) : Nat → Nat → Bool
  | 0 => fun _ => false
  | k + 1 => mqB (mmB c k) (c k) 6
def sumN (g : Nat → Nat) : Nat → Nat
  | 0 => 0
  | k + 1 => sumN g k + g k
theorem sumN_le {g : Nat → Nat} (h : ∀ k, g k ≤ 1) : ∀ k, sumN g k ≤ k := by
  intro k
  induction k with
  | zero => exact Nat.le_refl _
  | succ k ih => have := h k; simp only [sumN]; omega
/-- how many pairs of a frame are new -/
def npN (m : Nat → Bool) (x : Nat) : Nat := sumN (fun q => if m (prX q x) = true then 0 else 1) 6
def cnt384 (m : Nat → Bool) : Nat := sumN (fun k => if m k = true then 1 else 0) 384
/-- the frame that a number of the scan stands for -/
def scX (k : Nat) : Nat := 1000 * (k / 60) + 100 * (k % 60 / 12) + 10 * (k % 12 / 4) + k % 4
def scB (m : Nat → Bool) : Nat → Nat × Nat
  | 0 => (0, 0)
  | k + 1 => (if npN m (scX k) ≤ (scB m k).1 then (scB m k).1 else npN m (scX k), if npN m (scX k) ≤ (scB m k).1 then (scB m k).2 else k)
/-- the reference's switch: why a frame is dropped (6: by a fault), its network -/
def mdLost (b : Nat → Int32) (x : Nat) : Bool := tb (b (x / 1000)) 0 || (decide (x / 100 % 10 = 0) && tb (b (x / 1000)) 3)
def mdR (ne : Nat → Int32) (tr : Nat → Bool) (pn : Nat → Nat) (b : Nat → Int32) (x : Nat) : Nat :=
  if mdLost b x = true then 6 else if x / 100 % 10 = 0 then (if tr (x / 1000) = true then (if pn (x / 1000) = 0 then 2 else 0) else 0)
  else if tb (b (x / 1000)) 4 = true then 0 else if tr (x / 1000) = true then (if tb (ne (x / 1000)) (x / 100 % 10 - 1) = true then 0 else 3) else 1
def mdV (pn : Nat → Nat) (x : Nat) : Nat := if x / 100 % 10 = 0 then pn (x / 1000) else x / 100 % 10
def mdNet (ne : Nat → Int32) (tr : Nat → Bool) (pn : Nat → Nat) (b : Nat → Int32) (x : Nat) : Int32 := if mdR ne tr pn b x = 0 then nI (mdV pn x) else - nI (mdR ne tr pn b x)
def mdL0 (b : Nat → Int32) (pn : Nat → Nat) (L : Nat → Int32) (x : Nat) : Nat → Int32 := if tb (b (x / 1000)) 1 = true then L else upd L (3 * mdV pn x + x / 10 % 10) (nI (x / 1000))
def mdAt (b : Nat → Int32) (pn : Nat → Nat) (L : Nat → Int32) (x : Nat) : Int32 := if 3 ≤ x % 10 then (-1) else mdL0 b pn L x (3 * mdV pn x + x % 10)
def mdFl (ne : Nat → Int32) (p v : Nat) : Nat → Int32
  | 0 => nI 0
  | q + 1 => mdFl ne p v q ||| (if q = p then nI 0 else if tb (ne q) (v - 1) = true then nI 1 <<< (nI q &&& 31) else nI 0)
def mdSet (ne : Nat → Int32) (np p v : Nat) (at1 : Int32) : Int32 := if at1 = (-1) then mdFl ne p v np else if at1 = nI p then nI 0 else nI 1 <<< (at1 &&& 31)
def mdO (b : Nat → Int32) (set : Int32) : Nat → Int32
  | 0 => nI 0
  | q + 1 => if tb set q = true then (if tb (b q) 0 = true then mdO b set q else mdO b set q ||| (nI 1 <<< (nI q &&& 31))) else mdO b set q
def mdUn (tr : Nat → Bool) (pn : Nat → Nat) (b : Nat → Int32) (v q : Nat) : Bool := (!tr q || (decide (pn q = v) || tb (b q) 2))
def mdG (tr : Nat → Bool) (pn : Nat → Nat) (b : Nat → Int32) (v : Nat) (set : Int32) : Nat → Int32
  | 0 => nI 0
  | q + 1 => if tb set q = true then (if tb (b q) 0 = true then mdG tr pn b v set q else mdG tr pn b v set q ||| (if mdUn tr pn b v q = true then nI 0 else nI 1 <<< (nI q &&& 31))) else mdG tr pn b v set q
def mdWhy (p : Nat) (at1 set : Int32) : Nat := if at1 = nI p then 4 else if set = 0 then 5 else 0
def mdPl (ne : Nat → Int32) (tr : Nat → Bool) (pn : Nat → Nat) (b : Nat → Int32) (L : Nat → Int32) (x : Nat) : Nat → Int32 := if mdR ne tr pn b x = 0 then mdL0 b pn L x else L
def mdEx (ne : Nat → Int32) (tr : Nat → Bool) (pn : Nat → Nat) (b : Nat → Int32) (np : Nat) (L : Nat → Int32) (x : Nat) : Int32 := if mdR ne tr pn b x = 0 then mdO b (mdSet ne np (x / 1000) (mdV pn x) (mdAt b pn L x)) np else nI 0
def mdTg (ne : Nat → Int32) (tr : Nat → Bool) (pn : Nat → Nat) (b : Nat → Int32) (np : Nat) (L : Nat → Int32) (x : Nat) : Int32 := if mdR ne tr pn b x = 0 then mdG tr pn b (mdV pn x) (mdSet ne np (x / 1000) (mdV pn x) (mdAt b pn L x)) np else nI 0
def mdWh (ne : Nat → Int32) (tr : Nat → Bool) (pn : Nat → Nat) (b : Nat → Int32) (np : Nat) (L : Nat → Int32) (x : Nat) : Nat := if mdR ne tr pn b x = 0 then mdWhy (x / 1000) (mdAt b pn L x) (mdSet ne np (x / 1000) (mdV pn x) (mdAt b pn L x)) else mdR ne tr pn b x
def mL (ne : Nat → Int32) (tr : Nat → Bool) (pn : Nat → Nat) (b : Nat → Int32) (c : Nat → Nat) : Nat → Nat → Int32
  | 0 => fun _ => (-1)
  | k + 1 => mdPl ne tr pn b (mL ne tr pn b c k) (c k)
def mE (ne : Nat → Int32) (tr : Nat → Bool) (pn : Nat → Nat) (b : Nat → Int32) (np : Nat) (c : Nat → Nat) (j : Nat) : Int32 := mdEx ne tr pn b np (mL ne tr pn b c j) (c j)
def mT (ne : Nat → Int32) (tr : Nat → Bool) (pn : Nat → Nat) (b : Nat → Int32) (np : Nat) (c : Nat → Nat) (j : Nat) : Int32 := mdTg ne tr pn b np (mL ne tr pn b c j) (c j)
def mW (ne : Nat → Int32) (tr : Nat → Bool) (pn : Nat → Nat) (b : Nat → Int32) (np : Nat) (c : Nat → Nat) (j : Nat) : Nat := mdWh ne tr pn b np (mL ne tr pn b c j) (c j)
/-- what the reference's rows of ports are -/
def mOK (np : Nat) (tr : Nat → Bool) (pn : Nat → Nat) : Prop := 2 ≤ np ∧ np ≤ 6 ∧ ∀ p, p < 6 → pn p ≤ 4 ∧ (tr p = false → 1 ≤ pn p)
theorem mdR_le (ne : Nat → Int32) (tr : Nat → Bool) (pn : Nat → Nat) (b : Nat → Int32) (x : Nat) : mdR ne tr pn b x ≤ 6 := by
  unfold mdR
  repeat' split
  all_goals decide
theorem mdV_rng {ne : Nat → Int32} {tr : Nat → Bool} {pn : Nat → Nat} {b : Nat → Int32} {x np : Nat} (hM : mOK np tr pn) (h5 : x / 100 % 10 < 5) (hx : x < 6000) (h : mdR ne tr pn b x = 0) : 1 ≤ mdV pn x ∧ mdV pn x ≤ 4 := by
  have hp := hM.2.2 (x / 1000) (by omega)
  unfold mdV
  by_cases ht : x / 100 % 10 = 0
  · rw [if_pos ht]
    refine ⟨?_, hp.1⟩
    unfold mdR at h
    by_cases hl : mdLost b x = true
    · rw [if_pos hl] at h; cases h
    · rw [if_neg hl, if_pos ht] at h
      by_cases htr : tr (x / 1000) = true
      · rw [if_pos htr] at h
        by_cases h0 : pn (x / 1000) = 0
        · rw [if_pos h0] at h; cases h
        · omega
      · exact hp.2 (vz_bnt htr)
  · rw [if_neg ht]; omega
theorem mdV_lt {pn : Nat → Nat} {x : Nat} (h : mdV pn x ≤ 4) : mdV pn x < 2 ^ 31 := Nat.lt_of_le_of_lt h (by decide)
theorem ng_ge {r : Nat} (h0 : ¬ r = 0) (h : r ≤ 6) : ¬ 0 ≤ - nI r := by
  have key : ∀ r, r < 7 → r ≠ 0 → ¬ 0 ≤ - nI r := by decide +kernel
  exact key r (by omega) h0
theorem ng_le {r : Nat} (h : r ≤ 6) : - nI r ≤ 0 := by
  have key : ∀ r, r < 7 → - nI r ≤ 0 := by decide +kernel
  exact key r (by omega)
theorem ng_ng {r : Nat} (h : r ≤ 6) : - (- nI r) = nI r := by
  have key : ∀ r, r < 7 → - (- nI r) = nI r := by decide +kernel
  exact key r (by omega)
section STP
variable {ne : Nat → Int32} {tr : Nat → Bool} {pn : Nat → Nat} {bb : Nat → Int32} {np : Nat} {c : Nat → Nat} {oo : Nat → Int32} {ww : Nat → Nat} {f : Nat} {at1 st1 : Int32}
theorem stp_L (hs : mdR ne tr pn bb (c f) = 0) : mdL0 bb pn (mL ne tr pn bb c f) (c f) = mL ne tr pn bb c (f + 1) := by
  simp only [mL, mdPl]; rw [if_pos hs]
theorem stp0_L (hs : ¬ mdR ne tr pn bb (c f) = 0) : mL ne tr pn bb c f = mL ne tr pn bb c (f + 1) := by
  simp only [mL, mdPl]; rw [if_neg hs]
theorem stp_E (hs : mdR ne tr pn bb (c f) = 0) (ha : at1 = mdAt bb pn (mL ne tr pn bb c f) (c f)) (h2 : st1 = mdSet ne np (c f / 1000) (mdV pn (c f)) at1) : upd (rowK (mE ne tr pn bb np c) oo f) f (mdO bb st1 np) = rowK (mE ne tr pn bb np c) oo (f + 1) := by
  rw [← upd_rowK]
  simp only [mE, mdEx]; rw [if_pos hs, ← ha, ← h2]
theorem stp0_E (hs : ¬ mdR ne tr pn bb (c f) = 0) : upd (rowK (mE ne tr pn bb np c) oo f) f (nI 0) = rowK (mE ne tr pn bb np c) oo (f + 1) := by
  rw [← upd_rowK]
  simp only [mE, mdEx]; rw [if_neg hs]
theorem stp_G (hs : mdR ne tr pn bb (c f) = 0) (ha : at1 = mdAt bb pn (mL ne tr pn bb c f) (c f)) (h2 : st1 = mdSet ne np (c f / 1000) (mdV pn (c f)) at1) : upd (rowK (mT ne tr pn bb np c) oo f) f (mdG tr pn bb (mdV pn (c f)) st1 np) = rowK (mT ne tr pn bb np c) oo (f + 1) := by
  rw [← upd_rowK]
  simp only [mT, mdTg]; rw [if_pos hs, ← ha, ← h2]
theorem stp0_G (hs : ¬ mdR ne tr pn bb (c f) = 0) : upd (rowK (mT ne tr pn bb np c) oo f) f (nI 0) = rowK (mT ne tr pn bb np c) oo (f + 1) := by
  rw [← upd_rowK]
  simp only [mT, mdTg]; rw [if_neg hs]
theorem stp_W {w0 : Nat} (hs : mdR ne tr pn bb (c f) = 0) (ha : at1 = mdAt bb pn (mL ne tr pn bb c f) (c f)) (h2 : st1 = mdSet ne np (c f / 1000) (mdV pn (c f)) at1) : upN (upN (rowN (mW ne tr pn bb np c) ww f) f w0) f (mdWhy (c f / 1000) at1 st1) = rowN (mW ne tr pn bb np c) ww (f + 1) := by
  rw [← upN_rowN]
  simp only [mW, mdWh]; rw [if_pos hs, ← ha, ← h2]
  funext j; simp only [upN]; split <;> rfl
theorem stp0_W (hs : ¬ mdR ne tr pn bb (c f) = 0) : upN (rowN (mW ne tr pn bb np c) ww f) f (mdR ne tr pn bb (c f)) = rowN (mW ne tr pn bb np c) ww (f + 1) := by
  rw [← upN_rowN]
  simp only [mW, mdWh]; rw [if_neg hs]
end STP
theorem vz_b1 {b : Bool} : bI b = nI 1 ↔ b = true := by cases b <;> decide
theorem prI_lt {q p t s d : Nat} (hq : q < 6) (hp : p < 6) (ht : t < 5) (hs : s < 3) (hd : d ≤ 3) : prI q p t s d < 384 := by
  unfold prI
  repeat' split
  all_goals omega
theorem vz_notN {b : Bool} : bI (!b) = nI (if b = true then 0 else 1) := by cases b <;> decide
theorem vz_bN {b : Bool} : bI b = nI (if b = true then 1 else 0) := by cases b <;> decide
theorem npN_le (m : Nat → Bool) (x : Nat) : npN m x ≤ 6 := sumN_le (fun k => by split <;> decide) 6
theorem scB_le (m : Nat → Bool) : ∀ k, (scB m k).1 ≤ 6 := by
  intro k
  induction k with
  | zero => exact Nat.zero_le _
  | succ k ih =>
    simp only [scB]
    split
    · exact ih
    · exact npN_le _ _
theorem scB2_le (m : Nat → Bool) : ∀ k, (scB m k).2 ≤ k := by
  intro k
  induction k with
  | zero => exact Nat.le_refl _
  | succ k ih =>
    simp only [scB]
    split <;> omega
theorem scB_lt (m : Nat → Bool) (k : Nat) : (scB m k).1 < 2 ^ 31 := Nat.lt_of_le_of_lt (scB_le m k) (by decide)
theorem npI_lt (m : Nat → Bool) (p t s d : Nat) : sumN (fun q => if m (prI q p t s d) = true then 0 else 1) 6 < 2 ^ 31 := Nat.lt_of_le_of_lt (sumN_le (fun k => by split <;> decide) 6) (by decide)
theorem npN_lt (m : Nat → Bool) (x : Nat) : npN m x < 2 ^ 31 := Nat.lt_of_le_of_lt (npN_le m x) (by decide)
theorem sc_parts {a b c d : Nat} (hb : b < 10) (hc : c < 10) (hd : d < 10) : (1000 * a + 100 * b + 10 * c + d) / 1000 = a ∧ (1000 * a + 100 * b + 10 * c + d) / 100 % 10 = b ∧ (1000 * a + 100 * b + 10 * c + d) / 10 % 10 = c ∧ (1000 * a + 100 * b + 10 * c + d) % 10 = d := by
  refine ⟨?_, ?_, ?_, ?_⟩ <;> omega
theorem np_sc (m : Nat → Bool) (k : Nat) : sumN (fun q => if m (prI q (k / 60) (k % 60 / 12) (k % 12 / 4) (k % 4)) = true then 0 else 1) 6 = npN m (scX k) := by
  obtain ⟨e1, e2, e3, e4⟩ := sc_parts (a := k / 60) (b := k % 60 / 12) (c := k % 12 / 4) (d := k % 4) (by omega) (by omega) (by omega)
  unfold npN prX scX
  rw [e1, e2, e3, e4]
def z0 : Nat → Int32 := fun _ => nI 0
def asS (oo so gg sg : Nat → Int32) (k : Nat) : Bool := decide (oo k = so k) && decide (gg k = sg k)
theorem asS_row {g h oo so gg sg : Nat → Int32} {n k : Nat} (hk : k < n) : asS (rowK g oo n) so (rowK h gg n) sg k = asS g so h sg k := by
  simp only [asS, rowK, if_pos hk]
theorem asS_row2 {g h x y oo so gg sg : Nat → Int32} {n k : Nat} (hk : k < n) : asS (rowK g oo n) (rowK x so n) (rowK h gg n) (rowK y sg n) k = asS g x h y k := by
  simp only [asS, rowK, if_pos hk]
def mdifL (a : Nat → Bool) : Nat → Int64
  | 0 => 0
  | k + 1 => mdifL a k ||| (if a k = true then (0 : Int64) else (1 : Int64) <<< ((nI k).toInt64 &&& 63))
def fb1 (o : Nat) : Nat → Int32 := upd z0 (o / 5) (nI 0 ||| bit1 (o % 5))
def fb2 (o t : Nat) : Nat → Int32 := upd (fb1 o) (t / 5) (fb1 o (t / 5) ||| bit1 (t % 5))
def mfit (ne : Nat → Int32) (tr : Nat → Bool) (pn : Nat → Nat) (b : Nat → Int32) (np : Nat) (c : Nat → Nat) (so sg : Nat → Int32) (n : Nat) : Bool := allB (asS (mE ne tr pn b np c) so (mT ne tr pn b np c) sg) n
abbrev mS : Type := Int32 × Int32 × Nat
def mtry (b : Bool) (o t : Int32) (s : mS) : mS :=
  (if b = true then (if s.2.2 = 0 then o else s.1) else s.1, if b = true then (if s.2.2 = 0 then t else s.2.1) else s.2.1, if b = true then s.2.2 + 1 else s.2.2)
def mones (fit : (Nat → Int32) → Bool) (s : mS) : Nat → mS
  | 0 => s
  | k + 1 => mtry (fit (fb1 k)) (nI k) (-1) (mones fit s k)
def mtwI (fit : (Nat → Int32) → Bool) (o : Nat) (s : mS) : Nat → mS
  | 0 => s
  | k + 1 => if o < k then mtry (fit (fb2 o k)) (nI o) (nI k) (mtwI fit o s k) else mtwI fit o s k
theorem mtwI_start (fit : (Nat → Int32) → Bool) (o : Nat) (s : mS) : ∀ k, k ≤ o + 1 → mtwI fit o s k = s := by
  intro k
  induction k with
  | zero => intro _; rfl
  | succ k ih => intro h; simp only [mtwI]; rw [if_neg (by omega)]; exact ih (by omega)
def mtwS (fit : (Nat → Int32) → Bool) (s : mS) (N : Nat) : Nat → mS
  | 0 => s
  | o + 1 => mtwI fit o (mtwS fit s N o) N
theorem mtry_ct (b : Bool) (o t : Int32) (s : mS) : (mtry b o t s).2.2 ≤ s.2.2 + 1 := by
  simp only [mtry]
  split <;> omega
theorem mones_ct (fit : (Nat → Int32) → Bool) (s : mS) : ∀ k, (mones fit s k).2.2 ≤ s.2.2 + k := by
  intro k
  induction k with
  | zero => exact Nat.le_refl _
  | succ k ih =>
    have h := mtry_ct (fit (fb1 k)) (nI k) (-1) (mones fit s k)
    simp only [mones]
    omega
theorem mtwI_ct (fit : (Nat → Int32) → Bool) (o : Nat) (s : mS) : ∀ k, (mtwI fit o s k).2.2 ≤ s.2.2 + k := by
  intro k
  induction k with
  | zero => exact Nat.le_refl _
  | succ k ih =>
    have h := mtry_ct (fit (fb2 o k)) (nI o) (nI k) (mtwI fit o s k)
    simp only [mtwI]
    split <;> omega
theorem mtwS_ct (fit : (Nat → Int32) → Bool) (s : mS) (N : Nat) : ∀ o, (mtwS fit s N o).2.2 ≤ s.2.2 + o * N := by
  intro o
  induction o with
  | zero => simp [mtwS]
  | succ o ih =>
    have h := mtwI_ct fit o (mtwS fit s N o) N
    simp only [mtwS]
    rw [Nat.succ_mul]
    omega
/-- the reference's search: how many faults, and what it keeps -/
def exS (fit : (Nat → Int32) → Bool) (N : Nat) (s0 : mS) : Int32 × mS :=
  if fit z0 = true then (nI 0, (if s0.2.2 = 0 then (-1) else s0.1, if s0.2.2 = 0 then (-1) else s0.2.1, s0.2.2 + 1))
  else if (mones fit s0 N).2.2 = 0 then
    (if (mtwS fit (mones fit s0 N) N N).2.2 = 0 then (-1) else nI 2, mtwS fit (mones fit s0 N) N N)
  else (nI 1, mones fit s0 N)
theorem rowK_lt {g e : Nat → Int32} {n k : Nat} (h : k < n) : rowK g e n k = g k := if_pos h
theorem rowN_lt {g e : Nat → Nat} {n k : Nat} (h : k < n) : rowN g e n k = g k := if_pos h
def mdD (a x b y : Nat → Int32) (p k : Nat) : Bool := (tb (a k ^^^ x k) p || tb (b k ^^^ y k) p)
theorem nI_m1 {k : Nat} (h : k < 2 ^ 30) : ¬ nI k = (-1) := by
  intro e
  have h1 := nI_toInt (n := k) (by omega)
  rw [e] at h1
  have : ((-1 : Int32).toInt) = -1 := by decide
  omega
def blF (x : Int32) : Int32 := x / nI 5 * nI 10 + (x - x / nI 5 * nI 5)
