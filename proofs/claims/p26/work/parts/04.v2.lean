/-! SMALL WORDS OF THE WALKER: booleans as ints, joins, loops -/
def bI (b : Bool) : Int32 := if b then 1 else 0
theorem vz_bI1 : bI true = nI 1 := by decide
theorem vz_bI0 : bI false = nI 0 := by decide
theorem vz_beq {b : Bool} : bI b = 0 ↔ b = false := by cases b <;> decide
theorem vz_bne {b : Bool} : ¬ bI b = 0 ↔ b = true := by cases b <;> decide
theorem vz_bb {a b : Bool} : bI a = bI b ↔ a = b := by cases a <;> cases b <;> decide
theorem vz_zn (b : Bool) : narrow .boolean (.int (bI b)) = .int (bI b) := by cases b <;> rfl
theorem vz_zf (b : Bool) : fits .boolean (.int (bI b)) = true := by cases b <;> rfl
theorem vz_zv (b : Bool) : vp_nar .boolean (bI b) = bI b := by cases b <;> rfl
theorem vz_bt {b : Bool} (h : b = true) : b = true := h
theorem vz_bf {b : Bool} (h : b = false) : b = false := h
theorem vz_bnt {b : Bool} (h : ¬ b = true) : b = false := by cases b <;> simp_all
theorem vz_bnf {b : Bool} (h : ¬ b = false) : b = true := by cases b <;> simp_all
theorem vz_n0 {t : Nat} (h : t < 2 ^ 31) : nI t = 0 ↔ t = 0 := by
  rw [← nI_0]
  exact nI_eq h (by decide)
theorem vz_n0lt {t : Nat} (h : t < 2 ^ 31) : 0 < nI t ↔ 0 < t := by
  rw [← nI_0]
  exact nI_ltI (by decide) h
theorem vz_n0le {t : Nat} (h : t < 2 ^ 31) : nI t ≤ 0 ↔ t = 0 := by
  rw [← nI_0, nI_leI h (by decide)]
  omega
theorem vz_ofI (n : Nat) : Int32.ofInt (n : Int) = nI n := by
  apply Int32.toBitVec_inj.mp
  simp [nI, Int32.toBitVec_ofInt, BitVec.ofInt_natCast]
theorem vz_inc (a n : Nat) {z : Int} (h : z = (n : Int)) : nI a + Int32.ofInt z = nI (a + n) := by
  rw [h, vz_ofI, nI_add]
section VZL
variable {p : Program} {l : Launch} {e : Env} {R : Room} {s : State} {m : MethodId} {args : Array Value} {below : List Frame} {meth : Method} {c : Code} {nL : Nat} {D : va_G} {A : Nat → Prop} {Q : State → Prop} {ws : va_W} {kc ks pc : Nat} {lv : vzLoc} {st : List Value}
theorem vz_join (ws' : va_W) (kc' ks' pc' : Nat) (lv' : vzLoc) (st' : List Value) (h1 : VZ p l e R s m args below meth c nL D A Q ws' kc' ks' pc' lv' st' → VZ p l e R s m args below meth c nL D A Q ws kc ks pc lv st) (h2 : VZ p l e R s m args below meth c nL D A Q ws' kc' ks' pc' lv' st') : VZ p l e R s m args below meth c nL D A Q ws kc ks pc lv st := h1 h2
theorem vz_loop {S : Type} (N k0 : Nat) (I : Nat → Prop) (wsf : Nat → S → va_W) (lvf : Nat → S → vzLoc) (h0 : k0 ≤ N) (u0 : S) (i0 : I k0)
    (hb : ∀ (k : Nat) (u : S), k0 ≤ k → k < N → I k → (∀ u' : S, I (k + 1) → VZ p l e R s m args below meth c nL D A Q (wsf (k + 1) u') kc ks pc (lvf (k + 1) u') st) → VZ p l e R s m args below meth c nL D A Q (wsf k u) kc ks pc (lvf k u) st)
    (hx : ∀ u : S, I N → VZ p l e R s m args below meth c nL D A Q (wsf N u) kc ks pc (lvf N u) st) : VZ p l e R s m args below meth c nL D A Q (wsf k0 u0) kc ks pc (lvf k0 u0) st := by
  have key : ∀ j k, k + j = N → k0 ≤ k → ∀ u : S, I k → VZ p l e R s m args below meth c nL D A Q (wsf k u) kc ks pc (lvf k u) st := by
    intro j
    induction j with
    | zero => intro k h1 _ u hi; rw [show k = N by omega] at hi ⊢; exact hx u hi
    | succ j ih => intro k h1 h2 u hi; exact hb k u h2 (by omega) hi (fun u' hi' => ih (k + 1) (by omega) (by omega) u' hi')
  exact key (N - k0) k0 (by omega) (Nat.le_refl _) u0 i0
end VZL
theorem vz_fnt {b : Bool} (h : b = false) : ¬ b = true := by rw [h]; decide
theorem vz_tnf {b : Bool} (h : b = true) : ¬ b = false := by rw [h]; decide
theorem vz_nle {x y : Int32} (h : x < y) : ¬ y ≤ x := Int32.not_le.mpr h
