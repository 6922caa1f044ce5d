/-! THE RELATION of class and reference, and how each call keeps it -/
def Inv (np : Nat) (ac me na : Int32) (n : Nat) (c : Nat → Nat) (flt : Int32) (stale : Bool) (m_e m_t : Nat → Int32) (m_w : Nat → Nat) (m_pl y_e y_t : Nat → Int32) (kn : Bool) (fw : Int32) (ct fi se : Nat) (ne : Nat → Int32) (tr : Nat → Bool) (pn : Nat → Nat) (ft : Nat → Int32) : Prop :=
  RelP np ac me na ne tr pn ∧ RelF np flt ft ∧ n ≤ 60 ∧ (∀ k, k < n → okN np (c k)) ∧ (fi < 2 ^ 31 ∧ se < 2 ^ 31) ∧
  (stale = false → (∀ k, k < n → m_e k = mE ne tr pn z0 np c k ∧ m_t k = mT ne tr pn z0 np c k ∧ m_w k = mW ne tr pn z0 np c k ∧ y_e k = mE ne tr pn ft np c k ∧ y_t k = mT ne tr pn ft np c k) ∧ ∀ v s, 1 ≤ v → v ≤ 4 → s < 3 → m_pl ((v - 1) * 3 + s) = mL ne tr pn z0 c n (3 * v + s)) ∧
  (stale = false → kn = true → SrchOK (fun b => mfit ne tr pn b np c (mE ne tr pn ft np c) (mT ne tr pn ft np c) n) (5 * np) (fw, ct, fi, se))
theorem rowK_at {g e : Nat → Int32} {n k : Nat} (h : k < n) : rowK g e n k = g k := if_pos h
section INV
variable {np : Nat} {ac me na : Int32} {n : Nat} {c : Nat → Nat} {flt : Int32} {stale : Bool} {m_e m_t : Nat → Int32} {m_w : Nat → Nat} {m_pl y_e y_t : Nat → Int32} {kn : Bool} {fw : Int32} {ct fi se : Nat} {ne : Nat → Int32} {tr : Nat → Bool} {pn : Nat → Nat} {ft : Nat → Int32}
theorem inv_dirty (hR : RelP np ac me na ne tr pn) (hF : RelF np flt ft) (hn : n ≤ 60) (hc : ∀ k, k < n → okN np (c k)) (hb : fi < 2 ^ 31 ∧ se < 2 ^ 31) : Inv np ac me na n c flt true m_e m_t m_w m_pl y_e y_t kn fw ct fi se ne tr pn ft :=
  ⟨hR, hF, hn, hc, hb, fun h => absurd h (by decide), fun h => absurd h (by decide)⟩
theorem inv_settle (h : Inv np ac me na n c flt stale m_e m_t m_w m_pl y_e y_t kn fw ct fi se ne tr pn ft) : Inv np ac me na n c flt false (if stale = true then rowK (rEx ac me na (nI 0) c) m_e n else m_e) (if stale = true then rowK (rTg ac me na (nI 0) c) m_t n else m_t) (if stale = true then rowN (rWh ac me na (nI 0) c) m_w n else m_w) (if stale = true then runPl ac me na (nI 0) c n else m_pl) (if stale = true then rowK (rEx ac me na flt c) y_e n else y_e) (if stale = true then rowK (rTg ac me na flt c) y_t n else y_t) (!stale && kn) fw ct fi se ne tr pn ft := by
  obtain ⟨hR, hF, hn, hc, hb, h1, h2⟩ := h
  cases stale
  · exact ⟨hR, hF, hn, hc, hb, h1, fun _ hk => h2 rfl hk⟩
  · refine ⟨hR, hF, hn, hc, hb, fun _ => ⟨fun k hk => ?_, fun v s a1 a2 a3 => ?_⟩, fun _ h => absurd (show false = true from h) (by decide)⟩
    · rw [if_pos rfl, if_pos rfl, if_pos rfl, if_pos rfl, if_pos rfl, rowK_at hk, rowK_at hk, rowK_at hk, rowK_at hk, rowN_lt hk]
      exact ⟨run_ex hR RelF_0 hc hk, run_tg hR RelF_0 hc hk, run_wh hR hc hk, run_ex hR hF hc hk, run_tg hR hF hc hk⟩
    · rw [if_pos rfl]
      exact (run_pl hR RelF_0 hc n (Nat.le_refl _)).1 v s a1 a2 a3
theorem mfit_congr {b : Nat → Int32} {so sg so' sg' : Nat → Int32} (h1 : ∀ k, k < n → so k = so' k) (h2 : ∀ k, k < n → sg k = sg' k) : mfit ne tr pn b np c so sg n = mfit ne tr pn b np c so' sg' n := by
  unfold mfit
  refine allB_congr n fun k hk => ?_
  unfold asS
  rw [h1 k hk, h2 k hk]
/-- behind findFewest -/
theorem inv_find {YE YT : Nat → Int32} (h : Inv np ac me na n c flt false m_e m_t m_w m_pl YE YT kn fw ct fi se ne tr pn ft) {FS : sS} (hFS : FS = if kn = true then (fw, ct, fi, se) else ffS (fun b => fitB ac me na b c YE YT n) (5 * np) (fw, 0, fi, se)) : Inv np ac me na n c flt false m_e m_t m_w m_pl YE YT true FS.1 FS.2.1 FS.2.2.1 FS.2.2.2 ne tr pn ft := by
  obtain ⟨hR, hF, hn, hc, hb, h1, h2⟩ := h
  have h1' := (h1 rfl).1
  have h6 := hR.1.2.1
  have hS : SrchOK (fun b => mfit ne tr pn b np c (mE ne tr pn ft np c) (mT ne tr pn ft np c) n) (5 * np) FS := by
    rw [hFS]
    cases kn
    · rw [if_neg (by decide)]
      refine srch_eq (by omega) ?_ (fun o ho => ?_) (fun o t ho ht => ?_) fw hb
      · exact fit_eq hR RelF_0 hc (fun k hk => (h1' k hk).2.2.2.1) (fun k hk => (h1' k hk).2.2.2.2)
      · exact fit_eq hR (RelF_1 h6 ho) hc (fun k hk => (h1' k hk).2.2.2.1) (fun k hk => (h1' k hk).2.2.2.2)
      · exact fit_eq hR (RelF_2 h6 ho ht) hc (fun k hk => (h1' k hk).2.2.2.1) (fun k hk => (h1' k hk).2.2.2.2)
    · rw [if_pos rfl]; exact h2 rfl rfl
  exact ⟨hR, hF, hn, hc, (hS 0 0).1, h1, fun _ _ => hS⟩
/-- what the reference's search says, whatever its kept rows are -/
theorem ex_row {so sg : Nat → Int32} {S : sS} {N : Nat} {fs sc : Int32} (h : SrchOK (fun b => mfit ne tr pn b np c (mE ne tr pn ft np c) (mT ne tr pn ft np c) n) N S) : SrchE S (exS (fun b => mfit ne tr pn b np c (rowK (mE ne tr pn ft np c) so n) (rowK (mT ne tr pn ft np c) sg n) n) N (fs, sc, 0)) := by
  have e : (fun b => mfit ne tr pn b np c (rowK (mE ne tr pn ft np c) so n) (rowK (mT ne tr pn ft np c) sg n) n) = fun b => mfit ne tr pn b np c (mE ne tr pn ft np c) (mT ne tr pn ft np c) n := by
    funext b
    exact mfit_congr (fun k hk => rowK_at hk) (fun k hk => rowK_at hk)
  rw [e]
  exact h fs sc
end INV
/-! the ports -/
theorem rel_begin {k : Nat} (h2 : 2 ≤ k) (h6 : k ≤ 6) : RelP k (rsA k) (rsM k) (rsM k) (fun _ => bit1 0) (fun _ => false) (fun _ => 1) := by
  refine ⟨⟨h2, h6, fun p _ => ⟨(by decide : 1 ≤ 4), fun _ => Nat.le_refl 1⟩⟩, fun p hp => ?_, fun p v hp h1 h4 => ⟨?_, ?_⟩, fun p v hp hp6 h1 h4 => ?_⟩
  · have key : ∀ k, k < 7 → ∀ p, p < k → tb (rsA k) p = !false := by decide +kernel
    exact key k (by omega) p hp
  · have key : ∀ k, k < 7 → ∀ p, p < k → ∀ v, v < 5 → 1 ≤ v → tb (rsM k) (6 * v + p) = tb (bit1 0) (v - 1) := by decide +kernel
    exact key k (by omega) p hp v (by omega) h1
  · have key : ∀ k, k < 7 → ∀ p, p < k → ∀ v, v < 5 → 1 ≤ v → tb (rsM k) (6 * v + p) = decide (1 = v) := by decide +kernel
    exact key k (by omega) p hp v (by omega) h1
  · have key : ∀ k, k < 7 → ∀ p, p < 6 → k ≤ p → ∀ v, v < 5 → 1 ≤ v → tb (rsM k) (6 * v + p) = false := by decide +kernel
    exact key k (by omega) p hp6 hp v (by omega) h1
theorem relF_begin {k : Nat} : RelF k (nI 0) (fun _ => nI 0) := fun p j _ _ => by rw [tb_n0, tb_n0]
theorem tb_mtM {set me : Int32} {p v q : Nat} (hp : p < 6) (hq : q < 6) (hv : v ≤ 4) : ∀ K, K ≤ 4 → tb (mtM set p me K) (6 * v + q) = if q = p ∧ 1 ≤ v ∧ v ≤ K then tb set (v - 1) else tb me (6 * v + q) := by
  intro K
  induction K with
  | zero => intro _; rw [if_neg (by omega)]; rfl
  | succ K ih =>
    intro hK
    have ih := ih (by omega)
    simp only [mtM]
    have hb : tb (bit1 (6 * (K + 1) + p)) (6 * v + q) = decide (q = p ∧ v = K + 1) := by
      rw [tb_bit (by omega) (by omega)]
      exact decide_eq_decide.mpr ⟨fun _ => by omega, fun _ => by omega⟩
    by_cases e : q = p ∧ v = K + 1
    · obtain ⟨rfl, rfl⟩ := e
      rw [if_pos (by omega : q = q ∧ 1 ≤ K + 1 ∧ K + 1 ≤ K + 1)]
      split <;> rename_i hs
      · rw [tb_or, hb]
        have : tb set (K + 1 - 1) = true := hs
        rw [this]; simp
      · rw [tb_and, tb_not (by omega), hb]
        have : tb set (K + 1 - 1) = false := vz_bnt hs
        rw [this]; simp
    · have h0 : (if q = p ∧ 1 ≤ v ∧ v ≤ K + 1 then tb set (v - 1) else tb me (6 * v + q)) = if q = p ∧ 1 ≤ v ∧ v ≤ K then tb set (v - 1) else tb me (6 * v + q) := by
        by_cases e2 : q = p ∧ 1 ≤ v ∧ v ≤ K
        · rw [if_pos e2, if_pos (by omega)]
        · rw [if_neg e2, if_neg (by omega)]
      rw [h0, ← ih]
      split
      · rw [tb_or, hb]; simp [e]
      · rw [tb_and, tb_not (by omega), hb]; simp [e]
theorem tb_mtN {na : Int32} {o p v q : Nat} (hp : p < 6) (hq : q < 6) (hv : v ≤ 4) : ∀ K, K ≤ 4 → tb (mtN o p na K) (6 * v + q) = if q = p ∧ 1 ≤ v ∧ v ≤ K then decide (o = v) else tb na (6 * v + q) := by
  intro K
  induction K with
  | zero => intro _; rw [if_neg (by omega)]; rfl
  | succ K ih =>
    intro hK
    have ih := ih (by omega)
    simp only [mtN]
    have hb : tb (bit1 (6 * (K + 1) + p)) (6 * v + q) = decide (q = p ∧ v = K + 1) := by
      rw [tb_bit (by omega) (by omega)]
      exact decide_eq_decide.mpr ⟨fun _ => by omega, fun _ => by omega⟩
    by_cases e : q = p ∧ v = K + 1
    · obtain ⟨rfl, rfl⟩ := e
      rw [if_pos (by omega : q = q ∧ 1 ≤ K + 1 ∧ K + 1 ≤ K + 1)]
      split <;> rename_i hs
      · rw [tb_or, hb]; simp [hs]
      · rw [tb_and, tb_not (by omega), hb]; simp; omega
    · have h0 : (if q = p ∧ 1 ≤ v ∧ v ≤ K + 1 then decide (o = v) else tb na (6 * v + q)) = if q = p ∧ 1 ≤ v ∧ v ≤ K then decide (o = v) else tb na (6 * v + q) := by
        by_cases e2 : q = p ∧ 1 ≤ v ∧ v ≤ K
        · rw [if_pos e2, if_pos (by omega)]
        · rw [if_neg e2, if_neg (by omega)]
      rw [h0, ← ih]
      split
      · rw [tb_or, hb]; simp [e]
      · rw [tb_and, tb_not (by omega), hb]; simp [e]
section PRT
variable {np : Nat} {ac me na : Int32} {ne : Nat → Int32} {tr : Nat → Bool} {pn : Nat → Nat}
/-- a port set anew: both keep the same -/
theorem rel_set (hR : RelP np ac me na ne tr pn) {p o : Nat} {set ac' : Int32} {t : Bool} (hp : p < np) (ho : o ≤ 4) (hto : t = false → 1 ≤ o) (ha : ∀ q, q < 6 → tb ac' q = if q = p then !t else tb ac q) : RelP np ac' (mtM set p me 4) (mtN o p na 4) (upd ne p set) (upB tr p t) (upN pn p o) := by
  obtain ⟨⟨h2, h6, hM⟩, h3, h4, h5⟩ := hR
  refine ⟨⟨h2, h6, fun q hq => ?_⟩, fun q hq => ?_, fun q v hq h1 hv => ⟨?_, ?_⟩, fun q v hq hq6 h1 hv => ?_⟩
  · simp only [upN, upB]
    by_cases e : q = p
    · rw [if_pos e, if_pos e]; exact ⟨ho, hto⟩
    · rw [if_neg e, if_neg e]; exact hM q hq
  · rw [ha q (by omega)]
    simp only [upB]
    by_cases e : q = p
    · rw [if_pos e, if_pos e]
    · rw [if_neg e, if_neg e]; exact h3 q hq
  · rw [tb_mtM (by omega) (by omega) hv 4 (Nat.le_refl _)]
    simp only [upd]
    by_cases e : q = p
    · rw [if_pos (by omega), if_pos e]
    · rw [if_neg (by omega), if_neg e]; exact (h4 q v hq h1 hv).1
  · rw [tb_mtN (by omega) (by omega) hv 4 (Nat.le_refl _)]
    by_cases e : q = p
    · have e9 : upN pn p o q = o := if_pos e
      rw [if_pos (by omega)]
      exact decide_eq_decide.mpr (by rw [e9])
    · have e9 : upN pn p o q = pn q := if_neg e
      rw [if_neg (by omega), (h4 q v hq h1 hv).2]
      exact decide_eq_decide.mpr (by rw [e9])
  · rw [tb_mtM (by omega) hq6 hv 4 (Nat.le_refl _), if_neg (by omega)]
    exact h5 q v hq hq6 h1 hv
theorem rel_access (hR : RelP np ac me na ne tr pn) {p v : Nat} (hp : p < np) (h1 : 1 ≤ v) (h4 : v ≤ 4) : RelP np ((ac &&& (bit1 p ^^^ (-1))) ||| bit1 p) (mtM (bit1 (v - 1)) p me 4) (mtN v p na 4) (upd ne p (bit1 (v - 1))) (upB tr p false) (upN pn p v) := by
  have h6 := hR.1.2.1
  refine rel_set hR hp h4 (fun _ => h1) fun q hq => ?_
  rw [tb_or, tb_and, tb_not (by omega), tb_bit (by omega) (by omega)]
  by_cases e : q = p
  · rw [if_pos e]; simp [e]
  · rw [if_neg e]; simp [show ¬ p = q by omega]
theorem rel_trunk (hR : RelP np ac me na ne tr pn) {p j o : Nat} (hp : p < np) (ho : o ≤ 4) : RelP np (ac &&& (bit1 p ^^^ (-1))) (mtM (nI j) p me 4) (mtN o p na 4) (upd ne p (nI j)) (upB tr p true) (upN pn p o) := by
  have h6 := hR.1.2.1
  refine rel_set hR hp ho (fun h => absurd h (by decide)) fun q hq => ?_
  rw [tb_and, tb_not (by omega), tb_bit (by omega) (by omega)]
  by_cases e : q = p
  · rw [if_pos e]; simp [e]
  · rw [if_neg e]; simp [show ¬ p = q by omega]
theorem rel_fault {flt : Int32} {ft : Nat → Int32} (h6 : np ≤ 6) (hF : RelF np flt ft) {p k : Nat} (hp : p < np) (hk : k < 5) : RelF np (flt ^^^ bit1 (6 * k + p)) (upd ft p (ft p ^^^ bit1 k)) := by
  intro q j hq hj
  rw [tb_xor, tb_bit (by omega) (by omega), hF q j hq hj]
  simp only [upd]
  by_cases e : q = p
  · subst e
    rw [if_pos rfl, tb_xor, tb_bit (by omega) (by omega)]
    congr 1
    exact decide_eq_decide.mpr ⟨fun _ => by omega, fun _ => by omega⟩
  · rw [if_neg e, decide_eq_false (by omega)]
    cases tb (ft q) j <;> rfl
theorem res_fault {flt : Int32} {ft : Nat → Int32} (h6 : np ≤ 6) (hF : RelF np flt ft) {p k : Nat} (hp : p < np) (hk : k < 5) : tb (flt ^^^ bit1 (6 * k + p)) (6 * k + p) = tb (ft p ^^^ bit1 k) k := by
  have := rel_fault h6 hF hp hk p k hp hk
  simp only [upd] at this
  rw [if_pos trivial] at this
  exact this
end PRT
/-! a list whose first frames are the same -/
theorem mL_congr {ne : Nat → Int32} {tr : Nat → Bool} {pn : Nat → Nat} {b : Nat → Int32} {c c' : Nat → Nat} : ∀ k, (∀ j, j < k → c j = c' j) → mL ne tr pn b c k = mL ne tr pn b c' k := by
  intro k
  induction k with
  | zero => intro _; rfl
  | succ k ih => intro h; simp only [mL]; rw [ih fun j hj => h j (by omega), h k (by omega)]
theorem mcv_lt {c : Nat → Nat} {np n j : Nat} (h : j < n) : ∀ k, mcv c np n k j = c j := by
  intro k
  induction k with
  | zero => rfl
  | succ k ih =>
    simp only [mcv]
    split
    · simp only [upN]; rw [if_neg (by omega)]; exact ih
    · exact ih
theorem inv_list {np : Nat} {ac me na : Int32} {n : Nat} {c c' : Nat → Nat} {flt : Int32} {stale : Bool} {m_e m_t : Nat → Int32} {m_w : Nat → Nat} {m_pl y_e y_t : Nat → Int32} {kn : Bool} {fw : Int32} {ct fi se : Nat} {ne : Nat → Int32} {tr : Nat → Bool} {pn : Nat → Nat} {ft : Nat → Int32} (h : Inv np ac me na n c flt stale m_e m_t m_w m_pl y_e y_t kn fw ct fi se ne tr pn ft) (e : ∀ j, j < n → c j = c' j) : Inv np ac me na n c' flt stale m_e m_t m_w m_pl y_e y_t kn fw ct fi se ne tr pn ft := by
  obtain ⟨hR, hF, hn, hc, hb, h1, h2⟩ := h
  have eE : ∀ b k, k < n → mE ne tr pn b np c k = mE ne tr pn b np c' k := fun b k hk => by
    unfold mE; rw [mL_congr k fun j hj => e j (by omega), e k hk]
  have eT : ∀ b k, k < n → mT ne tr pn b np c k = mT ne tr pn b np c' k := fun b k hk => by
    unfold mT; rw [mL_congr k fun j hj => e j (by omega), e k hk]
  have eW : ∀ b k, k < n → mW ne tr pn b np c k = mW ne tr pn b np c' k := fun b k hk => by
    unfold mW; rw [mL_congr k fun j hj => e j (by omega), e k hk]
  refine ⟨hR, hF, hn, fun k hk => by rw [← e k hk]; exact hc k hk, hb, fun hs => ⟨fun k hk => ?_, fun v s a1 a2 a3 => ?_⟩, fun hs hk => ?_⟩
  · rw [← eE _ k hk, ← eT _ k hk, ← eW _ k hk, ← eE _ k hk, ← eT _ k hk]
    exact (h1 hs).1 k hk
  · rw [← mL_congr n e]
    exact (h1 hs).2 v s a1 a2 a3
  · have : (fun b => mfit ne tr pn b np c (mE ne tr pn ft np c) (mT ne tr pn ft np c) n) = fun b => mfit ne tr pn b np c' (mE ne tr pn ft np c') (mT ne tr pn ft np c') n := by
      funext b
      unfold mfit
      refine allB_congr n fun k hk => ?_
      unfold asS
      rw [eE b k hk, eT b k hk, eE ft k hk, eT ft k hk]
    rw [← this]
    exact h2 hs hk
