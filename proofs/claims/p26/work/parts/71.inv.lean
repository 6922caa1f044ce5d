/-! THE RELATION of class and law, and how each call keeps it -/
def Inv (np : Nat) (ac me na : Int32) (n : Nat) (c : Nat → Nat) (flt : Int32) (stale : Bool) (m_e m_t : Nat → Int32) (m_w : Nat → Nat) (m_pl y_e y_t : Nat → Int32) (kn : Bool) (fw : Int32) (ct fi se : Nat) (ne : Nat → Int32) (tr : Nat → Bool) (pn : Nat → Nat) (ft : Nat → Int32) : Prop :=
  RelP np ac me na ne tr pn ∧ RelF np flt ft ∧ n ≤ 14 ∧ (∀ k, k < n → okN np (c k)) ∧ (np ≤ 4 ∧ (∀ p, p < 4 → 1 ≤ pn p → tb (ne p) (pn p - 1) = true)) ∧ (fi < 2 ^ 31 ∧ se < 2 ^ 31) ∧
  (stale = false → (∀ k, k < n → m_e k = mE ne tr pn z0 np c k ∧ m_t k = mT ne tr pn z0 np c k ∧ m_w k = mW ne tr pn z0 np c k ∧ y_e k = mE ne tr pn ft np c k ∧ y_t k = mT ne tr pn ft np c k) ∧ ∀ v s, 1 ≤ v → v ≤ 4 → s < 3 → m_pl ((v - 1) * 3 + s) = mL ne tr pn z0 c n (3 * v + s)) ∧
  (stale = false → kn = true → SrOK (lfit ne tr pn np c (rowK (lE ne tr pn ft np c) (fun _ => 0) n) (rowK (lT ne tr pn ft np c) (fun _ => 0) n) n) np (fw, ct, fi, se))
theorem rowK_at {g e : Nat → Int32} {n k : Nat} (h : k < n) : rowK g e n k = g k := if_pos h
section INV
variable {np : Nat} {ac me na : Int32} {n : Nat} {c : Nat → Nat} {flt : Int32} {stale : Bool} {m_e m_t : Nat → Int32} {m_w : Nat → Nat} {m_pl y_e y_t : Nat → Int32} {kn : Bool} {fw : Int32} {ct fi se : Nat} {ne : Nat → Int32} {tr : Nat → Bool} {pn : Nat → Nat} {ft : Nat → Int32}
theorem inv_dirty (hR : RelP np ac me na ne tr pn) (hF : RelF np flt ft) (hn : n ≤ 14) (hc : ∀ k, k < n → okN np (c k)) (hp : np ≤ 4 ∧ (∀ p, p < 4 → 1 ≤ pn p → tb (ne p) (pn p - 1) = true)) (hb : fi < 2 ^ 31 ∧ se < 2 ^ 31) : Inv np ac me na n c flt true m_e m_t m_w m_pl y_e y_t kn fw ct fi se ne tr pn ft :=
  ⟨hR, hF, hn, hc, hp, hb, fun h => absurd h (by decide), fun h => absurd h (by decide)⟩
theorem inv_settle (h : Inv np ac me na n c flt stale m_e m_t m_w m_pl y_e y_t kn fw ct fi se ne tr pn ft) : Inv np ac me na n c flt false (if stale = true then rowK (rEx ac me na (nI 0) c) m_e n else m_e) (if stale = true then rowK (rTg ac me na (nI 0) c) m_t n else m_t) (if stale = true then rowN (rWh ac me na (nI 0) c) m_w n else m_w) (if stale = true then runPl ac me na (nI 0) c n else m_pl) (if stale = true then rowK (rEx ac me na flt c) y_e n else y_e) (if stale = true then rowK (rTg ac me na flt c) y_t n else y_t) (!stale && kn) fw ct fi se ne tr pn ft := by
  obtain ⟨hR, hF, hn, hc, hp, hb, h1, h2⟩ := h
  cases stale
  · exact ⟨hR, hF, hn, hc, hp, hb, h1, fun _ hk => h2 rfl hk⟩
  · refine ⟨hR, hF, hn, hc, hp, hb, fun _ => ⟨fun k hk => ?_, fun v s a1 a2 a3 => ?_⟩, fun _ h => absurd (show false = true from h) (by decide)⟩
    · rw [if_pos rfl, if_pos rfl, if_pos rfl, if_pos rfl, if_pos rfl, rowK_at hk, rowK_at hk, rowK_at hk, rowK_at hk, rowN_lt hk]
      exact ⟨run_ex hR RelF_0 hc hk, run_tg hR RelF_0 hc hk, run_wh hR hc hk, run_ex hR hF hc hk, run_tg hR hF hc hk⟩
    · rw [if_pos rfl]
      exact (run_pl hR RelF_0 hc n (Nat.le_refl _)).1 v s a1 a2 a3
theorem mfit_congr {b : Nat → Int32} {so sg so' sg' : Nat → Int32} (h1 : ∀ k, k < n → so k = so' k) (h2 : ∀ k, k < n → sg k = sg' k) : mfit ne tr pn b np c so sg n = mfit ne tr pn b np c so' sg' n := by
  unfold mfit
  refine allB_congr n fun k hk => ?_
  unfold asS
  rw [h1 k hk, h2 k hk]
/-- the law's fit is the model's -/
theorem fit_m (hR : RelP np ac me na ne tr pn) (hc : ∀ k, k < n → okN np (c k)) (hp : np ≤ 4 ∧ (∀ p, p < 4 → 1 ≤ pn p → tb (ne p) (pn p - 1) = true)) (b : Nat → Int32) : (lfit ne tr pn np c (rowK (lE ne tr pn ft np c) (fun _ => 0) n) (rowK (lT ne tr pn ft np c) (fun _ => 0) n) n) b = mfit ne tr pn b np c (mE ne tr pn ft np c) (mT ne tr pn ft np c) n := by
  unfold lfit mfit
  refine allB_congr n fun k hk => ?_
  unfold asS
  rw [rowK_at hk, rowK_at hk, lE_eq hR.1 hp.2 hp.1 hc hk, lT_eq hR.1 hp.2 hp.1 hc hk, lE_eq hR.1 hp.2 hp.1 hc hk, lT_eq hR.1 hp.2 hp.1 hc hk]
theorem rk_self {o : Nat} (h : o < 20) : rkB o ||| rkB o = rkB o := by
  refine tb_ext fun j hj => ?_
  rw [tb_or, Bool.or_self]
/-- behind findFewest -/
theorem inv_find {YE YT : Nat → Int32} (h : Inv np ac me na n c flt false m_e m_t m_w m_pl YE YT kn fw ct fi se ne tr pn ft) {FS : sS} (hFS : FS = if kn = true then (fw, ct, fi, se) else ffS (fun b => fitB ac me na b c YE YT n) (5 * np) (fw, 0, fi, se)) : Inv np ac me na n c flt false m_e m_t m_w m_pl YE YT true FS.1 FS.2.1 FS.2.2.1 FS.2.2.2 ne tr pn ft := by
  obtain ⟨hR, hF, hn, hc, hp, hb, h1, h2⟩ := h
  have h1' := (h1 rfl).1
  have h6 := hR.1.2.1
  have hS : SrOK (lfit ne tr pn np c (rowK (lE ne tr pn ft np c) (fun _ => 0) n) (rowK (lT ne tr pn ft np c) (fun _ => 0) n) n) np FS := by
    rw [hFS]
    cases kn
    · rw [if_neg (by decide)]
      refine srch_ok hp.1 ?_ (fun o ho => ?_) (fun o t ho ht => ?_) fw hb
      · rw [fit_m hR hc hp]
        exact fit_eq hR RelF_0 hc (fun k hk => (h1' k hk).2.2.2.1) (fun k hk => (h1' k hk).2.2.2.2)
      · rw [fit_m hR hc hp]
        have hr := RelF_2 h6 ho ho
        rw [rk_self (by omega)] at hr
        exact fit_eq hR hr hc (fun k hk => (h1' k hk).2.2.2.1) (fun k hk => (h1' k hk).2.2.2.2)
      · rw [fit_m hR hc hp]
        exact fit_eq hR (RelF_2 h6 ho ht) hc (fun k hk => (h1' k hk).2.2.2.1) (fun k hk => (h1' k hk).2.2.2.2)
    · rw [if_pos rfl]; exact h2 rfl rfl
  exact ⟨hR, hF, hn, hc, hp, hS.1, h1, fun _ _ => hS⟩
/-- what is told behind settle, in the law's words -/
theorem q_e (h : Inv np ac me na n c flt false m_e m_t m_w m_pl y_e y_t kn fw ct fi se ne tr pn ft) {k : Nat} (hk : k < n) : m_e k = lE ne tr pn z0 np c k := by
  obtain ⟨hR, hF, hn, hc, hp, hb, h1, h2⟩ := h
  rw [lE_eq hR.1 hp.2 hp.1 hc hk]
  exact ((h1 rfl).1 k hk).1
theorem q_t (h : Inv np ac me na n c flt false m_e m_t m_w m_pl y_e y_t kn fw ct fi se ne tr pn ft) {k : Nat} (hk : k < n) : m_t k = lT ne tr pn z0 np c k := by
  obtain ⟨hR, hF, hn, hc, hp, hb, h1, h2⟩ := h
  rw [lT_eq hR.1 hp.2 hp.1 hc hk]
  exact ((h1 rfl).1 k hk).2.1
theorem q_w (h : Inv np ac me na n c flt false m_e m_t m_w m_pl y_e y_t kn fw ct fi se ne tr pn ft) {k : Nat} (hk : k < n) : nI (m_w k) = lW ne tr pn z0 np c k := by
  obtain ⟨hR, hF, hn, hc, hp, hb, h1, h2⟩ := h
  rw [lW_eq hR.1 hp.2 hp.1 hc hk]
  exact congrArg nI ((h1 rfl).1 k hk).2.2.1
theorem q_se (h : Inv np ac me na n c flt false m_e m_t m_w m_pl y_e y_t kn fw ct fi se ne tr pn ft) {k : Nat} (hk : k < n) : y_e k = lE ne tr pn ft np c k := by
  obtain ⟨hR, hF, hn, hc, hp, hb, h1, h2⟩ := h
  rw [lE_eq hR.1 hp.2 hp.1 hc hk]
  exact ((h1 rfl).1 k hk).2.2.2.1
theorem q_st (h : Inv np ac me na n c flt false m_e m_t m_w m_pl y_e y_t kn fw ct fi se ne tr pn ft) {k : Nat} (hk : k < n) : y_t k = lT ne tr pn ft np c k := by
  obtain ⟨hR, hF, hn, hc, hp, hb, h1, h2⟩ := h
  rw [lT_eq hR.1 hp.2 hp.1 hc hk]
  exact ((h1 rfl).1 k hk).2.2.2.2
theorem q_pl (h : Inv np ac me na n c flt false m_e m_t m_w m_pl y_e y_t kn fw ct fi se ne tr pn ft) {k : Nat} (hk : k < 12) : m_pl ((1 + k / 3 - 1) * 3 + k % 3) = lP ne tr pn z0 c n k := by
  obtain ⟨hR, hF, hn, hc, hp, hb, h1, h2⟩ := h
  have e1 := (h1 rfl).2 (1 + k / 3) (k % 3) (by omega) (by omega) (by omega)
  have e2 := (lP_rel hR.1 hp.2 hp.1 hc n (Nat.le_refl _) (b := z0)).1 (1 + k / 3) (k % 3) (by omega) (by omega) (by omega)
  rw [e1, ← e2]
  congr 1
  omega
/-- a long of the frames that differ, as the law makes it -/
def ldif (E E2 T T2 : Nat → Int32) : Nat → Int64
  | 0 => 0
  | k + 1 => ldif E E2 T T2 k ||| (if E k = E2 k then (if T k = T2 k then (0 : Int64) else ((1 : Int64) <<< ((nI k).toInt64 &&& 63))) else ((1 : Int64) <<< ((nI k).toInt64 &&& 63)))
theorem xor_0 {x y : Int32} : x ^^^ y = 0 ↔ x = y := by
  constructor
  · intro h
    refine tb_ext fun i _ => ?_
    have this : tb (x ^^^ y) i = tb 0 i := congrArg (fun z => tb z i) h
    rw [tb_xor, tb_0] at this
    cases h1 : tb x i <;> cases h2 : tb y i <;> simp_all
  · intro h
    subst h
    refine tb_ext fun i _ => ?_
    rw [tb_xor, tb_0]
    simp
theorem or_0 {x y : Int32} : x ||| y = 0 ↔ x = 0 ∧ y = 0 := by
  constructor
  · intro h
    have k : ∀ i, i < 32 → tb x i = false ∧ tb y i = false := fun i _ => by
      have this : tb (x ||| y) i = tb 0 i := congrArg (fun z => tb z i) h
      rw [tb_or, tb_0] at this
      cases h1 : tb x i <;> cases h2 : tb y i <;> simp_all
    exact ⟨tb_ext fun i hi => by rw [(k i hi).1, tb_0], tb_ext fun i hi => by rw [(k i hi).2, tb_0]⟩
  · rintro ⟨h1, h2⟩
    rw [h1, h2]
    refine tb_ext fun i _ => ?_
    rw [tb_or, tb_0]
    rfl
theorem dif_l {g E E2 T T2 : Nat → Int32} : ∀ n, (∀ k, k < n → (g k = 0 ↔ (E k = E2 k ∧ T k = T2 k))) → difL g n = ldif E E2 T T2 n := by
  intro n
  induction n with
  | zero => intro _; rfl
  | succ n ih =>
    intro h
    have h1 := h n (by omega)
    simp only [difL, ldif]
    rw [ih fun k hk => h k (by omega)]
    have e0 : ∀ a : Int64, a ||| 0 = a := fun a => by
      apply Int64.toBitVec_inj.mp
      simp
    by_cases hg : g n = 0
    · obtain ⟨a1, a2⟩ := h1.mp hg
      rw [if_pos hg, if_pos a1, if_pos a2, e0]
    · rw [if_neg hg]
      by_cases a1 : E n = E2 n
      · rw [if_pos a1, if_neg (fun a2 => hg (h1.mpr ⟨a1, a2⟩))]
      · rw [if_neg a1]
theorem q_dif (h : Inv np ac me na n c flt false m_e m_t m_w m_pl y_e y_t kn fw ct fi se ne tr pn ft) : difL (dfK m_e m_t y_e y_t) n = ldif (lE ne tr pn z0 np c) (lE ne tr pn ft np c) (lT ne tr pn z0 np c) (lT ne tr pn ft np c) n := by
  refine dif_l n fun k hk => ?_
  unfold dfK
  rw [or_0, xor_0, xor_0, q_e h hk, q_t h hk, q_se h hk, q_st h hk]
theorem dfc_congr {f g : Nat → Int32} {p : Nat} : ∀ n, (∀ k, k < n → f k = g k) → dfcI f p n = dfcI g p n := by
  intro n
  induction n with
  | zero => intro _; rfl
  | succ n ih =>
    intro h
    simp only [dfcI]
    rw [ih fun k hk => h k (by omega), h n (by omega)]
theorem q_dfc (h : Inv np ac me na n c flt false m_e m_t m_w m_pl y_e y_t kn fw ct fi se ne tr pn ft) {p : Nat} : dfcI (dfK m_e m_t y_e y_t) p n = dfcI (dfK (lE ne tr pn z0 np c) (lT ne tr pn z0 np c) (lE ne tr pn ft np c) (lT ne tr pn ft np c)) p n := by
  refine dfc_congr n fun k hk => ?_
  unfold dfK
  rw [q_e h hk, q_t h hk, q_se h hk, q_st h hk]
theorem q_met (h : Inv np ac me na n c flt stale m_e m_t m_w m_pl y_e y_t kn fw ct fi se ne tr pn ft) : sumI (fun v => bcF (mallF c n v)) 18 = nI (lmA c n 4) := by
  obtain ⟨hR, hF, hn, hc, hp, hb, h1, h2⟩ := h
  rw [← met_eqL hp.1 hc]
  exact met_eq (RelA_all n fun j hj => (hc j hj).1)
/-- what is told of a search -/
theorem q_sr (h : Inv np ac me na n c flt false m_e m_t m_w m_pl y_e y_t true fw ct fi se ne tr pn ft) {N : Nat} (hN : SrN (lfit ne tr pn np c (rowK (lE ne tr pn ft np c) (fun _ => 0) n) (rowK (lT ne tr pn ft np c) (fun _ => 0) n) n) np N) : SrE (fw, ct, fi, se) (lO (lfit ne tr pn np c (rowK (lE ne tr pn ft np c) (fun _ => 0) n) (rowK (lT ne tr pn ft np c) (fun _ => 0) n) n) np N) := h.2.2.2.2.2.2.2 rfl rfl |>.2 N hN
end INV
theorem num_l {o : Nat} : 10 * (o / 5) + o % 5 = o / 5 * 10 + o % 5 := by omega
theorem fr_eq (x : Nat) : 1000 * (x / 1000) + 100 * (x / 100 % 10) + 10 * (x / 10 % 10) + x % 10 = x := by omega
/-! the ports -/
theorem rel_begin {k : Nat} (h2 : 2 ≤ k) (h6 : k ≤ 6) : RelP k (rsA k) (rsM k) (rsM k) (fun _ => bit1 0) (fun _ => false) (fun _ => 1) := by
  refine ⟨⟨h2, h6, fun p _ => ⟨(by decide : 1 ≤ 4), fun _ => Nat.le_refl 1⟩⟩, fun p hp => ?_, fun p v hp h1 h4 => ⟨?_, ?_⟩, fun p v hp hp6 h1 h4 => ?_⟩
  · have key : ∀ k, k < 7 → ∀ p, p < k → tb (rsA k) p = !false := by decide +kernel
    exact key k (by omega) p hp
  · have key : ∀ k, k < 7 → ∀ p, p < k → ∀ v, v < 5 → 1 ≤ v → tb (rsM k) (6 * v + p) = tb (bit1 0) (v - 1) := by decide +kernel
    exact key k (by omega) p hp v (by omega) h1
  · have key : ∀ k, k < 7 → ∀ p, p < k → ∀ v, v < 5 → 1 ≤ v → tb (rsM k) (6 * v + p) = decide (1 = v) := by decide +kernel
    exact key k (by omega) p hp v (by omega) h1
  · have key : ∀ k, k < 7 → ∀ p, p < 6 → k ≤ p → ∀ v, v < 5 → 1 ≤ v → tb (rsM k) (6 * v + p) = false := by decide +kernel
    exact key k (by omega) p hp6 hp v (by omega) h1
theorem relF_begin {k : Nat} : RelF k (nI 0) (fun _ => nI 0) := fun p j _ _ => by rw [tb_n0, tb_n0]
theorem tb_mtM {set me : Int32} {p v q : Nat} (hp : p < 6) (hq : q < 6) (hv : v ≤ 4) : ∀ K, K ≤ 4 → tb (mtM set p me K) (6 * v + q) = if q = p ∧ 1 ≤ v ∧ v ≤ K then tb set (v - 1) else tb me (6 * v + q) := by
  intro K
  induction K with
  | zero => intro _; rw [if_neg (by omega)]; rfl
  | succ K ih =>
    intro hK
    have ih := ih (by omega)
    simp only [mtM]
    have hb : tb (bit1 (6 * (K + 1) + p)) (6 * v + q) = decide (q = p ∧ v = K + 1) := by
      rw [tb_bit (by omega) (by omega)]
      exact decide_eq_decide.mpr ⟨fun _ => by omega, fun _ => by omega⟩
    by_cases e : q = p ∧ v = K + 1
    · obtain ⟨rfl, rfl⟩ := e
      rw [if_pos (by omega : q = q ∧ 1 ≤ K + 1 ∧ K + 1 ≤ K + 1)]
      split <;> rename_i hs
      · rw [tb_or, hb]
        have : tb set (K + 1 - 1) = true := hs
        rw [this]; simp
      · rw [tb_and, tb_not (by omega), hb]
        have : tb set (K + 1 - 1) = false := vz_bnt hs
        rw [this]; simp
    · have h0 : (if q = p ∧ 1 ≤ v ∧ v ≤ K + 1 then tb set (v - 1) else tb me (6 * v + q)) = if q = p ∧ 1 ≤ v ∧ v ≤ K then tb set (v - 1) else tb me (6 * v + q) := by
        by_cases e2 : q = p ∧ 1 ≤ v ∧ v ≤ K
        · rw [if_pos e2, if_pos (by omega)]
        · rw [if_neg e2, if_neg (by omega)]
      rw [h0, ← ih]
      split
      · rw [tb_or, hb]; simp [e]
      · rw [tb_and, tb_not (by omega), hb]; simp [e]
theorem tb_mtN {na : Int32} {o p v q : Nat} (hp : p < 6) (hq : q < 6) (hv : v ≤ 4) : ∀ K, K ≤ 4 → tb (mtN o p na K) (6 * v + q) = if q = p ∧ 1 ≤ v ∧ v ≤ K then decide (o = v) else tb na (6 * v + q) := by
  intro K
  induction K with
  | zero => intro _; rw [if_neg (by omega)]; rfl
  | succ K ih =>
    intro hK
    have ih := ih (by omega)
    simp only [mtN]
    have hb : tb (bit1 (6 * (K + 1) + p)) (6 * v + q) = decide (q = p ∧ v = K + 1) := by
      rw [tb_bit (by omega) (by omega)]
      exact decide_eq_decide.mpr ⟨fun _ => by omega, fun _ => by omega⟩
    by_cases e : q = p ∧ v = K + 1
    · obtain ⟨rfl, rfl⟩ := e
      rw [if_pos (by omega : q = q ∧ 1 ≤ K + 1 ∧ K + 1 ≤ K + 1)]
      split <;> rename_i hs
      · rw [tb_or, hb]; simp [hs]
      · rw [tb_and, tb_not (by omega), hb]; simp; omega
    · have h0 : (if q = p ∧ 1 ≤ v ∧ v ≤ K + 1 then decide (o = v) else tb na (6 * v + q)) = if q = p ∧ 1 ≤ v ∧ v ≤ K then decide (o = v) else tb na (6 * v + q) := by
        by_cases e2 : q = p ∧ 1 ≤ v ∧ v ≤ K
        · rw [if_pos e2, if_pos (by omega)]
        · rw [if_neg e2, if_neg (by omega)]
      rw [h0, ← ih]
      split
      · rw [tb_or, hb]; simp [e]
      · rw [tb_and, tb_not (by omega), hb]; simp [e]
section PRT
variable {np : Nat} {ac me na : Int32} {ne : Nat → Int32} {tr : Nat → Bool} {pn : Nat → Nat}
/-- a port set anew: both keep the same -/
theorem rel_set (hR : RelP np ac me na ne tr pn) {p o : Nat} {set ac' : Int32} {t : Bool} (hp : p < np) (ho : o ≤ 4) (hto : t = false → 1 ≤ o) (ha : ∀ q, q < 6 → tb ac' q = if q = p then !t else tb ac q) : RelP np ac' (mtM set p me 4) (mtN o p na 4) (upd ne p set) (upB tr p t) (upN pn p o) := by
  obtain ⟨⟨h2, h6, hM⟩, h3, h4, h5⟩ := hR
  refine ⟨⟨h2, h6, fun q hq => ?_⟩, fun q hq => ?_, fun q v hq h1 hv => ⟨?_, ?_⟩, fun q v hq hq6 h1 hv => ?_⟩
  · simp only [upN, upB]
    by_cases e : q = p
    · rw [if_pos e, if_pos e]; exact ⟨ho, hto⟩
    · rw [if_neg e, if_neg e]; exact hM q hq
  · rw [ha q (by omega)]
    simp only [upB]
    by_cases e : q = p
    · rw [if_pos e, if_pos e]
    · rw [if_neg e, if_neg e]; exact h3 q hq
  · rw [tb_mtM (by omega) (by omega) hv 4 (Nat.le_refl _)]
    simp only [upd]
    by_cases e : q = p
    · rw [if_pos (by omega), if_pos e]
    · rw [if_neg (by omega), if_neg e]; exact (h4 q v hq h1 hv).1
  · rw [tb_mtN (by omega) (by omega) hv 4 (Nat.le_refl _)]
    by_cases e : q = p
    · have e9 : upN pn p o q = o := if_pos e
      rw [if_pos (by omega)]
      exact decide_eq_decide.mpr (by rw [e9])
    · have e9 : upN pn p o q = pn q := if_neg e
      rw [if_neg (by omega), (h4 q v hq h1 hv).2]
      exact decide_eq_decide.mpr (by rw [e9])
  · rw [tb_mtM (by omega) hq6 hv 4 (Nat.le_refl _), if_neg (by omega)]
    exact h5 q v hq hq6 h1 hv
theorem rel_access (hR : RelP np ac me na ne tr pn) {p v : Nat} (hp : p < np) (h1 : 1 ≤ v) (h4 : v ≤ 4) : RelP np ((ac &&& (bit1 p ^^^ (-1))) ||| bit1 p) (mtM (bit1 (v - 1)) p me 4) (mtN v p na 4) (upd ne p (bit1 (v - 1))) (upB tr p false) (upN pn p v) := by
  have h6 := hR.1.2.1
  refine rel_set hR hp h4 (fun _ => h1) fun q hq => ?_
  rw [tb_or, tb_and, tb_not (by omega), tb_bit (by omega) (by omega)]
  by_cases e : q = p
  · rw [if_pos e]; simp [e]
  · rw [if_neg e]; simp [show ¬ p = q by omega]
theorem rel_trunk (hR : RelP np ac me na ne tr pn) {p j o : Nat} (hp : p < np) (ho : o ≤ 4) : RelP np (ac &&& (bit1 p ^^^ (-1))) (mtM (nI j) p me 4) (mtN o p na 4) (upd ne p (nI j)) (upB tr p true) (upN pn p o) := by
  have h6 := hR.1.2.1
  refine rel_set hR hp ho (fun h => absurd h (by decide)) fun q hq => ?_
  rw [tb_and, tb_not (by omega), tb_bit (by omega) (by omega)]
  by_cases e : q = p
  · rw [if_pos e]; simp [e]
  · rw [if_neg e]; simp [show ¬ p = q by omega]
theorem rel_fault {flt : Int32} {ft : Nat → Int32} (h6 : np ≤ 6) (hF : RelF np flt ft) {p k : Nat} (hp : p < np) (hk : k < 5) : RelF np (flt ^^^ bit1 (6 * k + p)) (upd ft p (ft p ^^^ bit1 k)) := by
  intro q j hq hj
  rw [tb_xor, tb_bit (by omega) (by omega), hF q j hq hj]
  simp only [upd]
  by_cases e : q = p
  · subst e
    rw [if_pos rfl, tb_xor, tb_bit (by omega) (by omega)]
    congr 1
    exact decide_eq_decide.mpr ⟨fun _ => by omega, fun _ => by omega⟩
  · rw [if_neg e, decide_eq_false (by omega)]
    cases tb (ft q) j <;> rfl
theorem res_fault {flt : Int32} {ft : Nat → Int32} (h6 : np ≤ 6) (hF : RelF np flt ft) {p k : Nat} (hp : p < np) (hk : k < 5) : tb (flt ^^^ bit1 (6 * k + p)) (6 * k + p) = tb (ft p ^^^ bit1 k) k := by
  have := rel_fault h6 hF hp hk p k hp hk
  simp only [upd] at this
  rw [if_pos trivial] at this
  exact this
end PRT
/-! the law's own rows of ports -/
theorem pn_begin : (∀ p, p < 4 → 1 ≤ (fun _ => 1 : Nat → Nat) p → tb ((fun _ => bit1 0 : Nat → Int32) p) ((fun _ => 1 : Nat → Nat) p - 1) = true) := fun p _ _ => by
  show tb (bit1 0) (1 - 1) = true
  decide
theorem pn_set {ne : Nat → Int32} {pn : Nat → Nat} {q v : Nat} {x : Int32} (h : ∀ p, p < 4 → 1 ≤ pn p → tb (ne p) (pn p - 1) = true) (hx : 1 ≤ v → tb x (v - 1) = true) : ∀ p, p < 4 → 1 ≤ upN pn q v p → tb (upd ne q x p) (upN pn q v p - 1) = true := by
  intro p hp h1
  simp only [upN, upd] at h1 ⊢
  by_cases e : p = q
  · rw [if_pos e] at h1
    rw [if_pos e, if_pos e]
    exact hx h1
  · rw [if_neg e] at h1
    rw [if_neg e, if_neg e]
    exact h p hp h1
theorem ok_upN {c : Nat → Nat} {n np p t q d : Nat} (hc : ∀ k, k < n → okN np (c k)) (h6 : np ≤ 6) (h1 : p < np) (h2 : t < 5) (h3 : q < 3) (h4 : d < 4) : ∀ k, k < n + 1 → okN np (upN c n (1000 * p + 100 * t + 10 * q + d) k) := by
  intro k hk
  simp only [upN]
  by_cases e : k = n
  · rw [if_pos e]
    refine ⟨⟨?_, ?_, ?_, ?_⟩, ?_⟩ <;> omega
  · rw [if_neg e]
    exact hc k (by omega)
