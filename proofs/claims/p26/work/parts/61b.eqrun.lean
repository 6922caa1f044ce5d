/-! CLASS AND REFERENCE: the same words (pure) -/
/-- how the two keep the ports -/
def RelP (np : Nat) (ac me na : Int32) (ne : Nat → Int32) (tr : Nat → Bool) (pn : Nat → Nat) : Prop :=
  mOK np tr pn ∧ (∀ p, p < np → tb ac p = !tr p) ∧ (∀ p v, p < np → 1 ≤ v → v ≤ 4 → tb me (6 * v + p) = tb (ne p) (v - 1) ∧ tb na (6 * v + p) = decide (pn p = v)) ∧ (∀ p v, np ≤ p → p < 6 → 1 ≤ v → v ≤ 4 → tb me (6 * v + p) = false)
def RelF (np : Nat) (fl : Int32) (ft : Nat → Int32) : Prop := ∀ p k, p < np → k < 5 → tb fl (6 * k + p) = tb (ft p) k
def RelS (np : Nat) (pl L : Nat → Int32) : Prop := (∀ v s, 1 ≤ v → v ≤ 4 → s < 3 → pl ((v - 1) * 3 + s) = L (3 * v + s)) ∧ (∀ i, L i = (-1) ∨ ∃ q, q < np ∧ L i = nI q)
def okN (np x : Nat) : Prop := okF x ∧ x / 1000 < np
theorem tb_n0 (i : Nat) : tb (nI 0) i = false := by rw [nI_0]; exact tb_0 i
theorem tb_63 {j : Nat} (h : j < 32) : tb (nI 63) j = decide (j < 6) := by
  have key : ∀ j, j < 32 → tb (nI 63) j = decide (j < 6) := by decide +kernel
  exact key j h
theorem tb_shr' {x : Int32} {i j : Nat} (h : i < 32) (hj : i + j < 32) : tb (x >>> (nI i &&& 31)) j = tb x (i + j) := by
  rw [nI_and31 h]
  show ((x.toBitVec.sshiftRight ((nI i).toBitVec.smod 32).toNat)).getLsbD j = _
  rw [smod32 h, BitVec.getLsbD_sshiftRight]
  have h1 : ¬ (32 ≤ j) := by omega
  simp [h1, hj, tb]
theorem tb_sec {x : Int32} {r j : Nat} (hr : r ≤ 4) (hj : j < 32) : tb (secF x r) j = (decide (j < 6) && tb x (6 * r + j)) := by
  unfold secF
  rw [tb_and, tb_63 hj]
  by_cases h : j < 6
  · rw [tb_shr' (by omega) (by omega)]
    simp [h]
  · simp [h]
theorem tb_bitS {i j : Nat} (hi : i < 32) (hj : j < 32) : tb (nI 1 <<< (nI i &&& 31)) j = decide (i = j) := tb_bit hi hj
theorem tb_not {a : Int32} {j : Nat} (hj : j < 32) : tb (a ^^^ (-1)) j = !tb a j := by
  rw [tb_xor, tb_m1 hj]; cases tb a j <;> rfl
theorem tb_mdFl {ne : Nat → Int32} {p v j : Nat} (hj : j < 32) : ∀ n, n ≤ 6 → tb (mdFl ne p v n) j = (decide (j < n) && (!decide (j = p) && tb (ne j) (v - 1))) := by
  intro n
  induction n with
  | zero => intro _; simp [mdFl, tb_n0]
  | succ n ih =>
    intro h
    simp only [mdFl]
    rw [tb_or, ih (by omega)]
    by_cases e : j = n
    · subst e
      by_cases e2 : j = p
      · subst e2; simp [tb_n0]
      · rw [if_neg e2]
        cases hb : tb (ne j) (v - 1)
        · simp [tb_n0]
        · simp [tb_bitS hj hj, e2]
    · have h1 : tb (if n = p then nI 0 else if tb (ne n) (v - 1) = true then nI 1 <<< (nI n &&& 31) else nI 0) j = false := by
        split
        · exact tb_n0 _
        · split
          · rw [tb_bitS (by omega) hj]; simp; omega
          · exact tb_n0 _
      rw [h1]
      have h2 : (j < n + 1) = (j < n) := propext ⟨fun _ => by omega, fun _ => by omega⟩
      simp [h2]
theorem tb_mdO {b : Nat → Int32} {set : Int32} {j : Nat} (hj : j < 32) : ∀ n, n ≤ 6 → tb (mdO b set n) j = (decide (j < n) && (tb set j && !tb (b j) 0)) := by
  intro n
  induction n with
  | zero => intro _; simp [mdO, tb_n0]
  | succ n ih =>
    intro h
    have ih := ih (by omega)
    simp only [mdO]
    by_cases e : j = n
    · subst e
      cases h1 : tb set j <;> cases h2 : tb (b j) 0 <;> simp [ih, h1, h2, tb_or, tb_bitS hj hj]
    · have h2 : (j < n + 1) = (j < n) := propext ⟨fun _ => by omega, fun _ => by omega⟩
      have h3 : tb (nI 1 <<< (nI n &&& 31)) j = false := by rw [tb_bitS (by omega) hj]; simp; omega
      split
      · split
        · rw [ih]; simp [h2]
        · rw [tb_or, ih, h3]; simp [h2]
      · rw [ih]; simp [h2]
theorem tb_mdG {tr : Nat → Bool} {pn : Nat → Nat} {b : Nat → Int32} {v : Nat} {set : Int32} {j : Nat} (hj : j < 32) : ∀ n, n ≤ 6 → tb (mdG tr pn b v set n) j = (decide (j < n) && ((tb set j && !tb (b j) 0) && !mdUn tr pn b v j)) := by
  intro n
  induction n with
  | zero => intro _; simp [mdG, tb_n0]
  | succ n ih =>
    intro h
    have ih := ih (by omega)
    simp only [mdG]
    by_cases e : j = n
    · subst e
      cases h1 : tb set j <;> cases h2 : tb (b j) 0 <;> cases h3 : mdUn tr pn b v j <;> simp [ih, h1, h2, h3, tb_or, tb_n0, tb_bitS hj hj]
    · have h2 : (j < n + 1) = (j < n) := propext ⟨fun _ => by omega, fun _ => by omega⟩
      have h3 : tb (if mdUn tr pn b v n = true then nI 0 else nI 1 <<< (nI n &&& 31)) j = false := by
        split
        · exact tb_n0 _
        · rw [tb_bitS (by omega) hj]; simp; omega
      split
      · split
        · rw [ih]; simp [h2]
        · rw [tb_or, ih, h3]; simp [h2]
      · rw [ih]; simp [h2]
theorem natF_eq {np : Nat} {ac me na : Int32} {ne : Nat → Int32} {tr : Nat → Bool} {pn : Nat → Nat} (hR : RelP np ac me na ne tr pn) {p : Nat} (hp : p < np) : natF na p = pn p := by
  have h6 : p < 6 := by have := hR.1.2.1; omega
  have h4 := (hR.1.2.2 p h6).1
  have k : ∀ v, 1 ≤ v → v ≤ 4 → tb na (6 * v + p) = decide (pn p = v) := fun v h1 h2 => (hR.2.2.1 p v hp h1 h2).2
  have k1 := k 1 (by omega) (by omega)
  have k2 := k 2 (by omega) (by omega)
  have k3 := k 3 (by omega) (by omega)
  have k4 := k 4 (by omega) (by omega)
  unfold natF
  simp only [Nat.reduceMul] at k1 k2 k3 k4
  rw [k1, k2, k3, k4]
  simp only [decide_eq_true_eq]
  repeat' split
  all_goals omega
section REL
variable {np : Nat} {ac me na fl : Int32} {ne : Nat → Int32} {tr : Nat → Bool} {pn : Nat → Nat} {ft : Nat → Int32} {pl L : Nat → Int32} {x : Nat}
theorem lost_eq (hF : RelF np fl ft) (hx : okN np x) : lostF fl x = mdLost ft x := by
  unfold lostF mdLost
  rw [hF _ 0 hx.2 (by omega), hF _ 3 hx.2 (by omega)]
  cases tb (ft (x / 1000)) 0 <;> cases tb (ft (x / 1000)) 3 <;> cases decide (x / 100 % 10 = 0) <;> rfl
theorem ref_eq (hR : RelP np ac me na ne tr pn) (hF : RelF np fl ft) (hx : okN np x) : mdR ne tr pn ft x = if lostF fl x = true then 6 else refF ac me na fl x := by
  have h6 : x / 1000 < 6 := by have := hR.1.2.1; have := hx.2; omega
  have ha := hR.2.1 _ hx.2
  have hp := hR.1.2.2 _ h6
  unfold mdR refF
  rw [lost_eq hF hx, natF_eq hR hx.2, hF _ 4 hx.2 (by omega), ha]
  by_cases ht : x / 100 % 10 = 0
  · simp only [if_pos ht]
    cases htr : tr (x / 1000)
    · have := hp.2 htr
      have h0 : ¬ pn (x / 1000) = 0 := by omega
      simp [h0]
    · simp
  · simp only [if_neg ht]
    have hm := (hR.2.2.1 (x / 1000) (x / 100 % 10) hx.2 (by omega) (by have := hx.1.2.1; omega)).1
    rw [hm]
    cases htr : tr (x / 1000) <;> simp
theorem v_eq (hR : RelP np ac me na ne tr pn) (hx : okN np x) : sndV na x = mdV pn x := by
  unfold sndV mdV
  rw [natF_eq hR hx.2]
theorem ref0 (hR : RelP np ac me na ne tr pn) (hF : RelF np fl ft) (hx : okN np x) : mdR ne tr pn ft x = 0 ↔ (lostF fl x = false ∧ refF ac me na fl x = 0) := by
  rw [ref_eq hR hF hx]
  cases lostF fl x <;> simp
theorem s_pl0 (hR : RelP np ac me na ne tr pn) (hF : RelF np fl ft) (hx : okN np x) (h0 : mdR ne tr pn ft x = 0) (hS : RelS np pl L) : RelS np (sndPl0 na fl pl x) (mdL0 ft pn L x) := by
  have hv := mdV_rng hR.1 hx.1.2.1 hx.1.1 h0
  have hs := hx.1.2.2.1
  unfold sndPl0 mdL0
  rw [hF _ 1 hx.2 (by omega), v_eq hR hx]
  split
  · exact hS
  · refine ⟨fun v s h1 h2 h3 => ?_, fun i => ?_⟩
    · simp only [upd]
      have hi : ((v - 1) * 3 + s = (mdV pn x - 1) * 3 + x / 10 % 10) ↔ (3 * v + s = 3 * mdV pn x + x / 10 % 10) := by omega
      by_cases e : 3 * v + s = 3 * mdV pn x + x / 10 % 10
      · rw [if_pos (hi.mpr e), if_pos e]
      · rw [if_neg (fun h => e (hi.mp h)), if_neg e]
        exact hS.1 v s h1 h2 h3
    · simp only [upd]
      split
      · exact Or.inr ⟨_, hx.2, rfl⟩
      · exact hS.2 i
theorem s_pl (hR : RelP np ac me na ne tr pn) (hF : RelF np fl ft) (hx : okN np x) (hS : RelS np pl L) : RelS np (sndPl ac me na fl pl x) (mdPl ne tr pn ft L x) := by
  unfold sndPl mdPl
  by_cases h0 : mdR ne tr pn ft x = 0
  · obtain ⟨h1, h2⟩ := (ref0 hR hF hx).mp h0
    rw [if_pos h0, h1, if_neg (by decide), if_pos h2]
    exact s_pl0 hR hF hx h0 hS
  · rw [if_neg h0]
    split
    · exact hS
    · rename_i hl
      rw [if_neg (fun h2 => h0 ((ref0 hR hF hx).mpr ⟨vz_bnt hl, h2⟩))]
      exact hS
theorem at_eq (hR : RelP np ac me na ne tr pn) (hF : RelF np fl ft) (hx : okN np x) (h0 : mdR ne tr pn ft x = 0) (hS : RelS np pl L) : fwdAt (sndPl0 na fl pl x) (sndV na x) (x % 10) = mdAt ft pn L x := by
  have hv := mdV_rng hR.1 hx.1.2.1 hx.1.1 h0
  have hd := hx.1.2.2.2
  unfold fwdAt mdAt
  rw [v_eq hR hx]
  by_cases e : x % 10 = 3
  · rw [if_pos e, if_pos (by omega)]
  · rw [if_neg e, if_neg (by omega)]
    exact (s_pl0 hR hF hx h0 hS).1 _ _ hv.1 hv.2 (by omega)
theorem at_rng (hR : RelP np ac me na ne tr pn) (hF : RelF np fl ft) (hx : okN np x) (h0 : mdR ne tr pn ft x = 0) (hS : RelS np pl L) : mdAt ft pn L x = (-1) ∨ ∃ q, q < np ∧ mdAt ft pn L x = nI q := by
  unfold mdAt
  split
  · exact Or.inl rfl
  · exact (s_pl0 hR hF hx h0 hS).2 _
theorem fl_eq (hR : RelP np ac me na ne tr pn) {p v : Nat} (hp : p < np) (h1 : 1 ≤ v) (h4 : v ≤ 4) : secF me v &&& (bit1 p ^^^ (-1)) = mdFl ne p v np := by
  have h6 := hR.1.2.1
  refine tb_ext fun j hj => ?_
  rw [tb_and, tb_sec h4 hj, tb_not hj, tb_bit (by omega) hj, tb_mdFl hj np h6]
  by_cases hj6 : j < 6
  · by_cases hjn : j < np
    · rw [(hR.2.2.1 j v hjn h1 h4).1]
      have e : decide (p = j) = decide (j = p) := by simp [eq_comm]
      rw [e]
      simp [hj6, hjn, Bool.and_comm]
    · rw [hR.2.2.2 j v (by omega) hj6 h1 h4]
      simp [hjn]
  · simp [hj6, show ¬ j < np by omega]
theorem n_ne {p q : Nat} (hp : p < 6) (hq : q < 6) : nI p = nI q ↔ p = q := nI_eq (by omega) (by omega)
theorem n_m1 {q : Nat} (hq : q < 6) : ¬ nI q = (-1) := nI_m1 (by omega)
theorem want_eq (hR : RelP np ac me na ne tr pn) (hF : RelF np fl ft) (hx : okN np x) (h0 : mdR ne tr pn ft x = 0) (hS : RelS np pl L) (hne : ¬ mdAt ft pn L x = nI (x / 1000)) : fwdWant me (sndPl0 na fl pl x) (x / 1000) (sndV na x) (x % 10) = mdSet ne np (x / 1000) (mdV pn x) (mdAt ft pn L x) := by
  have hv := mdV_rng hR.1 hx.1.2.1 hx.1.1 h0
  unfold fwdWant mdSet
  rw [at_eq hR hF hx h0 hS, v_eq hR hx]
  split
  · exact fl_eq hR hx.2 hv.1 hv.2
  · first | rfl | rw [if_neg hne]
theorem set_lt (hR : RelP np ac me na ne tr pn) (hF : RelF np fl ft) (hx : okN np x) (h0 : mdR ne tr pn ft x = 0) (hS : RelS np pl L) {j : Nat} (hj : j < 32) (hjn : np ≤ j) : tb (mdSet ne np (x / 1000) (mdV pn x) (mdAt ft pn L x)) j = false := by
  have h6 := hR.1.2.1
  unfold mdSet
  rcases at_rng hR hF hx h0 hS with h | ⟨q, hq, h⟩
  · rw [if_pos h, tb_mdFl hj np h6]; simp [show ¬ j < np by omega]
  · rw [h, if_neg (n_m1 (by omega))]
    split
    · exact tb_n0 _
    · rw [tb_bitS (by omega) hj]; simp; omega
theorem mdO_0 {b : Nat → Int32} : ∀ n, mdO b (nI 0) n = nI 0 := by
  intro n
  induction n with
  | zero => rfl
  | succ n ih => simp only [mdO, tb_n0]; rw [if_neg (by decide), ih]
theorem mdG_0 {b : Nat → Int32} {v : Nat} : ∀ n, mdG tr pn b v (nI 0) n = nI 0 := by
  intro n
  induction n with
  | zero => rfl
  | succ n ih => simp only [mdG, tb_n0]; rw [if_neg (by decide), ih]
theorem s_ex (hR : RelP np ac me na ne tr pn) (hF : RelF np fl ft) (hx : okN np x) (hS : RelS np pl L) : sndEx ac me na fl pl x = mdEx ne tr pn ft np L x := by
  have h6 := hR.1.2.1
  unfold sndEx mdEx
  by_cases h0 : mdR ne tr pn ft x = 0
  · obtain ⟨h1, h2⟩ := (ref0 hR hF hx).mp h0
    rw [if_pos h0, h1, if_neg (by decide), if_pos h2]
    unfold fwdEx
    rw [at_eq hR hF hx h0 hS]
    by_cases ha : mdAt ft pn L x = nI (x / 1000)
    · rw [if_pos ha]
      have : mdSet ne np (x / 1000) (mdV pn x) (mdAt ft pn L x) = nI 0 := by
        unfold mdSet
        rw [ha, if_neg (n_m1 (by have := hx.2; omega)), if_pos rfl]
      rw [this, mdO_0]
    · rw [if_neg ha, want_eq hR hF hx h0 hS ha]
      by_cases hw : mdSet ne np (x / 1000) (mdV pn x) (mdAt ft pn L x) = 0
      · rw [if_pos hw, hw, ← nI_0, mdO_0]
      · rw [if_neg hw]
        refine tb_ext fun j hj => ?_
        rw [tb_and, tb_not hj, tb_sec (by omega) hj, tb_mdO hj np h6]
        by_cases hjn : j < np
        · have := hF j 0 hjn (by omega)
          rw [this]
          simp [hjn, show j < 6 by omega]
        · rw [set_lt hR hF hx h0 hS hj (by omega)]; simp
  · rw [if_neg h0]
    split
    · rfl
    · rename_i hl
      rw [if_neg (fun h2 => h0 ((ref0 hR hF hx).mpr ⟨vz_bnt hl, h2⟩))]
theorem s_tg (hR : RelP np ac me na ne tr pn) (hF : RelF np fl ft) (hx : okN np x) (hS : RelS np pl L) : sndTg ac me na fl pl x = mdTg ne tr pn ft np L x := by
  have h6 := hR.1.2.1
  unfold sndTg mdTg
  by_cases h0 : mdR ne tr pn ft x = 0
  · obtain ⟨h1, h2⟩ := (ref0 hR hF hx).mp h0
    have hv := mdV_rng hR.1 hx.1.2.1 hx.1.1 h0
    rw [if_pos h0, h1, if_neg (by decide), if_pos h2]
    unfold fwdTg
    rw [at_eq hR hF hx h0 hS]
    by_cases ha : mdAt ft pn L x = nI (x / 1000)
    · rw [if_pos ha]
      have : mdSet ne np (x / 1000) (mdV pn x) (mdAt ft pn L x) = nI 0 := by
        unfold mdSet
        rw [ha, if_neg (n_m1 (by have := hx.2; omega)), if_pos rfl]
      rw [this, mdG_0]
    · rw [if_neg ha, want_eq hR hF hx h0 hS ha, v_eq hR hx]
      by_cases hw : mdSet ne np (x / 1000) (mdV pn x) (mdAt ft pn L x) = 0
      · rw [if_pos hw, hw, ← nI_0, mdG_0]
      · rw [if_neg hw]
        refine tb_ext fun j hj => ?_
        rw [tb_and, tb_and, tb_not hj, tb_not hj, tb_or, tb_or, tb_sec (by omega) hj, tb_sec hv.2 hj, tb_sec (by omega) hj, tb_mdG hj np h6]
        by_cases hjn : j < np
        · have e0 := hF j 0 hjn (by omega)
          have e2 := hF j 2 hjn (by omega)
          have e3 := (hR.2.2.1 j (mdV pn x) hjn hv.1 hv.2).2
          rw [e0, e2, e3, hR.2.1 j hjn]
          unfold mdUn
          simp [hjn, show j < 6 by omega, Bool.and_assoc, Bool.or_assoc]
        · rw [set_lt hR hF hx h0 hS hj (by omega)]; simp
  · rw [if_neg h0]
    split
    · rfl
    · rename_i hl
      rw [if_neg (fun h2 => h0 ((ref0 hR hF hx).mpr ⟨vz_bnt hl, h2⟩))]
theorem s_wh (hR : RelP np ac me na ne tr pn) (hF : RelF np fl ft) (hx : okN np x) (hS : RelS np pl L) (hl : lostF fl x = false) : sndWh ac me na fl pl x = mdWh ne tr pn ft np L x := by
  unfold sndWh mdWh
  have hr := ref_eq hR hF hx
  rw [hl, if_neg (by decide)] at hr
  rw [hl, if_neg (by decide), hr]
  by_cases h2 : refF ac me na fl x = 0
  · have h0 : mdR ne tr pn ft x = 0 := hr.trans h2
    rw [if_pos h2, if_pos h2]
    unfold fwdWh mdWhy
    rw [at_eq hR hF hx h0 hS]
    by_cases ha : mdAt ft pn L x = nI (x / 1000)
    · rw [if_pos ha, if_pos ha]
    · rw [if_neg ha, if_neg ha, want_eq hR hF hx h0 hS ha, h2]
  · rw [if_neg h2, if_neg h2]
end REL
