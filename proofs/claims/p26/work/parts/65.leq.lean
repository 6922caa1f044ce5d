/-! THE LAW'S WORDS AND THE MODEL'S (pure) -/
theorem add_bit {a : Int32} {q : Nat} (hq : q < 31) (h : tb a q = false) : a + (nI 1 <<< (nI q &&& 31)) = a ||| (nI 1 <<< (nI q &&& 31)) := by
  apply Int32.toBitVec_inj.mp
  show a.toBitVec + (nI 1 <<< (nI q &&& 31)).toBitVec = a.toBitVec ||| (nI 1 <<< (nI q &&& 31)).toBitVec
  refine BitVec.add_eq_or_of_and_eq_zero _ _ ?_
  apply BitVec.eq_of_getLsbD_eq
  intro j hj
  rw [BitVec.getLsbD_and]
  have e1 : (nI 1 <<< (nI q &&& 31)).toBitVec.getLsbD j = decide (q = j) := tb_bitS (by omega) hj
  rw [e1]
  by_cases e : q = j
  · subst e
    have h2 : a.toBitVec.getLsbD q = false := h
    rw [h2]
    simp
  · simp [e]
section LV
variable {np : Nat} {ne : Nat → Int32} {tr : Nat → Bool} {pn : Nat → Nat} {b : Nat → Int32} {P L : Nat → Int32} {x : Nat}
theorem lin_eq : lIn b x = !mdLost b x := by
  unfold lIn mdLost
  by_cases h : x / 100 % 10 = 0
  · rw [decide_eq_true h, decide_eq_false (show ¬ 0 < x / 100 % 10 by omega)]
    cases tb (b (x / 1000)) 0 <;> cases tb (b (x / 1000)) 3 <;> rfl
  · rw [decide_eq_false h, decide_eq_true (show 0 < x / 100 % 10 by omega)]
    cases tb (b (x / 1000)) 0 <;> cases tb (b (x / 1000)) 3 <;> rfl
theorem lR_eq (hM : mOK np tr pn) (hN : ∀ p, p < 4 → 1 ≤ pn p → tb (ne p) (pn p - 1) = true) (h4 : np ≤ 4) (hx : okN np x) (hl : mdLost b x = false) : lR ne tr pn b x = mdR ne tr pn b x := by
  have hp : x / 1000 < 4 := by have := hx.2; omega
  have hp2 := (hM.2.2 (x / 1000) (by omega)).2
  have hn := hN (x / 1000) hp
  unfold lR mdR
  rw [hl, if_neg (by decide : ¬ (false = true))]
  by_cases ht : x / 100 % 10 = 0
  · have hls : lLs b x = false := by unfold lLs; rw [decide_eq_true ht]; rfl
    have hv : mdV pn x = pn (x / 1000) := if_pos ht
    rw [hls, if_neg (by decide : ¬ (false = true)), if_pos ht]
    unfold lR0
    rw [hv, if_pos ht]
    by_cases h0 : pn (x / 1000) = 0
    · cases htr : tr (x / 1000)
      · exact absurd h0 (by have := hp2 htr; omega)
      · rw [if_pos rfl, if_pos rfl, if_pos h0, if_pos h0]
    · have hn1 := hn (by omega)
      cases htr : tr (x / 1000)
      · rw [if_neg (by decide : ¬ (false = true)), if_neg h0, if_pos hn1, if_neg (by decide : ¬ (false = true))]
      · rw [if_pos rfl, if_pos rfl, if_neg h0, if_neg h0, if_pos hn1]
  · have hls : lLs b x = tb (b (x / 1000)) 4 := by unfold lLs; rw [decide_eq_false ht]; rfl
    have hv : mdV pn x = x / 100 % 10 := if_neg ht
    rw [hls, if_neg ht]
    unfold lR0
    rw [hv, if_neg ht, if_neg ht]
theorem lOk_iff (hM : mOK np tr pn) (hN : ∀ p, p < 4 → 1 ≤ pn p → tb (ne p) (pn p - 1) = true) (h4 : np ≤ 4) (hx : okN np x) : mdR ne tr pn b x = 0 ↔ (lIn b x = true ∧ lR ne tr pn b x = 0) := by
  rw [lin_eq]
  cases hl : mdLost b x
  · rw [lR_eq hM hN h4 hx hl]
    simp
  · have : mdR ne tr pn b x = 6 := if_pos hl
    rw [this]
    simp
theorem l_of {α : Type} {y z : α} (hM : mOK np tr pn) (hN : ∀ p, p < 4 → 1 ≤ pn p → tb (ne p) (pn p - 1) = true) (h4 : np ≤ 4) (hx : okN np x) : (if lIn b x = true then (if lR ne tr pn b x = 0 then y else z) else z) = if mdR ne tr pn b x = 0 then y else z := by
  by_cases h : mdR ne tr pn b x = 0
  · obtain ⟨h1, h2⟩ := (lOk_iff hM hN h4 hx).mp h
    rw [if_pos h1, if_pos h2, if_pos h]
  · rw [if_neg h]
    split
    · rename_i h1
      rw [if_neg (fun h2 => h ((lOk_iff hM hN h4 hx).mpr ⟨h1, h2⟩))]
    · rfl
theorem upd_id (f : Nat → Int32) (k : Nat) : upd f k (f k) = f := by
  funext j
  simp only [upd]
  split
  · rename_i h; rw [h]
  · rfl
theorem lP1_rel (hM : mOK np tr pn) (hx : okN np x) (h0 : mdR ne tr pn b x = 0) (hS : RelS np P L) : RelS np (lP1 b pn P x) (mdL0 b pn L x) := by
  have hv := mdV_rng hM hx.1.2.1 hx.1.1 h0
  have hs := hx.1.2.2.1
  unfold lP1 mdL0
  by_cases hd : tb (b (x / 1000)) 1 = true
  · rw [if_pos hd, if_pos hd, upd_id]
    exact hS
  · rw [if_neg hd, if_neg hd]
    refine ⟨fun v s h1 h2 h3 => ?_, fun i => ?_⟩
    · simp only [upd]
      have hi : ((v - 1) * 3 + s = 3 * (mdV pn x - 1) + x / 10 % 10) ↔ (3 * v + s = 3 * mdV pn x + x / 10 % 10) := by omega
      by_cases e : 3 * v + s = 3 * mdV pn x + x / 10 % 10
      · rw [if_pos (hi.mpr e), if_pos e]
      · rw [if_neg (fun h => e (hi.mp h)), if_neg e]
        exact hS.1 v s h1 h2 h3
    · simp only [upd]
      split
      · exact Or.inr ⟨_, hx.2, rfl⟩
      · exact hS.2 i
theorem lSt_rel (hM : mOK np tr pn) (hN : ∀ p, p < 4 → 1 ≤ pn p → tb (ne p) (pn p - 1) = true) (h4 : np ≤ 4) (hx : okN np x) (hS : RelS np P L) : RelS np (lSt ne tr pn b P x) (mdPl ne tr pn b L x) := by
  unfold lSt mdPl
  rw [l_of hM hN h4 hx]
  by_cases h : mdR ne tr pn b x = 0
  · rw [if_pos h, if_pos h]; exact lP1_rel hM hx h hS
  · rw [if_neg h, if_neg h]; exact hS
theorem lAt_eq (hM : mOK np tr pn) (hx : okN np x) (h0 : mdR ne tr pn b x = 0) (hS : RelS np P L) : lAt b pn P x = mdAt b pn L x := by
  have hv := mdV_rng hM hx.1.2.1 hx.1.1 h0
  have hd := hx.1.2.2.2
  unfold lAt mdAt
  by_cases e : x % 10 = 3
  · rw [if_pos e, if_pos (by omega)]
  · rw [if_neg e, if_neg (by omega), Nat.mul_comm 3 (mdV pn x - 1)]
    exact (lP1_rel hM hx h0 hS).1 _ _ hv.1 hv.2 (by omega)
theorem mdAt_rng (hM : mOK np tr pn) (hx : okN np x) (h0 : mdR ne tr pn b x = 0) (hS : RelS np P L) : mdAt b pn L x = (-1) ∨ ∃ q, q < np ∧ mdAt b pn L x = nI q := by
  unfold mdAt
  split
  · exact Or.inl rfl
  · exact (lP1_rel hM hx h0 hS).2 _
theorem nI_nneg {q : Nat} (h : q < 2 ^ 31) : ¬ nI q < 0 := nI_pos h
theorem lLv_eq {p v : Nat} {at1 : Int32} (h4 : np ≤ 4) (ha : at1 = (-1) ∨ ∃ q, q < np ∧ at1 = nI q) {q : Nat} (hq : q < np) : lLv ne p v at1 q = tb (mdSet ne np p v at1) q := by
  unfold lLv mdSet
  rcases ha with h | ⟨t, ht, h⟩
  · subst h
    rw [if_pos (by decide), if_pos rfl, tb_mdFl (by omega) np (by omega)]
    simp [hq]
  · subst h
    rw [if_neg (nI_nneg (by omega)), if_neg (n_m1 (by omega))]
    by_cases e : nI t = nI p
    · rw [if_pos e, tb_n0]
      simp [e]
    · rw [if_neg e, tb_bitS (by omega) (by omega)]
      have e2 : decide (nI q = nI t) = decide (t = q) := decide_eq_decide.mpr ((nI_eq (by omega) (by omega)).trans eq_comm)
      rw [e2]
      simp [e]
theorem tb_lsE {p v : Nat} {at1 : Int32} {j : Nat} (hj : j < 32) : ∀ n, n ≤ 4 → tb (lsE ne b p v at1 n) j = (decide (j < n) && (lLv ne p v at1 j && !tb (b j) 0)) := by
  intro n
  induction n with
  | zero => intro _; simp [lsE, tb_n0]
  | succ n ih =>
    intro h
    have ih1 := ih (by omega)
    simp only [lsE]
    by_cases e : j = n
    · subst e
      cases h1 : lLv ne p v at1 j <;> cases h2 : tb (b j) 0 <;> simp [ih1]
      have h3 : tb (lsE ne b p v at1 j) j = false := by rw [ih1]; simp
      rw [add_bit (by omega) h3, tb_or, h3, tb_bitS hj hj]
      simp
    · have h2 : (j < n + 1) = (j < n) := propext ⟨fun _ => by omega, fun _ => by omega⟩
      split
      · split
        · rw [ih1]; simp [h2]
        · by_cases hn : tb (lsE ne b p v at1 n) n = false
          · rw [add_bit (by omega) hn, tb_or, ih1, tb_bitS (by omega) hj]
            simp [h2, show ¬ n = j by omega]
          · exfalso
            exact hn (by
              have : ∀ m, m ≤ n → tb (lsE ne b p v at1 m) n = false := by
                intro m
                induction m with
                | zero => intro _; simp [lsE, tb_n0]
                | succ m im =>
                  intro hm
                  have im1 := im (by omega)
                  simp only [lsE]
                  split
                  · split
                    · exact im1
                    · have hz : tb (lsE ne b p v at1 m) m = false := by
                        have : ∀ i k, i ≤ k → k < 4 → tb (lsE ne b p v at1 i) k = false := by
                          intro i
                          induction i with
                          | zero => intro k _ _; simp [lsE, tb_n0]
                          | succ i ii =>
                            intro k hk hk4
                            simp only [lsE]
                            split
                            · split
                              · exact ii k (by omega) hk4
                              · rw [add_bit (by omega) (ii i (Nat.le_refl _) (by omega)), tb_or, ii k (by omega) hk4, tb_bitS (by omega) (by omega)]
                                simp; omega
                            · exact ii k (by omega) hk4
                        exact this m m (Nat.le_refl _) (by omega)
                      rw [add_bit (by omega) hz, tb_or, im1, tb_bitS (by omega) (by omega)]
                      simp; omega
                  · exact im1
              exact this n (Nat.le_refl _))
      · rw [ih1]; simp [h2]
theorem lsT_0 {p v : Nat} {at1 : Int32} : ∀ i k, i ≤ k → k < 4 → tb (lsT ne b tr pn p v at1 i) k = false := by
  intro i
  induction i with
  | zero => intro k _ _; simp [lsT, tb_n0]
  | succ i ii =>
    intro k hk hk4
    simp only [lsT]
    split
    · split
      · exact ii k (by omega) hk4
      · have h0 : lsT ne b tr pn p v at1 i + nI 0 = lsT ne b tr pn p v at1 i := by rw [nI_0]; exact Int32.add_zero _
        have h1 : tb (lsT ne b tr pn p v at1 i + (nI 1 <<< (nI i &&& 31))) k = false := by
          rw [add_bit (by omega) (ii i (Nat.le_refl _) (by omega)), tb_or, ii k (by omega) hk4, tb_bitS (by omega) (by omega)]
          simp; omega
        repeat' split
        · rw [h0]; exact ii k (by omega) hk4
        · rw [h0]; exact ii k (by omega) hk4
        · exact h1
        · rw [h0]; exact ii k (by omega) hk4
    · exact ii k (by omega) hk4
theorem tb_lsT {p v : Nat} {at1 : Int32} {j : Nat} (hj : j < 32) : ∀ n, n ≤ 4 → tb (lsT ne b tr pn p v at1 n) j = (decide (j < n) && ((lLv ne p v at1 j && !tb (b j) 0) && !mdUn tr pn b v j)) := by
  intro n
  induction n with
  | zero => intro _; simp [lsT, tb_n0]
  | succ n ih =>
    intro h
    have ih1 := ih (by omega)
    have h0 : lsT ne b tr pn p v at1 n + nI 0 = lsT ne b tr pn p v at1 n := by rw [nI_0]; exact Int32.add_zero _
    have hz := lsT_0 (ne := ne) (b := b) (tr := tr) (pn := pn) (p := p) (v := v) (at1 := at1) n n (Nat.le_refl _) (by omega)
    have hadd := add_bit (a := lsT ne b tr pn p v at1 n) (q := n) (by omega) hz
    simp only [lsT]
    by_cases e : j = n
    · subst e
      cases h1 : lLv ne p v at1 j <;> cases h2 : tb (b j) 0 <;> simp [ih1]
      unfold mdUn
      cases h5 : tr j
      · simp [h0, hz]
      · by_cases h6 : pn j = v
        · simp [h6, h0, hz]
        · cases h7 : tb (b j) 2
          · simp [h6]
            rw [hadd, tb_or, hz, tb_bitS hj hj]
            simp
          · simp [h6, h0, hz]
    · have h2 : (j < n + 1) = (j < n) := propext ⟨fun _ => by omega, fun _ => by omega⟩
      have h3 : tb (lsT ne b tr pn p v at1 n + (nI 1 <<< (nI n &&& 31))) j = tb (lsT ne b tr pn p v at1 n) j := by
        rw [hadd, tb_or, tb_bitS (by omega) hj, decide_eq_false (by omega : ¬ n = j), Bool.or_false]
      have h4 : tb (lsT ne b tr pn p v at1 n + nI 0) j = tb (lsT ne b tr pn p v at1 n) j := by rw [h0]
      repeat' split
      all_goals (first | rw [h3] | rw [h4] | skip)
      all_goals (rw [ih1]; simp [h2])
theorem lsE_eq {p v : Nat} {at1 : Int32} (h4 : np ≤ 4) (ha : at1 = (-1) ∨ ∃ q, q < np ∧ at1 = nI q) : lsE ne b p v at1 np = mdO b (mdSet ne np p v at1) np := by
  refine tb_ext fun j hj => ?_
  rw [tb_lsE hj np h4, tb_mdO hj np (by omega)]
  by_cases h : j < np
  · rw [lLv_eq h4 ha h]
  · simp [h]
theorem lsT_eq {p v : Nat} {at1 : Int32} (h4 : np ≤ 4) (ha : at1 = (-1) ∨ ∃ q, q < np ∧ at1 = nI q) : lsT ne b tr pn p v at1 np = mdG tr pn b v (mdSet ne np p v at1) np := by
  refine tb_ext fun j hj => ?_
  rw [tb_lsT hj np h4, tb_mdG hj np (by omega)]
  by_cases h : j < np
  · rw [lLv_eq h4 ha h]
  · simp [h]
theorem lsM_0 {p v : Nat} {at1 : Int32} : ∀ n, lsM ne p v at1 n = 0 ↔ ∀ q, q < n → lLv ne p v at1 q = false := by
  intro n
  induction n with
  | zero => simp [lsM]
  | succ n ih =>
    simp only [lsM]
    constructor
    · intro h q hq
      have h1 : lsM ne p v at1 n = 0 := by omega
      by_cases e : q = n
      · subst e
        cases hb : lLv ne p v at1 q
        · rfl
        · rw [hb] at h; simp at h
      · exact ih.mp h1 q (by omega)
    · intro h
      have h1 := ih.mpr fun q hq => h q (by omega)
      rw [h1, h n (by omega)]
      rfl
theorem mdSet_hi {p v : Nat} {at1 : Int32} (h4 : np ≤ 4) (ha : at1 = (-1) ∨ ∃ q, q < np ∧ at1 = nI q) {j : Nat} (hj : j < 32) (hjn : np ≤ j) : tb (mdSet ne np p v at1) j = false := by
  unfold mdSet
  rcases ha with h | ⟨q, hq, h⟩
  · rw [if_pos h, tb_mdFl hj np (by omega)]; simp [show ¬ j < np by omega]
  · subst h
    rw [if_neg (n_m1 (by omega))]
    split
    · exact tb_n0 _
    · rw [tb_bitS (by omega) hj]; simp; omega
theorem lsM_set {p v : Nat} {at1 : Int32} (h4 : np ≤ 4) (ha : at1 = (-1) ∨ ∃ q, q < np ∧ at1 = nI q) : lsM ne p v at1 np = 0 ↔ mdSet ne np p v at1 = 0 := by
  rw [lsM_0]
  constructor
  · intro h
    refine tb_ext fun j hj => ?_
    rw [tb_0]
    by_cases e : j < np
    · rw [← lLv_eq h4 ha e]; exact h j e
    · exact mdSet_hi h4 ha hj (by omega)
  · intro h q hq
    rw [lLv_eq h4 ha hq, h, tb_0]
theorem lWhy_eq {p v : Nat} {at1 : Int32} (h4 : np ≤ 4) (hp : p < np) (ha : at1 = (-1) ∨ ∃ q, q < np ∧ at1 = nI q) : (if lsM ne p v at1 np = 0 then (if at1 < 0 then 5 else 4) else 0) = mdWhy p at1 (mdSet ne np p v at1) := by
  unfold mdWhy
  rcases ha with h | ⟨t, ht, h⟩
  · have e1 : ¬ at1 = nI p := by rw [h]; exact fun e => n_m1 (q := p) (by omega) e.symm
    have e2 : at1 < 0 := by rw [h]; decide
    rw [if_neg e1, if_pos e2]
    by_cases hs : mdSet ne np p v at1 = 0
    · rw [if_pos ((lsM_set h4 (Or.inl h)).mpr hs), if_pos hs]
    · rw [if_neg (fun h9 => hs ((lsM_set h4 (Or.inl h)).mp h9)), if_neg hs]
  · have e2 : ¬ at1 < 0 := by rw [h]; exact nI_nneg (by omega)
    rw [if_neg e2]
    have hs := lsM_set (ne := ne) (p := p) (v := v) h4 (Or.inr ⟨t, ht, h⟩)
    by_cases e1 : at1 = nI p
    · have e3 : mdSet ne np p v at1 = nI 0 := by
        unfold mdSet
        rw [if_neg (by rw [e1]; exact n_m1 (by omega)), if_pos e1]
      rw [if_pos e1, if_pos (hs.mpr (e3.trans nI_0))]
    · have e3 : mdSet ne np p v at1 = nI 1 <<< (at1 &&& 31) := by
        unfold mdSet
        rw [if_neg (by rw [h]; exact n_m1 (by omega)), if_neg e1]
      have e4 : ¬ mdSet ne np p v at1 = 0 := by
        rw [e3, h]
        intro h9
        have this : tb (nI 1 <<< (nI t &&& 31)) t = tb 0 t := congrArg (fun z => tb z t) h9
        rw [tb_bitS (by omega) (by omega), tb_0] at this
        simp at this
      rw [if_neg e1, if_neg e4, if_neg (fun h9 => e4 (hs.mp h9))]
theorem lxE_eq (hM : mOK np tr pn) (hN : ∀ p, p < 4 → 1 ≤ pn p → tb (ne p) (pn p - 1) = true) (h4 : np ≤ 4) (hx : okN np x) (hS : RelS np P L) : lxE ne tr pn b np P x = mdEx ne tr pn b np L x := by
  unfold lxE mdEx
  rw [l_of hM hN h4 hx]
  by_cases h : mdR ne tr pn b x = 0
  · rw [if_pos h, if_pos h, lAt_eq hM hx h hS, lsE_eq h4 (mdAt_rng hM hx h hS)]
  · rw [if_neg h, if_neg h]
theorem lxT_eq (hM : mOK np tr pn) (hN : ∀ p, p < 4 → 1 ≤ pn p → tb (ne p) (pn p - 1) = true) (h4 : np ≤ 4) (hx : okN np x) (hS : RelS np P L) : lxT ne tr pn b np P x = mdTg ne tr pn b np L x := by
  unfold lxT mdTg
  rw [l_of hM hN h4 hx]
  by_cases h : mdR ne tr pn b x = 0
  · rw [if_pos h, if_pos h, lAt_eq hM hx h hS, lsT_eq h4 (mdAt_rng hM hx h hS)]
  · rw [if_neg h, if_neg h]
theorem lost_z0 : mdLost z0 x = false := by
  unfold mdLost
  rw [show tb (z0 (x / 1000)) 0 = false from tb_n0 0, show tb (z0 (x / 1000)) 3 = false from tb_n0 3]
  simp
theorem lxW_eq (hM : mOK np tr pn) (hN : ∀ p, p < 4 → 1 ≤ pn p → tb (ne p) (pn p - 1) = true) (h4 : np ≤ 4) (hx : okN np x) (hS : RelS np P L) : lxW ne tr pn z0 np P x = mdWh ne tr pn z0 np L x := by
  unfold lxW mdWh
  rw [lin_eq, lost_z0, if_pos (by rfl : (!false) = true), lR_eq hM hN h4 hx lost_z0]
  by_cases h : mdR ne tr pn z0 x = 0
  · rw [if_pos h, if_pos h, lAt_eq hM hx h hS, lWhy_eq h4 hx.2 (mdAt_rng hM hx h hS)]
  · rw [if_neg h, if_neg h]
end LV
section LVR
variable {np n : Nat} {ne : Nat → Int32} {tr : Nat → Bool} {pn : Nat → Nat} {b : Nat → Int32} {c : Nat → Nat}
theorem lP_rel (hM : mOK np tr pn) (hN : ∀ p, p < 4 → 1 ≤ pn p → tb (ne p) (pn p - 1) = true) (h4 : np ≤ 4) (hc : ∀ k, k < n → okN np (c k)) : ∀ k, k ≤ n → RelS np (lP ne tr pn b c k) (mL ne tr pn b c k) := by
  intro k
  induction k with
  | zero => intro _; exact RelS_0
  | succ k ih => intro h; exact lSt_rel hM hN h4 (hc k (by omega)) (ih (by omega))
theorem lE_eq (hM : mOK np tr pn) (hN : ∀ p, p < 4 → 1 ≤ pn p → tb (ne p) (pn p - 1) = true) (h4 : np ≤ 4) (hc : ∀ k, k < n → okN np (c k)) {k : Nat} (h : k < n) : lE ne tr pn b np c k = mE ne tr pn b np c k :=
  lxE_eq hM hN h4 (hc k h) (lP_rel hM hN h4 hc k (by omega))
theorem lT_eq (hM : mOK np tr pn) (hN : ∀ p, p < 4 → 1 ≤ pn p → tb (ne p) (pn p - 1) = true) (h4 : np ≤ 4) (hc : ∀ k, k < n → okN np (c k)) {k : Nat} (h : k < n) : lT ne tr pn b np c k = mT ne tr pn b np c k :=
  lxT_eq hM hN h4 (hc k h) (lP_rel hM hN h4 hc k (by omega))
theorem lW_eq (hM : mOK np tr pn) (hN : ∀ p, p < 4 → 1 ≤ pn p → tb (ne p) (pn p - 1) = true) (h4 : np ≤ 4) (hc : ∀ k, k < n → okN np (c k)) {k : Nat} (h : k < n) : lW ne tr pn z0 np c k = nI (mW ne tr pn z0 np c k) :=
  congrArg nI (lxW_eq hM hN h4 (hc k h) (lP_rel hM hN h4 hc k (by omega)))
end LVR
