theorem in_X4_fill_X4 : ∀ w ∈ u_ws RX4 TX4 1, w ∈ wsX4_fill := by decide +kernel
theorem in_X4_read_X4 : ∀ w ∈ u_ws RX4 TX4 1, w ∈ wsX4_read := by decide +kernel
theorem in_X4_write_X4 : ∀ w ∈ u_ws RX4 TX4 1, w ∈ wsX4_write := by decide +kernel
set_option maxRecDepth 100000 in
set_option maxHeartbeats 400000 in
theorem c_J7_fill_53178 (l : Launch) (D : va_G) (cI cZ cJ : ClassId) (a : Nat) (n : Nat) (f : Nat → Int32) (v : Int32) (hp0 : n < 2 ^ 31)  : cnV l yJ7_fill_53178 wsJ7_fill_53178 { frames := 0, cells := 0, slots := 0, locals := 0 } D [(cI, .int)] [.ref a, .int v] [(a, .inl (cI, n, .inl f))] (fun _ : Unit => [(a, .inl (cI, n, .inl (fun _ => v)))]) := by
  refine cnV.mk (cc := cJ7_fill_53178) (nL := 4) (ret := none) (by decide) rfl (Nat.le_of_ble_eq_true rfl) ?_
  intro p_ e_ s_ m_ g_ b_ mt_ cd_ A_ C hr
  refine vz_iconst (v := (nI 0)) C dJ7_fill_53178_0 (by decide) ?_
  refine vz_istore_n C [(2, .int (nI 0)), (0, .ref a), (1, .int v)] dJ7_fill_53178_1 rfl (by decide) rfl ?_
  refine vz_aload_n C 1 dJ7_fill_53178_2 rfl rfl ?_
  refine vz_alen C 0 0 dJ7_fill_53178_3 rfl rfl (v := nI n) rfl ?_
  refine vz_istore_n C [(3, .int (nI n)), (2, .int (nI 0)), (0, .ref a), (1, .int v)] dJ7_fill_53178_4 rfl (by decide) rfl ?_
  refine vz_to (ws' := [(a, .inl (cI, n, .inl (rowK (fun _ => v) f 0)))]) (lv' := [(3, .int (nI n)), (2, .int (nI 0)), (0, .ref a), (1, .int v)]) (st' := []) ?_ (by rfl) (by rfl) rfl
  refine vz_loop (S := Unit) n 0 (fun _ => True) (fun k1 _ => [(a, .inl (cI, n, .inl (rowK (fun _ => v) f k1)))]) (fun k1 _ => [(3, .int (nI n)), (2, .int (nI k1)), (0, .ref a), (1, .int v)]) (Nat.zero_le _) () trivial (fun k1 _ hk4 hk3 hi5 ih2 => ?_) (fun _ hi5 => ?_)
  · refine vz_iload_n C 1 dJ7_fill_53178_5 rfl rfl ?_
    refine vz_iload_n C 0 dJ7_fill_53178_6 rfl rfl ?_
    refine vz_icmp_ge_f (tgt := 20) C dJ7_fill_53178_7 (by decide) (nI_ge hk3 (by omega)) ?_
    refine vz_aload_n C 2 dJ7_fill_53178_10 rfl rfl ?_
    refine vz_iload_n C 1 dJ7_fill_53178_11 rfl rfl ?_
    refine vz_iload_n C 3 dJ7_fill_53178_12 rfl rfl ?_
    refine vz_iast C [(a, .inl (cI, n, .inl (upd (rowK (fun _ => v) f k1) k1 v)))] 0 0 k1 dJ7_fill_53178_13 rfl rfl rfl (by first | with_reducible assumption | with_reducible exact natF_lt _ _ | with_reducible exact refF_lt _ _ _ _ _ | omega | decide) (by first | with_reducible assumption | with_reducible exact natF_lt _ _ | with_reducible exact refF_lt _ _ _ _ _ | omega | decide) rfl ?_
    refine vz_iinc C 1 [(2, .int (nI (k1 + 1))), (3, .int (nI n)), (0, .ref a), (1, .int v)] dJ7_fill_53178_14 rfl (vz_inc k1 1 rfl) (by decide) rfl ?_
    refine vz_goto (tgt := 5) C dJ7_fill_53178_17 (by decide) ?_
    refine vz_lv (lv' := [(3, .int (nI n)), (2, .int (nI (k1 + 1))), (0, .ref a), (1, .int v)]) [1, 0, 2, 3] rfl ?_
    exact vz_to (ih2 () trivial) (by rw [← upd_rowK]) (by rfl) rfl
  refine vz_iload_n C 1 dJ7_fill_53178_5 rfl rfl ?_
  refine vz_iload_n C 0 dJ7_fill_53178_6 rfl rfl ?_
  refine vz_icmp_ge_t (tgt := 20) C dJ7_fill_53178_7 (by decide) (Int32.le_refl _) ?_
  refine vz_arr (f := (rowK (fun _ => v) f n)) (fun _ => v) [(a, .inl (cI, n, .inl (fun _ => v)))] 0 rfl (fun j hj => if_pos hj) rfl ?_
  exact vz_vret C () hr dJ7_fill_53178_20 (by rfl)

set_option maxRecDepth 100000 in
set_option maxHeartbeats 400000 in
theorem c_X4_read (l : Launch) (D : va_G) (cI cZ cJ : ClassId) (h : Nat) (a : Nat) (n : Nat) (j : Nat) (f : Nat → Int32) (hp0 : j < n) (hp1 : n < 2 ^ 31)  : cnI l yX4_read wsX4_read { frames := 0, cells := 0, slots := 0, locals := 0 } D [(cI, .int)] [.ref h, .int (nI j)] [(h, .inr (4, [.ref a])), (a, .inl (cI, n, .inl f))] (f j) (fun _ : Unit => [(h, .inr (4, [.ref a])), (a, .inl (cI, n, .inl f))]) := by
  refine cnI.mk (cc := cX4_read) (nL := 2) (ret := (some .int)) (by decide) rfl (Nat.le_of_ble_eq_true rfl) ?_
  intro p_ e_ s_ m_ g_ b_ mt_ cd_ A_ C hr
  refine vz_iload_n C 1 dX4_read_0 rfl rfl ?_
  refine vz_if_lt_f (tgt := 22) C dX4_read_1 (by decide) (nI_pos (by first | with_reducible assumption | with_reducible exact natF_lt _ _ | with_reducible exact refF_lt _ _ _ _ _ | omega | decide)) ?_
  refine vz_iload_n C 1 dX4_read_4 rfl rfl ?_
  refine vz_aload_n C 0 dX4_read_5 rfl rfl ?_
  refine vz_get (C1 := RX4) (T1 := TX4) (N := 1) C in_X4_read_X4 0 0 dX4_read_6 rfl rfl (by decide) (by decide +kernel) rfl ?_
  refine vz_alen C 1 0 dX4_read_9 rfl rfl (v := nI n) rfl ?_
  refine vz_icmp_ge_f (tgt := 22) C dX4_read_10 (by decide) (nI_ge (by assumption) (by assumption)) ?_
  refine vz_aload_n C 0 dX4_read_13 rfl rfl ?_
  refine vz_get (C1 := RX4) (T1 := TX4) (N := 1) C in_X4_read_X4 0 0 dX4_read_14 rfl rfl (by decide) (by decide +kernel) rfl ?_
  refine vz_iload_n C 1 dX4_read_17 rfl rfl ?_
  refine vz_iald C 1 0 j dX4_read_18 rfl rfl rfl (by first | with_reducible assumption | with_reducible exact natF_lt _ _ | with_reducible exact refF_lt _ _ _ _ _ | omega | decide) (by first | with_reducible assumption | with_reducible exact natF_lt _ _ | with_reducible exact refF_lt _ _ _ _ _ | omega | decide) ?_
  refine vz_goto (tgt := 23) C dX4_read_19 (by decide) ?_
  exact vz_iret C () hr dX4_read_23 (by first | rfl | simp only [Bool.true_and, Bool.false_and, Bool.and_true, Bool.and_false, Bool.true_or, Bool.false_or, Bool.or_true, Bool.or_false, Bool.not_true, Bool.not_false, vz_bI1, vz_bI0, Bool.false_eq_true, if_true, if_false]) rfl

set_option maxRecDepth 100000 in
set_option maxHeartbeats 400000 in
theorem c_X4_write (l : Launch) (D : va_G) (cI cZ cJ : ClassId) (h : Nat) (a : Nat) (n : Nat) (j : Nat) (f : Nat → Int32) (x : Int32) (hp0 : j < n) (hp1 : n < 2 ^ 31)  : cnV l yX4_write wsX4_write { frames := 0, cells := 0, slots := 0, locals := 0 } D [(cI, .int)] [.ref h, .int (nI j), .int x] [(h, .inr (4, [.ref a])), (a, .inl (cI, n, .inl f))] (fun _ : Unit => [(h, .inr (4, [.ref a])), (a, .inl (cI, n, .inl (upd f j x)))]) := by
  refine cnV.mk (cc := cX4_write) (nL := 3) (ret := none) (by decide) rfl (Nat.le_of_ble_eq_true rfl) ?_
  intro p_ e_ s_ m_ g_ b_ mt_ cd_ A_ C hr
  refine vz_iload_n C 1 dX4_write_0 rfl rfl ?_
  refine vz_if_lt_f (tgt := 20) C dX4_write_1 (by decide) (nI_pos (by first | with_reducible assumption | with_reducible exact natF_lt _ _ | with_reducible exact refF_lt _ _ _ _ _ | omega | decide)) ?_
  refine vz_iload_n C 1 dX4_write_4 rfl rfl ?_
  refine vz_aload_n C 0 dX4_write_5 rfl rfl ?_
  refine vz_get (C1 := RX4) (T1 := TX4) (N := 1) C in_X4_write_X4 0 0 dX4_write_6 rfl rfl (by decide) (by decide +kernel) rfl ?_
  refine vz_alen C 1 0 dX4_write_9 rfl rfl (v := nI n) rfl ?_
  refine vz_icmp_ge_f (tgt := 20) C dX4_write_10 (by decide) (nI_ge (by assumption) (by assumption)) ?_
  refine vz_aload_n C 0 dX4_write_13 rfl rfl ?_
  refine vz_get (C1 := RX4) (T1 := TX4) (N := 1) C in_X4_write_X4 0 0 dX4_write_14 rfl rfl (by decide) (by decide +kernel) rfl ?_
  refine vz_iload_n C 1 dX4_write_17 rfl rfl ?_
  refine vz_iload_n C 2 dX4_write_18 rfl rfl ?_
  refine vz_iast C [(h, .inr (4, [.ref a])), (a, .inl (cI, n, .inl (upd f j x)))] 1 0 j dX4_write_19 rfl rfl rfl (by first | with_reducible assumption | with_reducible exact natF_lt _ _ | with_reducible exact refF_lt _ _ _ _ _ | omega | decide) (by first | with_reducible assumption | with_reducible exact natF_lt _ _ | with_reducible exact refF_lt _ _ _ _ _ | omega | decide) rfl ?_
  exact vz_vret C () hr dX4_write_20 rfl

set_option maxRecDepth 100000 in
set_option maxHeartbeats 400000 in
theorem c_X4_fill (l : Launch) (D : va_G) (cI cZ cJ : ClassId) (h : Nat) (a : Nat) (n : Nat) (f : Nat → Int32) (v : Int32) (hp0 : n < 2 ^ 31)  : cnV l yX4_fill wsX4_fill { frames := 1, cells := 0, slots := 0, locals := 23 } D [(cI, .int)] [.ref h, .int v] [(h, .inr (4, [.ref a])), (a, .inl (cI, n, .inl f))] (fun _ : Unit => [(h, .inr (4, [.ref a])), (a, .inl (cI, n, .inl (fun _ => v)))]) := by
  refine cnV.mk (cc := cX4_fill) (nL := 2) (ret := none) (by decide) rfl (Nat.le_of_ble_eq_true rfl) ?_
  intro p_ e_ s_ m_ g_ b_ mt_ cd_ A_ C hr
  refine vz_aload_n C 0 dX4_fill_0 rfl rfl ?_
  refine vz_get (C1 := RX4) (T1 := TX4) (N := 1) C in_X4_fill_X4 0 0 dX4_fill_1 rfl rfl (by decide) (by decide +kernel) rfl ?_
  refine vz_iload_n C 1 dX4_fill_4 rfl rfl ?_
  refine vz_callSv (rest := []) (wr := [(h, .inr (4, [.ref a]))]) C (fun _ : Unit => [(a, .inl (cI, n, .inl (fun _ => v)))]) (fun _ : Unit => [(h, .inr (4, [.ref a])), (a, .inl (cI, n, .inl (fun _ => v)))]) (c_J7_fill_53178 l D cI cZ cJ a n f v (by first | with_reducible assumption | with_reducible exact natF_lt _ _ | with_reducible exact refF_lt _ _ _ _ _ | omega | decide)) dX4_fill_5 gX4_fill_J7_fill_53178 rfl kd_J7_fill_53178 ⟨by decide, by decide⟩ ⟨by decide, by decide⟩ rfl rfl (Nat.le_of_ble_eq_true rfl) [1] [0] [0, 1] rfl rfl rfl (fun _ => rfl) (fun _ => ?_)
  exact vz_vret C () hr dX4_fill_8 rfl

set_option maxRecDepth 100000 in
set_option maxHeartbeats 400000 in
theorem c_X7_isNetwork (l : Launch) (D : va_G) (cI cZ cJ : ClassId) (x : Int32)   : cnI l yX7_isNetwork wsX7_isNetwork { frames := 0, cells := 0, slots := 0, locals := 0 } D [(cI, .int)] [.int x] [] (bI (netOK x)) (fun _ : Unit => []) := by
  refine cnI.mk (cc := cX7_isNetwork) (nL := 1) (ret := (some .boolean)) (by decide) rfl (Nat.le_of_ble_eq_true rfl) ?_
  intro p_ e_ s_ m_ g_ b_ mt_ cd_ A_ C hr
  refine vz_iload_n C 0 dX7_isNetwork_0 rfl rfl ?_
  refine vz_iconst (v := (nI 1)) C dX7_isNetwork_1 (by decide) ?_
  refine vz_join [] 0 0 15 [(0, .int x)] [.int (bI ((!decide (x < (nI 1))) && (!decide ((nI 4) < x))))] (fun hJ1 => ?_) ?_
  · refine vz_icmp_lt (tgt := 14) C dX7_isNetwork_2 (by decide) (Pr := x < (nI 1)) Iff.rfl (fun h2 => ?_) (fun h2 => ?_)
    · refine vz_iconst (v := (nI 0)) C dX7_isNetwork_14 (by decide) ?_
      exact vz_to hJ1 (by first | rfl | simp only [if_pos h2, decide_eq_true h2, Bool.true_and, Bool.false_and, Bool.and_true, Bool.and_false, Bool.true_or, Bool.false_or, Bool.or_true, Bool.or_false, Bool.not_true, Bool.not_false, vz_bI1, vz_bI0, Bool.false_eq_true, if_true, if_false]) (by first | rfl | simp only [if_pos h2, decide_eq_true h2, Bool.true_and, Bool.false_and, Bool.and_true, Bool.and_false, Bool.true_or, Bool.false_or, Bool.or_true, Bool.or_false, Bool.not_true, Bool.not_false, vz_bI1, vz_bI0, Bool.false_eq_true, if_true, if_false]) (by first | rfl | simp only [if_pos h2, decide_eq_true h2, Bool.true_and, Bool.false_and, Bool.and_true, Bool.and_false, Bool.true_or, Bool.false_or, Bool.or_true, Bool.or_false, Bool.not_true, Bool.not_false, vz_bI1, vz_bI0, Bool.false_eq_true, if_true, if_false])
    · refine vz_iload_n C 0 dX7_isNetwork_5 rfl rfl ?_
      refine vz_iconst (v := (nI 4)) C dX7_isNetwork_6 (by decide) ?_
      refine vz_icmp_gt (tgt := 14) C dX7_isNetwork_7 (by decide) (Pr := (nI 4) < x) Iff.rfl (fun h3 => ?_) (fun h3 => ?_)
      · refine vz_iconst (v := (nI 0)) C dX7_isNetwork_14 (by decide) ?_
        exact vz_to hJ1 (by first | rfl | simp only [if_neg h2, decide_eq_false h2, if_pos h3, decide_eq_true h3, Bool.true_and, Bool.false_and, Bool.and_true, Bool.and_false, Bool.true_or, Bool.false_or, Bool.or_true, Bool.or_false, Bool.not_true, Bool.not_false, vz_bI1, vz_bI0, Bool.false_eq_true, if_true, if_false]) (by first | rfl | simp only [if_neg h2, decide_eq_false h2, if_pos h3, decide_eq_true h3, Bool.true_and, Bool.false_and, Bool.and_true, Bool.and_false, Bool.true_or, Bool.false_or, Bool.or_true, Bool.or_false, Bool.not_true, Bool.not_false, vz_bI1, vz_bI0, Bool.false_eq_true, if_true, if_false]) (by first | rfl | simp only [if_neg h2, decide_eq_false h2, if_pos h3, decide_eq_true h3, Bool.true_and, Bool.false_and, Bool.and_true, Bool.and_false, Bool.true_or, Bool.false_or, Bool.or_true, Bool.or_false, Bool.not_true, Bool.not_false, vz_bI1, vz_bI0, Bool.false_eq_true, if_true, if_false])
      · refine vz_iconst (v := (nI 1)) C dX7_isNetwork_10 (by decide) ?_
        refine vz_goto (tgt := 15) C dX7_isNetwork_11 (by decide) ?_
        exact vz_to hJ1 (by first | rfl | simp only [if_neg h2, decide_eq_false h2, if_neg h3, decide_eq_false h3, Bool.true_and, Bool.false_and, Bool.and_true, Bool.and_false, Bool.true_or, Bool.false_or, Bool.or_true, Bool.or_false, Bool.not_true, Bool.not_false, vz_bI1, vz_bI0, Bool.false_eq_true, if_true, if_false]) (by first | rfl | simp only [if_neg h2, decide_eq_false h2, if_neg h3, decide_eq_false h3, Bool.true_and, Bool.false_and, Bool.and_true, Bool.and_false, Bool.true_or, Bool.false_or, Bool.or_true, Bool.or_false, Bool.not_true, Bool.not_false, vz_bI1, vz_bI0, Bool.false_eq_true, if_true, if_false]) (by first | rfl | simp only [if_neg h2, decide_eq_false h2, if_neg h3, decide_eq_false h3, Bool.true_and, Bool.false_and, Bool.and_true, Bool.and_false, Bool.true_or, Bool.false_or, Bool.or_true, Bool.or_false, Bool.not_true, Bool.not_false, vz_bI1, vz_bI0, Bool.false_eq_true, if_true, if_false])
  exact vz_zret C () hr dX7_isNetwork_15 (vz_zn _) (by first | rfl | simp only [Bool.true_and, Bool.false_and, Bool.and_true, Bool.and_false, Bool.true_or, Bool.false_or, Bool.or_true, Bool.or_false, Bool.not_true, Bool.not_false, vz_bI1, vz_bI0, Bool.false_eq_true, if_true, if_false]) rfl

set_option maxRecDepth 100000 in
set_option maxHeartbeats 400000 in
theorem c_X7_hasNetwork (l : Launch) (D : va_G) (cI cZ cJ : ClassId) (x : Int32) (v : Nat) (hp0 : 1 ≤ v) (hp1 : v ≤ 4)  : cnI l yX7_hasNetwork wsX7_hasNetwork { frames := 0, cells := 0, slots := 0, locals := 0 } D [(cI, .int)] [.int x, .int (nI v)] [] (bI (tb x (v - 1))) (fun _ : Unit => []) := by
  refine cnI.mk (cc := cX7_hasNetwork) (nL := 2) (ret := (some .boolean)) (by decide) rfl (Nat.le_of_ble_eq_true rfl) ?_
  intro p_ e_ s_ m_ g_ b_ mt_ cd_ A_ C hr
  refine vz_iload_n C 0 dX7_hasNetwork_0 rfl rfl ?_
  refine vz_iload_n C 1 dX7_hasNetwork_1 rfl rfl ?_
  refine vz_iconst (v := (nI 1)) C dX7_hasNetwork_2 (by decide) ?_
  refine vz_isub (z := (nI (v - 1))) C dX7_hasNetwork_3 (pk_sub (by first | with_reducible assumption | with_reducible exact natF_lt _ _ | with_reducible exact refF_lt _ _ _ _ _ | omega | decide)) ?_
  refine vz_ishr (z := (x >>> ((nI (v - 1)) &&& 31))) C dX7_hasNetwork_4 rfl ?_
  refine vz_iconst (v := (nI 1)) C dX7_hasNetwork_5 (by decide) ?_
  refine vz_iand (z := (bI (tb x (v - 1)))) C dX7_hasNetwork_6 (tb_shr (by omega)) ?_
  refine vz_join [] 0 0 15 [(0, .int x), (1, .int (nI v))] [.int (bI (tb x (v - 1)))] (fun hJ1 => ?_) ?_
  · refine vz_if_eq (tgt := 14) C dX7_hasNetwork_7 (by decide) (Pr := (tb x (v - 1)) = false) vz_beq (fun h2 => ?_) (fun h2 => ?_)
    · refine vz_iconst (v := (nI 0)) C dX7_hasNetwork_14 (by decide) ?_
      exact vz_to hJ1 (by first | rfl | simp only [if_neg (vz_fnt h2), decide_eq_false (vz_fnt h2), vz_bnt (vz_fnt h2), Bool.true_and, Bool.false_and, Bool.and_true, Bool.and_false, Bool.true_or, Bool.false_or, Bool.or_true, Bool.or_false, Bool.not_true, Bool.not_false, vz_bI1, vz_bI0, Bool.false_eq_true, if_true, if_false]) (by first | rfl | simp only [if_neg (vz_fnt h2), decide_eq_false (vz_fnt h2), vz_bnt (vz_fnt h2), Bool.true_and, Bool.false_and, Bool.and_true, Bool.and_false, Bool.true_or, Bool.false_or, Bool.or_true, Bool.or_false, Bool.not_true, Bool.not_false, vz_bI1, vz_bI0, Bool.false_eq_true, if_true, if_false]) (by first | rfl | simp only [if_neg (vz_fnt h2), decide_eq_false (vz_fnt h2), vz_bnt (vz_fnt h2), Bool.true_and, Bool.false_and, Bool.and_true, Bool.and_false, Bool.true_or, Bool.false_or, Bool.or_true, Bool.or_false, Bool.not_true, Bool.not_false, vz_bI1, vz_bI0, Bool.false_eq_true, if_true, if_false])
    · refine vz_iconst (v := (nI 1)) C dX7_hasNetwork_10 (by decide) ?_
      refine vz_goto (tgt := 15) C dX7_hasNetwork_11 (by decide) ?_
      exact vz_to hJ1 (by first | rfl | simp only [if_pos (vz_bnf h2), decide_eq_true (vz_bnf h2), vz_bt (vz_bnf h2), Bool.true_and, Bool.false_and, Bool.and_true, Bool.and_false, Bool.true_or, Bool.false_or, Bool.or_true, Bool.or_false, Bool.not_true, Bool.not_false, vz_bI1, vz_bI0, Bool.false_eq_true, if_true, if_false]) (by first | rfl | simp only [if_pos (vz_bnf h2), decide_eq_true (vz_bnf h2), vz_bt (vz_bnf h2), Bool.true_and, Bool.false_and, Bool.and_true, Bool.and_false, Bool.true_or, Bool.false_or, Bool.or_true, Bool.or_false, Bool.not_true, Bool.not_false, vz_bI1, vz_bI0, Bool.false_eq_true, if_true, if_false]) (by first | rfl | simp only [if_pos (vz_bnf h2), decide_eq_true (vz_bnf h2), vz_bt (vz_bnf h2), Bool.true_and, Bool.false_and, Bool.and_true, Bool.and_false, Bool.true_or, Bool.false_or, Bool.or_true, Bool.or_false, Bool.not_true, Bool.not_false, vz_bI1, vz_bI0, Bool.false_eq_true, if_true, if_false])
  exact vz_zret C () hr dX7_hasNetwork_15 (vz_zn _) (by first | rfl | simp only [Bool.true_and, Bool.false_and, Bool.and_true, Bool.and_false, Bool.true_or, Bool.false_or, Bool.or_true, Bool.or_false, Bool.not_true, Bool.not_false, vz_bI1, vz_bI0, Bool.false_eq_true, if_true, if_false]) rfl

set_option maxRecDepth 100000 in
set_option maxHeartbeats 400000 in
theorem c_X7_cellOf (l : Launch) (D : va_G) (cI cZ cJ : ClassId) (r : Nat) (p : Nat)   : cnI l yX7_cellOf wsX7_cellOf { frames := 0, cells := 0, slots := 0, locals := 0 } D [(cI, .int)] [.int (nI r), .int (nI p)] [] (bit1 (6 * r + p)) (fun _ : Unit => []) := by
  refine cnI.mk (cc := cX7_cellOf) (nL := 2) (ret := (some .int)) (by decide) rfl (Nat.le_of_ble_eq_true rfl) ?_
  intro p_ e_ s_ m_ g_ b_ mt_ cd_ A_ C hr
  refine vz_iconst (v := (nI 1)) C dX7_cellOf_0 (by decide) ?_
  refine vz_bipush (v := (nI 6)) C dX7_cellOf_1 (by decide) ?_
  refine vz_iload_n C 0 dX7_cellOf_3 rfl rfl ?_
  refine vz_imul (z := (nI (6 * r))) C dX7_cellOf_4 (pk_mul 6 r) ?_
  refine vz_iload_n C 1 dX7_cellOf_5 rfl rfl ?_
  refine vz_iadd (z := (nI (6 * r + p))) C dX7_cellOf_6 (nI_add (6 * r) p) ?_
  refine vz_ishl (z := ((nI 1) <<< ((nI (6 * r + p)) &&& 31))) C dX7_cellOf_7 rfl ?_
  exact vz_iret C () hr dX7_cellOf_8 (by first | rfl | simp only [Bool.true_and, Bool.false_and, Bool.and_true, Bool.and_false, Bool.true_or, Bool.false_or, Bool.or_true, Bool.or_false, Bool.not_true, Bool.not_false, vz_bI1, vz_bI0, Bool.false_eq_true, if_true, if_false]) rfl

set_option maxRecDepth 100000 in
set_option maxHeartbeats 400000 in
theorem c_X7_portsIn (l : Launch) (D : va_G) (cI cZ cJ : ClassId) (x : Int32) (r : Nat)   : cnI l yX7_portsIn wsX7_portsIn { frames := 0, cells := 0, slots := 0, locals := 0 } D [(cI, .int)] [.int x, .int (nI r)] [] (secF x r) (fun _ : Unit => []) := by
  refine cnI.mk (cc := cX7_portsIn) (nL := 2) (ret := (some .int)) (by decide) rfl (Nat.le_of_ble_eq_true rfl) ?_
  intro p_ e_ s_ m_ g_ b_ mt_ cd_ A_ C hr
  refine vz_iload_n C 0 dX7_portsIn_0 rfl rfl ?_
  refine vz_bipush (v := (nI 6)) C dX7_portsIn_1 (by decide) ?_
  refine vz_iload_n C 1 dX7_portsIn_3 rfl rfl ?_
  refine vz_imul (z := (nI (6 * r))) C dX7_portsIn_4 (pk_mul 6 r) ?_
  refine vz_ishr (z := (x >>> ((nI (6 * r)) &&& 31))) C dX7_portsIn_5 rfl ?_
  refine vz_bipush (v := (nI 63)) C dX7_portsIn_6 (by decide) ?_
  refine vz_iand (z := ((x >>> ((nI (6 * r)) &&& 31)) &&& (nI 63))) C dX7_portsIn_8 rfl ?_
  exact vz_iret C () hr dX7_portsIn_9 (by first | rfl | simp only [Bool.true_and, Bool.false_and, Bool.and_true, Bool.and_false, Bool.true_or, Bool.false_or, Bool.or_true, Bool.or_false, Bool.not_true, Bool.not_false, vz_bI1, vz_bI0, Bool.false_eq_true, if_true, if_false]) rfl

set_option maxRecDepth 100000 in
set_option maxHeartbeats 400000 in
theorem c_X7_frameOf (l : Launch) (D : va_G) (cI cZ cJ : ClassId) (p : Nat) (t : Nat) (s : Nat) (d : Nat)   : cnI l yX7_frameOf wsX7_frameOf { frames := 0, cells := 0, slots := 0, locals := 0 } D [(cI, .int)] [.int (nI p), .int (nI t), .int (nI s), .int (nI d)] [] (nI (1000 * p + 100 * t + 10 * s + d)) (fun _ : Unit => []) := by
  refine cnI.mk (cc := cX7_frameOf) (nL := 4) (ret := (some .int)) (by decide) rfl (Nat.le_of_ble_eq_true rfl) ?_
  intro p_ e_ s_ m_ g_ b_ mt_ cd_ A_ C hr
  refine vz_sipush (v := (nI 1000)) C dX7_frameOf_0 (by decide) ?_
  refine vz_iload_n C 0 dX7_frameOf_3 rfl rfl ?_
  refine vz_imul (z := (nI (1000 * p))) C dX7_frameOf_4 (pk_mul 1000 p) ?_
  refine vz_bipush (v := (nI 100)) C dX7_frameOf_5 (by decide) ?_
  refine vz_iload_n C 1 dX7_frameOf_7 rfl rfl ?_
  refine vz_imul (z := (nI (100 * t))) C dX7_frameOf_8 (pk_mul 100 t) ?_
  refine vz_iadd (z := (nI (1000 * p + (100 * t)))) C dX7_frameOf_9 (nI_add (1000 * p) (100 * t)) ?_
  refine vz_bipush (v := (nI 10)) C dX7_frameOf_10 (by decide) ?_
  refine vz_iload_n C 2 dX7_frameOf_12 rfl rfl ?_
  refine vz_imul (z := (nI (10 * s))) C dX7_frameOf_13 (pk_mul 10 s) ?_
  refine vz_iadd (z := (nI (1000 * p + (100 * t) + (10 * s)))) C dX7_frameOf_14 (nI_add (1000 * p + (100 * t)) (10 * s)) ?_
  refine vz_iload_n C 3 dX7_frameOf_15 rfl rfl ?_
  refine vz_iadd (z := (nI (1000 * p + (100 * t) + (10 * s) + d))) C dX7_frameOf_16 (nI_add (1000 * p + (100 * t) + (10 * s)) d) ?_
  exact vz_iret C () hr dX7_frameOf_17 (by first | rfl | simp only [Bool.true_and, Bool.false_and, Bool.and_true, Bool.and_false, Bool.true_or, Bool.false_or, Bool.or_true, Bool.or_false, Bool.not_true, Bool.not_false, vz_bI1, vz_bI0, Bool.false_eq_true, if_true, if_false]) rfl

set_option maxRecDepth 100000 in
set_option maxHeartbeats 400000 in
theorem c_X7_portOf (l : Launch) (D : va_G) (cI cZ cJ : ClassId) (x : Nat) (hp0 : x < 2 ^ 31)  : cnI l yX7_portOf wsX7_portOf { frames := 0, cells := 0, slots := 0, locals := 0 } D [(cI, .int)] [.int (nI x)] [] (nI (x / 1000)) (fun _ : Unit => []) := by
  refine cnI.mk (cc := cX7_portOf) (nL := 1) (ret := (some .int)) (by decide) rfl (Nat.le_of_ble_eq_true rfl) ?_
  intro p_ e_ s_ m_ g_ b_ mt_ cd_ A_ C hr
  refine vz_iload_n C 0 dX7_portOf_0 rfl rfl ?_
  refine vz_sipush (v := (nI 1000)) C dX7_portOf_1 (by decide) ?_
  refine vz_idiv (z := (nI (x / 1000))) C dX7_portOf_4 (by decide) (pk_div (by first | with_reducible assumption | with_reducible exact natF_lt _ _ | with_reducible exact refF_lt _ _ _ _ _ | omega | decide) (by first | with_reducible assumption | with_reducible exact natF_lt _ _ | with_reducible exact refF_lt _ _ _ _ _ | omega | decide) (by first | with_reducible assumption | with_reducible exact natF_lt _ _ | with_reducible exact refF_lt _ _ _ _ _ | omega | decide)) ?_
  exact vz_iret C () hr dX7_portOf_5 (by first | rfl | simp only [Bool.true_and, Bool.false_and, Bool.and_true, Bool.and_false, Bool.true_or, Bool.false_or, Bool.or_true, Bool.or_false, Bool.not_true, Bool.not_false, vz_bI1, vz_bI0, Bool.false_eq_true, if_true, if_false]) rfl

set_option maxRecDepth 100000 in
set_option maxHeartbeats 400000 in
theorem c_X7_tagOf (l : Launch) (D : va_G) (cI cZ cJ : ClassId) (x : Nat) (hp0 : x < 2 ^ 31)  : cnI l yX7_tagOf wsX7_tagOf { frames := 0, cells := 0, slots := 0, locals := 0 } D [(cI, .int)] [.int (nI x)] [] (nI (x / 100 % 10)) (fun _ : Unit => []) := by
  refine cnI.mk (cc := cX7_tagOf) (nL := 1) (ret := (some .int)) (by decide) rfl (Nat.le_of_ble_eq_true rfl) ?_
  intro p_ e_ s_ m_ g_ b_ mt_ cd_ A_ C hr
  refine vz_iload_n C 0 dX7_tagOf_0 rfl rfl ?_
  refine vz_bipush (v := (nI 100)) C dX7_tagOf_1 (by decide) ?_
  refine vz_idiv (z := (nI (x / 100))) C dX7_tagOf_3 (by decide) (pk_div (by first | with_reducible assumption | with_reducible exact natF_lt _ _ | with_reducible exact refF_lt _ _ _ _ _ | omega | decide) (by first | with_reducible assumption | with_reducible exact natF_lt _ _ | with_reducible exact refF_lt _ _ _ _ _ | omega | decide) (by first | with_reducible assumption | with_reducible exact natF_lt _ _ | with_reducible exact refF_lt _ _ _ _ _ | omega | decide)) ?_
  refine vz_bipush (v := (nI 10)) C dX7_tagOf_4 (by decide) ?_
  refine vz_irem (z := (nI ((x / 100) % 10))) C dX7_tagOf_6 (by decide) (pk_rem (by first | with_reducible assumption | with_reducible exact natF_lt _ _ | with_reducible exact refF_lt _ _ _ _ _ | omega | decide) (by first | with_reducible assumption | with_reducible exact natF_lt _ _ | with_reducible exact refF_lt _ _ _ _ _ | omega | decide) (by first | with_reducible assumption | with_reducible exact natF_lt _ _ | with_reducible exact refF_lt _ _ _ _ _ | omega | decide)) ?_
  exact vz_iret C () hr dX7_tagOf_7 (by first | rfl | simp only [Bool.true_and, Bool.false_and, Bool.and_true, Bool.and_false, Bool.true_or, Bool.false_or, Bool.or_true, Bool.or_false, Bool.not_true, Bool.not_false, vz_bI1, vz_bI0, Bool.false_eq_true, if_true, if_false]) rfl

set_option maxRecDepth 100000 in
set_option maxHeartbeats 400000 in
theorem c_X7_sourceOf (l : Launch) (D : va_G) (cI cZ cJ : ClassId) (x : Nat) (hp0 : x < 2 ^ 31)  : cnI l yX7_sourceOf wsX7_sourceOf { frames := 0, cells := 0, slots := 0, locals := 0 } D [(cI, .int)] [.int (nI x)] [] (nI (x / 10 % 10)) (fun _ : Unit => []) := by
  refine cnI.mk (cc := cX7_sourceOf) (nL := 1) (ret := (some .int)) (by decide) rfl (Nat.le_of_ble_eq_true rfl) ?_
  intro p_ e_ s_ m_ g_ b_ mt_ cd_ A_ C hr
  refine vz_iload_n C 0 dX7_sourceOf_0 rfl rfl ?_
  refine vz_bipush (v := (nI 10)) C dX7_sourceOf_1 (by decide) ?_
  refine vz_idiv (z := (nI (x / 10))) C dX7_sourceOf_3 (by decide) (pk_div (by first | with_reducible assumption | with_reducible exact natF_lt _ _ | with_reducible exact refF_lt _ _ _ _ _ | omega | decide) (by first | with_reducible assumption | with_reducible exact natF_lt _ _ | with_reducible exact refF_lt _ _ _ _ _ | omega | decide) (by first | with_reducible assumption | with_reducible exact natF_lt _ _ | with_reducible exact refF_lt _ _ _ _ _ | omega | decide)) ?_
  refine vz_bipush (v := (nI 10)) C dX7_sourceOf_4 (by decide) ?_
  refine vz_irem (z := (nI ((x / 10) % 10))) C dX7_sourceOf_6 (by decide) (pk_rem (by first | with_reducible assumption | with_reducible exact natF_lt _ _ | with_reducible exact refF_lt _ _ _ _ _ | omega | decide) (by first | with_reducible assumption | with_reducible exact natF_lt _ _ | with_reducible exact refF_lt _ _ _ _ _ | omega | decide) (by first | with_reducible assumption | with_reducible exact natF_lt _ _ | with_reducible exact refF_lt _ _ _ _ _ | omega | decide)) ?_
  exact vz_iret C () hr dX7_sourceOf_7 (by first | rfl | simp only [Bool.true_and, Bool.false_and, Bool.and_true, Bool.and_false, Bool.true_or, Bool.false_or, Bool.or_true, Bool.or_false, Bool.not_true, Bool.not_false, vz_bI1, vz_bI0, Bool.false_eq_true, if_true, if_false]) rfl

set_option maxRecDepth 100000 in
set_option maxHeartbeats 400000 in
theorem c_X7_destinationOf (l : Launch) (D : va_G) (cI cZ cJ : ClassId) (x : Nat) (hp0 : x < 2 ^ 31)  : cnI l yX7_destinationOf wsX7_destinationOf { frames := 0, cells := 0, slots := 0, locals := 0 } D [(cI, .int)] [.int (nI x)] [] (nI (x % 10)) (fun _ : Unit => []) := by
  refine cnI.mk (cc := cX7_destinationOf) (nL := 1) (ret := (some .int)) (by decide) rfl (Nat.le_of_ble_eq_true rfl) ?_
  intro p_ e_ s_ m_ g_ b_ mt_ cd_ A_ C hr
  refine vz_iload_n C 0 dX7_destinationOf_0 rfl rfl ?_
  refine vz_bipush (v := (nI 10)) C dX7_destinationOf_1 (by decide) ?_
  refine vz_irem (z := (nI (x % 10))) C dX7_destinationOf_3 (by decide) (pk_rem (by first | with_reducible assumption | with_reducible exact natF_lt _ _ | with_reducible exact refF_lt _ _ _ _ _ | omega | decide) (by first | with_reducible assumption | with_reducible exact natF_lt _ _ | with_reducible exact refF_lt _ _ _ _ _ | omega | decide) (by first | with_reducible assumption | with_reducible exact natF_lt _ _ | with_reducible exact refF_lt _ _ _ _ _ | omega | decide)) ?_
  exact vz_iret C () hr dX7_destinationOf_4 (by first | rfl | simp only [Bool.true_and, Bool.false_and, Bool.and_true, Bool.and_false, Bool.true_or, Bool.false_or, Bool.or_true, Bool.or_false, Bool.not_true, Bool.not_false, vz_bI1, vz_bI0, Bool.false_eq_true, if_true, if_false]) rfl
