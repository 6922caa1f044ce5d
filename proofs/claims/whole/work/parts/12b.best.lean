theorem bfT_succ {G : Nat → Int32} {p t x : Nat} {a : Nat × Int32} (h : x = (bfS G (1000 * p + 100 * t) 3).1) : bfT G p a (t + 1) = bfStep G x (bfT G p a t) := by rw [h]; rfl

set_option maxRecDepth 100000 in
set_option maxHeartbeats 400000 in
theorem c_X3_bestFrame (l : Launch) (D : va_G) (cI cZ cJ : ClassId) (ph : Nat) (pr : Nat) (pa : Nat) (f : Nat → Int32) (np : Nat) (hp0 : np ≤ 6)  : cnI l yX3_bestFrame wsX3_bestFrame { frames := 4, cells := 0, slots := 0, locals := 92 } D [(cI, .int), (cZ, .boolean), (cJ, .long)] [.ref ph, .int (nI np)] [(ph, .inr (3, [.ref pr])), (pr, .inr (4, [.ref pa])), (pa, .inl (cI, 18, .inl f))] (nI ((bfP (gainF f) np).1)) (fun _ : Unit => [(ph, .inr (3, [.ref pr])), (pr, .inr (4, [.ref pa])), (pa, .inl (cI, 18, .inl f))]) := by
  refine cnI.mk (cc := cX3_bestFrame) (nL := 8) (ret := (some .int)) (by decide) rfl (Nat.le_of_ble_eq_true rfl) ?_
  intro p_ e_ s_ m_ g_ b_ mt_ cd_ A_ C hr
  refine vz_iconst (v := (nI 0)) C dX3_bestFrame_0 (by decide) ?_
  refine vz_istore_n C [(2, .int (nI 0)), (0, .ref ph), (1, .int (nI np))] dX3_bestFrame_1 rfl (by decide) rfl ?_
  refine vz_iconst (v := (-1)) C dX3_bestFrame_2 (by decide) ?_
  refine vz_istore_n C [(3, .int (-1)), (2, .int (nI 0)), (0, .ref ph), (1, .int (nI np))] dX3_bestFrame_3 rfl (by decide) rfl ?_
  refine vz_iconst (v := (nI 0)) C dX3_bestFrame_4 (by decide) ?_
  refine vz_istore C [(4, .int (nI 0)), (3, .int (-1)), (2, .int (nI 0)), (0, .ref ph), (1, .int (nI np))] dX3_bestFrame_5 (by decide) rfl ?_
  refine vz_to (ws' := [(ph, .inr (3, [.ref pr])), (pr, .inr (4, [.ref pa])), (pa, .inl (cI, 18, .inl f))]) (lv' := [(4, .int (nI 0)), (3, .int ((bfP (gainF f) 0).2)), (2, .int (nI ((bfP (gainF f) 0).1))), (0, .ref ph), (1, .int (nI np))]) (st' := []) ?_ (by rfl) (by rfl) rfl
  refine vz_loop (S := Unit) np 0 (fun _ => True) (fun p _ => [(ph, .inr (3, [.ref pr])), (pr, .inr (4, [.ref pa])), (pa, .inl (cI, 18, .inl f))]) (fun p _ => [(4, .int (nI p)), (3, .int ((bfP (gainF f) p).2)), (2, .int (nI ((bfP (gainF f) p).1))), (0, .ref ph), (1, .int (nI np))]) (Nat.zero_le _) () trivial (fun p _ hk3 hk2 hi4 ih1 => ?_) (fun _ hi4 => ?_)
  · refine vz_iload C 0 dX3_bestFrame_7 rfl ?_
    refine vz_iload_n C 4 dX3_bestFrame_9 rfl rfl ?_
    refine vz_icmp_ge_f (tgt := 64) C dX3_bestFrame_10 (by decide) (nI_ge hk2 (by omega)) ?_
    refine vz_iconst (v := (nI 0)) C dX3_bestFrame_13 (by decide) ?_
    refine vz_istore C [(5, .int (nI 0)), (4, .int (nI p)), (3, .int ((bfP (gainF f) p).2)), (2, .int (nI ((bfP (gainF f) p).1))), (0, .ref ph), (1, .int (nI np))] dX3_bestFrame_14 (by decide) rfl ?_
    refine vz_to (ws' := [(ph, .inr (3, [.ref pr])), (pr, .inr (4, [.ref pa])), (pa, .inl (cI, 18, .inl f))]) (lv' := [(5, .int (nI 0)), (4, .int (nI p)), (3, .int ((bfT (gainF f) p (bfP (gainF f) p) 0).2)), (2, .int (nI ((bfT (gainF f) p (bfP (gainF f) p) 0).1))), (0, .ref ph), (1, .int (nI np))]) (st' := []) ?_ (by rfl) (by rfl) rfl
    refine vz_loop (S := Unit) 5 0 (fun _ => True) (fun t _ => [(ph, .inr (3, [.ref pr])), (pr, .inr (4, [.ref pa])), (pa, .inl (cI, 18, .inl f))]) (fun t _ => [(5, .int (nI t)), (4, .int (nI p)), (3, .int ((bfT (gainF f) p (bfP (gainF f) p) t).2)), (2, .int (nI ((bfT (gainF f) p (bfP (gainF f) p) t).1))), (0, .ref ph), (1, .int (nI np))]) (Nat.zero_le _) () trivial (fun t _ hk7 hk6 hi8 ih5 => ?_) (fun _ hi8 => ?_)
    · refine vz_iload C 0 dX3_bestFrame_16 rfl ?_
      refine vz_iconst (v := (nI 5)) C dX3_bestFrame_18 (by decide) ?_
      refine vz_icmp_ge_f (tgt := 58) C dX3_bestFrame_19 (by decide) (nI_ge hk6 (by decide)) ?_
      refine vz_aload_n C 4 dX3_bestFrame_22 rfl rfl ?_
      refine vz_iload C 1 dX3_bestFrame_23 rfl ?_
      refine vz_iload C 0 dX3_bestFrame_25 rfl ?_
      refine vz_callVi (q0 := 0) (rest := []) (wr := []) C (fun _ : Unit => [(ph, .inr (3, [.ref pr])), (pr, .inr (4, [.ref pa])), (pa, .inl (cI, 18, .inl f))]) (fun _ : Unit => [(ph, .inr (3, [.ref pr])), (pr, .inr (4, [.ref pa])), (pa, .inl (cI, 18, .inl f))]) (c_X3_bestFrameAt l D cI cZ cJ ph pr pa f p t (by first | with_reducible assumption | with_reducible exact natF_lt _ _ | with_reducible exact refF_lt _ _ _ _ _ | omega | decide) (by first | with_reducible assumption | with_reducible exact natF_lt _ _ | with_reducible exact refF_lt _ _ _ _ _ | omega | decide)) dX3_bestFrame_27 gX3_bestFrame_X3_bestFrameAt rfl kd_X3_bestFrameAt ⟨by decide, by decide⟩ ⟨by decide, by decide⟩ rfl rfl rfl rfl rfl (Nat.le_of_ble_eq_true rfl) [0, 1, 2] [] [0, 1, 2] rfl rfl rfl (fun _ => rfl) (fun _ => ?_)
      obtain ⟨x9, hx9⟩ : ∃ z : Nat, z = (bfS (gainF f) (1000 * p + 100 * t) 3).1 := ⟨_, rfl⟩
      have hb1 : x9 < 6000 := by rw [hx9]; exact bfS_lt (G := gainF f) (b := 1000 * p + 100 * t) (N := 6000) 3 (by decide) (by omega) (by decide)
      refine vz_st (st' := [.int (nI x9)]) (by rw [hx9]) ?_
      refine vz_istore C [(6, .int (nI x9)), (5, .int (nI t)), (4, .int (nI p)), (3, .int ((bfT (gainF f) p (bfP (gainF f) p) t).2)), (2, .int (nI ((bfT (gainF f) p (bfP (gainF f) p) t).1))), (0, .ref ph), (1, .int (nI np))] dX3_bestFrame_30 (by decide) rfl ?_
      refine vz_aload_n C 5 dX3_bestFrame_32 rfl rfl ?_
      refine vz_iload C 0 dX3_bestFrame_33 rfl ?_
      refine vz_callVi (q0 := 0) (rest := []) (wr := []) C (fun _ : Unit => [(ph, .inr (3, [.ref pr])), (pr, .inr (4, [.ref pa])), (pa, .inl (cI, 18, .inl f))]) (fun _ : Unit => [(ph, .inr (3, [.ref pr])), (pr, .inr (4, [.ref pa])), (pa, .inl (cI, 18, .inl f))]) (c_X3_gainOf l D cI cZ cJ ph pr pa f x9 (by first | with_reducible assumption | with_reducible exact natF_lt _ _ | with_reducible exact refF_lt _ _ _ _ _ | omega | decide)) dX3_bestFrame_35 gX3_bestFrame_X3_gainOf rfl kd_X3_gainOf ⟨by decide, by decide⟩ ⟨by decide, by decide⟩ rfl rfl rfl rfl rfl (Nat.le_of_ble_eq_true rfl) [0, 1, 2] [] [0, 1, 2] rfl rfl rfl (fun _ => rfl) (fun _ => ?_)
      refine vz_istore C [(7, .int (gainF f x9)), (6, .int (nI x9)), (5, .int (nI t)), (4, .int (nI p)), (3, .int ((bfT (gainF f) p (bfP (gainF f) p) t).2)), (2, .int (nI ((bfT (gainF f) p (bfP (gainF f) p) t).1))), (0, .ref ph), (1, .int (nI np))] dX3_bestFrame_38 (by decide) rfl ?_
      refine vz_iload C 0 dX3_bestFrame_40 rfl ?_
      refine vz_iload_n C 4 dX3_bestFrame_42 rfl rfl ?_
      refine vz_join [(ph, .inr (3, [.ref pr])), (pr, .inr (4, [.ref pa])), (pa, .inl (cI, 18, .inl f))] 0 0 52 [(0, .ref ph), (1, .int (nI np)), (2, .int (nI (if (gainF f x9) ≤ ((bfT (gainF f) p (bfP (gainF f) p) t).2) then (bfT (gainF f) p (bfP (gainF f) p) t).1 else x9))), (3, .int (if (gainF f x9) ≤ ((bfT (gainF f) p (bfP (gainF f) p) t).2) then ((bfT (gainF f) p (bfP (gainF f) p) t).2) else (gainF f x9))), (4, .int (nI p)), (5, .int (nI t)), (6, .int (nI x9)), (7, .int (gainF f x9))] [] (fun hJ9 => ?_) ?_
      · refine vz_icmp_le (tgt := 52) C dX3_bestFrame_43 (by decide) (Pr := (gainF f x9) ≤ ((bfT (gainF f) p (bfP (gainF f) p) t).2)) Iff.rfl (fun h10 => ?_) (fun h10 => ?_)
        · refine vz_lv (lv' := [(0, .ref ph), (1, .int (nI np)), (2, .int (nI ((bfT (gainF f) p (bfP (gainF f) p) t).1))), (3, .int ((bfT (gainF f) p (bfP (gainF f) p) t).2)), (4, .int (nI p)), (5, .int (nI t)), (6, .int (nI x9)), (7, .int (gainF f x9))]) [6, 7, 5, 4, 3, 2, 1, 0] rfl ?_
          exact vz_to hJ9 (by first | rfl | simp only [if_pos h10, decide_eq_true h10, Bool.true_and, Bool.false_and, Bool.and_true, Bool.and_false, Bool.true_or, Bool.false_or, Bool.or_true, Bool.or_false, Bool.not_true, Bool.not_false, vz_bI1, vz_bI0, Bool.false_eq_true, if_true, if_false]) (by first | rfl | simp only [if_pos h10, decide_eq_true h10, Bool.true_and, Bool.false_and, Bool.and_true, Bool.and_false, Bool.true_or, Bool.false_or, Bool.or_true, Bool.or_false, Bool.not_true, Bool.not_false, vz_bI1, vz_bI0, Bool.false_eq_true, if_true, if_false]) (by first | rfl | simp only [if_pos h10, decide_eq_true h10, Bool.true_and, Bool.false_and, Bool.and_true, Bool.and_false, Bool.true_or, Bool.false_or, Bool.or_true, Bool.or_false, Bool.not_true, Bool.not_false, vz_bI1, vz_bI0, Bool.false_eq_true, if_true, if_false])
        · refine vz_iload C 0 dX3_bestFrame_46 rfl ?_
          refine vz_istore_n C [(3, .int (gainF f x9)), (7, .int (gainF f x9)), (6, .int (nI x9)), (5, .int (nI t)), (4, .int (nI p)), (2, .int (nI ((bfT (gainF f) p (bfP (gainF f) p) t).1))), (0, .ref ph), (1, .int (nI np))] dX3_bestFrame_48 rfl (by decide) rfl ?_
          refine vz_iload C 2 dX3_bestFrame_49 rfl ?_
          refine vz_istore_n C [(2, .int (nI x9)), (3, .int (gainF f x9)), (7, .int (gainF f x9)), (6, .int (nI x9)), (5, .int (nI t)), (4, .int (nI p)), (0, .ref ph), (1, .int (nI np))] dX3_bestFrame_51 rfl (by decide) rfl ?_
          refine vz_lv (lv' := [(0, .ref ph), (1, .int (nI np)), (2, .int (nI x9)), (3, .int (gainF f x9)), (4, .int (nI p)), (5, .int (nI t)), (6, .int (nI x9)), (7, .int (gainF f x9))]) [6, 7, 0, 1, 5, 4, 3, 2] rfl ?_
          exact vz_to hJ9 (by first | rfl | simp only [if_neg h10, decide_eq_false h10, Bool.true_and, Bool.false_and, Bool.and_true, Bool.and_false, Bool.true_or, Bool.false_or, Bool.or_true, Bool.or_false, Bool.not_true, Bool.not_false, vz_bI1, vz_bI0, Bool.false_eq_true, if_true, if_false]) (by first | rfl | simp only [if_neg h10, decide_eq_false h10, Bool.true_and, Bool.false_and, Bool.and_true, Bool.and_false, Bool.true_or, Bool.false_or, Bool.or_true, Bool.or_false, Bool.not_true, Bool.not_false, vz_bI1, vz_bI0, Bool.false_eq_true, if_true, if_false]) (by first | rfl | simp only [if_neg h10, decide_eq_false h10, Bool.true_and, Bool.false_and, Bool.and_true, Bool.and_false, Bool.true_or, Bool.false_or, Bool.or_true, Bool.or_false, Bool.not_true, Bool.not_false, vz_bI1, vz_bI0, Bool.false_eq_true, if_true, if_false])
      refine vz_iinc C 5 [(5, .int (nI (t + 1))), (0, .ref ph), (1, .int (nI np)), (2, .int (nI (if (gainF f x9) ≤ ((bfT (gainF f) p (bfP (gainF f) p) t).2) then (bfT (gainF f) p (bfP (gainF f) p) t).1 else x9))), (3, .int (if (gainF f x9) ≤ ((bfT (gainF f) p (bfP (gainF f) p) t).2) then ((bfT (gainF f) p (bfP (gainF f) p) t).2) else (gainF f x9))), (4, .int (nI p)), (6, .int (nI x9)), (7, .int (gainF f x9))] dX3_bestFrame_52 rfl (vz_inc t 1 rfl) (by decide) rfl ?_
      refine vz_goto (tgt := 16) C dX3_bestFrame_55 (by decide) ?_
      refine vz_lv (lv' := [(5, .int (nI (t + 1))), (4, .int (nI p)), (3, .int (if (gainF f x9) ≤ ((bfT (gainF f) p (bfP (gainF f) p) t).2) then ((bfT (gainF f) p (bfP (gainF f) p) t).2) else (gainF f x9))), (2, .int (nI (if (gainF f x9) ≤ ((bfT (gainF f) p (bfP (gainF f) p) t).2) then (bfT (gainF f) p (bfP (gainF f) p) t).1 else x9))), (0, .ref ph), (1, .int (nI np))]) [0, 5, 4, 3, 1, 2] rfl ?_
      exact vz_to (ih5 () trivial) (by rfl) (by rw [bfT_succ hx9]; rfl) rfl
    refine vz_iload C 0 dX3_bestFrame_16 rfl ?_
    refine vz_iconst (v := (nI 5)) C dX3_bestFrame_18 (by decide) ?_
    refine vz_icmp_ge_t (tgt := 58) C dX3_bestFrame_19 (by decide) (by decide) ?_
    refine vz_iinc C 1 [(4, .int (nI (p + 1))), (5, .int (nI 5)), (3, .int ((bfT (gainF f) p (bfP (gainF f) p) 5).2)), (2, .int (nI ((bfT (gainF f) p (bfP (gainF f) p) 5).1))), (0, .ref ph), (1, .int (nI np))] dX3_bestFrame_58 rfl (vz_inc p 1 rfl) (by decide) rfl ?_
    refine vz_goto (tgt := 7) C dX3_bestFrame_61 (by decide) ?_
    refine vz_lv (lv' := [(4, .int (nI (p + 1))), (3, .int ((bfT (gainF f) p (bfP (gainF f) p) 5).2)), (2, .int (nI ((bfT (gainF f) p (bfP (gainF f) p) 5).1))), (0, .ref ph), (1, .int (nI np))]) [0, 2, 3, 4, 5] rfl ?_
    exact vz_to (ih1 () trivial) (by rfl) (by rfl) rfl
  refine vz_iload C 0 dX3_bestFrame_7 rfl ?_
  refine vz_iload_n C 4 dX3_bestFrame_9 rfl rfl ?_
  refine vz_icmp_ge_t (tgt := 64) C dX3_bestFrame_10 (by decide) (Int32.le_refl _) ?_
  refine vz_iload_n C 2 dX3_bestFrame_64 rfl rfl ?_
  exact vz_iret C () hr dX3_bestFrame_65 (by rfl) rfl
