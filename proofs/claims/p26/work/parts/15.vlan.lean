theorem in_X7_access_X7 : ∀ w ∈ u_ws RX7 TX7 8, w ∈ wsX7_access := by decide +kernel
theorem in_X7_add_X7 : ∀ w ∈ u_ws RX7 TX7 8, w ∈ wsX7_add := by decide +kernel
theorem in_X7_begin_X7 : ∀ w ∈ u_ws RX7 TX7 8, w ∈ wsX7_begin := by decide +kernel
theorem in_X7_clear_X7 : ∀ w ∈ u_ws RX7 TX7 8, w ∈ wsX7_clear := by decide +kernel
theorem in_X7_fault_X7 : ∀ w ∈ u_ws RX7 TX7 8, w ∈ wsX7_fault := by decide +kernel
theorem in_X7_frameAt_X7 : ∀ w ∈ u_ws RX7 TX7 8, w ∈ wsX7_frameAt := by decide +kernel
theorem in_X7_frames_X7 : ∀ w ∈ u_ws RX7 TX7 8, w ∈ wsX7_frames := by decide +kernel
theorem in_X7_needFrame_X7 : ∀ w ∈ u_ws RX7 TX7 8, w ∈ wsX7_needFrame := by decide +kernel
theorem in_X7_needPort_X7 : ∀ w ∈ u_ws RX7 TX7 8, w ∈ wsX7_needPort := by decide +kernel
theorem in_X7_pairs_X7 : ∀ w ∈ u_ws RX7 TX7 8, w ∈ wsX7_pairs := by decide +kernel
theorem in_X7_pairsMet_X7 : ∀ w ∈ u_ws RX7 TX7 8, w ∈ wsX7_pairsMet := by decide +kernel
theorem in_X7_ports_X7 : ∀ w ∈ u_ws RX7 TX7 8, w ∈ wsX7_ports := by decide +kernel
theorem in_X7_trunk_X7 : ∀ w ∈ u_ws RX7 TX7 8, w ∈ wsX7_trunk := by decide +kernel
set_option maxRecDepth 100000 in
set_option maxHeartbeats 400000 in
theorem c_X7_isNetwork_t (l : Launch) (D : va_G) (cI cZ cJ : ClassId) (v : Nat) (hp0 : 1 ≤ v) (hp1 : v ≤ 4)  : cnI l yX7_isNetwork wsX7_isNetwork { frames := 0, cells := 0, slots := 0, locals := 0 } D [(cI, .int)] [.int (nI v)] [] (bI true) (fun _ : Unit => []) := by
  refine cnI.mk (cc := cX7_isNetwork) (nL := 1) (ret := (some .boolean)) (by decide) rfl (Nat.le_of_ble_eq_true rfl) ?_
  intro p_ e_ s_ m_ g_ b_ mt_ cd_ A_ C hr
  refine vz_iload_n C 0 dX7_isNetwork_0 rfl rfl ?_
  refine vz_iconst (v := (nI 1)) C dX7_isNetwork_1 (by decide) ?_
  refine vz_icmp_lt_f (tgt := 14) C dX7_isNetwork_2 (by decide) (nI_nlt (by assumption) (by omega)) ?_
  refine vz_iload_n C 0 dX7_isNetwork_5 rfl rfl ?_
  refine vz_iconst (v := (nI 4)) C dX7_isNetwork_6 (by decide) ?_
  refine vz_icmp_gt_f (tgt := 14) C dX7_isNetwork_7 (by decide) (nI_nlt (by assumption) (by omega)) ?_
  refine vz_iconst (v := (nI 1)) C dX7_isNetwork_10 (by decide) ?_
  refine vz_goto (tgt := 15) C dX7_isNetwork_11 (by decide) ?_
  exact vz_zret C () hr dX7_isNetwork_15 (by decide) (by first | rfl | simp only [Bool.true_and, Bool.false_and, Bool.and_true, Bool.and_false, Bool.true_or, Bool.false_or, Bool.or_true, Bool.or_false, Bool.not_true, Bool.not_false, vz_bI1, vz_bI0, Bool.false_eq_true, if_true, if_false]) rfl

set_option maxRecDepth 100000 in
set_option maxHeartbeats 400000 in
theorem c_X7_needPort (l : Launch) (D : va_G) (cI cZ cJ : ClassId) (vh : Nat) (flt : Int32) (stale : Bool) (gh : Nat) (np : Nat) (ac : Int32) (me : Int32) (na : Int32) (lh : Nat) (ph : Nat) (m_h : Nat) (y_h : Nat) (sh : Nat) (p : Nat) (hp0 : p < np) (hp1 : np ≤ 6)  : cnV l yX7_needPort wsX7_needPort { frames := 1, cells := 0, slots := 0, locals := 20 } D [(cI, .int)] [.ref vh, .int (nI p)] [(vh, .inr (7, [.ref gh, .ref lh, .ref ph, .ref m_h, .ref y_h, .ref sh, .int flt, .int (bI stale)])), (gh, .inr (2, [.int (nI np), .int ac, .int me, .int na]))] (fun _ : Unit => [(vh, .inr (7, [.ref gh, .ref lh, .ref ph, .ref m_h, .ref y_h, .ref sh, .int flt, .int (bI stale)])), (gh, .inr (2, [.int (nI np), .int ac, .int me, .int na]))]) := by
  refine cnV.mk (cc := cX7_needPort) (nL := 2) (ret := none) (by decide) rfl (Nat.le_of_ble_eq_true rfl) ?_
  intro p_ e_ s_ m_ g_ b_ mt_ cd_ A_ C hr
  refine vz_iload_n C 1 dX7_needPort_0 rfl rfl ?_
  refine vz_if_lt_f (tgt := 15) C dX7_needPort_1 (by decide) (nI_pos (by first | with_reducible assumption | with_reducible exact natF_lt _ _ | with_reducible exact refF_lt _ _ _ _ _ | omega | decide)) ?_
  refine vz_iload_n C 1 dX7_needPort_4 rfl rfl ?_
  refine vz_aload_n C 0 dX7_needPort_5 rfl rfl ?_
  refine vz_get (C1 := RX7) (T1 := TX7) (N := 8) C in_X7_needPort_X7 0 0 dX7_needPort_6 rfl rfl (by decide) (by decide +kernel) rfl ?_
  refine vz_callVi (q0 := 0) (rest := [.int (nI p)]) (wr := [(vh, .inr (7, [.ref gh, .ref lh, .ref ph, .ref m_h, .ref y_h, .ref sh, .int flt, .int (bI stale)]))]) C (fun _ : Unit => [(gh, .inr (2, [.int (nI np), .int ac, .int me, .int na]))]) (fun _ : Unit => [(vh, .inr (7, [.ref gh, .ref lh, .ref ph, .ref m_h, .ref y_h, .ref sh, .int flt, .int (bI stale)])), (gh, .inr (2, [.int (nI np), .int ac, .int me, .int na]))]) (c_X2_portCount l D cI cZ cJ gh np ac me na) dX7_needPort_9 gX7_needPort_X2_portCount rfl kd_X2_portCount ⟨by decide, by decide⟩ ⟨by decide, by decide⟩ rfl rfl rfl rfl rfl (Nat.le_of_ble_eq_true rfl) [1] [0] [0, 1] rfl rfl rfl (fun _ => rfl) (fun _ => ?_)
  refine vz_icmp_lt_t (tgt := 25) C dX7_needPort_12 (by decide) (nI_lt (by assumption) (by omega)) ?_
  exact vz_vret C () hr dX7_needPort_25 rfl

set_option maxRecDepth 100000 in
set_option maxHeartbeats 400000 in
theorem c_X7_needFrame (l : Launch) (D : va_G) (cI cZ cJ : ClassId) (vh : Nat) (flt : Int32) (stale : Bool) (gh : Nat) (lh : Nat) (lr : Nat) (n : Nat) (ph : Nat) (m_h : Nat) (y_h : Nat) (sh : Nat) (p : Nat) (hp0 : p < n) (hp1 : n ≤ 60)  : cnV l yX7_needFrame wsX7_needFrame { frames := 1, cells := 0, slots := 0, locals := 20 } D [(cI, .int)] [.ref vh, .int (nI p)] [(vh, .inr (7, [.ref gh, .ref lh, .ref ph, .ref m_h, .ref y_h, .ref sh, .int flt, .int (bI stale)])), (lh, .inr (1, [.ref lr, .int (nI n)]))] (fun _ : Unit => [(vh, .inr (7, [.ref gh, .ref lh, .ref ph, .ref m_h, .ref y_h, .ref sh, .int flt, .int (bI stale)])), (lh, .inr (1, [.ref lr, .int (nI n)]))]) := by
  refine cnV.mk (cc := cX7_needFrame) (nL := 2) (ret := none) (by decide) rfl (Nat.le_of_ble_eq_true rfl) ?_
  intro p_ e_ s_ m_ g_ b_ mt_ cd_ A_ C hr
  refine vz_iload_n C 1 dX7_needFrame_0 rfl rfl ?_
  refine vz_if_lt_f (tgt := 15) C dX7_needFrame_1 (by decide) (nI_pos (by first | with_reducible assumption | with_reducible exact natF_lt _ _ | with_reducible exact refF_lt _ _ _ _ _ | omega | decide)) ?_
  refine vz_iload_n C 1 dX7_needFrame_4 rfl rfl ?_
  refine vz_aload_n C 0 dX7_needFrame_5 rfl rfl ?_
  refine vz_get (C1 := RX7) (T1 := TX7) (N := 8) C in_X7_needFrame_X7 0 1 dX7_needFrame_6 rfl rfl (by decide) (by decide +kernel) rfl ?_
  refine vz_callVi (q0 := 0) (rest := [.int (nI p)]) (wr := [(vh, .inr (7, [.ref gh, .ref lh, .ref ph, .ref m_h, .ref y_h, .ref sh, .int flt, .int (bI stale)]))]) C (fun _ : Unit => [(lh, .inr (1, [.ref lr, .int (nI n)]))]) (fun _ : Unit => [(vh, .inr (7, [.ref gh, .ref lh, .ref ph, .ref m_h, .ref y_h, .ref sh, .int flt, .int (bI stale)])), (lh, .inr (1, [.ref lr, .int (nI n)]))]) (c_X1_size l D cI cZ cJ lh lr n) dX7_needFrame_9 gX7_needFrame_X1_size rfl kd_X1_size ⟨by decide, by decide⟩ ⟨by decide, by decide⟩ rfl rfl rfl rfl rfl (Nat.le_of_ble_eq_true rfl) [1] [0] [0, 1] rfl rfl rfl (fun _ => rfl) (fun _ => ?_)
  refine vz_icmp_lt_t (tgt := 25) C dX7_needFrame_12 (by decide) (nI_lt (by assumption) (by omega)) ?_
  exact vz_vret C () hr dX7_needFrame_25 rfl

set_option maxRecDepth 100000 in
set_option maxHeartbeats 400000 in
theorem c_X7_begin (l : Launch) (D : va_G) (cI cZ cJ : ClassId) (vh : Nat) (flt : Int32) (stale : Bool) (gh : Nat) (np : Nat) (ac : Int32) (me : Int32) (na : Int32) (lh : Nat) (lr : Nat) (n : Nat) (ph : Nat) (m_h : Nat) (y_h : Nat) (sh : Nat) (k : Nat) (hp0 : 2 ≤ k) (hp1 : k ≤ 6) (hp2 : n ≤ 60)  : cnV l yX7_begin wsX7_begin { frames := 4, cells := 0, slots := 0, locals := 90 } D [(cI, .int)] [.ref vh, .int (nI k)] [(vh, .inr (7, [.ref gh, .ref lh, .ref ph, .ref m_h, .ref y_h, .ref sh, .int flt, .int (bI stale)])), (gh, .inr (2, [.int (nI np), .int ac, .int me, .int na])), (lh, .inr (1, [.ref lr, .int (nI n)]))] (fun _ : Unit => [(vh, .inr (7, [.ref gh, .ref lh, .ref ph, .ref m_h, .ref y_h, .ref sh, .int (nI 0), .int (bI true)])), (gh, .inr (2, [.int (nI k), .int (rsA k), .int (rsM k), .int (rsM k)])), (lh, .inr (1, [.ref lr, .int (nI 0)]))]) := by
  refine cnV.mk (cc := cX7_begin) (nL := 2) (ret := none) (by decide) rfl (Nat.le_of_ble_eq_true rfl) ?_
  intro p_ e_ s_ m_ g_ b_ mt_ cd_ A_ C hr
  refine vz_iload_n C 1 dX7_begin_0 rfl rfl ?_
  refine vz_iconst (v := (nI 2)) C dX7_begin_1 (by decide) ?_
  refine vz_icmp_lt_f (tgt := 11) C dX7_begin_2 (by decide) (nI_nlt (by assumption) (by omega)) ?_
  refine vz_iload_n C 1 dX7_begin_5 rfl rfl ?_
  refine vz_bipush (v := (nI 6)) C dX7_begin_6 (by decide) ?_
  refine vz_icmp_le_t (tgt := 21) C dX7_begin_8 (by decide) (nI_le (by assumption) (by omega)) ?_
  refine vz_aload_n C 0 dX7_begin_21 rfl rfl ?_
  refine vz_get (C1 := RX7) (T1 := TX7) (N := 8) C in_X7_begin_X7 0 0 dX7_begin_22 rfl rfl (by decide) (by decide +kernel) rfl ?_
  refine vz_iload_n C 1 dX7_begin_25 rfl rfl ?_
  refine vz_callVv (q0 := 0) (rest := []) (wr := [(vh, .inr (7, [.ref gh, .ref lh, .ref ph, .ref m_h, .ref y_h, .ref sh, .int flt, .int (bI stale)])), (lh, .inr (1, [.ref lr, .int (nI n)]))]) C (fun _ : Unit => [(gh, .inr (2, [.int (nI k), .int (rsA k), .int (rsM k), .int (rsM k)]))]) (fun _ : Unit => [(vh, .inr (7, [.ref gh, .ref lh, .ref ph, .ref m_h, .ref y_h, .ref sh, .int flt, .int (bI stale)])), (gh, .inr (2, [.int (nI k), .int (rsA k), .int (rsM k), .int (rsM k)])), (lh, .inr (1, [.ref lr, .int (nI n)]))]) (c_X2_reset l D cI cZ cJ gh np ac me na k (by first | with_reducible assumption | with_reducible exact natF_lt _ _ | with_reducible exact refF_lt _ _ _ _ _ | omega | decide)) dX7_begin_26 gX7_begin_X2_reset rfl kd_X2_reset ⟨by decide, by decide⟩ ⟨by decide, by decide⟩ rfl rfl rfl rfl rfl (Nat.le_of_ble_eq_true rfl) [1] [0, 2] [0, 2, 1] rfl rfl rfl (fun _ => rfl) (fun _ => ?_)
  refine vz_aload_n C 0 dX7_begin_29 rfl rfl ?_
  refine vz_get (C1 := RX7) (T1 := TX7) (N := 8) C in_X7_begin_X7 0 1 dX7_begin_30 rfl rfl (by decide) (by decide +kernel) rfl ?_
  refine vz_iconst (v := (nI 0)) C dX7_begin_33 (by decide) ?_
  refine vz_callVv (q0 := 0) (rest := []) (wr := [(vh, .inr (7, [.ref gh, .ref lh, .ref ph, .ref m_h, .ref y_h, .ref sh, .int flt, .int (bI stale)])), (gh, .inr (2, [.int (nI k), .int (rsA k), .int (rsM k), .int (rsM k)]))]) C (fun _ : Unit => [(lh, .inr (1, [.ref lr, .int (nI (if n ≤ 0 then n else 0))]))]) (fun _ : Unit => [(vh, .inr (7, [.ref gh, .ref lh, .ref ph, .ref m_h, .ref y_h, .ref sh, .int flt, .int (bI stale)])), (gh, .inr (2, [.int (nI k), .int (rsA k), .int (rsM k), .int (rsM k)])), (lh, .inr (1, [.ref lr, .int (nI (if n ≤ 0 then n else 0))]))]) (c_X1_cutTo l D cI cZ cJ lh lr n 0 (by first | with_reducible assumption | with_reducible exact natF_lt _ _ | with_reducible exact refF_lt _ _ _ _ _ | omega | decide) (by first | with_reducible assumption | with_reducible exact natF_lt _ _ | with_reducible exact refF_lt _ _ _ _ _ | omega | decide)) dX7_begin_34 gX7_begin_X1_cutTo rfl kd_X1_cutTo ⟨by decide, by decide⟩ ⟨by decide, by decide⟩ rfl rfl rfl rfl rfl (Nat.le_of_ble_eq_true rfl) [2] [0, 1] [0, 1, 2] rfl rfl rfl (fun _ => rfl) (fun _ => ?_)
  refine vz_ws (ws' := [(vh, .inr (7, [.ref gh, .ref lh, .ref ph, .ref m_h, .ref y_h, .ref sh, .int flt, .int (bI stale)])), (gh, .inr (2, [.int (nI k), .int (rsA k), .int (rsM k), .int (rsM k)])), (lh, .inr (1, [.ref lr, .int (nI 0)]))]) (by rw [cut0]) ?_
  refine vz_aload_n C 0 dX7_begin_37 rfl rfl ?_
  refine vz_iconst (v := (nI 0)) C dX7_begin_38 (by decide) ?_
  refine vz_put (C1 := RX7) (T1 := TX7) (N := 8) C [(vh, .inr (7, [.ref gh, .ref lh, .ref ph, .ref m_h, .ref y_h, .ref sh, .int (nI 0), .int (bI stale)])), (gh, .inr (2, [.int (nI k), .int (rsA k), .int (rsM k), .int (rsM k)])), (lh, .inr (1, [.ref lr, .int (nI 0)]))] in_X7_begin_X7 tyX7 tyX7_ok nmX7 0 6 dX7_begin_39 rfl rfl (by decide) (by decide +kernel) rfl (tyX7_ok 6 (by decide)) rfl rfl (Nat.le_of_ble_eq_true rfl) rfl ?_
  refine vz_aload_n C 0 dX7_begin_42 rfl rfl ?_
  refine vz_iconst (v := (nI 1)) C dX7_begin_43 (by decide) ?_
  refine vz_put (C1 := RX7) (T1 := TX7) (N := 8) C [(vh, .inr (7, [.ref gh, .ref lh, .ref ph, .ref m_h, .ref y_h, .ref sh, .int (nI 0), .int (nI 1)])), (gh, .inr (2, [.int (nI k), .int (rsA k), .int (rsM k), .int (rsM k)])), (lh, .inr (1, [.ref lr, .int (nI 0)]))] in_X7_begin_X7 tyX7 tyX7_ok nmX7 0 7 dX7_begin_44 rfl rfl (by decide) (by decide +kernel) rfl (tyX7_ok 7 (by decide)) (by decide) (by decide) (Nat.le_of_ble_eq_true rfl) rfl ?_
  exact vz_vret C () hr dX7_begin_47 rfl

set_option maxRecDepth 100000 in
set_option maxHeartbeats 400000 in
theorem c_X7_ports (l : Launch) (D : va_G) (cI cZ cJ : ClassId) (vh : Nat) (flt : Int32) (stale : Bool) (gh : Nat) (np : Nat) (ac : Int32) (me : Int32) (na : Int32) (lh : Nat) (ph : Nat) (m_h : Nat) (y_h : Nat) (sh : Nat)   : cnI l yX7_ports wsX7_ports { frames := 1, cells := 0, slots := 0, locals := 20 } D [(cI, .int)] [.ref vh] [(vh, .inr (7, [.ref gh, .ref lh, .ref ph, .ref m_h, .ref y_h, .ref sh, .int flt, .int (bI stale)])), (gh, .inr (2, [.int (nI np), .int ac, .int me, .int na]))] (nI np) (fun _ : Unit => [(vh, .inr (7, [.ref gh, .ref lh, .ref ph, .ref m_h, .ref y_h, .ref sh, .int flt, .int (bI stale)])), (gh, .inr (2, [.int (nI np), .int ac, .int me, .int na]))]) := by
  refine cnI.mk (cc := cX7_ports) (nL := 1) (ret := (some .int)) (by decide) rfl (Nat.le_of_ble_eq_true rfl) ?_
  intro p_ e_ s_ m_ g_ b_ mt_ cd_ A_ C hr
  refine vz_aload_n C 0 dX7_ports_0 rfl rfl ?_
  refine vz_get (C1 := RX7) (T1 := TX7) (N := 8) C in_X7_ports_X7 0 0 dX7_ports_1 rfl rfl (by decide) (by decide +kernel) rfl ?_
  refine vz_callVi (q0 := 0) (rest := []) (wr := [(vh, .inr (7, [.ref gh, .ref lh, .ref ph, .ref m_h, .ref y_h, .ref sh, .int flt, .int (bI stale)]))]) C (fun _ : Unit => [(gh, .inr (2, [.int (nI np), .int ac, .int me, .int na]))]) (fun _ : Unit => [(vh, .inr (7, [.ref gh, .ref lh, .ref ph, .ref m_h, .ref y_h, .ref sh, .int flt, .int (bI stale)])), (gh, .inr (2, [.int (nI np), .int ac, .int me, .int na]))]) (c_X2_portCount l D cI cZ cJ gh np ac me na) dX7_ports_4 gX7_ports_X2_portCount rfl kd_X2_portCount ⟨by decide, by decide⟩ ⟨by decide, by decide⟩ rfl rfl rfl rfl rfl (Nat.le_of_ble_eq_true rfl) [1] [0] [0, 1] rfl rfl rfl (fun _ => rfl) (fun _ => ?_)
  exact vz_iret C () hr dX7_ports_7 (by first | rfl | simp only [Bool.true_and, Bool.false_and, Bool.and_true, Bool.and_false, Bool.true_or, Bool.false_or, Bool.or_true, Bool.or_false, Bool.not_true, Bool.not_false, vz_bI1, vz_bI0, Bool.false_eq_true, if_true, if_false]) rfl

set_option maxRecDepth 100000 in
set_option maxHeartbeats 400000 in
theorem c_X7_access (l : Launch) (D : va_G) (cI cZ cJ : ClassId) (vh : Nat) (flt : Int32) (stale : Bool) (gh : Nat) (np : Nat) (ac : Int32) (me : Int32) (na : Int32) (lh : Nat) (ph : Nat) (m_h : Nat) (y_h : Nat) (sh : Nat) (p : Nat) (v : Nat) (hp0 : p < np) (hp1 : np ≤ 6) (hp2 : 1 ≤ v) (hp3 : v ≤ 4)  : cnV l yX7_access wsX7_access { frames := 3, cells := 0, slots := 0, locals := 68 } D [(cI, .int)] [.ref vh, .int (nI p), .int (nI v)] [(vh, .inr (7, [.ref gh, .ref lh, .ref ph, .ref m_h, .ref y_h, .ref sh, .int flt, .int (bI stale)])), (gh, .inr (2, [.int (nI np), .int ac, .int me, .int na]))] (fun _ : Unit => [(vh, .inr (7, [.ref gh, .ref lh, .ref ph, .ref m_h, .ref y_h, .ref sh, .int flt, .int (bI true)])), (gh, .inr (2, [.int (nI np), .int ((ac &&& (bit1 p ^^^ (-1))) ||| bit1 p), .int (mtM (bit1 (v - 1)) p me 4), .int (mtN v p na 4)]))]) := by
  refine cnV.mk (cc := cX7_access) (nL := 3) (ret := none) (by decide) rfl (Nat.le_of_ble_eq_true rfl) ?_
  intro p_ e_ s_ m_ g_ b_ mt_ cd_ A_ C hr
  refine vz_aload_n C 0 dX7_access_0 rfl rfl ?_
  refine vz_iload_n C 1 dX7_access_1 rfl rfl ?_
  refine vz_callVv (q0 := 0) (rest := []) (wr := []) C (fun _ : Unit => [(vh, .inr (7, [.ref gh, .ref lh, .ref ph, .ref m_h, .ref y_h, .ref sh, .int flt, .int (bI stale)])), (gh, .inr (2, [.int (nI np), .int ac, .int me, .int na]))]) (fun _ : Unit => [(vh, .inr (7, [.ref gh, .ref lh, .ref ph, .ref m_h, .ref y_h, .ref sh, .int flt, .int (bI stale)])), (gh, .inr (2, [.int (nI np), .int ac, .int me, .int na]))]) (c_X7_needPort l D cI cZ cJ vh flt stale gh np ac me na lh ph m_h y_h sh p (by first | with_reducible assumption | with_reducible exact natF_lt _ _ | with_reducible exact refF_lt _ _ _ _ _ | omega | decide) (by first | with_reducible assumption | with_reducible exact natF_lt _ _ | with_reducible exact refF_lt _ _ _ _ _ | omega | decide)) dX7_access_2 gX7_access_X7_needPort rfl kd_X7_needPort ⟨by decide, by decide⟩ ⟨by decide, by decide⟩ rfl rfl rfl rfl rfl (Nat.le_of_ble_eq_true rfl) [0, 1] [] [0, 1] rfl rfl rfl (fun _ => rfl) (fun _ => ?_)
  refine vz_iload_n C 2 dX7_access_5 rfl rfl ?_
  refine vz_callSi (rest := []) (wr := [(vh, .inr (7, [.ref gh, .ref lh, .ref ph, .ref m_h, .ref y_h, .ref sh, .int flt, .int (bI stale)])), (gh, .inr (2, [.int (nI np), .int ac, .int me, .int na]))]) C (fun _ : Unit => []) (fun _ : Unit => [(vh, .inr (7, [.ref gh, .ref lh, .ref ph, .ref m_h, .ref y_h, .ref sh, .int flt, .int (bI stale)])), (gh, .inr (2, [.int (nI np), .int ac, .int me, .int na]))]) (c_X7_isNetwork_t l D cI cZ cJ v (by first | with_reducible assumption | with_reducible exact natF_lt _ _ | with_reducible exact refF_lt _ _ _ _ _ | omega | decide) (by first | with_reducible assumption | with_reducible exact natF_lt _ _ | with_reducible exact refF_lt _ _ _ _ _ | omega | decide)) dX7_access_6 gX7_access_X7_isNetwork rfl kd_X7_isNetwork ⟨by decide, by decide⟩ ⟨by decide, by decide⟩ rfl rfl (Nat.le_of_ble_eq_true rfl) [] [0, 1] [0, 1] rfl rfl rfl (fun _ => rfl) (fun _ => ?_)
  refine vz_if_ne_t (tgt := 22) C dX7_access_9 (by decide) (by decide) ?_
  refine vz_aload_n C 0 dX7_access_22 rfl rfl ?_
  refine vz_get (C1 := RX7) (T1 := TX7) (N := 8) C in_X7_access_X7 0 0 dX7_access_23 rfl rfl (by decide) (by decide +kernel) rfl ?_
  refine vz_iload_n C 1 dX7_access_26 rfl rfl ?_
  refine vz_iload_n C 2 dX7_access_27 rfl rfl ?_
  refine vz_callVv (q0 := 0) (rest := []) (wr := [(vh, .inr (7, [.ref gh, .ref lh, .ref ph, .ref m_h, .ref y_h, .ref sh, .int flt, .int (bI stale)]))]) C (fun _ : Unit => [(gh, .inr (2, [.int (nI np), .int ((ac &&& (bit1 p ^^^ (-1))) ||| bit1 p), .int (mtM (bit1 (v - 1)) p me 4), .int (mtN v p na 4)]))]) (fun _ : Unit => [(vh, .inr (7, [.ref gh, .ref lh, .ref ph, .ref m_h, .ref y_h, .ref sh, .int flt, .int (bI stale)])), (gh, .inr (2, [.int (nI np), .int ((ac &&& (bit1 p ^^^ (-1))) ||| bit1 p), .int (mtM (bit1 (v - 1)) p me 4), .int (mtN v p na 4)]))]) (c_X2_makeAccess l D cI cZ cJ gh np ac me na p v (by first | with_reducible assumption | with_reducible exact natF_lt _ _ | with_reducible exact refF_lt _ _ _ _ _ | omega | decide) (by first | with_reducible assumption | with_reducible exact natF_lt _ _ | with_reducible exact refF_lt _ _ _ _ _ | omega | decide) (by first | with_reducible assumption | with_reducible exact natF_lt _ _ | with_reducible exact refF_lt _ _ _ _ _ | omega | decide)) dX7_access_28 gX7_access_X2_makeAccess rfl kd_X2_makeAccess ⟨by decide, by decide⟩ ⟨by decide, by decide⟩ rfl rfl rfl rfl rfl (Nat.le_of_ble_eq_true rfl) [1] [0] [0, 1] rfl rfl rfl (fun _ => rfl) (fun _ => ?_)
  refine vz_aload_n C 0 dX7_access_31 rfl rfl ?_
  refine vz_iconst (v := (nI 1)) C dX7_access_32 (by decide) ?_
  refine vz_put (C1 := RX7) (T1 := TX7) (N := 8) C [(vh, .inr (7, [.ref gh, .ref lh, .ref ph, .ref m_h, .ref y_h, .ref sh, .int flt, .int (nI 1)])), (gh, .inr (2, [.int (nI np), .int ((ac &&& (bit1 p ^^^ (-1))) ||| bit1 p), .int (mtM (bit1 (v - 1)) p me 4), .int (mtN v p na 4)]))] in_X7_access_X7 tyX7 tyX7_ok nmX7 0 7 dX7_access_33 rfl rfl (by decide) (by decide +kernel) rfl (tyX7_ok 7 (by decide)) (by decide) (by decide) (Nat.le_of_ble_eq_true rfl) rfl ?_
  exact vz_vret C () hr dX7_access_36 rfl

set_option maxRecDepth 100000 in
set_option maxHeartbeats 400000 in
theorem c_X7_trunk (l : Launch) (D : va_G) (cI cZ cJ : ClassId) (vh : Nat) (flt : Int32) (stale : Bool) (gh : Nat) (np : Nat) (ac : Int32) (me : Int32) (na : Int32) (lh : Nat) (ph : Nat) (m_h : Nat) (y_h : Nat) (sh : Nat) (p : Nat) (j : Nat) (o : Nat) (hp0 : p < np) (hp1 : np ≤ 6) (hp2 : 1 ≤ j) (hp3 : j ≤ 15) (hp4 : o = 0 ∨ (1 ≤ o ∧ o ≤ 4 ∧ tb (nI j) (o - 1) = true))  : cnV l yX7_trunk wsX7_trunk { frames := 2, cells := 0, slots := 0, locals := 46 } D [(cI, .int)] [.ref vh, .int (nI p), .int (nI j), .int (nI o)] [(vh, .inr (7, [.ref gh, .ref lh, .ref ph, .ref m_h, .ref y_h, .ref sh, .int flt, .int (bI stale)])), (gh, .inr (2, [.int (nI np), .int ac, .int me, .int na]))] (fun _ : Unit => [(vh, .inr (7, [.ref gh, .ref lh, .ref ph, .ref m_h, .ref y_h, .ref sh, .int flt, .int (bI true)])), (gh, .inr (2, [.int (nI np), .int (ac &&& (bit1 p ^^^ (-1))), .int (mtM (nI j) p me 4), .int (mtN o p na 4)]))]) := by
  refine cnV.mk (cc := cX7_trunk) (nL := 4) (ret := none) (by decide) rfl (Nat.le_of_ble_eq_true rfl) ?_
  intro p_ e_ s_ m_ g_ b_ mt_ cd_ A_ C hr
  refine vz_aload_n C 0 dX7_trunk_0 rfl rfl ?_
  refine vz_iload_n C 1 dX7_trunk_1 rfl rfl ?_
  refine vz_callVv (q0 := 0) (rest := []) (wr := []) C (fun _ : Unit => [(vh, .inr (7, [.ref gh, .ref lh, .ref ph, .ref m_h, .ref y_h, .ref sh, .int flt, .int (bI stale)])), (gh, .inr (2, [.int (nI np), .int ac, .int me, .int na]))]) (fun _ : Unit => [(vh, .inr (7, [.ref gh, .ref lh, .ref ph, .ref m_h, .ref y_h, .ref sh, .int flt, .int (bI stale)])), (gh, .inr (2, [.int (nI np), .int ac, .int me, .int na]))]) (c_X7_needPort l D cI cZ cJ vh flt stale gh np ac me na lh ph m_h y_h sh p (by first | with_reducible assumption | with_reducible exact natF_lt _ _ | with_reducible exact refF_lt _ _ _ _ _ | omega | decide) (by first | with_reducible assumption | with_reducible exact natF_lt _ _ | with_reducible exact refF_lt _ _ _ _ _ | omega | decide)) dX7_trunk_2 gX7_trunk_X7_needPort rfl kd_X7_needPort ⟨by decide, by decide⟩ ⟨by decide, by decide⟩ rfl rfl rfl rfl rfl (Nat.le_of_ble_eq_true rfl) [0, 1] [] [0, 1] rfl rfl rfl (fun _ => rfl) (fun _ => ?_)
  refine vz_iload_n C 2 dX7_trunk_5 rfl rfl ?_
  refine vz_iconst (v := (nI 1)) C dX7_trunk_6 (by decide) ?_
  refine vz_icmp_lt_f (tgt := 16) C dX7_trunk_7 (by decide) (nI_nlt (by assumption) (by omega)) ?_
  refine vz_iload_n C 2 dX7_trunk_10 rfl rfl ?_
  refine vz_bipush (v := (nI 15)) C dX7_trunk_11 (by decide) ?_
  refine vz_icmp_le_t (tgt := 26) C dX7_trunk_13 (by decide) (nI_le (by assumption) (by omega)) ?_
  refine vz_iload_n C 3 dX7_trunk_26 rfl rfl ?_
  refine vz_if_eq (tgt := 55) C dX7_trunk_27 (by decide) (Pr := o = 0) (vz_n0 (by first | with_reducible assumption | with_reducible exact natF_lt _ _ | with_reducible exact refF_lt _ _ _ _ _ | omega | decide)) (fun h1 => ?_) (fun h1 => ?_)
  · refine vz_aload_n C 0 dX7_trunk_55 rfl rfl ?_
    refine vz_get (C1 := RX7) (T1 := TX7) (N := 8) C in_X7_trunk_X7 0 0 dX7_trunk_56 rfl rfl (by decide) (by decide +kernel) rfl ?_
    refine vz_iload_n C 1 dX7_trunk_59 rfl rfl ?_
    refine vz_iload_n C 2 dX7_trunk_60 rfl rfl ?_
    refine vz_iload_n C 3 dX7_trunk_61 rfl rfl ?_
    refine vz_callVv (q0 := 0) (rest := []) (wr := [(vh, .inr (7, [.ref gh, .ref lh, .ref ph, .ref m_h, .ref y_h, .ref sh, .int flt, .int (bI stale)]))]) C (fun _ : Unit => [(gh, .inr (2, [.int (nI np), .int (ac &&& (bit1 p ^^^ (-1))), .int (mtM (nI j) p me 4), .int (mtN o p na 4)]))]) (fun _ : Unit => [(vh, .inr (7, [.ref gh, .ref lh, .ref ph, .ref m_h, .ref y_h, .ref sh, .int flt, .int (bI stale)])), (gh, .inr (2, [.int (nI np), .int (ac &&& (bit1 p ^^^ (-1))), .int (mtM (nI j) p me 4), .int (mtN o p na 4)]))]) (c_X2_makeTrunk l D cI cZ cJ gh np ac me na p o (nI j) (by first | with_reducible assumption | with_reducible exact natF_lt _ _ | with_reducible exact refF_lt _ _ _ _ _ | omega | decide) (by omega)) dX7_trunk_62 gX7_trunk_X2_makeTrunk rfl kd_X2_makeTrunk ⟨by decide, by decide⟩ ⟨by decide, by decide⟩ rfl rfl rfl rfl rfl (Nat.le_of_ble_eq_true rfl) [1] [0] [0, 1] rfl rfl rfl (fun _ => rfl) (fun _ => ?_)
    refine vz_aload_n C 0 dX7_trunk_65 rfl rfl ?_
    refine vz_iconst (v := (nI 1)) C dX7_trunk_66 (by decide) ?_
    refine vz_put (C1 := RX7) (T1 := TX7) (N := 8) C [(vh, .inr (7, [.ref gh, .ref lh, .ref ph, .ref m_h, .ref y_h, .ref sh, .int flt, .int (nI 1)])), (gh, .inr (2, [.int (nI np), .int (ac &&& (bit1 p ^^^ (-1))), .int (mtM (nI j) p me 4), .int (mtN o p na 4)]))] in_X7_trunk_X7 tyX7 tyX7_ok nmX7 0 7 dX7_trunk_67 rfl rfl (by decide) (by decide +kernel) rfl (tyX7_ok 7 (by decide)) (by decide) (by decide) (Nat.le_of_ble_eq_true rfl) rfl ?_
    exact vz_vret C () hr dX7_trunk_70 rfl
  · refine vz_iload_n C 3 dX7_trunk_30 rfl rfl ?_
    refine vz_callSi (rest := []) (wr := [(vh, .inr (7, [.ref gh, .ref lh, .ref ph, .ref m_h, .ref y_h, .ref sh, .int flt, .int (bI stale)])), (gh, .inr (2, [.int (nI np), .int ac, .int me, .int na]))]) C (fun _ : Unit => []) (fun _ : Unit => [(vh, .inr (7, [.ref gh, .ref lh, .ref ph, .ref m_h, .ref y_h, .ref sh, .int flt, .int (bI stale)])), (gh, .inr (2, [.int (nI np), .int ac, .int me, .int na]))]) (c_X7_isNetwork_t l D cI cZ cJ o (by omega) (by omega)) dX7_trunk_31 gX7_trunk_X7_isNetwork rfl kd_X7_isNetwork ⟨by decide, by decide⟩ ⟨by decide, by decide⟩ rfl rfl (Nat.le_of_ble_eq_true rfl) [] [0, 1] [0, 1] rfl rfl rfl (fun _ => rfl) (fun _ => ?_)
    refine vz_if_eq_f (tgt := 45) C dX7_trunk_34 (by decide) (by decide) ?_
    refine vz_iload_n C 2 dX7_trunk_37 rfl rfl ?_
    refine vz_iload_n C 3 dX7_trunk_38 rfl rfl ?_
    refine vz_callSi (rest := []) (wr := [(vh, .inr (7, [.ref gh, .ref lh, .ref ph, .ref m_h, .ref y_h, .ref sh, .int flt, .int (bI stale)])), (gh, .inr (2, [.int (nI np), .int ac, .int me, .int na]))]) C (fun _ : Unit => []) (fun _ : Unit => [(vh, .inr (7, [.ref gh, .ref lh, .ref ph, .ref m_h, .ref y_h, .ref sh, .int flt, .int (bI stale)])), (gh, .inr (2, [.int (nI np), .int ac, .int me, .int na]))]) (c_X7_hasNetwork l D cI cZ cJ (nI j) o (by omega) (by omega)) dX7_trunk_39 gX7_trunk_X7_hasNetwork rfl kd_X7_hasNetwork ⟨by decide, by decide⟩ ⟨by decide, by decide⟩ rfl rfl (Nat.le_of_ble_eq_true rfl) [] [0, 1] [0, 1] rfl rfl rfl (fun _ => rfl) (fun _ => ?_)
    refine vz_if_ne_t (tgt := 55) C dX7_trunk_42 (by decide) (vz_bne.mpr (by rcases hp4 with hp4 | hp4 <;> first | omega | exact hp4.2.2)) ?_
    refine vz_aload_n C 0 dX7_trunk_55 rfl rfl ?_
    refine vz_get (C1 := RX7) (T1 := TX7) (N := 8) C in_X7_trunk_X7 0 0 dX7_trunk_56 rfl rfl (by decide) (by decide +kernel) rfl ?_
    refine vz_iload_n C 1 dX7_trunk_59 rfl rfl ?_
    refine vz_iload_n C 2 dX7_trunk_60 rfl rfl ?_
    refine vz_iload_n C 3 dX7_trunk_61 rfl rfl ?_
    refine vz_callVv (q0 := 0) (rest := []) (wr := [(vh, .inr (7, [.ref gh, .ref lh, .ref ph, .ref m_h, .ref y_h, .ref sh, .int flt, .int (bI stale)]))]) C (fun _ : Unit => [(gh, .inr (2, [.int (nI np), .int (ac &&& (bit1 p ^^^ (-1))), .int (mtM (nI j) p me 4), .int (mtN o p na 4)]))]) (fun _ : Unit => [(vh, .inr (7, [.ref gh, .ref lh, .ref ph, .ref m_h, .ref y_h, .ref sh, .int flt, .int (bI stale)])), (gh, .inr (2, [.int (nI np), .int (ac &&& (bit1 p ^^^ (-1))), .int (mtM (nI j) p me 4), .int (mtN o p na 4)]))]) (c_X2_makeTrunk l D cI cZ cJ gh np ac me na p o (nI j) (by first | with_reducible assumption | with_reducible exact natF_lt _ _ | with_reducible exact refF_lt _ _ _ _ _ | omega | decide) (by omega)) dX7_trunk_62 gX7_trunk_X2_makeTrunk rfl kd_X2_makeTrunk ⟨by decide, by decide⟩ ⟨by decide, by decide⟩ rfl rfl rfl rfl rfl (Nat.le_of_ble_eq_true rfl) [1] [0] [0, 1] rfl rfl rfl (fun _ => rfl) (fun _ => ?_)
    refine vz_aload_n C 0 dX7_trunk_65 rfl rfl ?_
    refine vz_iconst (v := (nI 1)) C dX7_trunk_66 (by decide) ?_
    refine vz_put (C1 := RX7) (T1 := TX7) (N := 8) C [(vh, .inr (7, [.ref gh, .ref lh, .ref ph, .ref m_h, .ref y_h, .ref sh, .int flt, .int (nI 1)])), (gh, .inr (2, [.int (nI np), .int (ac &&& (bit1 p ^^^ (-1))), .int (mtM (nI j) p me 4), .int (mtN o p na 4)]))] in_X7_trunk_X7 tyX7 tyX7_ok nmX7 0 7 dX7_trunk_67 rfl rfl (by decide) (by decide +kernel) rfl (tyX7_ok 7 (by decide)) (by decide) (by decide) (Nat.le_of_ble_eq_true rfl) rfl ?_
    exact vz_vret C () hr dX7_trunk_70 rfl

set_option maxRecDepth 100000 in
set_option maxHeartbeats 400000 in
theorem c_X7_fault (l : Launch) (D : va_G) (cI cZ cJ : ClassId) (vh : Nat) (flt : Int32) (stale : Bool) (gh : Nat) (np : Nat) (ac : Int32) (me : Int32) (na : Int32) (lh : Nat) (ph : Nat) (m_h : Nat) (y_h : Nat) (sh : Nat) (p : Nat) (k : Nat) (hp0 : p < np) (hp1 : np ≤ 6) (hp2 : k < 5)  : cnI l yX7_fault wsX7_fault { frames := 2, cells := 0, slots := 0, locals := 41 } D [(cI, .int)] [.ref vh, .int (nI p), .int (nI k)] [(vh, .inr (7, [.ref gh, .ref lh, .ref ph, .ref m_h, .ref y_h, .ref sh, .int flt, .int (bI stale)])), (gh, .inr (2, [.int (nI np), .int ac, .int me, .int na]))] (bI (tb (flt ^^^ bit1 (6 * k + p)) (6 * k + p))) (fun _ : Unit => [(vh, .inr (7, [.ref gh, .ref lh, .ref ph, .ref m_h, .ref y_h, .ref sh, .int (flt ^^^ bit1 (6 * k + p)), .int (bI true)])), (gh, .inr (2, [.int (nI np), .int ac, .int me, .int na]))]) := by
  refine cnI.mk (cc := cX7_fault) (nL := 4) (ret := (some .boolean)) (by decide) rfl (Nat.le_of_ble_eq_true rfl) ?_
  intro p_ e_ s_ m_ g_ b_ mt_ cd_ A_ C hr
  refine vz_aload_n C 0 dX7_fault_0 rfl rfl ?_
  refine vz_iload_n C 1 dX7_fault_1 rfl rfl ?_
  refine vz_callVv (q0 := 0) (rest := []) (wr := []) C (fun _ : Unit => [(vh, .inr (7, [.ref gh, .ref lh, .ref ph, .ref m_h, .ref y_h, .ref sh, .int flt, .int (bI stale)])), (gh, .inr (2, [.int (nI np), .int ac, .int me, .int na]))]) (fun _ : Unit => [(vh, .inr (7, [.ref gh, .ref lh, .ref ph, .ref m_h, .ref y_h, .ref sh, .int flt, .int (bI stale)])), (gh, .inr (2, [.int (nI np), .int ac, .int me, .int na]))]) (c_X7_needPort l D cI cZ cJ vh flt stale gh np ac me na lh ph m_h y_h sh p (by first | with_reducible assumption | with_reducible exact natF_lt _ _ | with_reducible exact refF_lt _ _ _ _ _ | omega | decide) (by first | with_reducible assumption | with_reducible exact natF_lt _ _ | with_reducible exact refF_lt _ _ _ _ _ | omega | decide)) dX7_fault_2 gX7_fault_X7_needPort rfl kd_X7_needPort ⟨by decide, by decide⟩ ⟨by decide, by decide⟩ rfl rfl rfl rfl rfl (Nat.le_of_ble_eq_true rfl) [0, 1] [] [0, 1] rfl rfl rfl (fun _ => rfl) (fun _ => ?_)
  refine vz_iload_n C 2 dX7_fault_5 rfl rfl ?_
  refine vz_if_lt_f (tgt := 14) C dX7_fault_6 (by decide) (nI_pos (by first | with_reducible assumption | with_reducible exact natF_lt _ _ | with_reducible exact refF_lt _ _ _ _ _ | omega | decide)) ?_
  refine vz_iload_n C 2 dX7_fault_9 rfl rfl ?_
  refine vz_iconst (v := (nI 5)) C dX7_fault_10 (by decide) ?_
  refine vz_icmp_lt_t (tgt := 24) C dX7_fault_11 (by decide) (nI_lt (by assumption) (by omega)) ?_
  refine vz_iload_n C 2 dX7_fault_24 rfl rfl ?_
  refine vz_iload_n C 1 dX7_fault_25 rfl rfl ?_
  refine vz_callSi (rest := []) (wr := [(vh, .inr (7, [.ref gh, .ref lh, .ref ph, .ref m_h, .ref y_h, .ref sh, .int flt, .int (bI stale)])), (gh, .inr (2, [.int (nI np), .int ac, .int me, .int na]))]) C (fun _ : Unit => []) (fun _ : Unit => [(vh, .inr (7, [.ref gh, .ref lh, .ref ph, .ref m_h, .ref y_h, .ref sh, .int flt, .int (bI stale)])), (gh, .inr (2, [.int (nI np), .int ac, .int me, .int na]))]) (c_X7_cellOf l D cI cZ cJ k p) dX7_fault_26 gX7_fault_X7_cellOf rfl kd_X7_cellOf ⟨by decide, by decide⟩ ⟨by decide, by decide⟩ rfl rfl (Nat.le_of_ble_eq_true rfl) [] [0, 1] [0, 1] rfl rfl rfl (fun _ => rfl) (fun _ => ?_)
  refine vz_istore_n C [(3, .int (bit1 (6 * k + p))), (0, .ref vh), (1, .int (nI p)), (2, .int (nI k))] dX7_fault_29 rfl (by decide) rfl ?_
  refine vz_aload_n C 1 dX7_fault_30 rfl rfl ?_
  refine vz_dup C dX7_fault_31 rfl ?_
  refine vz_get (C1 := RX7) (T1 := TX7) (N := 8) C in_X7_fault_X7 0 6 dX7_fault_32 rfl rfl (by decide) (by decide +kernel) rfl ?_
  refine vz_iload_n C 0 dX7_fault_35 rfl rfl ?_
  refine vz_ixor (z := (flt ^^^ (bit1 (6 * k + p)))) C dX7_fault_36 rfl ?_
  refine vz_put (C1 := RX7) (T1 := TX7) (N := 8) C [(vh, .inr (7, [.ref gh, .ref lh, .ref ph, .ref m_h, .ref y_h, .ref sh, .int (flt ^^^ (bit1 (6 * k + p))), .int (bI stale)])), (gh, .inr (2, [.int (nI np), .int ac, .int me, .int na]))] in_X7_fault_X7 tyX7 tyX7_ok nmX7 0 6 dX7_fault_37 rfl rfl (by decide) (by decide +kernel) rfl (tyX7_ok 6 (by decide)) rfl rfl (Nat.le_of_ble_eq_true rfl) rfl ?_
  refine vz_aload_n C 1 dX7_fault_40 rfl rfl ?_
  refine vz_iconst (v := (nI 1)) C dX7_fault_41 (by decide) ?_
  refine vz_put (C1 := RX7) (T1 := TX7) (N := 8) C [(vh, .inr (7, [.ref gh, .ref lh, .ref ph, .ref m_h, .ref y_h, .ref sh, .int (flt ^^^ (bit1 (6 * k + p))), .int (nI 1)])), (gh, .inr (2, [.int (nI np), .int ac, .int me, .int na]))] in_X7_fault_X7 tyX7 tyX7_ok nmX7 0 7 dX7_fault_42 rfl rfl (by decide) (by decide +kernel) rfl (tyX7_ok 7 (by decide)) (by decide) (by decide) (Nat.le_of_ble_eq_true rfl) rfl ?_
  refine vz_aload_n C 1 dX7_fault_45 rfl rfl ?_
  refine vz_get (C1 := RX7) (T1 := TX7) (N := 8) C in_X7_fault_X7 0 6 dX7_fault_46 rfl rfl (by decide) (by decide +kernel) rfl ?_
  refine vz_iload_n C 0 dX7_fault_49 rfl rfl ?_
  refine vz_iand (z := ((flt ^^^ (bit1 (6 * k + p))) &&& (bit1 (6 * k + p)))) C dX7_fault_50 rfl ?_
  refine vz_join [(vh, .inr (7, [.ref gh, .ref lh, .ref ph, .ref m_h, .ref y_h, .ref sh, .int (flt ^^^ (bit1 (6 * k + p))), .int (nI 1)])), (gh, .inr (2, [.int (nI np), .int ac, .int me, .int na]))] 0 0 59 [(0, .ref vh), (1, .int (nI p)), (2, .int (nI k)), (3, .int (bit1 (6 * k + p)))] [.int (bI (tb (flt ^^^ bit1 (6 * k + p)) (6 * k + p)))] (fun hJ1 => ?_) ?_
  · refine vz_if_eq (tgt := 58) C dX7_fault_51 (by decide) (Pr := ¬ tb (flt ^^^ bit1 (6 * k + p)) (6 * k + p) = true) (tb_bit1e (by omega)) (fun h2 => ?_) (fun h2 => ?_)
    · refine vz_iconst (v := (nI 0)) C dX7_fault_58 (by decide) ?_
      refine vz_lv (lv' := [(0, .ref vh), (1, .int (nI p)), (2, .int (nI k)), (3, .int (bit1 (6 * k + p)))]) [1, 2, 3, 0] rfl ?_
      exact vz_to hJ1 (by first | rfl | simp only [if_neg h2, decide_eq_false h2, vz_bnt h2, Bool.true_and, Bool.false_and, Bool.and_true, Bool.and_false, Bool.true_or, Bool.false_or, Bool.or_true, Bool.or_false, Bool.not_true, Bool.not_false, vz_bI1, vz_bI0, Bool.false_eq_true, if_true, if_false]) (by first | rfl | simp only [if_neg h2, decide_eq_false h2, vz_bnt h2, Bool.true_and, Bool.false_and, Bool.and_true, Bool.and_false, Bool.true_or, Bool.false_or, Bool.or_true, Bool.or_false, Bool.not_true, Bool.not_false, vz_bI1, vz_bI0, Bool.false_eq_true, if_true, if_false]) (by first | rfl | simp only [if_neg h2, decide_eq_false h2, vz_bnt h2, Bool.true_and, Bool.false_and, Bool.and_true, Bool.and_false, Bool.true_or, Bool.false_or, Bool.or_true, Bool.or_false, Bool.not_true, Bool.not_false, vz_bI1, vz_bI0, Bool.false_eq_true, if_true, if_false])
    · refine vz_iconst (v := (nI 1)) C dX7_fault_54 (by decide) ?_
      refine vz_goto (tgt := 59) C dX7_fault_55 (by decide) ?_
      refine vz_lv (lv' := [(0, .ref vh), (1, .int (nI p)), (2, .int (nI k)), (3, .int (bit1 (6 * k + p)))]) [1, 2, 3, 0] rfl ?_
      exact vz_to hJ1 (by first | rfl | simp only [if_pos (Decidable.not_not.mp h2), decide_eq_true (Decidable.not_not.mp h2), vz_bt (Decidable.not_not.mp h2), Bool.true_and, Bool.false_and, Bool.and_true, Bool.and_false, Bool.true_or, Bool.false_or, Bool.or_true, Bool.or_false, Bool.not_true, Bool.not_false, vz_bI1, vz_bI0, Bool.false_eq_true, if_true, if_false]) (by first | rfl | simp only [if_pos (Decidable.not_not.mp h2), decide_eq_true (Decidable.not_not.mp h2), vz_bt (Decidable.not_not.mp h2), Bool.true_and, Bool.false_and, Bool.and_true, Bool.and_false, Bool.true_or, Bool.false_or, Bool.or_true, Bool.or_false, Bool.not_true, Bool.not_false, vz_bI1, vz_bI0, Bool.false_eq_true, if_true, if_false]) (by first | rfl | simp only [if_pos (Decidable.not_not.mp h2), decide_eq_true (Decidable.not_not.mp h2), vz_bt (Decidable.not_not.mp h2), Bool.true_and, Bool.false_and, Bool.and_true, Bool.and_false, Bool.true_or, Bool.false_or, Bool.or_true, Bool.or_false, Bool.not_true, Bool.not_false, vz_bI1, vz_bI0, Bool.false_eq_true, if_true, if_false])
  exact vz_zret C () hr dX7_fault_59 (vz_zn _) (by first | rfl | simp only [Bool.true_and, Bool.false_and, Bool.and_true, Bool.and_false, Bool.true_or, Bool.false_or, Bool.or_true, Bool.or_false, Bool.not_true, Bool.not_false, vz_bI1, vz_bI0, Bool.false_eq_true, if_true, if_false]) rfl

set_option maxRecDepth 100000 in
set_option maxHeartbeats 400000 in
theorem c_X7_add (l : Launch) (D : va_G) (cI cZ cJ : ClassId) (vh : Nat) (flt : Int32) (stale : Bool) (gh : Nat) (np : Nat) (ac : Int32) (me : Int32) (na : Int32) (lh : Nat) (lr : Nat) (la : Nat) (n : Nat) (c : Nat → Nat) (ph : Nat) (m_h : Nat) (y_h : Nat) (sh : Nat) (p : Nat) (t : Nat) (q : Nat) (d : Nat) (hp0 : p < np) (hp1 : np ≤ 6) (hp2 : t < 5) (hp3 : q < 3) (hp4 : d < 4) (hp5 : n < 60)  : cnI l yX7_add wsX7_add { frames := 2, cells := 0, slots := 0, locals := 43 } D [(cI, .int)] [.ref vh, .int (nI p), .int (nI t), .int (nI q), .int (nI d)] [(vh, .inr (7, [.ref gh, .ref lh, .ref ph, .ref m_h, .ref y_h, .ref sh, .int flt, .int (bI stale)])), (gh, .inr (2, [.int (nI np), .int ac, .int me, .int na])), (lh, .inr (1, [.ref lr, .int (nI n)])), (lr, .inr (4, [.ref la])), (la, .inl (cI, 60, .inl (nF c)))] (nI n) (fun _ : Unit => [(vh, .inr (7, [.ref gh, .ref lh, .ref ph, .ref m_h, .ref y_h, .ref sh, .int flt, .int (bI true)])), (gh, .inr (2, [.int (nI np), .int ac, .int me, .int na])), (lh, .inr (1, [.ref lr, .int (nI (n + 1))])), (lr, .inr (4, [.ref la])), (la, .inl (cI, 60, .inl (nF (upN c n (1000 * p + 100 * t + 10 * q + d)))))]) := by
  refine cnI.mk (cc := cX7_add) (nL := 5) (ret := (some .int)) (by decide) rfl (Nat.le_of_ble_eq_true rfl) ?_
  intro p_ e_ s_ m_ g_ b_ mt_ cd_ A_ C hr
  refine vz_aload_n C 0 dX7_add_0 rfl rfl ?_
  refine vz_iload_n C 1 dX7_add_1 rfl rfl ?_
  refine vz_callVv (q0 := 0) (rest := []) (wr := [(lh, .inr (1, [.ref lr, .int (nI n)])), (lr, .inr (4, [.ref la])), (la, .inl (cI, 60, .inl (nF c)))]) C (fun _ : Unit => [(vh, .inr (7, [.ref gh, .ref lh, .ref ph, .ref m_h, .ref y_h, .ref sh, .int flt, .int (bI stale)])), (gh, .inr (2, [.int (nI np), .int ac, .int me, .int na]))]) (fun _ : Unit => [(vh, .inr (7, [.ref gh, .ref lh, .ref ph, .ref m_h, .ref y_h, .ref sh, .int flt, .int (bI stale)])), (gh, .inr (2, [.int (nI np), .int ac, .int me, .int na])), (lh, .inr (1, [.ref lr, .int (nI n)])), (lr, .inr (4, [.ref la])), (la, .inl (cI, 60, .inl (nF c)))]) (c_X7_needPort l D cI cZ cJ vh flt stale gh np ac me na lh ph m_h y_h sh p (by first | with_reducible assumption | with_reducible exact natF_lt _ _ | with_reducible exact refF_lt _ _ _ _ _ | omega | decide) (by first | with_reducible assumption | with_reducible exact natF_lt _ _ | with_reducible exact refF_lt _ _ _ _ _ | omega | decide)) dX7_add_2 gX7_add_X7_needPort rfl kd_X7_needPort ⟨by decide, by decide⟩ ⟨by decide, by decide⟩ rfl rfl rfl rfl rfl (Nat.le_of_ble_eq_true rfl) [0, 1] [2, 3, 4] [3, 4, 0, 1, 2] rfl rfl rfl (fun _ => rfl) (fun _ => ?_)
  refine vz_iload_n C 2 dX7_add_5 rfl rfl ?_
  refine vz_if_lt_f (tgt := 14) C dX7_add_6 (by decide) (nI_pos (by first | with_reducible assumption | with_reducible exact natF_lt _ _ | with_reducible exact refF_lt _ _ _ _ _ | omega | decide)) ?_
  refine vz_iload_n C 2 dX7_add_9 rfl rfl ?_
  refine vz_iconst (v := (nI 5)) C dX7_add_10 (by decide) ?_
  refine vz_icmp_lt_t (tgt := 24) C dX7_add_11 (by decide) (nI_lt (by assumption) (by omega)) ?_
  refine vz_iload_n C 3 dX7_add_24 rfl rfl ?_
  refine vz_if_lt_f (tgt := 33) C dX7_add_25 (by decide) (nI_pos (by first | with_reducible assumption | with_reducible exact natF_lt _ _ | with_reducible exact refF_lt _ _ _ _ _ | omega | decide)) ?_
  refine vz_iload_n C 3 dX7_add_28 rfl rfl ?_
  refine vz_iconst (v := (nI 3)) C dX7_add_29 (by decide) ?_
  refine vz_icmp_lt_t (tgt := 43) C dX7_add_30 (by decide) (nI_lt (by assumption) (by omega)) ?_
  refine vz_iload C 4 dX7_add_43 rfl ?_
  refine vz_if_lt_f (tgt := 54) C dX7_add_45 (by decide) (nI_pos (by first | with_reducible assumption | with_reducible exact natF_lt _ _ | with_reducible exact refF_lt _ _ _ _ _ | omega | decide)) ?_
  refine vz_iload C 4 dX7_add_48 rfl ?_
  refine vz_iconst (v := (nI 4)) C dX7_add_50 (by decide) ?_
  refine vz_icmp_lt_t (tgt := 64) C dX7_add_51 (by decide) (nI_lt (by assumption) (by omega)) ?_
  refine vz_aload_n C 0 dX7_add_64 rfl rfl ?_
  refine vz_get (C1 := RX7) (T1 := TX7) (N := 8) C in_X7_add_X7 0 1 dX7_add_65 rfl rfl (by decide) (by decide +kernel) rfl ?_
  refine vz_callVi (q0 := 0) (rest := []) (wr := [(vh, .inr (7, [.ref gh, .ref lh, .ref ph, .ref m_h, .ref y_h, .ref sh, .int flt, .int (bI stale)])), (gh, .inr (2, [.int (nI np), .int ac, .int me, .int na])), (lr, .inr (4, [.ref la])), (la, .inl (cI, 60, .inl (nF c)))]) C (fun _ : Unit => [(lh, .inr (1, [.ref lr, .int (nI n)]))]) (fun _ : Unit => [(vh, .inr (7, [.ref gh, .ref lh, .ref ph, .ref m_h, .ref y_h, .ref sh, .int flt, .int (bI stale)])), (gh, .inr (2, [.int (nI np), .int ac, .int me, .int na])), (lh, .inr (1, [.ref lr, .int (nI n)])), (lr, .inr (4, [.ref la])), (la, .inl (cI, 60, .inl (nF c)))]) (c_X1_size l D cI cZ cJ lh lr n) dX7_add_68 gX7_add_X1_size rfl kd_X1_size ⟨by decide, by decide⟩ ⟨by decide, by decide⟩ rfl rfl rfl rfl rfl (Nat.le_of_ble_eq_true rfl) [2] [0, 1, 3, 4] [0, 1, 4, 2, 3] rfl rfl rfl (fun _ => rfl) (fun _ => ?_)
  refine vz_bipush (v := (nI 60)) C dX7_add_71 (by decide) ?_
  refine vz_icmp_lt_t (tgt := 86) C dX7_add_73 (by decide) (nI_lt (by assumption) (by omega)) ?_
  refine vz_aload_n C 0 dX7_add_86 rfl rfl ?_
  refine vz_get (C1 := RX7) (T1 := TX7) (N := 8) C in_X7_add_X7 0 1 dX7_add_87 rfl rfl (by decide) (by decide +kernel) rfl ?_
  refine vz_iload_n C 1 dX7_add_90 rfl rfl ?_
  refine vz_iload_n C 2 dX7_add_91 rfl rfl ?_
  refine vz_iload_n C 3 dX7_add_92 rfl rfl ?_
  refine vz_iload C 4 dX7_add_93 rfl ?_
  refine vz_callSi (rest := [.ref lh]) (wr := [(vh, .inr (7, [.ref gh, .ref lh, .ref ph, .ref m_h, .ref y_h, .ref sh, .int flt, .int (bI stale)])), (gh, .inr (2, [.int (nI np), .int ac, .int me, .int na])), (lh, .inr (1, [.ref lr, .int (nI n)])), (lr, .inr (4, [.ref la])), (la, .inl (cI, 60, .inl (nF c)))]) C (fun _ : Unit => []) (fun _ : Unit => [(vh, .inr (7, [.ref gh, .ref lh, .ref ph, .ref m_h, .ref y_h, .ref sh, .int flt, .int (bI stale)])), (gh, .inr (2, [.int (nI np), .int ac, .int me, .int na])), (lh, .inr (1, [.ref lr, .int (nI n)])), (lr, .inr (4, [.ref la])), (la, .inl (cI, 60, .inl (nF c)))]) (c_X7_frameOf l D cI cZ cJ p t q d) dX7_add_95 gX7_add_X7_frameOf rfl kd_X7_frameOf ⟨by decide, by decide⟩ ⟨by decide, by decide⟩ rfl rfl (Nat.le_of_ble_eq_true rfl) [] [0, 1, 2, 3, 4] [0, 1, 2, 3, 4] rfl rfl rfl (fun _ => rfl) (fun _ => ?_)
  refine vz_callVv (q0 := 0) (rest := []) (wr := [(vh, .inr (7, [.ref gh, .ref lh, .ref ph, .ref m_h, .ref y_h, .ref sh, .int flt, .int (bI stale)])), (gh, .inr (2, [.int (nI np), .int ac, .int me, .int na]))]) C (fun _ : Unit => [(lh, .inr (1, [.ref lr, .int (nI (n + 1))])), (lr, .inr (4, [.ref la])), (la, .inl (cI, 60, .inl (nF (upN c n (1000 * p + 100 * t + 10 * q + d)))))]) (fun _ : Unit => [(vh, .inr (7, [.ref gh, .ref lh, .ref ph, .ref m_h, .ref y_h, .ref sh, .int flt, .int (bI stale)])), (gh, .inr (2, [.int (nI np), .int ac, .int me, .int na])), (lh, .inr (1, [.ref lr, .int (nI (n + 1))])), (lr, .inr (4, [.ref la])), (la, .inl (cI, 60, .inl (nF (upN c n (1000 * p + 100 * t + 10 * q + d)))))]) (c_X1_append l D cI cZ cJ lh lr la n c (1000 * p + 100 * t + 10 * q + d) (by first | with_reducible assumption | with_reducible exact natF_lt _ _ | with_reducible exact refF_lt _ _ _ _ _ | omega | decide)) dX7_add_98 gX7_add_X1_append rfl kd_X1_append ⟨by decide, by decide⟩ ⟨by decide, by decide⟩ rfl rfl rfl rfl rfl (Nat.le_of_ble_eq_true rfl) [2, 3, 4] [0, 1] [0, 1, 2, 3, 4] rfl rfl rfl (fun _ => rfl) (fun _ => ?_)
  refine vz_aload_n C 0 dX7_add_101 rfl rfl ?_
  refine vz_iconst (v := (nI 1)) C dX7_add_102 (by decide) ?_
  refine vz_put (C1 := RX7) (T1 := TX7) (N := 8) C [(vh, .inr (7, [.ref gh, .ref lh, .ref ph, .ref m_h, .ref y_h, .ref sh, .int flt, .int (nI 1)])), (gh, .inr (2, [.int (nI np), .int ac, .int me, .int na])), (lh, .inr (1, [.ref lr, .int (nI (n + 1))])), (lr, .inr (4, [.ref la])), (la, .inl (cI, 60, .inl (nF (upN c n (1000 * p + 100 * t + 10 * q + d)))))] in_X7_add_X7 tyX7 tyX7_ok nmX7 0 7 dX7_add_103 rfl rfl (by decide) (by decide +kernel) rfl (tyX7_ok 7 (by decide)) (by decide) (by decide) (Nat.le_of_ble_eq_true rfl) rfl ?_
  refine vz_aload_n C 0 dX7_add_106 rfl rfl ?_
  refine vz_get (C1 := RX7) (T1 := TX7) (N := 8) C in_X7_add_X7 0 1 dX7_add_107 rfl rfl (by decide) (by decide +kernel) rfl ?_
  refine vz_callVi (q0 := 0) (rest := []) (wr := [(vh, .inr (7, [.ref gh, .ref lh, .ref ph, .ref m_h, .ref y_h, .ref sh, .int flt, .int (nI 1)])), (gh, .inr (2, [.int (nI np), .int ac, .int me, .int na])), (lr, .inr (4, [.ref la])), (la, .inl (cI, 60, .inl (nF (upN c n (1000 * p + 100 * t + 10 * q + d)))))]) C (fun _ : Unit => [(lh, .inr (1, [.ref lr, .int (nI (n + 1))]))]) (fun _ : Unit => [(vh, .inr (7, [.ref gh, .ref lh, .ref ph, .ref m_h, .ref y_h, .ref sh, .int flt, .int (nI 1)])), (gh, .inr (2, [.int (nI np), .int ac, .int me, .int na])), (lh, .inr (1, [.ref lr, .int (nI (n + 1))])), (lr, .inr (4, [.ref la])), (la, .inl (cI, 60, .inl (nF (upN c n (1000 * p + 100 * t + 10 * q + d)))))]) (c_X1_size l D cI cZ cJ lh lr (n + 1)) dX7_add_110 gX7_add_X1_size rfl kd_X1_size ⟨by decide, by decide⟩ ⟨by decide, by decide⟩ rfl rfl rfl rfl rfl (Nat.le_of_ble_eq_true rfl) [2] [0, 1, 3, 4] [0, 1, 4, 2, 3] rfl rfl rfl (fun _ => rfl) (fun _ => ?_)
  refine vz_iconst (v := (nI 1)) C dX7_add_113 (by decide) ?_
  refine vz_isub (z := (nI ((n + 1) - 1))) C dX7_add_114 (pk_sub (by first | with_reducible assumption | with_reducible exact natF_lt _ _ | with_reducible exact refF_lt _ _ _ _ _ | omega | decide)) ?_
  exact vz_iret C () hr dX7_add_115 (by rfl) rfl

set_option maxRecDepth 100000 in
set_option maxHeartbeats 400000 in
theorem c_X7_clear (l : Launch) (D : va_G) (cI cZ cJ : ClassId) (vh : Nat) (flt : Int32) (stale : Bool) (gh : Nat) (lh : Nat) (lr : Nat) (n : Nat) (ph : Nat) (m_h : Nat) (y_h : Nat) (sh : Nat) (hp0 : n ≤ 60)  : cnV l yX7_clear wsX7_clear { frames := 1, cells := 0, slots := 0, locals := 21 } D [(cI, .int)] [.ref vh] [(vh, .inr (7, [.ref gh, .ref lh, .ref ph, .ref m_h, .ref y_h, .ref sh, .int flt, .int (bI stale)])), (lh, .inr (1, [.ref lr, .int (nI n)]))] (fun _ : Unit => [(vh, .inr (7, [.ref gh, .ref lh, .ref ph, .ref m_h, .ref y_h, .ref sh, .int flt, .int (bI true)])), (lh, .inr (1, [.ref lr, .int (nI 0)]))]) := by
  refine cnV.mk (cc := cX7_clear) (nL := 1) (ret := none) (by decide) rfl (Nat.le_of_ble_eq_true rfl) ?_
  intro p_ e_ s_ m_ g_ b_ mt_ cd_ A_ C hr
  refine vz_aload_n C 0 dX7_clear_0 rfl rfl ?_
  refine vz_get (C1 := RX7) (T1 := TX7) (N := 8) C in_X7_clear_X7 0 1 dX7_clear_1 rfl rfl (by decide) (by decide +kernel) rfl ?_
  refine vz_iconst (v := (nI 0)) C dX7_clear_4 (by decide) ?_
  refine vz_callVv (q0 := 0) (rest := []) (wr := [(vh, .inr (7, [.ref gh, .ref lh, .ref ph, .ref m_h, .ref y_h, .ref sh, .int flt, .int (bI stale)]))]) C (fun _ : Unit => [(lh, .inr (1, [.ref lr, .int (nI (if n ≤ 0 then n else 0))]))]) (fun _ : Unit => [(vh, .inr (7, [.ref gh, .ref lh, .ref ph, .ref m_h, .ref y_h, .ref sh, .int flt, .int (bI stale)])), (lh, .inr (1, [.ref lr, .int (nI (if n ≤ 0 then n else 0))]))]) (c_X1_cutTo l D cI cZ cJ lh lr n 0 (by first | with_reducible assumption | with_reducible exact natF_lt _ _ | with_reducible exact refF_lt _ _ _ _ _ | omega | decide) (by first | with_reducible assumption | with_reducible exact natF_lt _ _ | with_reducible exact refF_lt _ _ _ _ _ | omega | decide)) dX7_clear_5 gX7_clear_X1_cutTo rfl kd_X1_cutTo ⟨by decide, by decide⟩ ⟨by decide, by decide⟩ rfl rfl rfl rfl rfl (Nat.le_of_ble_eq_true rfl) [1] [0] [0, 1] rfl rfl rfl (fun _ => rfl) (fun _ => ?_)
  refine vz_ws (ws' := [(vh, .inr (7, [.ref gh, .ref lh, .ref ph, .ref m_h, .ref y_h, .ref sh, .int flt, .int (bI stale)])), (lh, .inr (1, [.ref lr, .int (nI 0)]))]) (by rw [cut0]) ?_
  refine vz_aload_n C 0 dX7_clear_8 rfl rfl ?_
  refine vz_iconst (v := (nI 1)) C dX7_clear_9 (by decide) ?_
  refine vz_put (C1 := RX7) (T1 := TX7) (N := 8) C [(vh, .inr (7, [.ref gh, .ref lh, .ref ph, .ref m_h, .ref y_h, .ref sh, .int flt, .int (nI 1)])), (lh, .inr (1, [.ref lr, .int (nI 0)]))] in_X7_clear_X7 tyX7 tyX7_ok nmX7 0 7 dX7_clear_10 rfl rfl (by decide) (by decide +kernel) rfl (tyX7_ok 7 (by decide)) (by decide) (by decide) (Nat.le_of_ble_eq_true rfl) rfl ?_
  exact vz_vret C () hr dX7_clear_13 rfl

set_option maxRecDepth 100000 in
set_option maxHeartbeats 400000 in
theorem c_X7_frames (l : Launch) (D : va_G) (cI cZ cJ : ClassId) (vh : Nat) (flt : Int32) (stale : Bool) (gh : Nat) (lh : Nat) (lr : Nat) (n : Nat) (ph : Nat) (m_h : Nat) (y_h : Nat) (sh : Nat)   : cnI l yX7_frames wsX7_frames { frames := 1, cells := 0, slots := 0, locals := 20 } D [(cI, .int)] [.ref vh] [(vh, .inr (7, [.ref gh, .ref lh, .ref ph, .ref m_h, .ref y_h, .ref sh, .int flt, .int (bI stale)])), (lh, .inr (1, [.ref lr, .int (nI n)]))] (nI n) (fun _ : Unit => [(vh, .inr (7, [.ref gh, .ref lh, .ref ph, .ref m_h, .ref y_h, .ref sh, .int flt, .int (bI stale)])), (lh, .inr (1, [.ref lr, .int (nI n)]))]) := by
  refine cnI.mk (cc := cX7_frames) (nL := 1) (ret := (some .int)) (by decide) rfl (Nat.le_of_ble_eq_true rfl) ?_
  intro p_ e_ s_ m_ g_ b_ mt_ cd_ A_ C hr
  refine vz_aload_n C 0 dX7_frames_0 rfl rfl ?_
  refine vz_get (C1 := RX7) (T1 := TX7) (N := 8) C in_X7_frames_X7 0 1 dX7_frames_1 rfl rfl (by decide) (by decide +kernel) rfl ?_
  refine vz_callVi (q0 := 0) (rest := []) (wr := [(vh, .inr (7, [.ref gh, .ref lh, .ref ph, .ref m_h, .ref y_h, .ref sh, .int flt, .int (bI stale)]))]) C (fun _ : Unit => [(lh, .inr (1, [.ref lr, .int (nI n)]))]) (fun _ : Unit => [(vh, .inr (7, [.ref gh, .ref lh, .ref ph, .ref m_h, .ref y_h, .ref sh, .int flt, .int (bI stale)])), (lh, .inr (1, [.ref lr, .int (nI n)]))]) (c_X1_size l D cI cZ cJ lh lr n) dX7_frames_4 gX7_frames_X1_size rfl kd_X1_size ⟨by decide, by decide⟩ ⟨by decide, by decide⟩ rfl rfl rfl rfl rfl (Nat.le_of_ble_eq_true rfl) [1] [0] [0, 1] rfl rfl rfl (fun _ => rfl) (fun _ => ?_)
  exact vz_iret C () hr dX7_frames_7 (by first | rfl | simp only [Bool.true_and, Bool.false_and, Bool.and_true, Bool.and_false, Bool.true_or, Bool.false_or, Bool.or_true, Bool.or_false, Bool.not_true, Bool.not_false, vz_bI1, vz_bI0, Bool.false_eq_true, if_true, if_false]) rfl

set_option maxRecDepth 100000 in
set_option maxHeartbeats 400000 in
theorem c_X7_frameAt (l : Launch) (D : va_G) (cI cZ cJ : ClassId) (vh : Nat) (flt : Int32) (stale : Bool) (gh : Nat) (lh : Nat) (lr : Nat) (la : Nat) (n : Nat) (c : Nat → Nat) (ph : Nat) (m_h : Nat) (y_h : Nat) (sh : Nat) (k : Nat) (hp0 : k < n) (hp1 : n ≤ 60)  : cnI l yX7_frameAt wsX7_frameAt { frames := 2, cells := 0, slots := 0, locals := 42 } D [(cI, .int)] [.ref vh, .int (nI k)] [(vh, .inr (7, [.ref gh, .ref lh, .ref ph, .ref m_h, .ref y_h, .ref sh, .int flt, .int (bI stale)])), (lh, .inr (1, [.ref lr, .int (nI n)])), (lr, .inr (4, [.ref la])), (la, .inl (cI, 60, .inl (nF c)))] (nI (c k)) (fun _ : Unit => [(vh, .inr (7, [.ref gh, .ref lh, .ref ph, .ref m_h, .ref y_h, .ref sh, .int flt, .int (bI stale)])), (lh, .inr (1, [.ref lr, .int (nI n)])), (lr, .inr (4, [.ref la])), (la, .inl (cI, 60, .inl (nF c)))]) := by
  refine cnI.mk (cc := cX7_frameAt) (nL := 2) (ret := (some .int)) (by decide) rfl (Nat.le_of_ble_eq_true rfl) ?_
  intro p_ e_ s_ m_ g_ b_ mt_ cd_ A_ C hr
  refine vz_aload_n C 0 dX7_frameAt_0 rfl rfl ?_
  refine vz_iload_n C 1 dX7_frameAt_1 rfl rfl ?_
  refine vz_callVv (q0 := 0) (rest := []) (wr := [(lr, .inr (4, [.ref la])), (la, .inl (cI, 60, .inl (nF c)))]) C (fun _ : Unit => [(vh, .inr (7, [.ref gh, .ref lh, .ref ph, .ref m_h, .ref y_h, .ref sh, .int flt, .int (bI stale)])), (lh, .inr (1, [.ref lr, .int (nI n)]))]) (fun _ : Unit => [(vh, .inr (7, [.ref gh, .ref lh, .ref ph, .ref m_h, .ref y_h, .ref sh, .int flt, .int (bI stale)])), (lh, .inr (1, [.ref lr, .int (nI n)])), (lr, .inr (4, [.ref la])), (la, .inl (cI, 60, .inl (nF c)))]) (c_X7_needFrame l D cI cZ cJ vh flt stale gh lh lr n ph m_h y_h sh k (by first | with_reducible assumption | with_reducible exact natF_lt _ _ | with_reducible exact refF_lt _ _ _ _ _ | omega | decide) (by first | with_reducible assumption | with_reducible exact natF_lt _ _ | with_reducible exact refF_lt _ _ _ _ _ | omega | decide)) dX7_frameAt_2 gX7_frameAt_X7_needFrame rfl kd_X7_needFrame ⟨by decide, by decide⟩ ⟨by decide, by decide⟩ rfl rfl rfl rfl rfl (Nat.le_of_ble_eq_true rfl) [0, 1] [2, 3] [2, 3, 0, 1] rfl rfl rfl (fun _ => rfl) (fun _ => ?_)
  refine vz_aload_n C 0 dX7_frameAt_5 rfl rfl ?_
  refine vz_get (C1 := RX7) (T1 := TX7) (N := 8) C in_X7_frameAt_X7 0 1 dX7_frameAt_6 rfl rfl (by decide) (by decide +kernel) rfl ?_
  refine vz_iload_n C 1 dX7_frameAt_9 rfl rfl ?_
  refine vz_callVi (q0 := 0) (rest := []) (wr := [(vh, .inr (7, [.ref gh, .ref lh, .ref ph, .ref m_h, .ref y_h, .ref sh, .int flt, .int (bI stale)]))]) C (fun _ : Unit => [(lh, .inr (1, [.ref lr, .int (nI n)])), (lr, .inr (4, [.ref la])), (la, .inl (cI, 60, .inl (nF c)))]) (fun _ : Unit => [(vh, .inr (7, [.ref gh, .ref lh, .ref ph, .ref m_h, .ref y_h, .ref sh, .int flt, .int (bI stale)])), (lh, .inr (1, [.ref lr, .int (nI n)])), (lr, .inr (4, [.ref la])), (la, .inl (cI, 60, .inl (nF c)))]) (c_X1_frame l D cI cZ cJ lh lr la n c k (by first | with_reducible assumption | with_reducible exact natF_lt _ _ | with_reducible exact refF_lt _ _ _ _ _ | omega | decide)) dX7_frameAt_10 gX7_frameAt_X1_frame rfl kd_X1_frame ⟨by decide, by decide⟩ ⟨by decide, by decide⟩ rfl rfl rfl rfl rfl (Nat.le_of_ble_eq_true rfl) [1, 2, 3] [0] [0, 1, 2, 3] rfl rfl rfl (fun _ => rfl) (fun _ => ?_)
  exact vz_iret C () hr dX7_frameAt_13 (by first | rfl | simp only [Bool.true_and, Bool.false_and, Bool.and_true, Bool.and_false, Bool.true_or, Bool.false_or, Bool.or_true, Bool.or_false, Bool.not_true, Bool.not_false, vz_bI1, vz_bI0, Bool.false_eq_true, if_true, if_false]) rfl

set_option maxRecDepth 100000 in
set_option maxHeartbeats 400000 in
theorem c_X7_pairs (l : Launch) (D : va_G) (cI cZ cJ : ClassId) (vh : Nat) (flt : Int32) (stale : Bool) (gh : Nat) (np : Nat) (ac : Int32) (me : Int32) (na : Int32) (lh : Nat) (ph : Nat) (pr : Nat) (m_h : Nat) (y_h : Nat) (sh : Nat)   : cnI l yX7_pairs wsX7_pairs { frames := 1, cells := 0, slots := 0, locals := 21 } D [(cI, .int)] [.ref vh] [(vh, .inr (7, [.ref gh, .ref lh, .ref ph, .ref m_h, .ref y_h, .ref sh, .int flt, .int (bI stale)])), (gh, .inr (2, [.int (nI np), .int ac, .int me, .int na])), (ph, .inr (3, [.ref pr]))] (nI (np * 12 + 35 + 12)) (fun _ : Unit => [(vh, .inr (7, [.ref gh, .ref lh, .ref ph, .ref m_h, .ref y_h, .ref sh, .int flt, .int (bI stale)])), (gh, .inr (2, [.int (nI np), .int ac, .int me, .int na])), (ph, .inr (3, [.ref pr]))]) := by
  refine cnI.mk (cc := cX7_pairs) (nL := 1) (ret := (some .int)) (by decide) rfl (Nat.le_of_ble_eq_true rfl) ?_
  intro p_ e_ s_ m_ g_ b_ mt_ cd_ A_ C hr
  refine vz_aload_n C 0 dX7_pairs_0 rfl rfl ?_
  refine vz_get (C1 := RX7) (T1 := TX7) (N := 8) C in_X7_pairs_X7 0 2 dX7_pairs_1 rfl rfl (by decide) (by decide +kernel) rfl ?_
  refine vz_aload_n C 0 dX7_pairs_4 rfl rfl ?_
  refine vz_get (C1 := RX7) (T1 := TX7) (N := 8) C in_X7_pairs_X7 0 0 dX7_pairs_5 rfl rfl (by decide) (by decide +kernel) rfl ?_
  refine vz_callVi (q0 := 0) (rest := [.ref ph]) (wr := [(vh, .inr (7, [.ref gh, .ref lh, .ref ph, .ref m_h, .ref y_h, .ref sh, .int flt, .int (bI stale)])), (ph, .inr (3, [.ref pr]))]) C (fun _ : Unit => [(gh, .inr (2, [.int (nI np), .int ac, .int me, .int na]))]) (fun _ : Unit => [(vh, .inr (7, [.ref gh, .ref lh, .ref ph, .ref m_h, .ref y_h, .ref sh, .int flt, .int (bI stale)])), (gh, .inr (2, [.int (nI np), .int ac, .int me, .int na])), (ph, .inr (3, [.ref pr]))]) (c_X2_portCount l D cI cZ cJ gh np ac me na) dX7_pairs_8 gX7_pairs_X2_portCount rfl kd_X2_portCount ⟨by decide, by decide⟩ ⟨by decide, by decide⟩ rfl rfl rfl rfl rfl (Nat.le_of_ble_eq_true rfl) [1] [0, 2] [0, 2, 1] rfl rfl rfl (fun _ => rfl) (fun _ => ?_)
  refine vz_callVi (q0 := 0) (rest := []) (wr := [(vh, .inr (7, [.ref gh, .ref lh, .ref ph, .ref m_h, .ref y_h, .ref sh, .int flt, .int (bI stale)])), (gh, .inr (2, [.int (nI np), .int ac, .int me, .int na]))]) C (fun _ : Unit => [(ph, .inr (3, [.ref pr]))]) (fun _ : Unit => [(vh, .inr (7, [.ref gh, .ref lh, .ref ph, .ref m_h, .ref y_h, .ref sh, .int flt, .int (bI stale)])), (gh, .inr (2, [.int (nI np), .int ac, .int me, .int na])), (ph, .inr (3, [.ref pr]))]) (c_X3_countAll l D cI cZ cJ ph pr np) dX7_pairs_11 gX7_pairs_X3_countAll rfl kd_X3_countAll ⟨by decide, by decide⟩ ⟨by decide, by decide⟩ rfl rfl rfl rfl rfl (Nat.le_of_ble_eq_true rfl) [2] [0, 1] [0, 1, 2] rfl rfl rfl (fun _ => rfl) (fun _ => ?_)
  exact vz_iret C () hr dX7_pairs_14 (by first | rfl | simp only [Bool.true_and, Bool.false_and, Bool.and_true, Bool.and_false, Bool.true_or, Bool.false_or, Bool.or_true, Bool.or_false, Bool.not_true, Bool.not_false, vz_bI1, vz_bI0, Bool.false_eq_true, if_true, if_false]) rfl

set_option maxRecDepth 100000 in
set_option maxHeartbeats 400000 in
theorem c_X7_pairsMet (l : Launch) (D : va_G) (cI cZ cJ : ClassId) (vh : Nat) (flt : Int32) (stale : Bool) (gh : Nat) (lh : Nat) (lr : Nat) (la : Nat) (n : Nat) (c : Nat → Nat) (ph : Nat) (pr : Nat) (pa : Nat) (f : Nat → Int32) (m_h : Nat) (y_h : Nat) (sh : Nat) (hp0 : n ≤ 60) (hp1 : ∀ k, k < n → okF (c k))  : cnI l yX7_pairsMet wsX7_pairsMet { frames := 4, cells := 0, slots := 0, locals := 85 } D [(cI, .int)] [.ref vh] [(vh, .inr (7, [.ref gh, .ref lh, .ref ph, .ref m_h, .ref y_h, .ref sh, .int flt, .int (bI stale)])), (lh, .inr (1, [.ref lr, .int (nI n)])), (lr, .inr (4, [.ref la])), (la, .inl (cI, 60, .inl (nF c))), (ph, .inr (3, [.ref pr])), (pr, .inr (4, [.ref pa])), (pa, .inl (cI, 18, .inl f))] (sumI (fun v => bcF (mallF c n v)) 18) (fun _ : Unit => [(vh, .inr (7, [.ref gh, .ref lh, .ref ph, .ref m_h, .ref y_h, .ref sh, .int flt, .int (bI stale)])), (lh, .inr (1, [.ref lr, .int (nI n)])), (lr, .inr (4, [.ref la])), (la, .inl (cI, 60, .inl (nF c))), (ph, .inr (3, [.ref pr])), (pr, .inr (4, [.ref pa])), (pa, .inl (cI, 18, .inl (mallF c n)))]) := by
  refine cnI.mk (cc := cX7_pairsMet) (nL := 1) (ret := (some .int)) (by decide) rfl (Nat.le_of_ble_eq_true rfl) ?_
  intro p_ e_ s_ m_ g_ b_ mt_ cd_ A_ C hr
  refine vz_aload_n C 0 dX7_pairsMet_0 rfl rfl ?_
  refine vz_get (C1 := RX7) (T1 := TX7) (N := 8) C in_X7_pairsMet_X7 0 2 dX7_pairsMet_1 rfl rfl (by decide) (by decide +kernel) rfl ?_
  refine vz_aload_n C 0 dX7_pairsMet_4 rfl rfl ?_
  refine vz_get (C1 := RX7) (T1 := TX7) (N := 8) C in_X7_pairsMet_X7 0 1 dX7_pairsMet_5 rfl rfl (by decide) (by decide +kernel) rfl ?_
  refine vz_callVv (q0 := 0) (rest := []) (wr := [(vh, .inr (7, [.ref gh, .ref lh, .ref ph, .ref m_h, .ref y_h, .ref sh, .int flt, .int (bI stale)]))]) C (fun _ : Unit => [(ph, .inr (3, [.ref pr])), (pr, .inr (4, [.ref pa])), (pa, .inl (cI, 18, .inl (mallF c n))), (lh, .inr (1, [.ref lr, .int (nI n)])), (lr, .inr (4, [.ref la])), (la, .inl (cI, 60, .inl (nF c)))]) (fun _ : Unit => [(vh, .inr (7, [.ref gh, .ref lh, .ref ph, .ref m_h, .ref y_h, .ref sh, .int flt, .int (bI stale)])), (lh, .inr (1, [.ref lr, .int (nI n)])), (lr, .inr (4, [.ref la])), (la, .inl (cI, 60, .inl (nF c))), (ph, .inr (3, [.ref pr])), (pr, .inr (4, [.ref pa])), (pa, .inl (cI, 18, .inl (mallF c n)))]) (c_X3_meetAll l D cI cZ cJ ph pr pa f lh lr la n c (by first | with_reducible assumption | with_reducible exact natF_lt _ _ | with_reducible exact refF_lt _ _ _ _ _ | omega | decide) (by first | with_reducible assumption | with_reducible exact natF_lt _ _ | with_reducible exact refF_lt _ _ _ _ _ | omega | decide)) dX7_pairsMet_8 gX7_pairsMet_X3_meetAll rfl kd_X3_meetAll ⟨by decide, by decide⟩ ⟨by decide, by decide⟩ rfl rfl rfl rfl rfl (Nat.le_of_ble_eq_true rfl) [4, 5, 6, 1, 2, 3] [0] [0, 4, 5, 6, 1, 2, 3] rfl rfl rfl (fun _ => rfl) (fun _ => ?_)
  refine vz_aload_n C 0 dX7_pairsMet_11 rfl rfl ?_
  refine vz_get (C1 := RX7) (T1 := TX7) (N := 8) C in_X7_pairsMet_X7 0 2 dX7_pairsMet_12 rfl rfl (by decide) (by decide +kernel) rfl ?_
  refine vz_callVi (q0 := 0) (rest := []) (wr := [(vh, .inr (7, [.ref gh, .ref lh, .ref ph, .ref m_h, .ref y_h, .ref sh, .int flt, .int (bI stale)])), (lh, .inr (1, [.ref lr, .int (nI n)])), (lr, .inr (4, [.ref la])), (la, .inl (cI, 60, .inl (nF c)))]) C (fun _ : Unit => [(ph, .inr (3, [.ref pr])), (pr, .inr (4, [.ref pa])), (pa, .inl (cI, 18, .inl (mallF c n)))]) (fun _ : Unit => [(vh, .inr (7, [.ref gh, .ref lh, .ref ph, .ref m_h, .ref y_h, .ref sh, .int flt, .int (bI stale)])), (lh, .inr (1, [.ref lr, .int (nI n)])), (lr, .inr (4, [.ref la])), (la, .inl (cI, 60, .inl (nF c))), (ph, .inr (3, [.ref pr])), (pr, .inr (4, [.ref pa])), (pa, .inl (cI, 18, .inl (mallF c n)))]) (c_X3_countMet l D cI cZ cJ ph pr pa (mallF c n)) dX7_pairsMet_15 gX7_pairsMet_X3_countMet rfl kd_X3_countMet ⟨by decide, by decide⟩ ⟨by decide, by decide⟩ rfl rfl rfl rfl rfl (Nat.le_of_ble_eq_true rfl) [4, 5, 6] [0, 1, 2, 3] [0, 1, 2, 3, 4, 5, 6] rfl rfl rfl (fun _ => rfl) (fun _ => ?_)
  exact vz_iret C () hr dX7_pairsMet_18 (by first | rfl | simp only [Bool.true_and, Bool.false_and, Bool.and_true, Bool.and_false, Bool.true_or, Bool.false_or, Bool.or_true, Bool.or_false, Bool.not_true, Bool.not_false, vz_bI1, vz_bI0, Bool.false_eq_true, if_true, if_false]) rfl
