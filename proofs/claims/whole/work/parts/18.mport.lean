theorem in_X8_isFrame_X8 : ∀ w ∈ u_ws RX8 TX8 22, w ∈ wsX8_isFrame := by decide +kernel
theorem in_X8_isPort_X8 : ∀ w ∈ u_ws RX8 TX8 22, w ∈ wsX8_isPort := by decide +kernel
theorem in_X8_may_X8 : ∀ w ∈ u_ws RX8 TX8 22, w ∈ wsX8_may := by decide +kernel
theorem in_X8_mayAll_X8 : ∀ w ∈ u_ws RX8 TX8 22, w ∈ wsX8_mayAll := by decide +kernel
theorem in_X8_mayBoth_X8 : ∀ w ∈ u_ws RX8 TX8 22, w ∈ wsX8_mayBoth := by decide +kernel
theorem in_X8_ports_X8 : ∀ w ∈ u_ws RX8 TX8 22, w ∈ wsX8_ports := by decide +kernel
theorem in_X8_reset_X8 : ∀ w ∈ u_ws RX8 TX8 22, w ∈ wsX8_reset := by decide +kernel
theorem in_X8_setAccess_X8 : ∀ w ∈ u_ws RX8 TX8 22, w ∈ wsX8_setAccess := by decide +kernel
theorem in_X8_thrown_X8 : ∀ w ∈ u_ws RX8 TX8 22, w ∈ wsX8_thrown := by decide +kernel
set_option maxRecDepth 100000 in
set_option maxHeartbeats 400000 in
theorem c_X8_thrown (l : Launch) (D : va_G) (cI cZ cJ : ClassId) (mh : Nat) (np : Nat) (n : Nat) (fd : Nat) (th : Nat) (fs : Int32) (sc : Int32) (a_n : Nat) (a_t : Nat) (a_p : Nat) (a_f : Nat) (b_p : Nat) (b_t : Nat) (b_s : Nat) (b_d : Nat) (b_l : Nat) (b_b : Nat) (b_o : Nat) (b_g : Nat) (b_w : Nat) (b_x : Nat) (b_y : Nat) (b_m : Nat)   : cnI l yX8_thrown wsX8_thrown { frames := 0, cells := 0, slots := 0, locals := 0 } D [(cI, .int), (cZ, .boolean), (cJ, .long)] [.ref mh] [(mh, .inr (8, [.int (nI np), .ref a_n, .ref a_t, .ref a_p, .ref a_f, .int (nI n), .ref b_p, .ref b_t, .ref b_s, .ref b_d, .ref b_l, .ref b_b, .ref b_o, .ref b_g, .ref b_w, .ref b_x, .ref b_y, .int fs, .int sc, .int (nI fd), .ref b_m, .int (nI th)]))] (nI th) (fun _ : Unit => [(mh, .inr (8, [.int (nI np), .ref a_n, .ref a_t, .ref a_p, .ref a_f, .int (nI n), .ref b_p, .ref b_t, .ref b_s, .ref b_d, .ref b_l, .ref b_b, .ref b_o, .ref b_g, .ref b_w, .ref b_x, .ref b_y, .int fs, .int sc, .int (nI fd), .ref b_m, .int (nI th)]))]) := by
  refine cnI.mk (cc := cX8_thrown) (nL := 1) (ret := (some .int)) (by decide) rfl (Nat.le_of_ble_eq_true rfl) ?_
  intro p_ e_ s_ m_ g_ b_ mt_ cd_ A_ C hr
  refine vz_aload_n C 0 dX8_thrown_0 rfl rfl ?_
  refine vz_get (C1 := RX8) (T1 := TX8) (N := 22) C in_X8_thrown_X8 0 21 dX8_thrown_1 rfl rfl (by decide) (by decide +kernel) rfl ?_
  exact vz_iret C () hr dX8_thrown_4 (by first | rfl | simp only [Bool.true_and, Bool.false_and, Bool.and_true, Bool.and_false, Bool.true_or, Bool.false_or, Bool.or_true, Bool.or_false, Bool.not_true, Bool.not_false, vz_bI1, vz_bI0, Bool.false_eq_true, if_true, if_false]) rfl

set_option maxRecDepth 100000 in
set_option maxHeartbeats 400000 in
theorem c_X8_may_t (l : Launch) (D : va_G) (cI cZ cJ : ClassId) (mh : Nat) (np : Nat) (n : Nat) (fd : Nat) (th : Nat) (fs : Int32) (sc : Int32) (a_n : Nat) (a_t : Nat) (a_p : Nat) (a_f : Nat) (b_p : Nat) (b_t : Nat) (b_s : Nat) (b_d : Nat) (b_l : Nat) (b_b : Nat) (b_o : Nat) (b_g : Nat) (b_w : Nat) (b_x : Nat) (b_y : Nat) (b_m : Nat)   : cnI l yX8_may wsX8_may { frames := 0, cells := 0, slots := 0, locals := 0 } D [(cI, .int), (cZ, .boolean), (cJ, .long)] [.ref mh, .int (bI true)] [(mh, .inr (8, [.int (nI np), .ref a_n, .ref a_t, .ref a_p, .ref a_f, .int (nI n), .ref b_p, .ref b_t, .ref b_s, .ref b_d, .ref b_l, .ref b_b, .ref b_o, .ref b_g, .ref b_w, .ref b_x, .ref b_y, .int fs, .int sc, .int (nI fd), .ref b_m, .int (nI th)]))] (bI true) (fun _ : Unit => [(mh, .inr (8, [.int (nI np), .ref a_n, .ref a_t, .ref a_p, .ref a_f, .int (nI n), .ref b_p, .ref b_t, .ref b_s, .ref b_d, .ref b_l, .ref b_b, .ref b_o, .ref b_g, .ref b_w, .ref b_x, .ref b_y, .int fs, .int sc, .int (nI fd), .ref b_m, .int (nI 0)]))]) := by
  refine cnI.mk (cc := cX8_may) (nL := 2) (ret := (some .boolean)) (by decide) rfl (Nat.le_of_ble_eq_true rfl) ?_
  intro p_ e_ s_ m_ g_ b_ mt_ cd_ A_ C hr
  refine vz_aload_n C 0 dX8_may_0 rfl rfl ?_
  refine vz_iload_n C 1 dX8_may_1 rfl rfl ?_
  refine vz_if_eq_f (tgt := 9) C dX8_may_2 (by decide) (by decide) ?_
  refine vz_iconst (v := (nI 0)) C dX8_may_5 (by decide) ?_
  refine vz_goto (tgt := 10) C dX8_may_6 (by decide) ?_
  refine vz_put (C1 := RX8) (T1 := TX8) (N := 22) C [(mh, .inr (8, [.int (nI np), .ref a_n, .ref a_t, .ref a_p, .ref a_f, .int (nI n), .ref b_p, .ref b_t, .ref b_s, .ref b_d, .ref b_l, .ref b_b, .ref b_o, .ref b_g, .ref b_w, .ref b_x, .ref b_y, .int fs, .int sc, .int (nI fd), .ref b_m, .int (nI 0)]))] in_X8_may_X8 tyX8 tyX8_ok nmX8 0 21 dX8_may_10 rfl rfl (by decide) (by decide +kernel) rfl (tyX8_ok 21 (by decide)) rfl rfl (Nat.le_of_ble_eq_true rfl) rfl ?_
  refine vz_iload_n C 1 dX8_may_13 rfl rfl ?_
  exact vz_zret C () hr dX8_may_14 (vz_zn _) (by first | rfl | simp only [Bool.true_and, Bool.false_and, Bool.and_true, Bool.and_false, Bool.true_or, Bool.false_or, Bool.or_true, Bool.or_false, Bool.not_true, Bool.not_false, vz_bI1, vz_bI0, Bool.false_eq_true, if_true, if_false]) rfl

set_option maxRecDepth 100000 in
set_option maxHeartbeats 400000 in
theorem c_X8_may_f (l : Launch) (D : va_G) (cI cZ cJ : ClassId) (mh : Nat) (np : Nat) (n : Nat) (fd : Nat) (th : Nat) (fs : Int32) (sc : Int32) (a_n : Nat) (a_t : Nat) (a_p : Nat) (a_f : Nat) (b_p : Nat) (b_t : Nat) (b_s : Nat) (b_d : Nat) (b_l : Nat) (b_b : Nat) (b_o : Nat) (b_g : Nat) (b_w : Nat) (b_x : Nat) (b_y : Nat) (b_m : Nat)   : cnI l yX8_may wsX8_may { frames := 0, cells := 0, slots := 0, locals := 0 } D [(cI, .int), (cZ, .boolean), (cJ, .long)] [.ref mh, .int (bI false)] [(mh, .inr (8, [.int (nI np), .ref a_n, .ref a_t, .ref a_p, .ref a_f, .int (nI n), .ref b_p, .ref b_t, .ref b_s, .ref b_d, .ref b_l, .ref b_b, .ref b_o, .ref b_g, .ref b_w, .ref b_x, .ref b_y, .int fs, .int sc, .int (nI fd), .ref b_m, .int (nI th)]))] (bI false) (fun _ : Unit => [(mh, .inr (8, [.int (nI np), .ref a_n, .ref a_t, .ref a_p, .ref a_f, .int (nI n), .ref b_p, .ref b_t, .ref b_s, .ref b_d, .ref b_l, .ref b_b, .ref b_o, .ref b_g, .ref b_w, .ref b_x, .ref b_y, .int fs, .int sc, .int (nI fd), .ref b_m, .int (nI 1)]))]) := by
  refine cnI.mk (cc := cX8_may) (nL := 2) (ret := (some .boolean)) (by decide) rfl (Nat.le_of_ble_eq_true rfl) ?_
  intro p_ e_ s_ m_ g_ b_ mt_ cd_ A_ C hr
  refine vz_aload_n C 0 dX8_may_0 rfl rfl ?_
  refine vz_iload_n C 1 dX8_may_1 rfl rfl ?_
  refine vz_if_eq_t (tgt := 9) C dX8_may_2 (by decide) (by decide) ?_
  refine vz_iconst (v := (nI 1)) C dX8_may_9 (by decide) ?_
  refine vz_put (C1 := RX8) (T1 := TX8) (N := 22) C [(mh, .inr (8, [.int (nI np), .ref a_n, .ref a_t, .ref a_p, .ref a_f, .int (nI n), .ref b_p, .ref b_t, .ref b_s, .ref b_d, .ref b_l, .ref b_b, .ref b_o, .ref b_g, .ref b_w, .ref b_x, .ref b_y, .int fs, .int sc, .int (nI fd), .ref b_m, .int (nI 1)]))] in_X8_may_X8 tyX8 tyX8_ok nmX8 0 21 dX8_may_10 rfl rfl (by decide) (by decide +kernel) rfl (tyX8_ok 21 (by decide)) rfl rfl (Nat.le_of_ble_eq_true rfl) rfl ?_
  refine vz_iload_n C 1 dX8_may_13 rfl rfl ?_
  exact vz_zret C () hr dX8_may_14 (vz_zn _) (by first | rfl | simp only [Bool.true_and, Bool.false_and, Bool.and_true, Bool.and_false, Bool.true_or, Bool.false_or, Bool.or_true, Bool.or_false, Bool.not_true, Bool.not_false, vz_bI1, vz_bI0, Bool.false_eq_true, if_true, if_false]) rfl

set_option maxRecDepth 100000 in
set_option maxHeartbeats 400000 in
theorem c_X8_mayBoth_t (l : Launch) (D : va_G) (cI cZ cJ : ClassId) (mh : Nat) (np : Nat) (n : Nat) (fd : Nat) (th : Nat) (fs : Int32) (sc : Int32) (a_n : Nat) (a_t : Nat) (a_p : Nat) (a_f : Nat) (b_p : Nat) (b_t : Nat) (b_s : Nat) (b_d : Nat) (b_l : Nat) (b_b : Nat) (b_o : Nat) (b_g : Nat) (b_w : Nat) (b_x : Nat) (b_y : Nat) (b_m : Nat)   : cnI l yX8_mayBoth wsX8_mayBoth { frames := 0, cells := 0, slots := 0, locals := 0 } D [(cI, .int), (cZ, .boolean), (cJ, .long)] [.ref mh, .int (bI true), .int (bI true)] [(mh, .inr (8, [.int (nI np), .ref a_n, .ref a_t, .ref a_p, .ref a_f, .int (nI n), .ref b_p, .ref b_t, .ref b_s, .ref b_d, .ref b_l, .ref b_b, .ref b_o, .ref b_g, .ref b_w, .ref b_x, .ref b_y, .int fs, .int sc, .int (nI fd), .ref b_m, .int (nI th)]))] (bI true) (fun _ : Unit => [(mh, .inr (8, [.int (nI np), .ref a_n, .ref a_t, .ref a_p, .ref a_f, .int (nI n), .ref b_p, .ref b_t, .ref b_s, .ref b_d, .ref b_l, .ref b_b, .ref b_o, .ref b_g, .ref b_w, .ref b_x, .ref b_y, .int fs, .int sc, .int (nI fd), .ref b_m, .int (nI 0)]))]) := by
  refine cnI.mk (cc := cX8_mayBoth) (nL := 3) (ret := (some .boolean)) (by decide) rfl (Nat.le_of_ble_eq_true rfl) ?_
  intro p_ e_ s_ m_ g_ b_ mt_ cd_ A_ C hr
  refine vz_aload_n C 0 dX8_mayBoth_0 rfl rfl ?_
  refine vz_iload_n C 1 dX8_mayBoth_1 rfl rfl ?_
  refine vz_if_ne_t (tgt := 9) C dX8_mayBoth_2 (by decide) (by decide) ?_
  refine vz_iload_n C 2 dX8_mayBoth_9 rfl rfl ?_
  refine vz_if_ne_t (tgt := 17) C dX8_mayBoth_10 (by decide) (by decide) ?_
  refine vz_iconst (v := (nI 0)) C dX8_mayBoth_17 (by decide) ?_
  refine vz_put (C1 := RX8) (T1 := TX8) (N := 22) C [(mh, .inr (8, [.int (nI np), .ref a_n, .ref a_t, .ref a_p, .ref a_f, .int (nI n), .ref b_p, .ref b_t, .ref b_s, .ref b_d, .ref b_l, .ref b_b, .ref b_o, .ref b_g, .ref b_w, .ref b_x, .ref b_y, .int fs, .int sc, .int (nI fd), .ref b_m, .int (nI 0)]))] in_X8_mayBoth_X8 tyX8 tyX8_ok nmX8 0 21 dX8_mayBoth_18 rfl rfl (by decide) (by decide +kernel) rfl (tyX8_ok 21 (by decide)) rfl rfl (Nat.le_of_ble_eq_true rfl) rfl ?_
  refine vz_aload_n C 0 dX8_mayBoth_21 rfl rfl ?_
  refine vz_get (C1 := RX8) (T1 := TX8) (N := 22) C in_X8_mayBoth_X8 0 21 dX8_mayBoth_22 rfl rfl (by decide) (by decide +kernel) rfl ?_
  refine vz_if_ne_f (tgt := 32) C dX8_mayBoth_25 (by decide) (by decide) ?_
  refine vz_iconst (v := (nI 1)) C dX8_mayBoth_28 (by decide) ?_
  refine vz_goto (tgt := 33) C dX8_mayBoth_29 (by decide) ?_
  exact vz_zret C () hr dX8_mayBoth_33 (by decide) (by rfl) rfl

set_option maxRecDepth 100000 in
set_option maxHeartbeats 400000 in
theorem c_X8_mayBoth_1 (l : Launch) (D : va_G) (cI cZ cJ : ClassId) (mh : Nat) (np : Nat) (n : Nat) (fd : Nat) (th : Nat) (fs : Int32) (sc : Int32) (a_n : Nat) (a_t : Nat) (a_p : Nat) (a_f : Nat) (b_p : Nat) (b_t : Nat) (b_s : Nat) (b_d : Nat) (b_l : Nat) (b_b : Nat) (b_o : Nat) (b_g : Nat) (b_w : Nat) (b_x : Nat) (b_y : Nat) (b_m : Nat) (b2 : Bool)   : cnI l yX8_mayBoth wsX8_mayBoth { frames := 0, cells := 0, slots := 0, locals := 0 } D [(cI, .int), (cZ, .boolean), (cJ, .long)] [.ref mh, .int (bI false), .int (bI b2)] [(mh, .inr (8, [.int (nI np), .ref a_n, .ref a_t, .ref a_p, .ref a_f, .int (nI n), .ref b_p, .ref b_t, .ref b_s, .ref b_d, .ref b_l, .ref b_b, .ref b_o, .ref b_g, .ref b_w, .ref b_x, .ref b_y, .int fs, .int sc, .int (nI fd), .ref b_m, .int (nI th)]))] (bI false) (fun _ : Unit => [(mh, .inr (8, [.int (nI np), .ref a_n, .ref a_t, .ref a_p, .ref a_f, .int (nI n), .ref b_p, .ref b_t, .ref b_s, .ref b_d, .ref b_l, .ref b_b, .ref b_o, .ref b_g, .ref b_w, .ref b_x, .ref b_y, .int fs, .int sc, .int (nI fd), .ref b_m, .int (nI 1)]))]) := by
  refine cnI.mk (cc := cX8_mayBoth) (nL := 3) (ret := (some .boolean)) (by decide) rfl (Nat.le_of_ble_eq_true rfl) ?_
  intro p_ e_ s_ m_ g_ b_ mt_ cd_ A_ C hr
  refine vz_aload_n C 0 dX8_mayBoth_0 rfl rfl ?_
  refine vz_iload_n C 1 dX8_mayBoth_1 rfl rfl ?_
  refine vz_if_ne_f (tgt := 9) C dX8_mayBoth_2 (by decide) (by decide) ?_
  refine vz_iconst (v := (nI 1)) C dX8_mayBoth_5 (by decide) ?_
  refine vz_goto (tgt := 18) C dX8_mayBoth_6 (by decide) ?_
  refine vz_put (C1 := RX8) (T1 := TX8) (N := 22) C [(mh, .inr (8, [.int (nI np), .ref a_n, .ref a_t, .ref a_p, .ref a_f, .int (nI n), .ref b_p, .ref b_t, .ref b_s, .ref b_d, .ref b_l, .ref b_b, .ref b_o, .ref b_g, .ref b_w, .ref b_x, .ref b_y, .int fs, .int sc, .int (nI fd), .ref b_m, .int (nI 1)]))] in_X8_mayBoth_X8 tyX8 tyX8_ok nmX8 0 21 dX8_mayBoth_18 rfl rfl (by decide) (by decide +kernel) rfl (tyX8_ok 21 (by decide)) rfl rfl (Nat.le_of_ble_eq_true rfl) rfl ?_
  refine vz_aload_n C 0 dX8_mayBoth_21 rfl rfl ?_
  refine vz_get (C1 := RX8) (T1 := TX8) (N := 22) C in_X8_mayBoth_X8 0 21 dX8_mayBoth_22 rfl rfl (by decide) (by decide +kernel) rfl ?_
  refine vz_if_ne_t (tgt := 32) C dX8_mayBoth_25 (by decide) (by decide) ?_
  refine vz_iconst (v := (nI 0)) C dX8_mayBoth_32 (by decide) ?_
  exact vz_zret C () hr dX8_mayBoth_33 (by decide) (by rfl) rfl

set_option maxRecDepth 100000 in
set_option maxHeartbeats 400000 in
theorem c_X8_mayBoth_2 (l : Launch) (D : va_G) (cI cZ cJ : ClassId) (mh : Nat) (np : Nat) (n : Nat) (fd : Nat) (th : Nat) (fs : Int32) (sc : Int32) (a_n : Nat) (a_t : Nat) (a_p : Nat) (a_f : Nat) (b_p : Nat) (b_t : Nat) (b_s : Nat) (b_d : Nat) (b_l : Nat) (b_b : Nat) (b_o : Nat) (b_g : Nat) (b_w : Nat) (b_x : Nat) (b_y : Nat) (b_m : Nat)   : cnI l yX8_mayBoth wsX8_mayBoth { frames := 0, cells := 0, slots := 0, locals := 0 } D [(cI, .int), (cZ, .boolean), (cJ, .long)] [.ref mh, .int (bI true), .int (bI false)] [(mh, .inr (8, [.int (nI np), .ref a_n, .ref a_t, .ref a_p, .ref a_f, .int (nI n), .ref b_p, .ref b_t, .ref b_s, .ref b_d, .ref b_l, .ref b_b, .ref b_o, .ref b_g, .ref b_w, .ref b_x, .ref b_y, .int fs, .int sc, .int (nI fd), .ref b_m, .int (nI th)]))] (bI false) (fun _ : Unit => [(mh, .inr (8, [.int (nI np), .ref a_n, .ref a_t, .ref a_p, .ref a_f, .int (nI n), .ref b_p, .ref b_t, .ref b_s, .ref b_d, .ref b_l, .ref b_b, .ref b_o, .ref b_g, .ref b_w, .ref b_x, .ref b_y, .int fs, .int sc, .int (nI fd), .ref b_m, .int (nI 2)]))]) := by
  refine cnI.mk (cc := cX8_mayBoth) (nL := 3) (ret := (some .boolean)) (by decide) rfl (Nat.le_of_ble_eq_true rfl) ?_
  intro p_ e_ s_ m_ g_ b_ mt_ cd_ A_ C hr
  refine vz_aload_n C 0 dX8_mayBoth_0 rfl rfl ?_
  refine vz_iload_n C 1 dX8_mayBoth_1 rfl rfl ?_
  refine vz_if_ne_t (tgt := 9) C dX8_mayBoth_2 (by decide) (by decide) ?_
  refine vz_iload_n C 2 dX8_mayBoth_9 rfl rfl ?_
  refine vz_if_ne_f (tgt := 17) C dX8_mayBoth_10 (by decide) (by decide) ?_
  refine vz_iconst (v := (nI 2)) C dX8_mayBoth_13 (by decide) ?_
  refine vz_goto (tgt := 18) C dX8_mayBoth_14 (by decide) ?_
  refine vz_put (C1 := RX8) (T1 := TX8) (N := 22) C [(mh, .inr (8, [.int (nI np), .ref a_n, .ref a_t, .ref a_p, .ref a_f, .int (nI n), .ref b_p, .ref b_t, .ref b_s, .ref b_d, .ref b_l, .ref b_b, .ref b_o, .ref b_g, .ref b_w, .ref b_x, .ref b_y, .int fs, .int sc, .int (nI fd), .ref b_m, .int (nI 2)]))] in_X8_mayBoth_X8 tyX8 tyX8_ok nmX8 0 21 dX8_mayBoth_18 rfl rfl (by decide) (by decide +kernel) rfl (tyX8_ok 21 (by decide)) rfl rfl (Nat.le_of_ble_eq_true rfl) rfl ?_
  refine vz_aload_n C 0 dX8_mayBoth_21 rfl rfl ?_
  refine vz_get (C1 := RX8) (T1 := TX8) (N := 22) C in_X8_mayBoth_X8 0 21 dX8_mayBoth_22 rfl rfl (by decide) (by decide +kernel) rfl ?_
  refine vz_if_ne_t (tgt := 32) C dX8_mayBoth_25 (by decide) (by decide) ?_
  refine vz_iconst (v := (nI 0)) C dX8_mayBoth_32 (by decide) ?_
  exact vz_zret C () hr dX8_mayBoth_33 (by decide) (by rfl) rfl

set_option maxRecDepth 100000 in
set_option maxHeartbeats 400000 in
theorem c_X8_mayAll_t (l : Launch) (D : va_G) (cI cZ cJ : ClassId) (mh : Nat) (np : Nat) (n : Nat) (fd : Nat) (th : Nat) (fs : Int32) (sc : Int32) (a_n : Nat) (a_t : Nat) (a_p : Nat) (a_f : Nat) (b_p : Nat) (b_t : Nat) (b_s : Nat) (b_d : Nat) (b_l : Nat) (b_b : Nat) (b_o : Nat) (b_g : Nat) (b_w : Nat) (b_x : Nat) (b_y : Nat) (b_m : Nat)   : cnI l yX8_mayAll wsX8_mayAll { frames := 0, cells := 0, slots := 0, locals := 0 } D [(cI, .int), (cZ, .boolean), (cJ, .long)] [.ref mh, .int (bI true), .int (bI true), .int (bI true)] [(mh, .inr (8, [.int (nI np), .ref a_n, .ref a_t, .ref a_p, .ref a_f, .int (nI n), .ref b_p, .ref b_t, .ref b_s, .ref b_d, .ref b_l, .ref b_b, .ref b_o, .ref b_g, .ref b_w, .ref b_x, .ref b_y, .int fs, .int sc, .int (nI fd), .ref b_m, .int (nI th)]))] (bI true) (fun _ : Unit => [(mh, .inr (8, [.int (nI np), .ref a_n, .ref a_t, .ref a_p, .ref a_f, .int (nI n), .ref b_p, .ref b_t, .ref b_s, .ref b_d, .ref b_l, .ref b_b, .ref b_o, .ref b_g, .ref b_w, .ref b_x, .ref b_y, .int fs, .int sc, .int (nI fd), .ref b_m, .int (nI 0)]))]) := by
  refine cnI.mk (cc := cX8_mayAll) (nL := 4) (ret := (some .boolean)) (by decide) rfl (Nat.le_of_ble_eq_true rfl) ?_
  intro p_ e_ s_ m_ g_ b_ mt_ cd_ A_ C hr
  refine vz_aload_n C 0 dX8_mayAll_0 rfl rfl ?_
  refine vz_iload_n C 1 dX8_mayAll_1 rfl rfl ?_
  refine vz_if_ne_t (tgt := 9) C dX8_mayAll_2 (by decide) (by decide) ?_
  refine vz_iload_n C 2 dX8_mayAll_9 rfl rfl ?_
  refine vz_if_ne_t (tgt := 17) C dX8_mayAll_10 (by decide) (by decide) ?_
  refine vz_iload_n C 3 dX8_mayAll_17 rfl rfl ?_
  refine vz_if_ne_t (tgt := 25) C dX8_mayAll_18 (by decide) (by decide) ?_
  refine vz_iconst (v := (nI 0)) C dX8_mayAll_25 (by decide) ?_
  refine vz_put (C1 := RX8) (T1 := TX8) (N := 22) C [(mh, .inr (8, [.int (nI np), .ref a_n, .ref a_t, .ref a_p, .ref a_f, .int (nI n), .ref b_p, .ref b_t, .ref b_s, .ref b_d, .ref b_l, .ref b_b, .ref b_o, .ref b_g, .ref b_w, .ref b_x, .ref b_y, .int fs, .int sc, .int (nI fd), .ref b_m, .int (nI 0)]))] in_X8_mayAll_X8 tyX8 tyX8_ok nmX8 0 21 dX8_mayAll_26 rfl rfl (by decide) (by decide +kernel) rfl (tyX8_ok 21 (by decide)) rfl rfl (Nat.le_of_ble_eq_true rfl) rfl ?_
  refine vz_aload_n C 0 dX8_mayAll_29 rfl rfl ?_
  refine vz_get (C1 := RX8) (T1 := TX8) (N := 22) C in_X8_mayAll_X8 0 21 dX8_mayAll_30 rfl rfl (by decide) (by decide +kernel) rfl ?_
  refine vz_if_ne_f (tgt := 40) C dX8_mayAll_33 (by decide) (by decide) ?_
  refine vz_iconst (v := (nI 1)) C dX8_mayAll_36 (by decide) ?_
  refine vz_goto (tgt := 41) C dX8_mayAll_37 (by decide) ?_
  exact vz_zret C () hr dX8_mayAll_41 (by decide) (by rfl) rfl

set_option maxRecDepth 100000 in
set_option maxHeartbeats 400000 in
theorem c_X8_mayAll_1 (l : Launch) (D : va_G) (cI cZ cJ : ClassId) (mh : Nat) (np : Nat) (n : Nat) (fd : Nat) (th : Nat) (fs : Int32) (sc : Int32) (a_n : Nat) (a_t : Nat) (a_p : Nat) (a_f : Nat) (b_p : Nat) (b_t : Nat) (b_s : Nat) (b_d : Nat) (b_l : Nat) (b_b : Nat) (b_o : Nat) (b_g : Nat) (b_w : Nat) (b_x : Nat) (b_y : Nat) (b_m : Nat) (b2 : Bool) (b3 : Bool)   : cnI l yX8_mayAll wsX8_mayAll { frames := 0, cells := 0, slots := 0, locals := 0 } D [(cI, .int), (cZ, .boolean), (cJ, .long)] [.ref mh, .int (bI false), .int (bI b2), .int (bI b3)] [(mh, .inr (8, [.int (nI np), .ref a_n, .ref a_t, .ref a_p, .ref a_f, .int (nI n), .ref b_p, .ref b_t, .ref b_s, .ref b_d, .ref b_l, .ref b_b, .ref b_o, .ref b_g, .ref b_w, .ref b_x, .ref b_y, .int fs, .int sc, .int (nI fd), .ref b_m, .int (nI th)]))] (bI false) (fun _ : Unit => [(mh, .inr (8, [.int (nI np), .ref a_n, .ref a_t, .ref a_p, .ref a_f, .int (nI n), .ref b_p, .ref b_t, .ref b_s, .ref b_d, .ref b_l, .ref b_b, .ref b_o, .ref b_g, .ref b_w, .ref b_x, .ref b_y, .int fs, .int sc, .int (nI fd), .ref b_m, .int (nI 1)]))]) := by
  refine cnI.mk (cc := cX8_mayAll) (nL := 4) (ret := (some .boolean)) (by decide) rfl (Nat.le_of_ble_eq_true rfl) ?_
  intro p_ e_ s_ m_ g_ b_ mt_ cd_ A_ C hr
  refine vz_aload_n C 0 dX8_mayAll_0 rfl rfl ?_
  refine vz_iload_n C 1 dX8_mayAll_1 rfl rfl ?_
  refine vz_if_ne_f (tgt := 9) C dX8_mayAll_2 (by decide) (by decide) ?_
  refine vz_iconst (v := (nI 1)) C dX8_mayAll_5 (by decide) ?_
  refine vz_goto (tgt := 26) C dX8_mayAll_6 (by decide) ?_
  refine vz_put (C1 := RX8) (T1 := TX8) (N := 22) C [(mh, .inr (8, [.int (nI np), .ref a_n, .ref a_t, .ref a_p, .ref a_f, .int (nI n), .ref b_p, .ref b_t, .ref b_s, .ref b_d, .ref b_l, .ref b_b, .ref b_o, .ref b_g, .ref b_w, .ref b_x, .ref b_y, .int fs, .int sc, .int (nI fd), .ref b_m, .int (nI 1)]))] in_X8_mayAll_X8 tyX8 tyX8_ok nmX8 0 21 dX8_mayAll_26 rfl rfl (by decide) (by decide +kernel) rfl (tyX8_ok 21 (by decide)) rfl rfl (Nat.le_of_ble_eq_true rfl) rfl ?_
  refine vz_aload_n C 0 dX8_mayAll_29 rfl rfl ?_
  refine vz_get (C1 := RX8) (T1 := TX8) (N := 22) C in_X8_mayAll_X8 0 21 dX8_mayAll_30 rfl rfl (by decide) (by decide +kernel) rfl ?_
  refine vz_if_ne_t (tgt := 40) C dX8_mayAll_33 (by decide) (by decide) ?_
  refine vz_iconst (v := (nI 0)) C dX8_mayAll_40 (by decide) ?_
  exact vz_zret C () hr dX8_mayAll_41 (by decide) (by rfl) rfl

set_option maxRecDepth 100000 in
set_option maxHeartbeats 400000 in
theorem c_X8_mayAll_2 (l : Launch) (D : va_G) (cI cZ cJ : ClassId) (mh : Nat) (np : Nat) (n : Nat) (fd : Nat) (th : Nat) (fs : Int32) (sc : Int32) (a_n : Nat) (a_t : Nat) (a_p : Nat) (a_f : Nat) (b_p : Nat) (b_t : Nat) (b_s : Nat) (b_d : Nat) (b_l : Nat) (b_b : Nat) (b_o : Nat) (b_g : Nat) (b_w : Nat) (b_x : Nat) (b_y : Nat) (b_m : Nat) (b3 : Bool)   : cnI l yX8_mayAll wsX8_mayAll { frames := 0, cells := 0, slots := 0, locals := 0 } D [(cI, .int), (cZ, .boolean), (cJ, .long)] [.ref mh, .int (bI true), .int (bI false), .int (bI b3)] [(mh, .inr (8, [.int (nI np), .ref a_n, .ref a_t, .ref a_p, .ref a_f, .int (nI n), .ref b_p, .ref b_t, .ref b_s, .ref b_d, .ref b_l, .ref b_b, .ref b_o, .ref b_g, .ref b_w, .ref b_x, .ref b_y, .int fs, .int sc, .int (nI fd), .ref b_m, .int (nI th)]))] (bI false) (fun _ : Unit => [(mh, .inr (8, [.int (nI np), .ref a_n, .ref a_t, .ref a_p, .ref a_f, .int (nI n), .ref b_p, .ref b_t, .ref b_s, .ref b_d, .ref b_l, .ref b_b, .ref b_o, .ref b_g, .ref b_w, .ref b_x, .ref b_y, .int fs, .int sc, .int (nI fd), .ref b_m, .int (nI 2)]))]) := by
  refine cnI.mk (cc := cX8_mayAll) (nL := 4) (ret := (some .boolean)) (by decide) rfl (Nat.le_of_ble_eq_true rfl) ?_
  intro p_ e_ s_ m_ g_ b_ mt_ cd_ A_ C hr
  refine vz_aload_n C 0 dX8_mayAll_0 rfl rfl ?_
  refine vz_iload_n C 1 dX8_mayAll_1 rfl rfl ?_
  refine vz_if_ne_t (tgt := 9) C dX8_mayAll_2 (by decide) (by decide) ?_
  refine vz_iload_n C 2 dX8_mayAll_9 rfl rfl ?_
  refine vz_if_ne_f (tgt := 17) C dX8_mayAll_10 (by decide) (by decide) ?_
  refine vz_iconst (v := (nI 2)) C dX8_mayAll_13 (by decide) ?_
  refine vz_goto (tgt := 26) C dX8_mayAll_14 (by decide) ?_
  refine vz_put (C1 := RX8) (T1 := TX8) (N := 22) C [(mh, .inr (8, [.int (nI np), .ref a_n, .ref a_t, .ref a_p, .ref a_f, .int (nI n), .ref b_p, .ref b_t, .ref b_s, .ref b_d, .ref b_l, .ref b_b, .ref b_o, .ref b_g, .ref b_w, .ref b_x, .ref b_y, .int fs, .int sc, .int (nI fd), .ref b_m, .int (nI 2)]))] in_X8_mayAll_X8 tyX8 tyX8_ok nmX8 0 21 dX8_mayAll_26 rfl rfl (by decide) (by decide +kernel) rfl (tyX8_ok 21 (by decide)) rfl rfl (Nat.le_of_ble_eq_true rfl) rfl ?_
  refine vz_aload_n C 0 dX8_mayAll_29 rfl rfl ?_
  refine vz_get (C1 := RX8) (T1 := TX8) (N := 22) C in_X8_mayAll_X8 0 21 dX8_mayAll_30 rfl rfl (by decide) (by decide +kernel) rfl ?_
  refine vz_if_ne_t (tgt := 40) C dX8_mayAll_33 (by decide) (by decide) ?_
  refine vz_iconst (v := (nI 0)) C dX8_mayAll_40 (by decide) ?_
  exact vz_zret C () hr dX8_mayAll_41 (by decide) (by rfl) rfl

set_option maxRecDepth 100000 in
set_option maxHeartbeats 400000 in
theorem c_X8_mayAll_3 (l : Launch) (D : va_G) (cI cZ cJ : ClassId) (mh : Nat) (np : Nat) (n : Nat) (fd : Nat) (th : Nat) (fs : Int32) (sc : Int32) (a_n : Nat) (a_t : Nat) (a_p : Nat) (a_f : Nat) (b_p : Nat) (b_t : Nat) (b_s : Nat) (b_d : Nat) (b_l : Nat) (b_b : Nat) (b_o : Nat) (b_g : Nat) (b_w : Nat) (b_x : Nat) (b_y : Nat) (b_m : Nat)   : cnI l yX8_mayAll wsX8_mayAll { frames := 0, cells := 0, slots := 0, locals := 0 } D [(cI, .int), (cZ, .boolean), (cJ, .long)] [.ref mh, .int (bI true), .int (bI true), .int (bI false)] [(mh, .inr (8, [.int (nI np), .ref a_n, .ref a_t, .ref a_p, .ref a_f, .int (nI n), .ref b_p, .ref b_t, .ref b_s, .ref b_d, .ref b_l, .ref b_b, .ref b_o, .ref b_g, .ref b_w, .ref b_x, .ref b_y, .int fs, .int sc, .int (nI fd), .ref b_m, .int (nI th)]))] (bI false) (fun _ : Unit => [(mh, .inr (8, [.int (nI np), .ref a_n, .ref a_t, .ref a_p, .ref a_f, .int (nI n), .ref b_p, .ref b_t, .ref b_s, .ref b_d, .ref b_l, .ref b_b, .ref b_o, .ref b_g, .ref b_w, .ref b_x, .ref b_y, .int fs, .int sc, .int (nI fd), .ref b_m, .int (nI 3)]))]) := by
  refine cnI.mk (cc := cX8_mayAll) (nL := 4) (ret := (some .boolean)) (by decide) rfl (Nat.le_of_ble_eq_true rfl) ?_
  intro p_ e_ s_ m_ g_ b_ mt_ cd_ A_ C hr
  refine vz_aload_n C 0 dX8_mayAll_0 rfl rfl ?_
  refine vz_iload_n C 1 dX8_mayAll_1 rfl rfl ?_
  refine vz_if_ne_t (tgt := 9) C dX8_mayAll_2 (by decide) (by decide) ?_
  refine vz_iload_n C 2 dX8_mayAll_9 rfl rfl ?_
  refine vz_if_ne_t (tgt := 17) C dX8_mayAll_10 (by decide) (by decide) ?_
  refine vz_iload_n C 3 dX8_mayAll_17 rfl rfl ?_
  refine vz_if_ne_f (tgt := 25) C dX8_mayAll_18 (by decide) (by decide) ?_
  refine vz_iconst (v := (nI 3)) C dX8_mayAll_21 (by decide) ?_
  refine vz_goto (tgt := 26) C dX8_mayAll_22 (by decide) ?_
  refine vz_put (C1 := RX8) (T1 := TX8) (N := 22) C [(mh, .inr (8, [.int (nI np), .ref a_n, .ref a_t, .ref a_p, .ref a_f, .int (nI n), .ref b_p, .ref b_t, .ref b_s, .ref b_d, .ref b_l, .ref b_b, .ref b_o, .ref b_g, .ref b_w, .ref b_x, .ref b_y, .int fs, .int sc, .int (nI fd), .ref b_m, .int (nI 3)]))] in_X8_mayAll_X8 tyX8 tyX8_ok nmX8 0 21 dX8_mayAll_26 rfl rfl (by decide) (by decide +kernel) rfl (tyX8_ok 21 (by decide)) rfl rfl (Nat.le_of_ble_eq_true rfl) rfl ?_
  refine vz_aload_n C 0 dX8_mayAll_29 rfl rfl ?_
  refine vz_get (C1 := RX8) (T1 := TX8) (N := 22) C in_X8_mayAll_X8 0 21 dX8_mayAll_30 rfl rfl (by decide) (by decide +kernel) rfl ?_
  refine vz_if_ne_t (tgt := 40) C dX8_mayAll_33 (by decide) (by decide) ?_
  refine vz_iconst (v := (nI 0)) C dX8_mayAll_40 (by decide) ?_
  exact vz_zret C () hr dX8_mayAll_41 (by decide) (by rfl) rfl

set_option maxRecDepth 100000 in
set_option maxHeartbeats 400000 in
theorem c_X8_isPort_t (l : Launch) (D : va_G) (cI cZ cJ : ClassId) (mh : Nat) (np : Nat) (n : Nat) (fd : Nat) (th : Nat) (fs : Int32) (sc : Int32) (a_n : Nat) (a_t : Nat) (a_p : Nat) (a_f : Nat) (b_p : Nat) (b_t : Nat) (b_s : Nat) (b_d : Nat) (b_l : Nat) (b_b : Nat) (b_o : Nat) (b_g : Nat) (b_w : Nat) (b_x : Nat) (b_y : Nat) (b_m : Nat) (p : Nat) (hp0 : p < np) (hp1 : np ≤ 6)  : cnI l yX8_isPort wsX8_isPort { frames := 0, cells := 0, slots := 0, locals := 0 } D [(cI, .int), (cZ, .boolean), (cJ, .long)] [.ref mh, .int (nI p)] [(mh, .inr (8, [.int (nI np), .ref a_n, .ref a_t, .ref a_p, .ref a_f, .int (nI n), .ref b_p, .ref b_t, .ref b_s, .ref b_d, .ref b_l, .ref b_b, .ref b_o, .ref b_g, .ref b_w, .ref b_x, .ref b_y, .int fs, .int sc, .int (nI fd), .ref b_m, .int (nI th)]))] (bI true) (fun _ : Unit => [(mh, .inr (8, [.int (nI np), .ref a_n, .ref a_t, .ref a_p, .ref a_f, .int (nI n), .ref b_p, .ref b_t, .ref b_s, .ref b_d, .ref b_l, .ref b_b, .ref b_o, .ref b_g, .ref b_w, .ref b_x, .ref b_y, .int fs, .int sc, .int (nI fd), .ref b_m, .int (nI th)]))]) := by
  refine cnI.mk (cc := cX8_isPort) (nL := 2) (ret := (some .boolean)) (by decide) rfl (Nat.le_of_ble_eq_true rfl) ?_
  intro p_ e_ s_ m_ g_ b_ mt_ cd_ A_ C hr
  refine vz_iload_n C 1 dX8_isPort_0 rfl rfl ?_
  refine vz_if_lt_f (tgt := 16) C dX8_isPort_1 (by decide) (nI_pos (by first | with_reducible assumption | with_reducible exact scB_lt _ _ | with_reducible exact npN_lt _ _ | omega | decide)) ?_
  refine vz_iload_n C 1 dX8_isPort_4 rfl rfl ?_
  refine vz_aload_n C 0 dX8_isPort_5 rfl rfl ?_
  refine vz_get (C1 := RX8) (T1 := TX8) (N := 22) C in_X8_isPort_X8 0 0 dX8_isPort_6 rfl rfl (by decide) (by decide +kernel) rfl ?_
  refine vz_icmp_ge_f (tgt := 16) C dX8_isPort_9 (by decide) (nI_ge (by first | with_reducible assumption | omega) (by first | with_reducible assumption | omega)) ?_
  refine vz_iconst (v := (nI 1)) C dX8_isPort_12 (by decide) ?_
  refine vz_goto (tgt := 17) C dX8_isPort_13 (by decide) ?_
  exact vz_zret C () hr dX8_isPort_17 (by decide) (by rfl) rfl

set_option maxRecDepth 100000 in
set_option maxHeartbeats 400000 in
theorem c_X8_isPort_f (l : Launch) (D : va_G) (cI cZ cJ : ClassId) (mh : Nat) (np : Nat) (n : Nat) (fd : Nat) (th : Nat) (fs : Int32) (sc : Int32) (a_n : Nat) (a_t : Nat) (a_p : Nat) (a_f : Nat) (b_p : Nat) (b_t : Nat) (b_s : Nat) (b_d : Nat) (b_l : Nat) (b_b : Nat) (b_o : Nat) (b_g : Nat) (b_w : Nat) (b_x : Nat) (b_y : Nat) (b_m : Nat) (p : Int32) (hp0 : p < 0 ∨ nI np ≤ p)  : cnI l yX8_isPort wsX8_isPort { frames := 0, cells := 0, slots := 0, locals := 0 } D [(cI, .int), (cZ, .boolean), (cJ, .long)] [.ref mh, .int p] [(mh, .inr (8, [.int (nI np), .ref a_n, .ref a_t, .ref a_p, .ref a_f, .int (nI n), .ref b_p, .ref b_t, .ref b_s, .ref b_d, .ref b_l, .ref b_b, .ref b_o, .ref b_g, .ref b_w, .ref b_x, .ref b_y, .int fs, .int sc, .int (nI fd), .ref b_m, .int (nI th)]))] (bI false) (fun _ : Unit => [(mh, .inr (8, [.int (nI np), .ref a_n, .ref a_t, .ref a_p, .ref a_f, .int (nI n), .ref b_p, .ref b_t, .ref b_s, .ref b_d, .ref b_l, .ref b_b, .ref b_o, .ref b_g, .ref b_w, .ref b_x, .ref b_y, .int fs, .int sc, .int (nI fd), .ref b_m, .int (nI th)]))]) := by
  refine cnI.mk (cc := cX8_isPort) (nL := 2) (ret := (some .boolean)) (by decide) rfl (Nat.le_of_ble_eq_true rfl) ?_
  intro p_ e_ s_ m_ g_ b_ mt_ cd_ A_ C hr
  refine vz_iload_n C 1 dX8_isPort_0 rfl rfl ?_
  refine vz_if_lt (tgt := 16) C dX8_isPort_1 (by decide) (Pr := p < 0) Iff.rfl (fun h1 => ?_) (fun h1 => ?_)
  · refine vz_iconst (v := (nI 0)) C dX8_isPort_16 (by decide) ?_
    exact vz_zret C () hr dX8_isPort_17 (by decide) (by rfl) rfl
  · refine vz_iload_n C 1 dX8_isPort_4 rfl rfl ?_
    refine vz_aload_n C 0 dX8_isPort_5 rfl rfl ?_
    refine vz_get (C1 := RX8) (T1 := TX8) (N := 22) C in_X8_isPort_X8 0 0 dX8_isPort_6 rfl rfl (by decide) (by decide +kernel) rfl ?_
    refine vz_icmp_ge_t (tgt := 16) C dX8_isPort_9 (by decide) (hp0.resolve_left (by assumption)) ?_
    refine vz_iconst (v := (nI 0)) C dX8_isPort_16 (by decide) ?_
    exact vz_zret C () hr dX8_isPort_17 (by decide) (by rfl) rfl

set_option maxRecDepth 100000 in
set_option maxHeartbeats 400000 in
theorem c_X8_isFrame_t (l : Launch) (D : va_G) (cI cZ cJ : ClassId) (mh : Nat) (np : Nat) (n : Nat) (fd : Nat) (th : Nat) (fs : Int32) (sc : Int32) (a_n : Nat) (a_t : Nat) (a_p : Nat) (a_f : Nat) (b_p : Nat) (b_t : Nat) (b_s : Nat) (b_d : Nat) (b_l : Nat) (b_b : Nat) (b_o : Nat) (b_g : Nat) (b_w : Nat) (b_x : Nat) (b_y : Nat) (b_m : Nat) (p : Nat) (hp0 : p < n) (hp1 : n ≤ 60)  : cnI l yX8_isFrame wsX8_isFrame { frames := 0, cells := 0, slots := 0, locals := 0 } D [(cI, .int), (cZ, .boolean), (cJ, .long)] [.ref mh, .int (nI p)] [(mh, .inr (8, [.int (nI np), .ref a_n, .ref a_t, .ref a_p, .ref a_f, .int (nI n), .ref b_p, .ref b_t, .ref b_s, .ref b_d, .ref b_l, .ref b_b, .ref b_o, .ref b_g, .ref b_w, .ref b_x, .ref b_y, .int fs, .int sc, .int (nI fd), .ref b_m, .int (nI th)]))] (bI true) (fun _ : Unit => [(mh, .inr (8, [.int (nI np), .ref a_n, .ref a_t, .ref a_p, .ref a_f, .int (nI n), .ref b_p, .ref b_t, .ref b_s, .ref b_d, .ref b_l, .ref b_b, .ref b_o, .ref b_g, .ref b_w, .ref b_x, .ref b_y, .int fs, .int sc, .int (nI fd), .ref b_m, .int (nI th)]))]) := by
  refine cnI.mk (cc := cX8_isFrame) (nL := 2) (ret := (some .boolean)) (by decide) rfl (Nat.le_of_ble_eq_true rfl) ?_
  intro p_ e_ s_ m_ g_ b_ mt_ cd_ A_ C hr
  refine vz_iload_n C 1 dX8_isFrame_0 rfl rfl ?_
  refine vz_if_lt_f (tgt := 16) C dX8_isFrame_1 (by decide) (nI_pos (by first | with_reducible assumption | with_reducible exact scB_lt _ _ | with_reducible exact npN_lt _ _ | omega | decide)) ?_
  refine vz_iload_n C 1 dX8_isFrame_4 rfl rfl ?_
  refine vz_aload_n C 0 dX8_isFrame_5 rfl rfl ?_
  refine vz_get (C1 := RX8) (T1 := TX8) (N := 22) C in_X8_isFrame_X8 0 5 dX8_isFrame_6 rfl rfl (by decide) (by decide +kernel) rfl ?_
  refine vz_icmp_ge_f (tgt := 16) C dX8_isFrame_9 (by decide) (nI_ge (by first | with_reducible assumption | omega) (by first | with_reducible assumption | omega)) ?_
  refine vz_iconst (v := (nI 1)) C dX8_isFrame_12 (by decide) ?_
  refine vz_goto (tgt := 17) C dX8_isFrame_13 (by decide) ?_
  exact vz_zret C () hr dX8_isFrame_17 (by decide) (by rfl) rfl

set_option maxRecDepth 100000 in
set_option maxHeartbeats 400000 in
theorem c_X8_isFrame_f (l : Launch) (D : va_G) (cI cZ cJ : ClassId) (mh : Nat) (np : Nat) (n : Nat) (fd : Nat) (th : Nat) (fs : Int32) (sc : Int32) (a_n : Nat) (a_t : Nat) (a_p : Nat) (a_f : Nat) (b_p : Nat) (b_t : Nat) (b_s : Nat) (b_d : Nat) (b_l : Nat) (b_b : Nat) (b_o : Nat) (b_g : Nat) (b_w : Nat) (b_x : Nat) (b_y : Nat) (b_m : Nat) (p : Int32) (hp0 : p < 0 ∨ nI n ≤ p)  : cnI l yX8_isFrame wsX8_isFrame { frames := 0, cells := 0, slots := 0, locals := 0 } D [(cI, .int), (cZ, .boolean), (cJ, .long)] [.ref mh, .int p] [(mh, .inr (8, [.int (nI np), .ref a_n, .ref a_t, .ref a_p, .ref a_f, .int (nI n), .ref b_p, .ref b_t, .ref b_s, .ref b_d, .ref b_l, .ref b_b, .ref b_o, .ref b_g, .ref b_w, .ref b_x, .ref b_y, .int fs, .int sc, .int (nI fd), .ref b_m, .int (nI th)]))] (bI false) (fun _ : Unit => [(mh, .inr (8, [.int (nI np), .ref a_n, .ref a_t, .ref a_p, .ref a_f, .int (nI n), .ref b_p, .ref b_t, .ref b_s, .ref b_d, .ref b_l, .ref b_b, .ref b_o, .ref b_g, .ref b_w, .ref b_x, .ref b_y, .int fs, .int sc, .int (nI fd), .ref b_m, .int (nI th)]))]) := by
  refine cnI.mk (cc := cX8_isFrame) (nL := 2) (ret := (some .boolean)) (by decide) rfl (Nat.le_of_ble_eq_true rfl) ?_
  intro p_ e_ s_ m_ g_ b_ mt_ cd_ A_ C hr
  refine vz_iload_n C 1 dX8_isFrame_0 rfl rfl ?_
  refine vz_if_lt (tgt := 16) C dX8_isFrame_1 (by decide) (Pr := p < 0) Iff.rfl (fun h1 => ?_) (fun h1 => ?_)
  · refine vz_iconst (v := (nI 0)) C dX8_isFrame_16 (by decide) ?_
    exact vz_zret C () hr dX8_isFrame_17 (by decide) (by rfl) rfl
  · refine vz_iload_n C 1 dX8_isFrame_4 rfl rfl ?_
    refine vz_aload_n C 0 dX8_isFrame_5 rfl rfl ?_
    refine vz_get (C1 := RX8) (T1 := TX8) (N := 22) C in_X8_isFrame_X8 0 5 dX8_isFrame_6 rfl rfl (by decide) (by decide +kernel) rfl ?_
    refine vz_icmp_ge_t (tgt := 16) C dX8_isFrame_9 (by decide) (hp0.resolve_left (by assumption)) ?_
    refine vz_iconst (v := (nI 0)) C dX8_isFrame_16 (by decide) ?_
    exact vz_zret C () hr dX8_isFrame_17 (by decide) (by rfl) rfl

set_option maxRecDepth 100000 in
set_option maxHeartbeats 400000 in
theorem c_X8_setAccess (l : Launch) (D : va_G) (cI cZ cJ : ClassId) (mh : Nat) (np : Nat) (n : Nat) (fd : Nat) (th : Nat) (fs : Int32) (sc : Int32) (tr : Nat → Bool) (pn : Nat → Nat) (ne : Nat → Int32) (a_n : Nat) (a_t : Nat) (a_p : Nat) (a_f : Nat) (b_p : Nat) (b_t : Nat) (b_s : Nat) (b_d : Nat) (b_l : Nat) (b_b : Nat) (b_o : Nat) (b_g : Nat) (b_w : Nat) (b_x : Nat) (b_y : Nat) (b_m : Nat) (p : Nat) (v : Nat) (hp0 : p < 6) (hp1 : 1 ≤ v)  : cnV l yX8_setAccess wsX8_setAccess { frames := 0, cells := 0, slots := 0, locals := 0 } D [(cI, .int), (cZ, .boolean), (cJ, .long)] [.ref mh, .int (nI p), .int (nI v)] [(mh, .inr (8, [.int (nI np), .ref a_n, .ref a_t, .ref a_p, .ref a_f, .int (nI n), .ref b_p, .ref b_t, .ref b_s, .ref b_d, .ref b_l, .ref b_b, .ref b_o, .ref b_g, .ref b_w, .ref b_x, .ref b_y, .int fs, .int sc, .int (nI fd), .ref b_m, .int (nI th)])), (a_n, .inl (cI, 6, .inl ne)), (a_t, .inl (cZ, 6, .inl (zF tr))), (a_p, .inl (cI, 6, .inl (nF pn)))] (fun _ : Unit => [(mh, .inr (8, [.int (nI np), .ref a_n, .ref a_t, .ref a_p, .ref a_f, .int (nI n), .ref b_p, .ref b_t, .ref b_s, .ref b_d, .ref b_l, .ref b_b, .ref b_o, .ref b_g, .ref b_w, .ref b_x, .ref b_y, .int fs, .int sc, .int (nI fd), .ref b_m, .int (nI th)])), (a_n, .inl (cI, 6, .inl (upd ne p (bit1 (v - 1))))), (a_t, .inl (cZ, 6, .inl (zF (upB tr p false)))), (a_p, .inl (cI, 6, .inl (nF (upN pn p v))))]) := by
  refine cnV.mk (cc := cX8_setAccess) (nL := 3) (ret := none) (by decide) rfl (Nat.le_of_ble_eq_true rfl) ?_
  intro p_ e_ s_ m_ g_ b_ mt_ cd_ A_ C hr
  refine vz_aload_n C 0 dX8_setAccess_0 rfl rfl ?_
  refine vz_get (C1 := RX8) (T1 := TX8) (N := 22) C in_X8_setAccess_X8 0 2 dX8_setAccess_1 rfl rfl (by decide) (by decide +kernel) rfl ?_
  refine vz_iload_n C 1 dX8_setAccess_4 rfl rfl ?_
  refine vz_iconst (v := (nI 0)) C dX8_setAccess_5 (by decide) ?_
  refine vz_zast C [(mh, .inr (8, [.int (nI np), .ref a_n, .ref a_t, .ref a_p, .ref a_f, .int (nI n), .ref b_p, .ref b_t, .ref b_s, .ref b_d, .ref b_l, .ref b_b, .ref b_o, .ref b_g, .ref b_w, .ref b_x, .ref b_y, .int fs, .int sc, .int (nI fd), .ref b_m, .int (nI th)])), (a_n, .inl (cI, 6, .inl ne)), (a_t, .inl (cZ, 6, .inl (upd (zF tr) p (vp_nar .boolean (nI 0))))), (a_p, .inl (cI, 6, .inl (nF pn)))] 2 1 p dX8_setAccess_6 rfl rfl rfl (by first | with_reducible assumption | with_reducible exact scB_lt _ _ | with_reducible exact npN_lt _ _ | omega | decide) (by decide) rfl ?_
  refine vz_ws (ws' := [(mh, .inr (8, [.int (nI np), .ref a_n, .ref a_t, .ref a_p, .ref a_f, .int (nI n), .ref b_p, .ref b_t, .ref b_s, .ref b_d, .ref b_l, .ref b_b, .ref b_o, .ref b_g, .ref b_w, .ref b_x, .ref b_y, .int fs, .int sc, .int (nI fd), .ref b_m, .int (nI th)])), (a_n, .inl (cI, 6, .inl ne)), (a_t, .inl (cZ, 6, .inl (zF (upB tr p false)))), (a_p, .inl (cI, 6, .inl (nF pn)))]) (by rw [upd_zF0]) ?_
  refine vz_aload_n C 0 dX8_setAccess_7 rfl rfl ?_
  refine vz_get (C1 := RX8) (T1 := TX8) (N := 22) C in_X8_setAccess_X8 0 1 dX8_setAccess_8 rfl rfl (by decide) (by decide +kernel) rfl ?_
  refine vz_iload_n C 1 dX8_setAccess_11 rfl rfl ?_
  refine vz_iconst (v := (nI 1)) C dX8_setAccess_12 (by decide) ?_
  refine vz_iload_n C 2 dX8_setAccess_13 rfl rfl ?_
  refine vz_iconst (v := (nI 1)) C dX8_setAccess_14 (by decide) ?_
  refine vz_isub (z := (nI (v - 1))) C dX8_setAccess_15 (pk_sub (by first | with_reducible assumption | with_reducible exact scB_lt _ _ | with_reducible exact npN_lt _ _ | omega | decide)) ?_
  refine vz_ishl (z := ((nI 1) <<< ((nI (v - 1)) &&& 31))) C dX8_setAccess_16 rfl ?_
  refine vz_iast C [(mh, .inr (8, [.int (nI np), .ref a_n, .ref a_t, .ref a_p, .ref a_f, .int (nI n), .ref b_p, .ref b_t, .ref b_s, .ref b_d, .ref b_l, .ref b_b, .ref b_o, .ref b_g, .ref b_w, .ref b_x, .ref b_y, .int fs, .int sc, .int (nI fd), .ref b_m, .int (nI th)])), (a_n, .inl (cI, 6, .inl (upd ne p ((nI 1) <<< ((nI (v - 1)) &&& 31))))), (a_t, .inl (cZ, 6, .inl (zF (upB tr p false)))), (a_p, .inl (cI, 6, .inl (nF pn)))] 1 0 p dX8_setAccess_17 rfl rfl rfl (by first | with_reducible assumption | with_reducible exact scB_lt _ _ | with_reducible exact npN_lt _ _ | omega | decide) (by decide) rfl ?_
  refine vz_aload_n C 0 dX8_setAccess_18 rfl rfl ?_
  refine vz_get (C1 := RX8) (T1 := TX8) (N := 22) C in_X8_setAccess_X8 0 3 dX8_setAccess_19 rfl rfl (by decide) (by decide +kernel) rfl ?_
  refine vz_iload_n C 1 dX8_setAccess_22 rfl rfl ?_
  refine vz_iload_n C 2 dX8_setAccess_23 rfl rfl ?_
  refine vz_iast C [(mh, .inr (8, [.int (nI np), .ref a_n, .ref a_t, .ref a_p, .ref a_f, .int (nI n), .ref b_p, .ref b_t, .ref b_s, .ref b_d, .ref b_l, .ref b_b, .ref b_o, .ref b_g, .ref b_w, .ref b_x, .ref b_y, .int fs, .int sc, .int (nI fd), .ref b_m, .int (nI th)])), (a_n, .inl (cI, 6, .inl (upd ne p ((nI 1) <<< ((nI (v - 1)) &&& 31))))), (a_t, .inl (cZ, 6, .inl (zF (upB tr p false)))), (a_p, .inl (cI, 6, .inl (upd (nF pn) p (nI v))))] 3 0 p dX8_setAccess_24 rfl rfl rfl (by first | with_reducible assumption | with_reducible exact scB_lt _ _ | with_reducible exact npN_lt _ _ | omega | decide) (by decide) rfl ?_
  refine vz_ws (ws' := [(mh, .inr (8, [.int (nI np), .ref a_n, .ref a_t, .ref a_p, .ref a_f, .int (nI n), .ref b_p, .ref b_t, .ref b_s, .ref b_d, .ref b_l, .ref b_b, .ref b_o, .ref b_g, .ref b_w, .ref b_x, .ref b_y, .int fs, .int sc, .int (nI fd), .ref b_m, .int (nI th)])), (a_n, .inl (cI, 6, .inl (upd ne p ((nI 1) <<< ((nI (v - 1)) &&& 31))))), (a_t, .inl (cZ, 6, .inl (zF (upB tr p false)))), (a_p, .inl (cI, 6, .inl (nF (upN pn p v))))]) (by rw [upd_nF]) ?_
  exact vz_vret C () hr dX8_setAccess_25 (by rfl)

set_option maxRecDepth 100000 in
set_option maxHeartbeats 400000 in
theorem c_X8_reset (l : Launch) (D : va_G) (cI cZ cJ : ClassId) (mh : Nat) (np : Nat) (n : Nat) (fd : Nat) (th : Nat) (fs : Int32) (sc : Int32) (tr : Nat → Bool) (pn : Nat → Nat) (ne : Nat → Int32) (ft : Nat → Int32) (a_n : Nat) (a_t : Nat) (a_p : Nat) (a_f : Nat) (b_p : Nat) (b_t : Nat) (b_s : Nat) (b_d : Nat) (b_l : Nat) (b_b : Nat) (b_o : Nat) (b_g : Nat) (b_w : Nat) (b_x : Nat) (b_y : Nat) (b_m : Nat) (k : Nat)   : cnV l yX8_reset wsX8_reset { frames := 1, cells := 0, slots := 0, locals := 22 } D [(cI, .int), (cZ, .boolean), (cJ, .long)] [.ref mh, .int (nI k)] [(mh, .inr (8, [.int (nI np), .ref a_n, .ref a_t, .ref a_p, .ref a_f, .int (nI n), .ref b_p, .ref b_t, .ref b_s, .ref b_d, .ref b_l, .ref b_b, .ref b_o, .ref b_g, .ref b_w, .ref b_x, .ref b_y, .int fs, .int sc, .int (nI fd), .ref b_m, .int (nI th)])), (a_n, .inl (cI, 6, .inl ne)), (a_t, .inl (cZ, 6, .inl (zF tr))), (a_p, .inl (cI, 6, .inl (nF pn))), (a_f, .inl (cI, 6, .inl ft))] (fun _ : Unit => [(mh, .inr (8, [.int (nI k), .ref a_n, .ref a_t, .ref a_p, .ref a_f, .int (nI 0), .ref b_p, .ref b_t, .ref b_s, .ref b_d, .ref b_l, .ref b_b, .ref b_o, .ref b_g, .ref b_w, .ref b_x, .ref b_y, .int fs, .int sc, .int (nI fd), .ref b_m, .int (nI th)])), (a_n, .inl (cI, 6, .inl (fun _ => bit1 0))), (a_t, .inl (cZ, 6, .inl (zF (fun _ => false)))), (a_p, .inl (cI, 6, .inl (nF (fun _ => 1)))), (a_f, .inl (cI, 6, .inl (fun _ => nI 0)))]) := by
  refine cnV.mk (cc := cX8_reset) (nL := 3) (ret := none) (by decide) rfl (Nat.le_of_ble_eq_true rfl) ?_
  intro p_ e_ s_ m_ g_ b_ mt_ cd_ A_ C hr
  refine vz_aload_n C 0 dX8_reset_0 rfl rfl ?_
  refine vz_iload_n C 1 dX8_reset_1 rfl rfl ?_
  refine vz_put (C1 := RX8) (T1 := TX8) (N := 22) C [(mh, .inr (8, [.int (nI k), .ref a_n, .ref a_t, .ref a_p, .ref a_f, .int (nI n), .ref b_p, .ref b_t, .ref b_s, .ref b_d, .ref b_l, .ref b_b, .ref b_o, .ref b_g, .ref b_w, .ref b_x, .ref b_y, .int fs, .int sc, .int (nI fd), .ref b_m, .int (nI th)])), (a_n, .inl (cI, 6, .inl ne)), (a_t, .inl (cZ, 6, .inl (zF tr))), (a_p, .inl (cI, 6, .inl (nF pn))), (a_f, .inl (cI, 6, .inl ft))] in_X8_reset_X8 tyX8 tyX8_ok nmX8 0 0 dX8_reset_2 rfl rfl (by decide) (by decide +kernel) rfl (tyX8_ok 0 (by decide)) rfl rfl (Nat.le_of_ble_eq_true rfl) rfl ?_
  refine vz_aload_n C 0 dX8_reset_5 rfl rfl ?_
  refine vz_iconst (v := (nI 0)) C dX8_reset_6 (by decide) ?_
  refine vz_put (C1 := RX8) (T1 := TX8) (N := 22) C [(mh, .inr (8, [.int (nI k), .ref a_n, .ref a_t, .ref a_p, .ref a_f, .int (nI 0), .ref b_p, .ref b_t, .ref b_s, .ref b_d, .ref b_l, .ref b_b, .ref b_o, .ref b_g, .ref b_w, .ref b_x, .ref b_y, .int fs, .int sc, .int (nI fd), .ref b_m, .int (nI th)])), (a_n, .inl (cI, 6, .inl ne)), (a_t, .inl (cZ, 6, .inl (zF tr))), (a_p, .inl (cI, 6, .inl (nF pn))), (a_f, .inl (cI, 6, .inl ft))] in_X8_reset_X8 tyX8 tyX8_ok nmX8 0 5 dX8_reset_7 rfl rfl (by decide) (by decide +kernel) rfl (tyX8_ok 5 (by decide)) rfl rfl (Nat.le_of_ble_eq_true rfl) rfl ?_
  refine vz_iconst (v := (nI 0)) C dX8_reset_10 (by decide) ?_
  refine vz_istore_n C [(2, .int (nI 0)), (0, .ref mh), (1, .int (nI k))] dX8_reset_11 rfl (by decide) rfl ?_
  refine vz_to (ws' := [(mh, .inr (8, [.int (nI k), .ref a_n, .ref a_t, .ref a_p, .ref a_f, .int (nI 0), .ref b_p, .ref b_t, .ref b_s, .ref b_d, .ref b_l, .ref b_b, .ref b_o, .ref b_g, .ref b_w, .ref b_x, .ref b_y, .int fs, .int sc, .int (nI fd), .ref b_m, .int (nI th)])), (a_n, .inl (cI, 6, .inl (rowK (fun _ => bit1 0) ne 0))), (a_t, .inl (cZ, 6, .inl (zF (rowB (fun _ => false) tr 0)))), (a_p, .inl (cI, 6, .inl (nF (rowN (fun _ => 1) pn 0)))), (a_f, .inl (cI, 6, .inl (rowK (fun _ => nI 0) ft 0)))]) (lv' := [(2, .int (nI 0)), (0, .ref mh), (1, .int (nI k))]) (st' := []) ?_ (by rfl) (by rfl) rfl
  refine vz_loop (S := Unit) 6 0 (fun _ => True) (fun j _ => [(mh, .inr (8, [.int (nI k), .ref a_n, .ref a_t, .ref a_p, .ref a_f, .int (nI 0), .ref b_p, .ref b_t, .ref b_s, .ref b_d, .ref b_l, .ref b_b, .ref b_o, .ref b_g, .ref b_w, .ref b_x, .ref b_y, .int fs, .int sc, .int (nI fd), .ref b_m, .int (nI th)])), (a_n, .inl (cI, 6, .inl (rowK (fun _ => bit1 0) ne j))), (a_t, .inl (cZ, 6, .inl (zF (rowB (fun _ => false) tr j)))), (a_p, .inl (cI, 6, .inl (nF (rowN (fun _ => 1) pn j)))), (a_f, .inl (cI, 6, .inl (rowK (fun _ => nI 0) ft j)))]) (fun j _ => [(2, .int (nI j)), (0, .ref mh), (1, .int (nI k))]) (Nat.zero_le _) () trivial (fun j _ hk3 hk2 hi4 ih1 => ?_) (fun _ hi4 => ?_)
  · refine vz_iload_n C 0 dX8_reset_12 rfl rfl ?_
    refine vz_bipush (v := (nI 6)) C dX8_reset_13 (by decide) ?_
    refine vz_icmp_ge_f (tgt := 37) C dX8_reset_15 (by decide) (nI_ge hk2 (by decide)) ?_
    refine vz_aload_n C 1 dX8_reset_18 rfl rfl ?_
    refine vz_iload_n C 0 dX8_reset_19 rfl rfl ?_
    refine vz_iconst (v := (nI 1)) C dX8_reset_20 (by decide) ?_
    refine vz_callVv (q0 := 0) (rest := []) (wr := [(a_f, .inl (cI, 6, .inl (rowK (fun _ => nI 0) ft j)))]) C (fun _ : Unit => [(mh, .inr (8, [.int (nI k), .ref a_n, .ref a_t, .ref a_p, .ref a_f, .int (nI 0), .ref b_p, .ref b_t, .ref b_s, .ref b_d, .ref b_l, .ref b_b, .ref b_o, .ref b_g, .ref b_w, .ref b_x, .ref b_y, .int fs, .int sc, .int (nI fd), .ref b_m, .int (nI th)])), (a_n, .inl (cI, 6, .inl (upd (rowK (fun _ => bit1 0) ne j) j (bit1 (1 - 1))))), (a_t, .inl (cZ, 6, .inl (zF (upB (rowB (fun _ => false) tr j) j false)))), (a_p, .inl (cI, 6, .inl (nF (upN (rowN (fun _ => 1) pn j) j 1))))]) (fun _ : Unit => [(mh, .inr (8, [.int (nI k), .ref a_n, .ref a_t, .ref a_p, .ref a_f, .int (nI 0), .ref b_p, .ref b_t, .ref b_s, .ref b_d, .ref b_l, .ref b_b, .ref b_o, .ref b_g, .ref b_w, .ref b_x, .ref b_y, .int fs, .int sc, .int (nI fd), .ref b_m, .int (nI th)])), (a_n, .inl (cI, 6, .inl (upd (rowK (fun _ => bit1 0) ne j) j (bit1 (1 - 1))))), (a_t, .inl (cZ, 6, .inl (zF (upB (rowB (fun _ => false) tr j) j false)))), (a_p, .inl (cI, 6, .inl (nF (upN (rowN (fun _ => 1) pn j) j 1)))), (a_f, .inl (cI, 6, .inl (rowK (fun _ => nI 0) ft j)))]) (c_X8_setAccess l D cI cZ cJ mh k 0 fd th fs sc (rowB (fun _ => false) tr j) (rowN (fun _ => 1) pn j) (rowK (fun _ => bit1 0) ne j) a_n a_t a_p a_f b_p b_t b_s b_d b_l b_b b_o b_g b_w b_x b_y b_m j 1 (by first | with_reducible assumption | with_reducible exact scB_lt _ _ | with_reducible exact npN_lt _ _ | omega | decide) (by first | with_reducible assumption | with_reducible exact scB_lt _ _ | with_reducible exact npN_lt _ _ | omega | decide)) dX8_reset_21 gX8_reset_X8_setAccess rfl kd_X8_setAccess ⟨by decide, by decide⟩ ⟨by decide, by decide⟩ rfl rfl rfl rfl rfl (Nat.le_of_ble_eq_true rfl) [0, 1, 2, 3] [4] [1, 2, 3, 4, 0] rfl rfl rfl (fun _ => rfl) (fun _ => ?_)
    refine vz_aload_n C 1 dX8_reset_24 rfl rfl ?_
    refine vz_get (C1 := RX8) (T1 := TX8) (N := 22) C in_X8_reset_X8 0 4 dX8_reset_25 rfl rfl (by decide) (by decide +kernel) rfl ?_
    refine vz_iload_n C 0 dX8_reset_28 rfl rfl ?_
    refine vz_iconst (v := (nI 0)) C dX8_reset_29 (by decide) ?_
    refine vz_iast C [(mh, .inr (8, [.int (nI k), .ref a_n, .ref a_t, .ref a_p, .ref a_f, .int (nI 0), .ref b_p, .ref b_t, .ref b_s, .ref b_d, .ref b_l, .ref b_b, .ref b_o, .ref b_g, .ref b_w, .ref b_x, .ref b_y, .int fs, .int sc, .int (nI fd), .ref b_m, .int (nI th)])), (a_n, .inl (cI, 6, .inl (upd (rowK (fun _ => bit1 0) ne j) j (bit1 (1 - 1))))), (a_t, .inl (cZ, 6, .inl (zF (upB (rowB (fun _ => false) tr j) j false)))), (a_p, .inl (cI, 6, .inl (nF (upN (rowN (fun _ => 1) pn j) j 1)))), (a_f, .inl (cI, 6, .inl (upd (rowK (fun _ => nI 0) ft j) j (nI 0))))] 4 0 j dX8_reset_30 rfl rfl rfl (by first | with_reducible assumption | with_reducible exact scB_lt _ _ | with_reducible exact npN_lt _ _ | omega | decide) (by decide) rfl ?_
    refine vz_iinc C 0 [(2, .int (nI (j + 1))), (0, .ref mh), (1, .int (nI k))] dX8_reset_31 rfl (vz_inc j 1 rfl) (by decide) rfl ?_
    refine vz_goto (tgt := 12) C dX8_reset_34 (by decide) ?_
    exact vz_to (ih1 () trivial) (by rw [upB_rowB (fun _ => false) tr j, upN_rowN (fun _ => 1) pn j, show bit1 (1 - 1) = (fun _ : Nat => bit1 0) j from rfl, upd_rowK, show nI 0 = (fun _ : Nat => nI 0) j from rfl, upd_rowK]) (by rfl) rfl
  refine vz_iload_n C 0 dX8_reset_12 rfl rfl ?_
  refine vz_bipush (v := (nI 6)) C dX8_reset_13 (by decide) ?_
  refine vz_icmp_ge_t (tgt := 37) C dX8_reset_15 (by decide) (by decide) ?_
  refine vz_arr (f := (rowK (fun _ => bit1 0) ne 6)) (fun _ => bit1 0) [(mh, .inr (8, [.int (nI k), .ref a_n, .ref a_t, .ref a_p, .ref a_f, .int (nI 0), .ref b_p, .ref b_t, .ref b_s, .ref b_d, .ref b_l, .ref b_b, .ref b_o, .ref b_g, .ref b_w, .ref b_x, .ref b_y, .int fs, .int sc, .int (nI fd), .ref b_m, .int (nI th)])), (a_n, .inl (cI, 6, .inl (fun _ => bit1 0))), (a_t, .inl (cZ, 6, .inl (zF (rowB (fun _ => false) tr 6)))), (a_p, .inl (cI, 6, .inl (nF (rowN (fun _ => 1) pn 6)))), (a_f, .inl (cI, 6, .inl (rowK (fun _ => nI 0) ft 6)))] 1 rfl (fun j hj => if_pos hj) rfl ?_
  refine vz_arr (f := (zF (rowB (fun _ => false) tr 6))) (zF (fun _ => false)) [(mh, .inr (8, [.int (nI k), .ref a_n, .ref a_t, .ref a_p, .ref a_f, .int (nI 0), .ref b_p, .ref b_t, .ref b_s, .ref b_d, .ref b_l, .ref b_b, .ref b_o, .ref b_g, .ref b_w, .ref b_x, .ref b_y, .int fs, .int sc, .int (nI fd), .ref b_m, .int (nI th)])), (a_n, .inl (cI, 6, .inl (fun _ => bit1 0))), (a_t, .inl (cZ, 6, .inl (zF (fun _ => false)))), (a_p, .inl (cI, 6, .inl (nF (rowN (fun _ => 1) pn 6)))), (a_f, .inl (cI, 6, .inl (rowK (fun _ => nI 0) ft 6)))] 2 rfl (fun j hj => congrArg bI (if_pos hj)) rfl ?_
  refine vz_arr (f := (nF (rowN (fun _ => 1) pn 6))) (nF (fun _ => 1)) [(mh, .inr (8, [.int (nI k), .ref a_n, .ref a_t, .ref a_p, .ref a_f, .int (nI 0), .ref b_p, .ref b_t, .ref b_s, .ref b_d, .ref b_l, .ref b_b, .ref b_o, .ref b_g, .ref b_w, .ref b_x, .ref b_y, .int fs, .int sc, .int (nI fd), .ref b_m, .int (nI th)])), (a_n, .inl (cI, 6, .inl (fun _ => bit1 0))), (a_t, .inl (cZ, 6, .inl (zF (fun _ => false)))), (a_p, .inl (cI, 6, .inl (nF (fun _ => 1)))), (a_f, .inl (cI, 6, .inl (rowK (fun _ => nI 0) ft 6)))] 3 rfl (fun j hj => congrArg nI (if_pos hj)) rfl ?_
  refine vz_arr (f := (rowK (fun _ => nI 0) ft 6)) (fun _ => nI 0) [(mh, .inr (8, [.int (nI k), .ref a_n, .ref a_t, .ref a_p, .ref a_f, .int (nI 0), .ref b_p, .ref b_t, .ref b_s, .ref b_d, .ref b_l, .ref b_b, .ref b_o, .ref b_g, .ref b_w, .ref b_x, .ref b_y, .int fs, .int sc, .int (nI fd), .ref b_m, .int (nI th)])), (a_n, .inl (cI, 6, .inl (fun _ => bit1 0))), (a_t, .inl (cZ, 6, .inl (zF (fun _ => false)))), (a_p, .inl (cI, 6, .inl (nF (fun _ => 1)))), (a_f, .inl (cI, 6, .inl (fun _ => nI 0)))] 4 rfl (fun j hj => if_pos hj) rfl ?_
  exact vz_vret C () hr dX8_reset_37 rfl

set_option maxRecDepth 100000 in
set_option maxHeartbeats 400000 in
theorem c_X8_begin_t (l : Launch) (D : va_G) (cI cZ cJ : ClassId) (mh : Nat) (np : Nat) (n : Nat) (fd : Nat) (th : Nat) (fs : Int32) (sc : Int32) (tr : Nat → Bool) (pn : Nat → Nat) (ne : Nat → Int32) (ft : Nat → Int32) (a_n : Nat) (a_t : Nat) (a_p : Nat) (a_f : Nat) (b_p : Nat) (b_t : Nat) (b_s : Nat) (b_d : Nat) (b_l : Nat) (b_b : Nat) (b_o : Nat) (b_g : Nat) (b_w : Nat) (b_x : Nat) (b_y : Nat) (b_m : Nat) (k : Nat) (hp0 : 2 ≤ k) (hp1 : k ≤ 6)  : cnV l yX8_begin wsX8_begin { frames := 2, cells := 0, slots := 0, locals := 44 } D [(cI, .int), (cZ, .boolean), (cJ, .long)] [.ref mh, .int (nI k)] [(mh, .inr (8, [.int (nI np), .ref a_n, .ref a_t, .ref a_p, .ref a_f, .int (nI n), .ref b_p, .ref b_t, .ref b_s, .ref b_d, .ref b_l, .ref b_b, .ref b_o, .ref b_g, .ref b_w, .ref b_x, .ref b_y, .int fs, .int sc, .int (nI fd), .ref b_m, .int (nI th)])), (a_n, .inl (cI, 6, .inl ne)), (a_t, .inl (cZ, 6, .inl (zF tr))), (a_p, .inl (cI, 6, .inl (nF pn))), (a_f, .inl (cI, 6, .inl ft))] (fun _ : Unit => [(mh, .inr (8, [.int (nI k), .ref a_n, .ref a_t, .ref a_p, .ref a_f, .int (nI 0), .ref b_p, .ref b_t, .ref b_s, .ref b_d, .ref b_l, .ref b_b, .ref b_o, .ref b_g, .ref b_w, .ref b_x, .ref b_y, .int fs, .int sc, .int (nI fd), .ref b_m, .int (nI 0)])), (a_n, .inl (cI, 6, .inl (fun _ => bit1 0))), (a_t, .inl (cZ, 6, .inl (zF (fun _ => false)))), (a_p, .inl (cI, 6, .inl (nF (fun _ => 1)))), (a_f, .inl (cI, 6, .inl (fun _ => nI 0)))]) := by
  refine cnV.mk (cc := cX8_begin) (nL := 2) (ret := none) (by decide) rfl (Nat.le_of_ble_eq_true rfl) ?_
  intro p_ e_ s_ m_ g_ b_ mt_ cd_ A_ C hr
  refine vz_aload_n C 0 dX8_begin_0 rfl rfl ?_
  refine vz_iload_n C 1 dX8_begin_1 rfl rfl ?_
  refine vz_iconst (v := (nI 2)) C dX8_begin_2 (by decide) ?_
  refine vz_icmp_lt_f (tgt := 16) C dX8_begin_3 (by decide) (nI_nlt (by first | with_reducible assumption | omega) (by first | with_reducible assumption | omega)) ?_
  refine vz_iload_n C 1 dX8_begin_6 rfl rfl ?_
  refine vz_bipush (v := (nI 6)) C dX8_begin_7 (by decide) ?_
  refine vz_icmp_gt_f (tgt := 16) C dX8_begin_9 (by decide) (nI_nlt (by first | with_reducible assumption | omega) (by first | with_reducible assumption | omega)) ?_
  refine vz_iconst (v := (nI 1)) C dX8_begin_12 (by decide) ?_
  refine vz_goto (tgt := 17) C dX8_begin_13 (by decide) ?_
  refine vz_callVi (q0 := 0) (rest := []) (wr := [(a_n, .inl (cI, 6, .inl ne)), (a_t, .inl (cZ, 6, .inl (zF tr))), (a_p, .inl (cI, 6, .inl (nF pn))), (a_f, .inl (cI, 6, .inl ft))]) C (fun _ : Unit => [(mh, .inr (8, [.int (nI np), .ref a_n, .ref a_t, .ref a_p, .ref a_f, .int (nI n), .ref b_p, .ref b_t, .ref b_s, .ref b_d, .ref b_l, .ref b_b, .ref b_o, .ref b_g, .ref b_w, .ref b_x, .ref b_y, .int fs, .int sc, .int (nI fd), .ref b_m, .int (nI 0)]))]) (fun _ : Unit => [(mh, .inr (8, [.int (nI np), .ref a_n, .ref a_t, .ref a_p, .ref a_f, .int (nI n), .ref b_p, .ref b_t, .ref b_s, .ref b_d, .ref b_l, .ref b_b, .ref b_o, .ref b_g, .ref b_w, .ref b_x, .ref b_y, .int fs, .int sc, .int (nI fd), .ref b_m, .int (nI 0)])), (a_n, .inl (cI, 6, .inl ne)), (a_t, .inl (cZ, 6, .inl (zF tr))), (a_p, .inl (cI, 6, .inl (nF pn))), (a_f, .inl (cI, 6, .inl ft))]) (c_X8_may_t l D cI cZ cJ mh np n fd th fs sc a_n a_t a_p a_f b_p b_t b_s b_d b_l b_b b_o b_g b_w b_x b_y b_m) dX8_begin_17 gX8_begin_X8_may rfl kd_X8_may ⟨by decide, by decide⟩ ⟨by decide, by decide⟩ rfl rfl rfl rfl rfl (Nat.le_of_ble_eq_true rfl) [0] [1, 2, 3, 4] [4, 0, 1, 2, 3] rfl rfl rfl (fun _ => rfl) (fun _ => ?_)
  refine vz_if_eq_f (tgt := 28) C dX8_begin_20 (by decide) (by decide) ?_
  refine vz_aload_n C 0 dX8_begin_23 rfl rfl ?_
  refine vz_iload_n C 1 dX8_begin_24 rfl rfl ?_
  refine vz_callVv (q0 := 0) (rest := []) (wr := []) C (fun _ : Unit => [(mh, .inr (8, [.int (nI k), .ref a_n, .ref a_t, .ref a_p, .ref a_f, .int (nI 0), .ref b_p, .ref b_t, .ref b_s, .ref b_d, .ref b_l, .ref b_b, .ref b_o, .ref b_g, .ref b_w, .ref b_x, .ref b_y, .int fs, .int sc, .int (nI fd), .ref b_m, .int (nI 0)])), (a_n, .inl (cI, 6, .inl (fun _ => bit1 0))), (a_t, .inl (cZ, 6, .inl (zF (fun _ => false)))), (a_p, .inl (cI, 6, .inl (nF (fun _ => 1)))), (a_f, .inl (cI, 6, .inl (fun _ => nI 0)))]) (fun _ : Unit => [(mh, .inr (8, [.int (nI k), .ref a_n, .ref a_t, .ref a_p, .ref a_f, .int (nI 0), .ref b_p, .ref b_t, .ref b_s, .ref b_d, .ref b_l, .ref b_b, .ref b_o, .ref b_g, .ref b_w, .ref b_x, .ref b_y, .int fs, .int sc, .int (nI fd), .ref b_m, .int (nI 0)])), (a_n, .inl (cI, 6, .inl (fun _ => bit1 0))), (a_t, .inl (cZ, 6, .inl (zF (fun _ => false)))), (a_p, .inl (cI, 6, .inl (nF (fun _ => 1)))), (a_f, .inl (cI, 6, .inl (fun _ => nI 0)))]) (c_X8_reset l D cI cZ cJ mh np n fd 0 fs sc tr pn ne ft a_n a_t a_p a_f b_p b_t b_s b_d b_l b_b b_o b_g b_w b_x b_y b_m k) dX8_begin_25 gX8_begin_X8_reset rfl kd_X8_reset ⟨by decide, by decide⟩ ⟨by decide, by decide⟩ rfl rfl rfl rfl rfl (Nat.le_of_ble_eq_true rfl) [0, 1, 2, 3, 4] [] [0, 1, 2, 3, 4] rfl rfl rfl (fun _ => rfl) (fun _ => ?_)
  exact vz_vret C () hr dX8_begin_28 rfl

set_option maxRecDepth 100000 in
set_option maxHeartbeats 400000 in
theorem c_X8_begin_f (l : Launch) (D : va_G) (cI cZ cJ : ClassId) (mh : Nat) (np : Nat) (n : Nat) (fd : Nat) (th : Nat) (fs : Int32) (sc : Int32) (a_n : Nat) (a_t : Nat) (a_p : Nat) (a_f : Nat) (b_p : Nat) (b_t : Nat) (b_s : Nat) (b_d : Nat) (b_l : Nat) (b_b : Nat) (b_o : Nat) (b_g : Nat) (b_w : Nat) (b_x : Nat) (b_y : Nat) (b_m : Nat) (k : Int32) (hp0 : k < nI 2 ∨ nI 6 < k)  : cnV l yX8_begin wsX8_begin { frames := 2, cells := 0, slots := 0, locals := 44 } D [(cI, .int), (cZ, .boolean), (cJ, .long)] [.ref mh, .int k] [(mh, .inr (8, [.int (nI np), .ref a_n, .ref a_t, .ref a_p, .ref a_f, .int (nI n), .ref b_p, .ref b_t, .ref b_s, .ref b_d, .ref b_l, .ref b_b, .ref b_o, .ref b_g, .ref b_w, .ref b_x, .ref b_y, .int fs, .int sc, .int (nI fd), .ref b_m, .int (nI th)]))] (fun _ : Unit => [(mh, .inr (8, [.int (nI np), .ref a_n, .ref a_t, .ref a_p, .ref a_f, .int (nI n), .ref b_p, .ref b_t, .ref b_s, .ref b_d, .ref b_l, .ref b_b, .ref b_o, .ref b_g, .ref b_w, .ref b_x, .ref b_y, .int fs, .int sc, .int (nI fd), .ref b_m, .int (nI 1)]))]) := by
  refine cnV.mk (cc := cX8_begin) (nL := 2) (ret := none) (by decide) rfl (Nat.le_of_ble_eq_true rfl) ?_
  intro p_ e_ s_ m_ g_ b_ mt_ cd_ A_ C hr
  refine vz_aload_n C 0 dX8_begin_0 rfl rfl ?_
  refine vz_iload_n C 1 dX8_begin_1 rfl rfl ?_
  refine vz_iconst (v := (nI 2)) C dX8_begin_2 (by decide) ?_
  refine vz_icmp_lt (tgt := 16) C dX8_begin_3 (by decide) (Pr := k < (nI 2)) Iff.rfl (fun h1 => ?_) (fun h1 => ?_)
  · refine vz_iconst (v := (nI 0)) C dX8_begin_16 (by decide) ?_
    refine vz_callVi (q0 := 0) (rest := []) (wr := []) C (fun _ : Unit => [(mh, .inr (8, [.int (nI np), .ref a_n, .ref a_t, .ref a_p, .ref a_f, .int (nI n), .ref b_p, .ref b_t, .ref b_s, .ref b_d, .ref b_l, .ref b_b, .ref b_o, .ref b_g, .ref b_w, .ref b_x, .ref b_y, .int fs, .int sc, .int (nI fd), .ref b_m, .int (nI 1)]))]) (fun _ : Unit => [(mh, .inr (8, [.int (nI np), .ref a_n, .ref a_t, .ref a_p, .ref a_f, .int (nI n), .ref b_p, .ref b_t, .ref b_s, .ref b_d, .ref b_l, .ref b_b, .ref b_o, .ref b_g, .ref b_w, .ref b_x, .ref b_y, .int fs, .int sc, .int (nI fd), .ref b_m, .int (nI 1)]))]) (c_X8_may_f l D cI cZ cJ mh np n fd th fs sc a_n a_t a_p a_f b_p b_t b_s b_d b_l b_b b_o b_g b_w b_x b_y b_m) dX8_begin_17 gX8_begin_X8_may rfl kd_X8_may ⟨by decide, by decide⟩ ⟨by decide, by decide⟩ rfl rfl rfl rfl rfl (Nat.le_of_ble_eq_true rfl) [0] [] [0] rfl rfl rfl (fun _ => rfl) (fun _ => ?_)
    refine vz_if_eq_t (tgt := 28) C dX8_begin_20 (by decide) (by decide) ?_
    exact vz_vret C () hr dX8_begin_28 rfl
  · refine vz_iload_n C 1 dX8_begin_6 rfl rfl ?_
    refine vz_bipush (v := (nI 6)) C dX8_begin_7 (by decide) ?_
    refine vz_icmp_gt_t (tgt := 16) C dX8_begin_9 (by decide) (hp0.resolve_left (by assumption)) ?_
    refine vz_iconst (v := (nI 0)) C dX8_begin_16 (by decide) ?_
    refine vz_callVi (q0 := 0) (rest := []) (wr := []) C (fun _ : Unit => [(mh, .inr (8, [.int (nI np), .ref a_n, .ref a_t, .ref a_p, .ref a_f, .int (nI n), .ref b_p, .ref b_t, .ref b_s, .ref b_d, .ref b_l, .ref b_b, .ref b_o, .ref b_g, .ref b_w, .ref b_x, .ref b_y, .int fs, .int sc, .int (nI fd), .ref b_m, .int (nI 1)]))]) (fun _ : Unit => [(mh, .inr (8, [.int (nI np), .ref a_n, .ref a_t, .ref a_p, .ref a_f, .int (nI n), .ref b_p, .ref b_t, .ref b_s, .ref b_d, .ref b_l, .ref b_b, .ref b_o, .ref b_g, .ref b_w, .ref b_x, .ref b_y, .int fs, .int sc, .int (nI fd), .ref b_m, .int (nI 1)]))]) (c_X8_may_f l D cI cZ cJ mh np n fd th fs sc a_n a_t a_p a_f b_p b_t b_s b_d b_l b_b b_o b_g b_w b_x b_y b_m) dX8_begin_17 gX8_begin_X8_may rfl kd_X8_may ⟨by decide, by decide⟩ ⟨by decide, by decide⟩ rfl rfl rfl rfl rfl (Nat.le_of_ble_eq_true rfl) [0] [] [0] rfl rfl rfl (fun _ => rfl) (fun _ => ?_)
    refine vz_if_eq_t (tgt := 28) C dX8_begin_20 (by decide) (by decide) ?_
    exact vz_vret C () hr dX8_begin_28 rfl

set_option maxRecDepth 100000 in
set_option maxHeartbeats 400000 in
theorem c_X8_ports (l : Launch) (D : va_G) (cI cZ cJ : ClassId) (mh : Nat) (np : Nat) (n : Nat) (fd : Nat) (th : Nat) (fs : Int32) (sc : Int32) (a_n : Nat) (a_t : Nat) (a_p : Nat) (a_f : Nat) (b_p : Nat) (b_t : Nat) (b_s : Nat) (b_d : Nat) (b_l : Nat) (b_b : Nat) (b_o : Nat) (b_g : Nat) (b_w : Nat) (b_x : Nat) (b_y : Nat) (b_m : Nat)   : cnI l yX8_ports wsX8_ports { frames := 0, cells := 0, slots := 0, locals := 0 } D [(cI, .int), (cZ, .boolean), (cJ, .long)] [.ref mh] [(mh, .inr (8, [.int (nI np), .ref a_n, .ref a_t, .ref a_p, .ref a_f, .int (nI n), .ref b_p, .ref b_t, .ref b_s, .ref b_d, .ref b_l, .ref b_b, .ref b_o, .ref b_g, .ref b_w, .ref b_x, .ref b_y, .int fs, .int sc, .int (nI fd), .ref b_m, .int (nI th)]))] (nI np) (fun _ : Unit => [(mh, .inr (8, [.int (nI np), .ref a_n, .ref a_t, .ref a_p, .ref a_f, .int (nI n), .ref b_p, .ref b_t, .ref b_s, .ref b_d, .ref b_l, .ref b_b, .ref b_o, .ref b_g, .ref b_w, .ref b_x, .ref b_y, .int fs, .int sc, .int (nI fd), .ref b_m, .int (nI 0)]))]) := by
  refine cnI.mk (cc := cX8_ports) (nL := 1) (ret := (some .int)) (by decide) rfl (Nat.le_of_ble_eq_true rfl) ?_
  intro p_ e_ s_ m_ g_ b_ mt_ cd_ A_ C hr
  refine vz_aload_n C 0 dX8_ports_0 rfl rfl ?_
  refine vz_iconst (v := (nI 0)) C dX8_ports_1 (by decide) ?_
  refine vz_put (C1 := RX8) (T1 := TX8) (N := 22) C [(mh, .inr (8, [.int (nI np), .ref a_n, .ref a_t, .ref a_p, .ref a_f, .int (nI n), .ref b_p, .ref b_t, .ref b_s, .ref b_d, .ref b_l, .ref b_b, .ref b_o, .ref b_g, .ref b_w, .ref b_x, .ref b_y, .int fs, .int sc, .int (nI fd), .ref b_m, .int (nI 0)]))] in_X8_ports_X8 tyX8 tyX8_ok nmX8 0 21 dX8_ports_2 rfl rfl (by decide) (by decide +kernel) rfl (tyX8_ok 21 (by decide)) rfl rfl (Nat.le_of_ble_eq_true rfl) rfl ?_
  refine vz_aload_n C 0 dX8_ports_5 rfl rfl ?_
  refine vz_get (C1 := RX8) (T1 := TX8) (N := 22) C in_X8_ports_X8 0 0 dX8_ports_6 rfl rfl (by decide) (by decide +kernel) rfl ?_
  exact vz_iret C () hr dX8_ports_9 (by first | rfl | simp only [Bool.true_and, Bool.false_and, Bool.and_true, Bool.and_false, Bool.true_or, Bool.false_or, Bool.or_true, Bool.or_false, Bool.not_true, Bool.not_false, vz_bI1, vz_bI0, Bool.false_eq_true, if_true, if_false]) rfl

set_option maxRecDepth 100000 in
set_option maxHeartbeats 400000 in
theorem c_X8_access_t (l : Launch) (D : va_G) (cI cZ cJ : ClassId) (mh : Nat) (np : Nat) (n : Nat) (fd : Nat) (th : Nat) (fs : Int32) (sc : Int32) (tr : Nat → Bool) (pn : Nat → Nat) (ne : Nat → Int32) (a_n : Nat) (a_t : Nat) (a_p : Nat) (a_f : Nat) (b_p : Nat) (b_t : Nat) (b_s : Nat) (b_d : Nat) (b_l : Nat) (b_b : Nat) (b_o : Nat) (b_g : Nat) (b_w : Nat) (b_x : Nat) (b_y : Nat) (b_m : Nat) (p : Nat) (v : Nat) (hp0 : p < np) (hp1 : np ≤ 6) (hp2 : 1 ≤ v) (hp3 : v ≤ 4)  : cnV l yX8_access wsX8_access { frames := 1, cells := 0, slots := 0, locals := 22 } D [(cI, .int), (cZ, .boolean), (cJ, .long)] [.ref mh, .int (nI p), .int (nI v)] [(mh, .inr (8, [.int (nI np), .ref a_n, .ref a_t, .ref a_p, .ref a_f, .int (nI n), .ref b_p, .ref b_t, .ref b_s, .ref b_d, .ref b_l, .ref b_b, .ref b_o, .ref b_g, .ref b_w, .ref b_x, .ref b_y, .int fs, .int sc, .int (nI fd), .ref b_m, .int (nI th)])), (a_n, .inl (cI, 6, .inl ne)), (a_t, .inl (cZ, 6, .inl (zF tr))), (a_p, .inl (cI, 6, .inl (nF pn)))] (fun _ : Unit => [(mh, .inr (8, [.int (nI np), .ref a_n, .ref a_t, .ref a_p, .ref a_f, .int (nI n), .ref b_p, .ref b_t, .ref b_s, .ref b_d, .ref b_l, .ref b_b, .ref b_o, .ref b_g, .ref b_w, .ref b_x, .ref b_y, .int fs, .int sc, .int (nI fd), .ref b_m, .int (nI 0)])), (a_n, .inl (cI, 6, .inl (upd ne p (bit1 (v - 1))))), (a_t, .inl (cZ, 6, .inl (zF (upB tr p false)))), (a_p, .inl (cI, 6, .inl (nF (upN pn p v))))]) := by
  refine cnV.mk (cc := cX8_access) (nL := 3) (ret := none) (by decide) rfl (Nat.le_of_ble_eq_true rfl) ?_
  intro p_ e_ s_ m_ g_ b_ mt_ cd_ A_ C hr
  refine vz_aload_n C 0 dX8_access_0 rfl rfl ?_
  refine vz_aload_n C 0 dX8_access_1 rfl rfl ?_
  refine vz_iload_n C 1 dX8_access_2 rfl rfl ?_
  refine vz_callVi (q0 := 0) (rest := [.ref mh]) (wr := [(a_n, .inl (cI, 6, .inl ne)), (a_t, .inl (cZ, 6, .inl (zF tr))), (a_p, .inl (cI, 6, .inl (nF pn)))]) C (fun _ : Unit => [(mh, .inr (8, [.int (nI np), .ref a_n, .ref a_t, .ref a_p, .ref a_f, .int (nI n), .ref b_p, .ref b_t, .ref b_s, .ref b_d, .ref b_l, .ref b_b, .ref b_o, .ref b_g, .ref b_w, .ref b_x, .ref b_y, .int fs, .int sc, .int (nI fd), .ref b_m, .int (nI th)]))]) (fun _ : Unit => [(mh, .inr (8, [.int (nI np), .ref a_n, .ref a_t, .ref a_p, .ref a_f, .int (nI n), .ref b_p, .ref b_t, .ref b_s, .ref b_d, .ref b_l, .ref b_b, .ref b_o, .ref b_g, .ref b_w, .ref b_x, .ref b_y, .int fs, .int sc, .int (nI fd), .ref b_m, .int (nI th)])), (a_n, .inl (cI, 6, .inl ne)), (a_t, .inl (cZ, 6, .inl (zF tr))), (a_p, .inl (cI, 6, .inl (nF pn)))]) (c_X8_isPort_t l D cI cZ cJ mh np n fd th fs sc a_n a_t a_p a_f b_p b_t b_s b_d b_l b_b b_o b_g b_w b_x b_y b_m p (by first | with_reducible assumption | with_reducible exact scB_lt _ _ | with_reducible exact npN_lt _ _ | omega | decide) (by first | with_reducible assumption | with_reducible exact scB_lt _ _ | with_reducible exact npN_lt _ _ | omega | decide)) dX8_access_3 gX8_access_X8_isPort rfl kd_X8_isPort ⟨by decide, by decide⟩ ⟨by decide, by decide⟩ rfl rfl rfl rfl rfl (Nat.le_of_ble_eq_true rfl) [0] [1, 2, 3] [3, 0, 1, 2] rfl rfl rfl (fun _ => rfl) (fun _ => ?_)
  refine vz_iload_n C 2 dX8_access_6 rfl rfl ?_
  refine vz_iconst (v := (nI 1)) C dX8_access_7 (by decide) ?_
  refine vz_icmp_lt_f (tgt := 20) C dX8_access_8 (by decide) (nI_nlt (by first | with_reducible assumption | omega) (by first | with_reducible assumption | omega)) ?_
  refine vz_iload_n C 2 dX8_access_11 rfl rfl ?_
  refine vz_iconst (v := (nI 4)) C dX8_access_12 (by decide) ?_
  refine vz_icmp_gt_f (tgt := 20) C dX8_access_13 (by decide) (nI_nlt (by first | with_reducible assumption | omega) (by first | with_reducible assumption | omega)) ?_
  refine vz_iconst (v := (nI 1)) C dX8_access_16 (by decide) ?_
  refine vz_goto (tgt := 21) C dX8_access_17 (by decide) ?_
  refine vz_callVi (q0 := 0) (rest := []) (wr := [(a_n, .inl (cI, 6, .inl ne)), (a_t, .inl (cZ, 6, .inl (zF tr))), (a_p, .inl (cI, 6, .inl (nF pn)))]) C (fun _ : Unit => [(mh, .inr (8, [.int (nI np), .ref a_n, .ref a_t, .ref a_p, .ref a_f, .int (nI n), .ref b_p, .ref b_t, .ref b_s, .ref b_d, .ref b_l, .ref b_b, .ref b_o, .ref b_g, .ref b_w, .ref b_x, .ref b_y, .int fs, .int sc, .int (nI fd), .ref b_m, .int (nI 0)]))]) (fun _ : Unit => [(mh, .inr (8, [.int (nI np), .ref a_n, .ref a_t, .ref a_p, .ref a_f, .int (nI n), .ref b_p, .ref b_t, .ref b_s, .ref b_d, .ref b_l, .ref b_b, .ref b_o, .ref b_g, .ref b_w, .ref b_x, .ref b_y, .int fs, .int sc, .int (nI fd), .ref b_m, .int (nI 0)])), (a_n, .inl (cI, 6, .inl ne)), (a_t, .inl (cZ, 6, .inl (zF tr))), (a_p, .inl (cI, 6, .inl (nF pn)))]) (c_X8_mayBoth_t l D cI cZ cJ mh np n fd th fs sc a_n a_t a_p a_f b_p b_t b_s b_d b_l b_b b_o b_g b_w b_x b_y b_m) dX8_access_21 gX8_access_X8_mayBoth rfl kd_X8_mayBoth ⟨by decide, by decide⟩ ⟨by decide, by decide⟩ rfl rfl rfl rfl rfl (Nat.le_of_ble_eq_true rfl) [0] [1, 2, 3] [3, 0, 1, 2] rfl rfl rfl (fun _ => rfl) (fun _ => ?_)
  refine vz_if_eq_f (tgt := 33) C dX8_access_24 (by decide) (by decide) ?_
  refine vz_aload_n C 0 dX8_access_27 rfl rfl ?_
  refine vz_iload_n C 1 dX8_access_28 rfl rfl ?_
  refine vz_iload_n C 2 dX8_access_29 rfl rfl ?_
  refine vz_callVv (q0 := 0) (rest := []) (wr := []) C (fun _ : Unit => [(mh, .inr (8, [.int (nI np), .ref a_n, .ref a_t, .ref a_p, .ref a_f, .int (nI n), .ref b_p, .ref b_t, .ref b_s, .ref b_d, .ref b_l, .ref b_b, .ref b_o, .ref b_g, .ref b_w, .ref b_x, .ref b_y, .int fs, .int sc, .int (nI fd), .ref b_m, .int (nI 0)])), (a_n, .inl (cI, 6, .inl (upd ne p (bit1 (v - 1))))), (a_t, .inl (cZ, 6, .inl (zF (upB tr p false)))), (a_p, .inl (cI, 6, .inl (nF (upN pn p v))))]) (fun _ : Unit => [(mh, .inr (8, [.int (nI np), .ref a_n, .ref a_t, .ref a_p, .ref a_f, .int (nI n), .ref b_p, .ref b_t, .ref b_s, .ref b_d, .ref b_l, .ref b_b, .ref b_o, .ref b_g, .ref b_w, .ref b_x, .ref b_y, .int fs, .int sc, .int (nI fd), .ref b_m, .int (nI 0)])), (a_n, .inl (cI, 6, .inl (upd ne p (bit1 (v - 1))))), (a_t, .inl (cZ, 6, .inl (zF (upB tr p false)))), (a_p, .inl (cI, 6, .inl (nF (upN pn p v))))]) (c_X8_setAccess l D cI cZ cJ mh np n fd 0 fs sc tr pn ne a_n a_t a_p a_f b_p b_t b_s b_d b_l b_b b_o b_g b_w b_x b_y b_m p v (by first | with_reducible assumption | with_reducible exact scB_lt _ _ | with_reducible exact npN_lt _ _ | omega | decide) (by first | with_reducible assumption | with_reducible exact scB_lt _ _ | with_reducible exact npN_lt _ _ | omega | decide)) dX8_access_30 gX8_access_X8_setAccess rfl kd_X8_setAccess ⟨by decide, by decide⟩ ⟨by decide, by decide⟩ rfl rfl rfl rfl rfl (Nat.le_of_ble_eq_true rfl) [0, 1, 2, 3] [] [0, 1, 2, 3] rfl rfl rfl (fun _ => rfl) (fun _ => ?_)
  exact vz_vret C () hr dX8_access_33 rfl

set_option maxRecDepth 100000 in
set_option maxHeartbeats 400000 in
theorem c_X8_access_1 (l : Launch) (D : va_G) (cI cZ cJ : ClassId) (mh : Nat) (np : Nat) (n : Nat) (fd : Nat) (th : Nat) (fs : Int32) (sc : Int32) (a_n : Nat) (a_t : Nat) (a_p : Nat) (a_f : Nat) (b_p : Nat) (b_t : Nat) (b_s : Nat) (b_d : Nat) (b_l : Nat) (b_b : Nat) (b_o : Nat) (b_g : Nat) (b_w : Nat) (b_x : Nat) (b_y : Nat) (b_m : Nat) (p : Int32) (v : Int32) (hp0 : p < 0 ∨ nI np ≤ p)  : cnV l yX8_access wsX8_access { frames := 1, cells := 0, slots := 0, locals := 22 } D [(cI, .int), (cZ, .boolean), (cJ, .long)] [.ref mh, .int p, .int v] [(mh, .inr (8, [.int (nI np), .ref a_n, .ref a_t, .ref a_p, .ref a_f, .int (nI n), .ref b_p, .ref b_t, .ref b_s, .ref b_d, .ref b_l, .ref b_b, .ref b_o, .ref b_g, .ref b_w, .ref b_x, .ref b_y, .int fs, .int sc, .int (nI fd), .ref b_m, .int (nI th)]))] (fun _ : Unit => [(mh, .inr (8, [.int (nI np), .ref a_n, .ref a_t, .ref a_p, .ref a_f, .int (nI n), .ref b_p, .ref b_t, .ref b_s, .ref b_d, .ref b_l, .ref b_b, .ref b_o, .ref b_g, .ref b_w, .ref b_x, .ref b_y, .int fs, .int sc, .int (nI fd), .ref b_m, .int (nI 1)]))]) := by
  refine cnV.mk (cc := cX8_access) (nL := 3) (ret := none) (by decide) rfl (Nat.le_of_ble_eq_true rfl) ?_
  intro p_ e_ s_ m_ g_ b_ mt_ cd_ A_ C hr
  refine vz_aload_n C 0 dX8_access_0 rfl rfl ?_
  refine vz_aload_n C 0 dX8_access_1 rfl rfl ?_
  refine vz_iload_n C 1 dX8_access_2 rfl rfl ?_
  refine vz_callVi (q0 := 0) (rest := [.ref mh]) (wr := []) C (fun _ : Unit => [(mh, .inr (8, [.int (nI np), .ref a_n, .ref a_t, .ref a_p, .ref a_f, .int (nI n), .ref b_p, .ref b_t, .ref b_s, .ref b_d, .ref b_l, .ref b_b, .ref b_o, .ref b_g, .ref b_w, .ref b_x, .ref b_y, .int fs, .int sc, .int (nI fd), .ref b_m, .int (nI th)]))]) (fun _ : Unit => [(mh, .inr (8, [.int (nI np), .ref a_n, .ref a_t, .ref a_p, .ref a_f, .int (nI n), .ref b_p, .ref b_t, .ref b_s, .ref b_d, .ref b_l, .ref b_b, .ref b_o, .ref b_g, .ref b_w, .ref b_x, .ref b_y, .int fs, .int sc, .int (nI fd), .ref b_m, .int (nI th)]))]) (c_X8_isPort_f l D cI cZ cJ mh np n fd th fs sc a_n a_t a_p a_f b_p b_t b_s b_d b_l b_b b_o b_g b_w b_x b_y b_m p (by first | with_reducible assumption | with_reducible exact scB_lt _ _ | with_reducible exact npN_lt _ _ | omega | decide)) dX8_access_3 gX8_access_X8_isPort rfl kd_X8_isPort ⟨by decide, by decide⟩ ⟨by decide, by decide⟩ rfl rfl rfl rfl rfl (Nat.le_of_ble_eq_true rfl) [0] [] [0] rfl rfl rfl (fun _ => rfl) (fun _ => ?_)
  refine vz_iload_n C 2 dX8_access_6 rfl rfl ?_
  refine vz_iconst (v := (nI 1)) C dX8_access_7 (by decide) ?_
  refine vz_join [(mh, .inr (8, [.int (nI np), .ref a_n, .ref a_t, .ref a_p, .ref a_f, .int (nI n), .ref b_p, .ref b_t, .ref b_s, .ref b_d, .ref b_l, .ref b_b, .ref b_o, .ref b_g, .ref b_w, .ref b_x, .ref b_y, .int fs, .int sc, .int (nI fd), .ref b_m, .int (nI th)]))] 0 0 21 [(0, .ref mh), (1, .int p), (2, .int v)] [.int (bI ((!decide (v < (nI 1))) && (!decide ((nI 4) < v)))), .int (bI false), .ref mh] (fun hJ1 => ?_) ?_
  · refine vz_icmp_lt (tgt := 20) C dX8_access_8 (by decide) (Pr := v < (nI 1)) Iff.rfl (fun h2 => ?_) (fun h2 => ?_)
    · refine vz_iconst (v := (nI 0)) C dX8_access_20 (by decide) ?_
      exact vz_to hJ1 (by first | rfl | simp only [if_pos h2, decide_eq_true h2, Bool.true_and, Bool.false_and, Bool.and_true, Bool.and_false, Bool.true_or, Bool.false_or, Bool.or_true, Bool.or_false, Bool.not_true, Bool.not_false, vz_bI1, vz_bI0, Bool.false_eq_true, if_true, if_false]) (by first | rfl | simp only [if_pos h2, decide_eq_true h2, Bool.true_and, Bool.false_and, Bool.and_true, Bool.and_false, Bool.true_or, Bool.false_or, Bool.or_true, Bool.or_false, Bool.not_true, Bool.not_false, vz_bI1, vz_bI0, Bool.false_eq_true, if_true, if_false]) (by first | rfl | simp only [if_pos h2, decide_eq_true h2, Bool.true_and, Bool.false_and, Bool.and_true, Bool.and_false, Bool.true_or, Bool.false_or, Bool.or_true, Bool.or_false, Bool.not_true, Bool.not_false, vz_bI1, vz_bI0, Bool.false_eq_true, if_true, if_false])
    · refine vz_iload_n C 2 dX8_access_11 rfl rfl ?_
      refine vz_iconst (v := (nI 4)) C dX8_access_12 (by decide) ?_
      refine vz_icmp_gt (tgt := 20) C dX8_access_13 (by decide) (Pr := (nI 4) < v) Iff.rfl (fun h3 => ?_) (fun h3 => ?_)
      · refine vz_iconst (v := (nI 0)) C dX8_access_20 (by decide) ?_
        exact vz_to hJ1 (by first | rfl | simp only [if_neg h2, decide_eq_false h2, if_pos h3, decide_eq_true h3, Bool.true_and, Bool.false_and, Bool.and_true, Bool.and_false, Bool.true_or, Bool.false_or, Bool.or_true, Bool.or_false, Bool.not_true, Bool.not_false, vz_bI1, vz_bI0, Bool.false_eq_true, if_true, if_false]) (by first | rfl | simp only [if_neg h2, decide_eq_false h2, if_pos h3, decide_eq_true h3, Bool.true_and, Bool.false_and, Bool.and_true, Bool.and_false, Bool.true_or, Bool.false_or, Bool.or_true, Bool.or_false, Bool.not_true, Bool.not_false, vz_bI1, vz_bI0, Bool.false_eq_true, if_true, if_false]) (by first | rfl | simp only [if_neg h2, decide_eq_false h2, if_pos h3, decide_eq_true h3, Bool.true_and, Bool.false_and, Bool.and_true, Bool.and_false, Bool.true_or, Bool.false_or, Bool.or_true, Bool.or_false, Bool.not_true, Bool.not_false, vz_bI1, vz_bI0, Bool.false_eq_true, if_true, if_false])
      · refine vz_iconst (v := (nI 1)) C dX8_access_16 (by decide) ?_
        refine vz_goto (tgt := 21) C dX8_access_17 (by decide) ?_
        exact vz_to hJ1 (by first | rfl | simp only [if_neg h2, decide_eq_false h2, if_neg h3, decide_eq_false h3, Bool.true_and, Bool.false_and, Bool.and_true, Bool.and_false, Bool.true_or, Bool.false_or, Bool.or_true, Bool.or_false, Bool.not_true, Bool.not_false, vz_bI1, vz_bI0, Bool.false_eq_true, if_true, if_false]) (by first | rfl | simp only [if_neg h2, decide_eq_false h2, if_neg h3, decide_eq_false h3, Bool.true_and, Bool.false_and, Bool.and_true, Bool.and_false, Bool.true_or, Bool.false_or, Bool.or_true, Bool.or_false, Bool.not_true, Bool.not_false, vz_bI1, vz_bI0, Bool.false_eq_true, if_true, if_false]) (by first | rfl | simp only [if_neg h2, decide_eq_false h2, if_neg h3, decide_eq_false h3, Bool.true_and, Bool.false_and, Bool.and_true, Bool.and_false, Bool.true_or, Bool.false_or, Bool.or_true, Bool.or_false, Bool.not_true, Bool.not_false, vz_bI1, vz_bI0, Bool.false_eq_true, if_true, if_false])
  refine vz_callVi (q0 := 0) (rest := []) (wr := []) C (fun _ : Unit => [(mh, .inr (8, [.int (nI np), .ref a_n, .ref a_t, .ref a_p, .ref a_f, .int (nI n), .ref b_p, .ref b_t, .ref b_s, .ref b_d, .ref b_l, .ref b_b, .ref b_o, .ref b_g, .ref b_w, .ref b_x, .ref b_y, .int fs, .int sc, .int (nI fd), .ref b_m, .int (nI 1)]))]) (fun _ : Unit => [(mh, .inr (8, [.int (nI np), .ref a_n, .ref a_t, .ref a_p, .ref a_f, .int (nI n), .ref b_p, .ref b_t, .ref b_s, .ref b_d, .ref b_l, .ref b_b, .ref b_o, .ref b_g, .ref b_w, .ref b_x, .ref b_y, .int fs, .int sc, .int (nI fd), .ref b_m, .int (nI 1)]))]) (c_X8_mayBoth_1 l D cI cZ cJ mh np n fd th fs sc a_n a_t a_p a_f b_p b_t b_s b_d b_l b_b b_o b_g b_w b_x b_y b_m ((!decide (v < (nI 1))) && (!decide ((nI 4) < v)))) dX8_access_21 gX8_access_X8_mayBoth rfl kd_X8_mayBoth ⟨by decide, by decide⟩ ⟨by decide, by decide⟩ rfl rfl rfl rfl rfl (Nat.le_of_ble_eq_true rfl) [0] [] [0] rfl rfl rfl (fun _ => rfl) (fun _ => ?_)
  refine vz_if_eq_t (tgt := 33) C dX8_access_24 (by decide) (by decide) ?_
  exact vz_vret C () hr dX8_access_33 rfl

set_option maxRecDepth 100000 in
set_option maxHeartbeats 400000 in
theorem c_X8_access_2 (l : Launch) (D : va_G) (cI cZ cJ : ClassId) (mh : Nat) (np : Nat) (n : Nat) (fd : Nat) (th : Nat) (fs : Int32) (sc : Int32) (a_n : Nat) (a_t : Nat) (a_p : Nat) (a_f : Nat) (b_p : Nat) (b_t : Nat) (b_s : Nat) (b_d : Nat) (b_l : Nat) (b_b : Nat) (b_o : Nat) (b_g : Nat) (b_w : Nat) (b_x : Nat) (b_y : Nat) (b_m : Nat) (p : Nat) (v : Int32) (hp0 : p < np) (hp1 : np ≤ 6) (hp2 : v < nI 1 ∨ nI 4 < v)  : cnV l yX8_access wsX8_access { frames := 1, cells := 0, slots := 0, locals := 22 } D [(cI, .int), (cZ, .boolean), (cJ, .long)] [.ref mh, .int (nI p), .int v] [(mh, .inr (8, [.int (nI np), .ref a_n, .ref a_t, .ref a_p, .ref a_f, .int (nI n), .ref b_p, .ref b_t, .ref b_s, .ref b_d, .ref b_l, .ref b_b, .ref b_o, .ref b_g, .ref b_w, .ref b_x, .ref b_y, .int fs, .int sc, .int (nI fd), .ref b_m, .int (nI th)]))] (fun _ : Unit => [(mh, .inr (8, [.int (nI np), .ref a_n, .ref a_t, .ref a_p, .ref a_f, .int (nI n), .ref b_p, .ref b_t, .ref b_s, .ref b_d, .ref b_l, .ref b_b, .ref b_o, .ref b_g, .ref b_w, .ref b_x, .ref b_y, .int fs, .int sc, .int (nI fd), .ref b_m, .int (nI 2)]))]) := by
  refine cnV.mk (cc := cX8_access) (nL := 3) (ret := none) (by decide) rfl (Nat.le_of_ble_eq_true rfl) ?_
  intro p_ e_ s_ m_ g_ b_ mt_ cd_ A_ C hr
  refine vz_aload_n C 0 dX8_access_0 rfl rfl ?_
  refine vz_aload_n C 0 dX8_access_1 rfl rfl ?_
  refine vz_iload_n C 1 dX8_access_2 rfl rfl ?_
  refine vz_callVi (q0 := 0) (rest := [.ref mh]) (wr := []) C (fun _ : Unit => [(mh, .inr (8, [.int (nI np), .ref a_n, .ref a_t, .ref a_p, .ref a_f, .int (nI n), .ref b_p, .ref b_t, .ref b_s, .ref b_d, .ref b_l, .ref b_b, .ref b_o, .ref b_g, .ref b_w, .ref b_x, .ref b_y, .int fs, .int sc, .int (nI fd), .ref b_m, .int (nI th)]))]) (fun _ : Unit => [(mh, .inr (8, [.int (nI np), .ref a_n, .ref a_t, .ref a_p, .ref a_f, .int (nI n), .ref b_p, .ref b_t, .ref b_s, .ref b_d, .ref b_l, .ref b_b, .ref b_o, .ref b_g, .ref b_w, .ref b_x, .ref b_y, .int fs, .int sc, .int (nI fd), .ref b_m, .int (nI th)]))]) (c_X8_isPort_t l D cI cZ cJ mh np n fd th fs sc a_n a_t a_p a_f b_p b_t b_s b_d b_l b_b b_o b_g b_w b_x b_y b_m p (by first | with_reducible assumption | with_reducible exact scB_lt _ _ | with_reducible exact npN_lt _ _ | omega | decide) (by first | with_reducible assumption | with_reducible exact scB_lt _ _ | with_reducible exact npN_lt _ _ | omega | decide)) dX8_access_3 gX8_access_X8_isPort rfl kd_X8_isPort ⟨by decide, by decide⟩ ⟨by decide, by decide⟩ rfl rfl rfl rfl rfl (Nat.le_of_ble_eq_true rfl) [0] [] [0] rfl rfl rfl (fun _ => rfl) (fun _ => ?_)
  refine vz_iload_n C 2 dX8_access_6 rfl rfl ?_
  refine vz_iconst (v := (nI 1)) C dX8_access_7 (by decide) ?_
  refine vz_icmp_lt (tgt := 20) C dX8_access_8 (by decide) (Pr := v < (nI 1)) Iff.rfl (fun h1 => ?_) (fun h1 => ?_)
  · refine vz_iconst (v := (nI 0)) C dX8_access_20 (by decide) ?_
    refine vz_callVi (q0 := 0) (rest := []) (wr := []) C (fun _ : Unit => [(mh, .inr (8, [.int (nI np), .ref a_n, .ref a_t, .ref a_p, .ref a_f, .int (nI n), .ref b_p, .ref b_t, .ref b_s, .ref b_d, .ref b_l, .ref b_b, .ref b_o, .ref b_g, .ref b_w, .ref b_x, .ref b_y, .int fs, .int sc, .int (nI fd), .ref b_m, .int (nI 2)]))]) (fun _ : Unit => [(mh, .inr (8, [.int (nI np), .ref a_n, .ref a_t, .ref a_p, .ref a_f, .int (nI n), .ref b_p, .ref b_t, .ref b_s, .ref b_d, .ref b_l, .ref b_b, .ref b_o, .ref b_g, .ref b_w, .ref b_x, .ref b_y, .int fs, .int sc, .int (nI fd), .ref b_m, .int (nI 2)]))]) (c_X8_mayBoth_2 l D cI cZ cJ mh np n fd th fs sc a_n a_t a_p a_f b_p b_t b_s b_d b_l b_b b_o b_g b_w b_x b_y b_m) dX8_access_21 gX8_access_X8_mayBoth rfl kd_X8_mayBoth ⟨by decide, by decide⟩ ⟨by decide, by decide⟩ rfl rfl rfl rfl rfl (Nat.le_of_ble_eq_true rfl) [0] [] [0] rfl rfl rfl (fun _ => rfl) (fun _ => ?_)
    refine vz_if_eq_t (tgt := 33) C dX8_access_24 (by decide) (by decide) ?_
    exact vz_vret C () hr dX8_access_33 rfl
  · refine vz_iload_n C 2 dX8_access_11 rfl rfl ?_
    refine vz_iconst (v := (nI 4)) C dX8_access_12 (by decide) ?_
    refine vz_icmp_gt_t (tgt := 20) C dX8_access_13 (by decide) (hp2.resolve_left (by assumption)) ?_
    refine vz_iconst (v := (nI 0)) C dX8_access_20 (by decide) ?_
    refine vz_callVi (q0 := 0) (rest := []) (wr := []) C (fun _ : Unit => [(mh, .inr (8, [.int (nI np), .ref a_n, .ref a_t, .ref a_p, .ref a_f, .int (nI n), .ref b_p, .ref b_t, .ref b_s, .ref b_d, .ref b_l, .ref b_b, .ref b_o, .ref b_g, .ref b_w, .ref b_x, .ref b_y, .int fs, .int sc, .int (nI fd), .ref b_m, .int (nI 2)]))]) (fun _ : Unit => [(mh, .inr (8, [.int (nI np), .ref a_n, .ref a_t, .ref a_p, .ref a_f, .int (nI n), .ref b_p, .ref b_t, .ref b_s, .ref b_d, .ref b_l, .ref b_b, .ref b_o, .ref b_g, .ref b_w, .ref b_x, .ref b_y, .int fs, .int sc, .int (nI fd), .ref b_m, .int (nI 2)]))]) (c_X8_mayBoth_2 l D cI cZ cJ mh np n fd th fs sc a_n a_t a_p a_f b_p b_t b_s b_d b_l b_b b_o b_g b_w b_x b_y b_m) dX8_access_21 gX8_access_X8_mayBoth rfl kd_X8_mayBoth ⟨by decide, by decide⟩ ⟨by decide, by decide⟩ rfl rfl rfl rfl rfl (Nat.le_of_ble_eq_true rfl) [0] [] [0] rfl rfl rfl (fun _ => rfl) (fun _ => ?_)
    refine vz_if_eq_t (tgt := 33) C dX8_access_24 (by decide) (by decide) ?_
    exact vz_vret C () hr dX8_access_33 rfl

set_option maxRecDepth 100000 in
set_option maxHeartbeats 400000 in
theorem c_X8_has (l : Launch) (D : va_G) (cI cZ cJ : ClassId) (x : Int32) (i : Nat) (hp0 : i < 32)  : cnI l yX8_has wsX8_has { frames := 0, cells := 0, slots := 0, locals := 0 } D [(cI, .int), (cZ, .boolean), (cJ, .long)] [.int x, .int (nI i)] [] (bI (tb x i)) (fun _ : Unit => []) := by
  refine cnI.mk (cc := cX8_has) (nL := 2) (ret := (some .boolean)) (by decide) rfl (Nat.le_of_ble_eq_true rfl) ?_
  intro p_ e_ s_ m_ g_ b_ mt_ cd_ A_ C hr
  refine vz_iload_n C 0 dX8_has_0 rfl rfl ?_
  refine vz_iload_n C 1 dX8_has_1 rfl rfl ?_
  refine vz_ishr (z := (x >>> ((nI i) &&& 31))) C dX8_has_2 rfl ?_
  refine vz_iconst (v := (nI 1)) C dX8_has_3 (by decide) ?_
  refine vz_iand (z := (bI (tb x i))) C dX8_has_4 (tb_shr (by omega)) ?_
  refine vz_iconst (v := (nI 1)) C dX8_has_5 (by decide) ?_
  refine vz_join [] 0 0 14 [(0, .int x), (1, .int (nI i))] [.int (bI (tb x i))] (fun hJ1 => ?_) ?_
  · refine vz_icmp_ne (tgt := 13) C dX8_has_6 (by decide) (Pr := ¬ (tb x i) = true) (not_congr vz_b1) (fun h2 => ?_) (fun h2 => ?_)
    · refine vz_iconst (v := (nI 0)) C dX8_has_13 (by decide) ?_
      exact vz_to hJ1 (by first | rfl | simp only [if_neg h2, decide_eq_false h2, vz_bnt h2, Bool.true_and, Bool.false_and, Bool.and_true, Bool.and_false, Bool.true_or, Bool.false_or, Bool.or_true, Bool.or_false, Bool.not_true, Bool.not_false, vz_bI1, vz_bI0, Bool.false_eq_true, if_true, if_false]) (by first | rfl | simp only [if_neg h2, decide_eq_false h2, vz_bnt h2, Bool.true_and, Bool.false_and, Bool.and_true, Bool.and_false, Bool.true_or, Bool.false_or, Bool.or_true, Bool.or_false, Bool.not_true, Bool.not_false, vz_bI1, vz_bI0, Bool.false_eq_true, if_true, if_false]) (by first | rfl | simp only [if_neg h2, decide_eq_false h2, vz_bnt h2, Bool.true_and, Bool.false_and, Bool.and_true, Bool.and_false, Bool.true_or, Bool.false_or, Bool.or_true, Bool.or_false, Bool.not_true, Bool.not_false, vz_bI1, vz_bI0, Bool.false_eq_true, if_true, if_false])
    · refine vz_iconst (v := (nI 1)) C dX8_has_9 (by decide) ?_
      refine vz_goto (tgt := 14) C dX8_has_10 (by decide) ?_
      exact vz_to hJ1 (by first | rfl | simp only [if_pos (Decidable.not_not.mp h2), decide_eq_true (Decidable.not_not.mp h2), vz_bt (Decidable.not_not.mp h2), Bool.true_and, Bool.false_and, Bool.and_true, Bool.and_false, Bool.true_or, Bool.false_or, Bool.or_true, Bool.or_false, Bool.not_true, Bool.not_false, vz_bI1, vz_bI0, Bool.false_eq_true, if_true, if_false]) (by first | rfl | simp only [if_pos (Decidable.not_not.mp h2), decide_eq_true (Decidable.not_not.mp h2), vz_bt (Decidable.not_not.mp h2), Bool.true_and, Bool.false_and, Bool.and_true, Bool.and_false, Bool.true_or, Bool.false_or, Bool.or_true, Bool.or_false, Bool.not_true, Bool.not_false, vz_bI1, vz_bI0, Bool.false_eq_true, if_true, if_false]) (by first | rfl | simp only [if_pos (Decidable.not_not.mp h2), decide_eq_true (Decidable.not_not.mp h2), vz_bt (Decidable.not_not.mp h2), Bool.true_and, Bool.false_and, Bool.and_true, Bool.and_false, Bool.true_or, Bool.false_or, Bool.or_true, Bool.or_false, Bool.not_true, Bool.not_false, vz_bI1, vz_bI0, Bool.false_eq_true, if_true, if_false])
  exact vz_zret C () hr dX8_has_14 (vz_zn _) (by first | rfl | simp only [Bool.true_and, Bool.false_and, Bool.and_true, Bool.and_false, Bool.true_or, Bool.false_or, Bool.or_true, Bool.or_false, Bool.not_true, Bool.not_false, vz_bI1, vz_bI0, Bool.false_eq_true, if_true, if_false]) rfl
