theorem in_X0_exits_X0 : ∀ w ∈ u_ws RX0 TX0 5, w ∈ wsX0_exits := by decide +kernel
theorem in_X0_forward_X0 : ∀ w ∈ u_ws RX0 TX0 5, w ∈ wsX0_forward := by decide +kernel
theorem in_X0_has_X0 : ∀ w ∈ u_ws RX0 TX0 5, w ∈ wsX0_has := by decide +kernel
theorem in_X0_placeOf_X0 : ∀ w ∈ u_ws RX0 TX0 5, w ∈ wsX0_placeOf := by decide +kernel
theorem in_X0_restart_X0 : ∀ w ∈ u_ws RX0 TX0 5, w ∈ wsX0_restart := by decide +kernel
theorem in_X0_send_X0 : ∀ w ∈ u_ws RX0 TX0 5, w ∈ wsX0_send := by decide +kernel
theorem in_X0_taggedExits_X0 : ∀ w ∈ u_ws RX0 TX0 5, w ∈ wsX0_taggedExits := by decide +kernel
theorem in_X0_why_X0 : ∀ w ∈ u_ws RX0 TX0 5, w ∈ wsX0_why := by decide +kernel
theorem in_X2_accessPorts_X2 : ∀ w ∈ u_ws RX2 TX2 4, w ∈ wsX2_accessPorts := by decide +kernel
theorem in_X2_makeAccess_X2 : ∀ w ∈ u_ws RX2 TX2 4, w ∈ wsX2_makeAccess := by decide +kernel
theorem in_X2_makeTrunk_X2 : ∀ w ∈ u_ws RX2 TX2 4, w ∈ wsX2_makeTrunk := by decide +kernel
theorem in_X2_members_X2 : ∀ w ∈ u_ws RX2 TX2 4, w ∈ wsX2_members := by decide +kernel
theorem in_X2_nativeOf_X2 : ∀ w ∈ u_ws RX2 TX2 4, w ∈ wsX2_nativeOf := by decide +kernel
theorem in_X2_natives_X2 : ∀ w ∈ u_ws RX2 TX2 4, w ∈ wsX2_natives := by decide +kernel
theorem in_X2_portCount_X2 : ∀ w ∈ u_ws RX2 TX2 4, w ∈ wsX2_portCount := by decide +kernel
theorem in_X2_reset_X2 : ∀ w ∈ u_ws RX2 TX2 4, w ∈ wsX2_reset := by decide +kernel
set_option maxRecDepth 100000 in
set_option maxHeartbeats 4000000 in
theorem c_X2_portCount (l : Launch) (D : va_G) (cI cZ cJ : ClassId) (h : Nat) (np : Nat) (ac : Int32) (me : Int32) (na : Int32)   : cnI l yX2_portCount wsX2_portCount { frames := 0, cells := 0, slots := 0, locals := 0 } D [(cI, .int), (cZ, .boolean), (cJ, .long)] [.ref h] [(h, .inr (2, [.int (nI np), .int ac, .int me, .int na]))] (nI np) (fun _ : Unit => [(h, .inr (2, [.int (nI np), .int ac, .int me, .int na]))]) := by
  refine cnI.mk (cc := cX2_portCount) (nL := 1) (ret := (some .int)) (by decide) rfl (Nat.le_of_ble_eq_true rfl) ?_
  intro p_ e_ s_ m_ g_ b_ mt_ cd_ A_ C hr
  refine vz_aload_n C 0 dX2_portCount_0 rfl rfl ?_
  refine vz_get (C1 := RX2) (T1 := TX2) (N := 4) C in_X2_portCount_X2 0 0 dX2_portCount_1 rfl rfl (by decide) (by decide +kernel) rfl ?_
  exact vz_iret C () hr dX2_portCount_4 (by first | rfl | simp only [Bool.true_and, Bool.false_and, Bool.and_true, Bool.and_false, Bool.true_or, Bool.false_or, Bool.or_true, Bool.or_false, Bool.not_true, Bool.not_false, vz_bI1, vz_bI0, Bool.false_eq_true, if_true, if_false]) rfl

set_option maxRecDepth 100000 in
set_option maxHeartbeats 4000000 in
theorem c_X2_accessPorts (l : Launch) (D : va_G) (cI cZ cJ : ClassId) (h : Nat) (np : Nat) (ac : Int32) (me : Int32) (na : Int32)   : cnI l yX2_accessPorts wsX2_accessPorts { frames := 0, cells := 0, slots := 0, locals := 0 } D [(cI, .int), (cZ, .boolean), (cJ, .long)] [.ref h] [(h, .inr (2, [.int (nI np), .int ac, .int me, .int na]))] ac (fun _ : Unit => [(h, .inr (2, [.int (nI np), .int ac, .int me, .int na]))]) := by
  refine cnI.mk (cc := cX2_accessPorts) (nL := 1) (ret := (some .int)) (by decide) rfl (Nat.le_of_ble_eq_true rfl) ?_
  intro p_ e_ s_ m_ g_ b_ mt_ cd_ A_ C hr
  refine vz_aload_n C 0 dX2_accessPorts_0 rfl rfl ?_
  refine vz_get (C1 := RX2) (T1 := TX2) (N := 4) C in_X2_accessPorts_X2 0 1 dX2_accessPorts_1 rfl rfl (by decide) (by decide +kernel) rfl ?_
  exact vz_iret C () hr dX2_accessPorts_4 (by first | rfl | simp only [Bool.true_and, Bool.false_and, Bool.and_true, Bool.and_false, Bool.true_or, Bool.false_or, Bool.or_true, Bool.or_false, Bool.not_true, Bool.not_false, vz_bI1, vz_bI0, Bool.false_eq_true, if_true, if_false]) rfl

set_option maxRecDepth 100000 in
set_option maxHeartbeats 4000000 in
theorem c_X2_members (l : Launch) (D : va_G) (cI cZ cJ : ClassId) (h : Nat) (np : Nat) (ac : Int32) (me : Int32) (na : Int32)   : cnI l yX2_members wsX2_members { frames := 0, cells := 0, slots := 0, locals := 0 } D [(cI, .int), (cZ, .boolean), (cJ, .long)] [.ref h] [(h, .inr (2, [.int (nI np), .int ac, .int me, .int na]))] me (fun _ : Unit => [(h, .inr (2, [.int (nI np), .int ac, .int me, .int na]))]) := by
  refine cnI.mk (cc := cX2_members) (nL := 1) (ret := (some .int)) (by decide) rfl (Nat.le_of_ble_eq_true rfl) ?_
  intro p_ e_ s_ m_ g_ b_ mt_ cd_ A_ C hr
  refine vz_aload_n C 0 dX2_members_0 rfl rfl ?_
  refine vz_get (C1 := RX2) (T1 := TX2) (N := 4) C in_X2_members_X2 0 2 dX2_members_1 rfl rfl (by decide) (by decide +kernel) rfl ?_
  exact vz_iret C () hr dX2_members_4 (by first | rfl | simp only [Bool.true_and, Bool.false_and, Bool.and_true, Bool.and_false, Bool.true_or, Bool.false_or, Bool.or_true, Bool.or_false, Bool.not_true, Bool.not_false, vz_bI1, vz_bI0, Bool.false_eq_true, if_true, if_false]) rfl

set_option maxRecDepth 100000 in
set_option maxHeartbeats 4000000 in
theorem c_X2_natives (l : Launch) (D : va_G) (cI cZ cJ : ClassId) (h : Nat) (np : Nat) (ac : Int32) (me : Int32) (na : Int32)   : cnI l yX2_natives wsX2_natives { frames := 0, cells := 0, slots := 0, locals := 0 } D [(cI, .int), (cZ, .boolean), (cJ, .long)] [.ref h] [(h, .inr (2, [.int (nI np), .int ac, .int me, .int na]))] na (fun _ : Unit => [(h, .inr (2, [.int (nI np), .int ac, .int me, .int na]))]) := by
  refine cnI.mk (cc := cX2_natives) (nL := 1) (ret := (some .int)) (by decide) rfl (Nat.le_of_ble_eq_true rfl) ?_
  intro p_ e_ s_ m_ g_ b_ mt_ cd_ A_ C hr
  refine vz_aload_n C 0 dX2_natives_0 rfl rfl ?_
  refine vz_get (C1 := RX2) (T1 := TX2) (N := 4) C in_X2_natives_X2 0 3 dX2_natives_1 rfl rfl (by decide) (by decide +kernel) rfl ?_
  exact vz_iret C () hr dX2_natives_4 (by first | rfl | simp only [Bool.true_and, Bool.false_and, Bool.and_true, Bool.and_false, Bool.true_or, Bool.false_or, Bool.or_true, Bool.or_false, Bool.not_true, Bool.not_false, vz_bI1, vz_bI0, Bool.false_eq_true, if_true, if_false]) rfl

set_option maxRecDepth 100000 in
set_option maxHeartbeats 4000000 in
theorem c_X2_nativeOf (l : Launch) (D : va_G) (cI cZ cJ : ClassId) (h : Nat) (np : Nat) (ac : Int32) (me : Int32) (na : Int32) (p : Nat) (hp0 : p < 6)  : cnI l yX2_nativeOf wsX2_nativeOf { frames := 0, cells := 0, slots := 0, locals := 0 } D [(cI, .int), (cZ, .boolean), (cJ, .long)] [.ref h, .int (nI p)] [(h, .inr (2, [.int (nI np), .int ac, .int me, .int na]))] (nI (natF na p)) (fun _ : Unit => [(h, .inr (2, [.int (nI np), .int ac, .int me, .int na]))]) := by
  refine cnI.mk (cc := cX2_nativeOf) (nL := 3) (ret := (some .int)) (by decide) rfl (Nat.le_of_ble_eq_true rfl) ?_
  intro p_ e_ s_ m_ g_ b_ mt_ cd_ A_ C hr
  refine vz_iconst (v := (nI 1)) C dX2_nativeOf_0 (by decide) ?_
  refine vz_istore_n C [(2, .int (nI 1)), (0, .ref h), (1, .int (nI p))] dX2_nativeOf_1 rfl (by decide) rfl ?_
  refine vz_iload_n C 0 dX2_nativeOf_2 rfl rfl ?_
  refine vz_iconst (v := (nI 4)) C dX2_nativeOf_3 (by decide) ?_
  refine vz_icmp_gt_f (tgt := 31) C dX2_nativeOf_4 (by decide) (by decide) ?_
  refine vz_aload_n C 1 dX2_nativeOf_7 rfl rfl ?_
  refine vz_get (C1 := RX2) (T1 := TX2) (N := 4) C in_X2_nativeOf_X2 0 3 dX2_nativeOf_8 rfl rfl (by decide) (by decide +kernel) rfl ?_
  refine vz_bipush (v := (nI 6)) C dX2_nativeOf_11 (by decide) ?_
  refine vz_iload_n C 0 dX2_nativeOf_13 rfl rfl ?_
  refine vz_imul (z := (nI 6)) C dX2_nativeOf_14 (pk_mul 6 1) ?_
  refine vz_iload_n C 2 dX2_nativeOf_15 rfl rfl ?_
  refine vz_iadd (z := (nI (6 + p))) C dX2_nativeOf_16 (nI_add 6 p) ?_
  refine vz_ishr (z := (na >>> ((nI (6 + p)) &&& 31))) C dX2_nativeOf_17 rfl ?_
  refine vz_iconst (v := (nI 1)) C dX2_nativeOf_18 (by decide) ?_
  refine vz_iand (z := (bI (tb na (6 + p)))) C dX2_nativeOf_19 (tb_shr (by omega)) ?_
  refine vz_if_eq (tgt := 25) C dX2_nativeOf_20 (by decide) (Pr := (tb na (6 + p)) = false) vz_beq (fun h1 => ?_) (fun h1 => ?_)
  · refine vz_iinc C 0 [(2, .int (nI 2)), (0, .ref h), (1, .int (nI p))] dX2_nativeOf_25 rfl (vz_inc 1 1 rfl) (by decide) rfl ?_
    refine vz_goto (tgt := 2) C dX2_nativeOf_28 (by decide) ?_
    refine vz_iload_n C 0 dX2_nativeOf_2 rfl rfl ?_
    refine vz_iconst (v := (nI 4)) C dX2_nativeOf_3 (by decide) ?_
    refine vz_icmp_gt_f (tgt := 31) C dX2_nativeOf_4 (by decide) (by decide) ?_
    refine vz_aload_n C 1 dX2_nativeOf_7 rfl rfl ?_
    refine vz_get (C1 := RX2) (T1 := TX2) (N := 4) C in_X2_nativeOf_X2 0 3 dX2_nativeOf_8 rfl rfl (by decide) (by decide +kernel) rfl ?_
    refine vz_bipush (v := (nI 6)) C dX2_nativeOf_11 (by decide) ?_
    refine vz_iload_n C 0 dX2_nativeOf_13 rfl rfl ?_
    refine vz_imul (z := (nI 12)) C dX2_nativeOf_14 (pk_mul 6 2) ?_
    refine vz_iload_n C 2 dX2_nativeOf_15 rfl rfl ?_
    refine vz_iadd (z := (nI (12 + p))) C dX2_nativeOf_16 (nI_add 12 p) ?_
    refine vz_ishr (z := (na >>> ((nI (12 + p)) &&& 31))) C dX2_nativeOf_17 rfl ?_
    refine vz_iconst (v := (nI 1)) C dX2_nativeOf_18 (by decide) ?_
    refine vz_iand (z := (bI (tb na (12 + p)))) C dX2_nativeOf_19 (tb_shr (by omega)) ?_
    refine vz_if_eq (tgt := 25) C dX2_nativeOf_20 (by decide) (Pr := (tb na (12 + p)) = false) vz_beq (fun h2 => ?_) (fun h2 => ?_)
    · refine vz_iinc C 0 [(2, .int (nI 3)), (0, .ref h), (1, .int (nI p))] dX2_nativeOf_25 rfl (vz_inc 2 1 rfl) (by decide) rfl ?_
      refine vz_goto (tgt := 2) C dX2_nativeOf_28 (by decide) ?_
      refine vz_iload_n C 0 dX2_nativeOf_2 rfl rfl ?_
      refine vz_iconst (v := (nI 4)) C dX2_nativeOf_3 (by decide) ?_
      refine vz_icmp_gt_f (tgt := 31) C dX2_nativeOf_4 (by decide) (by decide) ?_
      refine vz_aload_n C 1 dX2_nativeOf_7 rfl rfl ?_
      refine vz_get (C1 := RX2) (T1 := TX2) (N := 4) C in_X2_nativeOf_X2 0 3 dX2_nativeOf_8 rfl rfl (by decide) (by decide +kernel) rfl ?_
      refine vz_bipush (v := (nI 6)) C dX2_nativeOf_11 (by decide) ?_
      refine vz_iload_n C 0 dX2_nativeOf_13 rfl rfl ?_
      refine vz_imul (z := (nI 18)) C dX2_nativeOf_14 (pk_mul 6 3) ?_
      refine vz_iload_n C 2 dX2_nativeOf_15 rfl rfl ?_
      refine vz_iadd (z := (nI (18 + p))) C dX2_nativeOf_16 (nI_add 18 p) ?_
      refine vz_ishr (z := (na >>> ((nI (18 + p)) &&& 31))) C dX2_nativeOf_17 rfl ?_
      refine vz_iconst (v := (nI 1)) C dX2_nativeOf_18 (by decide) ?_
      refine vz_iand (z := (bI (tb na (18 + p)))) C dX2_nativeOf_19 (tb_shr (by omega)) ?_
      refine vz_if_eq (tgt := 25) C dX2_nativeOf_20 (by decide) (Pr := (tb na (18 + p)) = false) vz_beq (fun h3 => ?_) (fun h3 => ?_)
      · refine vz_iinc C 0 [(2, .int (nI 4)), (0, .ref h), (1, .int (nI p))] dX2_nativeOf_25 rfl (vz_inc 3 1 rfl) (by decide) rfl ?_
        refine vz_goto (tgt := 2) C dX2_nativeOf_28 (by decide) ?_
        refine vz_iload_n C 0 dX2_nativeOf_2 rfl rfl ?_
        refine vz_iconst (v := (nI 4)) C dX2_nativeOf_3 (by decide) ?_
        refine vz_icmp_gt_f (tgt := 31) C dX2_nativeOf_4 (by decide) (by decide) ?_
        refine vz_aload_n C 1 dX2_nativeOf_7 rfl rfl ?_
        refine vz_get (C1 := RX2) (T1 := TX2) (N := 4) C in_X2_nativeOf_X2 0 3 dX2_nativeOf_8 rfl rfl (by decide) (by decide +kernel) rfl ?_
        refine vz_bipush (v := (nI 6)) C dX2_nativeOf_11 (by decide) ?_
        refine vz_iload_n C 0 dX2_nativeOf_13 rfl rfl ?_
        refine vz_imul (z := (nI 24)) C dX2_nativeOf_14 (pk_mul 6 4) ?_
        refine vz_iload_n C 2 dX2_nativeOf_15 rfl rfl ?_
        refine vz_iadd (z := (nI (24 + p))) C dX2_nativeOf_16 (nI_add 24 p) ?_
        refine vz_ishr (z := (na >>> ((nI (24 + p)) &&& 31))) C dX2_nativeOf_17 rfl ?_
        refine vz_iconst (v := (nI 1)) C dX2_nativeOf_18 (by decide) ?_
        refine vz_iand (z := (bI (tb na (24 + p)))) C dX2_nativeOf_19 (tb_shr (by omega)) ?_
        refine vz_if_eq (tgt := 25) C dX2_nativeOf_20 (by decide) (Pr := (tb na (24 + p)) = false) vz_beq (fun h4 => ?_) (fun h4 => ?_)
        · refine vz_iinc C 0 [(2, .int (nI 5)), (0, .ref h), (1, .int (nI p))] dX2_nativeOf_25 rfl (vz_inc 4 1 rfl) (by decide) rfl ?_
          refine vz_goto (tgt := 2) C dX2_nativeOf_28 (by decide) ?_
          refine vz_iload_n C 0 dX2_nativeOf_2 rfl rfl ?_
          refine vz_iconst (v := (nI 4)) C dX2_nativeOf_3 (by decide) ?_
          refine vz_icmp_gt_t (tgt := 31) C dX2_nativeOf_4 (by decide) (by decide) ?_
          refine vz_iconst (v := (nI 0)) C dX2_nativeOf_31 (by decide) ?_
          exact vz_iret C () hr dX2_nativeOf_32 (by first | rfl | simp only [natF, if_neg (vz_fnt h1), decide_eq_false (vz_fnt h1), vz_bnt (vz_fnt h1), if_neg (vz_fnt h2), decide_eq_false (vz_fnt h2), vz_bnt (vz_fnt h2), if_neg (vz_fnt h3), decide_eq_false (vz_fnt h3), vz_bnt (vz_fnt h3), if_neg (vz_fnt h4), decide_eq_false (vz_fnt h4), vz_bnt (vz_fnt h4), Bool.true_and, Bool.false_and, Bool.and_true, Bool.and_false, Bool.true_or, Bool.false_or, Bool.or_true, Bool.or_false, Bool.not_true, Bool.not_false, vz_bI1, vz_bI0, Bool.false_eq_true, if_true, if_false] | simp [natF, if_neg (vz_fnt h1), decide_eq_false (vz_fnt h1), vz_bnt (vz_fnt h1), if_neg (vz_fnt h2), decide_eq_false (vz_fnt h2), vz_bnt (vz_fnt h2), if_neg (vz_fnt h3), decide_eq_false (vz_fnt h3), vz_bnt (vz_fnt h3), if_neg (vz_fnt h4), decide_eq_false (vz_fnt h4), vz_bnt (vz_fnt h4), Bool.true_and, Bool.false_and, Bool.and_true, Bool.and_false, Bool.true_or, Bool.false_or, Bool.or_true, Bool.or_false, Bool.not_true, Bool.not_false, vz_bI1, vz_bI0, Bool.false_eq_true, if_true, if_false]) rfl
        · refine vz_iload_n C 0 dX2_nativeOf_23 rfl rfl ?_
          exact vz_iret C () hr dX2_nativeOf_24 (by first | rfl | simp only [natF, if_neg (vz_fnt h1), decide_eq_false (vz_fnt h1), vz_bnt (vz_fnt h1), if_neg (vz_fnt h2), decide_eq_false (vz_fnt h2), vz_bnt (vz_fnt h2), if_neg (vz_fnt h3), decide_eq_false (vz_fnt h3), vz_bnt (vz_fnt h3), if_pos (vz_bnf h4), decide_eq_true (vz_bnf h4), vz_bt (vz_bnf h4), Bool.true_and, Bool.false_and, Bool.and_true, Bool.and_false, Bool.true_or, Bool.false_or, Bool.or_true, Bool.or_false, Bool.not_true, Bool.not_false, vz_bI1, vz_bI0, Bool.false_eq_true, if_true, if_false] | simp [natF, if_neg (vz_fnt h1), decide_eq_false (vz_fnt h1), vz_bnt (vz_fnt h1), if_neg (vz_fnt h2), decide_eq_false (vz_fnt h2), vz_bnt (vz_fnt h2), if_neg (vz_fnt h3), decide_eq_false (vz_fnt h3), vz_bnt (vz_fnt h3), if_pos (vz_bnf h4), decide_eq_true (vz_bnf h4), vz_bt (vz_bnf h4), Bool.true_and, Bool.false_and, Bool.and_true, Bool.and_false, Bool.true_or, Bool.false_or, Bool.or_true, Bool.or_false, Bool.not_true, Bool.not_false, vz_bI1, vz_bI0, Bool.false_eq_true, if_true, if_false]) rfl
      · refine vz_iload_n C 0 dX2_nativeOf_23 rfl rfl ?_
        exact vz_iret C () hr dX2_nativeOf_24 (by first | rfl | simp only [natF, if_neg (vz_fnt h1), decide_eq_false (vz_fnt h1), vz_bnt (vz_fnt h1), if_neg (vz_fnt h2), decide_eq_false (vz_fnt h2), vz_bnt (vz_fnt h2), if_pos (vz_bnf h3), decide_eq_true (vz_bnf h3), vz_bt (vz_bnf h3), Bool.true_and, Bool.false_and, Bool.and_true, Bool.and_false, Bool.true_or, Bool.false_or, Bool.or_true, Bool.or_false, Bool.not_true, Bool.not_false, vz_bI1, vz_bI0, Bool.false_eq_true, if_true, if_false] | simp [natF, if_neg (vz_fnt h1), decide_eq_false (vz_fnt h1), vz_bnt (vz_fnt h1), if_neg (vz_fnt h2), decide_eq_false (vz_fnt h2), vz_bnt (vz_fnt h2), if_pos (vz_bnf h3), decide_eq_true (vz_bnf h3), vz_bt (vz_bnf h3), Bool.true_and, Bool.false_and, Bool.and_true, Bool.and_false, Bool.true_or, Bool.false_or, Bool.or_true, Bool.or_false, Bool.not_true, Bool.not_false, vz_bI1, vz_bI0, Bool.false_eq_true, if_true, if_false]) rfl
    · refine vz_iload_n C 0 dX2_nativeOf_23 rfl rfl ?_
      exact vz_iret C () hr dX2_nativeOf_24 (by first | rfl | simp only [natF, if_neg (vz_fnt h1), decide_eq_false (vz_fnt h1), vz_bnt (vz_fnt h1), if_pos (vz_bnf h2), decide_eq_true (vz_bnf h2), vz_bt (vz_bnf h2), Bool.true_and, Bool.false_and, Bool.and_true, Bool.and_false, Bool.true_or, Bool.false_or, Bool.or_true, Bool.or_false, Bool.not_true, Bool.not_false, vz_bI1, vz_bI0, Bool.false_eq_true, if_true, if_false] | simp [natF, if_neg (vz_fnt h1), decide_eq_false (vz_fnt h1), vz_bnt (vz_fnt h1), if_pos (vz_bnf h2), decide_eq_true (vz_bnf h2), vz_bt (vz_bnf h2), Bool.true_and, Bool.false_and, Bool.and_true, Bool.and_false, Bool.true_or, Bool.false_or, Bool.or_true, Bool.or_false, Bool.not_true, Bool.not_false, vz_bI1, vz_bI0, Bool.false_eq_true, if_true, if_false]) rfl
  · refine vz_iload_n C 0 dX2_nativeOf_23 rfl rfl ?_
    exact vz_iret C () hr dX2_nativeOf_24 (by first | rfl | simp only [natF, if_pos (vz_bnf h1), decide_eq_true (vz_bnf h1), vz_bt (vz_bnf h1), Bool.true_and, Bool.false_and, Bool.and_true, Bool.and_false, Bool.true_or, Bool.false_or, Bool.or_true, Bool.or_false, Bool.not_true, Bool.not_false, vz_bI1, vz_bI0, Bool.false_eq_true, if_true, if_false] | simp [natF, if_pos (vz_bnf h1), decide_eq_true (vz_bnf h1), vz_bt (vz_bnf h1), Bool.true_and, Bool.false_and, Bool.and_true, Bool.and_false, Bool.true_or, Bool.false_or, Bool.or_true, Bool.or_false, Bool.not_true, Bool.not_false, vz_bI1, vz_bI0, Bool.false_eq_true, if_true, if_false]) rfl

set_option maxRecDepth 100000 in
set_option maxHeartbeats 4000000 in
theorem c_X2_makeTrunk (l : Launch) (D : va_G) (cI cZ cJ : ClassId) (h : Nat) (np : Nat) (ac : Int32) (me : Int32) (na : Int32) (p : Nat) (o : Nat) (set : Int32) (hp0 : p < 6) (hp1 : o < 2 ^ 31)  : cnV l yX2_makeTrunk wsX2_makeTrunk { frames := 1, cells := 0, slots := 0, locals := 21 } D [(cI, .int), (cZ, .boolean), (cJ, .long)] [.ref h, .int (nI p), .int set, .int (nI o)] [(h, .inr (2, [.int (nI np), .int ac, .int me, .int na]))] (fun _ : Unit => [(h, .inr (2, [.int (nI np), .int (ac &&& (bit1 p ^^^ (-1))), .int (mtM set p me 4), .int (mtN o p na 4)]))]) := by
  refine cnV.mk (cc := cX2_makeTrunk) (nL := 6) (ret := none) (by decide) rfl (Nat.le_of_ble_eq_true rfl) ?_
  intro p_ e_ s_ m_ g_ b_ mt_ cd_ A_ C hr
  refine vz_aload_n C 0 dX2_makeTrunk_0 rfl rfl ?_
  refine vz_dup C dX2_makeTrunk_1 rfl ?_
  refine vz_get (C1 := RX2) (T1 := TX2) (N := 4) C in_X2_makeTrunk_X2 0 1 dX2_makeTrunk_2 rfl rfl (by decide) (by decide +kernel) rfl ?_
  refine vz_iconst (v := (nI 1)) C dX2_makeTrunk_5 (by decide) ?_
  refine vz_iload_n C 1 dX2_makeTrunk_6 rfl rfl ?_
  refine vz_ishl (z := ((nI 1) <<< ((nI p) &&& 31))) C dX2_makeTrunk_7 rfl ?_
  refine vz_iconst (v := (-1)) C dX2_makeTrunk_8 (by decide) ?_
  refine vz_ixor (z := (((nI 1) <<< ((nI p) &&& 31)) ^^^ (-1))) C dX2_makeTrunk_9 rfl ?_
  refine vz_iand (z := (ac &&& (((nI 1) <<< ((nI p) &&& 31)) ^^^ (-1)))) C dX2_makeTrunk_10 rfl ?_
  refine vz_put (C1 := RX2) (T1 := TX2) (N := 4) C [(h, .inr (2, [.int (nI np), .int (ac &&& (((nI 1) <<< ((nI p) &&& 31)) ^^^ (-1))), .int me, .int na]))] in_X2_makeTrunk_X2 tyX2 tyX2_ok nmX2 0 1 dX2_makeTrunk_11 rfl rfl (by decide) (by decide +kernel) rfl (tyX2_ok 1 (by decide)) rfl rfl (Nat.le_of_ble_eq_true rfl) rfl ?_
  refine vz_iconst (v := (nI 1)) C dX2_makeTrunk_14 (by decide) ?_
  refine vz_istore C [(4, .int (nI 1)), (0, .ref h), (1, .int (nI p)), (2, .int set), (3, .int (nI o))] dX2_makeTrunk_15 (by decide) rfl ?_
  refine vz_to (ws' := [(h, .inr (2, [.int (nI np), .int (ac &&& (bit1 p ^^^ (-1))), .int (mtM set p me 0), .int (mtN o p na 0)]))]) (lv' := [(4, .int (nI (0 + 1))), (0, .ref h), (1, .int (nI p)), (2, .int set), (3, .int (nI o))]) (st' := []) ?_ (by rfl) (by rfl) rfl
  refine vz_loop (S := Unit) 4 0 (fun _ => True) (fun k1 _ => [(h, .inr (2, [.int (nI np), .int (ac &&& (bit1 p ^^^ (-1))), .int (mtM set p me k1), .int (mtN o p na k1)]))]) (fun k1 _ => [(4, .int (nI (k1 + 1))), (0, .ref h), (1, .int (nI p)), (2, .int set), (3, .int (nI o))]) (Nat.zero_le _) () trivial (fun k1 _ hk4 hk3 hi5 ih2 => ?_) (fun _ hi5 => ?_)
  · refine vz_iload C 0 dX2_makeTrunk_17 rfl ?_
    refine vz_iconst (v := (nI 4)) C dX2_makeTrunk_19 (by decide) ?_
    refine vz_icmp_gt_f (tgt := 98) C dX2_makeTrunk_20 (by decide) (nI_nlt (by omega) (by omega)) ?_
    refine vz_iload C 0 dX2_makeTrunk_23 rfl ?_
    refine vz_iload_n C 2 dX2_makeTrunk_25 rfl rfl ?_
    refine vz_callSNi (rest := []) (wr := [(h, .inr (2, [.int (nI np), .int (ac &&& (bit1 p ^^^ (-1))), .int (mtM set p me k1), .int (mtN o p na k1)]))]) C (fun _ : Unit => []) (fun _ : Unit => [(h, .inr (2, [.int (nI np), .int (ac &&& (bit1 p ^^^ (-1))), .int (mtM set p me k1), .int (mtN o p na k1)]))]) (c_X7_cellOf l D cI cZ cJ (k1 + 1) p) dX2_makeTrunk_26 gX2_makeTrunk_X7_cellOf_n32 rfl kd_X7_cellOf (host := "VlanProbe") (by decide +kernel) (by decide +kernel) (by decide +kernel) ⟨by decide, by decide⟩ ⟨by decide, by decide⟩ rfl rfl (Nat.le_of_ble_eq_true rfl) [] [0] [0] rfl rfl rfl (fun _ => rfl) (fun _ => ?_)
    refine vz_istore C [(5, .int (bit1 (6 * (k1 + 1) + p))), (4, .int (nI (k1 + 1))), (0, .ref h), (1, .int (nI p)), (2, .int set), (3, .int (nI o))] dX2_makeTrunk_29 (by decide) rfl ?_
    refine vz_aload_n C 2 dX2_makeTrunk_31 rfl rfl ?_
    refine vz_iload_n C 4 dX2_makeTrunk_32 rfl rfl ?_
    refine vz_iload C 1 dX2_makeTrunk_33 rfl ?_
    refine vz_callSNi (rest := [.ref h]) (wr := [(h, .inr (2, [.int (nI np), .int (ac &&& (bit1 p ^^^ (-1))), .int (mtM set p me k1), .int (mtN o p na k1)]))]) C (fun _ : Unit => []) (fun _ : Unit => [(h, .inr (2, [.int (nI np), .int (ac &&& (bit1 p ^^^ (-1))), .int (mtM set p me k1), .int (mtN o p na k1)]))]) (c_X7_hasNetwork l D cI cZ cJ set (k1 + 1) (by first | assumption | omega | decide | exact natF_lt _ _ | exact refF_lt _ _ _ _ _) (by first | assumption | omega | decide | exact natF_lt _ _ | exact refF_lt _ _ _ _ _)) dX2_makeTrunk_35 gX2_makeTrunk_X7_hasNetwork_n36 rfl kd_X7_hasNetwork (host := "VlanProbe") (by decide +kernel) (by decide +kernel) (by decide +kernel) ⟨by decide, by decide⟩ ⟨by decide, by decide⟩ rfl rfl (Nat.le_of_ble_eq_true rfl) [] [0] [0] rfl rfl rfl (fun _ => rfl) (fun _ => ?_)
    refine vz_join [(h, .inr (2, [.int (nI np), .int (ac &&& (bit1 p ^^^ (-1))), .int (mtM set p me k1), .int (mtN o p na k1)]))] 0 0 60 [(0, .ref h), (1, .int (nI p)), (2, .int set), (3, .int (nI o)), (4, .int (nI (k1 + 1))), (5, .int (bit1 (6 * (k1 + 1) + p)))] [.int (if (tb set ((k1 + 1) - 1)) = true then ((mtM set p me k1) ||| (bit1 (6 * (k1 + 1) + p))) else ((mtM set p me k1) &&& ((bit1 (6 * (k1 + 1) + p)) ^^^ (-1)))), .ref h] (fun hJ6 => ?_) ?_
    · refine vz_if_eq (tgt := 51) C dX2_makeTrunk_38 (by decide) (Pr := (tb set ((k1 + 1) - 1)) = false) vz_beq (fun h7 => ?_) (fun h7 => ?_)
      · refine vz_aload_n C 2 dX2_makeTrunk_51 rfl rfl ?_
        refine vz_get (C1 := RX2) (T1 := TX2) (N := 4) C in_X2_makeTrunk_X2 0 2 dX2_makeTrunk_52 rfl rfl (by decide) (by decide +kernel) rfl ?_
        refine vz_iload C 0 dX2_makeTrunk_55 rfl ?_
        refine vz_iconst (v := (-1)) C dX2_makeTrunk_57 (by decide) ?_
        refine vz_ixor (z := ((bit1 (6 * (k1 + 1) + p)) ^^^ (-1))) C dX2_makeTrunk_58 rfl ?_
        refine vz_iand (z := ((mtM set p me k1) &&& ((bit1 (6 * (k1 + 1) + p)) ^^^ (-1)))) C dX2_makeTrunk_59 rfl ?_
        refine vz_lv (lv' := [(0, .ref h), (1, .int (nI p)), (2, .int set), (3, .int (nI o)), (4, .int (nI (k1 + 1))), (5, .int (bit1 (6 * (k1 + 1) + p)))]) [2, 3, 4, 5, 1, 0] rfl ?_
        exact vz_to hJ6 (by first | rfl | simp only [if_neg (vz_fnt h7), decide_eq_false (vz_fnt h7), vz_bnt (vz_fnt h7), Bool.true_and, Bool.false_and, Bool.and_true, Bool.and_false, Bool.true_or, Bool.false_or, Bool.or_true, Bool.or_false, Bool.not_true, Bool.not_false, vz_bI1, vz_bI0, Bool.false_eq_true, if_true, if_false]) (by first | rfl | simp only [if_neg (vz_fnt h7), decide_eq_false (vz_fnt h7), vz_bnt (vz_fnt h7), Bool.true_and, Bool.false_and, Bool.and_true, Bool.and_false, Bool.true_or, Bool.false_or, Bool.or_true, Bool.or_false, Bool.not_true, Bool.not_false, vz_bI1, vz_bI0, Bool.false_eq_true, if_true, if_false]) (by first | rfl | simp only [if_neg (vz_fnt h7), decide_eq_false (vz_fnt h7), vz_bnt (vz_fnt h7), Bool.true_and, Bool.false_and, Bool.and_true, Bool.and_false, Bool.true_or, Bool.false_or, Bool.or_true, Bool.or_false, Bool.not_true, Bool.not_false, vz_bI1, vz_bI0, Bool.false_eq_true, if_true, if_false])
      · refine vz_aload_n C 2 dX2_makeTrunk_41 rfl rfl ?_
        refine vz_get (C1 := RX2) (T1 := TX2) (N := 4) C in_X2_makeTrunk_X2 0 2 dX2_makeTrunk_42 rfl rfl (by decide) (by decide +kernel) rfl ?_
        refine vz_iload C 0 dX2_makeTrunk_45 rfl ?_
        refine vz_ior (z := ((mtM set p me k1) ||| (bit1 (6 * (k1 + 1) + p)))) C dX2_makeTrunk_47 rfl ?_
        refine vz_goto (tgt := 60) C dX2_makeTrunk_48 (by decide) ?_
        refine vz_lv (lv' := [(0, .ref h), (1, .int (nI p)), (2, .int set), (3, .int (nI o)), (4, .int (nI (k1 + 1))), (5, .int (bit1 (6 * (k1 + 1) + p)))]) [2, 3, 4, 5, 1, 0] rfl ?_
        exact vz_to hJ6 (by first | rfl | simp only [if_pos (vz_bnf h7), decide_eq_true (vz_bnf h7), vz_bt (vz_bnf h7), Bool.true_and, Bool.false_and, Bool.and_true, Bool.and_false, Bool.true_or, Bool.false_or, Bool.or_true, Bool.or_false, Bool.not_true, Bool.not_false, vz_bI1, vz_bI0, Bool.false_eq_true, if_true, if_false]) (by first | rfl | simp only [if_pos (vz_bnf h7), decide_eq_true (vz_bnf h7), vz_bt (vz_bnf h7), Bool.true_and, Bool.false_and, Bool.and_true, Bool.and_false, Bool.true_or, Bool.false_or, Bool.or_true, Bool.or_false, Bool.not_true, Bool.not_false, vz_bI1, vz_bI0, Bool.false_eq_true, if_true, if_false]) (by first | rfl | simp only [if_pos (vz_bnf h7), decide_eq_true (vz_bnf h7), vz_bt (vz_bnf h7), Bool.true_and, Bool.false_and, Bool.and_true, Bool.and_false, Bool.true_or, Bool.false_or, Bool.or_true, Bool.or_false, Bool.not_true, Bool.not_false, vz_bI1, vz_bI0, Bool.false_eq_true, if_true, if_false])
    refine vz_put (C1 := RX2) (T1 := TX2) (N := 4) C [(h, .inr (2, [.int (nI np), .int (ac &&& (bit1 p ^^^ (-1))), .int (if (tb set ((k1 + 1) - 1)) = true then ((mtM set p me k1) ||| (bit1 (6 * (k1 + 1) + p))) else ((mtM set p me k1) &&& ((bit1 (6 * (k1 + 1) + p)) ^^^ (-1)))), .int (mtN o p na k1)]))] in_X2_makeTrunk_X2 tyX2 tyX2_ok nmX2 0 2 dX2_makeTrunk_60 rfl rfl (by decide) (by decide +kernel) rfl (tyX2_ok 2 (by decide)) rfl rfl (Nat.le_of_ble_eq_true rfl) rfl ?_
    refine vz_aload_n C 0 dX2_makeTrunk_63 rfl rfl ?_
    refine vz_iload C 4 dX2_makeTrunk_64 rfl ?_
    refine vz_iload_n C 3 dX2_makeTrunk_66 rfl rfl ?_
    refine vz_join [(h, .inr (2, [.int (nI np), .int (ac &&& (bit1 p ^^^ (-1))), .int (if (tb set ((k1 + 1) - 1)) = true then ((mtM set p me k1) ||| (bit1 (6 * (k1 + 1) + p))) else ((mtM set p me k1) &&& ((bit1 (6 * (k1 + 1) + p)) ^^^ (-1)))), .int (mtN o p na k1)]))] 0 0 89 [(0, .ref h), (1, .int (nI p)), (2, .int set), (3, .int (nI o)), (4, .int (nI (k1 + 1))), (5, .int (bit1 (6 * (k1 + 1) + p)))] [.int (if (k1 + 1) = o then ((mtN o p na k1) ||| (bit1 (6 * (k1 + 1) + p))) else ((mtN o p na k1) &&& ((bit1 (6 * (k1 + 1) + p)) ^^^ (-1)))), .ref h] (fun hJ8 => ?_) ?_
    · refine vz_icmp_ne (tgt := 80) C dX2_makeTrunk_67 (by decide) (Pr := ¬ (k1 + 1) = o) (not_congr (nI_eq (by first | assumption | omega | decide | exact natF_lt _ _ | exact refF_lt _ _ _ _ _) (by first | assumption | omega | decide | exact natF_lt _ _ | exact refF_lt _ _ _ _ _))) (fun h9 => ?_) (fun h9 => ?_)
      · refine vz_aload_n C 0 dX2_makeTrunk_80 rfl rfl ?_
        refine vz_get (C1 := RX2) (T1 := TX2) (N := 4) C in_X2_makeTrunk_X2 0 3 dX2_makeTrunk_81 rfl rfl (by decide) (by decide +kernel) rfl ?_
        refine vz_iload C 5 dX2_makeTrunk_84 rfl ?_
        refine vz_iconst (v := (-1)) C dX2_makeTrunk_86 (by decide) ?_
        refine vz_ixor (z := ((bit1 (6 * (k1 + 1) + p)) ^^^ (-1))) C dX2_makeTrunk_87 rfl ?_
        refine vz_iand (z := ((mtN o p na k1) &&& ((bit1 (6 * (k1 + 1) + p)) ^^^ (-1)))) C dX2_makeTrunk_88 rfl ?_
        exact vz_to hJ8 (by first | rfl | simp only [if_neg h9, decide_eq_false h9, Bool.true_and, Bool.false_and, Bool.and_true, Bool.and_false, Bool.true_or, Bool.false_or, Bool.or_true, Bool.or_false, Bool.not_true, Bool.not_false, vz_bI1, vz_bI0, Bool.false_eq_true, if_true, if_false]) (by first | rfl | simp only [if_neg h9, decide_eq_false h9, Bool.true_and, Bool.false_and, Bool.and_true, Bool.and_false, Bool.true_or, Bool.false_or, Bool.or_true, Bool.or_false, Bool.not_true, Bool.not_false, vz_bI1, vz_bI0, Bool.false_eq_true, if_true, if_false]) (by first | rfl | simp only [if_neg h9, decide_eq_false h9, Bool.true_and, Bool.false_and, Bool.and_true, Bool.and_false, Bool.true_or, Bool.false_or, Bool.or_true, Bool.or_false, Bool.not_true, Bool.not_false, vz_bI1, vz_bI0, Bool.false_eq_true, if_true, if_false])
      · refine vz_aload_n C 0 dX2_makeTrunk_70 rfl rfl ?_
        refine vz_get (C1 := RX2) (T1 := TX2) (N := 4) C in_X2_makeTrunk_X2 0 3 dX2_makeTrunk_71 rfl rfl (by decide) (by decide +kernel) rfl ?_
        refine vz_iload C 5 dX2_makeTrunk_74 rfl ?_
        refine vz_ior (z := ((mtN o p na k1) ||| (bit1 (6 * (k1 + 1) + p)))) C dX2_makeTrunk_76 rfl ?_
        refine vz_goto (tgt := 89) C dX2_makeTrunk_77 (by decide) ?_
        exact vz_to hJ8 (by first | rfl | simp only [if_pos (Decidable.not_not.mp h9), decide_eq_true (Decidable.not_not.mp h9), Bool.true_and, Bool.false_and, Bool.and_true, Bool.and_false, Bool.true_or, Bool.false_or, Bool.or_true, Bool.or_false, Bool.not_true, Bool.not_false, vz_bI1, vz_bI0, Bool.false_eq_true, if_true, if_false]) (by first | rfl | simp only [if_pos (Decidable.not_not.mp h9), decide_eq_true (Decidable.not_not.mp h9), Bool.true_and, Bool.false_and, Bool.and_true, Bool.and_false, Bool.true_or, Bool.false_or, Bool.or_true, Bool.or_false, Bool.not_true, Bool.not_false, vz_bI1, vz_bI0, Bool.false_eq_true, if_true, if_false]) (by first | rfl | simp only [if_pos (Decidable.not_not.mp h9), decide_eq_true (Decidable.not_not.mp h9), Bool.true_and, Bool.false_and, Bool.and_true, Bool.and_false, Bool.true_or, Bool.false_or, Bool.or_true, Bool.or_false, Bool.not_true, Bool.not_false, vz_bI1, vz_bI0, Bool.false_eq_true, if_true, if_false])
    refine vz_put (C1 := RX2) (T1 := TX2) (N := 4) C [(h, .inr (2, [.int (nI np), .int (ac &&& (bit1 p ^^^ (-1))), .int (if (tb set ((k1 + 1) - 1)) = true then ((mtM set p me k1) ||| (bit1 (6 * (k1 + 1) + p))) else ((mtM set p me k1) &&& ((bit1 (6 * (k1 + 1) + p)) ^^^ (-1)))), .int (if (k1 + 1) = o then ((mtN o p na k1) ||| (bit1 (6 * (k1 + 1) + p))) else ((mtN o p na k1) &&& ((bit1 (6 * (k1 + 1) + p)) ^^^ (-1))))]))] in_X2_makeTrunk_X2 tyX2 tyX2_ok nmX2 0 3 dX2_makeTrunk_89 rfl rfl (by decide) (by decide +kernel) rfl (tyX2_ok 3 (by decide)) rfl rfl (Nat.le_of_ble_eq_true rfl) rfl ?_
    refine vz_iinc C 4 [(4, .int (nI (k1 + 1 + 1))), (0, .ref h), (1, .int (nI p)), (2, .int set), (3, .int (nI o)), (5, .int (bit1 (6 * (k1 + 1) + p)))] dX2_makeTrunk_92 rfl (vz_inc (k1 + 1) 1 rfl) (by decide) rfl ?_
    refine vz_goto (tgt := 17) C dX2_makeTrunk_95 (by decide) ?_
    refine vz_lv (lv' := [(4, .int (nI (k1 + 1 + 1))), (0, .ref h), (1, .int (nI p)), (2, .int set), (3, .int (nI o))]) [0, 1, 2, 3, 4] rfl ?_
    exact vz_to (ih2 () trivial) (by rfl) (by rfl) rfl
  refine vz_iload C 0 dX2_makeTrunk_17 rfl ?_
  refine vz_iconst (v := (nI 4)) C dX2_makeTrunk_19 (by decide) ?_
  refine vz_icmp_gt_t (tgt := 98) C dX2_makeTrunk_20 (by decide) (by decide) ?_
  exact vz_vret C () hr dX2_makeTrunk_98 rfl

set_option maxRecDepth 100000 in
set_option maxHeartbeats 4000000 in
theorem c_X2_makeAccess (l : Launch) (D : va_G) (cI cZ cJ : ClassId) (h : Nat) (np : Nat) (ac : Int32) (me : Int32) (na : Int32) (p : Nat) (v : Nat) (hp0 : p < 6) (hp1 : 1 ≤ v) (hp2 : v ≤ 4)  : cnV l yX2_makeAccess wsX2_makeAccess { frames := 2, cells := 0, slots := 0, locals := 46 } D [(cI, .int), (cZ, .boolean), (cJ, .long)] [.ref h, .int (nI p), .int (nI v)] [(h, .inr (2, [.int (nI np), .int ac, .int me, .int na]))] (fun _ : Unit => [(h, .inr (2, [.int (nI np), .int ((ac &&& (bit1 p ^^^ (-1))) ||| bit1 p), .int (mtM (bit1 (v - 1)) p me 4), .int (mtN v p na 4)]))]) := by
  refine cnV.mk (cc := cX2_makeAccess) (nL := 3) (ret := none) (by decide) rfl (Nat.le_of_ble_eq_true rfl) ?_
  intro p_ e_ s_ m_ g_ b_ mt_ cd_ A_ C hr
  refine vz_aload_n C 0 dX2_makeAccess_0 rfl rfl ?_
  refine vz_iload_n C 1 dX2_makeAccess_1 rfl rfl ?_
  refine vz_iconst (v := (nI 1)) C dX2_makeAccess_2 (by decide) ?_
  refine vz_iload_n C 2 dX2_makeAccess_3 rfl rfl ?_
  refine vz_iconst (v := (nI 1)) C dX2_makeAccess_4 (by decide) ?_
  refine vz_isub (z := (nI (v - 1))) C dX2_makeAccess_5 (pk_sub (by first | assumption | omega | decide | exact natF_lt _ _ | exact refF_lt _ _ _ _ _)) ?_
  refine vz_ishl (z := ((nI 1) <<< ((nI (v - 1)) &&& 31))) C dX2_makeAccess_6 rfl ?_
  refine vz_iload_n C 2 dX2_makeAccess_7 rfl rfl ?_
  refine vz_callVv (q0 := 0) (rest := []) (wr := []) C (fun _ : Unit => [(h, .inr (2, [.int (nI np), .int (ac &&& (bit1 p ^^^ (-1))), .int (mtM ((nI 1) <<< ((nI (v - 1)) &&& 31)) p me 4), .int (mtN v p na 4)]))]) (fun _ : Unit => [(h, .inr (2, [.int (nI np), .int (ac &&& (bit1 p ^^^ (-1))), .int (mtM ((nI 1) <<< ((nI (v - 1)) &&& 31)) p me 4), .int (mtN v p na 4)]))]) (c_X2_makeTrunk l D cI cZ cJ h np ac me na p v ((nI 1) <<< ((nI (v - 1)) &&& 31)) (by first | assumption | omega | decide | exact natF_lt _ _ | exact refF_lt _ _ _ _ _) (by first | assumption | omega | decide | exact natF_lt _ _ | exact refF_lt _ _ _ _ _)) dX2_makeAccess_8 gX2_makeAccess_X2_makeTrunk rfl kd_X2_makeTrunk ⟨by decide, by decide⟩ ⟨by decide, by decide⟩ rfl rfl rfl rfl rfl (Nat.le_of_ble_eq_true rfl) [0] [] [0] rfl rfl rfl (fun _ => rfl) (fun _ => ?_)
  refine vz_aload_n C 0 dX2_makeAccess_11 rfl rfl ?_
  refine vz_dup C dX2_makeAccess_12 rfl ?_
  refine vz_get (C1 := RX2) (T1 := TX2) (N := 4) C in_X2_makeAccess_X2 0 1 dX2_makeAccess_13 rfl rfl (by decide) (by decide +kernel) rfl ?_
  refine vz_iconst (v := (nI 1)) C dX2_makeAccess_16 (by decide) ?_
  refine vz_iload_n C 1 dX2_makeAccess_17 rfl rfl ?_
  refine vz_ishl (z := ((nI 1) <<< ((nI p) &&& 31))) C dX2_makeAccess_18 rfl ?_
  refine vz_ior (z := ((ac &&& (bit1 p ^^^ (-1))) ||| ((nI 1) <<< ((nI p) &&& 31)))) C dX2_makeAccess_19 rfl ?_
  refine vz_put (C1 := RX2) (T1 := TX2) (N := 4) C [(h, .inr (2, [.int (nI np), .int ((ac &&& (bit1 p ^^^ (-1))) ||| ((nI 1) <<< ((nI p) &&& 31))), .int (mtM ((nI 1) <<< ((nI (v - 1)) &&& 31)) p me 4), .int (mtN v p na 4)]))] in_X2_makeAccess_X2 tyX2 tyX2_ok nmX2 0 1 dX2_makeAccess_20 rfl rfl (by decide) (by decide +kernel) rfl (tyX2_ok 1 (by decide)) rfl rfl (Nat.le_of_ble_eq_true rfl) rfl ?_
  exact vz_vret C () hr dX2_makeAccess_23 (by rfl)

set_option maxRecDepth 100000 in
set_option maxHeartbeats 4000000 in
theorem c_X2_reset (l : Launch) (D : va_G) (cI cZ cJ : ClassId) (h : Nat) (np : Nat) (ac : Int32) (me : Int32) (na : Int32) (n : Nat) (hp0 : n ≤ 6)  : cnV l yX2_reset wsX2_reset { frames := 3, cells := 0, slots := 0, locals := 68 } D [(cI, .int), (cZ, .boolean), (cJ, .long)] [.ref h, .int (nI n)] [(h, .inr (2, [.int (nI np), .int ac, .int me, .int na]))] (fun _ : Unit => [(h, .inr (2, [.int (nI n), .int (rsA n), .int (rsM n), .int (rsM n)]))]) := by
  refine cnV.mk (cc := cX2_reset) (nL := 3) (ret := none) (by decide) rfl (Nat.le_of_ble_eq_true rfl) ?_
  intro p_ e_ s_ m_ g_ b_ mt_ cd_ A_ C hr
  refine vz_aload_n C 0 dX2_reset_0 rfl rfl ?_
  refine vz_iload_n C 1 dX2_reset_1 rfl rfl ?_
  refine vz_put (C1 := RX2) (T1 := TX2) (N := 4) C [(h, .inr (2, [.int (nI n), .int ac, .int me, .int na]))] in_X2_reset_X2 tyX2 tyX2_ok nmX2 0 0 dX2_reset_2 rfl rfl (by decide) (by decide +kernel) rfl (tyX2_ok 0 (by decide)) rfl rfl (Nat.le_of_ble_eq_true rfl) rfl ?_
  refine vz_aload_n C 0 dX2_reset_5 rfl rfl ?_
  refine vz_iconst (v := (nI 0)) C dX2_reset_6 (by decide) ?_
  refine vz_put (C1 := RX2) (T1 := TX2) (N := 4) C [(h, .inr (2, [.int (nI n), .int (nI 0), .int me, .int na]))] in_X2_reset_X2 tyX2 tyX2_ok nmX2 0 1 dX2_reset_7 rfl rfl (by decide) (by decide +kernel) rfl (tyX2_ok 1 (by decide)) rfl rfl (Nat.le_of_ble_eq_true rfl) rfl ?_
  refine vz_aload_n C 0 dX2_reset_10 rfl rfl ?_
  refine vz_iconst (v := (nI 0)) C dX2_reset_11 (by decide) ?_
  refine vz_put (C1 := RX2) (T1 := TX2) (N := 4) C [(h, .inr (2, [.int (nI n), .int (nI 0), .int (nI 0), .int na]))] in_X2_reset_X2 tyX2 tyX2_ok nmX2 0 2 dX2_reset_12 rfl rfl (by decide) (by decide +kernel) rfl (tyX2_ok 2 (by decide)) rfl rfl (Nat.le_of_ble_eq_true rfl) rfl ?_
  refine vz_aload_n C 0 dX2_reset_15 rfl rfl ?_
  refine vz_iconst (v := (nI 0)) C dX2_reset_16 (by decide) ?_
  refine vz_put (C1 := RX2) (T1 := TX2) (N := 4) C [(h, .inr (2, [.int (nI n), .int (nI 0), .int (nI 0), .int (nI 0)]))] in_X2_reset_X2 tyX2 tyX2_ok nmX2 0 3 dX2_reset_17 rfl rfl (by decide) (by decide +kernel) rfl (tyX2_ok 3 (by decide)) rfl rfl (Nat.le_of_ble_eq_true rfl) rfl ?_
  refine vz_iconst (v := (nI 0)) C dX2_reset_20 (by decide) ?_
  refine vz_istore_n C [(2, .int (nI 0)), (0, .ref h), (1, .int (nI n))] dX2_reset_21 rfl (by decide) rfl ?_
  refine vz_to (ws' := [(h, .inr (2, [.int (nI n), .int (rsA 0), .int (rsM 0), .int (rsM 0)]))]) (lv' := [(2, .int (nI 0)), (0, .ref h), (1, .int (nI n))]) (st' := []) ?_ (by rfl) (by rfl) rfl
  refine vz_loop (S := Unit) n 0 (fun _ => True) (fun k1 _ => [(h, .inr (2, [.int (nI n), .int (rsA k1), .int (rsM k1), .int (rsM k1)]))]) (fun k1 _ => [(2, .int (nI k1)), (0, .ref h), (1, .int (nI n))]) (Nat.zero_le _) () trivial (fun k1 _ hk4 hk3 hi5 ih2 => ?_) (fun _ hi5 => ?_)
  · refine vz_iload_n C 0 dX2_reset_22 rfl rfl ?_
    refine vz_iload_n C 2 dX2_reset_23 rfl rfl ?_
    refine vz_icmp_ge_f (tgt := 39) C dX2_reset_24 (by decide) (nI_ge hk3 (by omega)) ?_
    refine vz_aload_n C 1 dX2_reset_27 rfl rfl ?_
    refine vz_iload_n C 0 dX2_reset_28 rfl rfl ?_
    refine vz_iconst (v := (nI 1)) C dX2_reset_29 (by decide) ?_
    refine vz_callVv (q0 := 0) (rest := []) (wr := []) C (fun _ : Unit => [(h, .inr (2, [.int (nI n), .int (((rsA k1) &&& (bit1 k1 ^^^ (-1))) ||| bit1 k1), .int (mtM (bit1 (1 - 1)) k1 (rsM k1) 4), .int (mtN 1 k1 (rsM k1) 4)]))]) (fun _ : Unit => [(h, .inr (2, [.int (nI n), .int (((rsA k1) &&& (bit1 k1 ^^^ (-1))) ||| bit1 k1), .int (mtM (bit1 (1 - 1)) k1 (rsM k1) 4), .int (mtN 1 k1 (rsM k1) 4)]))]) (c_X2_makeAccess l D cI cZ cJ h n (rsA k1) (rsM k1) (rsM k1) k1 1 (by first | assumption | omega | decide | exact natF_lt _ _ | exact refF_lt _ _ _ _ _) (by first | assumption | omega | decide | exact natF_lt _ _ | exact refF_lt _ _ _ _ _) (by first | assumption | omega | decide | exact natF_lt _ _ | exact refF_lt _ _ _ _ _)) dX2_reset_30 gX2_reset_X2_makeAccess rfl kd_X2_makeAccess ⟨by decide, by decide⟩ ⟨by decide, by decide⟩ rfl rfl rfl rfl rfl (Nat.le_of_ble_eq_true rfl) [0] [] [0] rfl rfl rfl (fun _ => rfl) (fun _ => ?_)
    refine vz_iinc C 0 [(2, .int (nI (k1 + 1))), (0, .ref h), (1, .int (nI n))] dX2_reset_33 rfl (vz_inc k1 1 rfl) (by decide) rfl ?_
    refine vz_goto (tgt := 22) C dX2_reset_36 (by decide) ?_
    exact vz_to (ih2 () trivial) (by rw [← rs_A k1 (by omega), ← rs_N k1 (by omega)]; rw [rs_N k1 (by omega), ← rs_M k1 (by omega)]) (by rfl) rfl
  refine vz_iload_n C 0 dX2_reset_22 rfl rfl ?_
  refine vz_iload_n C 2 dX2_reset_23 rfl rfl ?_
  refine vz_icmp_ge_t (tgt := 39) C dX2_reset_24 (by decide) (Int32.le_refl _) ?_
  exact vz_vret C () hr dX2_reset_39 rfl

set_option maxRecDepth 100000 in
set_option maxHeartbeats 4000000 in
theorem c_X0_exits (l : Launch) (D : va_G) (cI cZ cJ : ClassId) (h : Nat) (r : Nat) (wh : Nat) (fl : Int32) (ex : Int32) (tg : Int32)   : cnI l yX0_exits wsX0_exits { frames := 0, cells := 0, slots := 0, locals := 0 } D [(cI, .int), (cZ, .boolean), (cJ, .long)] [.ref h] [(h, .inr (0, [.ref r, .int fl, .int ex, .int tg, .int (nI wh)]))] ex (fun _ : Unit => [(h, .inr (0, [.ref r, .int fl, .int ex, .int tg, .int (nI wh)]))]) := by
  refine cnI.mk (cc := cX0_exits) (nL := 1) (ret := (some .int)) (by decide) rfl (Nat.le_of_ble_eq_true rfl) ?_
  intro p_ e_ s_ m_ g_ b_ mt_ cd_ A_ C hr
  refine vz_aload_n C 0 dX0_exits_0 rfl rfl ?_
  refine vz_get (C1 := RX0) (T1 := TX0) (N := 5) C in_X0_exits_X0 0 2 dX0_exits_1 rfl rfl (by decide) (by decide +kernel) rfl ?_
  exact vz_iret C () hr dX0_exits_4 (by first | rfl | simp only [Bool.true_and, Bool.false_and, Bool.and_true, Bool.and_false, Bool.true_or, Bool.false_or, Bool.or_true, Bool.or_false, Bool.not_true, Bool.not_false, vz_bI1, vz_bI0, Bool.false_eq_true, if_true, if_false]) rfl

set_option maxRecDepth 100000 in
set_option maxHeartbeats 4000000 in
theorem c_X0_taggedExits (l : Launch) (D : va_G) (cI cZ cJ : ClassId) (h : Nat) (r : Nat) (wh : Nat) (fl : Int32) (ex : Int32) (tg : Int32)   : cnI l yX0_taggedExits wsX0_taggedExits { frames := 0, cells := 0, slots := 0, locals := 0 } D [(cI, .int), (cZ, .boolean), (cJ, .long)] [.ref h] [(h, .inr (0, [.ref r, .int fl, .int ex, .int tg, .int (nI wh)]))] tg (fun _ : Unit => [(h, .inr (0, [.ref r, .int fl, .int ex, .int tg, .int (nI wh)]))]) := by
  refine cnI.mk (cc := cX0_taggedExits) (nL := 1) (ret := (some .int)) (by decide) rfl (Nat.le_of_ble_eq_true rfl) ?_
  intro p_ e_ s_ m_ g_ b_ mt_ cd_ A_ C hr
  refine vz_aload_n C 0 dX0_taggedExits_0 rfl rfl ?_
  refine vz_get (C1 := RX0) (T1 := TX0) (N := 5) C in_X0_taggedExits_X0 0 3 dX0_taggedExits_1 rfl rfl (by decide) (by decide +kernel) rfl ?_
  exact vz_iret C () hr dX0_taggedExits_4 (by first | rfl | simp only [Bool.true_and, Bool.false_and, Bool.and_true, Bool.and_false, Bool.true_or, Bool.false_or, Bool.or_true, Bool.or_false, Bool.not_true, Bool.not_false, vz_bI1, vz_bI0, Bool.false_eq_true, if_true, if_false]) rfl

set_option maxRecDepth 100000 in
set_option maxHeartbeats 4000000 in
theorem c_X0_why (l : Launch) (D : va_G) (cI cZ cJ : ClassId) (h : Nat) (r : Nat) (wh : Nat) (fl : Int32) (ex : Int32) (tg : Int32)   : cnI l yX0_why wsX0_why { frames := 0, cells := 0, slots := 0, locals := 0 } D [(cI, .int), (cZ, .boolean), (cJ, .long)] [.ref h] [(h, .inr (0, [.ref r, .int fl, .int ex, .int tg, .int (nI wh)]))] (nI wh) (fun _ : Unit => [(h, .inr (0, [.ref r, .int fl, .int ex, .int tg, .int (nI wh)]))]) := by
  refine cnI.mk (cc := cX0_why) (nL := 1) (ret := (some .int)) (by decide) rfl (Nat.le_of_ble_eq_true rfl) ?_
  intro p_ e_ s_ m_ g_ b_ mt_ cd_ A_ C hr
  refine vz_aload_n C 0 dX0_why_0 rfl rfl ?_
  refine vz_get (C1 := RX0) (T1 := TX0) (N := 5) C in_X0_why_X0 0 4 dX0_why_1 rfl rfl (by decide) (by decide +kernel) rfl ?_
  exact vz_iret C () hr dX0_why_4 (by first | rfl | simp only [Bool.true_and, Bool.false_and, Bool.and_true, Bool.and_false, Bool.true_or, Bool.false_or, Bool.or_true, Bool.or_false, Bool.not_true, Bool.not_false, vz_bI1, vz_bI0, Bool.false_eq_true, if_true, if_false]) rfl

set_option maxRecDepth 100000 in
set_option maxHeartbeats 4000000 in
theorem c_X0_has (l : Launch) (D : va_G) (cI cZ cJ : ClassId) (h : Nat) (r : Nat) (wh : Nat) (k : Nat) (p : Nat) (fl : Int32) (ex : Int32) (tg : Int32) (hp0 : 6 * k + p < 32)  : cnI l yX0_has wsX0_has { frames := 0, cells := 0, slots := 0, locals := 0 } D [(cI, .int), (cZ, .boolean), (cJ, .long)] [.ref h, .int (nI k), .int (nI p)] [(h, .inr (0, [.ref r, .int fl, .int ex, .int tg, .int (nI wh)]))] (bI (tb fl (6 * k + p))) (fun _ : Unit => [(h, .inr (0, [.ref r, .int fl, .int ex, .int tg, .int (nI wh)]))]) := by
  refine cnI.mk (cc := cX0_has) (nL := 3) (ret := (some .boolean)) (by decide) rfl (Nat.le_of_ble_eq_true rfl) ?_
  intro p_ e_ s_ m_ g_ b_ mt_ cd_ A_ C hr
  refine vz_aload_n C 0 dX0_has_0 rfl rfl ?_
  refine vz_get (C1 := RX0) (T1 := TX0) (N := 5) C in_X0_has_X0 0 1 dX0_has_1 rfl rfl (by decide) (by decide +kernel) rfl ?_
  refine vz_bipush (v := (nI 6)) C dX0_has_4 (by decide) ?_
  refine vz_iload_n C 1 dX0_has_6 rfl rfl ?_
  refine vz_imul (z := (nI (6 * k))) C dX0_has_7 (pk_mul 6 k) ?_
  refine vz_iload_n C 2 dX0_has_8 rfl rfl ?_
  refine vz_iadd (z := (nI (6 * k + p))) C dX0_has_9 (nI_add (6 * k) p) ?_
  refine vz_ishr (z := (fl >>> ((nI (6 * k + p)) &&& 31))) C dX0_has_10 rfl ?_
  refine vz_iconst (v := (nI 1)) C dX0_has_11 (by decide) ?_
  refine vz_iand (z := (bI (tb fl (6 * k + p)))) C dX0_has_12 (tb_shr (by omega)) ?_
  refine vz_join [(h, .inr (0, [.ref r, .int fl, .int ex, .int tg, .int (nI wh)]))] 0 0 21 [(0, .ref h), (1, .int (nI k)), (2, .int (nI p))] [.int (bI (tb fl (6 * k + p)))] (fun hJ1 => ?_) ?_
  · refine vz_if_eq (tgt := 20) C dX0_has_13 (by decide) (Pr := (tb fl (6 * k + p)) = false) vz_beq (fun h2 => ?_) (fun h2 => ?_)
    · refine vz_iconst (v := (nI 0)) C dX0_has_20 (by decide) ?_
      exact vz_to hJ1 (by first | rfl | simp only [if_neg (vz_fnt h2), decide_eq_false (vz_fnt h2), vz_bnt (vz_fnt h2), Bool.true_and, Bool.false_and, Bool.and_true, Bool.and_false, Bool.true_or, Bool.false_or, Bool.or_true, Bool.or_false, Bool.not_true, Bool.not_false, vz_bI1, vz_bI0, Bool.false_eq_true, if_true, if_false]) (by first | rfl | simp only [if_neg (vz_fnt h2), decide_eq_false (vz_fnt h2), vz_bnt (vz_fnt h2), Bool.true_and, Bool.false_and, Bool.and_true, Bool.and_false, Bool.true_or, Bool.false_or, Bool.or_true, Bool.or_false, Bool.not_true, Bool.not_false, vz_bI1, vz_bI0, Bool.false_eq_true, if_true, if_false]) (by first | rfl | simp only [if_neg (vz_fnt h2), decide_eq_false (vz_fnt h2), vz_bnt (vz_fnt h2), Bool.true_and, Bool.false_and, Bool.and_true, Bool.and_false, Bool.true_or, Bool.false_or, Bool.or_true, Bool.or_false, Bool.not_true, Bool.not_false, vz_bI1, vz_bI0, Bool.false_eq_true, if_true, if_false])
    · refine vz_iconst (v := (nI 1)) C dX0_has_16 (by decide) ?_
      refine vz_goto (tgt := 21) C dX0_has_17 (by decide) ?_
      exact vz_to hJ1 (by first | rfl | simp only [if_pos (vz_bnf h2), decide_eq_true (vz_bnf h2), vz_bt (vz_bnf h2), Bool.true_and, Bool.false_and, Bool.and_true, Bool.and_false, Bool.true_or, Bool.false_or, Bool.or_true, Bool.or_false, Bool.not_true, Bool.not_false, vz_bI1, vz_bI0, Bool.false_eq_true, if_true, if_false]) (by first | rfl | simp only [if_pos (vz_bnf h2), decide_eq_true (vz_bnf h2), vz_bt (vz_bnf h2), Bool.true_and, Bool.false_and, Bool.and_true, Bool.and_false, Bool.true_or, Bool.false_or, Bool.or_true, Bool.or_false, Bool.not_true, Bool.not_false, vz_bI1, vz_bI0, Bool.false_eq_true, if_true, if_false]) (by first | rfl | simp only [if_pos (vz_bnf h2), decide_eq_true (vz_bnf h2), vz_bt (vz_bnf h2), Bool.true_and, Bool.false_and, Bool.and_true, Bool.and_false, Bool.true_or, Bool.false_or, Bool.or_true, Bool.or_false, Bool.not_true, Bool.not_false, vz_bI1, vz_bI0, Bool.false_eq_true, if_true, if_false])
  exact vz_zret C () hr dX0_has_21 (vz_zn _) (by first | rfl | simp only [Bool.true_and, Bool.false_and, Bool.and_true, Bool.and_false, Bool.true_or, Bool.false_or, Bool.or_true, Bool.or_false, Bool.not_true, Bool.not_false, vz_bI1, vz_bI0, Bool.false_eq_true, if_true, if_false]) rfl

set_option maxRecDepth 100000 in
set_option maxHeartbeats 4000000 in
theorem c_X0_slotOf (l : Launch) (D : va_G) (cI cZ cJ : ClassId) (v : Nat) (d : Nat) (hp0 : 1 ≤ v)  : cnI l yX0_slotOf wsX0_slotOf { frames := 0, cells := 0, slots := 0, locals := 0 } D [(cI, .int), (cZ, .boolean), (cJ, .long)] [.int (nI v), .int (nI d)] [] (nI ((v - 1) * 3 + d)) (fun _ : Unit => []) := by
  refine cnI.mk (cc := cX0_slotOf) (nL := 2) (ret := (some .int)) (by decide) rfl (Nat.le_of_ble_eq_true rfl) ?_
  intro p_ e_ s_ m_ g_ b_ mt_ cd_ A_ C hr
  refine vz_iload_n C 0 dX0_slotOf_0 rfl rfl ?_
  refine vz_iconst (v := (nI 1)) C dX0_slotOf_1 (by decide) ?_
  refine vz_isub (z := (nI (v - 1))) C dX0_slotOf_2 (pk_sub (by first | assumption | omega | decide | exact natF_lt _ _ | exact refF_lt _ _ _ _ _)) ?_
  refine vz_iconst (v := (nI 3)) C dX0_slotOf_3 (by decide) ?_
  refine vz_imul (z := (nI ((v - 1) * 3))) C dX0_slotOf_4 (pk_mul (v - 1) 3) ?_
  refine vz_iload_n C 1 dX0_slotOf_5 rfl rfl ?_
  refine vz_iadd (z := (nI ((v - 1) * 3 + d))) C dX0_slotOf_6 (nI_add ((v - 1) * 3) d) ?_
  exact vz_iret C () hr dX0_slotOf_7 (by first | rfl | simp only [Bool.true_and, Bool.false_and, Bool.and_true, Bool.and_false, Bool.true_or, Bool.false_or, Bool.or_true, Bool.or_false, Bool.not_true, Bool.not_false, vz_bI1, vz_bI0, Bool.false_eq_true, if_true, if_false]) rfl

set_option maxRecDepth 100000 in
set_option maxHeartbeats 4000000 in
theorem c_X0_placeOf (l : Launch) (D : va_G) (cI cZ cJ : ClassId) (h : Nat) (r : Nat) (a : Nat) (wh : Nat) (fl : Int32) (ex : Int32) (tg : Int32) (pl : Nat → Int32) (v : Nat) (d : Nat) (hp0 : 1 ≤ v) (hp1 : v ≤ 4) (hp2 : d < 3)  : cnI l yX0_placeOf wsX0_placeOf { frames := 1, cells := 0, slots := 0, locals := 21 } D [(cI, .int), (cZ, .boolean), (cJ, .long)] [.ref h, .int (nI v), .int (nI d)] [(h, .inr (0, [.ref r, .int fl, .int ex, .int tg, .int (nI wh)])), (r, .inr (4, [.ref a])), (a, .inl (cI, 12, .inl pl))] (pl ((v - 1) * 3 + d)) (fun _ : Unit => [(h, .inr (0, [.ref r, .int fl, .int ex, .int tg, .int (nI wh)])), (r, .inr (4, [.ref a])), (a, .inl (cI, 12, .inl pl))]) := by
  refine cnI.mk (cc := cX0_placeOf) (nL := 3) (ret := (some .int)) (by decide) rfl (Nat.le_of_ble_eq_true rfl) ?_
  intro p_ e_ s_ m_ g_ b_ mt_ cd_ A_ C hr
  refine vz_aload_n C 0 dX0_placeOf_0 rfl rfl ?_
  refine vz_get (C1 := RX0) (T1 := TX0) (N := 5) C in_X0_placeOf_X0 0 0 dX0_placeOf_1 rfl rfl (by decide) (by decide +kernel) rfl ?_
  refine vz_iload_n C 1 dX0_placeOf_4 rfl rfl ?_
  refine vz_iload_n C 2 dX0_placeOf_5 rfl rfl ?_
  refine vz_callSi (rest := [.ref r]) (wr := [(h, .inr (0, [.ref r, .int fl, .int ex, .int tg, .int (nI wh)])), (r, .inr (4, [.ref a])), (a, .inl (cI, 12, .inl pl))]) C (fun _ : Unit => []) (fun _ : Unit => [(h, .inr (0, [.ref r, .int fl, .int ex, .int tg, .int (nI wh)])), (r, .inr (4, [.ref a])), (a, .inl (cI, 12, .inl pl))]) (c_X0_slotOf l D cI cZ cJ v d (by first | assumption | omega | decide | exact natF_lt _ _ | exact refF_lt _ _ _ _ _)) dX0_placeOf_6 gX0_placeOf_X0_slotOf rfl kd_X0_slotOf ⟨by decide, by decide⟩ ⟨by decide, by decide⟩ rfl rfl (Nat.le_of_ble_eq_true rfl) [] [0, 1, 2] [0, 1, 2] rfl rfl rfl (fun _ => rfl) (fun _ => ?_)
  refine vz_callVi (q0 := 0) (rest := []) (wr := [(h, .inr (0, [.ref r, .int fl, .int ex, .int tg, .int (nI wh)]))]) C (fun _ : Unit => [(r, .inr (4, [.ref a])), (a, .inl (cI, 12, .inl pl))]) (fun _ : Unit => [(h, .inr (0, [.ref r, .int fl, .int ex, .int tg, .int (nI wh)])), (r, .inr (4, [.ref a])), (a, .inl (cI, 12, .inl pl))]) (c_X4_read l D cI cZ cJ r a 12 ((v - 1) * 3 + d) pl (by first | assumption | omega | decide | exact natF_lt _ _ | exact refF_lt _ _ _ _ _) (by first | assumption | omega | decide | exact natF_lt _ _ | exact refF_lt _ _ _ _ _)) dX0_placeOf_9 gX0_placeOf_X4_read rfl kd_X4_read ⟨by decide, by decide⟩ ⟨by decide, by decide⟩ rfl rfl rfl rfl rfl (Nat.le_of_ble_eq_true rfl) [1, 2] [0] [0, 1, 2] rfl rfl rfl (fun _ => rfl) (fun _ => ?_)
  exact vz_iret C () hr dX0_placeOf_12 (by first | rfl | simp only [Bool.true_and, Bool.false_and, Bool.and_true, Bool.and_false, Bool.true_or, Bool.false_or, Bool.or_true, Bool.or_false, Bool.not_true, Bool.not_false, vz_bI1, vz_bI0, Bool.false_eq_true, if_true, if_false]) rfl

set_option maxRecDepth 100000 in
set_option maxHeartbeats 4000000 in
theorem c_X0_restart (l : Launch) (D : va_G) (cI cZ cJ : ClassId) (h : Nat) (r : Nat) (a : Nat) (wh : Nat) (fl : Int32) (ex : Int32) (tg : Int32) (pl : Nat → Int32) (fl2 : Int32)   : cnV l yX0_restart wsX0_restart { frames := 2, cells := 0, slots := 0, locals := 44 } D [(cI, .int), (cZ, .boolean), (cJ, .long)] [.ref h, .int fl2] [(h, .inr (0, [.ref r, .int fl, .int ex, .int tg, .int (nI wh)])), (r, .inr (4, [.ref a])), (a, .inl (cI, 12, .inl pl))] (fun _ : Unit => [(h, .inr (0, [.ref r, .int fl2, .int ex, .int tg, .int (nI wh)])), (r, .inr (4, [.ref a])), (a, .inl (cI, 12, .inl (fun _ => (-1))))]) := by
  refine cnV.mk (cc := cX0_restart) (nL := 2) (ret := none) (by decide) rfl (Nat.le_of_ble_eq_true rfl) ?_
  intro p_ e_ s_ m_ g_ b_ mt_ cd_ A_ C hr
  refine vz_aload_n C 0 dX0_restart_0 rfl rfl ?_
  refine vz_iload_n C 1 dX0_restart_1 rfl rfl ?_
  refine vz_put (C1 := RX0) (T1 := TX0) (N := 5) C [(h, .inr (0, [.ref r, .int fl2, .int ex, .int tg, .int (nI wh)])), (r, .inr (4, [.ref a])), (a, .inl (cI, 12, .inl pl))] in_X0_restart_X0 tyX0 tyX0_ok nmX0 0 1 dX0_restart_2 rfl rfl (by decide) (by decide +kernel) rfl (tyX0_ok 1 (by decide)) rfl rfl (Nat.le_of_ble_eq_true rfl) rfl ?_
  refine vz_aload_n C 0 dX0_restart_5 rfl rfl ?_
  refine vz_get (C1 := RX0) (T1 := TX0) (N := 5) C in_X0_restart_X0 0 0 dX0_restart_6 rfl rfl (by decide) (by decide +kernel) rfl ?_
  refine vz_iconst (v := (-1)) C dX0_restart_9 (by decide) ?_
  refine vz_callVv (q0 := 0) (rest := []) (wr := [(h, .inr (0, [.ref r, .int fl2, .int ex, .int tg, .int (nI wh)]))]) C (fun _ : Unit => [(r, .inr (4, [.ref a])), (a, .inl (cI, 12, .inl (fun _ => (-1))))]) (fun _ : Unit => [(h, .inr (0, [.ref r, .int fl2, .int ex, .int tg, .int (nI wh)])), (r, .inr (4, [.ref a])), (a, .inl (cI, 12, .inl (fun _ => (-1))))]) (c_X4_fill l D cI cZ cJ r a 12 pl (-1) (by first | assumption | omega | decide | exact natF_lt _ _ | exact refF_lt _ _ _ _ _)) dX0_restart_10 gX0_restart_X4_fill rfl kd_X4_fill ⟨by decide, by decide⟩ ⟨by decide, by decide⟩ rfl rfl rfl rfl rfl (Nat.le_of_ble_eq_true rfl) [1, 2] [0] [0, 1, 2] rfl rfl rfl (fun _ => rfl) (fun _ => ?_)
  exact vz_vret C () hr dX0_restart_13 rfl

set_option maxRecDepth 100000 in
set_option maxHeartbeats 4000000 in
theorem c_X0_isLostAtEntry (l : Launch) (D : va_G) (cI cZ cJ : ClassId) (h : Nat) (r : Nat) (wh : Nat) (x : Nat) (fl : Int32) (ex : Int32) (tg : Int32) (hp0 : x < 6000)  : cnI l yX0_isLostAtEntry wsX0_isLostAtEntry { frames := 1, cells := 0, slots := 0, locals := 22 } D [(cI, .int), (cZ, .boolean), (cJ, .long)] [.ref h, .int (nI x)] [(h, .inr (0, [.ref r, .int fl, .int ex, .int tg, .int (nI wh)]))] (bI (lostF fl x)) (fun _ : Unit => [(h, .inr (0, [.ref r, .int fl, .int ex, .int tg, .int (nI wh)]))]) := by
  refine cnI.mk (cc := cX0_isLostAtEntry) (nL := 3) (ret := (some .boolean)) (by decide) rfl (Nat.le_of_ble_eq_true rfl) ?_
  intro p_ e_ s_ m_ g_ b_ mt_ cd_ A_ C hr
  refine vz_iload_n C 1 dX0_isLostAtEntry_0 rfl rfl ?_
  refine vz_callSNi (rest := []) (wr := [(h, .inr (0, [.ref r, .int fl, .int ex, .int tg, .int (nI wh)]))]) C (fun _ : Unit => []) (fun _ : Unit => [(h, .inr (0, [.ref r, .int fl, .int ex, .int tg, .int (nI wh)]))]) (c_X7_portOf l D cI cZ cJ x (by first | assumption | omega | decide | exact natF_lt _ _ | exact refF_lt _ _ _ _ _)) dX0_isLostAtEntry_1 gX0_isLostAtEntry_X7_portOf_n52 rfl kd_X7_portOf (host := "VlanProbe") (by decide +kernel) (by decide +kernel) (by decide +kernel) ⟨by decide, by decide⟩ ⟨by decide, by decide⟩ rfl rfl (Nat.le_of_ble_eq_true rfl) [] [0] [0] rfl rfl rfl (fun _ => rfl) (fun _ => ?_)
  refine vz_istore_n C [(2, .int (nI (x / 1000))), (0, .ref h), (1, .int (nI x))] dX0_isLostAtEntry_4 rfl (by decide) rfl ?_
  refine vz_aload_n C 1 dX0_isLostAtEntry_5 rfl rfl ?_
  refine vz_iconst (v := (nI 0)) C dX0_isLostAtEntry_6 (by decide) ?_
  refine vz_iload_n C 0 dX0_isLostAtEntry_7 rfl rfl ?_
  refine vz_callVi (q0 := 0) (rest := []) (wr := []) C (fun _ : Unit => [(h, .inr (0, [.ref r, .int fl, .int ex, .int tg, .int (nI wh)]))]) (fun _ : Unit => [(h, .inr (0, [.ref r, .int fl, .int ex, .int tg, .int (nI wh)]))]) (c_X0_has l D cI cZ cJ h r wh 0 (x / 1000) fl ex tg (by first | assumption | omega | decide | exact natF_lt _ _ | exact refF_lt _ _ _ _ _)) dX0_isLostAtEntry_8 gX0_isLostAtEntry_X0_has rfl kd_X0_has ⟨by decide, by decide⟩ ⟨by decide, by decide⟩ rfl rfl rfl rfl rfl (Nat.le_of_ble_eq_true rfl) [0] [] [0] rfl rfl rfl (fun _ => rfl) (fun _ => ?_)
  refine vz_join [(h, .inr (0, [.ref r, .int fl, .int ex, .int tg, .int (nI wh)]))] 0 0 35 [(0, .ref h), (1, .int (nI x)), (2, .int (nI (x / 1000)))] [.int (bI ((tb fl (6 * 0 + (x / 1000))) || ((tb fl (6 * 3 + (x / 1000))) && (decide ((x / 100 % 10) = 0)))))] (fun hJ1 => ?_) ?_
  · refine vz_if_ne (tgt := 30) C dX0_isLostAtEntry_11 (by decide) (Pr := (tb fl (6 * 0 + (x / 1000))) = true) vz_bne (fun h2 => ?_) (fun h2 => ?_)
    · refine vz_iconst (v := (nI 1)) C dX0_isLostAtEntry_30 (by decide) ?_
      refine vz_goto (tgt := 35) C dX0_isLostAtEntry_31 (by decide) ?_
      refine vz_lv (lv' := [(0, .ref h), (1, .int (nI x)), (2, .int (nI (x / 1000)))]) [1, 2, 0] rfl ?_
      exact vz_to hJ1 (by first | rfl | simp only [if_pos h2, decide_eq_true h2, vz_bt h2, Bool.true_and, Bool.false_and, Bool.and_true, Bool.and_false, Bool.true_or, Bool.false_or, Bool.or_true, Bool.or_false, Bool.not_true, Bool.not_false, vz_bI1, vz_bI0, Bool.false_eq_true, if_true, if_false]) (by first | rfl | simp only [if_pos h2, decide_eq_true h2, vz_bt h2, Bool.true_and, Bool.false_and, Bool.and_true, Bool.and_false, Bool.true_or, Bool.false_or, Bool.or_true, Bool.or_false, Bool.not_true, Bool.not_false, vz_bI1, vz_bI0, Bool.false_eq_true, if_true, if_false]) (by first | rfl | simp only [if_pos h2, decide_eq_true h2, vz_bt h2, Bool.true_and, Bool.false_and, Bool.and_true, Bool.and_false, Bool.true_or, Bool.false_or, Bool.or_true, Bool.or_false, Bool.not_true, Bool.not_false, vz_bI1, vz_bI0, Bool.false_eq_true, if_true, if_false])
    · refine vz_aload_n C 1 dX0_isLostAtEntry_14 rfl rfl ?_
      refine vz_iconst (v := (nI 3)) C dX0_isLostAtEntry_15 (by decide) ?_
      refine vz_iload_n C 0 dX0_isLostAtEntry_16 rfl rfl ?_
      refine vz_callVi (q0 := 0) (rest := []) (wr := []) C (fun _ : Unit => [(h, .inr (0, [.ref r, .int fl, .int ex, .int tg, .int (nI wh)]))]) (fun _ : Unit => [(h, .inr (0, [.ref r, .int fl, .int ex, .int tg, .int (nI wh)]))]) (c_X0_has l D cI cZ cJ h r wh 3 (x / 1000) fl ex tg (by first | assumption | omega | decide | exact natF_lt _ _ | exact refF_lt _ _ _ _ _)) dX0_isLostAtEntry_17 gX0_isLostAtEntry_X0_has rfl kd_X0_has ⟨by decide, by decide⟩ ⟨by decide, by decide⟩ rfl rfl rfl rfl rfl (Nat.le_of_ble_eq_true rfl) [0] [] [0] rfl rfl rfl (fun _ => rfl) (fun _ => ?_)
      refine vz_if_eq (tgt := 34) C dX0_isLostAtEntry_20 (by decide) (Pr := (tb fl (6 * 3 + (x / 1000))) = false) vz_beq (fun h3 => ?_) (fun h3 => ?_)
      · refine vz_iconst (v := (nI 0)) C dX0_isLostAtEntry_34 (by decide) ?_
        refine vz_lv (lv' := [(0, .ref h), (1, .int (nI x)), (2, .int (nI (x / 1000)))]) [1, 2, 0] rfl ?_
        exact vz_to hJ1 (by first | rfl | simp only [if_neg h2, decide_eq_false h2, vz_bnt h2, if_neg (vz_fnt h3), decide_eq_false (vz_fnt h3), vz_bnt (vz_fnt h3), Bool.true_and, Bool.false_and, Bool.and_true, Bool.and_false, Bool.true_or, Bool.false_or, Bool.or_true, Bool.or_false, Bool.not_true, Bool.not_false, vz_bI1, vz_bI0, Bool.false_eq_true, if_true, if_false]) (by first | rfl | simp only [if_neg h2, decide_eq_false h2, vz_bnt h2, if_neg (vz_fnt h3), decide_eq_false (vz_fnt h3), vz_bnt (vz_fnt h3), Bool.true_and, Bool.false_and, Bool.and_true, Bool.and_false, Bool.true_or, Bool.false_or, Bool.or_true, Bool.or_false, Bool.not_true, Bool.not_false, vz_bI1, vz_bI0, Bool.false_eq_true, if_true, if_false]) (by first | rfl | simp only [if_neg h2, decide_eq_false h2, vz_bnt h2, if_neg (vz_fnt h3), decide_eq_false (vz_fnt h3), vz_bnt (vz_fnt h3), Bool.true_and, Bool.false_and, Bool.and_true, Bool.and_false, Bool.true_or, Bool.false_or, Bool.or_true, Bool.or_false, Bool.not_true, Bool.not_false, vz_bI1, vz_bI0, Bool.false_eq_true, if_true, if_false])
      · refine vz_iload_n C 2 dX0_isLostAtEntry_23 rfl rfl ?_
        refine vz_callSNi (rest := []) (wr := [(h, .inr (0, [.ref r, .int fl, .int ex, .int tg, .int (nI wh)]))]) C (fun _ : Unit => []) (fun _ : Unit => [(h, .inr (0, [.ref r, .int fl, .int ex, .int tg, .int (nI wh)]))]) (c_X7_tagOf l D cI cZ cJ x (by first | assumption | omega | decide | exact natF_lt _ _ | exact refF_lt _ _ _ _ _)) dX0_isLostAtEntry_24 gX0_isLostAtEntry_X7_tagOf_n55 rfl kd_X7_tagOf (host := "VlanProbe") (by decide +kernel) (by decide +kernel) (by decide +kernel) ⟨by decide, by decide⟩ ⟨by decide, by decide⟩ rfl rfl (Nat.le_of_ble_eq_true rfl) [] [0] [0] rfl rfl rfl (fun _ => rfl) (fun _ => ?_)
        refine vz_if_ne (tgt := 34) C dX0_isLostAtEntry_27 (by decide) (Pr := ¬ (x / 100 % 10) = 0) (not_congr (vz_n0 (by first | assumption | omega | decide | exact natF_lt _ _ | exact refF_lt _ _ _ _ _))) (fun h4 => ?_) (fun h4 => ?_)
        · refine vz_iconst (v := (nI 0)) C dX0_isLostAtEntry_34 (by decide) ?_
          refine vz_lv (lv' := [(0, .ref h), (1, .int (nI x)), (2, .int (nI (x / 1000)))]) [1, 2, 0] rfl ?_
          exact vz_to hJ1 (by first | rfl | simp only [if_neg h2, decide_eq_false h2, vz_bnt h2, if_pos (vz_bnf h3), decide_eq_true (vz_bnf h3), vz_bt (vz_bnf h3), if_neg h4, decide_eq_false h4, Bool.true_and, Bool.false_and, Bool.and_true, Bool.and_false, Bool.true_or, Bool.false_or, Bool.or_true, Bool.or_false, Bool.not_true, Bool.not_false, vz_bI1, vz_bI0, Bool.false_eq_true, if_true, if_false]) (by first | rfl | simp only [if_neg h2, decide_eq_false h2, vz_bnt h2, if_pos (vz_bnf h3), decide_eq_true (vz_bnf h3), vz_bt (vz_bnf h3), if_neg h4, decide_eq_false h4, Bool.true_and, Bool.false_and, Bool.and_true, Bool.and_false, Bool.true_or, Bool.false_or, Bool.or_true, Bool.or_false, Bool.not_true, Bool.not_false, vz_bI1, vz_bI0, Bool.false_eq_true, if_true, if_false]) (by first | rfl | simp only [if_neg h2, decide_eq_false h2, vz_bnt h2, if_pos (vz_bnf h3), decide_eq_true (vz_bnf h3), vz_bt (vz_bnf h3), if_neg h4, decide_eq_false h4, Bool.true_and, Bool.false_and, Bool.and_true, Bool.and_false, Bool.true_or, Bool.false_or, Bool.or_true, Bool.or_false, Bool.not_true, Bool.not_false, vz_bI1, vz_bI0, Bool.false_eq_true, if_true, if_false])
        · refine vz_iconst (v := (nI 1)) C dX0_isLostAtEntry_30 (by decide) ?_
          refine vz_goto (tgt := 35) C dX0_isLostAtEntry_31 (by decide) ?_
          refine vz_lv (lv' := [(0, .ref h), (1, .int (nI x)), (2, .int (nI (x / 1000)))]) [1, 2, 0] rfl ?_
          exact vz_to hJ1 (by first | rfl | simp only [if_neg h2, decide_eq_false h2, vz_bnt h2, if_pos (vz_bnf h3), decide_eq_true (vz_bnf h3), vz_bt (vz_bnf h3), if_pos (Decidable.not_not.mp h4), decide_eq_true (Decidable.not_not.mp h4), Bool.true_and, Bool.false_and, Bool.and_true, Bool.and_false, Bool.true_or, Bool.false_or, Bool.or_true, Bool.or_false, Bool.not_true, Bool.not_false, vz_bI1, vz_bI0, Bool.false_eq_true, if_true, if_false]) (by first | rfl | simp only [if_neg h2, decide_eq_false h2, vz_bnt h2, if_pos (vz_bnf h3), decide_eq_true (vz_bnf h3), vz_bt (vz_bnf h3), if_pos (Decidable.not_not.mp h4), decide_eq_true (Decidable.not_not.mp h4), Bool.true_and, Bool.false_and, Bool.and_true, Bool.and_false, Bool.true_or, Bool.false_or, Bool.or_true, Bool.or_false, Bool.not_true, Bool.not_false, vz_bI1, vz_bI0, Bool.false_eq_true, if_true, if_false]) (by first | rfl | simp only [if_neg h2, decide_eq_false h2, vz_bnt h2, if_pos (vz_bnf h3), decide_eq_true (vz_bnf h3), vz_bt (vz_bnf h3), if_pos (Decidable.not_not.mp h4), decide_eq_true (Decidable.not_not.mp h4), Bool.true_and, Bool.false_and, Bool.and_true, Bool.and_false, Bool.true_or, Bool.false_or, Bool.or_true, Bool.or_false, Bool.not_true, Bool.not_false, vz_bI1, vz_bI0, Bool.false_eq_true, if_true, if_false])
  exact vz_zret C () hr dX0_isLostAtEntry_35 (vz_zn _) (by first | rfl | simp only [lostF, Bool.true_and, Bool.false_and, Bool.and_true, Bool.and_false, Bool.true_or, Bool.false_or, Bool.or_true, Bool.or_false, Bool.not_true, Bool.not_false, vz_bI1, vz_bI0, Bool.false_eq_true, if_true, if_false] | simp [lostF, Bool.true_and, Bool.false_and, Bool.and_true, Bool.and_false, Bool.true_or, Bool.false_or, Bool.or_true, Bool.or_false, Bool.not_true, Bool.not_false, vz_bI1, vz_bI0, Bool.false_eq_true, if_true, if_false]) rfl

set_option maxRecDepth 100000 in
set_option maxHeartbeats 4000000 in
theorem c_X0_refusal (l : Launch) (D : va_G) (cI cZ cJ : ClassId) (h : Nat) (r : Nat) (wh : Nat) (x : Nat) (fl : Int32) (ex : Int32) (tg : Int32) (g : Nat) (np : Nat) (ac : Int32) (me : Int32) (na : Int32) (hp0 : x < 6000) (hp1 : x / 100 % 10 < 5)  : cnI l yX0_refusal wsX0_refusal { frames := 1, cells := 0, slots := 0, locals := 22 } D [(cI, .int), (cZ, .boolean), (cJ, .long)] [.ref h, .ref g, .int (nI x)] [(h, .inr (0, [.ref r, .int fl, .int ex, .int tg, .int (nI wh)])), (g, .inr (2, [.int (nI np), .int ac, .int me, .int na]))] (nI (refF ac me na fl x)) (fun _ : Unit => [(h, .inr (0, [.ref r, .int fl, .int ex, .int tg, .int (nI wh)])), (g, .inr (2, [.int (nI np), .int ac, .int me, .int na]))]) := by
  refine cnI.mk (cc := cX0_refusal) (nL := 5) (ret := (some .int)) (by decide) rfl (Nat.le_of_ble_eq_true rfl) ?_
  intro p_ e_ s_ m_ g_ b_ mt_ cd_ A_ C hr
  refine vz_iload_n C 2 dX0_refusal_0 rfl rfl ?_
  refine vz_callSNi (rest := []) (wr := [(h, .inr (0, [.ref r, .int fl, .int ex, .int tg, .int (nI wh)])), (g, .inr (2, [.int (nI np), .int ac, .int me, .int na]))]) C (fun _ : Unit => []) (fun _ : Unit => [(h, .inr (0, [.ref r, .int fl, .int ex, .int tg, .int (nI wh)])), (g, .inr (2, [.int (nI np), .int ac, .int me, .int na]))]) (c_X7_portOf l D cI cZ cJ x (by first | assumption | omega | decide | exact natF_lt _ _ | exact refF_lt _ _ _ _ _)) dX0_refusal_1 gX0_refusal_X7_portOf_n52 rfl kd_X7_portOf (host := "VlanProbe") (by decide +kernel) (by decide +kernel) (by decide +kernel) ⟨by decide, by decide⟩ ⟨by decide, by decide⟩ rfl rfl (Nat.le_of_ble_eq_true rfl) [] [0, 1] [0, 1] rfl rfl rfl (fun _ => rfl) (fun _ => ?_)
  refine vz_istore_n C [(3, .int (nI (x / 1000))), (0, .ref h), (1, .ref g), (2, .int (nI x))] dX0_refusal_4 rfl (by decide) rfl ?_
  refine vz_iload_n C 3 dX0_refusal_5 rfl rfl ?_
  refine vz_callSNi (rest := []) (wr := [(h, .inr (0, [.ref r, .int fl, .int ex, .int tg, .int (nI wh)])), (g, .inr (2, [.int (nI np), .int ac, .int me, .int na]))]) C (fun _ : Unit => []) (fun _ : Unit => [(h, .inr (0, [.ref r, .int fl, .int ex, .int tg, .int (nI wh)])), (g, .inr (2, [.int (nI np), .int ac, .int me, .int na]))]) (c_X7_tagOf l D cI cZ cJ x (by first | assumption | omega | decide | exact natF_lt _ _ | exact refF_lt _ _ _ _ _)) dX0_refusal_6 gX0_refusal_X7_tagOf_n55 rfl kd_X7_tagOf (host := "VlanProbe") (by decide +kernel) (by decide +kernel) (by decide +kernel) ⟨by decide, by decide⟩ ⟨by decide, by decide⟩ rfl rfl (Nat.le_of_ble_eq_true rfl) [] [0, 1] [0, 1] rfl rfl rfl (fun _ => rfl) (fun _ => ?_)
  refine vz_istore C [(4, .int (nI (x / 100 % 10))), (3, .int (nI (x / 1000))), (0, .ref h), (1, .ref g), (2, .int (nI x))] dX0_refusal_9 (by decide) rfl ?_
  refine vz_iload C 0 dX0_refusal_11 rfl ?_
  refine vz_if_ne (tgt := 30) C dX0_refusal_13 (by decide) (Pr := ¬ (x / 100 % 10) = 0) (not_congr (vz_n0 (by first | assumption | omega | decide | exact natF_lt _ _ | exact refF_lt _ _ _ _ _))) (fun h1 => ?_) (fun h1 => ?_)
  · refine vz_aload_n C 2 dX0_refusal_30 rfl rfl ?_
    refine vz_iconst (v := (nI 4)) C dX0_refusal_31 (by decide) ?_
    refine vz_iload_n C 1 dX0_refusal_32 rfl rfl ?_
    refine vz_callVi (q0 := 0) (rest := []) (wr := [(g, .inr (2, [.int (nI np), .int ac, .int me, .int na]))]) C (fun _ : Unit => [(h, .inr (0, [.ref r, .int fl, .int ex, .int tg, .int (nI wh)]))]) (fun _ : Unit => [(h, .inr (0, [.ref r, .int fl, .int ex, .int tg, .int (nI wh)])), (g, .inr (2, [.int (nI np), .int ac, .int me, .int na]))]) (c_X0_has l D cI cZ cJ h r wh 4 (x / 1000) fl ex tg (by first | assumption | omega | decide | exact natF_lt _ _ | exact refF_lt _ _ _ _ _)) dX0_refusal_33 gX0_refusal_X0_has rfl kd_X0_has ⟨by decide, by decide⟩ ⟨by decide, by decide⟩ rfl rfl rfl rfl rfl (Nat.le_of_ble_eq_true rfl) [0] [1] [1, 0] rfl rfl rfl (fun _ => rfl) (fun _ => ?_)
    refine vz_if_eq (tgt := 41) C dX0_refusal_36 (by decide) (Pr := (tb fl (6 * 4 + (x / 1000))) = false) vz_beq (fun h2 => ?_) (fun h2 => ?_)
    · refine vz_aload_n C 3 dX0_refusal_41 rfl rfl ?_
      refine vz_callVi (q0 := 0) (rest := []) (wr := [(h, .inr (0, [.ref r, .int fl, .int ex, .int tg, .int (nI wh)]))]) C (fun _ : Unit => [(g, .inr (2, [.int (nI np), .int ac, .int me, .int na]))]) (fun _ : Unit => [(h, .inr (0, [.ref r, .int fl, .int ex, .int tg, .int (nI wh)])), (g, .inr (2, [.int (nI np), .int ac, .int me, .int na]))]) (c_X2_accessPorts l D cI cZ cJ g np ac me na) dX0_refusal_42 gX0_refusal_X2_accessPorts rfl kd_X2_accessPorts ⟨by decide, by decide⟩ ⟨by decide, by decide⟩ rfl rfl rfl rfl rfl (Nat.le_of_ble_eq_true rfl) [1] [0] [0, 1] rfl rfl rfl (fun _ => rfl) (fun _ => ?_)
      refine vz_iload_n C 1 dX0_refusal_45 rfl rfl ?_
      refine vz_ishr (z := (ac >>> ((nI (x / 1000)) &&& 31))) C dX0_refusal_46 rfl ?_
      refine vz_iconst (v := (nI 1)) C dX0_refusal_47 (by decide) ?_
      refine vz_iand (z := (bI (tb ac (x / 1000)))) C dX0_refusal_48 (tb_shr (by omega)) ?_
      refine vz_if_eq (tgt := 54) C dX0_refusal_49 (by decide) (Pr := (tb ac (x / 1000)) = false) vz_beq (fun h3 => ?_) (fun h3 => ?_)
      · refine vz_aload_n C 3 dX0_refusal_54 rfl rfl ?_
        refine vz_callVi (q0 := 0) (rest := []) (wr := [(h, .inr (0, [.ref r, .int fl, .int ex, .int tg, .int (nI wh)]))]) C (fun _ : Unit => [(g, .inr (2, [.int (nI np), .int ac, .int me, .int na]))]) (fun _ : Unit => [(h, .inr (0, [.ref r, .int fl, .int ex, .int tg, .int (nI wh)])), (g, .inr (2, [.int (nI np), .int ac, .int me, .int na]))]) (c_X2_members l D cI cZ cJ g np ac me na) dX0_refusal_55 gX0_refusal_X2_members rfl kd_X2_members ⟨by decide, by decide⟩ ⟨by decide, by decide⟩ rfl rfl rfl rfl rfl (Nat.le_of_ble_eq_true rfl) [1] [0] [0, 1] rfl rfl rfl (fun _ => rfl) (fun _ => ?_)
        refine vz_iload C 0 dX0_refusal_58 rfl ?_
        refine vz_iload_n C 1 dX0_refusal_60 rfl rfl ?_
        refine vz_callSNi (rest := [.int me]) (wr := [(h, .inr (0, [.ref r, .int fl, .int ex, .int tg, .int (nI wh)])), (g, .inr (2, [.int (nI np), .int ac, .int me, .int na]))]) C (fun _ : Unit => []) (fun _ : Unit => [(h, .inr (0, [.ref r, .int fl, .int ex, .int tg, .int (nI wh)])), (g, .inr (2, [.int (nI np), .int ac, .int me, .int na]))]) (c_X7_cellOf l D cI cZ cJ (x / 100 % 10) (x / 1000)) dX0_refusal_61 gX0_refusal_X7_cellOf_n88 rfl kd_X7_cellOf (host := "VlanProbe") (by decide +kernel) (by decide +kernel) (by decide +kernel) ⟨by decide, by decide⟩ ⟨by decide, by decide⟩ rfl rfl (Nat.le_of_ble_eq_true rfl) [] [0, 1] [0, 1] rfl rfl rfl (fun _ => rfl) (fun _ => ?_)
        refine vz_iand (z := (me &&& (bit1 (6 * (x / 100 % 10) + (x / 1000))))) C dX0_refusal_64 rfl ?_
        refine vz_join [(h, .inr (0, [.ref r, .int fl, .int ex, .int tg, .int (nI wh)])), (g, .inr (2, [.int (nI np), .int ac, .int me, .int na]))] 0 0 73 [(0, .ref h), (1, .ref g), (2, .int (nI x)), (3, .int (nI (x / 1000))), (4, .int (nI (x / 100 % 10)))] [.int (nI (if tb me (6 * (x / 100 % 10) + x / 1000) = true then 0 else 3))] (fun hJ4 => ?_) ?_
        · refine vz_if_ne (tgt := 72) C dX0_refusal_65 (by decide) (Pr := tb me (6 * (x / 100 % 10) + x / 1000) = true) (tb_bit1 (by omega)) (fun h5 => ?_) (fun h5 => ?_)
          · refine vz_iconst (v := (nI 0)) C dX0_refusal_72 (by decide) ?_
            refine vz_lv (lv' := [(0, .ref h), (1, .ref g), (2, .int (nI x)), (3, .int (nI (x / 1000))), (4, .int (nI (x / 100 % 10)))]) [2, 3, 4, 1, 0] rfl ?_
            exact vz_to hJ4 (by first | rfl | simp only [if_pos h5, decide_eq_true h5, vz_bt h5, Bool.true_and, Bool.false_and, Bool.and_true, Bool.and_false, Bool.true_or, Bool.false_or, Bool.or_true, Bool.or_false, Bool.not_true, Bool.not_false, vz_bI1, vz_bI0, Bool.false_eq_true, if_true, if_false]) (by first | rfl | simp only [if_pos h5, decide_eq_true h5, vz_bt h5, Bool.true_and, Bool.false_and, Bool.and_true, Bool.and_false, Bool.true_or, Bool.false_or, Bool.or_true, Bool.or_false, Bool.not_true, Bool.not_false, vz_bI1, vz_bI0, Bool.false_eq_true, if_true, if_false]) (by first | rfl | simp only [if_pos h5, decide_eq_true h5, vz_bt h5, Bool.true_and, Bool.false_and, Bool.and_true, Bool.and_false, Bool.true_or, Bool.false_or, Bool.or_true, Bool.or_false, Bool.not_true, Bool.not_false, vz_bI1, vz_bI0, Bool.false_eq_true, if_true, if_false])
          · refine vz_iconst (v := (nI 3)) C dX0_refusal_68 (by decide) ?_
            refine vz_goto (tgt := 73) C dX0_refusal_69 (by decide) ?_
            refine vz_lv (lv' := [(0, .ref h), (1, .ref g), (2, .int (nI x)), (3, .int (nI (x / 1000))), (4, .int (nI (x / 100 % 10)))]) [2, 3, 4, 1, 0] rfl ?_
            exact vz_to hJ4 (by first | rfl | simp only [if_neg h5, decide_eq_false h5, vz_bnt h5, Bool.true_and, Bool.false_and, Bool.and_true, Bool.and_false, Bool.true_or, Bool.false_or, Bool.or_true, Bool.or_false, Bool.not_true, Bool.not_false, vz_bI1, vz_bI0, Bool.false_eq_true, if_true, if_false]) (by first | rfl | simp only [if_neg h5, decide_eq_false h5, vz_bnt h5, Bool.true_and, Bool.false_and, Bool.and_true, Bool.and_false, Bool.true_or, Bool.false_or, Bool.or_true, Bool.or_false, Bool.not_true, Bool.not_false, vz_bI1, vz_bI0, Bool.false_eq_true, if_true, if_false]) (by first | rfl | simp only [if_neg h5, decide_eq_false h5, vz_bnt h5, Bool.true_and, Bool.false_and, Bool.and_true, Bool.and_false, Bool.true_or, Bool.false_or, Bool.or_true, Bool.or_false, Bool.not_true, Bool.not_false, vz_bI1, vz_bI0, Bool.false_eq_true, if_true, if_false])
        exact vz_iret C () hr dX0_refusal_73 (by first | rfl | simp only [refF, if_neg h1, decide_eq_false h1, if_neg (vz_fnt h2), decide_eq_false (vz_fnt h2), vz_bnt (vz_fnt h2), if_neg (vz_fnt h3), decide_eq_false (vz_fnt h3), vz_bnt (vz_fnt h3), Bool.true_and, Bool.false_and, Bool.and_true, Bool.and_false, Bool.true_or, Bool.false_or, Bool.or_true, Bool.or_false, Bool.not_true, Bool.not_false, vz_bI1, vz_bI0, Bool.false_eq_true, if_true, if_false] | simp [refF, if_neg h1, decide_eq_false h1, if_neg (vz_fnt h2), decide_eq_false (vz_fnt h2), vz_bnt (vz_fnt h2), if_neg (vz_fnt h3), decide_eq_false (vz_fnt h3), vz_bnt (vz_fnt h3), Bool.true_and, Bool.false_and, Bool.and_true, Bool.and_false, Bool.true_or, Bool.false_or, Bool.or_true, Bool.or_false, Bool.not_true, Bool.not_false, vz_bI1, vz_bI0, Bool.false_eq_true, if_true, if_false]) rfl
      · refine vz_iconst (v := (nI 1)) C dX0_refusal_52 (by decide) ?_
        exact vz_iret C () hr dX0_refusal_53 (by first | rfl | simp only [refF, if_neg h1, decide_eq_false h1, if_neg (vz_fnt h2), decide_eq_false (vz_fnt h2), vz_bnt (vz_fnt h2), if_pos (vz_bnf h3), decide_eq_true (vz_bnf h3), vz_bt (vz_bnf h3), Bool.true_and, Bool.false_and, Bool.and_true, Bool.and_false, Bool.true_or, Bool.false_or, Bool.or_true, Bool.or_false, Bool.not_true, Bool.not_false, vz_bI1, vz_bI0, Bool.false_eq_true, if_true, if_false] | simp [refF, if_neg h1, decide_eq_false h1, if_neg (vz_fnt h2), decide_eq_false (vz_fnt h2), vz_bnt (vz_fnt h2), if_pos (vz_bnf h3), decide_eq_true (vz_bnf h3), vz_bt (vz_bnf h3), Bool.true_and, Bool.false_and, Bool.and_true, Bool.and_false, Bool.true_or, Bool.false_or, Bool.or_true, Bool.or_false, Bool.not_true, Bool.not_false, vz_bI1, vz_bI0, Bool.false_eq_true, if_true, if_false]) rfl
    · refine vz_iconst (v := (nI 0)) C dX0_refusal_39 (by decide) ?_
      exact vz_iret C () hr dX0_refusal_40 (by first | rfl | simp only [refF, if_neg h1, decide_eq_false h1, if_pos (vz_bnf h2), decide_eq_true (vz_bnf h2), vz_bt (vz_bnf h2), Bool.true_and, Bool.false_and, Bool.and_true, Bool.and_false, Bool.true_or, Bool.false_or, Bool.or_true, Bool.or_false, Bool.not_true, Bool.not_false, vz_bI1, vz_bI0, Bool.false_eq_true, if_true, if_false] | simp [refF, if_neg h1, decide_eq_false h1, if_pos (vz_bnf h2), decide_eq_true (vz_bnf h2), vz_bt (vz_bnf h2), Bool.true_and, Bool.false_and, Bool.and_true, Bool.and_false, Bool.true_or, Bool.false_or, Bool.or_true, Bool.or_false, Bool.not_true, Bool.not_false, vz_bI1, vz_bI0, Bool.false_eq_true, if_true, if_false]) rfl
  · refine vz_aload_n C 3 dX0_refusal_16 rfl rfl ?_
    refine vz_iload_n C 1 dX0_refusal_17 rfl rfl ?_
    refine vz_callVi (q0 := 0) (rest := []) (wr := [(h, .inr (0, [.ref r, .int fl, .int ex, .int tg, .int (nI wh)]))]) C (fun _ : Unit => [(g, .inr (2, [.int (nI np), .int ac, .int me, .int na]))]) (fun _ : Unit => [(h, .inr (0, [.ref r, .int fl, .int ex, .int tg, .int (nI wh)])), (g, .inr (2, [.int (nI np), .int ac, .int me, .int na]))]) (c_X2_nativeOf l D cI cZ cJ g np ac me na (x / 1000) (by first | assumption | omega | decide | exact natF_lt _ _ | exact refF_lt _ _ _ _ _)) dX0_refusal_18 gX0_refusal_X2_nativeOf rfl kd_X2_nativeOf ⟨by decide, by decide⟩ ⟨by decide, by decide⟩ rfl rfl rfl rfl rfl (Nat.le_of_ble_eq_true rfl) [1] [0] [0, 1] rfl rfl rfl (fun _ => rfl) (fun _ => ?_)
    refine vz_join [(h, .inr (0, [.ref r, .int fl, .int ex, .int tg, .int (nI wh)])), (g, .inr (2, [.int (nI np), .int ac, .int me, .int na]))] 0 0 29 [(0, .ref h), (1, .ref g), (2, .int (nI x)), (3, .int (nI (x / 1000))), (4, .int (nI (x / 100 % 10)))] [.int (nI (if (natF na (x / 1000)) = 0 then 2 else 0))] (fun hJ6 => ?_) ?_
    · refine vz_if_ne (tgt := 28) C dX0_refusal_21 (by decide) (Pr := ¬ (natF na (x / 1000)) = 0) (not_congr (vz_n0 (by first | assumption | omega | decide | exact natF_lt _ _ | exact refF_lt _ _ _ _ _))) (fun h7 => ?_) (fun h7 => ?_)
      · refine vz_iconst (v := (nI 0)) C dX0_refusal_28 (by decide) ?_
        refine vz_lv (lv' := [(0, .ref h), (1, .ref g), (2, .int (nI x)), (3, .int (nI (x / 1000))), (4, .int (nI (x / 100 % 10)))]) [2, 3, 4, 1, 0] rfl ?_
        exact vz_to hJ6 (by first | rfl | simp only [if_neg h7, decide_eq_false h7, Bool.true_and, Bool.false_and, Bool.and_true, Bool.and_false, Bool.true_or, Bool.false_or, Bool.or_true, Bool.or_false, Bool.not_true, Bool.not_false, vz_bI1, vz_bI0, Bool.false_eq_true, if_true, if_false]) (by first | rfl | simp only [if_neg h7, decide_eq_false h7, Bool.true_and, Bool.false_and, Bool.and_true, Bool.and_false, Bool.true_or, Bool.false_or, Bool.or_true, Bool.or_false, Bool.not_true, Bool.not_false, vz_bI1, vz_bI0, Bool.false_eq_true, if_true, if_false]) (by first | rfl | simp only [if_neg h7, decide_eq_false h7, Bool.true_and, Bool.false_and, Bool.and_true, Bool.and_false, Bool.true_or, Bool.false_or, Bool.or_true, Bool.or_false, Bool.not_true, Bool.not_false, vz_bI1, vz_bI0, Bool.false_eq_true, if_true, if_false])
      · refine vz_iconst (v := (nI 2)) C dX0_refusal_24 (by decide) ?_
        refine vz_goto (tgt := 29) C dX0_refusal_25 (by decide) ?_
        refine vz_lv (lv' := [(0, .ref h), (1, .ref g), (2, .int (nI x)), (3, .int (nI (x / 1000))), (4, .int (nI (x / 100 % 10)))]) [2, 3, 4, 1, 0] rfl ?_
        exact vz_to hJ6 (by first | rfl | simp only [if_pos (Decidable.not_not.mp h7), decide_eq_true (Decidable.not_not.mp h7), Bool.true_and, Bool.false_and, Bool.and_true, Bool.and_false, Bool.true_or, Bool.false_or, Bool.or_true, Bool.or_false, Bool.not_true, Bool.not_false, vz_bI1, vz_bI0, Bool.false_eq_true, if_true, if_false]) (by first | rfl | simp only [if_pos (Decidable.not_not.mp h7), decide_eq_true (Decidable.not_not.mp h7), Bool.true_and, Bool.false_and, Bool.and_true, Bool.and_false, Bool.true_or, Bool.false_or, Bool.or_true, Bool.or_false, Bool.not_true, Bool.not_false, vz_bI1, vz_bI0, Bool.false_eq_true, if_true, if_false]) (by first | rfl | simp only [if_pos (Decidable.not_not.mp h7), decide_eq_true (Decidable.not_not.mp h7), Bool.true_and, Bool.false_and, Bool.and_true, Bool.and_false, Bool.true_or, Bool.false_or, Bool.or_true, Bool.or_false, Bool.not_true, Bool.not_false, vz_bI1, vz_bI0, Bool.false_eq_true, if_true, if_false])
    exact vz_iret C () hr dX0_refusal_29 (by first | rfl | simp only [refF, if_pos (Decidable.not_not.mp h1), decide_eq_true (Decidable.not_not.mp h1), Bool.true_and, Bool.false_and, Bool.and_true, Bool.and_false, Bool.true_or, Bool.false_or, Bool.or_true, Bool.or_false, Bool.not_true, Bool.not_false, vz_bI1, vz_bI0, Bool.false_eq_true, if_true, if_false] | simp [refF, if_pos (Decidable.not_not.mp h1), decide_eq_true (Decidable.not_not.mp h1), Bool.true_and, Bool.false_and, Bool.and_true, Bool.and_false, Bool.true_or, Bool.false_or, Bool.or_true, Bool.or_false, Bool.not_true, Bool.not_false, vz_bI1, vz_bI0, Bool.false_eq_true, if_true, if_false]) rfl

set_option maxRecDepth 100000 in
set_option maxHeartbeats 4000000 in
theorem c_X0_forward (l : Launch) (D : va_G) (cI cZ cJ : ClassId) (h : Nat) (r : Nat) (a : Nat) (wh : Nat) (fl : Int32) (ex : Int32) (tg : Int32) (pl : Nat → Int32) (g : Nat) (np : Nat) (ac : Int32) (me : Int32) (na : Int32) (p : Nat) (v : Nat) (d : Nat) (hp0 : p < 6) (hp1 : 1 ≤ v) (hp2 : v ≤ 4) (hp3 : d ≤ 3)  : cnV l yX0_forward wsX0_forward { frames := 1, cells := 0, slots := 0, locals := 21 } D [(cI, .int), (cZ, .boolean), (cJ, .long)] [.ref h, .ref g, .int (nI p), .int (nI v), .int (nI d)] [(h, .inr (0, [.ref r, .int fl, .int ex, .int tg, .int (nI wh)])), (r, .inr (4, [.ref a])), (a, .inl (cI, 12, .inl pl)), (g, .inr (2, [.int (nI np), .int ac, .int me, .int na]))] (fun _ : Unit => [(h, .inr (0, [.ref r, .int fl, .int (fwdEx me fl pl p v d ex), .int (fwdTg ac me na fl pl p v d tg), .int (nI (fwdWh me pl p v d wh))])), (r, .inr (4, [.ref a])), (a, .inl (cI, 12, .inl pl)), (g, .inr (2, [.int (nI np), .int ac, .int me, .int na]))]) := by
  refine cnV.mk (cc := cX0_forward) (nL := 8) (ret := none) (by decide) rfl (Nat.le_of_ble_eq_true rfl) ?_
  intro p_ e_ s_ m_ g_ b_ mt_ cd_ A_ C hr
  refine vz_iload C 4 dX0_forward_0 rfl ?_
  refine vz_iconst (v := (nI 3)) C dX0_forward_2 (by decide) ?_
  refine vz_join [(h, .inr (0, [.ref r, .int fl, .int ex, .int tg, .int (nI wh)])), (r, .inr (4, [.ref a])), (a, .inl (cI, 12, .inl pl)), (g, .inr (2, [.int (nI np), .int ac, .int me, .int na]))] 0 0 23 [(0, .ref h), (1, .ref g), (2, .int (nI p)), (3, .int (nI v)), (4, .int (nI d))] [.int (if d = 3 then (-1) else (pl ((v - 1) * 3 + d)))] (fun hJ1 => ?_) ?_
  · refine vz_icmp_ne (tgt := 10) C dX0_forward_3 (by decide) (Pr := ¬ d = 3) (not_congr (nI_eq (by first | assumption | omega | decide | exact natF_lt _ _ | exact refF_lt _ _ _ _ _) (by first | assumption | omega | decide | exact natF_lt _ _ | exact refF_lt _ _ _ _ _))) (fun h2 => ?_) (fun h2 => ?_)
    · refine vz_aload_n C 0 dX0_forward_10 rfl rfl ?_
      refine vz_get (C1 := RX0) (T1 := TX0) (N := 5) C in_X0_forward_X0 0 0 dX0_forward_11 rfl rfl (by decide) (by decide +kernel) rfl ?_
      refine vz_iload_n C 3 dX0_forward_14 rfl rfl ?_
      refine vz_iload C 4 dX0_forward_15 rfl ?_
      refine vz_callSi (rest := [.ref r]) (wr := [(h, .inr (0, [.ref r, .int fl, .int ex, .int tg, .int (nI wh)])), (r, .inr (4, [.ref a])), (a, .inl (cI, 12, .inl pl)), (g, .inr (2, [.int (nI np), .int ac, .int me, .int na]))]) C (fun _ : Unit => []) (fun _ : Unit => [(h, .inr (0, [.ref r, .int fl, .int ex, .int tg, .int (nI wh)])), (r, .inr (4, [.ref a])), (a, .inl (cI, 12, .inl pl)), (g, .inr (2, [.int (nI np), .int ac, .int me, .int na]))]) (c_X0_slotOf l D cI cZ cJ v d (by first | assumption | omega | decide | exact natF_lt _ _ | exact refF_lt _ _ _ _ _)) dX0_forward_17 gX0_forward_X0_slotOf rfl kd_X0_slotOf ⟨by decide, by decide⟩ ⟨by decide, by decide⟩ rfl rfl (Nat.le_of_ble_eq_true rfl) [] [0, 1, 2, 3] [0, 1, 2, 3] rfl rfl rfl (fun _ => rfl) (fun _ => ?_)
      refine vz_callVi (q0 := 0) (rest := []) (wr := [(h, .inr (0, [.ref r, .int fl, .int ex, .int tg, .int (nI wh)])), (g, .inr (2, [.int (nI np), .int ac, .int me, .int na]))]) C (fun _ : Unit => [(r, .inr (4, [.ref a])), (a, .inl (cI, 12, .inl pl))]) (fun _ : Unit => [(h, .inr (0, [.ref r, .int fl, .int ex, .int tg, .int (nI wh)])), (r, .inr (4, [.ref a])), (a, .inl (cI, 12, .inl pl)), (g, .inr (2, [.int (nI np), .int ac, .int me, .int na]))]) (c_X4_read l D cI cZ cJ r a 12 ((v - 1) * 3 + d) pl (by first | assumption | omega | decide | exact natF_lt _ _ | exact refF_lt _ _ _ _ _) (by first | assumption | omega | decide | exact natF_lt _ _ | exact refF_lt _ _ _ _ _)) dX0_forward_20 gX0_forward_X4_read rfl kd_X4_read ⟨by decide, by decide⟩ ⟨by decide, by decide⟩ rfl rfl rfl rfl rfl (Nat.le_of_ble_eq_true rfl) [1, 2] [0, 3] [0, 2, 3, 1] rfl rfl rfl (fun _ => rfl) (fun _ => ?_)
      exact vz_to hJ1 (by first | rfl | simp only [if_neg h2, decide_eq_false h2, Bool.true_and, Bool.false_and, Bool.and_true, Bool.and_false, Bool.true_or, Bool.false_or, Bool.or_true, Bool.or_false, Bool.not_true, Bool.not_false, vz_bI1, vz_bI0, Bool.false_eq_true, if_true, if_false]) (by first | rfl | simp only [if_neg h2, decide_eq_false h2, Bool.true_and, Bool.false_and, Bool.and_true, Bool.and_false, Bool.true_or, Bool.false_or, Bool.or_true, Bool.or_false, Bool.not_true, Bool.not_false, vz_bI1, vz_bI0, Bool.false_eq_true, if_true, if_false]) (by first | rfl | simp only [if_neg h2, decide_eq_false h2, Bool.true_and, Bool.false_and, Bool.and_true, Bool.and_false, Bool.true_or, Bool.false_or, Bool.or_true, Bool.or_false, Bool.not_true, Bool.not_false, vz_bI1, vz_bI0, Bool.false_eq_true, if_true, if_false])
    · refine vz_iconst (v := (-1)) C dX0_forward_6 (by decide) ?_
      refine vz_goto (tgt := 23) C dX0_forward_7 (by decide) ?_
      exact vz_to hJ1 (by first | rfl | simp only [if_pos (Decidable.not_not.mp h2), decide_eq_true (Decidable.not_not.mp h2), Bool.true_and, Bool.false_and, Bool.and_true, Bool.and_false, Bool.true_or, Bool.false_or, Bool.or_true, Bool.or_false, Bool.not_true, Bool.not_false, vz_bI1, vz_bI0, Bool.false_eq_true, if_true, if_false]) (by first | rfl | simp only [if_pos (Decidable.not_not.mp h2), decide_eq_true (Decidable.not_not.mp h2), Bool.true_and, Bool.false_and, Bool.and_true, Bool.and_false, Bool.true_or, Bool.false_or, Bool.or_true, Bool.or_false, Bool.not_true, Bool.not_false, vz_bI1, vz_bI0, Bool.false_eq_true, if_true, if_false]) (by first | rfl | simp only [if_pos (Decidable.not_not.mp h2), decide_eq_true (Decidable.not_not.mp h2), Bool.true_and, Bool.false_and, Bool.and_true, Bool.and_false, Bool.true_or, Bool.false_or, Bool.or_true, Bool.or_false, Bool.not_true, Bool.not_false, vz_bI1, vz_bI0, Bool.false_eq_true, if_true, if_false])
  refine vz_topi (fun at1 eat1 => ?_)
  refine vz_istore C [(5, .int at1), (0, .ref h), (1, .ref g), (2, .int (nI p)), (3, .int (nI v)), (4, .int (nI d))] dX0_forward_23 (by decide) rfl ?_
  refine vz_iload C 0 dX0_forward_25 rfl ?_
  refine vz_iload_n C 3 dX0_forward_27 rfl rfl ?_
  refine vz_icmp_ne (tgt := 37) C dX0_forward_28 (by decide) (Pr := ¬ at1 = (nI p)) Iff.rfl (fun h3 => ?_) (fun h3 => ?_)
  · refine vz_iload C 0 dX0_forward_37 rfl ?_
    refine vz_iconst (v := (-1)) C dX0_forward_39 (by decide) ?_
    refine vz_join [(h, .inr (0, [.ref r, .int fl, .int ex, .int tg, .int (nI wh)])), (r, .inr (4, [.ref a])), (a, .inl (cI, 12, .inl pl)), (g, .inr (2, [.int (nI np), .int ac, .int me, .int na]))] 0 0 64 [(0, .ref h), (1, .ref g), (2, .int (nI p)), (3, .int (nI v)), (4, .int (nI d)), (5, .int at1)] [.int (if at1 = (-1) then ((secF me v) &&& (((nI 1) <<< ((nI p) &&& 31)) ^^^ (-1))) else ((nI 1) <<< (at1 &&& 31)))] (fun hJ4 => ?_) ?_
    · refine vz_icmp_ne (tgt := 60) C dX0_forward_40 (by decide) (Pr := ¬ at1 = (-1)) Iff.rfl (fun h5 => ?_) (fun h5 => ?_)
      · refine vz_iconst (v := (nI 1)) C dX0_forward_60 (by decide) ?_
        refine vz_iload C 0 dX0_forward_61 rfl ?_
        refine vz_ishl (z := ((nI 1) <<< (at1 &&& 31))) C dX0_forward_63 rfl ?_
        refine vz_lv (lv' := [(0, .ref h), (1, .ref g), (2, .int (nI p)), (3, .int (nI v)), (4, .int (nI d)), (5, .int at1)]) [1, 2, 3, 4, 5, 0] rfl ?_
        exact vz_to hJ4 (by first | rfl | simp only [if_neg h5, decide_eq_false h5, Bool.true_and, Bool.false_and, Bool.and_true, Bool.and_false, Bool.true_or, Bool.false_or, Bool.or_true, Bool.or_false, Bool.not_true, Bool.not_false, vz_bI1, vz_bI0, Bool.false_eq_true, if_true, if_false]) (by first | rfl | simp only [if_neg h5, decide_eq_false h5, Bool.true_and, Bool.false_and, Bool.and_true, Bool.and_false, Bool.true_or, Bool.false_or, Bool.or_true, Bool.or_false, Bool.not_true, Bool.not_false, vz_bI1, vz_bI0, Bool.false_eq_true, if_true, if_false]) (by first | rfl | simp only [if_neg h5, decide_eq_false h5, Bool.true_and, Bool.false_and, Bool.and_true, Bool.and_false, Bool.true_or, Bool.false_or, Bool.or_true, Bool.or_false, Bool.not_true, Bool.not_false, vz_bI1, vz_bI0, Bool.false_eq_true, if_true, if_false])
      · refine vz_aload_n C 2 dX0_forward_43 rfl rfl ?_
        refine vz_callVi (q0 := 0) (rest := []) (wr := [(h, .inr (0, [.ref r, .int fl, .int ex, .int tg, .int (nI wh)])), (r, .inr (4, [.ref a])), (a, .inl (cI, 12, .inl pl))]) C (fun _ : Unit => [(g, .inr (2, [.int (nI np), .int ac, .int me, .int na]))]) (fun _ : Unit => [(h, .inr (0, [.ref r, .int fl, .int ex, .int tg, .int (nI wh)])), (r, .inr (4, [.ref a])), (a, .inl (cI, 12, .inl pl)), (g, .inr (2, [.int (nI np), .int ac, .int me, .int na]))]) (c_X2_members l D cI cZ cJ g np ac me na) dX0_forward_44 gX0_forward_X2_members rfl kd_X2_members ⟨by decide, by decide⟩ ⟨by decide, by decide⟩ rfl rfl rfl rfl rfl (Nat.le_of_ble_eq_true rfl) [3] [0, 1, 2] [0, 1, 2, 3] rfl rfl rfl (fun _ => rfl) (fun _ => ?_)
        refine vz_iload_n C 4 dX0_forward_47 rfl rfl ?_
        refine vz_callSNi (rest := []) (wr := [(h, .inr (0, [.ref r, .int fl, .int ex, .int tg, .int (nI wh)])), (r, .inr (4, [.ref a])), (a, .inl (cI, 12, .inl pl)), (g, .inr (2, [.int (nI np), .int ac, .int me, .int na]))]) C (fun _ : Unit => []) (fun _ : Unit => [(h, .inr (0, [.ref r, .int fl, .int ex, .int tg, .int (nI wh)])), (r, .inr (4, [.ref a])), (a, .inl (cI, 12, .inl pl)), (g, .inr (2, [.int (nI np), .int ac, .int me, .int na]))]) (c_X7_portsIn l D cI cZ cJ me v) dX0_forward_48 gX0_forward_X7_portsIn_n91 rfl kd_X7_portsIn (host := "VlanProbe") (by decide +kernel) (by decide +kernel) (by decide +kernel) ⟨by decide, by decide⟩ ⟨by decide, by decide⟩ rfl rfl (Nat.le_of_ble_eq_true rfl) [] [0, 1, 2, 3] [0, 1, 2, 3] rfl rfl rfl (fun _ => rfl) (fun _ => ?_)
        refine vz_iconst (v := (nI 1)) C dX0_forward_51 (by decide) ?_
        refine vz_iload_n C 3 dX0_forward_52 rfl rfl ?_
        refine vz_ishl (z := ((nI 1) <<< ((nI p) &&& 31))) C dX0_forward_53 rfl ?_
        refine vz_iconst (v := (-1)) C dX0_forward_54 (by decide) ?_
        refine vz_ixor (z := (((nI 1) <<< ((nI p) &&& 31)) ^^^ (-1))) C dX0_forward_55 rfl ?_
        refine vz_iand (z := ((secF me v) &&& (((nI 1) <<< ((nI p) &&& 31)) ^^^ (-1)))) C dX0_forward_56 rfl ?_
        refine vz_goto (tgt := 64) C dX0_forward_57 (by decide) ?_
        refine vz_lv (lv' := [(0, .ref h), (1, .ref g), (2, .int (nI p)), (3, .int (nI v)), (4, .int (nI d)), (5, .int at1)]) [1, 2, 3, 4, 5, 0] rfl ?_
        exact vz_to hJ4 (by first | rfl | simp only [if_pos (Decidable.not_not.mp h5), decide_eq_true (Decidable.not_not.mp h5), Bool.true_and, Bool.false_and, Bool.and_true, Bool.and_false, Bool.true_or, Bool.false_or, Bool.or_true, Bool.or_false, Bool.not_true, Bool.not_false, vz_bI1, vz_bI0, Bool.false_eq_true, if_true, if_false]) (by first | rfl | simp only [if_pos (Decidable.not_not.mp h5), decide_eq_true (Decidable.not_not.mp h5), Bool.true_and, Bool.false_and, Bool.and_true, Bool.and_false, Bool.true_or, Bool.false_or, Bool.or_true, Bool.or_false, Bool.not_true, Bool.not_false, vz_bI1, vz_bI0, Bool.false_eq_true, if_true, if_false]) (by first | rfl | simp only [if_pos (Decidable.not_not.mp h5), decide_eq_true (Decidable.not_not.mp h5), Bool.true_and, Bool.false_and, Bool.and_true, Bool.and_false, Bool.true_or, Bool.false_or, Bool.or_true, Bool.or_false, Bool.not_true, Bool.not_false, vz_bI1, vz_bI0, Bool.false_eq_true, if_true, if_false])
    refine vz_topi (fun wt ewt => ?_)
    refine vz_istore C [(6, .int wt), (0, .ref h), (1, .ref g), (2, .int (nI p)), (3, .int (nI v)), (4, .int (nI d)), (5, .int at1)] dX0_forward_64 (by decide) rfl ?_
    refine vz_iload C 0 dX0_forward_66 rfl ?_
    refine vz_if_ne (tgt := 77) C dX0_forward_68 (by decide) (Pr := ¬ wt = 0) Iff.rfl (fun h6 => ?_) (fun h6 => ?_)
    · refine vz_aload_n C 1 dX0_forward_77 rfl rfl ?_
      refine vz_iload C 0 dX0_forward_78 rfl ?_
      refine vz_aload_n C 1 dX0_forward_80 rfl rfl ?_
      refine vz_get (C1 := RX0) (T1 := TX0) (N := 5) C in_X0_forward_X0 0 1 dX0_forward_81 rfl rfl (by decide) (by decide +kernel) rfl ?_
      refine vz_iconst (v := (nI 0)) C dX0_forward_84 (by decide) ?_
      refine vz_callSNi (rest := [.int wt, .ref h]) (wr := [(h, .inr (0, [.ref r, .int fl, .int ex, .int tg, .int (nI wh)])), (r, .inr (4, [.ref a])), (a, .inl (cI, 12, .inl pl)), (g, .inr (2, [.int (nI np), .int ac, .int me, .int na]))]) C (fun _ : Unit => []) (fun _ : Unit => [(h, .inr (0, [.ref r, .int fl, .int ex, .int tg, .int (nI wh)])), (r, .inr (4, [.ref a])), (a, .inl (cI, 12, .inl pl)), (g, .inr (2, [.int (nI np), .int ac, .int me, .int na]))]) (c_X7_portsIn l D cI cZ cJ fl 0) dX0_forward_85 gX0_forward_X7_portsIn_n91 rfl kd_X7_portsIn (host := "VlanProbe") (by decide +kernel) (by decide +kernel) (by decide +kernel) ⟨by decide, by decide⟩ ⟨by decide, by decide⟩ rfl rfl (Nat.le_of_ble_eq_true rfl) [] [0, 1, 2, 3] [0, 1, 2, 3] rfl rfl rfl (fun _ => rfl) (fun _ => ?_)
      refine vz_iconst (v := (-1)) C dX0_forward_88 (by decide) ?_
      refine vz_ixor (z := ((secF fl 0) ^^^ (-1))) C dX0_forward_89 rfl ?_
      refine vz_iand (z := (wt &&& ((secF fl 0) ^^^ (-1)))) C dX0_forward_90 rfl ?_
      refine vz_put (C1 := RX0) (T1 := TX0) (N := 5) C [(h, .inr (0, [.ref r, .int fl, .int (wt &&& ((secF fl 0) ^^^ (-1))), .int tg, .int (nI wh)])), (r, .inr (4, [.ref a])), (a, .inl (cI, 12, .inl pl)), (g, .inr (2, [.int (nI np), .int ac, .int me, .int na]))] in_X0_forward_X0 tyX0 tyX0_ok nmX0 0 2 dX0_forward_91 rfl rfl (by decide) (by decide +kernel) rfl (tyX0_ok 2 (by decide)) rfl rfl (Nat.le_of_ble_eq_true rfl) rfl ?_
      refine vz_aload_n C 2 dX0_forward_94 rfl rfl ?_
      refine vz_callVi (q0 := 0) (rest := []) (wr := [(h, .inr (0, [.ref r, .int fl, .int (wt &&& ((secF fl 0) ^^^ (-1))), .int tg, .int (nI wh)])), (r, .inr (4, [.ref a])), (a, .inl (cI, 12, .inl pl))]) C (fun _ : Unit => [(g, .inr (2, [.int (nI np), .int ac, .int me, .int na]))]) (fun _ : Unit => [(h, .inr (0, [.ref r, .int fl, .int (wt &&& ((secF fl 0) ^^^ (-1))), .int tg, .int (nI wh)])), (r, .inr (4, [.ref a])), (a, .inl (cI, 12, .inl pl)), (g, .inr (2, [.int (nI np), .int ac, .int me, .int na]))]) (c_X2_accessPorts l D cI cZ cJ g np ac me na) dX0_forward_95 gX0_forward_X2_accessPorts rfl kd_X2_accessPorts ⟨by decide, by decide⟩ ⟨by decide, by decide⟩ rfl rfl rfl rfl rfl (Nat.le_of_ble_eq_true rfl) [3] [0, 1, 2] [0, 1, 2, 3] rfl rfl rfl (fun _ => rfl) (fun _ => ?_)
      refine vz_aload_n C 2 dX0_forward_98 rfl rfl ?_
      refine vz_callVi (q0 := 0) (rest := [.int ac]) (wr := [(h, .inr (0, [.ref r, .int fl, .int (wt &&& ((secF fl 0) ^^^ (-1))), .int tg, .int (nI wh)])), (r, .inr (4, [.ref a])), (a, .inl (cI, 12, .inl pl))]) C (fun _ : Unit => [(g, .inr (2, [.int (nI np), .int ac, .int me, .int na]))]) (fun _ : Unit => [(h, .inr (0, [.ref r, .int fl, .int (wt &&& ((secF fl 0) ^^^ (-1))), .int tg, .int (nI wh)])), (r, .inr (4, [.ref a])), (a, .inl (cI, 12, .inl pl)), (g, .inr (2, [.int (nI np), .int ac, .int me, .int na]))]) (c_X2_natives l D cI cZ cJ g np ac me na) dX0_forward_99 gX0_forward_X2_natives rfl kd_X2_natives ⟨by decide, by decide⟩ ⟨by decide, by decide⟩ rfl rfl rfl rfl rfl (Nat.le_of_ble_eq_true rfl) [3] [0, 1, 2] [0, 1, 2, 3] rfl rfl rfl (fun _ => rfl) (fun _ => ?_)
      refine vz_iload_n C 4 dX0_forward_102 rfl rfl ?_
      refine vz_callSNi (rest := [.int ac]) (wr := [(h, .inr (0, [.ref r, .int fl, .int (wt &&& ((secF fl 0) ^^^ (-1))), .int tg, .int (nI wh)])), (r, .inr (4, [.ref a])), (a, .inl (cI, 12, .inl pl)), (g, .inr (2, [.int (nI np), .int ac, .int me, .int na]))]) C (fun _ : Unit => []) (fun _ : Unit => [(h, .inr (0, [.ref r, .int fl, .int (wt &&& ((secF fl 0) ^^^ (-1))), .int tg, .int (nI wh)])), (r, .inr (4, [.ref a])), (a, .inl (cI, 12, .inl pl)), (g, .inr (2, [.int (nI np), .int ac, .int me, .int na]))]) (c_X7_portsIn l D cI cZ cJ na v) dX0_forward_103 gX0_forward_X7_portsIn_n91 rfl kd_X7_portsIn (host := "VlanProbe") (by decide +kernel) (by decide +kernel) (by decide +kernel) ⟨by decide, by decide⟩ ⟨by decide, by decide⟩ rfl rfl (Nat.le_of_ble_eq_true rfl) [] [0, 1, 2, 3] [0, 1, 2, 3] rfl rfl rfl (fun _ => rfl) (fun _ => ?_)
      refine vz_ior (z := (ac ||| (secF na v))) C dX0_forward_106 rfl ?_
      refine vz_aload_n C 1 dX0_forward_107 rfl rfl ?_
      refine vz_get (C1 := RX0) (T1 := TX0) (N := 5) C in_X0_forward_X0 0 1 dX0_forward_108 rfl rfl (by decide) (by decide +kernel) rfl ?_
      refine vz_iconst (v := (nI 2)) C dX0_forward_111 (by decide) ?_
      refine vz_callSNi (rest := [.int (ac ||| (secF na v))]) (wr := [(h, .inr (0, [.ref r, .int fl, .int (wt &&& ((secF fl 0) ^^^ (-1))), .int tg, .int (nI wh)])), (r, .inr (4, [.ref a])), (a, .inl (cI, 12, .inl pl)), (g, .inr (2, [.int (nI np), .int ac, .int me, .int na]))]) C (fun _ : Unit => []) (fun _ : Unit => [(h, .inr (0, [.ref r, .int fl, .int (wt &&& ((secF fl 0) ^^^ (-1))), .int tg, .int (nI wh)])), (r, .inr (4, [.ref a])), (a, .inl (cI, 12, .inl pl)), (g, .inr (2, [.int (nI np), .int ac, .int me, .int na]))]) (c_X7_portsIn l D cI cZ cJ fl 2) dX0_forward_112 gX0_forward_X7_portsIn_n91 rfl kd_X7_portsIn (host := "VlanProbe") (by decide +kernel) (by decide +kernel) (by decide +kernel) ⟨by decide, by decide⟩ ⟨by decide, by decide⟩ rfl rfl (Nat.le_of_ble_eq_true rfl) [] [0, 1, 2, 3] [0, 1, 2, 3] rfl rfl rfl (fun _ => rfl) (fun _ => ?_)
      refine vz_ior (z := ((ac ||| (secF na v)) ||| (secF fl 2))) C dX0_forward_115 rfl ?_
      refine vz_istore C [(7, .int ((ac ||| (secF na v)) ||| (secF fl 2))), (6, .int wt), (0, .ref h), (1, .ref g), (2, .int (nI p)), (3, .int (nI v)), (4, .int (nI d)), (5, .int at1)] dX0_forward_116 (by decide) rfl ?_
      refine vz_aload_n C 2 dX0_forward_118 rfl rfl ?_
      refine vz_aload_n C 2 dX0_forward_119 rfl rfl ?_
      refine vz_get (C1 := RX0) (T1 := TX0) (N := 5) C in_X0_forward_X0 0 2 dX0_forward_120 rfl rfl (by decide) (by decide +kernel) rfl ?_
      refine vz_iload C 0 dX0_forward_123 rfl ?_
      refine vz_iconst (v := (-1)) C dX0_forward_125 (by decide) ?_
      refine vz_ixor (z := (((ac ||| (secF na v)) ||| (secF fl 2)) ^^^ (-1))) C dX0_forward_126 rfl ?_
      refine vz_iand (z := ((wt &&& ((secF fl 0) ^^^ (-1))) &&& (((ac ||| (secF na v)) ||| (secF fl 2)) ^^^ (-1)))) C dX0_forward_127 rfl ?_
      refine vz_put (C1 := RX0) (T1 := TX0) (N := 5) C [(h, .inr (0, [.ref r, .int fl, .int (wt &&& ((secF fl 0) ^^^ (-1))), .int ((wt &&& ((secF fl 0) ^^^ (-1))) &&& (((ac ||| (secF na v)) ||| (secF fl 2)) ^^^ (-1))), .int (nI wh)])), (r, .inr (4, [.ref a])), (a, .inl (cI, 12, .inl pl)), (g, .inr (2, [.int (nI np), .int ac, .int me, .int na]))] in_X0_forward_X0 tyX0 tyX0_ok nmX0 0 3 dX0_forward_128 rfl rfl (by decide) (by decide +kernel) rfl (tyX0_ok 3 (by decide)) rfl rfl (Nat.le_of_ble_eq_true rfl) rfl ?_
      exact vz_vret C () hr dX0_forward_131 (by have eA : at1 = fwdAt pl v d := eat1; have eW : wt = fwdWant me pl p v d := (by rw [ewt, fwdWant, ← eA]; first | rfl | simp only [ite_not]); simp only [fwdEx, fwdTg, fwdWh, ← eA, ← eW, if_neg h3, decide_eq_false h3, if_neg h6, decide_eq_false h6, Bool.true_and, Bool.false_and, Bool.and_true, Bool.and_false, Bool.true_or, Bool.false_or, Bool.or_true, Bool.or_false, Bool.not_true, Bool.not_false, vz_bI1, vz_bI0, Bool.false_eq_true, if_true, if_false])
    · refine vz_aload_n C 1 dX0_forward_71 rfl rfl ?_
      refine vz_iconst (v := (nI 5)) C dX0_forward_72 (by decide) ?_
      refine vz_put (C1 := RX0) (T1 := TX0) (N := 5) C [(h, .inr (0, [.ref r, .int fl, .int ex, .int tg, .int (nI 5)])), (r, .inr (4, [.ref a])), (a, .inl (cI, 12, .inl pl)), (g, .inr (2, [.int (nI np), .int ac, .int me, .int na]))] in_X0_forward_X0 tyX0 tyX0_ok nmX0 0 4 dX0_forward_73 rfl rfl (by decide) (by decide +kernel) rfl (tyX0_ok 4 (by decide)) rfl rfl (Nat.le_of_ble_eq_true rfl) rfl ?_
      exact vz_vret C () hr dX0_forward_76 (by have eA : at1 = fwdAt pl v d := eat1; have eW : wt = fwdWant me pl p v d := (by rw [ewt, fwdWant, ← eA]; first | rfl | simp only [ite_not]); simp only [fwdEx, fwdTg, fwdWh, ← eA, ← eW, if_neg h3, decide_eq_false h3, if_pos (Decidable.not_not.mp h6), decide_eq_true (Decidable.not_not.mp h6), Bool.true_and, Bool.false_and, Bool.and_true, Bool.and_false, Bool.true_or, Bool.false_or, Bool.or_true, Bool.or_false, Bool.not_true, Bool.not_false, vz_bI1, vz_bI0, Bool.false_eq_true, if_true, if_false])
  · refine vz_aload_n C 1 dX0_forward_31 rfl rfl ?_
    refine vz_iconst (v := (nI 4)) C dX0_forward_32 (by decide) ?_
    refine vz_put (C1 := RX0) (T1 := TX0) (N := 5) C [(h, .inr (0, [.ref r, .int fl, .int ex, .int tg, .int (nI 4)])), (r, .inr (4, [.ref a])), (a, .inl (cI, 12, .inl pl)), (g, .inr (2, [.int (nI np), .int ac, .int me, .int na]))] in_X0_forward_X0 tyX0 tyX0_ok nmX0 0 4 dX0_forward_33 rfl rfl (by decide) (by decide +kernel) rfl (tyX0_ok 4 (by decide)) rfl rfl (Nat.le_of_ble_eq_true rfl) rfl ?_
    exact vz_vret C () hr dX0_forward_36 (by have eA : at1 = fwdAt pl v d := eat1; simp only [fwdEx, fwdTg, fwdWh, ← eA, if_pos (Decidable.not_not.mp h3), decide_eq_true (Decidable.not_not.mp h3), Bool.true_and, Bool.false_and, Bool.and_true, Bool.and_false, Bool.true_or, Bool.false_or, Bool.or_true, Bool.or_false, Bool.not_true, Bool.not_false, vz_bI1, vz_bI0, Bool.false_eq_true, if_true, if_false])

set_option maxRecDepth 100000 in
set_option maxHeartbeats 4000000 in
theorem c_X0_send (l : Launch) (D : va_G) (cI cZ cJ : ClassId) (h : Nat) (r : Nat) (a : Nat) (wh : Nat) (fl : Int32) (ex : Int32) (tg : Int32) (pl : Nat → Int32) (g : Nat) (np : Nat) (ac : Int32) (me : Int32) (na : Int32) (x : Nat) (hp0 : x < 6000) (hp1 : x / 100 % 10 < 5) (hp2 : x / 10 % 10 < 3) (hp3 : x % 10 ≤ 3)  : cnV l yX0_send wsX0_send { frames := 2, cells := 0, slots := 0, locals := 48 } D [(cI, .int), (cZ, .boolean), (cJ, .long)] [.ref h, .ref g, .int (nI x)] [(h, .inr (0, [.ref r, .int fl, .int ex, .int tg, .int (nI wh)])), (r, .inr (4, [.ref a])), (a, .inl (cI, 12, .inl pl)), (g, .inr (2, [.int (nI np), .int ac, .int me, .int na]))] (fun _ : Unit => [(h, .inr (0, [.ref r, .int fl, .int (sndEx ac me na fl pl x), .int (sndTg ac me na fl pl x), .int (nI (sndWh ac me na fl pl x))])), (r, .inr (4, [.ref a])), (a, .inl (cI, 12, .inl (sndPl ac me na fl pl x))), (g, .inr (2, [.int (nI np), .int ac, .int me, .int na]))]) := by
  refine cnV.mk (cc := cX0_send) (nL := 5) (ret := none) (by decide) rfl (Nat.le_of_ble_eq_true rfl) ?_
  intro p_ e_ s_ m_ g_ b_ mt_ cd_ A_ C hr
  refine vz_aload_n C 0 dX0_send_0 rfl rfl ?_
  refine vz_iconst (v := (nI 0)) C dX0_send_1 (by decide) ?_
  refine vz_put (C1 := RX0) (T1 := TX0) (N := 5) C [(h, .inr (0, [.ref r, .int fl, .int (nI 0), .int tg, .int (nI wh)])), (r, .inr (4, [.ref a])), (a, .inl (cI, 12, .inl pl)), (g, .inr (2, [.int (nI np), .int ac, .int me, .int na]))] in_X0_send_X0 tyX0 tyX0_ok nmX0 0 2 dX0_send_2 rfl rfl (by decide) (by decide +kernel) rfl (tyX0_ok 2 (by decide)) rfl rfl (Nat.le_of_ble_eq_true rfl) rfl ?_
  refine vz_aload_n C 0 dX0_send_5 rfl rfl ?_
  refine vz_iconst (v := (nI 0)) C dX0_send_6 (by decide) ?_
  refine vz_put (C1 := RX0) (T1 := TX0) (N := 5) C [(h, .inr (0, [.ref r, .int fl, .int (nI 0), .int (nI 0), .int (nI wh)])), (r, .inr (4, [.ref a])), (a, .inl (cI, 12, .inl pl)), (g, .inr (2, [.int (nI np), .int ac, .int me, .int na]))] in_X0_send_X0 tyX0 tyX0_ok nmX0 0 3 dX0_send_7 rfl rfl (by decide) (by decide +kernel) rfl (tyX0_ok 3 (by decide)) rfl rfl (Nat.le_of_ble_eq_true rfl) rfl ?_
  refine vz_aload_n C 0 dX0_send_10 rfl rfl ?_
  refine vz_iconst (v := (nI 0)) C dX0_send_11 (by decide) ?_
  refine vz_put (C1 := RX0) (T1 := TX0) (N := 5) C [(h, .inr (0, [.ref r, .int fl, .int (nI 0), .int (nI 0), .int (nI 0)])), (r, .inr (4, [.ref a])), (a, .inl (cI, 12, .inl pl)), (g, .inr (2, [.int (nI np), .int ac, .int me, .int na]))] in_X0_send_X0 tyX0 tyX0_ok nmX0 0 4 dX0_send_12 rfl rfl (by decide) (by decide +kernel) rfl (tyX0_ok 4 (by decide)) rfl rfl (Nat.le_of_ble_eq_true rfl) rfl ?_
  refine vz_aload_n C 0 dX0_send_15 rfl rfl ?_
  refine vz_iload_n C 2 dX0_send_16 rfl rfl ?_
  refine vz_callVi (q0 := 0) (rest := []) (wr := [(r, .inr (4, [.ref a])), (a, .inl (cI, 12, .inl pl)), (g, .inr (2, [.int (nI np), .int ac, .int me, .int na]))]) C (fun _ : Unit => [(h, .inr (0, [.ref r, .int fl, .int (nI 0), .int (nI 0), .int (nI 0)]))]) (fun _ : Unit => [(h, .inr (0, [.ref r, .int fl, .int (nI 0), .int (nI 0), .int (nI 0)])), (r, .inr (4, [.ref a])), (a, .inl (cI, 12, .inl pl)), (g, .inr (2, [.int (nI np), .int ac, .int me, .int na]))]) (c_X0_isLostAtEntry l D cI cZ cJ h r 0 x fl (nI 0) (nI 0) (by first | assumption | omega | decide | exact natF_lt _ _ | exact refF_lt _ _ _ _ _)) dX0_send_17 gX0_send_X0_isLostAtEntry rfl kd_X0_isLostAtEntry ⟨by decide, by decide⟩ ⟨by decide, by decide⟩ rfl rfl rfl rfl rfl (Nat.le_of_ble_eq_true rfl) [0] [1, 2, 3] [3, 0, 1, 2] rfl rfl rfl (fun _ => rfl) (fun _ => ?_)
  refine vz_if_eq (tgt := 24) C dX0_send_20 (by decide) (Pr := (lostF fl x) = false) vz_beq (fun h1 => ?_) (fun h1 => ?_)
  · refine vz_aload_n C 0 dX0_send_24 rfl rfl ?_
    refine vz_aload_n C 0 dX0_send_25 rfl rfl ?_
    refine vz_aload_n C 1 dX0_send_26 rfl rfl ?_
    refine vz_iload_n C 2 dX0_send_27 rfl rfl ?_
    refine vz_callVi (q0 := 0) (rest := [.ref h]) (wr := [(r, .inr (4, [.ref a])), (a, .inl (cI, 12, .inl pl))]) C (fun _ : Unit => [(h, .inr (0, [.ref r, .int fl, .int (nI 0), .int (nI 0), .int (nI 0)])), (g, .inr (2, [.int (nI np), .int ac, .int me, .int na]))]) (fun _ : Unit => [(h, .inr (0, [.ref r, .int fl, .int (nI 0), .int (nI 0), .int (nI 0)])), (r, .inr (4, [.ref a])), (a, .inl (cI, 12, .inl pl)), (g, .inr (2, [.int (nI np), .int ac, .int me, .int na]))]) (c_X0_refusal l D cI cZ cJ h r 0 x fl (nI 0) (nI 0) g np ac me na (by first | assumption | omega | decide | exact natF_lt _ _ | exact refF_lt _ _ _ _ _) (by first | assumption | omega | decide | exact natF_lt _ _ | exact refF_lt _ _ _ _ _)) dX0_send_28 gX0_send_X0_refusal rfl kd_X0_refusal ⟨by decide, by decide⟩ ⟨by decide, by decide⟩ rfl rfl rfl rfl rfl (Nat.le_of_ble_eq_true rfl) [0, 3] [1, 2] [2, 0, 1, 3] rfl rfl rfl (fun _ => rfl) (fun _ => ?_)
    refine vz_put (C1 := RX0) (T1 := TX0) (N := 5) C [(h, .inr (0, [.ref r, .int fl, .int (nI 0), .int (nI 0), .int (nI (refF ac me na fl x))])), (r, .inr (4, [.ref a])), (a, .inl (cI, 12, .inl pl)), (g, .inr (2, [.int (nI np), .int ac, .int me, .int na]))] in_X0_send_X0 tyX0 tyX0_ok nmX0 0 4 dX0_send_31 rfl rfl (by decide) (by decide +kernel) rfl (tyX0_ok 4 (by decide)) rfl rfl (Nat.le_of_ble_eq_true rfl) rfl ?_
    refine vz_aload_n C 0 dX0_send_34 rfl rfl ?_
    refine vz_get (C1 := RX0) (T1 := TX0) (N := 5) C in_X0_send_X0 0 4 dX0_send_35 rfl rfl (by decide) (by decide +kernel) rfl ?_
    refine vz_if_eq (tgt := 42) C dX0_send_38 (by decide) (Pr := (refF ac me na fl x) = 0) (vz_n0 (by first | assumption | omega | decide | exact natF_lt _ _ | exact refF_lt _ _ _ _ _)) (fun h2 => ?_) (fun h2 => ?_)
    · refine vz_iload_n C 2 dX0_send_42 rfl rfl ?_
      refine vz_callSNi (rest := []) (wr := [(h, .inr (0, [.ref r, .int fl, .int (nI 0), .int (nI 0), .int (nI (refF ac me na fl x))])), (r, .inr (4, [.ref a])), (a, .inl (cI, 12, .inl pl)), (g, .inr (2, [.int (nI np), .int ac, .int me, .int na]))]) C (fun _ : Unit => []) (fun _ : Unit => [(h, .inr (0, [.ref r, .int fl, .int (nI 0), .int (nI 0), .int (nI (refF ac me na fl x))])), (r, .inr (4, [.ref a])), (a, .inl (cI, 12, .inl pl)), (g, .inr (2, [.int (nI np), .int ac, .int me, .int na]))]) (c_X7_portOf l D cI cZ cJ x (by first | assumption | omega | decide | exact natF_lt _ _ | exact refF_lt _ _ _ _ _)) dX0_send_43 gX0_send_X7_portOf_n52 rfl kd_X7_portOf (host := "VlanProbe") (by decide +kernel) (by decide +kernel) (by decide +kernel) ⟨by decide, by decide⟩ ⟨by decide, by decide⟩ rfl rfl (Nat.le_of_ble_eq_true rfl) [] [0, 1, 2, 3] [0, 1, 2, 3] rfl rfl rfl (fun _ => rfl) (fun _ => ?_)
      refine vz_istore_n C [(3, .int (nI (x / 1000))), (0, .ref h), (1, .ref g), (2, .int (nI x))] dX0_send_46 rfl (by decide) rfl ?_
      refine vz_iload_n C 3 dX0_send_47 rfl rfl ?_
      refine vz_callSNi (rest := []) (wr := [(h, .inr (0, [.ref r, .int fl, .int (nI 0), .int (nI 0), .int (nI (refF ac me na fl x))])), (r, .inr (4, [.ref a])), (a, .inl (cI, 12, .inl pl)), (g, .inr (2, [.int (nI np), .int ac, .int me, .int na]))]) C (fun _ : Unit => []) (fun _ : Unit => [(h, .inr (0, [.ref r, .int fl, .int (nI 0), .int (nI 0), .int (nI (refF ac me na fl x))])), (r, .inr (4, [.ref a])), (a, .inl (cI, 12, .inl pl)), (g, .inr (2, [.int (nI np), .int ac, .int me, .int na]))]) (c_X7_tagOf l D cI cZ cJ x (by first | assumption | omega | decide | exact natF_lt _ _ | exact refF_lt _ _ _ _ _)) dX0_send_48 gX0_send_X7_tagOf_n55 rfl kd_X7_tagOf (host := "VlanProbe") (by decide +kernel) (by decide +kernel) (by decide +kernel) ⟨by decide, by decide⟩ ⟨by decide, by decide⟩ rfl rfl (Nat.le_of_ble_eq_true rfl) [] [0, 1, 2, 3] [0, 1, 2, 3] rfl rfl rfl (fun _ => rfl) (fun _ => ?_)
      refine vz_join [(h, .inr (0, [.ref r, .int fl, .int (nI 0), .int (nI 0), .int (nI (refF ac me na fl x))])), (r, .inr (4, [.ref a])), (a, .inl (cI, 12, .inl pl)), (g, .inr (2, [.int (nI np), .int ac, .int me, .int na]))] 0 0 66 [(0, .ref h), (1, .ref g), (2, .int (nI x)), (3, .int (nI (x / 1000)))] [.int (nI (if (x / 100 % 10) = 0 then natF na (x / 1000) else x / 100 % 10))] (fun hJ3 => ?_) ?_
      · refine vz_if_ne (tgt := 62) C dX0_send_51 (by decide) (Pr := ¬ (x / 100 % 10) = 0) (not_congr (vz_n0 (by first | assumption | omega | decide | exact natF_lt _ _ | exact refF_lt _ _ _ _ _))) (fun h4 => ?_) (fun h4 => ?_)
        · refine vz_iload_n C 3 dX0_send_62 rfl rfl ?_
          refine vz_callSNi (rest := []) (wr := [(h, .inr (0, [.ref r, .int fl, .int (nI 0), .int (nI 0), .int (nI (refF ac me na fl x))])), (r, .inr (4, [.ref a])), (a, .inl (cI, 12, .inl pl)), (g, .inr (2, [.int (nI np), .int ac, .int me, .int na]))]) C (fun _ : Unit => []) (fun _ : Unit => [(h, .inr (0, [.ref r, .int fl, .int (nI 0), .int (nI 0), .int (nI (refF ac me na fl x))])), (r, .inr (4, [.ref a])), (a, .inl (cI, 12, .inl pl)), (g, .inr (2, [.int (nI np), .int ac, .int me, .int na]))]) (c_X7_tagOf l D cI cZ cJ x (by first | assumption | omega | decide | exact natF_lt _ _ | exact refF_lt _ _ _ _ _)) dX0_send_63 gX0_send_X7_tagOf_n55 rfl kd_X7_tagOf (host := "VlanProbe") (by decide +kernel) (by decide +kernel) (by decide +kernel) ⟨by decide, by decide⟩ ⟨by decide, by decide⟩ rfl rfl (Nat.le_of_ble_eq_true rfl) [] [0, 1, 2, 3] [0, 1, 2, 3] rfl rfl rfl (fun _ => rfl) (fun _ => ?_)
          refine vz_lv (lv' := [(0, .ref h), (1, .ref g), (2, .int (nI x)), (3, .int (nI (x / 1000)))]) [1, 2, 3, 0] rfl ?_
          exact vz_to hJ3 (by first | rfl | simp only [if_neg h4, decide_eq_false h4, Bool.true_and, Bool.false_and, Bool.and_true, Bool.and_false, Bool.true_or, Bool.false_or, Bool.or_true, Bool.or_false, Bool.not_true, Bool.not_false, vz_bI1, vz_bI0, Bool.false_eq_true, if_true, if_false]) (by first | rfl | simp only [if_neg h4, decide_eq_false h4, Bool.true_and, Bool.false_and, Bool.and_true, Bool.and_false, Bool.true_or, Bool.false_or, Bool.or_true, Bool.or_false, Bool.not_true, Bool.not_false, vz_bI1, vz_bI0, Bool.false_eq_true, if_true, if_false]) (by first | rfl | simp only [if_neg h4, decide_eq_false h4, Bool.true_and, Bool.false_and, Bool.and_true, Bool.and_false, Bool.true_or, Bool.false_or, Bool.or_true, Bool.or_false, Bool.not_true, Bool.not_false, vz_bI1, vz_bI0, Bool.false_eq_true, if_true, if_false])
        · refine vz_aload_n C 2 dX0_send_54 rfl rfl ?_
          refine vz_iload_n C 0 dX0_send_55 rfl rfl ?_
          refine vz_callVi (q0 := 0) (rest := []) (wr := [(h, .inr (0, [.ref r, .int fl, .int (nI 0), .int (nI 0), .int (nI (refF ac me na fl x))])), (r, .inr (4, [.ref a])), (a, .inl (cI, 12, .inl pl))]) C (fun _ : Unit => [(g, .inr (2, [.int (nI np), .int ac, .int me, .int na]))]) (fun _ : Unit => [(h, .inr (0, [.ref r, .int fl, .int (nI 0), .int (nI 0), .int (nI (refF ac me na fl x))])), (r, .inr (4, [.ref a])), (a, .inl (cI, 12, .inl pl)), (g, .inr (2, [.int (nI np), .int ac, .int me, .int na]))]) (c_X2_nativeOf l D cI cZ cJ g np ac me na (x / 1000) (by first | assumption | omega | decide | exact natF_lt _ _ | exact refF_lt _ _ _ _ _)) dX0_send_56 gX0_send_X2_nativeOf rfl kd_X2_nativeOf ⟨by decide, by decide⟩ ⟨by decide, by decide⟩ rfl rfl rfl rfl rfl (Nat.le_of_ble_eq_true rfl) [3] [0, 1, 2] [0, 1, 2, 3] rfl rfl rfl (fun _ => rfl) (fun _ => ?_)
          refine vz_goto (tgt := 66) C dX0_send_59 (by decide) ?_
          refine vz_lv (lv' := [(0, .ref h), (1, .ref g), (2, .int (nI x)), (3, .int (nI (x / 1000)))]) [1, 2, 3, 0] rfl ?_
          exact vz_to hJ3 (by first | rfl | simp only [if_pos (Decidable.not_not.mp h4), decide_eq_true (Decidable.not_not.mp h4), Bool.true_and, Bool.false_and, Bool.and_true, Bool.and_false, Bool.true_or, Bool.false_or, Bool.or_true, Bool.or_false, Bool.not_true, Bool.not_false, vz_bI1, vz_bI0, Bool.false_eq_true, if_true, if_false]) (by first | rfl | simp only [if_pos (Decidable.not_not.mp h4), decide_eq_true (Decidable.not_not.mp h4), Bool.true_and, Bool.false_and, Bool.and_true, Bool.and_false, Bool.true_or, Bool.false_or, Bool.or_true, Bool.or_false, Bool.not_true, Bool.not_false, vz_bI1, vz_bI0, Bool.false_eq_true, if_true, if_false]) (by first | rfl | simp only [if_pos (Decidable.not_not.mp h4), decide_eq_true (Decidable.not_not.mp h4), Bool.true_and, Bool.false_and, Bool.and_true, Bool.and_false, Bool.true_or, Bool.false_or, Bool.or_true, Bool.or_false, Bool.not_true, Bool.not_false, vz_bI1, vz_bI0, Bool.false_eq_true, if_true, if_false])
      have hv : 1 ≤ sndV na x ∧ sndV na x ≤ 4 := sndV_rng (by omega) (by assumption)
      obtain ⟨hv1, hv2⟩ := hv
      refine vz_st (st' := [.int (nI (sndV na x))]) rfl ?_
      refine vz_istore C [(4, .int (nI (sndV na x))), (0, .ref h), (1, .ref g), (2, .int (nI x)), (3, .int (nI (x / 1000)))] dX0_send_66 (by decide) rfl ?_
      refine vz_aload_n C 1 dX0_send_68 rfl rfl ?_
      refine vz_iconst (v := (nI 1)) C dX0_send_69 (by decide) ?_
      refine vz_iload_n C 4 dX0_send_70 rfl rfl ?_
      refine vz_callVi (q0 := 0) (rest := []) (wr := [(r, .inr (4, [.ref a])), (a, .inl (cI, 12, .inl pl)), (g, .inr (2, [.int (nI np), .int ac, .int me, .int na]))]) C (fun _ : Unit => [(h, .inr (0, [.ref r, .int fl, .int (nI 0), .int (nI 0), .int (nI (refF ac me na fl x))]))]) (fun _ : Unit => [(h, .inr (0, [.ref r, .int fl, .int (nI 0), .int (nI 0), .int (nI (refF ac me na fl x))])), (r, .inr (4, [.ref a])), (a, .inl (cI, 12, .inl pl)), (g, .inr (2, [.int (nI np), .int ac, .int me, .int na]))]) (c_X0_has l D cI cZ cJ h r (refF ac me na fl x) 1 (x / 1000) fl (nI 0) (nI 0) (by first | assumption | omega | decide | exact natF_lt _ _ | exact refF_lt _ _ _ _ _)) dX0_send_71 gX0_send_X0_has rfl kd_X0_has ⟨by decide, by decide⟩ ⟨by decide, by decide⟩ rfl rfl rfl rfl rfl (Nat.le_of_ble_eq_true rfl) [0] [1, 2, 3] [3, 0, 1, 2] rfl rfl rfl (fun _ => rfl) (fun _ => ?_)
      refine vz_join [(h, .inr (0, [.ref r, .int fl, .int (nI 0), .int (nI 0), .int (nI (refF ac me na fl x))])), (r, .inr (4, [.ref a])), (a, .inl (cI, 12, .inl (if (tb fl (6 * 1 + (x / 1000))) = true then pl else (upd pl (((sndV na x) - 1) * 3 + (x / 10 % 10)) (nI (x / 1000)))))), (g, .inr (2, [.int (nI np), .int ac, .int me, .int na]))] 0 0 94 [(0, .ref h), (1, .ref g), (2, .int (nI x)), (3, .int (nI (x / 1000))), (4, .int (nI (sndV na x)))] [] (fun hJ5 => ?_) ?_
      · refine vz_if_ne (tgt := 94) C dX0_send_74 (by decide) (Pr := (tb fl (6 * 1 + (x / 1000))) = true) vz_bne (fun h6 => ?_) (fun h6 => ?_)
        · refine vz_lv (lv' := [(0, .ref h), (1, .ref g), (2, .int (nI x)), (3, .int (nI (x / 1000))), (4, .int (nI (sndV na x)))]) [1, 2, 3, 4, 0] rfl ?_
          exact vz_to hJ5 (by first | rfl | simp only [if_pos h6, decide_eq_true h6, vz_bt h6, Bool.true_and, Bool.false_and, Bool.and_true, Bool.and_false, Bool.true_or, Bool.false_or, Bool.or_true, Bool.or_false, Bool.not_true, Bool.not_false, vz_bI1, vz_bI0, Bool.false_eq_true, if_true, if_false]) (by first | rfl | simp only [if_pos h6, decide_eq_true h6, vz_bt h6, Bool.true_and, Bool.false_and, Bool.and_true, Bool.and_false, Bool.true_or, Bool.false_or, Bool.or_true, Bool.or_false, Bool.not_true, Bool.not_false, vz_bI1, vz_bI0, Bool.false_eq_true, if_true, if_false]) (by first | rfl | simp only [if_pos h6, decide_eq_true h6, vz_bt h6, Bool.true_and, Bool.false_and, Bool.and_true, Bool.and_false, Bool.true_or, Bool.false_or, Bool.or_true, Bool.or_false, Bool.not_true, Bool.not_false, vz_bI1, vz_bI0, Bool.false_eq_true, if_true, if_false])
        · refine vz_aload_n C 1 dX0_send_77 rfl rfl ?_
          refine vz_get (C1 := RX0) (T1 := TX0) (N := 5) C in_X0_send_X0 0 0 dX0_send_78 rfl rfl (by decide) (by decide +kernel) rfl ?_
          refine vz_iload C 0 dX0_send_81 rfl ?_
          refine vz_iload_n C 3 dX0_send_83 rfl rfl ?_
          refine vz_callSNi (rest := [.int (nI (sndV na x)), .ref r]) (wr := [(h, .inr (0, [.ref r, .int fl, .int (nI 0), .int (nI 0), .int (nI (refF ac me na fl x))])), (r, .inr (4, [.ref a])), (a, .inl (cI, 12, .inl pl)), (g, .inr (2, [.int (nI np), .int ac, .int me, .int na]))]) C (fun _ : Unit => []) (fun _ : Unit => [(h, .inr (0, [.ref r, .int fl, .int (nI 0), .int (nI 0), .int (nI (refF ac me na fl x))])), (r, .inr (4, [.ref a])), (a, .inl (cI, 12, .inl pl)), (g, .inr (2, [.int (nI np), .int ac, .int me, .int na]))]) (c_X7_sourceOf l D cI cZ cJ x (by first | assumption | omega | decide | exact natF_lt _ _ | exact refF_lt _ _ _ _ _)) dX0_send_84 gX0_send_X7_sourceOf_n67 rfl kd_X7_sourceOf (host := "VlanProbe") (by decide +kernel) (by decide +kernel) (by decide +kernel) ⟨by decide, by decide⟩ ⟨by decide, by decide⟩ rfl rfl (Nat.le_of_ble_eq_true rfl) [] [0, 1, 2, 3] [0, 1, 2, 3] rfl rfl rfl (fun _ => rfl) (fun _ => ?_)
          refine vz_callSi (rest := [.ref r]) (wr := [(h, .inr (0, [.ref r, .int fl, .int (nI 0), .int (nI 0), .int (nI (refF ac me na fl x))])), (r, .inr (4, [.ref a])), (a, .inl (cI, 12, .inl pl)), (g, .inr (2, [.int (nI np), .int ac, .int me, .int na]))]) C (fun _ : Unit => []) (fun _ : Unit => [(h, .inr (0, [.ref r, .int fl, .int (nI 0), .int (nI 0), .int (nI (refF ac me na fl x))])), (r, .inr (4, [.ref a])), (a, .inl (cI, 12, .inl pl)), (g, .inr (2, [.int (nI np), .int ac, .int me, .int na]))]) (c_X0_slotOf l D cI cZ cJ (sndV na x) (x / 10 % 10) (by first | assumption | omega | decide | exact natF_lt _ _ | exact refF_lt _ _ _ _ _)) dX0_send_87 gX0_send_X0_slotOf rfl kd_X0_slotOf ⟨by decide, by decide⟩ ⟨by decide, by decide⟩ rfl rfl (Nat.le_of_ble_eq_true rfl) [] [0, 1, 2, 3] [0, 1, 2, 3] rfl rfl rfl (fun _ => rfl) (fun _ => ?_)
          refine vz_iload_n C 4 dX0_send_90 rfl rfl ?_
          refine vz_callVv (q0 := 0) (rest := []) (wr := [(h, .inr (0, [.ref r, .int fl, .int (nI 0), .int (nI 0), .int (nI (refF ac me na fl x))])), (g, .inr (2, [.int (nI np), .int ac, .int me, .int na]))]) C (fun _ : Unit => [(r, .inr (4, [.ref a])), (a, .inl (cI, 12, .inl (upd pl (((sndV na x) - 1) * 3 + (x / 10 % 10)) (nI (x / 1000)))))]) (fun _ : Unit => [(h, .inr (0, [.ref r, .int fl, .int (nI 0), .int (nI 0), .int (nI (refF ac me na fl x))])), (r, .inr (4, [.ref a])), (a, .inl (cI, 12, .inl (upd pl (((sndV na x) - 1) * 3 + (x / 10 % 10)) (nI (x / 1000))))), (g, .inr (2, [.int (nI np), .int ac, .int me, .int na]))]) (c_X4_write l D cI cZ cJ r a 12 (((sndV na x) - 1) * 3 + (x / 10 % 10)) pl (nI (x / 1000)) (by first | assumption | omega | decide | exact natF_lt _ _ | exact refF_lt _ _ _ _ _) (by first | assumption | omega | decide | exact natF_lt _ _ | exact refF_lt _ _ _ _ _)) dX0_send_91 gX0_send_X4_write rfl kd_X4_write ⟨by decide, by decide⟩ ⟨by decide, by decide⟩ rfl rfl rfl rfl rfl (Nat.le_of_ble_eq_true rfl) [1, 2] [0, 3] [0, 2, 3, 1] rfl rfl rfl (fun _ => rfl) (fun _ => ?_)
          refine vz_lv (lv' := [(0, .ref h), (1, .ref g), (2, .int (nI x)), (3, .int (nI (x / 1000))), (4, .int (nI (sndV na x)))]) [1, 2, 3, 4, 0] rfl ?_
          exact vz_to hJ5 (by first | rfl | simp only [if_neg h6, decide_eq_false h6, vz_bnt h6, Bool.true_and, Bool.false_and, Bool.and_true, Bool.and_false, Bool.true_or, Bool.false_or, Bool.or_true, Bool.or_false, Bool.not_true, Bool.not_false, vz_bI1, vz_bI0, Bool.false_eq_true, if_true, if_false]) (by first | rfl | simp only [if_neg h6, decide_eq_false h6, vz_bnt h6, Bool.true_and, Bool.false_and, Bool.and_true, Bool.and_false, Bool.true_or, Bool.false_or, Bool.or_true, Bool.or_false, Bool.not_true, Bool.not_false, vz_bI1, vz_bI0, Bool.false_eq_true, if_true, if_false]) (by first | rfl | simp only [if_neg h6, decide_eq_false h6, vz_bnt h6, Bool.true_and, Bool.false_and, Bool.and_true, Bool.and_false, Bool.true_or, Bool.false_or, Bool.or_true, Bool.or_false, Bool.not_true, Bool.not_false, vz_bI1, vz_bI0, Bool.false_eq_true, if_true, if_false])
      refine vz_ws (ws' := [(h, .inr (0, [.ref r, .int fl, .int (nI 0), .int (nI 0), .int (nI (refF ac me na fl x))])), (r, .inr (4, [.ref a])), (a, .inl (cI, 12, .inl (sndPl0 na fl pl x))), (g, .inr (2, [.int (nI np), .int ac, .int me, .int na]))]) rfl ?_
      refine vz_aload_n C 0 dX0_send_94 rfl rfl ?_
      refine vz_aload_n C 1 dX0_send_95 rfl rfl ?_
      refine vz_iload_n C 3 dX0_send_96 rfl rfl ?_
      refine vz_iload C 4 dX0_send_97 rfl ?_
      refine vz_iload_n C 2 dX0_send_99 rfl rfl ?_
      refine vz_callSNi (rest := [.int (nI (sndV na x)), .int (nI (x / 1000)), .ref g, .ref h]) (wr := [(h, .inr (0, [.ref r, .int fl, .int (nI 0), .int (nI 0), .int (nI (refF ac me na fl x))])), (r, .inr (4, [.ref a])), (a, .inl (cI, 12, .inl (sndPl0 na fl pl x))), (g, .inr (2, [.int (nI np), .int ac, .int me, .int na]))]) C (fun _ : Unit => []) (fun _ : Unit => [(h, .inr (0, [.ref r, .int fl, .int (nI 0), .int (nI 0), .int (nI (refF ac me na fl x))])), (r, .inr (4, [.ref a])), (a, .inl (cI, 12, .inl (sndPl0 na fl pl x))), (g, .inr (2, [.int (nI np), .int ac, .int me, .int na]))]) (c_X7_destinationOf l D cI cZ cJ x (by first | assumption | omega | decide | exact natF_lt _ _ | exact refF_lt _ _ _ _ _)) dX0_send_100 gX0_send_X7_destinationOf_n74 rfl kd_X7_destinationOf (host := "VlanProbe") (by decide +kernel) (by decide +kernel) (by decide +kernel) ⟨by decide, by decide⟩ ⟨by decide, by decide⟩ rfl rfl (Nat.le_of_ble_eq_true rfl) [] [0, 1, 2, 3] [0, 1, 2, 3] rfl rfl rfl (fun _ => rfl) (fun _ => ?_)
      refine vz_callVv (q0 := 0) (rest := []) (wr := []) C (fun _ : Unit => [(h, .inr (0, [.ref r, .int fl, .int (fwdEx me fl (sndPl0 na fl pl x) (x / 1000) (sndV na x) (x % 10) (nI 0)), .int (fwdTg ac me na fl (sndPl0 na fl pl x) (x / 1000) (sndV na x) (x % 10) (nI 0)), .int (nI (fwdWh me (sndPl0 na fl pl x) (x / 1000) (sndV na x) (x % 10) (refF ac me na fl x)))])), (r, .inr (4, [.ref a])), (a, .inl (cI, 12, .inl (sndPl0 na fl pl x))), (g, .inr (2, [.int (nI np), .int ac, .int me, .int na]))]) (fun _ : Unit => [(h, .inr (0, [.ref r, .int fl, .int (fwdEx me fl (sndPl0 na fl pl x) (x / 1000) (sndV na x) (x % 10) (nI 0)), .int (fwdTg ac me na fl (sndPl0 na fl pl x) (x / 1000) (sndV na x) (x % 10) (nI 0)), .int (nI (fwdWh me (sndPl0 na fl pl x) (x / 1000) (sndV na x) (x % 10) (refF ac me na fl x)))])), (r, .inr (4, [.ref a])), (a, .inl (cI, 12, .inl (sndPl0 na fl pl x))), (g, .inr (2, [.int (nI np), .int ac, .int me, .int na]))]) (c_X0_forward l D cI cZ cJ h r a (refF ac me na fl x) fl (nI 0) (nI 0) (sndPl0 na fl pl x) g np ac me na (x / 1000) (sndV na x) (x % 10) (by first | assumption | omega | decide | exact natF_lt _ _ | exact refF_lt _ _ _ _ _) (by first | assumption | omega | decide | exact natF_lt _ _ | exact refF_lt _ _ _ _ _) (by first | assumption | omega | decide | exact natF_lt _ _ | exact refF_lt _ _ _ _ _) (by first | assumption | omega | decide | exact natF_lt _ _ | exact refF_lt _ _ _ _ _)) dX0_send_103 gX0_send_X0_forward rfl kd_X0_forward ⟨by decide, by decide⟩ ⟨by decide, by decide⟩ rfl rfl rfl rfl rfl (Nat.le_of_ble_eq_true rfl) [0, 1, 2, 3] [] [0, 1, 2, 3] rfl rfl rfl (fun _ => rfl) (fun _ => ?_)
      exact vz_vret C () hr dX0_send_106 (by first | rfl | simp only [sndEx, sndTg, sndWh, sndPl, if_neg (vz_fnt h1), decide_eq_false (vz_fnt h1), vz_bnt (vz_fnt h1), if_pos h2, decide_eq_true h2, Bool.true_and, Bool.false_and, Bool.and_true, Bool.and_false, Bool.true_or, Bool.false_or, Bool.or_true, Bool.or_false, Bool.not_true, Bool.not_false, vz_bI1, vz_bI0, Bool.false_eq_true, if_true, if_false] | simp [sndEx, sndTg, sndWh, sndPl, if_neg (vz_fnt h1), decide_eq_false (vz_fnt h1), vz_bnt (vz_fnt h1), if_pos h2, decide_eq_true h2, Bool.true_and, Bool.false_and, Bool.and_true, Bool.and_false, Bool.true_or, Bool.false_or, Bool.or_true, Bool.or_false, Bool.not_true, Bool.not_false, vz_bI1, vz_bI0, Bool.false_eq_true, if_true, if_false])
    · exact vz_vret C () hr dX0_send_41 (by first | rfl | simp only [sndEx, sndTg, sndWh, sndPl, if_neg (vz_fnt h1), decide_eq_false (vz_fnt h1), vz_bnt (vz_fnt h1), if_neg h2, decide_eq_false h2, Bool.true_and, Bool.false_and, Bool.and_true, Bool.and_false, Bool.true_or, Bool.false_or, Bool.or_true, Bool.or_false, Bool.not_true, Bool.not_false, vz_bI1, vz_bI0, Bool.false_eq_true, if_true, if_false] | simp [sndEx, sndTg, sndWh, sndPl, if_neg (vz_fnt h1), decide_eq_false (vz_fnt h1), vz_bnt (vz_fnt h1), if_neg h2, decide_eq_false h2, Bool.true_and, Bool.false_and, Bool.and_true, Bool.and_false, Bool.true_or, Bool.false_or, Bool.or_true, Bool.or_false, Bool.not_true, Bool.not_false, vz_bI1, vz_bI0, Bool.false_eq_true, if_true, if_false])
  · exact vz_vret C () hr dX0_send_23 (by first | rfl | simp only [sndEx, sndTg, sndWh, sndPl, if_pos (vz_bnf h1), decide_eq_true (vz_bnf h1), vz_bt (vz_bnf h1), Bool.true_and, Bool.false_and, Bool.and_true, Bool.and_false, Bool.true_or, Bool.false_or, Bool.or_true, Bool.or_false, Bool.not_true, Bool.not_false, vz_bI1, vz_bI0, Bool.false_eq_true, if_true, if_false] | simp [sndEx, sndTg, sndWh, sndPl, if_pos (vz_bnf h1), decide_eq_true (vz_bnf h1), vz_bt (vz_bnf h1), Bool.true_and, Bool.false_and, Bool.and_true, Bool.and_false, Bool.true_or, Bool.false_or, Bool.or_true, Bool.or_false, Bool.not_true, Bool.not_false, vz_bI1, vz_bI0, Bool.false_eq_true, if_true, if_false])
