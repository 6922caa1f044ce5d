set_option maxRecDepth 100000 in
theorem c_L_cell (l : Launch) (D : va_G) (cI cZ cJ : ClassId) (b L k : Nat) (xs : Nat → Int32) (hL : L < 2 ^ 31) (hk : k < 2 ^ 30) : cnS l yL_cell wsL_cell { frames := 0, cells := 0, slots := 0, locals := 0 } D [(cI, .int)] [.ref b, .int (nI k)] b L xs (if L ≤ k then cellQ k else xs k) := by
  refine cnS.mk (cc := cL_cell) (nL := 2) (ret := some .int) (by decide) rfl (Nat.le_of_ble_eq_true rfl) ?_
  intro p_ e_ s_ m_ g_ b_ mt_ cd_ A_ C hX hbl hbA hr
  refine vz_iload_n C 1 dL_cell_0 rfl rfl ?_
  refine vz_aload_n C 0 dL_cell_1 rfl rfl ?_
  refine vz_slen C hX hbl hbA dL_cell_2 ?_
  refine vz_icmp_ge (tgt := 12) C dL_cell_3 (by decide) (Pr := L ≤ k) (nI_leI hL (by omega)) (fun h => ?_) (fun h => ?_)
  · refine vz_ldc2 (v := 2246822519) C dL_cell_12 (by decide +kernel) ?_
    refine vz_iload_n C 1 dL_cell_15 rfl rfl ?_
    refine vz_bipush (v := nI 14) C dL_cell_16 (by decide) ?_
    refine vz_iadd (z := nI (k + 14)) C dL_cell_18 (nI_add k 14) ?_
    refine vz_i2l (z := (nI (k + 14)).toInt64) C dL_cell_19 rfl ?_
    refine vz_lmul (z := (2246822519 : Int64) * (nI (k + 14)).toInt64) C dL_cell_20 rfl ?_
    refine vz_iconst (v := nI 5) C dL_cell_21 (by decide) ?_
    refine vz_lushr (z := (((2246822519 : Int64) * (nI (k + 14)).toInt64).toUInt64 >>> ((nI 5).toInt64.toUInt64 &&& Int64.toUInt64 63)).toInt64) C dL_cell_22 rfl ?_
    refine vz_l2i (z := cellQ k) C dL_cell_23 rfl ?_
    exact vz_iret C () hr dL_cell_24 (if_pos h).symm rfl
  · refine vz_aload_n C 0 dL_cell_6 rfl rfl ?_
    refine vz_iload_n C 1 dL_cell_7 rfl rfl ?_
    refine vz_sld C hX hbl hbA k dL_cell_8 rfl (by omega) hL rfl ?_
    refine vz_goto (tgt := 24) C dL_cell_9 (by decide) ?_
    exact vz_iret C () hr dL_cell_24 (if_neg h).symm rfl
