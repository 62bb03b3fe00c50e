/-! ===== definitions of jets: a step of a division ===== -/
theorem st_pure {w : Nat} {c r y low df : List Bool} {t b : Bool} (hc : c.length = 1) (hr : r.length = w) (hy : y.length = w) (hl : low.length = w) (hd : df.length = w) (e1 : r ++ c = t :: low) (e2 : b :: df = bbits (1 + w) (bnum low + 2 ^ (w + 1) - bnum y - 0)) :
    (if b = false then true :: df else if t = false then false :: low else true :: df) = if 2 * bnum r + bnum c < bnum y then false :: bbits w (2 * bnum r + bnum c) else true :: bbits w (2 * bnum r + bnum c - bnum y) := by
  have n1 := congrArg bnum e1
  have n2 := congrArg bnum e2
  rw [bnum_app, hc, bnum_cons, hl] at n1
  rw [bnum_cons, hd, bnum_bbits, Nat.add_comm 1 w, Nat.pow_succ] at n2
  have l1 := bnum_lt low; have l2 := bnum_lt y; have l3 := bnum_lt df; have l4 := bnum_lt c
  rw [hl] at l1; rw [hy] at l2; rw [hd] at l3; rw [hc] at l4
  rw [show 2 * bnum r + bnum c = t.toNat * 2 ^ w + bnum low by omega]
  have bl : low = bbits w (bnum low) := by rw [← hl]; exact (bbits_bnum low).symm
  have bd : df = bbits w (bnum df) := by rw [← hd]; exact (bbits_bnum df).symm
  have hp := Nat.two_pow_pos w
  have cg : ∀ M N : Nat, M = N ∨ M = N + 2 ^ w ∨ M + 2 ^ w = N → bbits w M = bbits w N := by
    intro M N h
    rcases h with h | h | h
    · rw [h]
    · rw [h]; exact bb_cg (Nat.add_mod_right _ _)
    · rw [← h]; exact (bb_cg (Nat.add_mod_right _ _)).symm
  generalize 2 ^ w = W at *
  generalize bnum low = L at *; generalize bnum y = Y at *; generalize bnum df = D at *
  have m2 : (L + W * 2 - Y - 0) % (W * 2) = if Y ≤ L then L - Y else L + W * 2 - Y := by
    split
    · rw [show L + W * 2 - Y - 0 = L - Y + W * 2 by omega, Nat.add_mod_right, Nat.mod_eq_of_lt (by omega)]
    · rw [Nat.mod_eq_of_lt (by omega)]; omega
  rw [m2] at n2
  cases b
  · simp only [Bool.toNat_false, Nat.zero_mul, Nat.zero_add] at n2
    have hYL : Y ≤ L := by
      by_cases h : Y ≤ L
      · exact h
      · rw [if_neg h] at n2; omega
    rw [if_pos hYL] at n2
    rw [if_pos rfl, if_neg (by cases t <;> simp <;> omega), bd, n2]
    congr 1
    refine cg _ _ ?_
    cases t <;> simp <;> omega
  · simp only [Bool.toNat_true, Nat.one_mul] at n2
    have hYL : ¬ Y ≤ L := by
      intro h
      rw [if_pos h] at n2
      omega
    rw [if_neg hYL] at n2
    cases t
    · simp only [Bool.toNat_false, Nat.zero_mul, Nat.zero_add]
      rw [if_neg (by decide : ¬ (true = false)), if_pos trivial, if_pos (show L < Y by omega), ← bl]
    · simp only [Bool.toNat_true, Nat.one_mul]
      rw [if_neg (by decide : ¬ (true = false)), if_neg (by decide : ¬ (true = false)), if_neg (show ¬ W + L < Y by omega), bd]
      congr 1
      exact cg _ _ (by omega)
section CD
variable {sc : xm_Sc} {l : Nat}
theorem bj_21 (h3 : 3 ≤ l) (hl : l < 7) : BdOK sc 21 l := by
  intro r d c m h G J post hP hr hd hF hI hJ hm hp
  rw [pH_e (by omega)] at hr
  have hr' : r = 2 + l := hr
  have ho : oc 21 l = 48 := (by decide : ∀ l, l < 7 → 3 ≤ l → oc 21 l = 48) l hl h3
  rw [ho] at hm hp
  have hw64 := pw_l7 hl
  rw [if_pos (by decide)]
  unfold bPo gP at hp
  obtain ⟨w, hw⟩ : ∃ w, 2 ^ l = w := ⟨_, rfl⟩
  rw [hw] at hw64 hp
  rw [hw]
  refine xq_in rfl ?_
  simp only [xq_a0, xq_aI, xq_aJ, xq_aR, Nat.reduceAdd]
  have E : cE h G c h G c := cE_rf
  with_reducible refine xm_go_blk b_X0_joinedPiece_0 k_X0_joinedPiece_0 ?_
  refine by_iload_n rfl ?_
  refine by_sw ?_
  refine xq_sw 88 (by decide) (by decide) ?_
  with_reducible refine xm_go_blk b_X0_joinedPiece_88 k_X0_joinedPiece_88 ?_
  refine by_aload_n rfl ?_
  refine by_iload_n rfl ?_
  refine by_iload_n rfl ?_
  refine by_inv2 cn_20 lk_0_117 (by rw [xe_cnt]; decide) is_11 np_11 cn_11 (by first | exact rfl | assumption) (Nat.le_of_ble_eq_true rfl) ?_
  refine xq_in rfl ?_
  simp only [xq_a0, xq_aI, xq_aJ, xq_aR, Nat.reduceAdd]
  with_reducible refine xm_go_blk b_X0_divisionStep_0 k_X0_divisionStep_0 ?_
  refine by_aload_n rfl ?_
  refine by_aload_n rfl ?_
  refine by_aload_n rfl ?_
  refine by_iconst ci_1 ?_
  refine by_iconst ci_2 ?_
  refine by_iload_n rfl ?_
  refine by_imul ?_
  simp (disch := first | exact Nat.ne_of_beq_eq_false rfl | exact rfl | omega) only [nI_add, xa_sub, xa_mul, pk_div, nm_mod, xa_shr, xa_and7, xa_and1, xa_and255, xa_by_and, nI_m1, Nat.add_sub_cancel, Nat.reducePow, Nat.zero_add, Nat.add_zero, Nat.reduceAdd, Nat.reduceMul, Nat.reduceSub, xf_same, xq_ff, xq_fo, xf_1, xf_2, xs_1, xs_2, xs_same, xq_so, xj_1, xj_2, xj_same, xq_jo, xq_sa1, xq_same, xq_other, upd_s, oI_n, oI_s, xv_0, xv_1, xv_2, xv_3, xm_p1, xm_p2, xq_fp, xq_fn, List.filter_nil, Nat.reduceBEq, Bool.not_true, Bool.not_false, Bool.and_true, Bool.and_false, Bool.false_and, Bool.true_and, if_true, if_false, Bool.false_eq_true, reduceIte, xc_i, xc_j, xc_r, xc_n, List.nil_append, List.cons_append, Option.toList_some, Option.toList_none]
  refine by_inv2 cn_11 lk_0_95 (by rw [xe_cnt]; decide) is_15 np_15 cn_15 (by first | exact rfl | assumption) (Nat.le_of_ble_eq_true rfl) ?_
  refine sp_first hF hI (by omega) (by omega) (fun h1 G1 c1 n1 F1 I1 e1 v1 => ?_)
  replace E := cE_tr E e1
  with_reducible refine xm_go_blk b_X0_divisionStep_10 k_X0_divisionStep_10 ?_
  refine by_aload_n rfl ?_
  refine by_iconst ci_1 ?_
  refine by_aload_n rfl ?_
  refine by_iload_n rfl ?_
  refine by_iload_n rfl ?_
  refine by_inv2 cn_11 lk_0_95 (by rw [xe_cnt]; decide) is_15 np_15 cn_15 (by first | exact rfl | assumption) (Nat.le_of_ble_eq_true rfl) ?_
  refine sp_first F1 I1 (by omega) (by omega) (fun h2 G2 c2 n2 F2 I2 e2 v2 => ?_)
  replace v1 := nG_up v1 e2
  replace E := cE_tr E e2
  with_reducible refine xm_go_blk b_X0_divisionStep_18 k_X0_divisionStep_18 ?_
  refine by_inv2 cn_11 lk_0_47 (by rw [xe_cnt]; decide) is_12 np_12 cn_12 (by first | exact rfl | assumption) (Nat.le_of_ble_eq_true rfl) ?_
  refine sp_gdrop F2 I2 (by omega) v2 (by omega) (fun h3 G3 c3 n3 F3 I3 e3 v3 => ?_)
  replace v1 := nG_up v1 e3
  replace E := cE_tr E e3
  with_reducible refine xm_go_blk b_X0_divisionStep_21 k_X0_divisionStep_21 ?_
  refine by_inv2 cn_11 lk_0_80 (by rw [xe_cnt]; decide) is_25 np_25 cn_25 (by first | exact rfl | assumption) (Nat.le_of_ble_eq_true rfl) ?_
  refine sp_gpair F3 I3 (by omega) v1 v3 (by omega) (by omega) (fun h4 G4 c4 n4 F4 I4 e4 v4 => ?_)
  replace E := cE_tr E e4
  with_reducible refine xm_go_blk b_X0_divisionStep_24 k_X0_divisionStep_24 ?_
  refine by_aload_n rfl ?_
  refine by_bipush cb_20 ?_
  refine by_iload_n rfl ?_
  refine by_inv2 cn_11 lk_0_83 (by rw [xe_cnt]; decide) is_26 np_26 cn_26 (by first | exact rfl | assumption) (Nat.le_of_ble_eq_true rfl) ?_
  refine sp_pc (a := 1) hP ⟨by omega, by omega, by omega⟩ rfl (by omega) hJ (by omega) F4 I4 (fun h5 G5 c5 n5 F5 I5 e5 p5 => ?_)
  obtain ⟨f5, v5, s5⟩ := p5
  simp only [pS, pT, pSp, Nat.reducePow, hw] at v5 s5
  replace v4 := nG_up v4 e5
  replace E := cE_tr E e5
  with_reducible refine xm_go_blk b_X0_divisionStep_31 k_X0_divisionStep_31 ?_
  refine by_inv2 cn_11 lk_0_86 (by rw [xe_cnt]; decide) is_7 np_7 cn_7 (by first | exact rfl | assumption) (Nat.le_of_ble_eq_true rfl) ?_
  refine sp_gcomp F5 I5 (by omega) v4 v5 (by omega) (fun h6 G6 c6 n6 F6 I6 e6 v6 => ?_)
  replace E := cE_tr E e6
  with_reducible refine xm_go_blk b_X0_divisionStep_34 k_X0_divisionStep_34 ?_
  refine by_istore_n (by rw [ml_11]; decide) ?_
  refine by_aload_n rfl ?_
  refine by_iload_n rfl ?_
  refine by_aload_n rfl ?_
  refine by_iconst ci_1 ?_
  refine by_aload_n rfl ?_
  refine by_iload_n rfl ?_
  refine by_iload_n rfl ?_
  simp (disch := first | exact Nat.ne_of_beq_eq_false rfl | exact rfl | omega) only [nI_add, xa_sub, xa_mul, pk_div, nm_mod, xa_shr, xa_and7, xa_and1, xa_and255, xa_by_and, nI_m1, Nat.add_sub_cancel, Nat.reducePow, Nat.zero_add, Nat.add_zero, Nat.reduceAdd, Nat.reduceMul, Nat.reduceSub, xf_same, xq_ff, xq_fo, xf_1, xf_2, xs_1, xs_2, xs_same, xq_so, xj_1, xj_2, xj_same, xq_jo, xq_sa1, xq_same, xq_other, upd_s, oI_n, oI_s, xv_0, xv_1, xv_2, xv_3, xm_p1, xm_p2, xq_fp, xq_fn, List.filter_nil, Nat.reduceBEq, Bool.not_true, Bool.not_false, Bool.and_true, Bool.and_false, Bool.false_and, Bool.true_and, if_true, if_false, Bool.false_eq_true, reduceIte, xc_i, xc_j, xc_r, xc_n, List.nil_append, List.cons_append, Option.toList_some, Option.toList_none]
  refine by_inv2 cn_11 lk_0_92 (by rw [xe_cnt]; decide) is_32 np_32 cn_32 (by first | exact rfl | assumption) (Nat.le_of_ble_eq_true rfl) ?_
  refine sp_second F6 I6 (by omega) (by omega) (fun h7 G7 c7 n7 F7 I7 e7 v7 => ?_)
  replace v6 := nG_up v6 e7
  replace E := cE_tr E e7
  with_reducible refine xm_go_blk b_X0_divisionStep_45 k_X0_divisionStep_45 ?_
  refine by_inv2 cn_11 lk_0_47 (by rw [xe_cnt]; decide) is_12 np_12 cn_12 (by first | exact rfl | assumption) (Nat.le_of_ble_eq_true rfl) ?_
  refine sp_gdrop F7 I7 (by omega) v7 (by omega) (fun h8 G8 c8 n8 F8 I8 e8 v8 => ?_)
  replace v6 := nG_up v6 e8
  replace E := cE_tr E e8
  with_reducible refine xm_go_blk b_X0_divisionStep_48 k_X0_divisionStep_48 ?_
  refine by_inv2 cn_11 lk_0_80 (by rw [xe_cnt]; decide) is_25 np_25 cn_25 (by first | exact rfl | assumption) (Nat.le_of_ble_eq_true rfl) ?_
  refine sp_gpair F8 I8 (by omega) v6 v8 (by omega) (by omega) (fun h9 G9 c9 n9 F9 I9 e9 v9 => ?_)
  replace E := cE_tr E e9
  with_reducible refine xm_go_blk b_X0_divisionStep_51 k_X0_divisionStep_51 ?_
  refine by_istore (by rw [ml_11]; decide) ?_
  refine by_aload_n rfl ?_
  refine by_aload_n rfl ?_
  refine by_aload_n rfl ?_
  refine by_iconst ci_0 ?_
  refine by_iconst ci_1 ?_
  refine by_iconst ci_2 ?_
  refine by_iload_n rfl ?_
  refine by_imul ?_
  refine by_iadd ?_
  simp (disch := first | exact Nat.ne_of_beq_eq_false rfl | exact rfl | omega) only [nI_add, xa_sub, xa_mul, pk_div, nm_mod, xa_shr, xa_and7, xa_and1, xa_and255, xa_by_and, nI_m1, Nat.add_sub_cancel, Nat.reducePow, Nat.zero_add, Nat.add_zero, Nat.reduceAdd, Nat.reduceMul, Nat.reduceSub, xf_same, xq_ff, xq_fo, xf_1, xf_2, xs_1, xs_2, xs_same, xq_so, xj_1, xj_2, xj_same, xq_jo, xq_sa1, xq_same, xq_other, upd_s, oI_n, oI_s, xv_0, xv_1, xv_2, xv_3, xm_p1, xm_p2, xq_fp, xq_fn, List.filter_nil, Nat.reduceBEq, Bool.not_true, Bool.not_false, Bool.and_true, Bool.and_false, Bool.false_and, Bool.true_and, if_true, if_false, Bool.false_eq_true, reduceIte, xc_i, xc_j, xc_r, xc_n, List.nil_append, List.cons_append, Option.toList_some, Option.toList_none]
  refine by_inv2 cn_11 lk_0_73 (by rw [xe_cnt]; decide) is_3 np_3 cn_3 (by first | exact rfl | assumption) (Nat.le_of_ble_eq_true rfl) ?_
  refine sp_gbit (by omega) F9 I9 (by omega) (by omega) (fun h10 G10 c10 n10 F10 I10 e10 v10 => ?_)
  replace v9 := nG_up v9 e10
  replace E := cE_tr E e10
  with_reducible refine xm_go_blk b_X0_divisionStep_65 k_X0_divisionStep_65 ?_
  refine by_aload_n rfl ?_
  refine by_aload_n rfl ?_
  refine by_aload_n rfl ?_
  refine by_iconst ci_1 ?_
  refine by_iload_n rfl ?_
  refine by_inv2 cn_11 lk_0_92 (by rw [xe_cnt]; decide) is_32 np_32 cn_32 (by first | exact rfl | assumption) (Nat.le_of_ble_eq_true rfl) ?_
  refine sp_second F10 I10 (by omega) (by omega) (fun h11 G11 c11 n11 F11 I11 e11 v11 => ?_)
  replace v10 := nG_up v10 e11
  replace v9 := nG_up v9 e11
  replace E := cE_tr E e11
  with_reducible refine xm_go_blk b_X0_divisionStep_73 k_X0_divisionStep_73 ?_
  refine by_iload_n rfl ?_
  refine by_inv2 cn_11 lk_0_101 (by rw [xe_cnt]; decide) is_33 np_33 cn_33 (by first | exact rfl | assumption) (Nat.le_of_ble_eq_true rfl) ?_
  refine sp_gtake F11 I11 (by omega) v11 (by omega) (fun h12 G12 c12 n12 F12 I12 e12 v12 => ?_)
  replace v10 := nG_up v10 e12
  replace v9 := nG_up v9 e12
  replace E := cE_tr E e12
  with_reducible refine xm_go_blk b_X0_divisionStep_77 k_X0_divisionStep_77 ?_
  refine by_aload_n rfl ?_
  refine by_iconst ci_1 ?_
  refine by_iload_n rfl ?_
  refine by_iadd ?_
  refine by_iload_n rfl ?_
  simp (disch := first | exact Nat.ne_of_beq_eq_false rfl | exact rfl | omega) only [nI_add, xa_sub, xa_mul, pk_div, nm_mod, xa_shr, xa_and7, xa_and1, xa_and255, xa_by_and, nI_m1, Nat.add_sub_cancel, Nat.reducePow, Nat.zero_add, Nat.add_zero, Nat.reduceAdd, Nat.reduceMul, Nat.reduceSub, xf_same, xq_ff, xq_fo, xf_1, xf_2, xs_1, xs_2, xs_same, xq_so, xj_1, xj_2, xj_same, xq_jo, xq_sa1, xq_same, xq_other, upd_s, oI_n, oI_s, xv_0, xv_1, xv_2, xv_3, xm_p1, xm_p2, xq_fp, xq_fn, List.filter_nil, Nat.reduceBEq, Bool.not_true, Bool.not_false, Bool.and_true, Bool.and_false, Bool.false_and, Bool.true_and, if_true, if_false, Bool.false_eq_true, reduceIte, xc_i, xc_j, xc_r, xc_n, List.nil_append, List.cons_append, Option.toList_some, Option.toList_none]
  refine by_inv2 cn_11 lk_0_92 (by rw [xe_cnt]; decide) is_32 np_32 cn_32 (by first | exact rfl | assumption) (Nat.le_of_ble_eq_true rfl) ?_
  refine sp_second F12 I12 (by omega) (by omega) (fun h13 G13 c13 n13 F13 I13 e13 v13 => ?_)
  replace v10 := nG_up v10 e13
  replace v12 := nG_up v12 e13
  replace v9 := nG_up v9 e13
  replace E := cE_tr E e13
  with_reducible refine xm_go_blk b_X0_divisionStep_85 k_X0_divisionStep_85 ?_
  refine by_inv2 cn_11 lk_0_80 (by rw [xe_cnt]; decide) is_25 np_25 cn_25 (by first | exact rfl | assumption) (Nat.le_of_ble_eq_true rfl) ?_
  refine sp_gpair F13 I13 (by omega) v12 v13 (by omega) (by omega) (fun h14 G14 c14 n14 F14 I14 e14 v14 => ?_)
  replace v10 := nG_up v10 e14
  replace v9 := nG_up v9 e14
  replace E := cE_tr E e14
  with_reducible refine xm_go_blk b_X0_divisionStep_88 k_X0_divisionStep_88 ?_
  refine by_inv2 cn_11 lk_0_80 (by rw [xe_cnt]; decide) is_25 np_25 cn_25 (by first | exact rfl | assumption) (Nat.le_of_ble_eq_true rfl) ?_
  refine sp_gpair F14 I14 (by omega) v10 v14 (by omega) (by omega) (fun h15 G15 c15 n15 F15 I15 e15 v15 => ?_)
  replace v9 := nG_up v9 e15
  replace E := cE_tr E e15
  with_reducible refine xm_go_blk b_X0_divisionStep_91 k_X0_divisionStep_91 ?_
  refine by_aload_n rfl ?_
  refine by_iconst ci_1 ?_
  refine by_iload_n rfl ?_
  refine by_inv2 cn_11 lk_0_83 (by rw [xe_cnt]; decide) is_26 np_26 cn_26 (by first | exact rfl | assumption) (Nat.le_of_ble_eq_true rfl) ?_
  refine sp_pc (a := 1) hP ⟨by omega, by omega, by omega⟩ rfl (by omega) hJ (by omega) F15 I15 (fun h16 G16 c16 n16 F16 I16 e16 p16 => ?_)
  obtain ⟨f16, v16, s16⟩ := p16
  simp only [pS, pT, pSp, Nat.reducePow, hw] at v16 s16
  replace v15 := nG_up v15 e16
  replace v9 := nG_up v9 e16
  replace E := cE_tr E e16
  with_reducible refine xm_go_blk b_X0_divisionStep_97 k_X0_divisionStep_97 ?_
  refine by_inv2 cn_11 lk_0_86 (by rw [xe_cnt]; decide) is_7 np_7 cn_7 (by first | exact rfl | assumption) (Nat.le_of_ble_eq_true rfl) ?_
  refine sp_gcomp F16 I16 (by omega) v15 v16 (by omega) (fun h17 G17 c17 n17 F17 I17 e17 v17 => ?_)
  replace v9 := nG_up v9 e17
  replace E := cE_tr E e17
  with_reducible refine xm_go_blk b_X0_divisionStep_100 k_X0_divisionStep_100 ?_
  refine by_istore (by rw [ml_11]; decide) ?_
  refine by_aload_n rfl ?_
  refine by_iload rfl ?_
  refine by_aload_n rfl ?_
  refine by_iconst ci_1 ?_
  refine by_iload_n rfl ?_
  refine by_iadd ?_
  refine by_iload_n rfl ?_
  simp (disch := first | exact Nat.ne_of_beq_eq_false rfl | exact rfl | omega) only [nI_add, xa_sub, xa_mul, pk_div, nm_mod, xa_shr, xa_and7, xa_and1, xa_and255, xa_by_and, nI_m1, Nat.add_sub_cancel, Nat.reducePow, Nat.zero_add, Nat.add_zero, Nat.reduceAdd, Nat.reduceMul, Nat.reduceSub, xf_same, xq_ff, xq_fo, xf_1, xf_2, xs_1, xs_2, xs_same, xq_so, xj_1, xj_2, xj_same, xq_jo, xq_sa1, xq_same, xq_other, upd_s, oI_n, oI_s, xv_0, xv_1, xv_2, xv_3, xm_p1, xm_p2, xq_fp, xq_fn, List.filter_nil, Nat.reduceBEq, Bool.not_true, Bool.not_false, Bool.and_true, Bool.and_false, Bool.false_and, Bool.true_and, if_true, if_false, Bool.false_eq_true, reduceIte, xc_i, xc_j, xc_r, xc_n, List.nil_append, List.cons_append, Option.toList_some, Option.toList_none]
  refine by_inv2 cn_11 lk_0_95 (by rw [xe_cnt]; decide) is_15 np_15 cn_15 (by first | exact rfl | assumption) (Nat.le_of_ble_eq_true rfl) ?_
  refine sp_first F17 I17 (by omega) (by omega) (fun h18 G18 c18 n18 F18 I18 e18 v18 => ?_)
  replace v17 := nG_up v17 e18
  replace v9 := nG_up v9 e18
  replace E := cE_tr E e18
  with_reducible refine xm_go_blk b_X0_divisionStep_113 k_X0_divisionStep_113 ?_
  refine by_inv2 cn_11 lk_0_80 (by rw [xe_cnt]; decide) is_25 np_25 cn_25 (by first | exact rfl | assumption) (Nat.le_of_ble_eq_true rfl) ?_
  refine sp_gpair F18 I18 (by omega) v17 v18 (by omega) (by omega) (fun h19 G19 c19 n19 F19 I19 e19 v19 => ?_)
  replace v9 := nG_up v9 e19
  replace E := cE_tr E e19
  with_reducible refine xm_go_blk b_X0_divisionStep_116 k_X0_divisionStep_116 ?_
  refine by_istore (by rw [ml_11]; decide) ?_
  refine by_aload_n rfl ?_
  refine by_aload_n rfl ?_
  refine by_aload_n rfl ?_
  refine by_iconst ci_1 ?_
  refine by_iload_n rfl ?_
  simp (disch := first | exact Nat.ne_of_beq_eq_false rfl | exact rfl | omega) only [nI_add, xa_sub, xa_mul, pk_div, nm_mod, xa_shr, xa_and7, xa_and1, xa_and255, xa_by_and, nI_m1, Nat.add_sub_cancel, Nat.reducePow, Nat.zero_add, Nat.add_zero, Nat.reduceAdd, Nat.reduceMul, Nat.reduceSub, xf_same, xq_ff, xq_fo, xf_1, xf_2, xs_1, xs_2, xs_same, xq_so, xj_1, xj_2, xj_same, xq_jo, xq_sa1, xq_same, xq_other, upd_s, oI_n, oI_s, xv_0, xv_1, xv_2, xv_3, xm_p1, xm_p2, xq_fp, xq_fn, List.filter_nil, Nat.reduceBEq, Bool.not_true, Bool.not_false, Bool.and_true, Bool.and_false, Bool.false_and, Bool.true_and, if_true, if_false, Bool.false_eq_true, reduceIte, xc_i, xc_j, xc_r, xc_n, List.nil_append, List.cons_append, Option.toList_some, Option.toList_none]
  refine by_inv2 cn_11 lk_0_95 (by rw [xe_cnt]; decide) is_15 np_15 cn_15 (by first | exact rfl | assumption) (Nat.le_of_ble_eq_true rfl) ?_
  refine sp_first F19 I19 (by omega) (by omega) (fun h20 G20 c20 n20 F20 I20 e20 v20 => ?_)
  replace v19 := nG_up v19 e20
  replace v9 := nG_up v9 e20
  replace E := cE_tr E e20
  with_reducible refine xm_go_blk b_X0_divisionStep_126 k_X0_divisionStep_126 ?_
  refine by_iconst ci_1 ?_
  refine by_iload_n rfl ?_
  refine by_iadd ?_
  simp (disch := first | exact Nat.ne_of_beq_eq_false rfl | exact rfl | omega) only [nI_add, xa_sub, xa_mul, pk_div, nm_mod, xa_shr, xa_and7, xa_and1, xa_and255, xa_by_and, nI_m1, Nat.add_sub_cancel, Nat.reducePow, Nat.zero_add, Nat.add_zero, Nat.reduceAdd, Nat.reduceMul, Nat.reduceSub, xf_same, xq_ff, xq_fo, xf_1, xf_2, xs_1, xs_2, xs_same, xq_so, xj_1, xj_2, xj_same, xq_jo, xq_sa1, xq_same, xq_other, upd_s, oI_n, oI_s, xv_0, xv_1, xv_2, xv_3, xm_p1, xm_p2, xq_fp, xq_fn, List.filter_nil, Nat.reduceBEq, Bool.not_true, Bool.not_false, Bool.and_true, Bool.and_false, Bool.false_and, Bool.true_and, if_true, if_false, Bool.false_eq_true, reduceIte, xc_i, xc_j, xc_r, xc_n, List.nil_append, List.cons_append, Option.toList_some, Option.toList_none]
  refine by_inv2 cn_11 lk_0_101 (by rw [xe_cnt]; decide) is_33 np_33 cn_33 (by first | exact rfl | assumption) (Nat.le_of_ble_eq_true rfl) ?_
  refine sp_gtake F20 I20 (by omega) v20 (by omega) (fun h21 G21 c21 n21 F21 I21 e21 v21 => ?_)
  replace v19 := nG_up v19 e21
  replace v9 := nG_up v9 e21
  replace E := cE_tr E e21
  with_reducible refine xm_go_blk b_X0_divisionStep_132 k_X0_divisionStep_132 ?_
  refine by_aload_n rfl ?_
  refine by_aload_n rfl ?_
  refine by_iconst ci_1 ?_
  refine by_iload_n rfl ?_
  refine by_iadd ?_
  refine by_aload_n rfl ?_
  refine by_iconst ci_1 ?_
  refine by_iload_n rfl ?_
  simp (disch := first | exact Nat.ne_of_beq_eq_false rfl | exact rfl | omega) only [nI_add, xa_sub, xa_mul, pk_div, nm_mod, xa_shr, xa_and7, xa_and1, xa_and255, xa_by_and, nI_m1, Nat.add_sub_cancel, Nat.reducePow, Nat.zero_add, Nat.add_zero, Nat.reduceAdd, Nat.reduceMul, Nat.reduceSub, xf_same, xq_ff, xq_fo, xf_1, xf_2, xs_1, xs_2, xs_same, xq_so, xj_1, xj_2, xj_same, xq_jo, xq_sa1, xq_same, xq_other, upd_s, oI_n, oI_s, xv_0, xv_1, xv_2, xv_3, xm_p1, xm_p2, xq_fp, xq_fn, List.filter_nil, Nat.reduceBEq, Bool.not_true, Bool.not_false, Bool.and_true, Bool.and_false, Bool.false_and, Bool.true_and, if_true, if_false, Bool.false_eq_true, reduceIte, xc_i, xc_j, xc_r, xc_n, List.nil_append, List.cons_append, Option.toList_some, Option.toList_none]
  refine by_inv2 cn_11 lk_0_95 (by rw [xe_cnt]; decide) is_15 np_15 cn_15 (by first | exact rfl | assumption) (Nat.le_of_ble_eq_true rfl) ?_
  refine sp_first F21 I21 (by omega) (by omega) (fun h22 G22 c22 n22 F22 I22 e22 v22 => ?_)
  replace v19 := nG_up v19 e22
  replace v21 := nG_up v21 e22
  replace v9 := nG_up v9 e22
  replace E := cE_tr E e22
  with_reducible refine xm_go_blk b_X0_divisionStep_143 k_X0_divisionStep_143 ?_
  refine by_inv2 cn_11 lk_0_47 (by rw [xe_cnt]; decide) is_12 np_12 cn_12 (by first | exact rfl | assumption) (Nat.le_of_ble_eq_true rfl) ?_
  refine sp_gdrop F22 I22 (by omega) v22 (by omega) (fun h23 G23 c23 n23 F23 I23 e23 v23 => ?_)
  replace v19 := nG_up v19 e23
  replace v21 := nG_up v21 e23
  replace v9 := nG_up v9 e23
  replace E := cE_tr E e23
  with_reducible refine xm_go_blk b_X0_divisionStep_146 k_X0_divisionStep_146 ?_
  refine by_aload_n rfl ?_
  refine by_aload_n rfl ?_
  refine by_aload_n rfl ?_
  refine by_iconst ci_1 ?_
  refine by_iload_n rfl ?_
  refine by_inv2 cn_11 lk_0_92 (by rw [xe_cnt]; decide) is_32 np_32 cn_32 (by first | exact rfl | assumption) (Nat.le_of_ble_eq_true rfl) ?_
  refine sp_second F23 I23 (by omega) (by omega) (fun h24 G24 c24 n24 F24 I24 e24 v24 => ?_)
  replace v19 := nG_up v19 e24
  replace v21 := nG_up v21 e24
  replace v23 := nG_up v23 e24
  replace v9 := nG_up v9 e24
  replace E := cE_tr E e24
  with_reducible refine xm_go_blk b_X0_divisionStep_154 k_X0_divisionStep_154 ?_
  refine by_iconst ci_1 ?_
  refine by_iload_n rfl ?_
  refine by_iadd ?_
  simp (disch := first | exact Nat.ne_of_beq_eq_false rfl | exact rfl | omega) only [nI_add, xa_sub, xa_mul, pk_div, nm_mod, xa_shr, xa_and7, xa_and1, xa_and255, xa_by_and, nI_m1, Nat.add_sub_cancel, Nat.reducePow, Nat.zero_add, Nat.add_zero, Nat.reduceAdd, Nat.reduceMul, Nat.reduceSub, xf_same, xq_ff, xq_fo, xf_1, xf_2, xs_1, xs_2, xs_same, xq_so, xj_1, xj_2, xj_same, xq_jo, xq_sa1, xq_same, xq_other, upd_s, oI_n, oI_s, xv_0, xv_1, xv_2, xv_3, xm_p1, xm_p2, xq_fp, xq_fn, List.filter_nil, Nat.reduceBEq, Bool.not_true, Bool.not_false, Bool.and_true, Bool.and_false, Bool.false_and, Bool.true_and, if_true, if_false, Bool.false_eq_true, reduceIte, xc_i, xc_j, xc_r, xc_n, List.nil_append, List.cons_append, Option.toList_some, Option.toList_none]
  refine by_inv2 cn_11 lk_0_101 (by rw [xe_cnt]; decide) is_33 np_33 cn_33 (by first | exact rfl | assumption) (Nat.le_of_ble_eq_true rfl) ?_
  refine sp_gtake F24 I24 (by omega) v24 (by omega) (fun h25 G25 c25 n25 F25 I25 e25 v25 => ?_)
  replace v19 := nG_up v19 e25
  replace v21 := nG_up v21 e25
  replace v23 := nG_up v23 e25
  replace v9 := nG_up v9 e25
  replace E := cE_tr E e25
  with_reducible refine xm_go_blk b_X0_divisionStep_160 k_X0_divisionStep_160 ?_
  refine by_aload_n rfl ?_
  refine by_iconst ci_1 ?_
  refine by_iload_n rfl ?_
  refine by_iadd ?_
  refine by_aload_n rfl ?_
  refine by_iconst ci_1 ?_
  refine by_iload_n rfl ?_
  simp (disch := first | exact Nat.ne_of_beq_eq_false rfl | exact rfl | omega) only [nI_add, xa_sub, xa_mul, pk_div, nm_mod, xa_shr, xa_and7, xa_and1, xa_and255, xa_by_and, nI_m1, Nat.add_sub_cancel, Nat.reducePow, Nat.zero_add, Nat.add_zero, Nat.reduceAdd, Nat.reduceMul, Nat.reduceSub, xf_same, xq_ff, xq_fo, xf_1, xf_2, xs_1, xs_2, xs_same, xq_so, xj_1, xj_2, xj_same, xq_jo, xq_sa1, xq_same, xq_other, upd_s, oI_n, oI_s, xv_0, xv_1, xv_2, xv_3, xm_p1, xm_p2, xq_fp, xq_fn, List.filter_nil, Nat.reduceBEq, Bool.not_true, Bool.not_false, Bool.and_true, Bool.and_false, Bool.false_and, Bool.true_and, if_true, if_false, Bool.false_eq_true, reduceIte, xc_i, xc_j, xc_r, xc_n, List.nil_append, List.cons_append, Option.toList_some, Option.toList_none]
  refine by_inv2 cn_11 lk_0_92 (by rw [xe_cnt]; decide) is_32 np_32 cn_32 (by first | exact rfl | assumption) (Nat.le_of_ble_eq_true rfl) ?_
  refine sp_second F25 I25 (by omega) (by omega) (fun h26 G26 c26 n26 F26 I26 e26 v26 => ?_)
  replace v19 := nG_up v19 e26
  replace v21 := nG_up v21 e26
  replace v23 := nG_up v23 e26
  replace v25 := nG_up v25 e26
  replace v9 := nG_up v9 e26
  replace E := cE_tr E e26
  with_reducible refine xm_go_blk b_X0_divisionStep_170 k_X0_divisionStep_170 ?_
  refine by_inv2 cn_11 lk_0_47 (by rw [xe_cnt]; decide) is_12 np_12 cn_12 (by first | exact rfl | assumption) (Nat.le_of_ble_eq_true rfl) ?_
  refine sp_gdrop F26 I26 (by omega) v26 (by omega) (fun h27 G27 c27 n27 F27 I27 e27 v27 => ?_)
  replace v19 := nG_up v19 e27
  replace v21 := nG_up v21 e27
  replace v23 := nG_up v23 e27
  replace v25 := nG_up v25 e27
  replace v9 := nG_up v9 e27
  replace E := cE_tr E e27
  with_reducible refine xm_go_blk b_X0_divisionStep_173 k_X0_divisionStep_173 ?_
  refine by_inv2 cn_11 lk_0_80 (by rw [xe_cnt]; decide) is_25 np_25 cn_25 (by first | exact rfl | assumption) (Nat.le_of_ble_eq_true rfl) ?_
  refine sp_gpair F27 I27 (by omega) v25 v27 (by omega) (by omega) (fun h28 G28 c28 n28 F28 I28 e28 v28 => ?_)
  replace v19 := nG_up v19 e28
  replace v21 := nG_up v21 e28
  replace v23 := nG_up v23 e28
  replace v9 := nG_up v9 e28
  replace E := cE_tr E e28
  with_reducible refine xm_go_blk b_X0_divisionStep_176 k_X0_divisionStep_176 ?_
  refine by_inv2 cn_11 lk_0_80 (by rw [xe_cnt]; decide) is_25 np_25 cn_25 (by first | exact rfl | assumption) (Nat.le_of_ble_eq_true rfl) ?_
  refine sp_gpair F28 I28 (by omega) v23 v28 (by omega) (by omega) (fun h29 G29 c29 n29 F29 I29 e29 v29 => ?_)
  replace v19 := nG_up v19 e29
  replace v21 := nG_up v21 e29
  replace v9 := nG_up v9 e29
  replace E := cE_tr E e29
  with_reducible refine xm_go_blk b_X0_divisionStep_179 k_X0_divisionStep_179 ?_
  refine by_inv2 cn_11 lk_0_80 (by rw [xe_cnt]; decide) is_25 np_25 cn_25 (by first | exact rfl | assumption) (Nat.le_of_ble_eq_true rfl) ?_
  refine sp_gpair F29 I29 (by omega) v21 v29 (by omega) (by omega) (fun h30 G30 c30 n30 F30 I30 e30 v30 => ?_)
  replace v19 := nG_up v19 e30
  replace v9 := nG_up v9 e30
  replace E := cE_tr E e30
  with_reducible refine xm_go_blk b_X0_divisionStep_182 k_X0_divisionStep_182 ?_
  refine by_istore (by rw [ml_11]; decide) ?_
  refine by_aload_n rfl ?_
  refine by_aload_n rfl ?_
  refine by_iconst ci_1 ?_
  refine by_iconst ci_2 ?_
  refine by_iload_n rfl ?_
  refine by_imul ?_
  simp (disch := first | exact Nat.ne_of_beq_eq_false rfl | exact rfl | omega) only [nI_add, xa_sub, xa_mul, pk_div, nm_mod, xa_shr, xa_and7, xa_and1, xa_and255, xa_by_and, nI_m1, Nat.add_sub_cancel, Nat.reducePow, Nat.zero_add, Nat.add_zero, Nat.reduceAdd, Nat.reduceMul, Nat.reduceSub, xf_same, xq_ff, xq_fo, xf_1, xf_2, xs_1, xs_2, xs_same, xq_so, xj_1, xj_2, xj_same, xq_jo, xq_sa1, xq_same, xq_other, upd_s, oI_n, oI_s, xv_0, xv_1, xv_2, xv_3, xm_p1, xm_p2, xq_fp, xq_fn, List.filter_nil, Nat.reduceBEq, Bool.not_true, Bool.not_false, Bool.and_true, Bool.and_false, Bool.false_and, Bool.true_and, if_true, if_false, Bool.false_eq_true, reduceIte, xc_i, xc_j, xc_r, xc_n, List.nil_append, List.cons_append, Option.toList_some, Option.toList_none]
  refine by_inv2 cn_11 lk_0_73 (by rw [xe_cnt]; decide) is_3 np_3 cn_3 (by first | exact rfl | assumption) (Nat.le_of_ble_eq_true rfl) ?_
  refine sp_gbit (by omega) F30 I30 (by omega) (by omega) (fun h31 G31 c31 n31 F31 I31 e31 v31 => ?_)
  replace v19 := nG_up v19 e31
  replace v30 := nG_up v30 e31
  replace v9 := nG_up v9 e31
  replace E := cE_tr E e31
  with_reducible refine xm_go_blk b_X0_divisionStep_193 k_X0_divisionStep_193 ?_
  refine by_aload_n rfl ?_
  refine by_iload_n rfl ?_
  refine by_iload_n rfl ?_
  refine by_inv2 cn_11 lk_0_95 (by rw [xe_cnt]; decide) is_15 np_15 cn_15 (by first | exact rfl | assumption) (Nat.le_of_ble_eq_true rfl) ?_
  refine sp_first F31 I31 (by omega) (by omega) (fun h32 G32 c32 n32 F32 I32 e32 v32 => ?_)
  replace v19 := nG_up v19 e32
  replace v30 := nG_up v30 e32
  replace v31 := nG_up v31 e32
  replace v9 := nG_up v9 e32
  replace E := cE_tr E e32
  with_reducible refine xm_go_blk b_X0_divisionStep_199 k_X0_divisionStep_199 ?_
  refine by_inv2 cn_11 lk_0_80 (by rw [xe_cnt]; decide) is_25 np_25 cn_25 (by first | exact rfl | assumption) (Nat.le_of_ble_eq_true rfl) ?_
  refine sp_gpair F32 I32 (by omega) v31 v32 (by omega) (by omega) (fun h33 G33 c33 n33 F33 I33 e33 v33 => ?_)
  replace v19 := nG_up v19 e33
  replace v30 := nG_up v30 e33
  replace v9 := nG_up v9 e33
  replace E := cE_tr E e33
  with_reducible refine xm_go_blk b_X0_divisionStep_202 k_X0_divisionStep_202 ?_
  refine by_istore (by rw [ml_11]; decide) ?_
  refine by_aload_n rfl ?_
  refine by_aload_n rfl ?_
  refine by_iconst ci_0 ?_
  refine by_iconst ci_2 ?_
  refine by_iload_n rfl ?_
  refine by_imul ?_
  simp (disch := first | exact Nat.ne_of_beq_eq_false rfl | exact rfl | omega) only [nI_add, xa_sub, xa_mul, pk_div, nm_mod, xa_shr, xa_and7, xa_and1, xa_and255, xa_by_and, nI_m1, Nat.add_sub_cancel, Nat.reducePow, Nat.zero_add, Nat.add_zero, Nat.reduceAdd, Nat.reduceMul, Nat.reduceSub, xf_same, xq_ff, xq_fo, xf_1, xf_2, xs_1, xs_2, xs_same, xq_so, xj_1, xj_2, xj_same, xq_jo, xq_sa1, xq_same, xq_other, upd_s, oI_n, oI_s, xv_0, xv_1, xv_2, xv_3, xm_p1, xm_p2, xq_fp, xq_fn, List.filter_nil, Nat.reduceBEq, Bool.not_true, Bool.not_false, Bool.and_true, Bool.and_false, Bool.false_and, Bool.true_and, if_true, if_false, Bool.false_eq_true, reduceIte, xc_i, xc_j, xc_r, xc_n, List.nil_append, List.cons_append, Option.toList_some, Option.toList_none]
  refine by_inv2 cn_11 lk_0_73 (by rw [xe_cnt]; decide) is_3 np_3 cn_3 (by first | exact rfl | assumption) (Nat.le_of_ble_eq_true rfl) ?_
  refine sp_gbit (by omega) F33 I33 (by omega) (by omega) (fun h34 G34 c34 n34 F34 I34 e34 v34 => ?_)
  replace v19 := nG_up v19 e34
  replace v30 := nG_up v30 e34
  replace v33 := nG_up v33 e34
  replace v9 := nG_up v9 e34
  replace E := cE_tr E e34
  with_reducible refine xm_go_blk b_X0_divisionStep_213 k_X0_divisionStep_213 ?_
  refine by_aload_n rfl ?_
  refine by_iload_n rfl ?_
  refine by_iload_n rfl ?_
  refine by_inv2 cn_11 lk_0_92 (by rw [xe_cnt]; decide) is_32 np_32 cn_32 (by first | exact rfl | assumption) (Nat.le_of_ble_eq_true rfl) ?_
  refine sp_second F34 I34 (by omega) (by omega) (fun h35 G35 c35 n35 F35 I35 e35 v35 => ?_)
  replace v19 := nG_up v19 e35
  replace v30 := nG_up v30 e35
  replace v33 := nG_up v33 e35
  replace v34 := nG_up v34 e35
  replace v9 := nG_up v9 e35
  replace E := cE_tr E e35
  with_reducible refine xm_go_blk b_X0_divisionStep_219 k_X0_divisionStep_219 ?_
  refine by_inv2 cn_11 lk_0_80 (by rw [xe_cnt]; decide) is_25 np_25 cn_25 (by first | exact rfl | assumption) (Nat.le_of_ble_eq_true rfl) ?_
  refine sp_gpair F35 I35 (by omega) v34 v35 (by omega) (by omega) (fun h36 G36 c36 n36 F36 I36 e36 v36 => ?_)
  replace v19 := nG_up v19 e36
  replace v30 := nG_up v30 e36
  replace v33 := nG_up v33 e36
  replace v9 := nG_up v9 e36
  replace E := cE_tr E e36
  with_reducible refine xm_go_blk b_X0_divisionStep_222 k_X0_divisionStep_222 ?_
  refine by_istore (by rw [ml_11]; decide) ?_
  refine by_aload_n rfl ?_
  refine by_aload_n rfl ?_
  refine by_iconst ci_1 ?_
  refine by_iload rfl ?_
  simp (disch := first | exact Nat.ne_of_beq_eq_false rfl | exact rfl | omega) only [nI_add, xa_sub, xa_mul, pk_div, nm_mod, xa_shr, xa_and7, xa_and1, xa_and255, xa_by_and, nI_m1, Nat.add_sub_cancel, Nat.reducePow, Nat.zero_add, Nat.add_zero, Nat.reduceAdd, Nat.reduceMul, Nat.reduceSub, xf_same, xq_ff, xq_fo, xf_1, xf_2, xs_1, xs_2, xs_same, xq_so, xj_1, xj_2, xj_same, xq_jo, xq_sa1, xq_same, xq_other, upd_s, oI_n, oI_s, xv_0, xv_1, xv_2, xv_3, xm_p1, xm_p2, xq_fp, xq_fn, List.filter_nil, Nat.reduceBEq, Bool.not_true, Bool.not_false, Bool.and_true, Bool.and_false, Bool.false_and, Bool.true_and, if_true, if_false, Bool.false_eq_true, reduceIte, xc_i, xc_j, xc_r, xc_n, List.nil_append, List.cons_append, Option.toList_some, Option.toList_none]
  refine by_inv2 cn_11 lk_0_47 (by rw [xe_cnt]; decide) is_12 np_12 cn_12 (by first | exact rfl | assumption) (Nat.le_of_ble_eq_true rfl) ?_
  refine sp_gdrop F36 I36 (by omega) v33 (by omega) (fun h37 G37 c37 n37 F37 I37 e37 v37 => ?_)
  replace v19 := nG_up v19 e37
  replace v30 := nG_up v30 e37
  replace v33 := nG_up v33 e37
  replace v36 := nG_up v36 e37
  replace v9 := nG_up v9 e37
  replace E := cE_tr E e37
  with_reducible refine xm_go_blk b_X0_divisionStep_232 k_X0_divisionStep_232 ?_
  refine by_aload_n rfl ?_
  refine by_iload rfl ?_
  refine by_iload rfl ?_
  refine by_inv2 cn_11 lk_0_98 (by rw [xe_cnt]; decide) is_6 np_6 cn_6 (by first | exact rfl | assumption) (Nat.le_of_ble_eq_true rfl) ?_
  refine sp_choose F37 I37 (by omega) v36 v33 (by omega) (by omega) (by omega) (fun h38 G38 c38 n38 F38 I38 e38 v38 => ?_)
  replace v19 := nG_up v19 e38
  replace v30 := nG_up v30 e38
  replace v37 := nG_up v37 e38
  replace v9 := nG_up v9 e38
  replace E := cE_tr E e38
  with_reducible refine xm_go_blk b_X0_divisionStep_240 k_X0_divisionStep_240 ?_
  refine by_inv2 cn_11 lk_0_98 (by rw [xe_cnt]; decide) is_6 np_6 cn_6 (by first | exact rfl | assumption) (Nat.le_of_ble_eq_true rfl) ?_
  refine sp_choose F38 I38 (by omega) v37 v38 (by omega) (by omega) (by omega) (fun h39 G39 c39 n39 F39 I39 e39 v39 => ?_)
  replace v19 := nG_up v19 e39
  replace v30 := nG_up v30 e39
  replace v9 := nG_up v9 e39
  replace E := cE_tr E e39
  with_reducible refine xm_go_blk b_X0_divisionStep_243 k_X0_divisionStep_243 ?_
  refine by_istore (by rw [ml_11]; decide) ?_
  refine by_aload_n rfl ?_
  refine by_iload rfl ?_
  refine by_aload_n rfl ?_
  refine by_iload rfl ?_
  refine by_aload_n rfl ?_
  refine by_iload rfl ?_
  refine by_iload rfl ?_
  simp (disch := first | exact Nat.ne_of_beq_eq_false rfl | exact rfl | omega) only [nI_add, xa_sub, xa_mul, pk_div, nm_mod, xa_shr, xa_and7, xa_and1, xa_and255, xa_by_and, nI_m1, Nat.add_sub_cancel, Nat.reducePow, Nat.zero_add, Nat.add_zero, Nat.reduceAdd, Nat.reduceMul, Nat.reduceSub, xf_same, xq_ff, xq_fo, xf_1, xf_2, xs_1, xs_2, xs_same, xq_so, xj_1, xj_2, xj_same, xq_jo, xq_sa1, xq_same, xq_other, upd_s, oI_n, oI_s, xv_0, xv_1, xv_2, xv_3, xm_p1, xm_p2, xq_fp, xq_fn, List.filter_nil, Nat.reduceBEq, Bool.not_true, Bool.not_false, Bool.and_true, Bool.and_false, Bool.false_and, Bool.true_and, if_true, if_false, Bool.false_eq_true, reduceIte, xc_i, xc_j, xc_r, xc_n, List.nil_append, List.cons_append, Option.toList_some, Option.toList_none]
  refine by_inv2 cn_11 lk_0_86 (by rw [xe_cnt]; decide) is_7 np_7 cn_7 (by first | exact rfl | assumption) (Nat.le_of_ble_eq_true rfl) ?_
  refine sp_gcomp F39 I39 (by omega) v30 v39 (by omega) (fun h40 G40 c40 n40 F40 I40 e40 v40 => ?_)
  replace v19 := nG_up v19 e40
  replace v9 := nG_up v9 e40
  replace E := cE_tr E e40
  with_reducible refine xm_go_blk b_X0_divisionStep_259 k_X0_divisionStep_259 ?_
  refine by_inv2 cn_11 lk_0_86 (by rw [xe_cnt]; decide) is_7 np_7 cn_7 (by first | exact rfl | assumption) (Nat.le_of_ble_eq_true rfl) ?_
  refine sp_gcomp F40 I40 (by omega) v19 v40 (by omega) (fun h41 G41 c41 n41 F41 I41 e41 v41 => ?_)
  replace v9 := nG_up v9 e41
  replace E := cE_tr E e41
  with_reducible refine xm_go_blk b_X0_divisionStep_262 k_X0_divisionStep_262 ?_
  refine by_inv2 cn_11 lk_0_86 (by rw [xe_cnt]; decide) is_7 np_7 cn_7 (by first | exact rfl | assumption) (Nat.le_of_ble_eq_true rfl) ?_
  refine sp_gcomp F41 I41 (by omega) v9 v41 (by omega) (fun h42 G42 c42 n42 F42 I42 e42 v42 => ?_)
  replace E := cE_tr E e42
  with_reducible refine xm_go_blk b_X0_divisionStep_265 k_X0_divisionStep_265 ?_
  refine by_iret ry_11 (by first | rfl | assumption) ?_
  with_reducible refine xm_go_blk b_X0_joinedPiece_94 k_X0_joinedPiece_94 ?_
  refine by_iret ry_20 (by first | rfl | assumption) ?_
  refine hp _ _ _ _ F42 (cI_mono I42 (by omega) hm) E ⟨_, nG_cg v42 (by simp only [pS] <;> omega) (by simp only [pT] <;> omega) (fun _ _ => rfl) ?_, ?_⟩
  · subst hw
    rcases (by omega : l = 3 ∨ l = 4 ∨ l = 5 ∨ l = 6) with rfl | rfl | rfl | rfl <;> decide
  · intro c r y hc hr hy
    have eL := s5 c r hc hr
    obtain ⟨t', low, e1, ht, hlow⟩ := li_s1 (x := r ++ c) (a := 1) (b := w) (by simp only [List.length_append]; omega)
    have eS := s16 [0 == 1] low y rfl hlow hy
    obtain ⟨b', df, e2, hb, hdf⟩ := li_s1 (x := bbits (1 + w) (bnum low + 2 ^ (w + 1) - bnum y - bnum [0 == 1])) (a := 1) (b := w) (bbits_len _ _)
    rw [e2] at eS
    rw [e1] at eL
    simp (disch := ((try simp only [List.length_append]); omega)) only [List.append_assoc, li_ka, li_da, li_kb, li_db, li_kw, li_dz, eL, eS]
    obtain ⟨t, rfl⟩ := li_1 ht
    obtain ⟨b, rfl⟩ := li_1 hb
    have key := st_pure hc hr hy hlow hdf e1 e2.symm
    rw [← key]
    cases b <;> cases t <;> rfl
end CD
