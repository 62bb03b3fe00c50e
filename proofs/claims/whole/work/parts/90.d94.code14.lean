/-! ===== definitions of jets: how many 0s stand ahead ===== -/
section CD
variable {sc : xm_Sc} {l : Nat}
theorem bg_17 (hl : l < 6) : BdOK sc 17 (l + 1) := by
  intro r d c m h G J post hP hr hd hF hI hJ hm hp
  rw [pH_e (by omega)] at hr
  have hr' : r = 4 + (l + 1) := hr
  have ho : oc 17 (l + 1) = 43 := (by decide : ∀ l, l < 6 → oc 17 (l + 1) = 43) l hl
  rw [ho] at hm hp
  have hsh := pw_sh l (by omega)
  have hw32 := pw_le hl
  rw [if_neg (by decide), if_neg (by omega)]
  unfold bPo gP at hp
  rw [Nat.pow_succ, Nat.mul_comm] at hp
  obtain ⟨w, hw⟩ : ∃ w, 2 ^ l = w := ⟨_, rfl⟩
  rw [hw] at hsh hw32 hp
  refine xq_in rfl ?_
  simp only [xq_a0, xq_aI, xq_aJ, xq_aR, Nat.reduceAdd]
  have E : cE h G c h G c := cE_rf
  with_reducible refine xm_go_blk b_X0_greaterPiece_0 k_X0_greaterPiece_0 ?_
  refine by_iconst ci_1 ?_
  refine by_iload_n rfl ?_
  refine by_iconst ci_1 ?_
  refine by_isub ?_
  refine by_ishl ?_
  refine by_istore_n (by rw [ml_16]; decide) ?_
  refine by_aload_n rfl ?_
  refine by_iload_n rfl ?_
  refine by_iload_n rfl ?_
  refine by_iconst ci_1 ?_
  refine by_isub ?_
  simp (disch := first | exact Nat.ne_of_beq_eq_false rfl | exact rfl | omega) only [nI_add, xa_sub, xa_mul, pk_div, nm_mod, xa_shr, xa_and7, xa_and1, xa_and255, xa_by_and, nI_m1, Nat.add_sub_cancel, Nat.reducePow, Nat.zero_add, Nat.add_zero, Nat.reduceAdd, Nat.reduceMul, Nat.reduceSub, xf_same, xq_ff, xq_fo, xf_1, xf_2, xs_1, xs_2, xs_same, xq_so, xj_1, xj_2, xj_same, xq_jo, xq_sa1, xq_same, xq_other, upd_s, oI_n, oI_s, xv_0, xv_1, xv_2, xv_3, xm_p1, xm_p2, xq_fp, xq_fn, List.filter_nil, Nat.reduceBEq, Bool.not_true, Bool.not_false, Bool.and_true, Bool.and_false, Bool.false_and, Bool.true_and, if_true, if_false, Bool.false_eq_true, reduceIte, xc_i, xc_j, xc_r, xc_n, List.nil_append, List.cons_append, Option.toList_some, Option.toList_none, hsh]
  refine by_inv2 cn_16 lk_0_83 (by rw [xe_cnt]; decide) is_26 np_26 cn_26 (by first | exact rfl | assumption) (Nat.le_of_ble_eq_true rfl) ?_
  refine sp_pc (a := 4) hP ⟨by omega, by omega, by omega⟩ rfl (by omega) hJ (by omega) hF hI (fun h1 G1 c1 n1 F1 I1 e1 p1 => ?_)
  obtain ⟨f1, v1, s1⟩ := p1
  simp only [pS, pT, pSp, Nat.reducePow, hw] at v1 s1
  replace E := cE_tr E e1
  with_reducible refine xm_go_blk b_X0_greaterPiece_14 k_X0_greaterPiece_14 ?_
  refine by_istore (by rw [ml_16]; decide) ?_
  refine by_iload_n rfl ?_
  simp (disch := first | exact Nat.ne_of_beq_eq_false rfl | exact rfl | omega) only [nI_add, xa_sub, xa_mul, pk_div, nm_mod, xa_shr, xa_and7, xa_and1, xa_and255, xa_by_and, nI_m1, Nat.add_sub_cancel, Nat.reducePow, Nat.zero_add, Nat.add_zero, Nat.reduceAdd, Nat.reduceMul, Nat.reduceSub, xf_same, xq_ff, xq_fo, xf_1, xf_2, xs_1, xs_2, xs_same, xq_so, xj_1, xj_2, xj_same, xq_jo, xq_sa1, xq_same, xq_other, upd_s, oI_n, oI_s, hsh]
  refine by_sw ?_
  simp (disch := first | exact Nat.ne_of_beq_eq_false rfl | exact rfl | omega) only [nI_add, xa_sub, xa_mul, pk_div, nm_mod, xa_shr, xa_and7, xa_and1, xa_and255, xa_by_and, nI_m1, Nat.add_sub_cancel, Nat.reducePow, Nat.zero_add, Nat.add_zero, Nat.reduceAdd, Nat.reduceMul, Nat.reduceSub, xf_same, xq_ff, xq_fo, xf_1, xf_2, xs_1, xs_2, xs_same, xq_so, xj_1, xj_2, xj_same, xq_jo, xq_sa1, xq_same, xq_other, upd_s, oI_n, oI_s, xv_0, xv_1, xv_2, xv_3, xm_p1, xm_p2, xq_fp, xq_fn, List.filter_nil, Nat.reduceBEq, Bool.not_true, Bool.not_false, Bool.and_true, Bool.and_false, Bool.false_and, Bool.true_and, if_true, if_false, Bool.false_eq_true, reduceIte, xc_i, xc_j, xc_r, xc_n, List.nil_append, List.cons_append, Option.toList_some, Option.toList_none, hsh]
  refine xq_sw 381 (by decide) (by decide) ?_
  with_reducible refine xm_go_blk b_X0_greaterPiece_381 k_X0_greaterPiece_381 ?_
  refine by_aload_n rfl ?_
  refine by_iload rfl ?_
  refine by_iload_n rfl ?_
  refine by_iload_n rfl ?_
  refine by_inv3 cn_16 lk_0_145 (by rw [xe_cnt]; decide) is_39 np_39 cn_39 (by first | exact rfl | assumption) (Nat.le_of_ble_eq_true rfl) ?_
  refine xq_in rfl ?_
  simp only [xq_a0, xq_aI, xq_aJ, xq_aR, Nat.reduceAdd]
  with_reducible refine xm_go_blk b_X0_zerosAhead_0 k_X0_zerosAhead_0 ?_
  refine by_aload_n rfl ?_
  refine by_aload_n rfl ?_
  refine by_aload_n rfl ?_
  refine by_iconst ci_0 ?_
  refine by_bipush cb_8 ?_
  refine by_inv2 cn_39 lk_0_73 (by rw [xe_cnt]; decide) is_3 np_3 cn_3 (by first | exact rfl | assumption) (Nat.le_of_ble_eq_true rfl) ?_
  refine sp_gbit (by omega) F1 I1 (by omega) (by omega) (fun h2 G2 c2 n2 F2 I2 e2 v2 => ?_)
  replace v1 := nG_up v1 e2
  replace E := cE_tr E e2
  with_reducible refine xm_go_blk b_X0_zerosAhead_9 k_X0_zerosAhead_9 ?_
  refine by_aload_n rfl ?_
  refine by_aload_n rfl ?_
  refine by_bipush cb_8 ?_
  refine by_inv1 cn_39 lk_0_76 (by rw [xe_cnt]; decide) is_18 np_18 cn_18 (by first | exact rfl | assumption) (Nat.le_of_ble_eq_true rfl) ?_
  refine sp_iden F2 I2 (by omega) (by omega) (fun h3 G3 c3 n3 F3 I3 e3 v3 => ?_)
  replace v1 := nG_up v1 e3
  replace v2 := nG_up v2 e3
  replace E := cE_tr E e3
  with_reducible refine xm_go_blk b_X0_zerosAhead_16 k_X0_zerosAhead_16 ?_
  refine by_aload_n rfl ?_
  refine by_iload_n rfl ?_
  refine by_bipush cb_8 ?_
  refine by_inv2 cn_39 lk_0_156 (by rw [xe_cnt]; decide) is_13 np_13 cn_13 (by first | exact rfl | assumption) (Nat.le_of_ble_eq_true rfl) ?_
  refine sp_eightBits (by omega) F3 I3 (by omega) (by omega) (fun h4 G4 c4 n4 F4 I4 e4 v4 => ?_)
  replace v1 := nG_up v1 e4
  replace v2 := nG_up v2 e4
  replace v3 := nG_up v3 e4
  replace E := cE_tr E e4
  with_reducible refine xm_go_blk b_X0_zerosAhead_23 k_X0_zerosAhead_23 ?_
  refine by_inv2 cn_39 lk_0_80 (by rw [xe_cnt]; decide) is_25 np_25 cn_25 (by first | exact rfl | assumption) (Nat.le_of_ble_eq_true rfl) ?_
  refine sp_gpair F4 I4 (by omega) v3 v4 (by omega) (by omega) (fun h5 G5 c5 n5 F5 I5 e5 v5 => ?_)
  replace v1 := nG_up v1 e5
  replace v2 := nG_up v2 e5
  replace E := cE_tr E e5
  with_reducible refine xm_go_blk b_X0_zerosAhead_26 k_X0_zerosAhead_26 ?_
  refine by_inv2 cn_39 lk_0_80 (by rw [xe_cnt]; decide) is_25 np_25 cn_25 (by first | exact rfl | assumption) (Nat.le_of_ble_eq_true rfl) ?_
  refine sp_gpair F5 I5 (by omega) v2 v5 (by omega) (by omega) (fun h6 G6 c6 n6 F6 I6 e6 v6 => ?_)
  replace v1 := nG_up v1 e6
  replace E := cE_tr E e6
  with_reducible refine xm_go_blk b_X0_zerosAhead_29 k_X0_zerosAhead_29 ?_
  refine by_aload_n rfl ?_
  refine by_inv0 cn_39 lk_0_142 (by rw [xe_cnt]; decide) is_1 np_1 cn_1 (by first | exact rfl | assumption) (Nat.le_of_ble_eq_true rfl) ?_
  refine sp_addedBytes hP (by omega) hJ (by omega) F6 I6 (by omega) (fun f7 s7 h7 G7 c7 n7 F7 I7 e7 v7 => ?_)
  replace v1 := nG_up v1 e7
  replace v6 := nG_up v6 e7
  replace E := cE_tr E e7
  with_reducible refine xm_go_blk b_X0_zerosAhead_33 k_X0_zerosAhead_33 ?_
  refine by_inv2 cn_39 lk_0_86 (by rw [xe_cnt]; decide) is_7 np_7 cn_7 (by first | exact rfl | assumption) (Nat.le_of_ble_eq_true rfl) ?_
  refine sp_gcomp F7 I7 (by omega) v6 v7 (by omega) (fun h8 G8 c8 n8 F8 I8 e8 v8 => ?_)
  replace v1 := nG_up v1 e8
  replace E := cE_tr E e8
  with_reducible refine xm_go_blk b_X0_zerosAhead_36 k_X0_zerosAhead_36 ?_
  refine by_istore (by rw [ml_39]; decide) ?_
  refine by_aload_n rfl ?_
  refine by_aload_n rfl ?_
  refine by_aload_n rfl ?_
  refine by_aload_n rfl ?_
  refine by_iconst ci_4 ?_
  refine by_iload_n rfl ?_
  refine by_iconst ci_1 ?_
  refine by_isub ?_
  simp (disch := first | exact Nat.ne_of_beq_eq_false rfl | exact rfl | omega) only [nI_add, xa_sub, xa_mul, pk_div, nm_mod, xa_shr, xa_and7, xa_and1, xa_and255, xa_by_and, nI_m1, Nat.add_sub_cancel, Nat.reducePow, Nat.zero_add, Nat.add_zero, Nat.reduceAdd, Nat.reduceMul, Nat.reduceSub, xf_same, xq_ff, xq_fo, xf_1, xf_2, xs_1, xs_2, xs_same, xq_so, xj_1, xj_2, xj_same, xq_jo, xq_sa1, xq_same, xq_other, upd_s, oI_n, oI_s, xv_0, xv_1, xv_2, xv_3, xm_p1, xm_p2, xq_fp, xq_fn, List.filter_nil, Nat.reduceBEq, Bool.not_true, Bool.not_false, Bool.and_true, Bool.and_false, Bool.false_and, Bool.true_and, if_true, if_false, Bool.false_eq_true, reduceIte, xc_i, xc_j, xc_r, xc_n, List.nil_append, List.cons_append, Option.toList_some, Option.toList_none, hsh]
  refine by_inv2 cn_39 lk_0_83 (by rw [xe_cnt]; decide) is_26 np_26 cn_26 (by first | exact rfl | assumption) (Nat.le_of_ble_eq_true rfl) ?_
  refine sp_pc (a := 0) hP ⟨by omega, by omega, by omega⟩ rfl (by omega) hJ (by omega) F8 I8 (fun h9 G9 c9 n9 F9 I9 e9 p9 => ?_)
  obtain ⟨f9, v9, s9⟩ := p9
  simp only [pS, pT, pSp, Nat.reducePow, hw] at v9 s9
  replace v9 := nG_cg v9 rfl rfl (fun x hx => s9 x hx) (qle_rf _)
  replace v1 := nG_up v1 e9
  replace v8 := nG_up v8 e9
  replace E := cE_tr E e9
  with_reducible refine xm_go_blk b_X0_zerosAhead_49 k_X0_zerosAhead_49 ?_
  refine by_iload_n rfl ?_
  refine by_inv2 cn_39 lk_0_101 (by rw [xe_cnt]; decide) is_33 np_33 cn_33 (by first | exact rfl | assumption) (Nat.le_of_ble_eq_true rfl) ?_
  refine sp_gtake F9 I9 (by omega) v9 (by omega) (fun h10 G10 c10 n10 F10 I10 e10 v10 => ?_)
  replace v1 := nG_up v1 e10
  replace v8 := nG_up v8 e10
  replace E := cE_tr E e10
  with_reducible refine xm_go_blk b_X0_zerosAhead_53 k_X0_zerosAhead_53 ?_
  refine by_aload_n rfl ?_
  refine by_iconst ci_2 ?_
  refine by_iload_n rfl ?_
  refine by_imul ?_
  simp (disch := first | exact Nat.ne_of_beq_eq_false rfl | exact rfl | omega) only [nI_add, xa_sub, xa_mul, pk_div, nm_mod, xa_shr, xa_and7, xa_and1, xa_and255, xa_by_and, nI_m1, Nat.add_sub_cancel, Nat.reducePow, Nat.zero_add, Nat.add_zero, Nat.reduceAdd, Nat.reduceMul, Nat.reduceSub, xf_same, xq_ff, xq_fo, xf_1, xf_2, xs_1, xs_2, xs_same, xq_so, xj_1, xj_2, xj_same, xq_jo, xq_sa1, xq_same, xq_other, upd_s, oI_n, oI_s, xv_0, xv_1, xv_2, xv_3, xm_p1, xm_p2, xq_fp, xq_fn, List.filter_nil, Nat.reduceBEq, Bool.not_true, Bool.not_false, Bool.and_true, Bool.and_false, Bool.false_and, Bool.true_and, if_true, if_false, Bool.false_eq_true, reduceIte, xc_i, xc_j, xc_r, xc_n, List.nil_append, List.cons_append, Option.toList_some, Option.toList_none, hsh]
  refine by_inv1 cn_39 lk_0_76 (by rw [xe_cnt]; decide) is_18 np_18 cn_18 (by first | exact rfl | assumption) (Nat.le_of_ble_eq_true rfl) ?_
  refine sp_iden F10 I10 (by omega) (by omega) (fun h11 G11 c11 n11 F11 I11 e11 v11 => ?_)
  replace v1 := nG_up v1 e11
  replace v10 := nG_up v10 e11
  replace v8 := nG_up v8 e11
  replace E := cE_tr E e11
  with_reducible refine xm_go_blk b_X0_zerosAhead_60 k_X0_zerosAhead_60 ?_
  refine by_inv2 cn_39 lk_0_80 (by rw [xe_cnt]; decide) is_25 np_25 cn_25 (by first | exact rfl | assumption) (Nat.le_of_ble_eq_true rfl) ?_
  refine sp_gpair F11 I11 (by omega) v10 v11 (by omega) (by omega) (fun h12 G12 c12 n12 F12 I12 e12 v12 => ?_)
  replace v1 := nG_up v1 e12
  replace v8 := nG_up v8 e12
  replace E := cE_tr E e12
  with_reducible refine xm_go_blk b_X0_zerosAhead_63 k_X0_zerosAhead_63 ?_
  refine by_aload_n rfl ?_
  refine by_aload_n rfl ?_
  refine by_iload_n rfl ?_
  refine by_aload_n rfl ?_
  refine by_iload_n rfl ?_
  refine by_iload rfl ?_
  refine by_inv2 cn_39 lk_0_86 (by rw [xe_cnt]; decide) is_7 np_7 cn_7 (by first | exact rfl | assumption) (Nat.le_of_ble_eq_true rfl) ?_
  refine sp_gcomp F12 I12 (by omega) v1 v8 (by omega) (fun h13 G13 c13 n13 F13 I13 e13 v13 => ?_)
  replace v1 := nG_up v1 e13
  replace v12 := nG_up v12 e13
  replace E := cE_tr E e13
  with_reducible refine xm_go_blk b_X0_zerosAhead_73 k_X0_zerosAhead_73 ?_
  refine by_inv2 cn_39 lk_0_47 (by rw [xe_cnt]; decide) is_12 np_12 cn_12 (by first | exact rfl | assumption) (Nat.le_of_ble_eq_true rfl) ?_
  refine sp_gdrop F13 I13 (by omega) v13 (by omega) (fun h14 G14 c14 n14 F14 I14 e14 v14 => ?_)
  replace v1 := nG_up v1 e14
  replace v12 := nG_up v12 e14
  replace E := cE_tr E e14
  with_reducible refine xm_go_blk b_X0_zerosAhead_76 k_X0_zerosAhead_76 ?_
  refine by_aload_n rfl ?_
  refine by_iload_n rfl ?_
  refine by_iload_n rfl ?_
  refine by_inv2 cn_39 lk_0_101 (by rw [xe_cnt]; decide) is_33 np_33 cn_33 (by first | exact rfl | assumption) (Nat.le_of_ble_eq_true rfl) ?_
  refine sp_gtake F14 I14 (by omega) v1 (by omega) (fun h15 G15 c15 n15 F15 I15 e15 v15 => ?_)
  replace v12 := nG_up v12 e15
  replace v14 := nG_up v14 e15
  replace E := cE_tr E e15
  with_reducible refine xm_go_blk b_X0_zerosAhead_82 k_X0_zerosAhead_82 ?_
  refine by_inv2 cn_39 lk_0_98 (by rw [xe_cnt]; decide) is_6 np_6 cn_6 (by first | exact rfl | assumption) (Nat.le_of_ble_eq_true rfl) ?_
  refine sp_choose F15 I15 (by omega) v14 v15 (by omega) (by omega) (by omega) (fun h16 G16 c16 n16 F16 I16 e16 v16 => ?_)
  replace v12 := nG_up v12 e16
  replace E := cE_tr E e16
  with_reducible refine xm_go_blk b_X0_zerosAhead_85 k_X0_zerosAhead_85 ?_
  refine by_inv2 cn_39 lk_0_86 (by rw [xe_cnt]; decide) is_7 np_7 cn_7 (by first | exact rfl | assumption) (Nat.le_of_ble_eq_true rfl) ?_
  refine sp_gcomp F16 I16 (by omega) v12 v16 (by omega) (fun h17 G17 c17 n17 F17 I17 e17 v17 => ?_)
  replace E := cE_tr E e17
  with_reducible refine xm_go_blk b_X0_zerosAhead_88 k_X0_zerosAhead_88 ?_
  refine by_iret ry_39 (by first | rfl | assumption) ?_
  with_reducible refine xm_go_blk b_X0_greaterPiece_389 k_X0_greaterPiece_389 ?_
  refine by_iret ry_16 (by first | rfl | assumption) ?_
  refine hp _ _ _ _ F17 (cI_mono I17 (by omega) hm) E ⟨_, nG_cg v17 (by simp only [pS] <;> omega) (by simp only [pT] <;> omega) (fun _ _ => rfl) ?_, ?_⟩
  · subst hw
    rcases (by omega : l = 0 ∨ l = 1 ∨ l = 2 ∨ l = 3 ∨ l = 4 ∨ l = 5) with rfl | rfl | rfl | rfl | rfl | rfl <;> decide
  · intro x hx
    obtain ⟨x1, x0, rfl, a1, a0⟩ := li_s2 (x := x) (w := w) (by omega)
    rw [lz_app]
    simp only [li_ka a1.symm]
    by_cases e : x1.any id = true
    · rw [if_pos e]
      simp only [e]
      show f1 ((x1 ++ x0).take w) = _
      rw [li_ka a1.symm, s1 x1 a1]
    · have e' : x1.any id = false := by simpa using e
      rw [if_neg e]
      simp only [e']
      show f7 ([0 == 1] ++ (f1 ((x1 ++ x0).drop w) ++ bbits 8 w)) = _
      rw [li_da a1.symm, s1 x0 a0, s7 [0 == 1] _ _ rfl (bbits_len _ _) (bbits_len _ _), bnum_bbits, bnum_bbits, show bnum [0 == 1] = 0 from rfl, a1]
      exact bb_cg (by omega)
end CD
