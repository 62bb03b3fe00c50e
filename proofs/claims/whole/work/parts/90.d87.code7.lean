/-! ===== definitions of jets: quarters ===== -/
section SG
variable {a r : List Bool} {w : Nat}
theorem sg_d1 (h : a.length = w) : (a ++ r).drop w = r := li_da h.symm
theorem sg_t1 (h : a.length = w) : (a ++ r).take w = a := li_ka h.symm
theorem sg_t0 (h : a.length = w) : a.take w = a := li_kw (by omega)
theorem sg_t2 (h : a.length = w) : (a ++ r).take (w + w) = a ++ r.take w := by rw [li_kb (by omega), h, Nat.add_sub_cancel]
theorem sg_d2 (h : a.length = w) : (a ++ r).drop (2 * w) = r.drop w := by rw [li_db (by omega)]; congr 1; omega
theorem sg_d3 (h : a.length = w) : (a ++ r).drop (3 * w) = r.drop (2 * w) := by rw [li_db (by omega)]; congr 1; omega
theorem sg_d4 (h : a.length = w) : (a ++ r).drop (4 * w) = r.drop (3 * w) := by rw [li_db (by omega)]; congr 1; omega
theorem sg_d5 (h : a.length = w) : (a ++ r).drop (5 * w) = r.drop (4 * w) := by rw [li_db (by omega)]; congr 1; omega
theorem sg_d6 (h : a.length = w) : (a ++ r).drop (6 * w) = r.drop (5 * w) := by rw [li_db (by omega)]; congr 1; omega
theorem sg_d7 (h : a.length = w) : (a ++ r).drop (7 * w) = r.drop (6 * w) := by rw [li_db (by omega)]; congr 1; omega
theorem sg_d8 (h : a.length = w) : (a ++ r).drop (8 * w) = r.drop (7 * w) := by rw [li_db (by omega)]; congr 1; omega
theorem sg_d9 (h : a.length = w) : (a ++ r).drop (9 * w) = r.drop (8 * w) := by rw [li_db (by omega)]; congr 1; omega
theorem sg_d10 (h : a.length = w) : (a ++ r).drop (10 * w) = r.drop (9 * w) := by rw [li_db (by omega)]; congr 1; omega
theorem sg_d11 (h : a.length = w) : (a ++ r).drop (11 * w) = r.drop (10 * w) := by rw [li_db (by omega)]; congr 1; omega
theorem sg_d12 (h : a.length = w) : (a ++ r).drop (12 * w) = r.drop (11 * w) := by rw [li_db (by omega)]; congr 1; omega
theorem sg_d13 (h : a.length = w) : (a ++ r).drop (13 * w) = r.drop (12 * w) := by rw [li_db (by omega)]; congr 1; omega
end SG
section CD
variable {sc : xm_Sc} {d c m n s t w : Nat} {f : gFn} {q : gQ} {J : List Nat} {G : Nat → gN} {h : xm_H} {post : xm_Po}
theorem sp_quarter0l (hF : XF h) (hI : cI h G c m J) (hm : m + 3 ≤ 8000) (hw : w ≤ 200) (hp : cPo h G c (m + 3) J (8 * w) w (fun x => (x.drop w).take w) qL post) : xm_T (XE sc) (d + 4) 29 [.ref 22, .int (nI 0), .int (nI 1), .int (nI w)] h post := by
  refine xq_in rfl ?_
  simp only [xq_a0, xq_aI, xq_aJ, xq_aR, Nat.reduceAdd]
  have E : cE h G c h G c := cE_rf
  with_reducible refine xm_go_blk b_X0_quarter_0 k_X0_quarter_0 ?_
  refine by_iload_n rfl ?_
  refine by_if_eq 13 rfl ?_
  simp (disch := first | exact Nat.ne_of_beq_eq_false rfl | exact rfl | omega) only [nI_add, xa_sub, xa_mul, pk_div, nm_mod, xa_shr, xa_and7, xa_and1, xa_and255, xa_by_and, nI_m1, Nat.add_sub_cancel, Nat.reducePow, Nat.zero_add, Nat.add_zero, Nat.reduceAdd, Nat.reduceMul, Nat.reduceSub, xf_same, xq_ff, xq_fo, xf_1, xf_2, xs_1, xs_2, xs_same, xq_so, xj_1, xj_2, xj_same, xq_jo, xq_sa1, xq_same, xq_other, upd_s, oI_n, oI_s, xv_0, xv_1, xv_2, xv_3, xm_p1, xm_p2, xq_fp, xq_fn, List.filter_nil, Nat.reduceBEq, Bool.not_true, Bool.not_false, Bool.and_true, Bool.and_false, Bool.false_and, Bool.true_and, if_true, if_false, Bool.false_eq_true, reduceIte, xc_i, xc_j, xc_r, xc_n, List.nil_append, List.cons_append, Option.toList_some, Option.toList_none, nI_ltJ, nI_leJ, nI_eqJ, nI_ltz, nI_gez, nI_gtz, nI_lez, nI_eqz, m1_ltz, m1_gez, true_imp_iff, false_imp_iff, true_and, and_true, ne_eq, not_false_eq_true, not_true_eq_false, Nat.reduceEqDiff, Nat.reduceLT, Nat.reduceLeDiff, Nat.reduceMod]
  with_reducible refine xm_go_blk b_X0_quarter_4 k_X0_quarter_4 ?_
  refine by_aload_n rfl ?_
  refine by_iload_n rfl ?_
  refine by_iload_n rfl ?_
  refine by_inv2 cn_29 lk_0_92 (by rw [xe_cnt]; decide) is_32 np_32 cn_32 (by first | exact rfl | assumption) (Nat.le_of_ble_eq_true rfl) ?_
  refine sp_second hF hI (by omega) (by omega) (fun h1 G1 c1 n1 F1 I1 e1 v1 => ?_)
  replace E := cE_tr E e1
  with_reducible refine xm_go_blk b_X0_quarter_10 k_X0_quarter_10 ?_
  refine by_goto 19 rfl ?_
  with_reducible refine xm_go_blk b_X0_quarter_19 k_X0_quarter_19 ?_
  refine by_istore (by rw [ml_29]; decide) ?_
  refine by_iload_n rfl ?_
  refine by_iconst ci_1 ?_
  refine by_iand ?_
  refine by_if_ne 39 rfl ?_
  simp (disch := first | exact Nat.ne_of_beq_eq_false rfl | exact rfl | omega) only [nI_add, xa_sub, xa_mul, pk_div, nm_mod, xa_shr, xa_and7, xa_and1, xa_and255, xa_by_and, nI_m1, Nat.add_sub_cancel, Nat.reducePow, Nat.zero_add, Nat.add_zero, Nat.reduceAdd, Nat.reduceMul, Nat.reduceSub, xf_same, xq_ff, xq_fo, xf_1, xf_2, xs_1, xs_2, xs_same, xq_so, xj_1, xj_2, xj_same, xq_jo, xq_sa1, xq_same, xq_other, upd_s, oI_n, oI_s, xv_0, xv_1, xv_2, xv_3, xm_p1, xm_p2, xq_fp, xq_fn, List.filter_nil, Nat.reduceBEq, Bool.not_true, Bool.not_false, Bool.and_true, Bool.and_false, Bool.false_and, Bool.true_and, if_true, if_false, Bool.false_eq_true, reduceIte, xc_i, xc_j, xc_r, xc_n, List.nil_append, List.cons_append, Option.toList_some, Option.toList_none, nI_ltJ, nI_leJ, nI_eqJ, nI_ltz, nI_gez, nI_gtz, nI_lez, nI_eqz, m1_ltz, m1_gez, true_imp_iff, false_imp_iff, true_and, and_true, ne_eq, not_false_eq_true, not_true_eq_false, Nat.reduceEqDiff, Nat.reduceLT, Nat.reduceLeDiff, Nat.reduceMod]
  with_reducible refine xm_go_blk b_X0_quarter_27 k_X0_quarter_27 ?_
  refine by_aload_n rfl ?_
  refine by_iload rfl ?_
  refine by_iconst ci_2 ?_
  refine by_iload_n rfl ?_
  refine by_imul ?_
  simp (disch := first | exact Nat.ne_of_beq_eq_false rfl | exact rfl | omega) only [nI_add, xa_sub, xa_mul, pk_div, nm_mod, xa_shr, xa_and7, xa_and1, xa_and255, xa_by_and, nI_m1, Nat.add_sub_cancel, Nat.reducePow, Nat.zero_add, Nat.add_zero, Nat.reduceAdd, Nat.reduceMul, Nat.reduceSub, xf_same, xq_ff, xq_fo, xf_1, xf_2, xs_1, xs_2, xs_same, xq_so, xj_1, xj_2, xj_same, xq_jo, xq_sa1, xq_same, xq_other, upd_s, oI_n, oI_s, xv_0, xv_1, xv_2, xv_3, xm_p1, xm_p2, xq_fp, xq_fn, List.filter_nil, Nat.reduceBEq, Bool.not_true, Bool.not_false, Bool.and_true, Bool.and_false, Bool.false_and, Bool.true_and, if_true, if_false, Bool.false_eq_true, reduceIte, xc_i, xc_j, xc_r, xc_n, List.nil_append, List.cons_append, Option.toList_some, Option.toList_none, Nat.reduceMod]
  refine by_inv2 cn_29 lk_0_101 (by rw [xe_cnt]; decide) is_33 np_33 cn_33 (by first | exact rfl | assumption) (Nat.le_of_ble_eq_true rfl) ?_
  refine sp_gtake F1 I1 (by omega) v1 (by omega) (fun h2 G2 c2 n2 F2 I2 e2 v2 => ?_)
  replace E := cE_tr E e2
  with_reducible refine xm_go_blk b_X0_quarter_36 k_X0_quarter_36 ?_
  refine by_goto 48 rfl ?_
  with_reducible refine xm_go_blk b_X0_quarter_48 k_X0_quarter_48 ?_
  refine by_istore (by rw [ml_29]; decide) ?_
  refine by_iload_n rfl ?_
  refine by_iconst ci_2 ?_
  refine by_ic_ge 67 rfl ?_
  simp (disch := first | exact Nat.ne_of_beq_eq_false rfl | exact rfl | omega) only [nI_add, xa_sub, xa_mul, pk_div, nm_mod, xa_shr, xa_and7, xa_and1, xa_and255, xa_by_and, nI_m1, Nat.add_sub_cancel, Nat.reducePow, Nat.zero_add, Nat.add_zero, Nat.reduceAdd, Nat.reduceMul, Nat.reduceSub, xf_same, xq_ff, xq_fo, xf_1, xf_2, xs_1, xs_2, xs_same, xq_so, xj_1, xj_2, xj_same, xq_jo, xq_sa1, xq_same, xq_other, upd_s, oI_n, oI_s, xv_0, xv_1, xv_2, xv_3, xm_p1, xm_p2, xq_fp, xq_fn, List.filter_nil, Nat.reduceBEq, Bool.not_true, Bool.not_false, Bool.and_true, Bool.and_false, Bool.false_and, Bool.true_and, if_true, if_false, Bool.false_eq_true, reduceIte, xc_i, xc_j, xc_r, xc_n, List.nil_append, List.cons_append, Option.toList_some, Option.toList_none, nI_ltJ, nI_leJ, nI_eqJ, nI_ltz, nI_gez, nI_gtz, nI_lez, nI_eqz, m1_ltz, m1_gez, true_imp_iff, false_imp_iff, true_and, and_true, ne_eq, not_false_eq_true, not_true_eq_false, Nat.reduceEqDiff, Nat.reduceLT, Nat.reduceLeDiff, Nat.reduceMod]
  with_reducible refine xm_go_blk b_X0_quarter_55 k_X0_quarter_55 ?_
  refine by_aload_n rfl ?_
  refine by_iload rfl ?_
  refine by_iconst ci_4 ?_
  refine by_iload_n rfl ?_
  refine by_imul ?_
  simp (disch := first | exact Nat.ne_of_beq_eq_false rfl | exact rfl | omega) only [nI_add, xa_sub, xa_mul, pk_div, nm_mod, xa_shr, xa_and7, xa_and1, xa_and255, xa_by_and, nI_m1, Nat.add_sub_cancel, Nat.reducePow, Nat.zero_add, Nat.add_zero, Nat.reduceAdd, Nat.reduceMul, Nat.reduceSub, xf_same, xq_ff, xq_fo, xf_1, xf_2, xs_1, xs_2, xs_same, xq_so, xj_1, xj_2, xj_same, xq_jo, xq_sa1, xq_same, xq_other, upd_s, oI_n, oI_s, xv_0, xv_1, xv_2, xv_3, xm_p1, xm_p2, xq_fp, xq_fn, List.filter_nil, Nat.reduceBEq, Bool.not_true, Bool.not_false, Bool.and_true, Bool.and_false, Bool.false_and, Bool.true_and, if_true, if_false, Bool.false_eq_true, reduceIte, xc_i, xc_j, xc_r, xc_n, List.nil_append, List.cons_append, Option.toList_some, Option.toList_none, Nat.reduceMod]
  refine by_inv2 cn_29 lk_0_101 (by rw [xe_cnt]; decide) is_33 np_33 cn_33 (by first | exact rfl | assumption) (Nat.le_of_ble_eq_true rfl) ?_
  refine sp_gtake F2 I2 (by omega) v2 (by omega) (fun h3 G3 c3 n3 F3 I3 e3 v3 => ?_)
  replace E := cE_tr E e3
  with_reducible refine xm_go_blk b_X0_quarter_64 k_X0_quarter_64 ?_
  refine by_goto 76 rfl ?_
  with_reducible refine xm_go_blk b_X0_quarter_76 k_X0_quarter_76 ?_
  refine by_iret ry_29 (by first | rfl | assumption) ?_
  refine hp _ _ _ _ F3 I3 E (nG_cg v3 (by omega) (by omega) (fun x hx => ?_) (qle_rf _))
  show ((x.take (w + w + 2 * w)).take (w + w)).drop w = (x.drop w).take w
  rw [li_tt (by omega), List.drop_take, Nat.add_sub_cancel]
theorem sp_quarter0h (hF : XF h) (hI : cI h G c m J) (hm : m + 3 ≤ 8000) (hw : w ≤ 200) (hp : cPo h G c (m + 3) J (8 * w) w (fun x => x.take w) qL post) : xm_T (XE sc) (d + 4) 29 [.ref 22, .int (nI 0), .int (nI 0), .int (nI w)] h post := by
  refine xq_in rfl ?_
  simp only [xq_a0, xq_aI, xq_aJ, xq_aR, Nat.reduceAdd]
  have E : cE h G c h G c := cE_rf
  with_reducible refine xm_go_blk b_X0_quarter_0 k_X0_quarter_0 ?_
  refine by_iload_n rfl ?_
  refine by_if_eq 13 rfl ?_
  simp (disch := first | exact Nat.ne_of_beq_eq_false rfl | exact rfl | omega) only [nI_add, xa_sub, xa_mul, pk_div, nm_mod, xa_shr, xa_and7, xa_and1, xa_and255, xa_by_and, nI_m1, Nat.add_sub_cancel, Nat.reducePow, Nat.zero_add, Nat.add_zero, Nat.reduceAdd, Nat.reduceMul, Nat.reduceSub, xf_same, xq_ff, xq_fo, xf_1, xf_2, xs_1, xs_2, xs_same, xq_so, xj_1, xj_2, xj_same, xq_jo, xq_sa1, xq_same, xq_other, upd_s, oI_n, oI_s, xv_0, xv_1, xv_2, xv_3, xm_p1, xm_p2, xq_fp, xq_fn, List.filter_nil, Nat.reduceBEq, Bool.not_true, Bool.not_false, Bool.and_true, Bool.and_false, Bool.false_and, Bool.true_and, if_true, if_false, Bool.false_eq_true, reduceIte, xc_i, xc_j, xc_r, xc_n, List.nil_append, List.cons_append, Option.toList_some, Option.toList_none, nI_ltJ, nI_leJ, nI_eqJ, nI_ltz, nI_gez, nI_gtz, nI_lez, nI_eqz, m1_ltz, m1_gez, true_imp_iff, false_imp_iff, true_and, and_true, ne_eq, not_false_eq_true, not_true_eq_false, Nat.reduceEqDiff, Nat.reduceLT, Nat.reduceLeDiff, Nat.reduceMod]
  with_reducible refine xm_go_blk b_X0_quarter_13 k_X0_quarter_13 ?_
  refine by_aload_n rfl ?_
  refine by_iload_n rfl ?_
  refine by_iload_n rfl ?_
  refine by_inv2 cn_29 lk_0_95 (by rw [xe_cnt]; decide) is_15 np_15 cn_15 (by first | exact rfl | assumption) (Nat.le_of_ble_eq_true rfl) ?_
  refine sp_first hF hI (by omega) (by omega) (fun h1 G1 c1 n1 F1 I1 e1 v1 => ?_)
  replace E := cE_tr E e1
  with_reducible refine xm_go_blk b_X0_quarter_19 k_X0_quarter_19 ?_
  refine by_istore (by rw [ml_29]; decide) ?_
  refine by_iload_n rfl ?_
  refine by_iconst ci_1 ?_
  refine by_iand ?_
  refine by_if_ne 39 rfl ?_
  simp (disch := first | exact Nat.ne_of_beq_eq_false rfl | exact rfl | omega) only [nI_add, xa_sub, xa_mul, pk_div, nm_mod, xa_shr, xa_and7, xa_and1, xa_and255, xa_by_and, nI_m1, Nat.add_sub_cancel, Nat.reducePow, Nat.zero_add, Nat.add_zero, Nat.reduceAdd, Nat.reduceMul, Nat.reduceSub, xf_same, xq_ff, xq_fo, xf_1, xf_2, xs_1, xs_2, xs_same, xq_so, xj_1, xj_2, xj_same, xq_jo, xq_sa1, xq_same, xq_other, upd_s, oI_n, oI_s, xv_0, xv_1, xv_2, xv_3, xm_p1, xm_p2, xq_fp, xq_fn, List.filter_nil, Nat.reduceBEq, Bool.not_true, Bool.not_false, Bool.and_true, Bool.and_false, Bool.false_and, Bool.true_and, if_true, if_false, Bool.false_eq_true, reduceIte, xc_i, xc_j, xc_r, xc_n, List.nil_append, List.cons_append, Option.toList_some, Option.toList_none, nI_ltJ, nI_leJ, nI_eqJ, nI_ltz, nI_gez, nI_gtz, nI_lez, nI_eqz, m1_ltz, m1_gez, true_imp_iff, false_imp_iff, true_and, and_true, ne_eq, not_false_eq_true, not_true_eq_false, Nat.reduceEqDiff, Nat.reduceLT, Nat.reduceLeDiff, Nat.reduceMod]
  with_reducible refine xm_go_blk b_X0_quarter_27 k_X0_quarter_27 ?_
  refine by_aload_n rfl ?_
  refine by_iload rfl ?_
  refine by_iconst ci_2 ?_
  refine by_iload_n rfl ?_
  refine by_imul ?_
  simp (disch := first | exact Nat.ne_of_beq_eq_false rfl | exact rfl | omega) only [nI_add, xa_sub, xa_mul, pk_div, nm_mod, xa_shr, xa_and7, xa_and1, xa_and255, xa_by_and, nI_m1, Nat.add_sub_cancel, Nat.reducePow, Nat.zero_add, Nat.add_zero, Nat.reduceAdd, Nat.reduceMul, Nat.reduceSub, xf_same, xq_ff, xq_fo, xf_1, xf_2, xs_1, xs_2, xs_same, xq_so, xj_1, xj_2, xj_same, xq_jo, xq_sa1, xq_same, xq_other, upd_s, oI_n, oI_s, xv_0, xv_1, xv_2, xv_3, xm_p1, xm_p2, xq_fp, xq_fn, List.filter_nil, Nat.reduceBEq, Bool.not_true, Bool.not_false, Bool.and_true, Bool.and_false, Bool.false_and, Bool.true_and, if_true, if_false, Bool.false_eq_true, reduceIte, xc_i, xc_j, xc_r, xc_n, List.nil_append, List.cons_append, Option.toList_some, Option.toList_none, Nat.reduceMod]
  refine by_inv2 cn_29 lk_0_101 (by rw [xe_cnt]; decide) is_33 np_33 cn_33 (by first | exact rfl | assumption) (Nat.le_of_ble_eq_true rfl) ?_
  refine sp_gtake F1 I1 (by omega) v1 (by omega) (fun h2 G2 c2 n2 F2 I2 e2 v2 => ?_)
  replace E := cE_tr E e2
  with_reducible refine xm_go_blk b_X0_quarter_36 k_X0_quarter_36 ?_
  refine by_goto 48 rfl ?_
  with_reducible refine xm_go_blk b_X0_quarter_48 k_X0_quarter_48 ?_
  refine by_istore (by rw [ml_29]; decide) ?_
  refine by_iload_n rfl ?_
  refine by_iconst ci_2 ?_
  refine by_ic_ge 67 rfl ?_
  simp (disch := first | exact Nat.ne_of_beq_eq_false rfl | exact rfl | omega) only [nI_add, xa_sub, xa_mul, pk_div, nm_mod, xa_shr, xa_and7, xa_and1, xa_and255, xa_by_and, nI_m1, Nat.add_sub_cancel, Nat.reducePow, Nat.zero_add, Nat.add_zero, Nat.reduceAdd, Nat.reduceMul, Nat.reduceSub, xf_same, xq_ff, xq_fo, xf_1, xf_2, xs_1, xs_2, xs_same, xq_so, xj_1, xj_2, xj_same, xq_jo, xq_sa1, xq_same, xq_other, upd_s, oI_n, oI_s, xv_0, xv_1, xv_2, xv_3, xm_p1, xm_p2, xq_fp, xq_fn, List.filter_nil, Nat.reduceBEq, Bool.not_true, Bool.not_false, Bool.and_true, Bool.and_false, Bool.false_and, Bool.true_and, if_true, if_false, Bool.false_eq_true, reduceIte, xc_i, xc_j, xc_r, xc_n, List.nil_append, List.cons_append, Option.toList_some, Option.toList_none, nI_ltJ, nI_leJ, nI_eqJ, nI_ltz, nI_gez, nI_gtz, nI_lez, nI_eqz, m1_ltz, m1_gez, true_imp_iff, false_imp_iff, true_and, and_true, ne_eq, not_false_eq_true, not_true_eq_false, Nat.reduceEqDiff, Nat.reduceLT, Nat.reduceLeDiff, Nat.reduceMod]
  with_reducible refine xm_go_blk b_X0_quarter_55 k_X0_quarter_55 ?_
  refine by_aload_n rfl ?_
  refine by_iload rfl ?_
  refine by_iconst ci_4 ?_
  refine by_iload_n rfl ?_
  refine by_imul ?_
  simp (disch := first | exact Nat.ne_of_beq_eq_false rfl | exact rfl | omega) only [nI_add, xa_sub, xa_mul, pk_div, nm_mod, xa_shr, xa_and7, xa_and1, xa_and255, xa_by_and, nI_m1, Nat.add_sub_cancel, Nat.reducePow, Nat.zero_add, Nat.add_zero, Nat.reduceAdd, Nat.reduceMul, Nat.reduceSub, xf_same, xq_ff, xq_fo, xf_1, xf_2, xs_1, xs_2, xs_same, xq_so, xj_1, xj_2, xj_same, xq_jo, xq_sa1, xq_same, xq_other, upd_s, oI_n, oI_s, xv_0, xv_1, xv_2, xv_3, xm_p1, xm_p2, xq_fp, xq_fn, List.filter_nil, Nat.reduceBEq, Bool.not_true, Bool.not_false, Bool.and_true, Bool.and_false, Bool.false_and, Bool.true_and, if_true, if_false, Bool.false_eq_true, reduceIte, xc_i, xc_j, xc_r, xc_n, List.nil_append, List.cons_append, Option.toList_some, Option.toList_none, Nat.reduceMod]
  refine by_inv2 cn_29 lk_0_101 (by rw [xe_cnt]; decide) is_33 np_33 cn_33 (by first | exact rfl | assumption) (Nat.le_of_ble_eq_true rfl) ?_
  refine sp_gtake F2 I2 (by omega) v2 (by omega) (fun h3 G3 c3 n3 F3 I3 e3 v3 => ?_)
  replace E := cE_tr E e3
  with_reducible refine xm_go_blk b_X0_quarter_64 k_X0_quarter_64 ?_
  refine by_goto 76 rfl ?_
  with_reducible refine xm_go_blk b_X0_quarter_76 k_X0_quarter_76 ?_
  refine by_iret ry_29 (by first | rfl | assumption) ?_
  refine hp _ _ _ _ F3 I3 E (nG_cg v3 (by omega) (by omega) (fun x hx => ?_) (qle_rf _))
  show ((x.take (w + w + 2 * w)).take (w + w)).take w = x.take w
  rw [li_tt (by omega), li_tt (by omega)]
theorem sp_quarter1l (hF : XF h) (hI : cI h G c m J) (hm : m + 3 ≤ 8000) (hw : w ≤ 200) (hp : cPo h G c (m + 3) J (8 * w) w (fun x => (x.drop (3 * w)).take w) (qD qL) post) : xm_T (XE sc) (d + 4) 29 [.ref 22, .int (nI 1), .int (nI 1), .int (nI w)] h post := by
  refine xq_in rfl ?_
  simp only [xq_a0, xq_aI, xq_aJ, xq_aR, Nat.reduceAdd]
  have E : cE h G c h G c := cE_rf
  with_reducible refine xm_go_blk b_X0_quarter_0 k_X0_quarter_0 ?_
  refine by_iload_n rfl ?_
  refine by_if_eq 13 rfl ?_
  simp (disch := first | exact Nat.ne_of_beq_eq_false rfl | exact rfl | omega) only [nI_add, xa_sub, xa_mul, pk_div, nm_mod, xa_shr, xa_and7, xa_and1, xa_and255, xa_by_and, nI_m1, Nat.add_sub_cancel, Nat.reducePow, Nat.zero_add, Nat.add_zero, Nat.reduceAdd, Nat.reduceMul, Nat.reduceSub, xf_same, xq_ff, xq_fo, xf_1, xf_2, xs_1, xs_2, xs_same, xq_so, xj_1, xj_2, xj_same, xq_jo, xq_sa1, xq_same, xq_other, upd_s, oI_n, oI_s, xv_0, xv_1, xv_2, xv_3, xm_p1, xm_p2, xq_fp, xq_fn, List.filter_nil, Nat.reduceBEq, Bool.not_true, Bool.not_false, Bool.and_true, Bool.and_false, Bool.false_and, Bool.true_and, if_true, if_false, Bool.false_eq_true, reduceIte, xc_i, xc_j, xc_r, xc_n, List.nil_append, List.cons_append, Option.toList_some, Option.toList_none, nI_ltJ, nI_leJ, nI_eqJ, nI_ltz, nI_gez, nI_gtz, nI_lez, nI_eqz, m1_ltz, m1_gez, true_imp_iff, false_imp_iff, true_and, and_true, ne_eq, not_false_eq_true, not_true_eq_false, Nat.reduceEqDiff, Nat.reduceLT, Nat.reduceLeDiff, Nat.reduceMod]
  with_reducible refine xm_go_blk b_X0_quarter_4 k_X0_quarter_4 ?_
  refine by_aload_n rfl ?_
  refine by_iload_n rfl ?_
  refine by_iload_n rfl ?_
  refine by_inv2 cn_29 lk_0_92 (by rw [xe_cnt]; decide) is_32 np_32 cn_32 (by first | exact rfl | assumption) (Nat.le_of_ble_eq_true rfl) ?_
  refine sp_second hF hI (by omega) (by omega) (fun h1 G1 c1 n1 F1 I1 e1 v1 => ?_)
  replace E := cE_tr E e1
  with_reducible refine xm_go_blk b_X0_quarter_10 k_X0_quarter_10 ?_
  refine by_goto 19 rfl ?_
  with_reducible refine xm_go_blk b_X0_quarter_19 k_X0_quarter_19 ?_
  refine by_istore (by rw [ml_29]; decide) ?_
  refine by_iload_n rfl ?_
  refine by_iconst ci_1 ?_
  refine by_iand ?_
  refine by_if_ne 39 rfl ?_
  simp (disch := first | exact Nat.ne_of_beq_eq_false rfl | exact rfl | omega) only [nI_add, xa_sub, xa_mul, pk_div, nm_mod, xa_shr, xa_and7, xa_and1, xa_and255, xa_by_and, nI_m1, Nat.add_sub_cancel, Nat.reducePow, Nat.zero_add, Nat.add_zero, Nat.reduceAdd, Nat.reduceMul, Nat.reduceSub, xf_same, xq_ff, xq_fo, xf_1, xf_2, xs_1, xs_2, xs_same, xq_so, xj_1, xj_2, xj_same, xq_jo, xq_sa1, xq_same, xq_other, upd_s, oI_n, oI_s, xv_0, xv_1, xv_2, xv_3, xm_p1, xm_p2, xq_fp, xq_fn, List.filter_nil, Nat.reduceBEq, Bool.not_true, Bool.not_false, Bool.and_true, Bool.and_false, Bool.false_and, Bool.true_and, if_true, if_false, Bool.false_eq_true, reduceIte, xc_i, xc_j, xc_r, xc_n, List.nil_append, List.cons_append, Option.toList_some, Option.toList_none, nI_ltJ, nI_leJ, nI_eqJ, nI_ltz, nI_gez, nI_gtz, nI_lez, nI_eqz, m1_ltz, m1_gez, true_imp_iff, false_imp_iff, true_and, and_true, ne_eq, not_false_eq_true, not_true_eq_false, Nat.reduceEqDiff, Nat.reduceLT, Nat.reduceLeDiff, Nat.reduceMod]
  with_reducible refine xm_go_blk b_X0_quarter_39 k_X0_quarter_39 ?_
  refine by_aload_n rfl ?_
  refine by_iconst ci_2 ?_
  refine by_iload_n rfl ?_
  refine by_imul ?_
  refine by_iload rfl ?_
  simp (disch := first | exact Nat.ne_of_beq_eq_false rfl | exact rfl | omega) only [nI_add, xa_sub, xa_mul, pk_div, nm_mod, xa_shr, xa_and7, xa_and1, xa_and255, xa_by_and, nI_m1, Nat.add_sub_cancel, Nat.reducePow, Nat.zero_add, Nat.add_zero, Nat.reduceAdd, Nat.reduceMul, Nat.reduceSub, xf_same, xq_ff, xq_fo, xf_1, xf_2, xs_1, xs_2, xs_same, xq_so, xj_1, xj_2, xj_same, xq_jo, xq_sa1, xq_same, xq_other, upd_s, oI_n, oI_s, xv_0, xv_1, xv_2, xv_3, xm_p1, xm_p2, xq_fp, xq_fn, List.filter_nil, Nat.reduceBEq, Bool.not_true, Bool.not_false, Bool.and_true, Bool.and_false, Bool.false_and, Bool.true_and, if_true, if_false, Bool.false_eq_true, reduceIte, xc_i, xc_j, xc_r, xc_n, List.nil_append, List.cons_append, Option.toList_some, Option.toList_none, Nat.reduceMod]
  refine by_inv2 cn_29 lk_0_47 (by rw [xe_cnt]; decide) is_12 np_12 cn_12 (by first | exact rfl | assumption) (Nat.le_of_ble_eq_true rfl) ?_
  refine sp_gdrop F1 I1 (by omega) v1 (by omega) (fun h2 G2 c2 n2 F2 I2 e2 v2 => ?_)
  replace E := cE_tr E e2
  with_reducible refine xm_go_blk b_X0_quarter_48 k_X0_quarter_48 ?_
  refine by_istore (by rw [ml_29]; decide) ?_
  refine by_iload_n rfl ?_
  refine by_iconst ci_2 ?_
  refine by_ic_ge 67 rfl ?_
  simp (disch := first | exact Nat.ne_of_beq_eq_false rfl | exact rfl | omega) only [nI_add, xa_sub, xa_mul, pk_div, nm_mod, xa_shr, xa_and7, xa_and1, xa_and255, xa_by_and, nI_m1, Nat.add_sub_cancel, Nat.reducePow, Nat.zero_add, Nat.add_zero, Nat.reduceAdd, Nat.reduceMul, Nat.reduceSub, xf_same, xq_ff, xq_fo, xf_1, xf_2, xs_1, xs_2, xs_same, xq_so, xj_1, xj_2, xj_same, xq_jo, xq_sa1, xq_same, xq_other, upd_s, oI_n, oI_s, xv_0, xv_1, xv_2, xv_3, xm_p1, xm_p2, xq_fp, xq_fn, List.filter_nil, Nat.reduceBEq, Bool.not_true, Bool.not_false, Bool.and_true, Bool.and_false, Bool.false_and, Bool.true_and, if_true, if_false, Bool.false_eq_true, reduceIte, xc_i, xc_j, xc_r, xc_n, List.nil_append, List.cons_append, Option.toList_some, Option.toList_none, nI_ltJ, nI_leJ, nI_eqJ, nI_ltz, nI_gez, nI_gtz, nI_lez, nI_eqz, m1_ltz, m1_gez, true_imp_iff, false_imp_iff, true_and, and_true, ne_eq, not_false_eq_true, not_true_eq_false, Nat.reduceEqDiff, Nat.reduceLT, Nat.reduceLeDiff, Nat.reduceMod]
  with_reducible refine xm_go_blk b_X0_quarter_55 k_X0_quarter_55 ?_
  refine by_aload_n rfl ?_
  refine by_iload rfl ?_
  refine by_iconst ci_4 ?_
  refine by_iload_n rfl ?_
  refine by_imul ?_
  simp (disch := first | exact Nat.ne_of_beq_eq_false rfl | exact rfl | omega) only [nI_add, xa_sub, xa_mul, pk_div, nm_mod, xa_shr, xa_and7, xa_and1, xa_and255, xa_by_and, nI_m1, Nat.add_sub_cancel, Nat.reducePow, Nat.zero_add, Nat.add_zero, Nat.reduceAdd, Nat.reduceMul, Nat.reduceSub, xf_same, xq_ff, xq_fo, xf_1, xf_2, xs_1, xs_2, xs_same, xq_so, xj_1, xj_2, xj_same, xq_jo, xq_sa1, xq_same, xq_other, upd_s, oI_n, oI_s, xv_0, xv_1, xv_2, xv_3, xm_p1, xm_p2, xq_fp, xq_fn, List.filter_nil, Nat.reduceBEq, Bool.not_true, Bool.not_false, Bool.and_true, Bool.and_false, Bool.false_and, Bool.true_and, if_true, if_false, Bool.false_eq_true, reduceIte, xc_i, xc_j, xc_r, xc_n, List.nil_append, List.cons_append, Option.toList_some, Option.toList_none, Nat.reduceMod]
  refine by_inv2 cn_29 lk_0_101 (by rw [xe_cnt]; decide) is_33 np_33 cn_33 (by first | exact rfl | assumption) (Nat.le_of_ble_eq_true rfl) ?_
  refine sp_gtake F2 I2 (by omega) v2 (by omega) (fun h3 G3 c3 n3 F3 I3 e3 v3 => ?_)
  replace E := cE_tr E e3
  with_reducible refine xm_go_blk b_X0_quarter_64 k_X0_quarter_64 ?_
  refine by_goto 76 rfl ?_
  with_reducible refine xm_go_blk b_X0_quarter_76 k_X0_quarter_76 ?_
  refine by_iret ry_29 (by first | rfl | assumption) ?_
  refine hp _ _ _ _ F3 I3 E (nG_cg v3 (by omega) (by omega) (fun x hx => ?_) (qle_rf _))
  show ((x.take (2 * w + (w + w))).drop (2 * w)).drop w = (x.drop (3 * w)).take w
  rw [List.drop_drop, List.drop_take, show 2 * w + (w + w) - (2 * w + w) = w by omega, show 2 * w + w = 3 * w by omega]
theorem sp_quarter1h (hF : XF h) (hI : cI h G c m J) (hm : m + 3 ≤ 8000) (hw : w ≤ 200) (hp : cPo h G c (m + 3) J (8 * w) w (fun x => (x.drop (2 * w)).take w) (qD qL) post) : xm_T (XE sc) (d + 4) 29 [.ref 22, .int (nI 1), .int (nI 0), .int (nI w)] h post := by
  refine xq_in rfl ?_
  simp only [xq_a0, xq_aI, xq_aJ, xq_aR, Nat.reduceAdd]
  have E : cE h G c h G c := cE_rf
  with_reducible refine xm_go_blk b_X0_quarter_0 k_X0_quarter_0 ?_
  refine by_iload_n rfl ?_
  refine by_if_eq 13 rfl ?_
  simp (disch := first | exact Nat.ne_of_beq_eq_false rfl | exact rfl | omega) only [nI_add, xa_sub, xa_mul, pk_div, nm_mod, xa_shr, xa_and7, xa_and1, xa_and255, xa_by_and, nI_m1, Nat.add_sub_cancel, Nat.reducePow, Nat.zero_add, Nat.add_zero, Nat.reduceAdd, Nat.reduceMul, Nat.reduceSub, xf_same, xq_ff, xq_fo, xf_1, xf_2, xs_1, xs_2, xs_same, xq_so, xj_1, xj_2, xj_same, xq_jo, xq_sa1, xq_same, xq_other, upd_s, oI_n, oI_s, xv_0, xv_1, xv_2, xv_3, xm_p1, xm_p2, xq_fp, xq_fn, List.filter_nil, Nat.reduceBEq, Bool.not_true, Bool.not_false, Bool.and_true, Bool.and_false, Bool.false_and, Bool.true_and, if_true, if_false, Bool.false_eq_true, reduceIte, xc_i, xc_j, xc_r, xc_n, List.nil_append, List.cons_append, Option.toList_some, Option.toList_none, nI_ltJ, nI_leJ, nI_eqJ, nI_ltz, nI_gez, nI_gtz, nI_lez, nI_eqz, m1_ltz, m1_gez, true_imp_iff, false_imp_iff, true_and, and_true, ne_eq, not_false_eq_true, not_true_eq_false, Nat.reduceEqDiff, Nat.reduceLT, Nat.reduceLeDiff, Nat.reduceMod]
  with_reducible refine xm_go_blk b_X0_quarter_13 k_X0_quarter_13 ?_
  refine by_aload_n rfl ?_
  refine by_iload_n rfl ?_
  refine by_iload_n rfl ?_
  refine by_inv2 cn_29 lk_0_95 (by rw [xe_cnt]; decide) is_15 np_15 cn_15 (by first | exact rfl | assumption) (Nat.le_of_ble_eq_true rfl) ?_
  refine sp_first hF hI (by omega) (by omega) (fun h1 G1 c1 n1 F1 I1 e1 v1 => ?_)
  replace E := cE_tr E e1
  with_reducible refine xm_go_blk b_X0_quarter_19 k_X0_quarter_19 ?_
  refine by_istore (by rw [ml_29]; decide) ?_
  refine by_iload_n rfl ?_
  refine by_iconst ci_1 ?_
  refine by_iand ?_
  refine by_if_ne 39 rfl ?_
  simp (disch := first | exact Nat.ne_of_beq_eq_false rfl | exact rfl | omega) only [nI_add, xa_sub, xa_mul, pk_div, nm_mod, xa_shr, xa_and7, xa_and1, xa_and255, xa_by_and, nI_m1, Nat.add_sub_cancel, Nat.reducePow, Nat.zero_add, Nat.add_zero, Nat.reduceAdd, Nat.reduceMul, Nat.reduceSub, xf_same, xq_ff, xq_fo, xf_1, xf_2, xs_1, xs_2, xs_same, xq_so, xj_1, xj_2, xj_same, xq_jo, xq_sa1, xq_same, xq_other, upd_s, oI_n, oI_s, xv_0, xv_1, xv_2, xv_3, xm_p1, xm_p2, xq_fp, xq_fn, List.filter_nil, Nat.reduceBEq, Bool.not_true, Bool.not_false, Bool.and_true, Bool.and_false, Bool.false_and, Bool.true_and, if_true, if_false, Bool.false_eq_true, reduceIte, xc_i, xc_j, xc_r, xc_n, List.nil_append, List.cons_append, Option.toList_some, Option.toList_none, nI_ltJ, nI_leJ, nI_eqJ, nI_ltz, nI_gez, nI_gtz, nI_lez, nI_eqz, m1_ltz, m1_gez, true_imp_iff, false_imp_iff, true_and, and_true, ne_eq, not_false_eq_true, not_true_eq_false, Nat.reduceEqDiff, Nat.reduceLT, Nat.reduceLeDiff, Nat.reduceMod]
  with_reducible refine xm_go_blk b_X0_quarter_39 k_X0_quarter_39 ?_
  refine by_aload_n rfl ?_
  refine by_iconst ci_2 ?_
  refine by_iload_n rfl ?_
  refine by_imul ?_
  refine by_iload rfl ?_
  simp (disch := first | exact Nat.ne_of_beq_eq_false rfl | exact rfl | omega) only [nI_add, xa_sub, xa_mul, pk_div, nm_mod, xa_shr, xa_and7, xa_and1, xa_and255, xa_by_and, nI_m1, Nat.add_sub_cancel, Nat.reducePow, Nat.zero_add, Nat.add_zero, Nat.reduceAdd, Nat.reduceMul, Nat.reduceSub, xf_same, xq_ff, xq_fo, xf_1, xf_2, xs_1, xs_2, xs_same, xq_so, xj_1, xj_2, xj_same, xq_jo, xq_sa1, xq_same, xq_other, upd_s, oI_n, oI_s, xv_0, xv_1, xv_2, xv_3, xm_p1, xm_p2, xq_fp, xq_fn, List.filter_nil, Nat.reduceBEq, Bool.not_true, Bool.not_false, Bool.and_true, Bool.and_false, Bool.false_and, Bool.true_and, if_true, if_false, Bool.false_eq_true, reduceIte, xc_i, xc_j, xc_r, xc_n, List.nil_append, List.cons_append, Option.toList_some, Option.toList_none, Nat.reduceMod]
  refine by_inv2 cn_29 lk_0_47 (by rw [xe_cnt]; decide) is_12 np_12 cn_12 (by first | exact rfl | assumption) (Nat.le_of_ble_eq_true rfl) ?_
  refine sp_gdrop F1 I1 (by omega) v1 (by omega) (fun h2 G2 c2 n2 F2 I2 e2 v2 => ?_)
  replace E := cE_tr E e2
  with_reducible refine xm_go_blk b_X0_quarter_48 k_X0_quarter_48 ?_
  refine by_istore (by rw [ml_29]; decide) ?_
  refine by_iload_n rfl ?_
  refine by_iconst ci_2 ?_
  refine by_ic_ge 67 rfl ?_
  simp (disch := first | exact Nat.ne_of_beq_eq_false rfl | exact rfl | omega) only [nI_add, xa_sub, xa_mul, pk_div, nm_mod, xa_shr, xa_and7, xa_and1, xa_and255, xa_by_and, nI_m1, Nat.add_sub_cancel, Nat.reducePow, Nat.zero_add, Nat.add_zero, Nat.reduceAdd, Nat.reduceMul, Nat.reduceSub, xf_same, xq_ff, xq_fo, xf_1, xf_2, xs_1, xs_2, xs_same, xq_so, xj_1, xj_2, xj_same, xq_jo, xq_sa1, xq_same, xq_other, upd_s, oI_n, oI_s, xv_0, xv_1, xv_2, xv_3, xm_p1, xm_p2, xq_fp, xq_fn, List.filter_nil, Nat.reduceBEq, Bool.not_true, Bool.not_false, Bool.and_true, Bool.and_false, Bool.false_and, Bool.true_and, if_true, if_false, Bool.false_eq_true, reduceIte, xc_i, xc_j, xc_r, xc_n, List.nil_append, List.cons_append, Option.toList_some, Option.toList_none, nI_ltJ, nI_leJ, nI_eqJ, nI_ltz, nI_gez, nI_gtz, nI_lez, nI_eqz, m1_ltz, m1_gez, true_imp_iff, false_imp_iff, true_and, and_true, ne_eq, not_false_eq_true, not_true_eq_false, Nat.reduceEqDiff, Nat.reduceLT, Nat.reduceLeDiff, Nat.reduceMod]
  with_reducible refine xm_go_blk b_X0_quarter_55 k_X0_quarter_55 ?_
  refine by_aload_n rfl ?_
  refine by_iload rfl ?_
  refine by_iconst ci_4 ?_
  refine by_iload_n rfl ?_
  refine by_imul ?_
  simp (disch := first | exact Nat.ne_of_beq_eq_false rfl | exact rfl | omega) only [nI_add, xa_sub, xa_mul, pk_div, nm_mod, xa_shr, xa_and7, xa_and1, xa_and255, xa_by_and, nI_m1, Nat.add_sub_cancel, Nat.reducePow, Nat.zero_add, Nat.add_zero, Nat.reduceAdd, Nat.reduceMul, Nat.reduceSub, xf_same, xq_ff, xq_fo, xf_1, xf_2, xs_1, xs_2, xs_same, xq_so, xj_1, xj_2, xj_same, xq_jo, xq_sa1, xq_same, xq_other, upd_s, oI_n, oI_s, xv_0, xv_1, xv_2, xv_3, xm_p1, xm_p2, xq_fp, xq_fn, List.filter_nil, Nat.reduceBEq, Bool.not_true, Bool.not_false, Bool.and_true, Bool.and_false, Bool.false_and, Bool.true_and, if_true, if_false, Bool.false_eq_true, reduceIte, xc_i, xc_j, xc_r, xc_n, List.nil_append, List.cons_append, Option.toList_some, Option.toList_none, Nat.reduceMod]
  refine by_inv2 cn_29 lk_0_101 (by rw [xe_cnt]; decide) is_33 np_33 cn_33 (by first | exact rfl | assumption) (Nat.le_of_ble_eq_true rfl) ?_
  refine sp_gtake F2 I2 (by omega) v2 (by omega) (fun h3 G3 c3 n3 F3 I3 e3 v3 => ?_)
  replace E := cE_tr E e3
  with_reducible refine xm_go_blk b_X0_quarter_64 k_X0_quarter_64 ?_
  refine by_goto 76 rfl ?_
  with_reducible refine xm_go_blk b_X0_quarter_76 k_X0_quarter_76 ?_
  refine by_iret ry_29 (by first | rfl | assumption) ?_
  refine hp _ _ _ _ F3 I3 E (nG_cg v3 (by omega) (by omega) (fun x hx => ?_) (qle_rf _))
  show ((x.take (2 * w + (w + w))).drop (2 * w)).take w = (x.drop (2 * w)).take w
  exact li_td (by omega)
theorem sp_quarter2l (hF : XF h) (hI : cI h G c m J) (hm : m + 3 ≤ 8000) (hw : w ≤ 200) (hp : cPo h G c (m + 3) J (8 * w) w (fun x => (x.drop (5 * w)).take w) (qD qL) post) : xm_T (XE sc) (d + 4) 29 [.ref 22, .int (nI 2), .int (nI 1), .int (nI w)] h post := by
  refine xq_in rfl ?_
  simp only [xq_a0, xq_aI, xq_aJ, xq_aR, Nat.reduceAdd]
  have E : cE h G c h G c := cE_rf
  with_reducible refine xm_go_blk b_X0_quarter_0 k_X0_quarter_0 ?_
  refine by_iload_n rfl ?_
  refine by_if_eq 13 rfl ?_
  simp (disch := first | exact Nat.ne_of_beq_eq_false rfl | exact rfl | omega) only [nI_add, xa_sub, xa_mul, pk_div, nm_mod, xa_shr, xa_and7, xa_and1, xa_and255, xa_by_and, nI_m1, Nat.add_sub_cancel, Nat.reducePow, Nat.zero_add, Nat.add_zero, Nat.reduceAdd, Nat.reduceMul, Nat.reduceSub, xf_same, xq_ff, xq_fo, xf_1, xf_2, xs_1, xs_2, xs_same, xq_so, xj_1, xj_2, xj_same, xq_jo, xq_sa1, xq_same, xq_other, upd_s, oI_n, oI_s, xv_0, xv_1, xv_2, xv_3, xm_p1, xm_p2, xq_fp, xq_fn, List.filter_nil, Nat.reduceBEq, Bool.not_true, Bool.not_false, Bool.and_true, Bool.and_false, Bool.false_and, Bool.true_and, if_true, if_false, Bool.false_eq_true, reduceIte, xc_i, xc_j, xc_r, xc_n, List.nil_append, List.cons_append, Option.toList_some, Option.toList_none, nI_ltJ, nI_leJ, nI_eqJ, nI_ltz, nI_gez, nI_gtz, nI_lez, nI_eqz, m1_ltz, m1_gez, true_imp_iff, false_imp_iff, true_and, and_true, ne_eq, not_false_eq_true, not_true_eq_false, Nat.reduceEqDiff, Nat.reduceLT, Nat.reduceLeDiff, Nat.reduceMod]
  with_reducible refine xm_go_blk b_X0_quarter_4 k_X0_quarter_4 ?_
  refine by_aload_n rfl ?_
  refine by_iload_n rfl ?_
  refine by_iload_n rfl ?_
  refine by_inv2 cn_29 lk_0_92 (by rw [xe_cnt]; decide) is_32 np_32 cn_32 (by first | exact rfl | assumption) (Nat.le_of_ble_eq_true rfl) ?_
  refine sp_second hF hI (by omega) (by omega) (fun h1 G1 c1 n1 F1 I1 e1 v1 => ?_)
  replace E := cE_tr E e1
  with_reducible refine xm_go_blk b_X0_quarter_10 k_X0_quarter_10 ?_
  refine by_goto 19 rfl ?_
  with_reducible refine xm_go_blk b_X0_quarter_19 k_X0_quarter_19 ?_
  refine by_istore (by rw [ml_29]; decide) ?_
  refine by_iload_n rfl ?_
  refine by_iconst ci_1 ?_
  refine by_iand ?_
  refine by_if_ne 39 rfl ?_
  simp (disch := first | exact Nat.ne_of_beq_eq_false rfl | exact rfl | omega) only [nI_add, xa_sub, xa_mul, pk_div, nm_mod, xa_shr, xa_and7, xa_and1, xa_and255, xa_by_and, nI_m1, Nat.add_sub_cancel, Nat.reducePow, Nat.zero_add, Nat.add_zero, Nat.reduceAdd, Nat.reduceMul, Nat.reduceSub, xf_same, xq_ff, xq_fo, xf_1, xf_2, xs_1, xs_2, xs_same, xq_so, xj_1, xj_2, xj_same, xq_jo, xq_sa1, xq_same, xq_other, upd_s, oI_n, oI_s, xv_0, xv_1, xv_2, xv_3, xm_p1, xm_p2, xq_fp, xq_fn, List.filter_nil, Nat.reduceBEq, Bool.not_true, Bool.not_false, Bool.and_true, Bool.and_false, Bool.false_and, Bool.true_and, if_true, if_false, Bool.false_eq_true, reduceIte, xc_i, xc_j, xc_r, xc_n, List.nil_append, List.cons_append, Option.toList_some, Option.toList_none, nI_ltJ, nI_leJ, nI_eqJ, nI_ltz, nI_gez, nI_gtz, nI_lez, nI_eqz, m1_ltz, m1_gez, true_imp_iff, false_imp_iff, true_and, and_true, ne_eq, not_false_eq_true, not_true_eq_false, Nat.reduceEqDiff, Nat.reduceLT, Nat.reduceLeDiff, Nat.reduceMod]
  with_reducible refine xm_go_blk b_X0_quarter_27 k_X0_quarter_27 ?_
  refine by_aload_n rfl ?_
  refine by_iload rfl ?_
  refine by_iconst ci_2 ?_
  refine by_iload_n rfl ?_
  refine by_imul ?_
  simp (disch := first | exact Nat.ne_of_beq_eq_false rfl | exact rfl | omega) only [nI_add, xa_sub, xa_mul, pk_div, nm_mod, xa_shr, xa_and7, xa_and1, xa_and255, xa_by_and, nI_m1, Nat.add_sub_cancel, Nat.reducePow, Nat.zero_add, Nat.add_zero, Nat.reduceAdd, Nat.reduceMul, Nat.reduceSub, xf_same, xq_ff, xq_fo, xf_1, xf_2, xs_1, xs_2, xs_same, xq_so, xj_1, xj_2, xj_same, xq_jo, xq_sa1, xq_same, xq_other, upd_s, oI_n, oI_s, xv_0, xv_1, xv_2, xv_3, xm_p1, xm_p2, xq_fp, xq_fn, List.filter_nil, Nat.reduceBEq, Bool.not_true, Bool.not_false, Bool.and_true, Bool.and_false, Bool.false_and, Bool.true_and, if_true, if_false, Bool.false_eq_true, reduceIte, xc_i, xc_j, xc_r, xc_n, List.nil_append, List.cons_append, Option.toList_some, Option.toList_none, Nat.reduceMod]
  refine by_inv2 cn_29 lk_0_101 (by rw [xe_cnt]; decide) is_33 np_33 cn_33 (by first | exact rfl | assumption) (Nat.le_of_ble_eq_true rfl) ?_
  refine sp_gtake F1 I1 (by omega) v1 (by omega) (fun h2 G2 c2 n2 F2 I2 e2 v2 => ?_)
  replace E := cE_tr E e2
  with_reducible refine xm_go_blk b_X0_quarter_36 k_X0_quarter_36 ?_
  refine by_goto 48 rfl ?_
  with_reducible refine xm_go_blk b_X0_quarter_48 k_X0_quarter_48 ?_
  refine by_istore (by rw [ml_29]; decide) ?_
  refine by_iload_n rfl ?_
  refine by_iconst ci_2 ?_
  refine by_ic_ge 67 rfl ?_
  simp (disch := first | exact Nat.ne_of_beq_eq_false rfl | exact rfl | omega) only [nI_add, xa_sub, xa_mul, pk_div, nm_mod, xa_shr, xa_and7, xa_and1, xa_and255, xa_by_and, nI_m1, Nat.add_sub_cancel, Nat.reducePow, Nat.zero_add, Nat.add_zero, Nat.reduceAdd, Nat.reduceMul, Nat.reduceSub, xf_same, xq_ff, xq_fo, xf_1, xf_2, xs_1, xs_2, xs_same, xq_so, xj_1, xj_2, xj_same, xq_jo, xq_sa1, xq_same, xq_other, upd_s, oI_n, oI_s, xv_0, xv_1, xv_2, xv_3, xm_p1, xm_p2, xq_fp, xq_fn, List.filter_nil, Nat.reduceBEq, Bool.not_true, Bool.not_false, Bool.and_true, Bool.and_false, Bool.false_and, Bool.true_and, if_true, if_false, Bool.false_eq_true, reduceIte, xc_i, xc_j, xc_r, xc_n, List.nil_append, List.cons_append, Option.toList_some, Option.toList_none, nI_ltJ, nI_leJ, nI_eqJ, nI_ltz, nI_gez, nI_gtz, nI_lez, nI_eqz, m1_ltz, m1_gez, true_imp_iff, false_imp_iff, true_and, and_true, ne_eq, not_false_eq_true, not_true_eq_false, Nat.reduceEqDiff, Nat.reduceLT, Nat.reduceLeDiff, Nat.reduceMod]
  with_reducible refine xm_go_blk b_X0_quarter_67 k_X0_quarter_67 ?_
  refine by_aload_n rfl ?_
  refine by_iconst ci_4 ?_
  refine by_iload_n rfl ?_
  refine by_imul ?_
  refine by_iload rfl ?_
  simp (disch := first | exact Nat.ne_of_beq_eq_false rfl | exact rfl | omega) only [nI_add, xa_sub, xa_mul, pk_div, nm_mod, xa_shr, xa_and7, xa_and1, xa_and255, xa_by_and, nI_m1, Nat.add_sub_cancel, Nat.reducePow, Nat.zero_add, Nat.add_zero, Nat.reduceAdd, Nat.reduceMul, Nat.reduceSub, xf_same, xq_ff, xq_fo, xf_1, xf_2, xs_1, xs_2, xs_same, xq_so, xj_1, xj_2, xj_same, xq_jo, xq_sa1, xq_same, xq_other, upd_s, oI_n, oI_s, xv_0, xv_1, xv_2, xv_3, xm_p1, xm_p2, xq_fp, xq_fn, List.filter_nil, Nat.reduceBEq, Bool.not_true, Bool.not_false, Bool.and_true, Bool.and_false, Bool.false_and, Bool.true_and, if_true, if_false, Bool.false_eq_true, reduceIte, xc_i, xc_j, xc_r, xc_n, List.nil_append, List.cons_append, Option.toList_some, Option.toList_none, Nat.reduceMod]
  refine by_inv2 cn_29 lk_0_47 (by rw [xe_cnt]; decide) is_12 np_12 cn_12 (by first | exact rfl | assumption) (Nat.le_of_ble_eq_true rfl) ?_
  refine sp_gdrop F2 I2 (by omega) v2 (by omega) (fun h3 G3 c3 n3 F3 I3 e3 v3 => ?_)
  replace E := cE_tr E e3
  with_reducible refine xm_go_blk b_X0_quarter_76 k_X0_quarter_76 ?_
  refine by_iret ry_29 (by first | rfl | assumption) ?_
  refine hp _ _ _ _ F3 I3 E (nG_cg v3 (by omega) (by omega) (fun x hx => ?_) (qle_rf _))
  show ((x.drop (4 * w)).take (w + w)).drop w = (x.drop (5 * w)).take w
  rw [List.drop_take, List.drop_drop, Nat.add_sub_cancel, show 4 * w + w = 5 * w by omega]
theorem sp_quarter2h (hF : XF h) (hI : cI h G c m J) (hm : m + 3 ≤ 8000) (hw : w ≤ 200) (hp : cPo h G c (m + 3) J (8 * w) w (fun x => (x.drop (4 * w)).take w) (qD qL) post) : xm_T (XE sc) (d + 4) 29 [.ref 22, .int (nI 2), .int (nI 0), .int (nI w)] h post := by
  refine xq_in rfl ?_
  simp only [xq_a0, xq_aI, xq_aJ, xq_aR, Nat.reduceAdd]
  have E : cE h G c h G c := cE_rf
  with_reducible refine xm_go_blk b_X0_quarter_0 k_X0_quarter_0 ?_
  refine by_iload_n rfl ?_
  refine by_if_eq 13 rfl ?_
  simp (disch := first | exact Nat.ne_of_beq_eq_false rfl | exact rfl | omega) only [nI_add, xa_sub, xa_mul, pk_div, nm_mod, xa_shr, xa_and7, xa_and1, xa_and255, xa_by_and, nI_m1, Nat.add_sub_cancel, Nat.reducePow, Nat.zero_add, Nat.add_zero, Nat.reduceAdd, Nat.reduceMul, Nat.reduceSub, xf_same, xq_ff, xq_fo, xf_1, xf_2, xs_1, xs_2, xs_same, xq_so, xj_1, xj_2, xj_same, xq_jo, xq_sa1, xq_same, xq_other, upd_s, oI_n, oI_s, xv_0, xv_1, xv_2, xv_3, xm_p1, xm_p2, xq_fp, xq_fn, List.filter_nil, Nat.reduceBEq, Bool.not_true, Bool.not_false, Bool.and_true, Bool.and_false, Bool.false_and, Bool.true_and, if_true, if_false, Bool.false_eq_true, reduceIte, xc_i, xc_j, xc_r, xc_n, List.nil_append, List.cons_append, Option.toList_some, Option.toList_none, nI_ltJ, nI_leJ, nI_eqJ, nI_ltz, nI_gez, nI_gtz, nI_lez, nI_eqz, m1_ltz, m1_gez, true_imp_iff, false_imp_iff, true_and, and_true, ne_eq, not_false_eq_true, not_true_eq_false, Nat.reduceEqDiff, Nat.reduceLT, Nat.reduceLeDiff, Nat.reduceMod]
  with_reducible refine xm_go_blk b_X0_quarter_13 k_X0_quarter_13 ?_
  refine by_aload_n rfl ?_
  refine by_iload_n rfl ?_
  refine by_iload_n rfl ?_
  refine by_inv2 cn_29 lk_0_95 (by rw [xe_cnt]; decide) is_15 np_15 cn_15 (by first | exact rfl | assumption) (Nat.le_of_ble_eq_true rfl) ?_
  refine sp_first hF hI (by omega) (by omega) (fun h1 G1 c1 n1 F1 I1 e1 v1 => ?_)
  replace E := cE_tr E e1
  with_reducible refine xm_go_blk b_X0_quarter_19 k_X0_quarter_19 ?_
  refine by_istore (by rw [ml_29]; decide) ?_
  refine by_iload_n rfl ?_
  refine by_iconst ci_1 ?_
  refine by_iand ?_
  refine by_if_ne 39 rfl ?_
  simp (disch := first | exact Nat.ne_of_beq_eq_false rfl | exact rfl | omega) only [nI_add, xa_sub, xa_mul, pk_div, nm_mod, xa_shr, xa_and7, xa_and1, xa_and255, xa_by_and, nI_m1, Nat.add_sub_cancel, Nat.reducePow, Nat.zero_add, Nat.add_zero, Nat.reduceAdd, Nat.reduceMul, Nat.reduceSub, xf_same, xq_ff, xq_fo, xf_1, xf_2, xs_1, xs_2, xs_same, xq_so, xj_1, xj_2, xj_same, xq_jo, xq_sa1, xq_same, xq_other, upd_s, oI_n, oI_s, xv_0, xv_1, xv_2, xv_3, xm_p1, xm_p2, xq_fp, xq_fn, List.filter_nil, Nat.reduceBEq, Bool.not_true, Bool.not_false, Bool.and_true, Bool.and_false, Bool.false_and, Bool.true_and, if_true, if_false, Bool.false_eq_true, reduceIte, xc_i, xc_j, xc_r, xc_n, List.nil_append, List.cons_append, Option.toList_some, Option.toList_none, nI_ltJ, nI_leJ, nI_eqJ, nI_ltz, nI_gez, nI_gtz, nI_lez, nI_eqz, m1_ltz, m1_gez, true_imp_iff, false_imp_iff, true_and, and_true, ne_eq, not_false_eq_true, not_true_eq_false, Nat.reduceEqDiff, Nat.reduceLT, Nat.reduceLeDiff, Nat.reduceMod]
  with_reducible refine xm_go_blk b_X0_quarter_27 k_X0_quarter_27 ?_
  refine by_aload_n rfl ?_
  refine by_iload rfl ?_
  refine by_iconst ci_2 ?_
  refine by_iload_n rfl ?_
  refine by_imul ?_
  simp (disch := first | exact Nat.ne_of_beq_eq_false rfl | exact rfl | omega) only [nI_add, xa_sub, xa_mul, pk_div, nm_mod, xa_shr, xa_and7, xa_and1, xa_and255, xa_by_and, nI_m1, Nat.add_sub_cancel, Nat.reducePow, Nat.zero_add, Nat.add_zero, Nat.reduceAdd, Nat.reduceMul, Nat.reduceSub, xf_same, xq_ff, xq_fo, xf_1, xf_2, xs_1, xs_2, xs_same, xq_so, xj_1, xj_2, xj_same, xq_jo, xq_sa1, xq_same, xq_other, upd_s, oI_n, oI_s, xv_0, xv_1, xv_2, xv_3, xm_p1, xm_p2, xq_fp, xq_fn, List.filter_nil, Nat.reduceBEq, Bool.not_true, Bool.not_false, Bool.and_true, Bool.and_false, Bool.false_and, Bool.true_and, if_true, if_false, Bool.false_eq_true, reduceIte, xc_i, xc_j, xc_r, xc_n, List.nil_append, List.cons_append, Option.toList_some, Option.toList_none, Nat.reduceMod]
  refine by_inv2 cn_29 lk_0_101 (by rw [xe_cnt]; decide) is_33 np_33 cn_33 (by first | exact rfl | assumption) (Nat.le_of_ble_eq_true rfl) ?_
  refine sp_gtake F1 I1 (by omega) v1 (by omega) (fun h2 G2 c2 n2 F2 I2 e2 v2 => ?_)
  replace E := cE_tr E e2
  with_reducible refine xm_go_blk b_X0_quarter_36 k_X0_quarter_36 ?_
  refine by_goto 48 rfl ?_
  with_reducible refine xm_go_blk b_X0_quarter_48 k_X0_quarter_48 ?_
  refine by_istore (by rw [ml_29]; decide) ?_
  refine by_iload_n rfl ?_
  refine by_iconst ci_2 ?_
  refine by_ic_ge 67 rfl ?_
  simp (disch := first | exact Nat.ne_of_beq_eq_false rfl | exact rfl | omega) only [nI_add, xa_sub, xa_mul, pk_div, nm_mod, xa_shr, xa_and7, xa_and1, xa_and255, xa_by_and, nI_m1, Nat.add_sub_cancel, Nat.reducePow, Nat.zero_add, Nat.add_zero, Nat.reduceAdd, Nat.reduceMul, Nat.reduceSub, xf_same, xq_ff, xq_fo, xf_1, xf_2, xs_1, xs_2, xs_same, xq_so, xj_1, xj_2, xj_same, xq_jo, xq_sa1, xq_same, xq_other, upd_s, oI_n, oI_s, xv_0, xv_1, xv_2, xv_3, xm_p1, xm_p2, xq_fp, xq_fn, List.filter_nil, Nat.reduceBEq, Bool.not_true, Bool.not_false, Bool.and_true, Bool.and_false, Bool.false_and, Bool.true_and, if_true, if_false, Bool.false_eq_true, reduceIte, xc_i, xc_j, xc_r, xc_n, List.nil_append, List.cons_append, Option.toList_some, Option.toList_none, nI_ltJ, nI_leJ, nI_eqJ, nI_ltz, nI_gez, nI_gtz, nI_lez, nI_eqz, m1_ltz, m1_gez, true_imp_iff, false_imp_iff, true_and, and_true, ne_eq, not_false_eq_true, not_true_eq_false, Nat.reduceEqDiff, Nat.reduceLT, Nat.reduceLeDiff, Nat.reduceMod]
  with_reducible refine xm_go_blk b_X0_quarter_67 k_X0_quarter_67 ?_
  refine by_aload_n rfl ?_
  refine by_iconst ci_4 ?_
  refine by_iload_n rfl ?_
  refine by_imul ?_
  refine by_iload rfl ?_
  simp (disch := first | exact Nat.ne_of_beq_eq_false rfl | exact rfl | omega) only [nI_add, xa_sub, xa_mul, pk_div, nm_mod, xa_shr, xa_and7, xa_and1, xa_and255, xa_by_and, nI_m1, Nat.add_sub_cancel, Nat.reducePow, Nat.zero_add, Nat.add_zero, Nat.reduceAdd, Nat.reduceMul, Nat.reduceSub, xf_same, xq_ff, xq_fo, xf_1, xf_2, xs_1, xs_2, xs_same, xq_so, xj_1, xj_2, xj_same, xq_jo, xq_sa1, xq_same, xq_other, upd_s, oI_n, oI_s, xv_0, xv_1, xv_2, xv_3, xm_p1, xm_p2, xq_fp, xq_fn, List.filter_nil, Nat.reduceBEq, Bool.not_true, Bool.not_false, Bool.and_true, Bool.and_false, Bool.false_and, Bool.true_and, if_true, if_false, Bool.false_eq_true, reduceIte, xc_i, xc_j, xc_r, xc_n, List.nil_append, List.cons_append, Option.toList_some, Option.toList_none, Nat.reduceMod]
  refine by_inv2 cn_29 lk_0_47 (by rw [xe_cnt]; decide) is_12 np_12 cn_12 (by first | exact rfl | assumption) (Nat.le_of_ble_eq_true rfl) ?_
  refine sp_gdrop F2 I2 (by omega) v2 (by omega) (fun h3 G3 c3 n3 F3 I3 e3 v3 => ?_)
  replace E := cE_tr E e3
  with_reducible refine xm_go_blk b_X0_quarter_76 k_X0_quarter_76 ?_
  refine by_iret ry_29 (by first | rfl | assumption) ?_
  refine hp _ _ _ _ F3 I3 E (nG_cg v3 (by omega) (by omega) (fun x hx => ?_) (qle_rf _))
  show ((x.drop (4 * w)).take (w + w)).take w = (x.drop (4 * w)).take w
  exact li_tt (by omega)
theorem sp_quarter3l (hF : XF h) (hI : cI h G c m J) (hm : m + 3 ≤ 8000) (hw : w ≤ 200) (hp : cPo h G c (m + 3) J (8 * w) w (fun x => (x.drop (7 * w)).take w) (qD (qD qL)) post) : xm_T (XE sc) (d + 4) 29 [.ref 22, .int (nI 3), .int (nI 1), .int (nI w)] h post := by
  refine xq_in rfl ?_
  simp only [xq_a0, xq_aI, xq_aJ, xq_aR, Nat.reduceAdd]
  have E : cE h G c h G c := cE_rf
  with_reducible refine xm_go_blk b_X0_quarter_0 k_X0_quarter_0 ?_
  refine by_iload_n rfl ?_
  refine by_if_eq 13 rfl ?_
  simp (disch := first | exact Nat.ne_of_beq_eq_false rfl | exact rfl | omega) only [nI_add, xa_sub, xa_mul, pk_div, nm_mod, xa_shr, xa_and7, xa_and1, xa_and255, xa_by_and, nI_m1, Nat.add_sub_cancel, Nat.reducePow, Nat.zero_add, Nat.add_zero, Nat.reduceAdd, Nat.reduceMul, Nat.reduceSub, xf_same, xq_ff, xq_fo, xf_1, xf_2, xs_1, xs_2, xs_same, xq_so, xj_1, xj_2, xj_same, xq_jo, xq_sa1, xq_same, xq_other, upd_s, oI_n, oI_s, xv_0, xv_1, xv_2, xv_3, xm_p1, xm_p2, xq_fp, xq_fn, List.filter_nil, Nat.reduceBEq, Bool.not_true, Bool.not_false, Bool.and_true, Bool.and_false, Bool.false_and, Bool.true_and, if_true, if_false, Bool.false_eq_true, reduceIte, xc_i, xc_j, xc_r, xc_n, List.nil_append, List.cons_append, Option.toList_some, Option.toList_none, nI_ltJ, nI_leJ, nI_eqJ, nI_ltz, nI_gez, nI_gtz, nI_lez, nI_eqz, m1_ltz, m1_gez, true_imp_iff, false_imp_iff, true_and, and_true, ne_eq, not_false_eq_true, not_true_eq_false, Nat.reduceEqDiff, Nat.reduceLT, Nat.reduceLeDiff, Nat.reduceMod]
  with_reducible refine xm_go_blk b_X0_quarter_4 k_X0_quarter_4 ?_
  refine by_aload_n rfl ?_
  refine by_iload_n rfl ?_
  refine by_iload_n rfl ?_
  refine by_inv2 cn_29 lk_0_92 (by rw [xe_cnt]; decide) is_32 np_32 cn_32 (by first | exact rfl | assumption) (Nat.le_of_ble_eq_true rfl) ?_
  refine sp_second hF hI (by omega) (by omega) (fun h1 G1 c1 n1 F1 I1 e1 v1 => ?_)
  replace E := cE_tr E e1
  with_reducible refine xm_go_blk b_X0_quarter_10 k_X0_quarter_10 ?_
  refine by_goto 19 rfl ?_
  with_reducible refine xm_go_blk b_X0_quarter_19 k_X0_quarter_19 ?_
  refine by_istore (by rw [ml_29]; decide) ?_
  refine by_iload_n rfl ?_
  refine by_iconst ci_1 ?_
  refine by_iand ?_
  refine by_if_ne 39 rfl ?_
  simp (disch := first | exact Nat.ne_of_beq_eq_false rfl | exact rfl | omega) only [nI_add, xa_sub, xa_mul, pk_div, nm_mod, xa_shr, xa_and7, xa_and1, xa_and255, xa_by_and, nI_m1, Nat.add_sub_cancel, Nat.reducePow, Nat.zero_add, Nat.add_zero, Nat.reduceAdd, Nat.reduceMul, Nat.reduceSub, xf_same, xq_ff, xq_fo, xf_1, xf_2, xs_1, xs_2, xs_same, xq_so, xj_1, xj_2, xj_same, xq_jo, xq_sa1, xq_same, xq_other, upd_s, oI_n, oI_s, xv_0, xv_1, xv_2, xv_3, xm_p1, xm_p2, xq_fp, xq_fn, List.filter_nil, Nat.reduceBEq, Bool.not_true, Bool.not_false, Bool.and_true, Bool.and_false, Bool.false_and, Bool.true_and, if_true, if_false, Bool.false_eq_true, reduceIte, xc_i, xc_j, xc_r, xc_n, List.nil_append, List.cons_append, Option.toList_some, Option.toList_none, nI_ltJ, nI_leJ, nI_eqJ, nI_ltz, nI_gez, nI_gtz, nI_lez, nI_eqz, m1_ltz, m1_gez, true_imp_iff, false_imp_iff, true_and, and_true, ne_eq, not_false_eq_true, not_true_eq_false, Nat.reduceEqDiff, Nat.reduceLT, Nat.reduceLeDiff, Nat.reduceMod]
  with_reducible refine xm_go_blk b_X0_quarter_39 k_X0_quarter_39 ?_
  refine by_aload_n rfl ?_
  refine by_iconst ci_2 ?_
  refine by_iload_n rfl ?_
  refine by_imul ?_
  refine by_iload rfl ?_
  simp (disch := first | exact Nat.ne_of_beq_eq_false rfl | exact rfl | omega) only [nI_add, xa_sub, xa_mul, pk_div, nm_mod, xa_shr, xa_and7, xa_and1, xa_and255, xa_by_and, nI_m1, Nat.add_sub_cancel, Nat.reducePow, Nat.zero_add, Nat.add_zero, Nat.reduceAdd, Nat.reduceMul, Nat.reduceSub, xf_same, xq_ff, xq_fo, xf_1, xf_2, xs_1, xs_2, xs_same, xq_so, xj_1, xj_2, xj_same, xq_jo, xq_sa1, xq_same, xq_other, upd_s, oI_n, oI_s, xv_0, xv_1, xv_2, xv_3, xm_p1, xm_p2, xq_fp, xq_fn, List.filter_nil, Nat.reduceBEq, Bool.not_true, Bool.not_false, Bool.and_true, Bool.and_false, Bool.false_and, Bool.true_and, if_true, if_false, Bool.false_eq_true, reduceIte, xc_i, xc_j, xc_r, xc_n, List.nil_append, List.cons_append, Option.toList_some, Option.toList_none, Nat.reduceMod]
  refine by_inv2 cn_29 lk_0_47 (by rw [xe_cnt]; decide) is_12 np_12 cn_12 (by first | exact rfl | assumption) (Nat.le_of_ble_eq_true rfl) ?_
  refine sp_gdrop F1 I1 (by omega) v1 (by omega) (fun h2 G2 c2 n2 F2 I2 e2 v2 => ?_)
  replace E := cE_tr E e2
  with_reducible refine xm_go_blk b_X0_quarter_48 k_X0_quarter_48 ?_
  refine by_istore (by rw [ml_29]; decide) ?_
  refine by_iload_n rfl ?_
  refine by_iconst ci_2 ?_
  refine by_ic_ge 67 rfl ?_
  simp (disch := first | exact Nat.ne_of_beq_eq_false rfl | exact rfl | omega) only [nI_add, xa_sub, xa_mul, pk_div, nm_mod, xa_shr, xa_and7, xa_and1, xa_and255, xa_by_and, nI_m1, Nat.add_sub_cancel, Nat.reducePow, Nat.zero_add, Nat.add_zero, Nat.reduceAdd, Nat.reduceMul, Nat.reduceSub, xf_same, xq_ff, xq_fo, xf_1, xf_2, xs_1, xs_2, xs_same, xq_so, xj_1, xj_2, xj_same, xq_jo, xq_sa1, xq_same, xq_other, upd_s, oI_n, oI_s, xv_0, xv_1, xv_2, xv_3, xm_p1, xm_p2, xq_fp, xq_fn, List.filter_nil, Nat.reduceBEq, Bool.not_true, Bool.not_false, Bool.and_true, Bool.and_false, Bool.false_and, Bool.true_and, if_true, if_false, Bool.false_eq_true, reduceIte, xc_i, xc_j, xc_r, xc_n, List.nil_append, List.cons_append, Option.toList_some, Option.toList_none, nI_ltJ, nI_leJ, nI_eqJ, nI_ltz, nI_gez, nI_gtz, nI_lez, nI_eqz, m1_ltz, m1_gez, true_imp_iff, false_imp_iff, true_and, and_true, ne_eq, not_false_eq_true, not_true_eq_false, Nat.reduceEqDiff, Nat.reduceLT, Nat.reduceLeDiff, Nat.reduceMod]
  with_reducible refine xm_go_blk b_X0_quarter_67 k_X0_quarter_67 ?_
  refine by_aload_n rfl ?_
  refine by_iconst ci_4 ?_
  refine by_iload_n rfl ?_
  refine by_imul ?_
  refine by_iload rfl ?_
  simp (disch := first | exact Nat.ne_of_beq_eq_false rfl | exact rfl | omega) only [nI_add, xa_sub, xa_mul, pk_div, nm_mod, xa_shr, xa_and7, xa_and1, xa_and255, xa_by_and, nI_m1, Nat.add_sub_cancel, Nat.reducePow, Nat.zero_add, Nat.add_zero, Nat.reduceAdd, Nat.reduceMul, Nat.reduceSub, xf_same, xq_ff, xq_fo, xf_1, xf_2, xs_1, xs_2, xs_same, xq_so, xj_1, xj_2, xj_same, xq_jo, xq_sa1, xq_same, xq_other, upd_s, oI_n, oI_s, xv_0, xv_1, xv_2, xv_3, xm_p1, xm_p2, xq_fp, xq_fn, List.filter_nil, Nat.reduceBEq, Bool.not_true, Bool.not_false, Bool.and_true, Bool.and_false, Bool.false_and, Bool.true_and, if_true, if_false, Bool.false_eq_true, reduceIte, xc_i, xc_j, xc_r, xc_n, List.nil_append, List.cons_append, Option.toList_some, Option.toList_none, Nat.reduceMod]
  refine by_inv2 cn_29 lk_0_47 (by rw [xe_cnt]; decide) is_12 np_12 cn_12 (by first | exact rfl | assumption) (Nat.le_of_ble_eq_true rfl) ?_
  refine sp_gdrop F2 I2 (by omega) v2 (by omega) (fun h3 G3 c3 n3 F3 I3 e3 v3 => ?_)
  replace E := cE_tr E e3
  with_reducible refine xm_go_blk b_X0_quarter_76 k_X0_quarter_76 ?_
  refine by_iret ry_29 (by first | rfl | assumption) ?_
  refine hp _ _ _ _ F3 I3 E (nG_cg v3 (by omega) (by omega) (fun x hx => ?_) (qle_rf _))
  show ((x.drop (4 * w)).drop (2 * w)).drop w = (x.drop (7 * w)).take w
  rw [List.drop_drop, List.drop_drop, show 4 * w + (2 * w + w) = 7 * w by omega, li_kw (by simp; omega)]
theorem sp_quarter3h (hF : XF h) (hI : cI h G c m J) (hm : m + 3 ≤ 8000) (hw : w ≤ 200) (hp : cPo h G c (m + 3) J (8 * w) w (fun x => (x.drop (6 * w)).take w) (qD (qD qL)) post) : xm_T (XE sc) (d + 4) 29 [.ref 22, .int (nI 3), .int (nI 0), .int (nI w)] h post := by
  refine xq_in rfl ?_
  simp only [xq_a0, xq_aI, xq_aJ, xq_aR, Nat.reduceAdd]
  have E : cE h G c h G c := cE_rf
  with_reducible refine xm_go_blk b_X0_quarter_0 k_X0_quarter_0 ?_
  refine by_iload_n rfl ?_
  refine by_if_eq 13 rfl ?_
  simp (disch := first | exact Nat.ne_of_beq_eq_false rfl | exact rfl | omega) only [nI_add, xa_sub, xa_mul, pk_div, nm_mod, xa_shr, xa_and7, xa_and1, xa_and255, xa_by_and, nI_m1, Nat.add_sub_cancel, Nat.reducePow, Nat.zero_add, Nat.add_zero, Nat.reduceAdd, Nat.reduceMul, Nat.reduceSub, xf_same, xq_ff, xq_fo, xf_1, xf_2, xs_1, xs_2, xs_same, xq_so, xj_1, xj_2, xj_same, xq_jo, xq_sa1, xq_same, xq_other, upd_s, oI_n, oI_s, xv_0, xv_1, xv_2, xv_3, xm_p1, xm_p2, xq_fp, xq_fn, List.filter_nil, Nat.reduceBEq, Bool.not_true, Bool.not_false, Bool.and_true, Bool.and_false, Bool.false_and, Bool.true_and, if_true, if_false, Bool.false_eq_true, reduceIte, xc_i, xc_j, xc_r, xc_n, List.nil_append, List.cons_append, Option.toList_some, Option.toList_none, nI_ltJ, nI_leJ, nI_eqJ, nI_ltz, nI_gez, nI_gtz, nI_lez, nI_eqz, m1_ltz, m1_gez, true_imp_iff, false_imp_iff, true_and, and_true, ne_eq, not_false_eq_true, not_true_eq_false, Nat.reduceEqDiff, Nat.reduceLT, Nat.reduceLeDiff, Nat.reduceMod]
  with_reducible refine xm_go_blk b_X0_quarter_13 k_X0_quarter_13 ?_
  refine by_aload_n rfl ?_
  refine by_iload_n rfl ?_
  refine by_iload_n rfl ?_
  refine by_inv2 cn_29 lk_0_95 (by rw [xe_cnt]; decide) is_15 np_15 cn_15 (by first | exact rfl | assumption) (Nat.le_of_ble_eq_true rfl) ?_
  refine sp_first hF hI (by omega) (by omega) (fun h1 G1 c1 n1 F1 I1 e1 v1 => ?_)
  replace E := cE_tr E e1
  with_reducible refine xm_go_blk b_X0_quarter_19 k_X0_quarter_19 ?_
  refine by_istore (by rw [ml_29]; decide) ?_
  refine by_iload_n rfl ?_
  refine by_iconst ci_1 ?_
  refine by_iand ?_
  refine by_if_ne 39 rfl ?_
  simp (disch := first | exact Nat.ne_of_beq_eq_false rfl | exact rfl | omega) only [nI_add, xa_sub, xa_mul, pk_div, nm_mod, xa_shr, xa_and7, xa_and1, xa_and255, xa_by_and, nI_m1, Nat.add_sub_cancel, Nat.reducePow, Nat.zero_add, Nat.add_zero, Nat.reduceAdd, Nat.reduceMul, Nat.reduceSub, xf_same, xq_ff, xq_fo, xf_1, xf_2, xs_1, xs_2, xs_same, xq_so, xj_1, xj_2, xj_same, xq_jo, xq_sa1, xq_same, xq_other, upd_s, oI_n, oI_s, xv_0, xv_1, xv_2, xv_3, xm_p1, xm_p2, xq_fp, xq_fn, List.filter_nil, Nat.reduceBEq, Bool.not_true, Bool.not_false, Bool.and_true, Bool.and_false, Bool.false_and, Bool.true_and, if_true, if_false, Bool.false_eq_true, reduceIte, xc_i, xc_j, xc_r, xc_n, List.nil_append, List.cons_append, Option.toList_some, Option.toList_none, nI_ltJ, nI_leJ, nI_eqJ, nI_ltz, nI_gez, nI_gtz, nI_lez, nI_eqz, m1_ltz, m1_gez, true_imp_iff, false_imp_iff, true_and, and_true, ne_eq, not_false_eq_true, not_true_eq_false, Nat.reduceEqDiff, Nat.reduceLT, Nat.reduceLeDiff, Nat.reduceMod]
  with_reducible refine xm_go_blk b_X0_quarter_39 k_X0_quarter_39 ?_
  refine by_aload_n rfl ?_
  refine by_iconst ci_2 ?_
  refine by_iload_n rfl ?_
  refine by_imul ?_
  refine by_iload rfl ?_
  simp (disch := first | exact Nat.ne_of_beq_eq_false rfl | exact rfl | omega) only [nI_add, xa_sub, xa_mul, pk_div, nm_mod, xa_shr, xa_and7, xa_and1, xa_and255, xa_by_and, nI_m1, Nat.add_sub_cancel, Nat.reducePow, Nat.zero_add, Nat.add_zero, Nat.reduceAdd, Nat.reduceMul, Nat.reduceSub, xf_same, xq_ff, xq_fo, xf_1, xf_2, xs_1, xs_2, xs_same, xq_so, xj_1, xj_2, xj_same, xq_jo, xq_sa1, xq_same, xq_other, upd_s, oI_n, oI_s, xv_0, xv_1, xv_2, xv_3, xm_p1, xm_p2, xq_fp, xq_fn, List.filter_nil, Nat.reduceBEq, Bool.not_true, Bool.not_false, Bool.and_true, Bool.and_false, Bool.false_and, Bool.true_and, if_true, if_false, Bool.false_eq_true, reduceIte, xc_i, xc_j, xc_r, xc_n, List.nil_append, List.cons_append, Option.toList_some, Option.toList_none, Nat.reduceMod]
  refine by_inv2 cn_29 lk_0_47 (by rw [xe_cnt]; decide) is_12 np_12 cn_12 (by first | exact rfl | assumption) (Nat.le_of_ble_eq_true rfl) ?_
  refine sp_gdrop F1 I1 (by omega) v1 (by omega) (fun h2 G2 c2 n2 F2 I2 e2 v2 => ?_)
  replace E := cE_tr E e2
  with_reducible refine xm_go_blk b_X0_quarter_48 k_X0_quarter_48 ?_
  refine by_istore (by rw [ml_29]; decide) ?_
  refine by_iload_n rfl ?_
  refine by_iconst ci_2 ?_
  refine by_ic_ge 67 rfl ?_
  simp (disch := first | exact Nat.ne_of_beq_eq_false rfl | exact rfl | omega) only [nI_add, xa_sub, xa_mul, pk_div, nm_mod, xa_shr, xa_and7, xa_and1, xa_and255, xa_by_and, nI_m1, Nat.add_sub_cancel, Nat.reducePow, Nat.zero_add, Nat.add_zero, Nat.reduceAdd, Nat.reduceMul, Nat.reduceSub, xf_same, xq_ff, xq_fo, xf_1, xf_2, xs_1, xs_2, xs_same, xq_so, xj_1, xj_2, xj_same, xq_jo, xq_sa1, xq_same, xq_other, upd_s, oI_n, oI_s, xv_0, xv_1, xv_2, xv_3, xm_p1, xm_p2, xq_fp, xq_fn, List.filter_nil, Nat.reduceBEq, Bool.not_true, Bool.not_false, Bool.and_true, Bool.and_false, Bool.false_and, Bool.true_and, if_true, if_false, Bool.false_eq_true, reduceIte, xc_i, xc_j, xc_r, xc_n, List.nil_append, List.cons_append, Option.toList_some, Option.toList_none, nI_ltJ, nI_leJ, nI_eqJ, nI_ltz, nI_gez, nI_gtz, nI_lez, nI_eqz, m1_ltz, m1_gez, true_imp_iff, false_imp_iff, true_and, and_true, ne_eq, not_false_eq_true, not_true_eq_false, Nat.reduceEqDiff, Nat.reduceLT, Nat.reduceLeDiff, Nat.reduceMod]
  with_reducible refine xm_go_blk b_X0_quarter_67 k_X0_quarter_67 ?_
  refine by_aload_n rfl ?_
  refine by_iconst ci_4 ?_
  refine by_iload_n rfl ?_
  refine by_imul ?_
  refine by_iload rfl ?_
  simp (disch := first | exact Nat.ne_of_beq_eq_false rfl | exact rfl | omega) only [nI_add, xa_sub, xa_mul, pk_div, nm_mod, xa_shr, xa_and7, xa_and1, xa_and255, xa_by_and, nI_m1, Nat.add_sub_cancel, Nat.reducePow, Nat.zero_add, Nat.add_zero, Nat.reduceAdd, Nat.reduceMul, Nat.reduceSub, xf_same, xq_ff, xq_fo, xf_1, xf_2, xs_1, xs_2, xs_same, xq_so, xj_1, xj_2, xj_same, xq_jo, xq_sa1, xq_same, xq_other, upd_s, oI_n, oI_s, xv_0, xv_1, xv_2, xv_3, xm_p1, xm_p2, xq_fp, xq_fn, List.filter_nil, Nat.reduceBEq, Bool.not_true, Bool.not_false, Bool.and_true, Bool.and_false, Bool.false_and, Bool.true_and, if_true, if_false, Bool.false_eq_true, reduceIte, xc_i, xc_j, xc_r, xc_n, List.nil_append, List.cons_append, Option.toList_some, Option.toList_none, Nat.reduceMod]
  refine by_inv2 cn_29 lk_0_47 (by rw [xe_cnt]; decide) is_12 np_12 cn_12 (by first | exact rfl | assumption) (Nat.le_of_ble_eq_true rfl) ?_
  refine sp_gdrop F2 I2 (by omega) v2 (by omega) (fun h3 G3 c3 n3 F3 I3 e3 v3 => ?_)
  replace E := cE_tr E e3
  with_reducible refine xm_go_blk b_X0_quarter_76 k_X0_quarter_76 ?_
  refine by_iret ry_29 (by first | rfl | assumption) ?_
  refine hp _ _ _ _ F3 I3 E (nG_cg v3 (by omega) (by omega) (fun x hx => ?_) (qle_rf _))
  show ((x.drop (4 * w)).drop (2 * w)).take w = (x.drop (6 * w)).take w
  rw [List.drop_drop, show 4 * w + 2 * w = 6 * w by omega]
end CD
