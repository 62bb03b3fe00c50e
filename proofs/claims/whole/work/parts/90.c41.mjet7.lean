/-! ===== the reference: jetTypes, more paths with within ===== -/
section JET
variable {sc : xm_Sc} {d n K m c : Nat} {k l r rt : Nat → Nat} {es : List (Nat × Nat)} {h : xm_H} {post : xm_Po}
theorem mj_23 (hF : XF h) (hg : mgr h c k l r rt es) (hn : n < 2000) (ho : ty_den c k l r tO 0) (hK : K = 23) (hm : m < 4) (hw : ∀ j, j < 9 → h.1 144 j = nI (j + 1) ∧ ty_den c k l r (ty_wd j) (j + 1)) (hp : mjC n c (4 * K + m) k l r es h post) :
    xm_go (XE sc) (xm_T (XE sc) (d + 2)) 241 post 81 [(0, .ref 102), (1, .int (nI n)), (2, .int (nI K)), (3, .int (nI (3 + m))), (4, .int (nI (3 + m + 1))), (5, .int (nI (3 + m + 1 + 1))), (6, .int (nI (3 + m + 1))), (7, .int (nI (3 + m + 1)))] [] h := by
  subst hK
  have w3 := (hw 3 (by decide)).1
  with_reducible refine xm_go_blk b_X12_jetTypes_81 k_X12_jetTypes_81 ?_
  refine by_iload_n rfl ?_
  refine by_bipush cb_7 ?_
  refine by_ic_ge 98 rfl ?_
  simp (disch := first | exact Nat.ne_of_beq_eq_false rfl | exact rfl | omega) only [nI_add, xa_sub, xa_mul, pk_div, nm_mod, xa_shr, xa_and7, xa_and1, xa_and255, xa_by_and, nI_m1, Nat.add_sub_cancel, Nat.reducePow, Nat.zero_add, Nat.add_zero, Nat.reduceAdd, Nat.reduceMul, Nat.reduceSub, xf_same, xq_ff, xq_fo, xf_1, xf_2, xs_1, xs_2, xs_same, xq_so, xj_1, xj_2, xj_same, xq_jo, xq_sa1, xq_same, xq_other, upd_s, oI_n, oI_s, xv_0, xv_1, xv_2, xv_3, xm_p1, xm_p2, xq_fp, xq_fn, List.filter_nil, Nat.reduceBEq, Bool.not_true, Bool.not_false, Bool.and_true, Bool.and_false, Bool.false_and, Bool.true_and, if_true, if_false, Bool.false_eq_true, reduceIte, xc_i, xc_j, xc_r, xc_n, List.nil_append, List.cons_append, Option.toList_some, Option.toList_none, nI_ltJ, nI_leJ, nI_eqJ, nI_ltz, nI_gez, nI_gtz, nI_lez, nI_eqz, m1_ltz, m1_gez, true_imp_iff, false_imp_iff, true_and, and_true, ne_eq, not_false_eq_true, not_true_eq_false, Nat.reduceEqDiff, Nat.reduceLT, Nat.reduceLeDiff, xf_102_57 hF, w3]
  with_reducible refine xm_go_blk b_X12_jetTypes_98 k_X12_jetTypes_98 ?_
  refine by_iload_n rfl ?_
  refine by_bipush cb_9 ?_
  refine by_ic_ge 132 rfl ?_
  simp (disch := first | exact Nat.ne_of_beq_eq_false rfl | exact rfl | omega) only [nI_add, xa_sub, xa_mul, pk_div, nm_mod, xa_shr, xa_and7, xa_and1, xa_and255, xa_by_and, nI_m1, Nat.add_sub_cancel, Nat.reducePow, Nat.zero_add, Nat.add_zero, Nat.reduceAdd, Nat.reduceMul, Nat.reduceSub, xf_same, xq_ff, xq_fo, xf_1, xf_2, xs_1, xs_2, xs_same, xq_so, xj_1, xj_2, xj_same, xq_jo, xq_sa1, xq_same, xq_other, upd_s, oI_n, oI_s, xv_0, xv_1, xv_2, xv_3, xm_p1, xm_p2, xq_fp, xq_fn, List.filter_nil, Nat.reduceBEq, Bool.not_true, Bool.not_false, Bool.and_true, Bool.and_false, Bool.false_and, Bool.true_and, if_true, if_false, Bool.false_eq_true, reduceIte, xc_i, xc_j, xc_r, xc_n, List.nil_append, List.cons_append, Option.toList_some, Option.toList_none, nI_ltJ, nI_leJ, nI_eqJ, nI_ltz, nI_gez, nI_gtz, nI_lez, nI_eqz, m1_ltz, m1_gez, true_imp_iff, false_imp_iff, true_and, and_true, ne_eq, not_false_eq_true, not_true_eq_false, Nat.reduceEqDiff, Nat.reduceLT, Nat.reduceLeDiff, xf_102_57 hF, w3]
  with_reducible refine xm_go_blk b_X12_jetTypes_132 k_X12_jetTypes_132 ?_
  refine by_iload_n rfl ?_
  refine by_bipush cb_11 ?_
  refine by_ic_lt 161 rfl ?_
  simp (disch := first | exact Nat.ne_of_beq_eq_false rfl | exact rfl | omega) only [nI_add, xa_sub, xa_mul, pk_div, nm_mod, xa_shr, xa_and7, xa_and1, xa_and255, xa_by_and, nI_m1, Nat.add_sub_cancel, Nat.reducePow, Nat.zero_add, Nat.add_zero, Nat.reduceAdd, Nat.reduceMul, Nat.reduceSub, xf_same, xq_ff, xq_fo, xf_1, xf_2, xs_1, xs_2, xs_same, xq_so, xj_1, xj_2, xj_same, xq_jo, xq_sa1, xq_same, xq_other, upd_s, oI_n, oI_s, xv_0, xv_1, xv_2, xv_3, xm_p1, xm_p2, xq_fp, xq_fn, List.filter_nil, Nat.reduceBEq, Bool.not_true, Bool.not_false, Bool.and_true, Bool.and_false, Bool.false_and, Bool.true_and, if_true, if_false, Bool.false_eq_true, reduceIte, xc_i, xc_j, xc_r, xc_n, List.nil_append, List.cons_append, Option.toList_some, Option.toList_none, nI_ltJ, nI_leJ, nI_eqJ, nI_ltz, nI_gez, nI_gtz, nI_lez, nI_eqz, m1_ltz, m1_gez, true_imp_iff, false_imp_iff, true_and, and_true, ne_eq, not_false_eq_true, not_true_eq_false, Nat.reduceEqDiff, Nat.reduceLT, Nat.reduceLeDiff, xf_102_57 hF, w3]
  with_reducible refine xm_go_blk b_X12_jetTypes_138 k_X12_jetTypes_138 ?_
  refine by_iload_n rfl ?_
  refine by_bipush cb_16 ?_
  refine by_ic_eq 161 rfl ?_
  simp (disch := first | exact Nat.ne_of_beq_eq_false rfl | exact rfl | omega) only [nI_add, xa_sub, xa_mul, pk_div, nm_mod, xa_shr, xa_and7, xa_and1, xa_and255, xa_by_and, nI_m1, Nat.add_sub_cancel, Nat.reducePow, Nat.zero_add, Nat.add_zero, Nat.reduceAdd, Nat.reduceMul, Nat.reduceSub, xf_same, xq_ff, xq_fo, xf_1, xf_2, xs_1, xs_2, xs_same, xq_so, xj_1, xj_2, xj_same, xq_jo, xq_sa1, xq_same, xq_other, upd_s, oI_n, oI_s, xv_0, xv_1, xv_2, xv_3, xm_p1, xm_p2, xq_fp, xq_fn, List.filter_nil, Nat.reduceBEq, Bool.not_true, Bool.not_false, Bool.and_true, Bool.and_false, Bool.false_and, Bool.true_and, if_true, if_false, Bool.false_eq_true, reduceIte, xc_i, xc_j, xc_r, xc_n, List.nil_append, List.cons_append, Option.toList_some, Option.toList_none, nI_ltJ, nI_leJ, nI_eqJ, nI_ltz, nI_gez, nI_gtz, nI_lez, nI_eqz, m1_ltz, m1_gez, true_imp_iff, false_imp_iff, true_and, and_true, ne_eq, not_false_eq_true, not_true_eq_false, Nat.reduceEqDiff, Nat.reduceLT, Nat.reduceLeDiff, xf_102_57 hF, w3]
  with_reducible refine xm_go_blk b_X12_jetTypes_144 k_X12_jetTypes_144 ?_
  refine by_iload_n rfl ?_
  refine by_bipush cb_17 ?_
  refine by_ic_eq 161 rfl ?_
  simp (disch := first | exact Nat.ne_of_beq_eq_false rfl | exact rfl | omega) only [nI_add, xa_sub, xa_mul, pk_div, nm_mod, xa_shr, xa_and7, xa_and1, xa_and255, xa_by_and, nI_m1, Nat.add_sub_cancel, Nat.reducePow, Nat.zero_add, Nat.add_zero, Nat.reduceAdd, Nat.reduceMul, Nat.reduceSub, xf_same, xq_ff, xq_fo, xf_1, xf_2, xs_1, xs_2, xs_same, xq_so, xj_1, xj_2, xj_same, xq_jo, xq_sa1, xq_same, xq_other, upd_s, oI_n, oI_s, xv_0, xv_1, xv_2, xv_3, xm_p1, xm_p2, xq_fp, xq_fn, List.filter_nil, Nat.reduceBEq, Bool.not_true, Bool.not_false, Bool.and_true, Bool.and_false, Bool.false_and, Bool.true_and, if_true, if_false, Bool.false_eq_true, reduceIte, xc_i, xc_j, xc_r, xc_n, List.nil_append, List.cons_append, Option.toList_some, Option.toList_none, nI_ltJ, nI_leJ, nI_eqJ, nI_ltz, nI_gez, nI_gtz, nI_lez, nI_eqz, m1_ltz, m1_gez, true_imp_iff, false_imp_iff, true_and, and_true, ne_eq, not_false_eq_true, not_true_eq_false, Nat.reduceEqDiff, Nat.reduceLT, Nat.reduceLeDiff, xf_102_57 hF, w3]
  with_reducible refine xm_go_blk b_X12_jetTypes_150 k_X12_jetTypes_150 ?_
  refine by_iload_n rfl ?_
  refine by_bipush cb_24 ?_
  refine by_bipush cb_26 ?_
  refine by_ins3 cn_241 lk_12_211 (by rw [xe_cnt]; decide) is_319 np_319 (Nat.le_of_ble_eq_true rfl) ?_
  refine sp_within ?_
  rw [if_neg (by decide)]
  with_reducible refine xm_go_blk b_X12_jetTypes_158 k_X12_jetTypes_158 ?_
  refine by_if_eq 168 rfl ?_
  simp (disch := first | exact Nat.ne_of_beq_eq_false rfl | exact rfl | omega) only [nI_add, xa_sub, xa_mul, pk_div, nm_mod, xa_shr, xa_and7, xa_and1, xa_and255, xa_by_and, nI_m1, Nat.add_sub_cancel, Nat.reducePow, Nat.zero_add, Nat.add_zero, Nat.reduceAdd, Nat.reduceMul, Nat.reduceSub, xf_same, xq_ff, xq_fo, xf_1, xf_2, xs_1, xs_2, xs_same, xq_so, xj_1, xj_2, xj_same, xq_jo, xq_sa1, xq_same, xq_other, upd_s, oI_n, oI_s, xv_0, xv_1, xv_2, xv_3, xm_p1, xm_p2, xq_fp, xq_fn, List.filter_nil, Nat.reduceBEq, Bool.not_true, Bool.not_false, Bool.and_true, Bool.and_false, Bool.false_and, Bool.true_and, if_true, if_false, Bool.false_eq_true, reduceIte, xc_i, xc_j, xc_r, xc_n, List.nil_append, List.cons_append, Option.toList_some, Option.toList_none, nI_ltJ, nI_leJ, nI_eqJ, nI_ltz, nI_gez, nI_gtz, nI_lez, nI_eqz, m1_ltz, m1_gez, true_imp_iff, false_imp_iff, true_and, and_true, ne_eq, not_false_eq_true, not_true_eq_false, Nat.reduceEqDiff, Nat.reduceLT, Nat.reduceLeDiff, xf_102_57 hF, w3]
  with_reducible refine xm_go_blk b_X12_jetTypes_168 k_X12_jetTypes_168 ?_
  refine by_iload_n rfl ?_
  refine by_bipush cb_16 ?_
  refine by_ic_ge 189 rfl ?_
  simp (disch := first | exact Nat.ne_of_beq_eq_false rfl | exact rfl | omega) only [nI_add, xa_sub, xa_mul, pk_div, nm_mod, xa_shr, xa_and7, xa_and1, xa_and255, xa_by_and, nI_m1, Nat.add_sub_cancel, Nat.reducePow, Nat.zero_add, Nat.add_zero, Nat.reduceAdd, Nat.reduceMul, Nat.reduceSub, xf_same, xq_ff, xq_fo, xf_1, xf_2, xs_1, xs_2, xs_same, xq_so, xj_1, xj_2, xj_same, xq_jo, xq_sa1, xq_same, xq_other, upd_s, oI_n, oI_s, xv_0, xv_1, xv_2, xv_3, xm_p1, xm_p2, xq_fp, xq_fn, List.filter_nil, Nat.reduceBEq, Bool.not_true, Bool.not_false, Bool.and_true, Bool.and_false, Bool.false_and, Bool.true_and, if_true, if_false, Bool.false_eq_true, reduceIte, xc_i, xc_j, xc_r, xc_n, List.nil_append, List.cons_append, Option.toList_some, Option.toList_none, nI_ltJ, nI_leJ, nI_eqJ, nI_ltz, nI_gez, nI_gtz, nI_lez, nI_eqz, m1_ltz, m1_gez, true_imp_iff, false_imp_iff, true_and, and_true, ne_eq, not_false_eq_true, not_true_eq_false, Nat.reduceEqDiff, Nat.reduceLT, Nat.reduceLeDiff, xf_102_57 hF, w3]
  with_reducible refine xm_go_blk b_X12_jetTypes_189 k_X12_jetTypes_189 ?_
  refine by_iload_n rfl ?_
  refine by_bipush cb_18 ?_
  refine by_ic_eq 206 rfl ?_
  simp (disch := first | exact Nat.ne_of_beq_eq_false rfl | exact rfl | omega) only [nI_add, xa_sub, xa_mul, pk_div, nm_mod, xa_shr, xa_and7, xa_and1, xa_and255, xa_by_and, nI_m1, Nat.add_sub_cancel, Nat.reducePow, Nat.zero_add, Nat.add_zero, Nat.reduceAdd, Nat.reduceMul, Nat.reduceSub, xf_same, xq_ff, xq_fo, xf_1, xf_2, xs_1, xs_2, xs_same, xq_so, xj_1, xj_2, xj_same, xq_jo, xq_sa1, xq_same, xq_other, upd_s, oI_n, oI_s, xv_0, xv_1, xv_2, xv_3, xm_p1, xm_p2, xq_fp, xq_fn, List.filter_nil, Nat.reduceBEq, Bool.not_true, Bool.not_false, Bool.and_true, Bool.and_false, Bool.false_and, Bool.true_and, if_true, if_false, Bool.false_eq_true, reduceIte, xc_i, xc_j, xc_r, xc_n, List.nil_append, List.cons_append, Option.toList_some, Option.toList_none, nI_ltJ, nI_leJ, nI_eqJ, nI_ltz, nI_gez, nI_gtz, nI_lez, nI_eqz, m1_ltz, m1_gez, true_imp_iff, false_imp_iff, true_and, and_true, ne_eq, not_false_eq_true, not_true_eq_false, Nat.reduceEqDiff, Nat.reduceLT, Nat.reduceLeDiff, xf_102_57 hF, w3]
  with_reducible refine xm_go_blk b_X12_jetTypes_195 k_X12_jetTypes_195 ?_
  refine by_iload_n rfl ?_
  refine by_bipush cb_27 ?_
  refine by_bipush cb_29 ?_
  refine by_ins3 cn_241 lk_12_211 (by rw [xe_cnt]; decide) is_319 np_319 (Nat.le_of_ble_eq_true rfl) ?_
  refine sp_within ?_
  rw [if_neg (by decide)]
  with_reducible refine xm_go_blk b_X12_jetTypes_203 k_X12_jetTypes_203 ?_
  refine by_if_eq 220 rfl ?_
  simp (disch := first | exact Nat.ne_of_beq_eq_false rfl | exact rfl | omega) only [nI_add, xa_sub, xa_mul, pk_div, nm_mod, xa_shr, xa_and7, xa_and1, xa_and255, xa_by_and, nI_m1, Nat.add_sub_cancel, Nat.reducePow, Nat.zero_add, Nat.add_zero, Nat.reduceAdd, Nat.reduceMul, Nat.reduceSub, xf_same, xq_ff, xq_fo, xf_1, xf_2, xs_1, xs_2, xs_same, xq_so, xj_1, xj_2, xj_same, xq_jo, xq_sa1, xq_same, xq_other, upd_s, oI_n, oI_s, xv_0, xv_1, xv_2, xv_3, xm_p1, xm_p2, xq_fp, xq_fn, List.filter_nil, Nat.reduceBEq, Bool.not_true, Bool.not_false, Bool.and_true, Bool.and_false, Bool.false_and, Bool.true_and, if_true, if_false, Bool.false_eq_true, reduceIte, xc_i, xc_j, xc_r, xc_n, List.nil_append, List.cons_append, Option.toList_some, Option.toList_none, nI_ltJ, nI_leJ, nI_eqJ, nI_ltz, nI_gez, nI_gtz, nI_lez, nI_eqz, m1_ltz, m1_gez, true_imp_iff, false_imp_iff, true_and, and_true, ne_eq, not_false_eq_true, not_true_eq_false, Nat.reduceEqDiff, Nat.reduceLT, Nat.reduceLeDiff, xf_102_57 hF, w3]
  with_reducible refine xm_go_blk b_X12_jetTypes_220 k_X12_jetTypes_220 ?_
  refine by_iload_n rfl ?_
  refine by_bipush cb_23 ?_
  refine by_ic_ge 237 rfl ?_
  simp (disch := first | exact Nat.ne_of_beq_eq_false rfl | exact rfl | omega) only [nI_add, xa_sub, xa_mul, pk_div, nm_mod, xa_shr, xa_and7, xa_and1, xa_and255, xa_by_and, nI_m1, Nat.add_sub_cancel, Nat.reducePow, Nat.zero_add, Nat.add_zero, Nat.reduceAdd, Nat.reduceMul, Nat.reduceSub, xf_same, xq_ff, xq_fo, xf_1, xf_2, xs_1, xs_2, xs_same, xq_so, xj_1, xj_2, xj_same, xq_jo, xq_sa1, xq_same, xq_other, upd_s, oI_n, oI_s, xv_0, xv_1, xv_2, xv_3, xm_p1, xm_p2, xq_fp, xq_fn, List.filter_nil, Nat.reduceBEq, Bool.not_true, Bool.not_false, Bool.and_true, Bool.and_false, Bool.false_and, Bool.true_and, if_true, if_false, Bool.false_eq_true, reduceIte, xc_i, xc_j, xc_r, xc_n, List.nil_append, List.cons_append, Option.toList_some, Option.toList_none, nI_ltJ, nI_leJ, nI_eqJ, nI_ltz, nI_gez, nI_gtz, nI_lez, nI_eqz, m1_ltz, m1_gez, true_imp_iff, false_imp_iff, true_and, and_true, ne_eq, not_false_eq_true, not_true_eq_false, Nat.reduceEqDiff, Nat.reduceLT, Nat.reduceLeDiff, xf_102_57 hF, w3]
  with_reducible refine xm_go_blk b_X12_jetTypes_237 k_X12_jetTypes_237 ?_
  refine by_iload_n rfl ?_
  refine by_bipush cb_30 ?_
  refine by_ic_eq 249 rfl ?_
  simp (disch := first | exact Nat.ne_of_beq_eq_false rfl | exact rfl | omega) only [nI_add, xa_sub, xa_mul, pk_div, nm_mod, xa_shr, xa_and7, xa_and1, xa_and255, xa_by_and, nI_m1, Nat.add_sub_cancel, Nat.reducePow, Nat.zero_add, Nat.add_zero, Nat.reduceAdd, Nat.reduceMul, Nat.reduceSub, xf_same, xq_ff, xq_fo, xf_1, xf_2, xs_1, xs_2, xs_same, xq_so, xj_1, xj_2, xj_same, xq_jo, xq_sa1, xq_same, xq_other, upd_s, oI_n, oI_s, xv_0, xv_1, xv_2, xv_3, xm_p1, xm_p2, xq_fp, xq_fn, List.filter_nil, Nat.reduceBEq, Bool.not_true, Bool.not_false, Bool.and_true, Bool.and_false, Bool.false_and, Bool.true_and, if_true, if_false, Bool.false_eq_true, reduceIte, xc_i, xc_j, xc_r, xc_n, List.nil_append, List.cons_append, Option.toList_some, Option.toList_none, nI_ltJ, nI_leJ, nI_eqJ, nI_ltz, nI_gez, nI_gtz, nI_lez, nI_eqz, m1_ltz, m1_gez, true_imp_iff, false_imp_iff, true_and, and_true, ne_eq, not_false_eq_true, not_true_eq_false, Nat.reduceEqDiff, Nat.reduceLT, Nat.reduceLeDiff, xf_102_57 hF, w3]
  with_reducible refine xm_go_blk b_X12_jetTypes_243 k_X12_jetTypes_243 ?_
  refine by_iload_n rfl ?_
  refine by_bipush cb_31 ?_
  refine by_ic_ne 255 rfl ?_
  simp (disch := first | exact Nat.ne_of_beq_eq_false rfl | exact rfl | omega) only [nI_add, xa_sub, xa_mul, pk_div, nm_mod, xa_shr, xa_and7, xa_and1, xa_and255, xa_by_and, nI_m1, Nat.add_sub_cancel, Nat.reducePow, Nat.zero_add, Nat.add_zero, Nat.reduceAdd, Nat.reduceMul, Nat.reduceSub, xf_same, xq_ff, xq_fo, xf_1, xf_2, xs_1, xs_2, xs_same, xq_so, xj_1, xj_2, xj_same, xq_jo, xq_sa1, xq_same, xq_other, upd_s, oI_n, oI_s, xv_0, xv_1, xv_2, xv_3, xm_p1, xm_p2, xq_fp, xq_fn, List.filter_nil, Nat.reduceBEq, Bool.not_true, Bool.not_false, Bool.and_true, Bool.and_false, Bool.false_and, Bool.true_and, if_true, if_false, Bool.false_eq_true, reduceIte, xc_i, xc_j, xc_r, xc_n, List.nil_append, List.cons_append, Option.toList_some, Option.toList_none, nI_ltJ, nI_leJ, nI_eqJ, nI_ltz, nI_gez, nI_gtz, nI_lez, nI_eqz, m1_ltz, m1_gez, true_imp_iff, false_imp_iff, true_and, and_true, ne_eq, not_false_eq_true, not_true_eq_false, Nat.reduceEqDiff, Nat.reduceLT, Nat.reduceLeDiff, xf_102_57 hF, w3]
  with_reducible refine xm_go_blk b_X12_jetTypes_255 k_X12_jetTypes_255 ?_
  refine by_iload_n rfl ?_
  refine by_bipush cb_32 ?_
  refine by_bipush cb_35 ?_
  refine by_ins3 cn_241 lk_12_211 (by rw [xe_cnt]; decide) is_319 np_319 (Nat.le_of_ble_eq_true rfl) ?_
  refine sp_within ?_
  rw [if_neg (by decide)]
  with_reducible refine xm_go_blk b_X12_jetTypes_263 k_X12_jetTypes_263 ?_
  refine by_if_eq 284 rfl ?_
  simp (disch := first | exact Nat.ne_of_beq_eq_false rfl | exact rfl | omega) only [nI_add, xa_sub, xa_mul, pk_div, nm_mod, xa_shr, xa_and7, xa_and1, xa_and255, xa_by_and, nI_m1, Nat.add_sub_cancel, Nat.reducePow, Nat.zero_add, Nat.add_zero, Nat.reduceAdd, Nat.reduceMul, Nat.reduceSub, xf_same, xq_ff, xq_fo, xf_1, xf_2, xs_1, xs_2, xs_same, xq_so, xj_1, xj_2, xj_same, xq_jo, xq_sa1, xq_same, xq_other, upd_s, oI_n, oI_s, xv_0, xv_1, xv_2, xv_3, xm_p1, xm_p2, xq_fp, xq_fn, List.filter_nil, Nat.reduceBEq, Bool.not_true, Bool.not_false, Bool.and_true, Bool.and_false, Bool.false_and, Bool.true_and, if_true, if_false, Bool.false_eq_true, reduceIte, xc_i, xc_j, xc_r, xc_n, List.nil_append, List.cons_append, Option.toList_some, Option.toList_none, nI_ltJ, nI_leJ, nI_eqJ, nI_ltz, nI_gez, nI_gtz, nI_lez, nI_eqz, m1_ltz, m1_gez, true_imp_iff, false_imp_iff, true_and, and_true, ne_eq, not_false_eq_true, not_true_eq_false, Nat.reduceEqDiff, Nat.reduceLT, Nat.reduceLeDiff, xf_102_57 hF, w3]
  with_reducible refine xm_go_blk b_X12_jetTypes_284 k_X12_jetTypes_284 ?_
  refine by_iload_n rfl ?_
  refine by_bipush cb_36 ?_
  refine by_ic_eq 296 rfl ?_
  simp (disch := first | exact Nat.ne_of_beq_eq_false rfl | exact rfl | omega) only [nI_add, xa_sub, xa_mul, pk_div, nm_mod, xa_shr, xa_and7, xa_and1, xa_and255, xa_by_and, nI_m1, Nat.add_sub_cancel, Nat.reducePow, Nat.zero_add, Nat.add_zero, Nat.reduceAdd, Nat.reduceMul, Nat.reduceSub, xf_same, xq_ff, xq_fo, xf_1, xf_2, xs_1, xs_2, xs_same, xq_so, xj_1, xj_2, xj_same, xq_jo, xq_sa1, xq_same, xq_other, upd_s, oI_n, oI_s, xv_0, xv_1, xv_2, xv_3, xm_p1, xm_p2, xq_fp, xq_fn, List.filter_nil, Nat.reduceBEq, Bool.not_true, Bool.not_false, Bool.and_true, Bool.and_false, Bool.false_and, Bool.true_and, if_true, if_false, Bool.false_eq_true, reduceIte, xc_i, xc_j, xc_r, xc_n, List.nil_append, List.cons_append, Option.toList_some, Option.toList_none, nI_ltJ, nI_leJ, nI_eqJ, nI_ltz, nI_gez, nI_gtz, nI_lez, nI_eqz, m1_ltz, m1_gez, true_imp_iff, false_imp_iff, true_and, and_true, ne_eq, not_false_eq_true, not_true_eq_false, Nat.reduceEqDiff, Nat.reduceLT, Nat.reduceLeDiff, xf_102_57 hF, w3]
  with_reducible refine xm_go_blk b_X12_jetTypes_290 k_X12_jetTypes_290 ?_
  refine by_iload_n rfl ?_
  refine by_bipush cb_37 ?_
  refine by_ic_ne 307 rfl ?_
  simp (disch := first | exact Nat.ne_of_beq_eq_false rfl | exact rfl | omega) only [nI_add, xa_sub, xa_mul, pk_div, nm_mod, xa_shr, xa_and7, xa_and1, xa_and255, xa_by_and, nI_m1, Nat.add_sub_cancel, Nat.reducePow, Nat.zero_add, Nat.add_zero, Nat.reduceAdd, Nat.reduceMul, Nat.reduceSub, xf_same, xq_ff, xq_fo, xf_1, xf_2, xs_1, xs_2, xs_same, xq_so, xj_1, xj_2, xj_same, xq_jo, xq_sa1, xq_same, xq_other, upd_s, oI_n, oI_s, xv_0, xv_1, xv_2, xv_3, xm_p1, xm_p2, xq_fp, xq_fn, List.filter_nil, Nat.reduceBEq, Bool.not_true, Bool.not_false, Bool.and_true, Bool.and_false, Bool.false_and, Bool.true_and, if_true, if_false, Bool.false_eq_true, reduceIte, xc_i, xc_j, xc_r, xc_n, List.nil_append, List.cons_append, Option.toList_some, Option.toList_none, nI_ltJ, nI_leJ, nI_eqJ, nI_ltz, nI_gez, nI_gtz, nI_lez, nI_eqz, m1_ltz, m1_gez, true_imp_iff, false_imp_iff, true_and, and_true, ne_eq, not_false_eq_true, not_true_eq_false, Nat.reduceEqDiff, Nat.reduceLT, Nat.reduceLeDiff, xf_102_57 hF, w3]
  with_reducible refine xm_go_blk b_X12_jetTypes_307 k_X12_jetTypes_307 ?_
  refine by_iload_n rfl ?_
  refine by_bipush cb_38 ?_
  refine by_ic_eq 319 rfl ?_
  simp (disch := first | exact Nat.ne_of_beq_eq_false rfl | exact rfl | omega) only [nI_add, xa_sub, xa_mul, pk_div, nm_mod, xa_shr, xa_and7, xa_and1, xa_and255, xa_by_and, nI_m1, Nat.add_sub_cancel, Nat.reducePow, Nat.zero_add, Nat.add_zero, Nat.reduceAdd, Nat.reduceMul, Nat.reduceSub, xf_same, xq_ff, xq_fo, xf_1, xf_2, xs_1, xs_2, xs_same, xq_so, xj_1, xj_2, xj_same, xq_jo, xq_sa1, xq_same, xq_other, upd_s, oI_n, oI_s, xv_0, xv_1, xv_2, xv_3, xm_p1, xm_p2, xq_fp, xq_fn, List.filter_nil, Nat.reduceBEq, Bool.not_true, Bool.not_false, Bool.and_true, Bool.and_false, Bool.false_and, Bool.true_and, if_true, if_false, Bool.false_eq_true, reduceIte, xc_i, xc_j, xc_r, xc_n, List.nil_append, List.cons_append, Option.toList_some, Option.toList_none, nI_ltJ, nI_leJ, nI_eqJ, nI_ltz, nI_gez, nI_gtz, nI_lez, nI_eqz, m1_ltz, m1_gez, true_imp_iff, false_imp_iff, true_and, and_true, ne_eq, not_false_eq_true, not_true_eq_false, Nat.reduceEqDiff, Nat.reduceLT, Nat.reduceLeDiff, xf_102_57 hF, w3]
  with_reducible refine xm_go_blk b_X12_jetTypes_313 k_X12_jetTypes_313 ?_
  refine by_iload_n rfl ?_
  refine by_bipush cb_39 ?_
  refine by_ic_ne 332 rfl ?_
  simp (disch := first | exact Nat.ne_of_beq_eq_false rfl | exact rfl | omega) only [nI_add, xa_sub, xa_mul, pk_div, nm_mod, xa_shr, xa_and7, xa_and1, xa_and255, xa_by_and, nI_m1, Nat.add_sub_cancel, Nat.reducePow, Nat.zero_add, Nat.add_zero, Nat.reduceAdd, Nat.reduceMul, Nat.reduceSub, xf_same, xq_ff, xq_fo, xf_1, xf_2, xs_1, xs_2, xs_same, xq_so, xj_1, xj_2, xj_same, xq_jo, xq_sa1, xq_same, xq_other, upd_s, oI_n, oI_s, xv_0, xv_1, xv_2, xv_3, xm_p1, xm_p2, xq_fp, xq_fn, List.filter_nil, Nat.reduceBEq, Bool.not_true, Bool.not_false, Bool.and_true, Bool.and_false, Bool.false_and, Bool.true_and, if_true, if_false, Bool.false_eq_true, reduceIte, xc_i, xc_j, xc_r, xc_n, List.nil_append, List.cons_append, Option.toList_some, Option.toList_none, nI_ltJ, nI_leJ, nI_eqJ, nI_ltz, nI_gez, nI_gtz, nI_lez, nI_eqz, m1_ltz, m1_gez, true_imp_iff, false_imp_iff, true_and, and_true, ne_eq, not_false_eq_true, not_true_eq_false, Nat.reduceEqDiff, Nat.reduceLT, Nat.reduceLeDiff, xf_102_57 hF, w3]
  with_reducible refine xm_go_blk b_X12_jetTypes_332 k_X12_jetTypes_332 ?_
  refine by_iload_n rfl ?_
  refine by_bipush cb_39 ?_
  refine by_ic_le 348 rfl ?_
  simp (disch := first | exact Nat.ne_of_beq_eq_false rfl | exact rfl | omega) only [nI_add, xa_sub, xa_mul, pk_div, nm_mod, xa_shr, xa_and7, xa_and1, xa_and255, xa_by_and, nI_m1, Nat.add_sub_cancel, Nat.reducePow, Nat.zero_add, Nat.add_zero, Nat.reduceAdd, Nat.reduceMul, Nat.reduceSub, xf_same, xq_ff, xq_fo, xf_1, xf_2, xs_1, xs_2, xs_same, xq_so, xj_1, xj_2, xj_same, xq_jo, xq_sa1, xq_same, xq_other, upd_s, oI_n, oI_s, xv_0, xv_1, xv_2, xv_3, xm_p1, xm_p2, xq_fp, xq_fn, List.filter_nil, Nat.reduceBEq, Bool.not_true, Bool.not_false, Bool.and_true, Bool.and_false, Bool.false_and, Bool.true_and, if_true, if_false, Bool.false_eq_true, reduceIte, xc_i, xc_j, xc_r, xc_n, List.nil_append, List.cons_append, Option.toList_some, Option.toList_none, nI_ltJ, nI_leJ, nI_eqJ, nI_ltz, nI_gez, nI_gtz, nI_lez, nI_eqz, m1_ltz, m1_gez, true_imp_iff, false_imp_iff, true_and, and_true, ne_eq, not_false_eq_true, not_true_eq_false, Nat.reduceEqDiff, Nat.reduceLT, Nat.reduceLeDiff, xf_102_57 hF, w3]
  refine xm_go_wk (by simp [Value.category]) (mj_348 (s := 3 + m + 1) (t := 3 + m + 1) hF hn (mjC_0 hg hp hm ?_ ?_))
  · rw [show 3 + m + 1 = 3 + m + 1 by omega]; exact (hw (3 + m) (by omega)).2
  · rw [show 3 + m + 1 = 3 + m + 1 by omega]; exact (hw (3 + m) (by omega)).2
theorem mj_30 (hF : XF h) (hg : mgr h c k l r rt es) (hn : n < 2000) (ho : ty_den c k l r tO 0) (hK : K = 30) (hm : m < 4) (hw : ∀ j, j < 9 → h.1 144 j = nI (j + 1) ∧ ty_den c k l r (ty_wd j) (j + 1)) (hp : mjC n c (4 * K + m) k l r es h post) :
    xm_go (XE sc) (xm_T (XE sc) (d + 2)) 241 post 81 [(0, .ref 102), (1, .int (nI n)), (2, .int (nI K)), (3, .int (nI (3 + m))), (4, .int (nI (3 + m + 1))), (5, .int (nI (3 + m + 1 + 1))), (6, .int (nI (3 + m + 1))), (7, .int (nI (3 + m + 1)))] [] h := by
  subst hK
  have w3 := (hw 3 (by decide)).1
  with_reducible refine xm_go_blk b_X12_jetTypes_81 k_X12_jetTypes_81 ?_
  refine by_iload_n rfl ?_
  refine by_bipush cb_7 ?_
  refine by_ic_ge 98 rfl ?_
  simp (disch := first | exact Nat.ne_of_beq_eq_false rfl | exact rfl | omega) only [nI_add, xa_sub, xa_mul, pk_div, nm_mod, xa_shr, xa_and7, xa_and1, xa_and255, xa_by_and, nI_m1, Nat.add_sub_cancel, Nat.reducePow, Nat.zero_add, Nat.add_zero, Nat.reduceAdd, Nat.reduceMul, Nat.reduceSub, xf_same, xq_ff, xq_fo, xf_1, xf_2, xs_1, xs_2, xs_same, xq_so, xj_1, xj_2, xj_same, xq_jo, xq_sa1, xq_same, xq_other, upd_s, oI_n, oI_s, xv_0, xv_1, xv_2, xv_3, xm_p1, xm_p2, xq_fp, xq_fn, List.filter_nil, Nat.reduceBEq, Bool.not_true, Bool.not_false, Bool.and_true, Bool.and_false, Bool.false_and, Bool.true_and, if_true, if_false, Bool.false_eq_true, reduceIte, xc_i, xc_j, xc_r, xc_n, List.nil_append, List.cons_append, Option.toList_some, Option.toList_none, nI_ltJ, nI_leJ, nI_eqJ, nI_ltz, nI_gez, nI_gtz, nI_lez, nI_eqz, m1_ltz, m1_gez, true_imp_iff, false_imp_iff, true_and, and_true, ne_eq, not_false_eq_true, not_true_eq_false, Nat.reduceEqDiff, Nat.reduceLT, Nat.reduceLeDiff, xf_102_57 hF, w3]
  with_reducible refine xm_go_blk b_X12_jetTypes_98 k_X12_jetTypes_98 ?_
  refine by_iload_n rfl ?_
  refine by_bipush cb_9 ?_
  refine by_ic_ge 132 rfl ?_
  simp (disch := first | exact Nat.ne_of_beq_eq_false rfl | exact rfl | omega) only [nI_add, xa_sub, xa_mul, pk_div, nm_mod, xa_shr, xa_and7, xa_and1, xa_and255, xa_by_and, nI_m1, Nat.add_sub_cancel, Nat.reducePow, Nat.zero_add, Nat.add_zero, Nat.reduceAdd, Nat.reduceMul, Nat.reduceSub, xf_same, xq_ff, xq_fo, xf_1, xf_2, xs_1, xs_2, xs_same, xq_so, xj_1, xj_2, xj_same, xq_jo, xq_sa1, xq_same, xq_other, upd_s, oI_n, oI_s, xv_0, xv_1, xv_2, xv_3, xm_p1, xm_p2, xq_fp, xq_fn, List.filter_nil, Nat.reduceBEq, Bool.not_true, Bool.not_false, Bool.and_true, Bool.and_false, Bool.false_and, Bool.true_and, if_true, if_false, Bool.false_eq_true, reduceIte, xc_i, xc_j, xc_r, xc_n, List.nil_append, List.cons_append, Option.toList_some, Option.toList_none, nI_ltJ, nI_leJ, nI_eqJ, nI_ltz, nI_gez, nI_gtz, nI_lez, nI_eqz, m1_ltz, m1_gez, true_imp_iff, false_imp_iff, true_and, and_true, ne_eq, not_false_eq_true, not_true_eq_false, Nat.reduceEqDiff, Nat.reduceLT, Nat.reduceLeDiff, xf_102_57 hF, w3]
  with_reducible refine xm_go_blk b_X12_jetTypes_132 k_X12_jetTypes_132 ?_
  refine by_iload_n rfl ?_
  refine by_bipush cb_11 ?_
  refine by_ic_lt 161 rfl ?_
  simp (disch := first | exact Nat.ne_of_beq_eq_false rfl | exact rfl | omega) only [nI_add, xa_sub, xa_mul, pk_div, nm_mod, xa_shr, xa_and7, xa_and1, xa_and255, xa_by_and, nI_m1, Nat.add_sub_cancel, Nat.reducePow, Nat.zero_add, Nat.add_zero, Nat.reduceAdd, Nat.reduceMul, Nat.reduceSub, xf_same, xq_ff, xq_fo, xf_1, xf_2, xs_1, xs_2, xs_same, xq_so, xj_1, xj_2, xj_same, xq_jo, xq_sa1, xq_same, xq_other, upd_s, oI_n, oI_s, xv_0, xv_1, xv_2, xv_3, xm_p1, xm_p2, xq_fp, xq_fn, List.filter_nil, Nat.reduceBEq, Bool.not_true, Bool.not_false, Bool.and_true, Bool.and_false, Bool.false_and, Bool.true_and, if_true, if_false, Bool.false_eq_true, reduceIte, xc_i, xc_j, xc_r, xc_n, List.nil_append, List.cons_append, Option.toList_some, Option.toList_none, nI_ltJ, nI_leJ, nI_eqJ, nI_ltz, nI_gez, nI_gtz, nI_lez, nI_eqz, m1_ltz, m1_gez, true_imp_iff, false_imp_iff, true_and, and_true, ne_eq, not_false_eq_true, not_true_eq_false, Nat.reduceEqDiff, Nat.reduceLT, Nat.reduceLeDiff, xf_102_57 hF, w3]
  with_reducible refine xm_go_blk b_X12_jetTypes_138 k_X12_jetTypes_138 ?_
  refine by_iload_n rfl ?_
  refine by_bipush cb_16 ?_
  refine by_ic_eq 161 rfl ?_
  simp (disch := first | exact Nat.ne_of_beq_eq_false rfl | exact rfl | omega) only [nI_add, xa_sub, xa_mul, pk_div, nm_mod, xa_shr, xa_and7, xa_and1, xa_and255, xa_by_and, nI_m1, Nat.add_sub_cancel, Nat.reducePow, Nat.zero_add, Nat.add_zero, Nat.reduceAdd, Nat.reduceMul, Nat.reduceSub, xf_same, xq_ff, xq_fo, xf_1, xf_2, xs_1, xs_2, xs_same, xq_so, xj_1, xj_2, xj_same, xq_jo, xq_sa1, xq_same, xq_other, upd_s, oI_n, oI_s, xv_0, xv_1, xv_2, xv_3, xm_p1, xm_p2, xq_fp, xq_fn, List.filter_nil, Nat.reduceBEq, Bool.not_true, Bool.not_false, Bool.and_true, Bool.and_false, Bool.false_and, Bool.true_and, if_true, if_false, Bool.false_eq_true, reduceIte, xc_i, xc_j, xc_r, xc_n, List.nil_append, List.cons_append, Option.toList_some, Option.toList_none, nI_ltJ, nI_leJ, nI_eqJ, nI_ltz, nI_gez, nI_gtz, nI_lez, nI_eqz, m1_ltz, m1_gez, true_imp_iff, false_imp_iff, true_and, and_true, ne_eq, not_false_eq_true, not_true_eq_false, Nat.reduceEqDiff, Nat.reduceLT, Nat.reduceLeDiff, xf_102_57 hF, w3]
  with_reducible refine xm_go_blk b_X12_jetTypes_144 k_X12_jetTypes_144 ?_
  refine by_iload_n rfl ?_
  refine by_bipush cb_17 ?_
  refine by_ic_eq 161 rfl ?_
  simp (disch := first | exact Nat.ne_of_beq_eq_false rfl | exact rfl | omega) only [nI_add, xa_sub, xa_mul, pk_div, nm_mod, xa_shr, xa_and7, xa_and1, xa_and255, xa_by_and, nI_m1, Nat.add_sub_cancel, Nat.reducePow, Nat.zero_add, Nat.add_zero, Nat.reduceAdd, Nat.reduceMul, Nat.reduceSub, xf_same, xq_ff, xq_fo, xf_1, xf_2, xs_1, xs_2, xs_same, xq_so, xj_1, xj_2, xj_same, xq_jo, xq_sa1, xq_same, xq_other, upd_s, oI_n, oI_s, xv_0, xv_1, xv_2, xv_3, xm_p1, xm_p2, xq_fp, xq_fn, List.filter_nil, Nat.reduceBEq, Bool.not_true, Bool.not_false, Bool.and_true, Bool.and_false, Bool.false_and, Bool.true_and, if_true, if_false, Bool.false_eq_true, reduceIte, xc_i, xc_j, xc_r, xc_n, List.nil_append, List.cons_append, Option.toList_some, Option.toList_none, nI_ltJ, nI_leJ, nI_eqJ, nI_ltz, nI_gez, nI_gtz, nI_lez, nI_eqz, m1_ltz, m1_gez, true_imp_iff, false_imp_iff, true_and, and_true, ne_eq, not_false_eq_true, not_true_eq_false, Nat.reduceEqDiff, Nat.reduceLT, Nat.reduceLeDiff, xf_102_57 hF, w3]
  with_reducible refine xm_go_blk b_X12_jetTypes_150 k_X12_jetTypes_150 ?_
  refine by_iload_n rfl ?_
  refine by_bipush cb_24 ?_
  refine by_bipush cb_26 ?_
  refine by_ins3 cn_241 lk_12_211 (by rw [xe_cnt]; decide) is_319 np_319 (Nat.le_of_ble_eq_true rfl) ?_
  refine sp_within ?_
  rw [if_neg (by decide)]
  with_reducible refine xm_go_blk b_X12_jetTypes_158 k_X12_jetTypes_158 ?_
  refine by_if_eq 168 rfl ?_
  simp (disch := first | exact Nat.ne_of_beq_eq_false rfl | exact rfl | omega) only [nI_add, xa_sub, xa_mul, pk_div, nm_mod, xa_shr, xa_and7, xa_and1, xa_and255, xa_by_and, nI_m1, Nat.add_sub_cancel, Nat.reducePow, Nat.zero_add, Nat.add_zero, Nat.reduceAdd, Nat.reduceMul, Nat.reduceSub, xf_same, xq_ff, xq_fo, xf_1, xf_2, xs_1, xs_2, xs_same, xq_so, xj_1, xj_2, xj_same, xq_jo, xq_sa1, xq_same, xq_other, upd_s, oI_n, oI_s, xv_0, xv_1, xv_2, xv_3, xm_p1, xm_p2, xq_fp, xq_fn, List.filter_nil, Nat.reduceBEq, Bool.not_true, Bool.not_false, Bool.and_true, Bool.and_false, Bool.false_and, Bool.true_and, if_true, if_false, Bool.false_eq_true, reduceIte, xc_i, xc_j, xc_r, xc_n, List.nil_append, List.cons_append, Option.toList_some, Option.toList_none, nI_ltJ, nI_leJ, nI_eqJ, nI_ltz, nI_gez, nI_gtz, nI_lez, nI_eqz, m1_ltz, m1_gez, true_imp_iff, false_imp_iff, true_and, and_true, ne_eq, not_false_eq_true, not_true_eq_false, Nat.reduceEqDiff, Nat.reduceLT, Nat.reduceLeDiff, xf_102_57 hF, w3]
  with_reducible refine xm_go_blk b_X12_jetTypes_168 k_X12_jetTypes_168 ?_
  refine by_iload_n rfl ?_
  refine by_bipush cb_16 ?_
  refine by_ic_ge 189 rfl ?_
  simp (disch := first | exact Nat.ne_of_beq_eq_false rfl | exact rfl | omega) only [nI_add, xa_sub, xa_mul, pk_div, nm_mod, xa_shr, xa_and7, xa_and1, xa_and255, xa_by_and, nI_m1, Nat.add_sub_cancel, Nat.reducePow, Nat.zero_add, Nat.add_zero, Nat.reduceAdd, Nat.reduceMul, Nat.reduceSub, xf_same, xq_ff, xq_fo, xf_1, xf_2, xs_1, xs_2, xs_same, xq_so, xj_1, xj_2, xj_same, xq_jo, xq_sa1, xq_same, xq_other, upd_s, oI_n, oI_s, xv_0, xv_1, xv_2, xv_3, xm_p1, xm_p2, xq_fp, xq_fn, List.filter_nil, Nat.reduceBEq, Bool.not_true, Bool.not_false, Bool.and_true, Bool.and_false, Bool.false_and, Bool.true_and, if_true, if_false, Bool.false_eq_true, reduceIte, xc_i, xc_j, xc_r, xc_n, List.nil_append, List.cons_append, Option.toList_some, Option.toList_none, nI_ltJ, nI_leJ, nI_eqJ, nI_ltz, nI_gez, nI_gtz, nI_lez, nI_eqz, m1_ltz, m1_gez, true_imp_iff, false_imp_iff, true_and, and_true, ne_eq, not_false_eq_true, not_true_eq_false, Nat.reduceEqDiff, Nat.reduceLT, Nat.reduceLeDiff, xf_102_57 hF, w3]
  with_reducible refine xm_go_blk b_X12_jetTypes_189 k_X12_jetTypes_189 ?_
  refine by_iload_n rfl ?_
  refine by_bipush cb_18 ?_
  refine by_ic_eq 206 rfl ?_
  simp (disch := first | exact Nat.ne_of_beq_eq_false rfl | exact rfl | omega) only [nI_add, xa_sub, xa_mul, pk_div, nm_mod, xa_shr, xa_and7, xa_and1, xa_and255, xa_by_and, nI_m1, Nat.add_sub_cancel, Nat.reducePow, Nat.zero_add, Nat.add_zero, Nat.reduceAdd, Nat.reduceMul, Nat.reduceSub, xf_same, xq_ff, xq_fo, xf_1, xf_2, xs_1, xs_2, xs_same, xq_so, xj_1, xj_2, xj_same, xq_jo, xq_sa1, xq_same, xq_other, upd_s, oI_n, oI_s, xv_0, xv_1, xv_2, xv_3, xm_p1, xm_p2, xq_fp, xq_fn, List.filter_nil, Nat.reduceBEq, Bool.not_true, Bool.not_false, Bool.and_true, Bool.and_false, Bool.false_and, Bool.true_and, if_true, if_false, Bool.false_eq_true, reduceIte, xc_i, xc_j, xc_r, xc_n, List.nil_append, List.cons_append, Option.toList_some, Option.toList_none, nI_ltJ, nI_leJ, nI_eqJ, nI_ltz, nI_gez, nI_gtz, nI_lez, nI_eqz, m1_ltz, m1_gez, true_imp_iff, false_imp_iff, true_and, and_true, ne_eq, not_false_eq_true, not_true_eq_false, Nat.reduceEqDiff, Nat.reduceLT, Nat.reduceLeDiff, xf_102_57 hF, w3]
  with_reducible refine xm_go_blk b_X12_jetTypes_195 k_X12_jetTypes_195 ?_
  refine by_iload_n rfl ?_
  refine by_bipush cb_27 ?_
  refine by_bipush cb_29 ?_
  refine by_ins3 cn_241 lk_12_211 (by rw [xe_cnt]; decide) is_319 np_319 (Nat.le_of_ble_eq_true rfl) ?_
  refine sp_within ?_
  rw [if_neg (by decide)]
  with_reducible refine xm_go_blk b_X12_jetTypes_203 k_X12_jetTypes_203 ?_
  refine by_if_eq 220 rfl ?_
  simp (disch := first | exact Nat.ne_of_beq_eq_false rfl | exact rfl | omega) only [nI_add, xa_sub, xa_mul, pk_div, nm_mod, xa_shr, xa_and7, xa_and1, xa_and255, xa_by_and, nI_m1, Nat.add_sub_cancel, Nat.reducePow, Nat.zero_add, Nat.add_zero, Nat.reduceAdd, Nat.reduceMul, Nat.reduceSub, xf_same, xq_ff, xq_fo, xf_1, xf_2, xs_1, xs_2, xs_same, xq_so, xj_1, xj_2, xj_same, xq_jo, xq_sa1, xq_same, xq_other, upd_s, oI_n, oI_s, xv_0, xv_1, xv_2, xv_3, xm_p1, xm_p2, xq_fp, xq_fn, List.filter_nil, Nat.reduceBEq, Bool.not_true, Bool.not_false, Bool.and_true, Bool.and_false, Bool.false_and, Bool.true_and, if_true, if_false, Bool.false_eq_true, reduceIte, xc_i, xc_j, xc_r, xc_n, List.nil_append, List.cons_append, Option.toList_some, Option.toList_none, nI_ltJ, nI_leJ, nI_eqJ, nI_ltz, nI_gez, nI_gtz, nI_lez, nI_eqz, m1_ltz, m1_gez, true_imp_iff, false_imp_iff, true_and, and_true, ne_eq, not_false_eq_true, not_true_eq_false, Nat.reduceEqDiff, Nat.reduceLT, Nat.reduceLeDiff, xf_102_57 hF, w3]
  with_reducible refine xm_go_blk b_X12_jetTypes_220 k_X12_jetTypes_220 ?_
  refine by_iload_n rfl ?_
  refine by_bipush cb_23 ?_
  refine by_ic_ge 237 rfl ?_
  simp (disch := first | exact Nat.ne_of_beq_eq_false rfl | exact rfl | omega) only [nI_add, xa_sub, xa_mul, pk_div, nm_mod, xa_shr, xa_and7, xa_and1, xa_and255, xa_by_and, nI_m1, Nat.add_sub_cancel, Nat.reducePow, Nat.zero_add, Nat.add_zero, Nat.reduceAdd, Nat.reduceMul, Nat.reduceSub, xf_same, xq_ff, xq_fo, xf_1, xf_2, xs_1, xs_2, xs_same, xq_so, xj_1, xj_2, xj_same, xq_jo, xq_sa1, xq_same, xq_other, upd_s, oI_n, oI_s, xv_0, xv_1, xv_2, xv_3, xm_p1, xm_p2, xq_fp, xq_fn, List.filter_nil, Nat.reduceBEq, Bool.not_true, Bool.not_false, Bool.and_true, Bool.and_false, Bool.false_and, Bool.true_and, if_true, if_false, Bool.false_eq_true, reduceIte, xc_i, xc_j, xc_r, xc_n, List.nil_append, List.cons_append, Option.toList_some, Option.toList_none, nI_ltJ, nI_leJ, nI_eqJ, nI_ltz, nI_gez, nI_gtz, nI_lez, nI_eqz, m1_ltz, m1_gez, true_imp_iff, false_imp_iff, true_and, and_true, ne_eq, not_false_eq_true, not_true_eq_false, Nat.reduceEqDiff, Nat.reduceLT, Nat.reduceLeDiff, xf_102_57 hF, w3]
  with_reducible refine xm_go_blk b_X12_jetTypes_237 k_X12_jetTypes_237 ?_
  refine by_iload_n rfl ?_
  refine by_bipush cb_30 ?_
  refine by_ic_eq 249 rfl ?_
  simp (disch := first | exact Nat.ne_of_beq_eq_false rfl | exact rfl | omega) only [nI_add, xa_sub, xa_mul, pk_div, nm_mod, xa_shr, xa_and7, xa_and1, xa_and255, xa_by_and, nI_m1, Nat.add_sub_cancel, Nat.reducePow, Nat.zero_add, Nat.add_zero, Nat.reduceAdd, Nat.reduceMul, Nat.reduceSub, xf_same, xq_ff, xq_fo, xf_1, xf_2, xs_1, xs_2, xs_same, xq_so, xj_1, xj_2, xj_same, xq_jo, xq_sa1, xq_same, xq_other, upd_s, oI_n, oI_s, xv_0, xv_1, xv_2, xv_3, xm_p1, xm_p2, xq_fp, xq_fn, List.filter_nil, Nat.reduceBEq, Bool.not_true, Bool.not_false, Bool.and_true, Bool.and_false, Bool.false_and, Bool.true_and, if_true, if_false, Bool.false_eq_true, reduceIte, xc_i, xc_j, xc_r, xc_n, List.nil_append, List.cons_append, Option.toList_some, Option.toList_none, nI_ltJ, nI_leJ, nI_eqJ, nI_ltz, nI_gez, nI_gtz, nI_lez, nI_eqz, m1_ltz, m1_gez, true_imp_iff, false_imp_iff, true_and, and_true, ne_eq, not_false_eq_true, not_true_eq_false, Nat.reduceEqDiff, Nat.reduceLT, Nat.reduceLeDiff, xf_102_57 hF, w3]
  with_reducible refine xm_go_blk b_X12_jetTypes_249 k_X12_jetTypes_249 ?_
  refine by_iconst ci_0 ?_
  refine by_istore (by rw [ml_241]; decide) ?_
  refine by_goto 348 rfl ?_
  simp (disch := first | exact Nat.ne_of_beq_eq_false rfl | exact rfl | omega) only [nI_add, xa_sub, xa_mul, pk_div, nm_mod, xa_shr, xa_and7, xa_and1, xa_and255, xa_by_and, nI_m1, Nat.add_sub_cancel, Nat.reducePow, Nat.zero_add, Nat.add_zero, Nat.reduceAdd, Nat.reduceMul, Nat.reduceSub, xf_same, xq_ff, xq_fo, xf_1, xf_2, xs_1, xs_2, xs_same, xq_so, xj_1, xj_2, xj_same, xq_jo, xq_sa1, xq_same, xq_other, upd_s, oI_n, oI_s, xv_0, xv_1, xv_2, xv_3, xm_p1, xm_p2, xq_fp, xq_fn, List.filter_nil, Nat.reduceBEq, Bool.not_true, Bool.not_false, Bool.and_true, Bool.and_false, Bool.false_and, Bool.true_and, if_true, if_false, Bool.false_eq_true, reduceIte, xc_i, xc_j, xc_r, xc_n, List.nil_append, List.cons_append, Option.toList_some, Option.toList_none, xf_102_57 hF, w3]
  refine xm_go_wk (by simp [Value.category]) (mj_348 (s := 0) (t := 3 + m + 1) hF hn (mjC_0 hg hp hm ?_ ?_))
  · exact ho
  · rw [show 3 + m + 1 = 3 + m + 1 by omega]; exact (hw (3 + m) (by omega)).2
theorem mj_31 (hF : XF h) (hg : mgr h c k l r rt es) (hn : n < 2000) (ho : ty_den c k l r tO 0) (hK : K = 31) (hm : m < 4) (hw : ∀ j, j < 9 → h.1 144 j = nI (j + 1) ∧ ty_den c k l r (ty_wd j) (j + 1)) (hp : mjC n c (4 * K + m) k l r es h post) :
    xm_go (XE sc) (xm_T (XE sc) (d + 2)) 241 post 81 [(0, .ref 102), (1, .int (nI n)), (2, .int (nI K)), (3, .int (nI (3 + m))), (4, .int (nI (3 + m + 1))), (5, .int (nI (3 + m + 1 + 1))), (6, .int (nI (3 + m + 1))), (7, .int (nI (3 + m + 1)))] [] h := by
  subst hK
  have w3 := (hw 3 (by decide)).1
  with_reducible refine xm_go_blk b_X12_jetTypes_81 k_X12_jetTypes_81 ?_
  refine by_iload_n rfl ?_
  refine by_bipush cb_7 ?_
  refine by_ic_ge 98 rfl ?_
  simp (disch := first | exact Nat.ne_of_beq_eq_false rfl | exact rfl | omega) only [nI_add, xa_sub, xa_mul, pk_div, nm_mod, xa_shr, xa_and7, xa_and1, xa_and255, xa_by_and, nI_m1, Nat.add_sub_cancel, Nat.reducePow, Nat.zero_add, Nat.add_zero, Nat.reduceAdd, Nat.reduceMul, Nat.reduceSub, xf_same, xq_ff, xq_fo, xf_1, xf_2, xs_1, xs_2, xs_same, xq_so, xj_1, xj_2, xj_same, xq_jo, xq_sa1, xq_same, xq_other, upd_s, oI_n, oI_s, xv_0, xv_1, xv_2, xv_3, xm_p1, xm_p2, xq_fp, xq_fn, List.filter_nil, Nat.reduceBEq, Bool.not_true, Bool.not_false, Bool.and_true, Bool.and_false, Bool.false_and, Bool.true_and, if_true, if_false, Bool.false_eq_true, reduceIte, xc_i, xc_j, xc_r, xc_n, List.nil_append, List.cons_append, Option.toList_some, Option.toList_none, nI_ltJ, nI_leJ, nI_eqJ, nI_ltz, nI_gez, nI_gtz, nI_lez, nI_eqz, m1_ltz, m1_gez, true_imp_iff, false_imp_iff, true_and, and_true, ne_eq, not_false_eq_true, not_true_eq_false, Nat.reduceEqDiff, Nat.reduceLT, Nat.reduceLeDiff, xf_102_57 hF, w3]
  with_reducible refine xm_go_blk b_X12_jetTypes_98 k_X12_jetTypes_98 ?_
  refine by_iload_n rfl ?_
  refine by_bipush cb_9 ?_
  refine by_ic_ge 132 rfl ?_
  simp (disch := first | exact Nat.ne_of_beq_eq_false rfl | exact rfl | omega) only [nI_add, xa_sub, xa_mul, pk_div, nm_mod, xa_shr, xa_and7, xa_and1, xa_and255, xa_by_and, nI_m1, Nat.add_sub_cancel, Nat.reducePow, Nat.zero_add, Nat.add_zero, Nat.reduceAdd, Nat.reduceMul, Nat.reduceSub, xf_same, xq_ff, xq_fo, xf_1, xf_2, xs_1, xs_2, xs_same, xq_so, xj_1, xj_2, xj_same, xq_jo, xq_sa1, xq_same, xq_other, upd_s, oI_n, oI_s, xv_0, xv_1, xv_2, xv_3, xm_p1, xm_p2, xq_fp, xq_fn, List.filter_nil, Nat.reduceBEq, Bool.not_true, Bool.not_false, Bool.and_true, Bool.and_false, Bool.false_and, Bool.true_and, if_true, if_false, Bool.false_eq_true, reduceIte, xc_i, xc_j, xc_r, xc_n, List.nil_append, List.cons_append, Option.toList_some, Option.toList_none, nI_ltJ, nI_leJ, nI_eqJ, nI_ltz, nI_gez, nI_gtz, nI_lez, nI_eqz, m1_ltz, m1_gez, true_imp_iff, false_imp_iff, true_and, and_true, ne_eq, not_false_eq_true, not_true_eq_false, Nat.reduceEqDiff, Nat.reduceLT, Nat.reduceLeDiff, xf_102_57 hF, w3]
  with_reducible refine xm_go_blk b_X12_jetTypes_132 k_X12_jetTypes_132 ?_
  refine by_iload_n rfl ?_
  refine by_bipush cb_11 ?_
  refine by_ic_lt 161 rfl ?_
  simp (disch := first | exact Nat.ne_of_beq_eq_false rfl | exact rfl | omega) only [nI_add, xa_sub, xa_mul, pk_div, nm_mod, xa_shr, xa_and7, xa_and1, xa_and255, xa_by_and, nI_m1, Nat.add_sub_cancel, Nat.reducePow, Nat.zero_add, Nat.add_zero, Nat.reduceAdd, Nat.reduceMul, Nat.reduceSub, xf_same, xq_ff, xq_fo, xf_1, xf_2, xs_1, xs_2, xs_same, xq_so, xj_1, xj_2, xj_same, xq_jo, xq_sa1, xq_same, xq_other, upd_s, oI_n, oI_s, xv_0, xv_1, xv_2, xv_3, xm_p1, xm_p2, xq_fp, xq_fn, List.filter_nil, Nat.reduceBEq, Bool.not_true, Bool.not_false, Bool.and_true, Bool.and_false, Bool.false_and, Bool.true_and, if_true, if_false, Bool.false_eq_true, reduceIte, xc_i, xc_j, xc_r, xc_n, List.nil_append, List.cons_append, Option.toList_some, Option.toList_none, nI_ltJ, nI_leJ, nI_eqJ, nI_ltz, nI_gez, nI_gtz, nI_lez, nI_eqz, m1_ltz, m1_gez, true_imp_iff, false_imp_iff, true_and, and_true, ne_eq, not_false_eq_true, not_true_eq_false, Nat.reduceEqDiff, Nat.reduceLT, Nat.reduceLeDiff, xf_102_57 hF, w3]
  with_reducible refine xm_go_blk b_X12_jetTypes_138 k_X12_jetTypes_138 ?_
  refine by_iload_n rfl ?_
  refine by_bipush cb_16 ?_
  refine by_ic_eq 161 rfl ?_
  simp (disch := first | exact Nat.ne_of_beq_eq_false rfl | exact rfl | omega) only [nI_add, xa_sub, xa_mul, pk_div, nm_mod, xa_shr, xa_and7, xa_and1, xa_and255, xa_by_and, nI_m1, Nat.add_sub_cancel, Nat.reducePow, Nat.zero_add, Nat.add_zero, Nat.reduceAdd, Nat.reduceMul, Nat.reduceSub, xf_same, xq_ff, xq_fo, xf_1, xf_2, xs_1, xs_2, xs_same, xq_so, xj_1, xj_2, xj_same, xq_jo, xq_sa1, xq_same, xq_other, upd_s, oI_n, oI_s, xv_0, xv_1, xv_2, xv_3, xm_p1, xm_p2, xq_fp, xq_fn, List.filter_nil, Nat.reduceBEq, Bool.not_true, Bool.not_false, Bool.and_true, Bool.and_false, Bool.false_and, Bool.true_and, if_true, if_false, Bool.false_eq_true, reduceIte, xc_i, xc_j, xc_r, xc_n, List.nil_append, List.cons_append, Option.toList_some, Option.toList_none, nI_ltJ, nI_leJ, nI_eqJ, nI_ltz, nI_gez, nI_gtz, nI_lez, nI_eqz, m1_ltz, m1_gez, true_imp_iff, false_imp_iff, true_and, and_true, ne_eq, not_false_eq_true, not_true_eq_false, Nat.reduceEqDiff, Nat.reduceLT, Nat.reduceLeDiff, xf_102_57 hF, w3]
  with_reducible refine xm_go_blk b_X12_jetTypes_144 k_X12_jetTypes_144 ?_
  refine by_iload_n rfl ?_
  refine by_bipush cb_17 ?_
  refine by_ic_eq 161 rfl ?_
  simp (disch := first | exact Nat.ne_of_beq_eq_false rfl | exact rfl | omega) only [nI_add, xa_sub, xa_mul, pk_div, nm_mod, xa_shr, xa_and7, xa_and1, xa_and255, xa_by_and, nI_m1, Nat.add_sub_cancel, Nat.reducePow, Nat.zero_add, Nat.add_zero, Nat.reduceAdd, Nat.reduceMul, Nat.reduceSub, xf_same, xq_ff, xq_fo, xf_1, xf_2, xs_1, xs_2, xs_same, xq_so, xj_1, xj_2, xj_same, xq_jo, xq_sa1, xq_same, xq_other, upd_s, oI_n, oI_s, xv_0, xv_1, xv_2, xv_3, xm_p1, xm_p2, xq_fp, xq_fn, List.filter_nil, Nat.reduceBEq, Bool.not_true, Bool.not_false, Bool.and_true, Bool.and_false, Bool.false_and, Bool.true_and, if_true, if_false, Bool.false_eq_true, reduceIte, xc_i, xc_j, xc_r, xc_n, List.nil_append, List.cons_append, Option.toList_some, Option.toList_none, nI_ltJ, nI_leJ, nI_eqJ, nI_ltz, nI_gez, nI_gtz, nI_lez, nI_eqz, m1_ltz, m1_gez, true_imp_iff, false_imp_iff, true_and, and_true, ne_eq, not_false_eq_true, not_true_eq_false, Nat.reduceEqDiff, Nat.reduceLT, Nat.reduceLeDiff, xf_102_57 hF, w3]
  with_reducible refine xm_go_blk b_X12_jetTypes_150 k_X12_jetTypes_150 ?_
  refine by_iload_n rfl ?_
  refine by_bipush cb_24 ?_
  refine by_bipush cb_26 ?_
  refine by_ins3 cn_241 lk_12_211 (by rw [xe_cnt]; decide) is_319 np_319 (Nat.le_of_ble_eq_true rfl) ?_
  refine sp_within ?_
  rw [if_neg (by decide)]
  with_reducible refine xm_go_blk b_X12_jetTypes_158 k_X12_jetTypes_158 ?_
  refine by_if_eq 168 rfl ?_
  simp (disch := first | exact Nat.ne_of_beq_eq_false rfl | exact rfl | omega) only [nI_add, xa_sub, xa_mul, pk_div, nm_mod, xa_shr, xa_and7, xa_and1, xa_and255, xa_by_and, nI_m1, Nat.add_sub_cancel, Nat.reducePow, Nat.zero_add, Nat.add_zero, Nat.reduceAdd, Nat.reduceMul, Nat.reduceSub, xf_same, xq_ff, xq_fo, xf_1, xf_2, xs_1, xs_2, xs_same, xq_so, xj_1, xj_2, xj_same, xq_jo, xq_sa1, xq_same, xq_other, upd_s, oI_n, oI_s, xv_0, xv_1, xv_2, xv_3, xm_p1, xm_p2, xq_fp, xq_fn, List.filter_nil, Nat.reduceBEq, Bool.not_true, Bool.not_false, Bool.and_true, Bool.and_false, Bool.false_and, Bool.true_and, if_true, if_false, Bool.false_eq_true, reduceIte, xc_i, xc_j, xc_r, xc_n, List.nil_append, List.cons_append, Option.toList_some, Option.toList_none, nI_ltJ, nI_leJ, nI_eqJ, nI_ltz, nI_gez, nI_gtz, nI_lez, nI_eqz, m1_ltz, m1_gez, true_imp_iff, false_imp_iff, true_and, and_true, ne_eq, not_false_eq_true, not_true_eq_false, Nat.reduceEqDiff, Nat.reduceLT, Nat.reduceLeDiff, xf_102_57 hF, w3]
  with_reducible refine xm_go_blk b_X12_jetTypes_168 k_X12_jetTypes_168 ?_
  refine by_iload_n rfl ?_
  refine by_bipush cb_16 ?_
  refine by_ic_ge 189 rfl ?_
  simp (disch := first | exact Nat.ne_of_beq_eq_false rfl | exact rfl | omega) only [nI_add, xa_sub, xa_mul, pk_div, nm_mod, xa_shr, xa_and7, xa_and1, xa_and255, xa_by_and, nI_m1, Nat.add_sub_cancel, Nat.reducePow, Nat.zero_add, Nat.add_zero, Nat.reduceAdd, Nat.reduceMul, Nat.reduceSub, xf_same, xq_ff, xq_fo, xf_1, xf_2, xs_1, xs_2, xs_same, xq_so, xj_1, xj_2, xj_same, xq_jo, xq_sa1, xq_same, xq_other, upd_s, oI_n, oI_s, xv_0, xv_1, xv_2, xv_3, xm_p1, xm_p2, xq_fp, xq_fn, List.filter_nil, Nat.reduceBEq, Bool.not_true, Bool.not_false, Bool.and_true, Bool.and_false, Bool.false_and, Bool.true_and, if_true, if_false, Bool.false_eq_true, reduceIte, xc_i, xc_j, xc_r, xc_n, List.nil_append, List.cons_append, Option.toList_some, Option.toList_none, nI_ltJ, nI_leJ, nI_eqJ, nI_ltz, nI_gez, nI_gtz, nI_lez, nI_eqz, m1_ltz, m1_gez, true_imp_iff, false_imp_iff, true_and, and_true, ne_eq, not_false_eq_true, not_true_eq_false, Nat.reduceEqDiff, Nat.reduceLT, Nat.reduceLeDiff, xf_102_57 hF, w3]
  with_reducible refine xm_go_blk b_X12_jetTypes_189 k_X12_jetTypes_189 ?_
  refine by_iload_n rfl ?_
  refine by_bipush cb_18 ?_
  refine by_ic_eq 206 rfl ?_
  simp (disch := first | exact Nat.ne_of_beq_eq_false rfl | exact rfl | omega) only [nI_add, xa_sub, xa_mul, pk_div, nm_mod, xa_shr, xa_and7, xa_and1, xa_and255, xa_by_and, nI_m1, Nat.add_sub_cancel, Nat.reducePow, Nat.zero_add, Nat.add_zero, Nat.reduceAdd, Nat.reduceMul, Nat.reduceSub, xf_same, xq_ff, xq_fo, xf_1, xf_2, xs_1, xs_2, xs_same, xq_so, xj_1, xj_2, xj_same, xq_jo, xq_sa1, xq_same, xq_other, upd_s, oI_n, oI_s, xv_0, xv_1, xv_2, xv_3, xm_p1, xm_p2, xq_fp, xq_fn, List.filter_nil, Nat.reduceBEq, Bool.not_true, Bool.not_false, Bool.and_true, Bool.and_false, Bool.false_and, Bool.true_and, if_true, if_false, Bool.false_eq_true, reduceIte, xc_i, xc_j, xc_r, xc_n, List.nil_append, List.cons_append, Option.toList_some, Option.toList_none, nI_ltJ, nI_leJ, nI_eqJ, nI_ltz, nI_gez, nI_gtz, nI_lez, nI_eqz, m1_ltz, m1_gez, true_imp_iff, false_imp_iff, true_and, and_true, ne_eq, not_false_eq_true, not_true_eq_false, Nat.reduceEqDiff, Nat.reduceLT, Nat.reduceLeDiff, xf_102_57 hF, w3]
  with_reducible refine xm_go_blk b_X12_jetTypes_195 k_X12_jetTypes_195 ?_
  refine by_iload_n rfl ?_
  refine by_bipush cb_27 ?_
  refine by_bipush cb_29 ?_
  refine by_ins3 cn_241 lk_12_211 (by rw [xe_cnt]; decide) is_319 np_319 (Nat.le_of_ble_eq_true rfl) ?_
  refine sp_within ?_
  rw [if_neg (by decide)]
  with_reducible refine xm_go_blk b_X12_jetTypes_203 k_X12_jetTypes_203 ?_
  refine by_if_eq 220 rfl ?_
  simp (disch := first | exact Nat.ne_of_beq_eq_false rfl | exact rfl | omega) only [nI_add, xa_sub, xa_mul, pk_div, nm_mod, xa_shr, xa_and7, xa_and1, xa_and255, xa_by_and, nI_m1, Nat.add_sub_cancel, Nat.reducePow, Nat.zero_add, Nat.add_zero, Nat.reduceAdd, Nat.reduceMul, Nat.reduceSub, xf_same, xq_ff, xq_fo, xf_1, xf_2, xs_1, xs_2, xs_same, xq_so, xj_1, xj_2, xj_same, xq_jo, xq_sa1, xq_same, xq_other, upd_s, oI_n, oI_s, xv_0, xv_1, xv_2, xv_3, xm_p1, xm_p2, xq_fp, xq_fn, List.filter_nil, Nat.reduceBEq, Bool.not_true, Bool.not_false, Bool.and_true, Bool.and_false, Bool.false_and, Bool.true_and, if_true, if_false, Bool.false_eq_true, reduceIte, xc_i, xc_j, xc_r, xc_n, List.nil_append, List.cons_append, Option.toList_some, Option.toList_none, nI_ltJ, nI_leJ, nI_eqJ, nI_ltz, nI_gez, nI_gtz, nI_lez, nI_eqz, m1_ltz, m1_gez, true_imp_iff, false_imp_iff, true_and, and_true, ne_eq, not_false_eq_true, not_true_eq_false, Nat.reduceEqDiff, Nat.reduceLT, Nat.reduceLeDiff, xf_102_57 hF, w3]
  with_reducible refine xm_go_blk b_X12_jetTypes_220 k_X12_jetTypes_220 ?_
  refine by_iload_n rfl ?_
  refine by_bipush cb_23 ?_
  refine by_ic_ge 237 rfl ?_
  simp (disch := first | exact Nat.ne_of_beq_eq_false rfl | exact rfl | omega) only [nI_add, xa_sub, xa_mul, pk_div, nm_mod, xa_shr, xa_and7, xa_and1, xa_and255, xa_by_and, nI_m1, Nat.add_sub_cancel, Nat.reducePow, Nat.zero_add, Nat.add_zero, Nat.reduceAdd, Nat.reduceMul, Nat.reduceSub, xf_same, xq_ff, xq_fo, xf_1, xf_2, xs_1, xs_2, xs_same, xq_so, xj_1, xj_2, xj_same, xq_jo, xq_sa1, xq_same, xq_other, upd_s, oI_n, oI_s, xv_0, xv_1, xv_2, xv_3, xm_p1, xm_p2, xq_fp, xq_fn, List.filter_nil, Nat.reduceBEq, Bool.not_true, Bool.not_false, Bool.and_true, Bool.and_false, Bool.false_and, Bool.true_and, if_true, if_false, Bool.false_eq_true, reduceIte, xc_i, xc_j, xc_r, xc_n, List.nil_append, List.cons_append, Option.toList_some, Option.toList_none, nI_ltJ, nI_leJ, nI_eqJ, nI_ltz, nI_gez, nI_gtz, nI_lez, nI_eqz, m1_ltz, m1_gez, true_imp_iff, false_imp_iff, true_and, and_true, ne_eq, not_false_eq_true, not_true_eq_false, Nat.reduceEqDiff, Nat.reduceLT, Nat.reduceLeDiff, xf_102_57 hF, w3]
  with_reducible refine xm_go_blk b_X12_jetTypes_237 k_X12_jetTypes_237 ?_
  refine by_iload_n rfl ?_
  refine by_bipush cb_30 ?_
  refine by_ic_eq 249 rfl ?_
  simp (disch := first | exact Nat.ne_of_beq_eq_false rfl | exact rfl | omega) only [nI_add, xa_sub, xa_mul, pk_div, nm_mod, xa_shr, xa_and7, xa_and1, xa_and255, xa_by_and, nI_m1, Nat.add_sub_cancel, Nat.reducePow, Nat.zero_add, Nat.add_zero, Nat.reduceAdd, Nat.reduceMul, Nat.reduceSub, xf_same, xq_ff, xq_fo, xf_1, xf_2, xs_1, xs_2, xs_same, xq_so, xj_1, xj_2, xj_same, xq_jo, xq_sa1, xq_same, xq_other, upd_s, oI_n, oI_s, xv_0, xv_1, xv_2, xv_3, xm_p1, xm_p2, xq_fp, xq_fn, List.filter_nil, Nat.reduceBEq, Bool.not_true, Bool.not_false, Bool.and_true, Bool.and_false, Bool.false_and, Bool.true_and, if_true, if_false, Bool.false_eq_true, reduceIte, xc_i, xc_j, xc_r, xc_n, List.nil_append, List.cons_append, Option.toList_some, Option.toList_none, nI_ltJ, nI_leJ, nI_eqJ, nI_ltz, nI_gez, nI_gtz, nI_lez, nI_eqz, m1_ltz, m1_gez, true_imp_iff, false_imp_iff, true_and, and_true, ne_eq, not_false_eq_true, not_true_eq_false, Nat.reduceEqDiff, Nat.reduceLT, Nat.reduceLeDiff, xf_102_57 hF, w3]
  with_reducible refine xm_go_blk b_X12_jetTypes_243 k_X12_jetTypes_243 ?_
  refine by_iload_n rfl ?_
  refine by_bipush cb_31 ?_
  refine by_ic_ne 255 rfl ?_
  simp (disch := first | exact Nat.ne_of_beq_eq_false rfl | exact rfl | omega) only [nI_add, xa_sub, xa_mul, pk_div, nm_mod, xa_shr, xa_and7, xa_and1, xa_and255, xa_by_and, nI_m1, Nat.add_sub_cancel, Nat.reducePow, Nat.zero_add, Nat.add_zero, Nat.reduceAdd, Nat.reduceMul, Nat.reduceSub, xf_same, xq_ff, xq_fo, xf_1, xf_2, xs_1, xs_2, xs_same, xq_so, xj_1, xj_2, xj_same, xq_jo, xq_sa1, xq_same, xq_other, upd_s, oI_n, oI_s, xv_0, xv_1, xv_2, xv_3, xm_p1, xm_p2, xq_fp, xq_fn, List.filter_nil, Nat.reduceBEq, Bool.not_true, Bool.not_false, Bool.and_true, Bool.and_false, Bool.false_and, Bool.true_and, if_true, if_false, Bool.false_eq_true, reduceIte, xc_i, xc_j, xc_r, xc_n, List.nil_append, List.cons_append, Option.toList_some, Option.toList_none, nI_ltJ, nI_leJ, nI_eqJ, nI_ltz, nI_gez, nI_gtz, nI_lez, nI_eqz, m1_ltz, m1_gez, true_imp_iff, false_imp_iff, true_and, and_true, ne_eq, not_false_eq_true, not_true_eq_false, Nat.reduceEqDiff, Nat.reduceLT, Nat.reduceLeDiff, xf_102_57 hF, w3]
  with_reducible refine xm_go_blk b_X12_jetTypes_249 k_X12_jetTypes_249 ?_
  refine by_iconst ci_0 ?_
  refine by_istore (by rw [ml_241]; decide) ?_
  refine by_goto 348 rfl ?_
  simp (disch := first | exact Nat.ne_of_beq_eq_false rfl | exact rfl | omega) only [nI_add, xa_sub, xa_mul, pk_div, nm_mod, xa_shr, xa_and7, xa_and1, xa_and255, xa_by_and, nI_m1, Nat.add_sub_cancel, Nat.reducePow, Nat.zero_add, Nat.add_zero, Nat.reduceAdd, Nat.reduceMul, Nat.reduceSub, xf_same, xq_ff, xq_fo, xf_1, xf_2, xs_1, xs_2, xs_same, xq_so, xj_1, xj_2, xj_same, xq_jo, xq_sa1, xq_same, xq_other, upd_s, oI_n, oI_s, xv_0, xv_1, xv_2, xv_3, xm_p1, xm_p2, xq_fp, xq_fn, List.filter_nil, Nat.reduceBEq, Bool.not_true, Bool.not_false, Bool.and_true, Bool.and_false, Bool.false_and, Bool.true_and, if_true, if_false, Bool.false_eq_true, reduceIte, xc_i, xc_j, xc_r, xc_n, List.nil_append, List.cons_append, Option.toList_some, Option.toList_none, xf_102_57 hF, w3]
  refine xm_go_wk (by simp [Value.category]) (mj_348 (s := 0) (t := 3 + m + 1) hF hn (mjC_0 hg hp hm ?_ ?_))
  · exact ho
  · rw [show 3 + m + 1 = 3 + m + 1 by omega]; exact (hw (3 + m) (by omega)).2
theorem mj_36 (hF : XF h) (hg : mgr h c k l r rt es) (hn : n < 2000) (ho : ty_den c k l r tO 0) (hK : K = 36) (hm : m < 4) (hw : ∀ j, j < 9 → h.1 144 j = nI (j + 1) ∧ ty_den c k l r (ty_wd j) (j + 1)) (hp : mjC n c (4 * K + m) k l r es h post) :
    xm_go (XE sc) (xm_T (XE sc) (d + 2)) 241 post 81 [(0, .ref 102), (1, .int (nI n)), (2, .int (nI K)), (3, .int (nI (3 + m))), (4, .int (nI (3 + m + 1))), (5, .int (nI (3 + m + 1 + 1))), (6, .int (nI (3 + m + 1))), (7, .int (nI (3 + m + 1)))] [] h := by
  subst hK
  have w3 := (hw 3 (by decide)).1
  with_reducible refine xm_go_blk b_X12_jetTypes_81 k_X12_jetTypes_81 ?_
  refine by_iload_n rfl ?_
  refine by_bipush cb_7 ?_
  refine by_ic_ge 98 rfl ?_
  simp (disch := first | exact Nat.ne_of_beq_eq_false rfl | exact rfl | omega) only [nI_add, xa_sub, xa_mul, pk_div, nm_mod, xa_shr, xa_and7, xa_and1, xa_and255, xa_by_and, nI_m1, Nat.add_sub_cancel, Nat.reducePow, Nat.zero_add, Nat.add_zero, Nat.reduceAdd, Nat.reduceMul, Nat.reduceSub, xf_same, xq_ff, xq_fo, xf_1, xf_2, xs_1, xs_2, xs_same, xq_so, xj_1, xj_2, xj_same, xq_jo, xq_sa1, xq_same, xq_other, upd_s, oI_n, oI_s, xv_0, xv_1, xv_2, xv_3, xm_p1, xm_p2, xq_fp, xq_fn, List.filter_nil, Nat.reduceBEq, Bool.not_true, Bool.not_false, Bool.and_true, Bool.and_false, Bool.false_and, Bool.true_and, if_true, if_false, Bool.false_eq_true, reduceIte, xc_i, xc_j, xc_r, xc_n, List.nil_append, List.cons_append, Option.toList_some, Option.toList_none, nI_ltJ, nI_leJ, nI_eqJ, nI_ltz, nI_gez, nI_gtz, nI_lez, nI_eqz, m1_ltz, m1_gez, true_imp_iff, false_imp_iff, true_and, and_true, ne_eq, not_false_eq_true, not_true_eq_false, Nat.reduceEqDiff, Nat.reduceLT, Nat.reduceLeDiff, xf_102_57 hF, w3]
  with_reducible refine xm_go_blk b_X12_jetTypes_98 k_X12_jetTypes_98 ?_
  refine by_iload_n rfl ?_
  refine by_bipush cb_9 ?_
  refine by_ic_ge 132 rfl ?_
  simp (disch := first | exact Nat.ne_of_beq_eq_false rfl | exact rfl | omega) only [nI_add, xa_sub, xa_mul, pk_div, nm_mod, xa_shr, xa_and7, xa_and1, xa_and255, xa_by_and, nI_m1, Nat.add_sub_cancel, Nat.reducePow, Nat.zero_add, Nat.add_zero, Nat.reduceAdd, Nat.reduceMul, Nat.reduceSub, xf_same, xq_ff, xq_fo, xf_1, xf_2, xs_1, xs_2, xs_same, xq_so, xj_1, xj_2, xj_same, xq_jo, xq_sa1, xq_same, xq_other, upd_s, oI_n, oI_s, xv_0, xv_1, xv_2, xv_3, xm_p1, xm_p2, xq_fp, xq_fn, List.filter_nil, Nat.reduceBEq, Bool.not_true, Bool.not_false, Bool.and_true, Bool.and_false, Bool.false_and, Bool.true_and, if_true, if_false, Bool.false_eq_true, reduceIte, xc_i, xc_j, xc_r, xc_n, List.nil_append, List.cons_append, Option.toList_some, Option.toList_none, nI_ltJ, nI_leJ, nI_eqJ, nI_ltz, nI_gez, nI_gtz, nI_lez, nI_eqz, m1_ltz, m1_gez, true_imp_iff, false_imp_iff, true_and, and_true, ne_eq, not_false_eq_true, not_true_eq_false, Nat.reduceEqDiff, Nat.reduceLT, Nat.reduceLeDiff, xf_102_57 hF, w3]
  with_reducible refine xm_go_blk b_X12_jetTypes_132 k_X12_jetTypes_132 ?_
  refine by_iload_n rfl ?_
  refine by_bipush cb_11 ?_
  refine by_ic_lt 161 rfl ?_
  simp (disch := first | exact Nat.ne_of_beq_eq_false rfl | exact rfl | omega) only [nI_add, xa_sub, xa_mul, pk_div, nm_mod, xa_shr, xa_and7, xa_and1, xa_and255, xa_by_and, nI_m1, Nat.add_sub_cancel, Nat.reducePow, Nat.zero_add, Nat.add_zero, Nat.reduceAdd, Nat.reduceMul, Nat.reduceSub, xf_same, xq_ff, xq_fo, xf_1, xf_2, xs_1, xs_2, xs_same, xq_so, xj_1, xj_2, xj_same, xq_jo, xq_sa1, xq_same, xq_other, upd_s, oI_n, oI_s, xv_0, xv_1, xv_2, xv_3, xm_p1, xm_p2, xq_fp, xq_fn, List.filter_nil, Nat.reduceBEq, Bool.not_true, Bool.not_false, Bool.and_true, Bool.and_false, Bool.false_and, Bool.true_and, if_true, if_false, Bool.false_eq_true, reduceIte, xc_i, xc_j, xc_r, xc_n, List.nil_append, List.cons_append, Option.toList_some, Option.toList_none, nI_ltJ, nI_leJ, nI_eqJ, nI_ltz, nI_gez, nI_gtz, nI_lez, nI_eqz, m1_ltz, m1_gez, true_imp_iff, false_imp_iff, true_and, and_true, ne_eq, not_false_eq_true, not_true_eq_false, Nat.reduceEqDiff, Nat.reduceLT, Nat.reduceLeDiff, xf_102_57 hF, w3]
  with_reducible refine xm_go_blk b_X12_jetTypes_138 k_X12_jetTypes_138 ?_
  refine by_iload_n rfl ?_
  refine by_bipush cb_16 ?_
  refine by_ic_eq 161 rfl ?_
  simp (disch := first | exact Nat.ne_of_beq_eq_false rfl | exact rfl | omega) only [nI_add, xa_sub, xa_mul, pk_div, nm_mod, xa_shr, xa_and7, xa_and1, xa_and255, xa_by_and, nI_m1, Nat.add_sub_cancel, Nat.reducePow, Nat.zero_add, Nat.add_zero, Nat.reduceAdd, Nat.reduceMul, Nat.reduceSub, xf_same, xq_ff, xq_fo, xf_1, xf_2, xs_1, xs_2, xs_same, xq_so, xj_1, xj_2, xj_same, xq_jo, xq_sa1, xq_same, xq_other, upd_s, oI_n, oI_s, xv_0, xv_1, xv_2, xv_3, xm_p1, xm_p2, xq_fp, xq_fn, List.filter_nil, Nat.reduceBEq, Bool.not_true, Bool.not_false, Bool.and_true, Bool.and_false, Bool.false_and, Bool.true_and, if_true, if_false, Bool.false_eq_true, reduceIte, xc_i, xc_j, xc_r, xc_n, List.nil_append, List.cons_append, Option.toList_some, Option.toList_none, nI_ltJ, nI_leJ, nI_eqJ, nI_ltz, nI_gez, nI_gtz, nI_lez, nI_eqz, m1_ltz, m1_gez, true_imp_iff, false_imp_iff, true_and, and_true, ne_eq, not_false_eq_true, not_true_eq_false, Nat.reduceEqDiff, Nat.reduceLT, Nat.reduceLeDiff, xf_102_57 hF, w3]
  with_reducible refine xm_go_blk b_X12_jetTypes_144 k_X12_jetTypes_144 ?_
  refine by_iload_n rfl ?_
  refine by_bipush cb_17 ?_
  refine by_ic_eq 161 rfl ?_
  simp (disch := first | exact Nat.ne_of_beq_eq_false rfl | exact rfl | omega) only [nI_add, xa_sub, xa_mul, pk_div, nm_mod, xa_shr, xa_and7, xa_and1, xa_and255, xa_by_and, nI_m1, Nat.add_sub_cancel, Nat.reducePow, Nat.zero_add, Nat.add_zero, Nat.reduceAdd, Nat.reduceMul, Nat.reduceSub, xf_same, xq_ff, xq_fo, xf_1, xf_2, xs_1, xs_2, xs_same, xq_so, xj_1, xj_2, xj_same, xq_jo, xq_sa1, xq_same, xq_other, upd_s, oI_n, oI_s, xv_0, xv_1, xv_2, xv_3, xm_p1, xm_p2, xq_fp, xq_fn, List.filter_nil, Nat.reduceBEq, Bool.not_true, Bool.not_false, Bool.and_true, Bool.and_false, Bool.false_and, Bool.true_and, if_true, if_false, Bool.false_eq_true, reduceIte, xc_i, xc_j, xc_r, xc_n, List.nil_append, List.cons_append, Option.toList_some, Option.toList_none, nI_ltJ, nI_leJ, nI_eqJ, nI_ltz, nI_gez, nI_gtz, nI_lez, nI_eqz, m1_ltz, m1_gez, true_imp_iff, false_imp_iff, true_and, and_true, ne_eq, not_false_eq_true, not_true_eq_false, Nat.reduceEqDiff, Nat.reduceLT, Nat.reduceLeDiff, xf_102_57 hF, w3]
  with_reducible refine xm_go_blk b_X12_jetTypes_150 k_X12_jetTypes_150 ?_
  refine by_iload_n rfl ?_
  refine by_bipush cb_24 ?_
  refine by_bipush cb_26 ?_
  refine by_ins3 cn_241 lk_12_211 (by rw [xe_cnt]; decide) is_319 np_319 (Nat.le_of_ble_eq_true rfl) ?_
  refine sp_within ?_
  rw [if_neg (by decide)]
  with_reducible refine xm_go_blk b_X12_jetTypes_158 k_X12_jetTypes_158 ?_
  refine by_if_eq 168 rfl ?_
  simp (disch := first | exact Nat.ne_of_beq_eq_false rfl | exact rfl | omega) only [nI_add, xa_sub, xa_mul, pk_div, nm_mod, xa_shr, xa_and7, xa_and1, xa_and255, xa_by_and, nI_m1, Nat.add_sub_cancel, Nat.reducePow, Nat.zero_add, Nat.add_zero, Nat.reduceAdd, Nat.reduceMul, Nat.reduceSub, xf_same, xq_ff, xq_fo, xf_1, xf_2, xs_1, xs_2, xs_same, xq_so, xj_1, xj_2, xj_same, xq_jo, xq_sa1, xq_same, xq_other, upd_s, oI_n, oI_s, xv_0, xv_1, xv_2, xv_3, xm_p1, xm_p2, xq_fp, xq_fn, List.filter_nil, Nat.reduceBEq, Bool.not_true, Bool.not_false, Bool.and_true, Bool.and_false, Bool.false_and, Bool.true_and, if_true, if_false, Bool.false_eq_true, reduceIte, xc_i, xc_j, xc_r, xc_n, List.nil_append, List.cons_append, Option.toList_some, Option.toList_none, nI_ltJ, nI_leJ, nI_eqJ, nI_ltz, nI_gez, nI_gtz, nI_lez, nI_eqz, m1_ltz, m1_gez, true_imp_iff, false_imp_iff, true_and, and_true, ne_eq, not_false_eq_true, not_true_eq_false, Nat.reduceEqDiff, Nat.reduceLT, Nat.reduceLeDiff, xf_102_57 hF, w3]
  with_reducible refine xm_go_blk b_X12_jetTypes_168 k_X12_jetTypes_168 ?_
  refine by_iload_n rfl ?_
  refine by_bipush cb_16 ?_
  refine by_ic_ge 189 rfl ?_
  simp (disch := first | exact Nat.ne_of_beq_eq_false rfl | exact rfl | omega) only [nI_add, xa_sub, xa_mul, pk_div, nm_mod, xa_shr, xa_and7, xa_and1, xa_and255, xa_by_and, nI_m1, Nat.add_sub_cancel, Nat.reducePow, Nat.zero_add, Nat.add_zero, Nat.reduceAdd, Nat.reduceMul, Nat.reduceSub, xf_same, xq_ff, xq_fo, xf_1, xf_2, xs_1, xs_2, xs_same, xq_so, xj_1, xj_2, xj_same, xq_jo, xq_sa1, xq_same, xq_other, upd_s, oI_n, oI_s, xv_0, xv_1, xv_2, xv_3, xm_p1, xm_p2, xq_fp, xq_fn, List.filter_nil, Nat.reduceBEq, Bool.not_true, Bool.not_false, Bool.and_true, Bool.and_false, Bool.false_and, Bool.true_and, if_true, if_false, Bool.false_eq_true, reduceIte, xc_i, xc_j, xc_r, xc_n, List.nil_append, List.cons_append, Option.toList_some, Option.toList_none, nI_ltJ, nI_leJ, nI_eqJ, nI_ltz, nI_gez, nI_gtz, nI_lez, nI_eqz, m1_ltz, m1_gez, true_imp_iff, false_imp_iff, true_and, and_true, ne_eq, not_false_eq_true, not_true_eq_false, Nat.reduceEqDiff, Nat.reduceLT, Nat.reduceLeDiff, xf_102_57 hF, w3]
  with_reducible refine xm_go_blk b_X12_jetTypes_189 k_X12_jetTypes_189 ?_
  refine by_iload_n rfl ?_
  refine by_bipush cb_18 ?_
  refine by_ic_eq 206 rfl ?_
  simp (disch := first | exact Nat.ne_of_beq_eq_false rfl | exact rfl | omega) only [nI_add, xa_sub, xa_mul, pk_div, nm_mod, xa_shr, xa_and7, xa_and1, xa_and255, xa_by_and, nI_m1, Nat.add_sub_cancel, Nat.reducePow, Nat.zero_add, Nat.add_zero, Nat.reduceAdd, Nat.reduceMul, Nat.reduceSub, xf_same, xq_ff, xq_fo, xf_1, xf_2, xs_1, xs_2, xs_same, xq_so, xj_1, xj_2, xj_same, xq_jo, xq_sa1, xq_same, xq_other, upd_s, oI_n, oI_s, xv_0, xv_1, xv_2, xv_3, xm_p1, xm_p2, xq_fp, xq_fn, List.filter_nil, Nat.reduceBEq, Bool.not_true, Bool.not_false, Bool.and_true, Bool.and_false, Bool.false_and, Bool.true_and, if_true, if_false, Bool.false_eq_true, reduceIte, xc_i, xc_j, xc_r, xc_n, List.nil_append, List.cons_append, Option.toList_some, Option.toList_none, nI_ltJ, nI_leJ, nI_eqJ, nI_ltz, nI_gez, nI_gtz, nI_lez, nI_eqz, m1_ltz, m1_gez, true_imp_iff, false_imp_iff, true_and, and_true, ne_eq, not_false_eq_true, not_true_eq_false, Nat.reduceEqDiff, Nat.reduceLT, Nat.reduceLeDiff, xf_102_57 hF, w3]
  with_reducible refine xm_go_blk b_X12_jetTypes_195 k_X12_jetTypes_195 ?_
  refine by_iload_n rfl ?_
  refine by_bipush cb_27 ?_
  refine by_bipush cb_29 ?_
  refine by_ins3 cn_241 lk_12_211 (by rw [xe_cnt]; decide) is_319 np_319 (Nat.le_of_ble_eq_true rfl) ?_
  refine sp_within ?_
  rw [if_neg (by decide)]
  with_reducible refine xm_go_blk b_X12_jetTypes_203 k_X12_jetTypes_203 ?_
  refine by_if_eq 220 rfl ?_
  simp (disch := first | exact Nat.ne_of_beq_eq_false rfl | exact rfl | omega) only [nI_add, xa_sub, xa_mul, pk_div, nm_mod, xa_shr, xa_and7, xa_and1, xa_and255, xa_by_and, nI_m1, Nat.add_sub_cancel, Nat.reducePow, Nat.zero_add, Nat.add_zero, Nat.reduceAdd, Nat.reduceMul, Nat.reduceSub, xf_same, xq_ff, xq_fo, xf_1, xf_2, xs_1, xs_2, xs_same, xq_so, xj_1, xj_2, xj_same, xq_jo, xq_sa1, xq_same, xq_other, upd_s, oI_n, oI_s, xv_0, xv_1, xv_2, xv_3, xm_p1, xm_p2, xq_fp, xq_fn, List.filter_nil, Nat.reduceBEq, Bool.not_true, Bool.not_false, Bool.and_true, Bool.and_false, Bool.false_and, Bool.true_and, if_true, if_false, Bool.false_eq_true, reduceIte, xc_i, xc_j, xc_r, xc_n, List.nil_append, List.cons_append, Option.toList_some, Option.toList_none, nI_ltJ, nI_leJ, nI_eqJ, nI_ltz, nI_gez, nI_gtz, nI_lez, nI_eqz, m1_ltz, m1_gez, true_imp_iff, false_imp_iff, true_and, and_true, ne_eq, not_false_eq_true, not_true_eq_false, Nat.reduceEqDiff, Nat.reduceLT, Nat.reduceLeDiff, xf_102_57 hF, w3]
  with_reducible refine xm_go_blk b_X12_jetTypes_220 k_X12_jetTypes_220 ?_
  refine by_iload_n rfl ?_
  refine by_bipush cb_23 ?_
  refine by_ic_ge 237 rfl ?_
  simp (disch := first | exact Nat.ne_of_beq_eq_false rfl | exact rfl | omega) only [nI_add, xa_sub, xa_mul, pk_div, nm_mod, xa_shr, xa_and7, xa_and1, xa_and255, xa_by_and, nI_m1, Nat.add_sub_cancel, Nat.reducePow, Nat.zero_add, Nat.add_zero, Nat.reduceAdd, Nat.reduceMul, Nat.reduceSub, xf_same, xq_ff, xq_fo, xf_1, xf_2, xs_1, xs_2, xs_same, xq_so, xj_1, xj_2, xj_same, xq_jo, xq_sa1, xq_same, xq_other, upd_s, oI_n, oI_s, xv_0, xv_1, xv_2, xv_3, xm_p1, xm_p2, xq_fp, xq_fn, List.filter_nil, Nat.reduceBEq, Bool.not_true, Bool.not_false, Bool.and_true, Bool.and_false, Bool.false_and, Bool.true_and, if_true, if_false, Bool.false_eq_true, reduceIte, xc_i, xc_j, xc_r, xc_n, List.nil_append, List.cons_append, Option.toList_some, Option.toList_none, nI_ltJ, nI_leJ, nI_eqJ, nI_ltz, nI_gez, nI_gtz, nI_lez, nI_eqz, m1_ltz, m1_gez, true_imp_iff, false_imp_iff, true_and, and_true, ne_eq, not_false_eq_true, not_true_eq_false, Nat.reduceEqDiff, Nat.reduceLT, Nat.reduceLeDiff, xf_102_57 hF, w3]
  with_reducible refine xm_go_blk b_X12_jetTypes_237 k_X12_jetTypes_237 ?_
  refine by_iload_n rfl ?_
  refine by_bipush cb_30 ?_
  refine by_ic_eq 249 rfl ?_
  simp (disch := first | exact Nat.ne_of_beq_eq_false rfl | exact rfl | omega) only [nI_add, xa_sub, xa_mul, pk_div, nm_mod, xa_shr, xa_and7, xa_and1, xa_and255, xa_by_and, nI_m1, Nat.add_sub_cancel, Nat.reducePow, Nat.zero_add, Nat.add_zero, Nat.reduceAdd, Nat.reduceMul, Nat.reduceSub, xf_same, xq_ff, xq_fo, xf_1, xf_2, xs_1, xs_2, xs_same, xq_so, xj_1, xj_2, xj_same, xq_jo, xq_sa1, xq_same, xq_other, upd_s, oI_n, oI_s, xv_0, xv_1, xv_2, xv_3, xm_p1, xm_p2, xq_fp, xq_fn, List.filter_nil, Nat.reduceBEq, Bool.not_true, Bool.not_false, Bool.and_true, Bool.and_false, Bool.false_and, Bool.true_and, if_true, if_false, Bool.false_eq_true, reduceIte, xc_i, xc_j, xc_r, xc_n, List.nil_append, List.cons_append, Option.toList_some, Option.toList_none, nI_ltJ, nI_leJ, nI_eqJ, nI_ltz, nI_gez, nI_gtz, nI_lez, nI_eqz, m1_ltz, m1_gez, true_imp_iff, false_imp_iff, true_and, and_true, ne_eq, not_false_eq_true, not_true_eq_false, Nat.reduceEqDiff, Nat.reduceLT, Nat.reduceLeDiff, xf_102_57 hF, w3]
  with_reducible refine xm_go_blk b_X12_jetTypes_243 k_X12_jetTypes_243 ?_
  refine by_iload_n rfl ?_
  refine by_bipush cb_31 ?_
  refine by_ic_ne 255 rfl ?_
  simp (disch := first | exact Nat.ne_of_beq_eq_false rfl | exact rfl | omega) only [nI_add, xa_sub, xa_mul, pk_div, nm_mod, xa_shr, xa_and7, xa_and1, xa_and255, xa_by_and, nI_m1, Nat.add_sub_cancel, Nat.reducePow, Nat.zero_add, Nat.add_zero, Nat.reduceAdd, Nat.reduceMul, Nat.reduceSub, xf_same, xq_ff, xq_fo, xf_1, xf_2, xs_1, xs_2, xs_same, xq_so, xj_1, xj_2, xj_same, xq_jo, xq_sa1, xq_same, xq_other, upd_s, oI_n, oI_s, xv_0, xv_1, xv_2, xv_3, xm_p1, xm_p2, xq_fp, xq_fn, List.filter_nil, Nat.reduceBEq, Bool.not_true, Bool.not_false, Bool.and_true, Bool.and_false, Bool.false_and, Bool.true_and, if_true, if_false, Bool.false_eq_true, reduceIte, xc_i, xc_j, xc_r, xc_n, List.nil_append, List.cons_append, Option.toList_some, Option.toList_none, nI_ltJ, nI_leJ, nI_eqJ, nI_ltz, nI_gez, nI_gtz, nI_lez, nI_eqz, m1_ltz, m1_gez, true_imp_iff, false_imp_iff, true_and, and_true, ne_eq, not_false_eq_true, not_true_eq_false, Nat.reduceEqDiff, Nat.reduceLT, Nat.reduceLeDiff, xf_102_57 hF, w3]
  with_reducible refine xm_go_blk b_X12_jetTypes_255 k_X12_jetTypes_255 ?_
  refine by_iload_n rfl ?_
  refine by_bipush cb_32 ?_
  refine by_bipush cb_35 ?_
  refine by_ins3 cn_241 lk_12_211 (by rw [xe_cnt]; decide) is_319 np_319 (Nat.le_of_ble_eq_true rfl) ?_
  refine sp_within ?_
  rw [if_neg (by decide)]
  with_reducible refine xm_go_blk b_X12_jetTypes_263 k_X12_jetTypes_263 ?_
  refine by_if_eq 284 rfl ?_
  simp (disch := first | exact Nat.ne_of_beq_eq_false rfl | exact rfl | omega) only [nI_add, xa_sub, xa_mul, pk_div, nm_mod, xa_shr, xa_and7, xa_and1, xa_and255, xa_by_and, nI_m1, Nat.add_sub_cancel, Nat.reducePow, Nat.zero_add, Nat.add_zero, Nat.reduceAdd, Nat.reduceMul, Nat.reduceSub, xf_same, xq_ff, xq_fo, xf_1, xf_2, xs_1, xs_2, xs_same, xq_so, xj_1, xj_2, xj_same, xq_jo, xq_sa1, xq_same, xq_other, upd_s, oI_n, oI_s, xv_0, xv_1, xv_2, xv_3, xm_p1, xm_p2, xq_fp, xq_fn, List.filter_nil, Nat.reduceBEq, Bool.not_true, Bool.not_false, Bool.and_true, Bool.and_false, Bool.false_and, Bool.true_and, if_true, if_false, Bool.false_eq_true, reduceIte, xc_i, xc_j, xc_r, xc_n, List.nil_append, List.cons_append, Option.toList_some, Option.toList_none, nI_ltJ, nI_leJ, nI_eqJ, nI_ltz, nI_gez, nI_gtz, nI_lez, nI_eqz, m1_ltz, m1_gez, true_imp_iff, false_imp_iff, true_and, and_true, ne_eq, not_false_eq_true, not_true_eq_false, Nat.reduceEqDiff, Nat.reduceLT, Nat.reduceLeDiff, xf_102_57 hF, w3]
  with_reducible refine xm_go_blk b_X12_jetTypes_284 k_X12_jetTypes_284 ?_
  refine by_iload_n rfl ?_
  refine by_bipush cb_36 ?_
  refine by_ic_eq 296 rfl ?_
  simp (disch := first | exact Nat.ne_of_beq_eq_false rfl | exact rfl | omega) only [nI_add, xa_sub, xa_mul, pk_div, nm_mod, xa_shr, xa_and7, xa_and1, xa_and255, xa_by_and, nI_m1, Nat.add_sub_cancel, Nat.reducePow, Nat.zero_add, Nat.add_zero, Nat.reduceAdd, Nat.reduceMul, Nat.reduceSub, xf_same, xq_ff, xq_fo, xf_1, xf_2, xs_1, xs_2, xs_same, xq_so, xj_1, xj_2, xj_same, xq_jo, xq_sa1, xq_same, xq_other, upd_s, oI_n, oI_s, xv_0, xv_1, xv_2, xv_3, xm_p1, xm_p2, xq_fp, xq_fn, List.filter_nil, Nat.reduceBEq, Bool.not_true, Bool.not_false, Bool.and_true, Bool.and_false, Bool.false_and, Bool.true_and, if_true, if_false, Bool.false_eq_true, reduceIte, xc_i, xc_j, xc_r, xc_n, List.nil_append, List.cons_append, Option.toList_some, Option.toList_none, nI_ltJ, nI_leJ, nI_eqJ, nI_ltz, nI_gez, nI_gtz, nI_lez, nI_eqz, m1_ltz, m1_gez, true_imp_iff, false_imp_iff, true_and, and_true, ne_eq, not_false_eq_true, not_true_eq_false, Nat.reduceEqDiff, Nat.reduceLT, Nat.reduceLeDiff, xf_102_57 hF, w3]
  with_reducible refine xm_go_blk b_X12_jetTypes_296 k_X12_jetTypes_296 ?_
  refine by_aload_n rfl ?_
  refine by_getf cn_241 fl_12_137 (by first | exact rfl | assumption) (by decide) ?_
  refine by_iconst ci_3 ?_
  simp (disch := first | exact Nat.ne_of_beq_eq_false rfl | exact rfl | omega) only [nI_add, xa_sub, xa_mul, pk_div, nm_mod, xa_shr, xa_and7, xa_and1, xa_and255, xa_by_and, nI_m1, Nat.add_sub_cancel, Nat.reducePow, Nat.zero_add, Nat.add_zero, Nat.reduceAdd, Nat.reduceMul, Nat.reduceSub, xf_same, xq_ff, xq_fo, xf_1, xf_2, xs_1, xs_2, xs_same, xq_so, xj_1, xj_2, xj_same, xq_jo, xq_sa1, xq_same, xq_other, upd_s, oI_n, oI_s, xf_102_57 hF, w3]
  first | refine by_iald (by first | exact rfl | assumption | exact ps_1 hpp | exact ps_2 hpp | exact ps_3 hpp | exact ps_4 hpp | exact ps_5 hpp | exact ps_6 hpp | exact ps_7 hpp | exact ps_8 hpp | exact ps_9 hpp | exact ps_10 hpp | exact ps_11 hpp | exact ps_15 hpp | exact ps_16 hpp | exact ps_17 hpp | exact ps_18 hpp | exact ps_19 hpp | exact ps_21 hpp | exact ps_22 hpp | exact ps_23 hpp | exact ps_24 hpp) ⟨by omega, by omega⟩ ?_ | refine by_tald rfl rfl ⟨by omega, by omega⟩ ?_
  refine by_istore (by rw [ml_241]; decide) ?_
  refine by_goto 348 rfl ?_
  simp (disch := first | exact Nat.ne_of_beq_eq_false rfl | exact rfl | omega) only [nI_add, xa_sub, xa_mul, pk_div, nm_mod, xa_shr, xa_and7, xa_and1, xa_and255, xa_by_and, nI_m1, Nat.add_sub_cancel, Nat.reducePow, Nat.zero_add, Nat.add_zero, Nat.reduceAdd, Nat.reduceMul, Nat.reduceSub, xf_same, xq_ff, xq_fo, xf_1, xf_2, xs_1, xs_2, xs_same, xq_so, xj_1, xj_2, xj_same, xq_jo, xq_sa1, xq_same, xq_other, upd_s, oI_n, oI_s, xv_0, xv_1, xv_2, xv_3, xm_p1, xm_p2, xq_fp, xq_fn, List.filter_nil, Nat.reduceBEq, Bool.not_true, Bool.not_false, Bool.and_true, Bool.and_false, Bool.false_and, Bool.true_and, if_true, if_false, Bool.false_eq_true, reduceIte, xc_i, xc_j, xc_r, xc_n, List.nil_append, List.cons_append, Option.toList_some, Option.toList_none, xf_102_57 hF, w3]
  refine xm_go_wk (by simp [Value.category]) (mj_348 (s := 3 + m + 1) (t := 4) hF hn (mjC_0 hg hp hm ?_ ?_))
  · rw [show 3 + m + 1 = 3 + m + 1 by omega]; exact (hw (3 + m) (by omega)).2
  · exact (hw 3 (by decide)).2
theorem mj_37 (hF : XF h) (hg : mgr h c k l r rt es) (hn : n < 2000) (ho : ty_den c k l r tO 0) (hK : K = 37) (hm : m < 4) (hw : ∀ j, j < 9 → h.1 144 j = nI (j + 1) ∧ ty_den c k l r (ty_wd j) (j + 1)) (hp : mjC n c (4 * K + m) k l r es h post) :
    xm_go (XE sc) (xm_T (XE sc) (d + 2)) 241 post 81 [(0, .ref 102), (1, .int (nI n)), (2, .int (nI K)), (3, .int (nI (3 + m))), (4, .int (nI (3 + m + 1))), (5, .int (nI (3 + m + 1 + 1))), (6, .int (nI (3 + m + 1))), (7, .int (nI (3 + m + 1)))] [] h := by
  subst hK
  have w3 := (hw 3 (by decide)).1
  with_reducible refine xm_go_blk b_X12_jetTypes_81 k_X12_jetTypes_81 ?_
  refine by_iload_n rfl ?_
  refine by_bipush cb_7 ?_
  refine by_ic_ge 98 rfl ?_
  simp (disch := first | exact Nat.ne_of_beq_eq_false rfl | exact rfl | omega) only [nI_add, xa_sub, xa_mul, pk_div, nm_mod, xa_shr, xa_and7, xa_and1, xa_and255, xa_by_and, nI_m1, Nat.add_sub_cancel, Nat.reducePow, Nat.zero_add, Nat.add_zero, Nat.reduceAdd, Nat.reduceMul, Nat.reduceSub, xf_same, xq_ff, xq_fo, xf_1, xf_2, xs_1, xs_2, xs_same, xq_so, xj_1, xj_2, xj_same, xq_jo, xq_sa1, xq_same, xq_other, upd_s, oI_n, oI_s, xv_0, xv_1, xv_2, xv_3, xm_p1, xm_p2, xq_fp, xq_fn, List.filter_nil, Nat.reduceBEq, Bool.not_true, Bool.not_false, Bool.and_true, Bool.and_false, Bool.false_and, Bool.true_and, if_true, if_false, Bool.false_eq_true, reduceIte, xc_i, xc_j, xc_r, xc_n, List.nil_append, List.cons_append, Option.toList_some, Option.toList_none, nI_ltJ, nI_leJ, nI_eqJ, nI_ltz, nI_gez, nI_gtz, nI_lez, nI_eqz, m1_ltz, m1_gez, true_imp_iff, false_imp_iff, true_and, and_true, ne_eq, not_false_eq_true, not_true_eq_false, Nat.reduceEqDiff, Nat.reduceLT, Nat.reduceLeDiff, xf_102_57 hF, w3]
  with_reducible refine xm_go_blk b_X12_jetTypes_98 k_X12_jetTypes_98 ?_
  refine by_iload_n rfl ?_
  refine by_bipush cb_9 ?_
  refine by_ic_ge 132 rfl ?_
  simp (disch := first | exact Nat.ne_of_beq_eq_false rfl | exact rfl | omega) only [nI_add, xa_sub, xa_mul, pk_div, nm_mod, xa_shr, xa_and7, xa_and1, xa_and255, xa_by_and, nI_m1, Nat.add_sub_cancel, Nat.reducePow, Nat.zero_add, Nat.add_zero, Nat.reduceAdd, Nat.reduceMul, Nat.reduceSub, xf_same, xq_ff, xq_fo, xf_1, xf_2, xs_1, xs_2, xs_same, xq_so, xj_1, xj_2, xj_same, xq_jo, xq_sa1, xq_same, xq_other, upd_s, oI_n, oI_s, xv_0, xv_1, xv_2, xv_3, xm_p1, xm_p2, xq_fp, xq_fn, List.filter_nil, Nat.reduceBEq, Bool.not_true, Bool.not_false, Bool.and_true, Bool.and_false, Bool.false_and, Bool.true_and, if_true, if_false, Bool.false_eq_true, reduceIte, xc_i, xc_j, xc_r, xc_n, List.nil_append, List.cons_append, Option.toList_some, Option.toList_none, nI_ltJ, nI_leJ, nI_eqJ, nI_ltz, nI_gez, nI_gtz, nI_lez, nI_eqz, m1_ltz, m1_gez, true_imp_iff, false_imp_iff, true_and, and_true, ne_eq, not_false_eq_true, not_true_eq_false, Nat.reduceEqDiff, Nat.reduceLT, Nat.reduceLeDiff, xf_102_57 hF, w3]
  with_reducible refine xm_go_blk b_X12_jetTypes_132 k_X12_jetTypes_132 ?_
  refine by_iload_n rfl ?_
  refine by_bipush cb_11 ?_
  refine by_ic_lt 161 rfl ?_
  simp (disch := first | exact Nat.ne_of_beq_eq_false rfl | exact rfl | omega) only [nI_add, xa_sub, xa_mul, pk_div, nm_mod, xa_shr, xa_and7, xa_and1, xa_and255, xa_by_and, nI_m1, Nat.add_sub_cancel, Nat.reducePow, Nat.zero_add, Nat.add_zero, Nat.reduceAdd, Nat.reduceMul, Nat.reduceSub, xf_same, xq_ff, xq_fo, xf_1, xf_2, xs_1, xs_2, xs_same, xq_so, xj_1, xj_2, xj_same, xq_jo, xq_sa1, xq_same, xq_other, upd_s, oI_n, oI_s, xv_0, xv_1, xv_2, xv_3, xm_p1, xm_p2, xq_fp, xq_fn, List.filter_nil, Nat.reduceBEq, Bool.not_true, Bool.not_false, Bool.and_true, Bool.and_false, Bool.false_and, Bool.true_and, if_true, if_false, Bool.false_eq_true, reduceIte, xc_i, xc_j, xc_r, xc_n, List.nil_append, List.cons_append, Option.toList_some, Option.toList_none, nI_ltJ, nI_leJ, nI_eqJ, nI_ltz, nI_gez, nI_gtz, nI_lez, nI_eqz, m1_ltz, m1_gez, true_imp_iff, false_imp_iff, true_and, and_true, ne_eq, not_false_eq_true, not_true_eq_false, Nat.reduceEqDiff, Nat.reduceLT, Nat.reduceLeDiff, xf_102_57 hF, w3]
  with_reducible refine xm_go_blk b_X12_jetTypes_138 k_X12_jetTypes_138 ?_
  refine by_iload_n rfl ?_
  refine by_bipush cb_16 ?_
  refine by_ic_eq 161 rfl ?_
  simp (disch := first | exact Nat.ne_of_beq_eq_false rfl | exact rfl | omega) only [nI_add, xa_sub, xa_mul, pk_div, nm_mod, xa_shr, xa_and7, xa_and1, xa_and255, xa_by_and, nI_m1, Nat.add_sub_cancel, Nat.reducePow, Nat.zero_add, Nat.add_zero, Nat.reduceAdd, Nat.reduceMul, Nat.reduceSub, xf_same, xq_ff, xq_fo, xf_1, xf_2, xs_1, xs_2, xs_same, xq_so, xj_1, xj_2, xj_same, xq_jo, xq_sa1, xq_same, xq_other, upd_s, oI_n, oI_s, xv_0, xv_1, xv_2, xv_3, xm_p1, xm_p2, xq_fp, xq_fn, List.filter_nil, Nat.reduceBEq, Bool.not_true, Bool.not_false, Bool.and_true, Bool.and_false, Bool.false_and, Bool.true_and, if_true, if_false, Bool.false_eq_true, reduceIte, xc_i, xc_j, xc_r, xc_n, List.nil_append, List.cons_append, Option.toList_some, Option.toList_none, nI_ltJ, nI_leJ, nI_eqJ, nI_ltz, nI_gez, nI_gtz, nI_lez, nI_eqz, m1_ltz, m1_gez, true_imp_iff, false_imp_iff, true_and, and_true, ne_eq, not_false_eq_true, not_true_eq_false, Nat.reduceEqDiff, Nat.reduceLT, Nat.reduceLeDiff, xf_102_57 hF, w3]
  with_reducible refine xm_go_blk b_X12_jetTypes_144 k_X12_jetTypes_144 ?_
  refine by_iload_n rfl ?_
  refine by_bipush cb_17 ?_
  refine by_ic_eq 161 rfl ?_
  simp (disch := first | exact Nat.ne_of_beq_eq_false rfl | exact rfl | omega) only [nI_add, xa_sub, xa_mul, pk_div, nm_mod, xa_shr, xa_and7, xa_and1, xa_and255, xa_by_and, nI_m1, Nat.add_sub_cancel, Nat.reducePow, Nat.zero_add, Nat.add_zero, Nat.reduceAdd, Nat.reduceMul, Nat.reduceSub, xf_same, xq_ff, xq_fo, xf_1, xf_2, xs_1, xs_2, xs_same, xq_so, xj_1, xj_2, xj_same, xq_jo, xq_sa1, xq_same, xq_other, upd_s, oI_n, oI_s, xv_0, xv_1, xv_2, xv_3, xm_p1, xm_p2, xq_fp, xq_fn, List.filter_nil, Nat.reduceBEq, Bool.not_true, Bool.not_false, Bool.and_true, Bool.and_false, Bool.false_and, Bool.true_and, if_true, if_false, Bool.false_eq_true, reduceIte, xc_i, xc_j, xc_r, xc_n, List.nil_append, List.cons_append, Option.toList_some, Option.toList_none, nI_ltJ, nI_leJ, nI_eqJ, nI_ltz, nI_gez, nI_gtz, nI_lez, nI_eqz, m1_ltz, m1_gez, true_imp_iff, false_imp_iff, true_and, and_true, ne_eq, not_false_eq_true, not_true_eq_false, Nat.reduceEqDiff, Nat.reduceLT, Nat.reduceLeDiff, xf_102_57 hF, w3]
  with_reducible refine xm_go_blk b_X12_jetTypes_150 k_X12_jetTypes_150 ?_
  refine by_iload_n rfl ?_
  refine by_bipush cb_24 ?_
  refine by_bipush cb_26 ?_
  refine by_ins3 cn_241 lk_12_211 (by rw [xe_cnt]; decide) is_319 np_319 (Nat.le_of_ble_eq_true rfl) ?_
  refine sp_within ?_
  rw [if_neg (by decide)]
  with_reducible refine xm_go_blk b_X12_jetTypes_158 k_X12_jetTypes_158 ?_
  refine by_if_eq 168 rfl ?_
  simp (disch := first | exact Nat.ne_of_beq_eq_false rfl | exact rfl | omega) only [nI_add, xa_sub, xa_mul, pk_div, nm_mod, xa_shr, xa_and7, xa_and1, xa_and255, xa_by_and, nI_m1, Nat.add_sub_cancel, Nat.reducePow, Nat.zero_add, Nat.add_zero, Nat.reduceAdd, Nat.reduceMul, Nat.reduceSub, xf_same, xq_ff, xq_fo, xf_1, xf_2, xs_1, xs_2, xs_same, xq_so, xj_1, xj_2, xj_same, xq_jo, xq_sa1, xq_same, xq_other, upd_s, oI_n, oI_s, xv_0, xv_1, xv_2, xv_3, xm_p1, xm_p2, xq_fp, xq_fn, List.filter_nil, Nat.reduceBEq, Bool.not_true, Bool.not_false, Bool.and_true, Bool.and_false, Bool.false_and, Bool.true_and, if_true, if_false, Bool.false_eq_true, reduceIte, xc_i, xc_j, xc_r, xc_n, List.nil_append, List.cons_append, Option.toList_some, Option.toList_none, nI_ltJ, nI_leJ, nI_eqJ, nI_ltz, nI_gez, nI_gtz, nI_lez, nI_eqz, m1_ltz, m1_gez, true_imp_iff, false_imp_iff, true_and, and_true, ne_eq, not_false_eq_true, not_true_eq_false, Nat.reduceEqDiff, Nat.reduceLT, Nat.reduceLeDiff, xf_102_57 hF, w3]
  with_reducible refine xm_go_blk b_X12_jetTypes_168 k_X12_jetTypes_168 ?_
  refine by_iload_n rfl ?_
  refine by_bipush cb_16 ?_
  refine by_ic_ge 189 rfl ?_
  simp (disch := first | exact Nat.ne_of_beq_eq_false rfl | exact rfl | omega) only [nI_add, xa_sub, xa_mul, pk_div, nm_mod, xa_shr, xa_and7, xa_and1, xa_and255, xa_by_and, nI_m1, Nat.add_sub_cancel, Nat.reducePow, Nat.zero_add, Nat.add_zero, Nat.reduceAdd, Nat.reduceMul, Nat.reduceSub, xf_same, xq_ff, xq_fo, xf_1, xf_2, xs_1, xs_2, xs_same, xq_so, xj_1, xj_2, xj_same, xq_jo, xq_sa1, xq_same, xq_other, upd_s, oI_n, oI_s, xv_0, xv_1, xv_2, xv_3, xm_p1, xm_p2, xq_fp, xq_fn, List.filter_nil, Nat.reduceBEq, Bool.not_true, Bool.not_false, Bool.and_true, Bool.and_false, Bool.false_and, Bool.true_and, if_true, if_false, Bool.false_eq_true, reduceIte, xc_i, xc_j, xc_r, xc_n, List.nil_append, List.cons_append, Option.toList_some, Option.toList_none, nI_ltJ, nI_leJ, nI_eqJ, nI_ltz, nI_gez, nI_gtz, nI_lez, nI_eqz, m1_ltz, m1_gez, true_imp_iff, false_imp_iff, true_and, and_true, ne_eq, not_false_eq_true, not_true_eq_false, Nat.reduceEqDiff, Nat.reduceLT, Nat.reduceLeDiff, xf_102_57 hF, w3]
  with_reducible refine xm_go_blk b_X12_jetTypes_189 k_X12_jetTypes_189 ?_
  refine by_iload_n rfl ?_
  refine by_bipush cb_18 ?_
  refine by_ic_eq 206 rfl ?_
  simp (disch := first | exact Nat.ne_of_beq_eq_false rfl | exact rfl | omega) only [nI_add, xa_sub, xa_mul, pk_div, nm_mod, xa_shr, xa_and7, xa_and1, xa_and255, xa_by_and, nI_m1, Nat.add_sub_cancel, Nat.reducePow, Nat.zero_add, Nat.add_zero, Nat.reduceAdd, Nat.reduceMul, Nat.reduceSub, xf_same, xq_ff, xq_fo, xf_1, xf_2, xs_1, xs_2, xs_same, xq_so, xj_1, xj_2, xj_same, xq_jo, xq_sa1, xq_same, xq_other, upd_s, oI_n, oI_s, xv_0, xv_1, xv_2, xv_3, xm_p1, xm_p2, xq_fp, xq_fn, List.filter_nil, Nat.reduceBEq, Bool.not_true, Bool.not_false, Bool.and_true, Bool.and_false, Bool.false_and, Bool.true_and, if_true, if_false, Bool.false_eq_true, reduceIte, xc_i, xc_j, xc_r, xc_n, List.nil_append, List.cons_append, Option.toList_some, Option.toList_none, nI_ltJ, nI_leJ, nI_eqJ, nI_ltz, nI_gez, nI_gtz, nI_lez, nI_eqz, m1_ltz, m1_gez, true_imp_iff, false_imp_iff, true_and, and_true, ne_eq, not_false_eq_true, not_true_eq_false, Nat.reduceEqDiff, Nat.reduceLT, Nat.reduceLeDiff, xf_102_57 hF, w3]
  with_reducible refine xm_go_blk b_X12_jetTypes_195 k_X12_jetTypes_195 ?_
  refine by_iload_n rfl ?_
  refine by_bipush cb_27 ?_
  refine by_bipush cb_29 ?_
  refine by_ins3 cn_241 lk_12_211 (by rw [xe_cnt]; decide) is_319 np_319 (Nat.le_of_ble_eq_true rfl) ?_
  refine sp_within ?_
  rw [if_neg (by decide)]
  with_reducible refine xm_go_blk b_X12_jetTypes_203 k_X12_jetTypes_203 ?_
  refine by_if_eq 220 rfl ?_
  simp (disch := first | exact Nat.ne_of_beq_eq_false rfl | exact rfl | omega) only [nI_add, xa_sub, xa_mul, pk_div, nm_mod, xa_shr, xa_and7, xa_and1, xa_and255, xa_by_and, nI_m1, Nat.add_sub_cancel, Nat.reducePow, Nat.zero_add, Nat.add_zero, Nat.reduceAdd, Nat.reduceMul, Nat.reduceSub, xf_same, xq_ff, xq_fo, xf_1, xf_2, xs_1, xs_2, xs_same, xq_so, xj_1, xj_2, xj_same, xq_jo, xq_sa1, xq_same, xq_other, upd_s, oI_n, oI_s, xv_0, xv_1, xv_2, xv_3, xm_p1, xm_p2, xq_fp, xq_fn, List.filter_nil, Nat.reduceBEq, Bool.not_true, Bool.not_false, Bool.and_true, Bool.and_false, Bool.false_and, Bool.true_and, if_true, if_false, Bool.false_eq_true, reduceIte, xc_i, xc_j, xc_r, xc_n, List.nil_append, List.cons_append, Option.toList_some, Option.toList_none, nI_ltJ, nI_leJ, nI_eqJ, nI_ltz, nI_gez, nI_gtz, nI_lez, nI_eqz, m1_ltz, m1_gez, true_imp_iff, false_imp_iff, true_and, and_true, ne_eq, not_false_eq_true, not_true_eq_false, Nat.reduceEqDiff, Nat.reduceLT, Nat.reduceLeDiff, xf_102_57 hF, w3]
  with_reducible refine xm_go_blk b_X12_jetTypes_220 k_X12_jetTypes_220 ?_
  refine by_iload_n rfl ?_
  refine by_bipush cb_23 ?_
  refine by_ic_ge 237 rfl ?_
  simp (disch := first | exact Nat.ne_of_beq_eq_false rfl | exact rfl | omega) only [nI_add, xa_sub, xa_mul, pk_div, nm_mod, xa_shr, xa_and7, xa_and1, xa_and255, xa_by_and, nI_m1, Nat.add_sub_cancel, Nat.reducePow, Nat.zero_add, Nat.add_zero, Nat.reduceAdd, Nat.reduceMul, Nat.reduceSub, xf_same, xq_ff, xq_fo, xf_1, xf_2, xs_1, xs_2, xs_same, xq_so, xj_1, xj_2, xj_same, xq_jo, xq_sa1, xq_same, xq_other, upd_s, oI_n, oI_s, xv_0, xv_1, xv_2, xv_3, xm_p1, xm_p2, xq_fp, xq_fn, List.filter_nil, Nat.reduceBEq, Bool.not_true, Bool.not_false, Bool.and_true, Bool.and_false, Bool.false_and, Bool.true_and, if_true, if_false, Bool.false_eq_true, reduceIte, xc_i, xc_j, xc_r, xc_n, List.nil_append, List.cons_append, Option.toList_some, Option.toList_none, nI_ltJ, nI_leJ, nI_eqJ, nI_ltz, nI_gez, nI_gtz, nI_lez, nI_eqz, m1_ltz, m1_gez, true_imp_iff, false_imp_iff, true_and, and_true, ne_eq, not_false_eq_true, not_true_eq_false, Nat.reduceEqDiff, Nat.reduceLT, Nat.reduceLeDiff, xf_102_57 hF, w3]
  with_reducible refine xm_go_blk b_X12_jetTypes_237 k_X12_jetTypes_237 ?_
  refine by_iload_n rfl ?_
  refine by_bipush cb_30 ?_
  refine by_ic_eq 249 rfl ?_
  simp (disch := first | exact Nat.ne_of_beq_eq_false rfl | exact rfl | omega) only [nI_add, xa_sub, xa_mul, pk_div, nm_mod, xa_shr, xa_and7, xa_and1, xa_and255, xa_by_and, nI_m1, Nat.add_sub_cancel, Nat.reducePow, Nat.zero_add, Nat.add_zero, Nat.reduceAdd, Nat.reduceMul, Nat.reduceSub, xf_same, xq_ff, xq_fo, xf_1, xf_2, xs_1, xs_2, xs_same, xq_so, xj_1, xj_2, xj_same, xq_jo, xq_sa1, xq_same, xq_other, upd_s, oI_n, oI_s, xv_0, xv_1, xv_2, xv_3, xm_p1, xm_p2, xq_fp, xq_fn, List.filter_nil, Nat.reduceBEq, Bool.not_true, Bool.not_false, Bool.and_true, Bool.and_false, Bool.false_and, Bool.true_and, if_true, if_false, Bool.false_eq_true, reduceIte, xc_i, xc_j, xc_r, xc_n, List.nil_append, List.cons_append, Option.toList_some, Option.toList_none, nI_ltJ, nI_leJ, nI_eqJ, nI_ltz, nI_gez, nI_gtz, nI_lez, nI_eqz, m1_ltz, m1_gez, true_imp_iff, false_imp_iff, true_and, and_true, ne_eq, not_false_eq_true, not_true_eq_false, Nat.reduceEqDiff, Nat.reduceLT, Nat.reduceLeDiff, xf_102_57 hF, w3]
  with_reducible refine xm_go_blk b_X12_jetTypes_243 k_X12_jetTypes_243 ?_
  refine by_iload_n rfl ?_
  refine by_bipush cb_31 ?_
  refine by_ic_ne 255 rfl ?_
  simp (disch := first | exact Nat.ne_of_beq_eq_false rfl | exact rfl | omega) only [nI_add, xa_sub, xa_mul, pk_div, nm_mod, xa_shr, xa_and7, xa_and1, xa_and255, xa_by_and, nI_m1, Nat.add_sub_cancel, Nat.reducePow, Nat.zero_add, Nat.add_zero, Nat.reduceAdd, Nat.reduceMul, Nat.reduceSub, xf_same, xq_ff, xq_fo, xf_1, xf_2, xs_1, xs_2, xs_same, xq_so, xj_1, xj_2, xj_same, xq_jo, xq_sa1, xq_same, xq_other, upd_s, oI_n, oI_s, xv_0, xv_1, xv_2, xv_3, xm_p1, xm_p2, xq_fp, xq_fn, List.filter_nil, Nat.reduceBEq, Bool.not_true, Bool.not_false, Bool.and_true, Bool.and_false, Bool.false_and, Bool.true_and, if_true, if_false, Bool.false_eq_true, reduceIte, xc_i, xc_j, xc_r, xc_n, List.nil_append, List.cons_append, Option.toList_some, Option.toList_none, nI_ltJ, nI_leJ, nI_eqJ, nI_ltz, nI_gez, nI_gtz, nI_lez, nI_eqz, m1_ltz, m1_gez, true_imp_iff, false_imp_iff, true_and, and_true, ne_eq, not_false_eq_true, not_true_eq_false, Nat.reduceEqDiff, Nat.reduceLT, Nat.reduceLeDiff, xf_102_57 hF, w3]
  with_reducible refine xm_go_blk b_X12_jetTypes_255 k_X12_jetTypes_255 ?_
  refine by_iload_n rfl ?_
  refine by_bipush cb_32 ?_
  refine by_bipush cb_35 ?_
  refine by_ins3 cn_241 lk_12_211 (by rw [xe_cnt]; decide) is_319 np_319 (Nat.le_of_ble_eq_true rfl) ?_
  refine sp_within ?_
  rw [if_neg (by decide)]
  with_reducible refine xm_go_blk b_X12_jetTypes_263 k_X12_jetTypes_263 ?_
  refine by_if_eq 284 rfl ?_
  simp (disch := first | exact Nat.ne_of_beq_eq_false rfl | exact rfl | omega) only [nI_add, xa_sub, xa_mul, pk_div, nm_mod, xa_shr, xa_and7, xa_and1, xa_and255, xa_by_and, nI_m1, Nat.add_sub_cancel, Nat.reducePow, Nat.zero_add, Nat.add_zero, Nat.reduceAdd, Nat.reduceMul, Nat.reduceSub, xf_same, xq_ff, xq_fo, xf_1, xf_2, xs_1, xs_2, xs_same, xq_so, xj_1, xj_2, xj_same, xq_jo, xq_sa1, xq_same, xq_other, upd_s, oI_n, oI_s, xv_0, xv_1, xv_2, xv_3, xm_p1, xm_p2, xq_fp, xq_fn, List.filter_nil, Nat.reduceBEq, Bool.not_true, Bool.not_false, Bool.and_true, Bool.and_false, Bool.false_and, Bool.true_and, if_true, if_false, Bool.false_eq_true, reduceIte, xc_i, xc_j, xc_r, xc_n, List.nil_append, List.cons_append, Option.toList_some, Option.toList_none, nI_ltJ, nI_leJ, nI_eqJ, nI_ltz, nI_gez, nI_gtz, nI_lez, nI_eqz, m1_ltz, m1_gez, true_imp_iff, false_imp_iff, true_and, and_true, ne_eq, not_false_eq_true, not_true_eq_false, Nat.reduceEqDiff, Nat.reduceLT, Nat.reduceLeDiff, xf_102_57 hF, w3]
  with_reducible refine xm_go_blk b_X12_jetTypes_284 k_X12_jetTypes_284 ?_
  refine by_iload_n rfl ?_
  refine by_bipush cb_36 ?_
  refine by_ic_eq 296 rfl ?_
  simp (disch := first | exact Nat.ne_of_beq_eq_false rfl | exact rfl | omega) only [nI_add, xa_sub, xa_mul, pk_div, nm_mod, xa_shr, xa_and7, xa_and1, xa_and255, xa_by_and, nI_m1, Nat.add_sub_cancel, Nat.reducePow, Nat.zero_add, Nat.add_zero, Nat.reduceAdd, Nat.reduceMul, Nat.reduceSub, xf_same, xq_ff, xq_fo, xf_1, xf_2, xs_1, xs_2, xs_same, xq_so, xj_1, xj_2, xj_same, xq_jo, xq_sa1, xq_same, xq_other, upd_s, oI_n, oI_s, xv_0, xv_1, xv_2, xv_3, xm_p1, xm_p2, xq_fp, xq_fn, List.filter_nil, Nat.reduceBEq, Bool.not_true, Bool.not_false, Bool.and_true, Bool.and_false, Bool.false_and, Bool.true_and, if_true, if_false, Bool.false_eq_true, reduceIte, xc_i, xc_j, xc_r, xc_n, List.nil_append, List.cons_append, Option.toList_some, Option.toList_none, nI_ltJ, nI_leJ, nI_eqJ, nI_ltz, nI_gez, nI_gtz, nI_lez, nI_eqz, m1_ltz, m1_gez, true_imp_iff, false_imp_iff, true_and, and_true, ne_eq, not_false_eq_true, not_true_eq_false, Nat.reduceEqDiff, Nat.reduceLT, Nat.reduceLeDiff, xf_102_57 hF, w3]
  with_reducible refine xm_go_blk b_X12_jetTypes_290 k_X12_jetTypes_290 ?_
  refine by_iload_n rfl ?_
  refine by_bipush cb_37 ?_
  refine by_ic_ne 307 rfl ?_
  simp (disch := first | exact Nat.ne_of_beq_eq_false rfl | exact rfl | omega) only [nI_add, xa_sub, xa_mul, pk_div, nm_mod, xa_shr, xa_and7, xa_and1, xa_and255, xa_by_and, nI_m1, Nat.add_sub_cancel, Nat.reducePow, Nat.zero_add, Nat.add_zero, Nat.reduceAdd, Nat.reduceMul, Nat.reduceSub, xf_same, xq_ff, xq_fo, xf_1, xf_2, xs_1, xs_2, xs_same, xq_so, xj_1, xj_2, xj_same, xq_jo, xq_sa1, xq_same, xq_other, upd_s, oI_n, oI_s, xv_0, xv_1, xv_2, xv_3, xm_p1, xm_p2, xq_fp, xq_fn, List.filter_nil, Nat.reduceBEq, Bool.not_true, Bool.not_false, Bool.and_true, Bool.and_false, Bool.false_and, Bool.true_and, if_true, if_false, Bool.false_eq_true, reduceIte, xc_i, xc_j, xc_r, xc_n, List.nil_append, List.cons_append, Option.toList_some, Option.toList_none, nI_ltJ, nI_leJ, nI_eqJ, nI_ltz, nI_gez, nI_gtz, nI_lez, nI_eqz, m1_ltz, m1_gez, true_imp_iff, false_imp_iff, true_and, and_true, ne_eq, not_false_eq_true, not_true_eq_false, Nat.reduceEqDiff, Nat.reduceLT, Nat.reduceLeDiff, xf_102_57 hF, w3]
  with_reducible refine xm_go_blk b_X12_jetTypes_296 k_X12_jetTypes_296 ?_
  refine by_aload_n rfl ?_
  refine by_getf cn_241 fl_12_137 (by first | exact rfl | assumption) (by decide) ?_
  refine by_iconst ci_3 ?_
  simp (disch := first | exact Nat.ne_of_beq_eq_false rfl | exact rfl | omega) only [nI_add, xa_sub, xa_mul, pk_div, nm_mod, xa_shr, xa_and7, xa_and1, xa_and255, xa_by_and, nI_m1, Nat.add_sub_cancel, Nat.reducePow, Nat.zero_add, Nat.add_zero, Nat.reduceAdd, Nat.reduceMul, Nat.reduceSub, xf_same, xq_ff, xq_fo, xf_1, xf_2, xs_1, xs_2, xs_same, xq_so, xj_1, xj_2, xj_same, xq_jo, xq_sa1, xq_same, xq_other, upd_s, oI_n, oI_s, xf_102_57 hF, w3]
  first | refine by_iald (by first | exact rfl | assumption | exact ps_1 hpp | exact ps_2 hpp | exact ps_3 hpp | exact ps_4 hpp | exact ps_5 hpp | exact ps_6 hpp | exact ps_7 hpp | exact ps_8 hpp | exact ps_9 hpp | exact ps_10 hpp | exact ps_11 hpp | exact ps_15 hpp | exact ps_16 hpp | exact ps_17 hpp | exact ps_18 hpp | exact ps_19 hpp | exact ps_21 hpp | exact ps_22 hpp | exact ps_23 hpp | exact ps_24 hpp) ⟨by omega, by omega⟩ ?_ | refine by_tald rfl rfl ⟨by omega, by omega⟩ ?_
  refine by_istore (by rw [ml_241]; decide) ?_
  refine by_goto 348 rfl ?_
  simp (disch := first | exact Nat.ne_of_beq_eq_false rfl | exact rfl | omega) only [nI_add, xa_sub, xa_mul, pk_div, nm_mod, xa_shr, xa_and7, xa_and1, xa_and255, xa_by_and, nI_m1, Nat.add_sub_cancel, Nat.reducePow, Nat.zero_add, Nat.add_zero, Nat.reduceAdd, Nat.reduceMul, Nat.reduceSub, xf_same, xq_ff, xq_fo, xf_1, xf_2, xs_1, xs_2, xs_same, xq_so, xj_1, xj_2, xj_same, xq_jo, xq_sa1, xq_same, xq_other, upd_s, oI_n, oI_s, xv_0, xv_1, xv_2, xv_3, xm_p1, xm_p2, xq_fp, xq_fn, List.filter_nil, Nat.reduceBEq, Bool.not_true, Bool.not_false, Bool.and_true, Bool.and_false, Bool.false_and, Bool.true_and, if_true, if_false, Bool.false_eq_true, reduceIte, xc_i, xc_j, xc_r, xc_n, List.nil_append, List.cons_append, Option.toList_some, Option.toList_none, xf_102_57 hF, w3]
  refine xm_go_wk (by simp [Value.category]) (mj_348 (s := 3 + m + 1) (t := 4) hF hn (mjC_0 hg hp hm ?_ ?_))
  · rw [show 3 + m + 1 = 3 + m + 1 by omega]; exact (hw (3 + m) (by omega)).2
  · exact (hw 3 (by decide)).2
end JET
