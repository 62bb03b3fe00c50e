/-! ===== the reference: value ===== -/
def mvT : List (Nat × Nat) := [(102, 0), (102, 2), (102, 61)]
section MV
variable {sc : xm_Sc} {d tb : Nat} {o : Option PgD} {l : List Nat} {h : xm_H} {post : xm_Po} {i : Int32}
theorem mPg_w {q : PgD} {n : Nat} (hP : mPg h (some q)) (hn : n < q.2.1.length) (h11 : pC q.2.1 n ≠ 11) : ty_w (tyOf q tb n) ≤ 2048 := by
  obtain ⟨l, ps, a, S, T⟩ := q
  exact PG_w (tb := tb) hP.2.2.2.1 hn h11
theorem sp_mvalue (hF : XF h) (hP : mPg h o) (htb : tb < 2) (hl : mrow h 103 l) (ht : h.2.2 102 2 = .int (nI l.length))
    (hA : (∀ n, ¬ ndA o i n) → post (some (.int (nI 0))) (xm_sf h 102 0 (.int (nI 1))))
    (hH : ∀ n q h', o = some q → ndA o i n → pC q.2.1 n = 11 → Fr [115, 116, 145, 147] mvT h h' → h'.2.2 102 0 = .int (nI 0) → h'.2.2 102 2 = .int (nI 0) → post (some (.int (-2))) h')
    (hB : ∀ n q h', o = some q → ndA o i n → pC q.2.1 n ≠ 11 → ¬ vOK l (tyOf q tb n) → Fr [115, 116, 145, 147] mvT h h' → h'.2.2 102 0 = .int (nI 0) → h'.2.2 102 2 = .int (nI 0) → post (some (.int (-4))) h')
    (hL : ∀ n q h', o = some q → ndA o i n → pC q.2.1 n ≠ 11 → vOK l (tyOf q tb n) → 8192 < (vtx (by_bit l) (tyOf q tb n) 0).length → Fr [115, 116, 145, 147] mvT h h' → h'.2.2 102 0 = .int (nI 0) → h'.2.2 102 2 = .int (nI 0) → post (some (.int (-1))) h')
    (hC : ∀ n q h', o = some q → ndA o i n → pC q.2.1 n ≠ 11 → vOK l (tyOf q tb n) → (vtx (by_bit l) (tyOf q tb n) 0).length ≤ 8192 → Fr [104, 115, 116, 145, 147] ((102, 4) :: mvT) h h' → h'.2.2 102 0 = .int (nI 0) → h'.2.2 102 2 = .int (nI 0) → mrow h' 104 (vtx (by_bit l) (tyOf q tb n) 0) → h'.2.2 102 4 = .int (nI (vtx (by_bit l) (tyOf q tb n) 0).length) → post (some (.int (nI (vtx (by_bit l) (tyOf q tb n) 0).length))) h') :
    xm_T (XE sc) (d + 4) 317 [.ref 102, .int i, .int (nI tb)] h post := by
  refine xq_in rfl ?_
  simp only [xq_a0, xq_aI, xq_aJ, xq_aR, Nat.reduceAdd]
  with_reducible refine xm_go_blk b_X12_value_0 k_X12_value_0 ?_
  refine by_aload_n rfl ?_
  refine by_iload_n rfl ?_
  refine by_iload_n rfl ?_
  refine by_inv2 cn_317 lk_12_564 (by rw [xe_cnt]; decide) is_313 np_313 cn_313 (by first | exact rfl | assumption) (Nat.le_of_ble_eq_true rfl) ?_
  refine sp_typeAt (d := d + 1) hF hP htb (fun z => ?_) (fun n q e1 e2 e3 => ?_) (fun n q c tr K L R y e1 e2 e3 hY hy er => ?_)
  · with_reducible refine xm_go_blk b_X12_value_6 k_X12_value_6 ?_
    refine by_istore_n (by rw [ml_317]; decide) ?_
    refine by_aload_n rfl ?_
    refine by_getf cn_317 fl_12_205 (by first | exact rfl | assumption) (by decide) ?_
    simp (disch := first | exact Nat.ne_of_beq_eq_false rfl | exact rfl | omega) only [nI_add, xa_sub, xa_mul, pk_div, nm_mod, xa_shr, xa_and7, xa_and1, xa_and255, xa_by_and, nI_m1, Nat.add_sub_cancel, Nat.reducePow, Nat.zero_add, Nat.add_zero, Nat.reduceAdd, Nat.reduceMul, Nat.reduceSub, xf_same, xq_ff, xq_fo, xf_1, xf_2, xs_1, xs_2, xs_same, xq_so, xj_1, xj_2, xj_same, xq_jo, xq_sa1, xq_same, xq_other, upd_s, oI_n, oI_s]
    refine by_if_le 16 rfl ?_
    simp (disch := first | exact Nat.ne_of_beq_eq_false rfl | exact rfl | omega) only [nI_add, xa_sub, xa_mul, pk_div, nm_mod, xa_shr, xa_and7, xa_and1, xa_and255, xa_by_and, nI_m1, Nat.add_sub_cancel, Nat.reducePow, Nat.zero_add, Nat.add_zero, Nat.reduceAdd, Nat.reduceMul, Nat.reduceSub, xf_same, xq_ff, xq_fo, xf_1, xf_2, xs_1, xs_2, xs_same, xq_so, xj_1, xj_2, xj_same, xq_jo, xq_sa1, xq_same, xq_other, upd_s, oI_n, oI_s, xv_0, xv_1, xv_2, xv_3, xm_p1, xm_p2, xq_fp, xq_fn, List.filter_nil, Nat.reduceBEq, Bool.not_true, Bool.not_false, Bool.and_true, Bool.and_false, Bool.false_and, Bool.true_and, if_true, if_false, Bool.false_eq_true, reduceIte, xc_i, xc_j, xc_r, xc_n, List.nil_append, List.cons_append, Option.toList_some, Option.toList_none, nI_ltJ, nI_leJ, nI_eqJ, nI_ltz, nI_gez, nI_gtz, nI_lez, nI_eqz, m1_ltz, m1_gez, true_imp_iff, false_imp_iff, true_and, and_true, ne_eq, not_false_eq_true, not_true_eq_false, Nat.reduceEqDiff, Nat.reduceLT, Nat.reduceLeDiff]
    with_reducible refine xm_go_blk b_X12_value_14 k_X12_value_14 ?_
    refine by_iconst ci_0 ?_
    refine by_iret ry_317 (by first | rfl | assumption) ?_
    exact hA z
  · with_reducible refine xm_go_blk b_X12_value_6 k_X12_value_6 ?_
    refine by_istore_n (by rw [ml_317]; decide) ?_
    refine by_aload_n rfl ?_
    refine by_getf cn_317 fl_12_205 (by first | exact rfl | assumption) (by decide) ?_
    simp (disch := first | exact Nat.ne_of_beq_eq_false rfl | exact rfl | omega) only [nI_add, xa_sub, xa_mul, pk_div, nm_mod, xa_shr, xa_and7, xa_and1, xa_and255, xa_by_and, nI_m1, Nat.add_sub_cancel, Nat.reducePow, Nat.zero_add, Nat.add_zero, Nat.reduceAdd, Nat.reduceMul, Nat.reduceSub, xf_same, xq_ff, xq_fo, xf_1, xf_2, xs_1, xs_2, xs_same, xq_so, xj_1, xj_2, xj_same, xq_jo, xq_sa1, xq_same, xq_other, upd_s, oI_n, oI_s, m2_ge, m2_lt]
    refine by_if_le 16 rfl ?_
    simp (disch := first | exact Nat.ne_of_beq_eq_false rfl | exact rfl | omega) only [nI_add, xa_sub, xa_mul, pk_div, nm_mod, xa_shr, xa_and7, xa_and1, xa_and255, xa_by_and, nI_m1, Nat.add_sub_cancel, Nat.reducePow, Nat.zero_add, Nat.add_zero, Nat.reduceAdd, Nat.reduceMul, Nat.reduceSub, xf_same, xq_ff, xq_fo, xf_1, xf_2, xs_1, xs_2, xs_same, xq_so, xj_1, xj_2, xj_same, xq_jo, xq_sa1, xq_same, xq_other, upd_s, oI_n, oI_s, xv_0, xv_1, xv_2, xv_3, xm_p1, xm_p2, xq_fp, xq_fn, List.filter_nil, Nat.reduceBEq, Bool.not_true, Bool.not_false, Bool.and_true, Bool.and_false, Bool.false_and, Bool.true_and, if_true, if_false, Bool.false_eq_true, reduceIte, xc_i, xc_j, xc_r, xc_n, List.nil_append, List.cons_append, Option.toList_some, Option.toList_none, nI_ltJ, nI_leJ, nI_eqJ, nI_ltz, nI_gez, nI_gtz, nI_lez, nI_eqz, m1_ltz, m1_gez, true_imp_iff, false_imp_iff, true_and, and_true, ne_eq, not_false_eq_true, not_true_eq_false, Nat.reduceEqDiff, Nat.reduceLT, Nat.reduceLeDiff, m2_ge, m2_lt]
    with_reducible refine xm_go_blk b_X12_value_16 k_X12_value_16 ?_
    refine by_iload_n rfl ?_
    refine by_if_lt 40 rfl ?_
    simp (disch := first | exact Nat.ne_of_beq_eq_false rfl | exact rfl | omega) only [nI_add, xa_sub, xa_mul, pk_div, nm_mod, xa_shr, xa_and7, xa_and1, xa_and255, xa_by_and, nI_m1, Nat.add_sub_cancel, Nat.reducePow, Nat.zero_add, Nat.add_zero, Nat.reduceAdd, Nat.reduceMul, Nat.reduceSub, xf_same, xq_ff, xq_fo, xf_1, xf_2, xs_1, xs_2, xs_same, xq_so, xj_1, xj_2, xj_same, xq_jo, xq_sa1, xq_same, xq_other, upd_s, oI_n, oI_s, xv_0, xv_1, xv_2, xv_3, xm_p1, xm_p2, xq_fp, xq_fn, List.filter_nil, Nat.reduceBEq, Bool.not_true, Bool.not_false, Bool.and_true, Bool.and_false, Bool.false_and, Bool.true_and, if_true, if_false, Bool.false_eq_true, reduceIte, xc_i, xc_j, xc_r, xc_n, List.nil_append, List.cons_append, Option.toList_some, Option.toList_none, nI_ltJ, nI_leJ, nI_eqJ, nI_ltz, nI_gez, nI_gtz, nI_lez, nI_eqz, m1_ltz, m1_gez, true_imp_iff, false_imp_iff, true_and, and_true, ne_eq, not_false_eq_true, not_true_eq_false, Nat.reduceEqDiff, Nat.reduceLT, Nat.reduceLeDiff, m2_ge, m2_lt]
    with_reducible refine xm_go_blk b_X12_value_40 k_X12_value_40 ?_
    refine by_iconst ci_0 ?_
    refine by_nil ?_
    with_reducible refine xm_go_blk b_X12_value_41 k_X12_value_41 ?_
    refine by_istore (by rw [ml_317]; decide) ?_
    refine by_aload_n rfl ?_
    refine by_iconst ci_0 ?_
    refine by_putf cn_317 fl_12_215 (by first | exact rfl | assumption) (by decide) nf_12_2 ft_12_2 (by first | rfl | assumption) (by first | rfl | assumption) ?_
    refine by_iload_n rfl ?_
    refine by_if_ge 55 rfl ?_
    simp (disch := first | exact Nat.ne_of_beq_eq_false rfl | exact rfl | omega) only [nI_add, xa_sub, xa_mul, pk_div, nm_mod, xa_shr, xa_and7, xa_and1, xa_and255, xa_by_and, nI_m1, Nat.add_sub_cancel, Nat.reducePow, Nat.zero_add, Nat.add_zero, Nat.reduceAdd, Nat.reduceMul, Nat.reduceSub, xf_same, xq_ff, xq_fo, xf_1, xf_2, xs_1, xs_2, xs_same, xq_so, xj_1, xj_2, xj_same, xq_jo, xq_sa1, xq_same, xq_other, upd_s, oI_n, oI_s, xv_0, xv_1, xv_2, xv_3, xm_p1, xm_p2, xq_fp, xq_fn, List.filter_nil, Nat.reduceBEq, Bool.not_true, Bool.not_false, Bool.and_true, Bool.and_false, Bool.false_and, Bool.true_and, if_true, if_false, Bool.false_eq_true, reduceIte, xc_i, xc_j, xc_r, xc_n, List.nil_append, List.cons_append, Option.toList_some, Option.toList_none, nI_ltJ, nI_leJ, nI_eqJ, nI_ltz, nI_gez, nI_gtz, nI_lez, nI_eqz, m1_ltz, m1_gez, true_imp_iff, false_imp_iff, true_and, and_true, ne_eq, not_false_eq_true, not_true_eq_false, Nat.reduceEqDiff, Nat.reduceLT, Nat.reduceLeDiff, m2_ge, m2_lt]
    with_reducible refine xm_go_blk b_X12_value_52 k_X12_value_52 ?_
    refine by_bipush cb_m2 ?_
    refine by_iret ry_317 (by first | rfl | assumption) ?_
    refine hH n q _ e1 e2 e3 (Fr_sf (Fr_sf Fr_rf (by simp [mvT])) (by simp [mvT])) ?_ ?_
    · simp [xm_sf, updV]
    · simp only [xf_same]
  · have hc := hY.1
    have f1 : Fr [] [(102, 0)] h (xm_sf h 102 0 (.int (nI 0))) := Fr_sf Fr_rf (by simp)
    have F1 := Fr_XF hF f1 (by decide +kernel)
    have hY1 := mY_fr hY f1 (by simp) (by simp) (by simp) (by simp) (by simp) (by simp)
    have z1 : (xm_sf h 102 0 (.int (nI 0))).2.2 102 0 = .int (nI 0) := by simp only [xf_same]
    have t1 : (xm_sf h 102 0 (.int (nI 0))).2.2 102 2 = .int (nI l.length) := by rw [f1.2.2 _ _ (by simp)]; exact ht
    have l1 : mrow (xm_sf h 102 0 (.int (nI 0))) 103 l := ⟨hl.1, hl.2⟩
    have hw : ty_w (tr y) ≤ 2048 := by rw [er]; subst e1; exact mPg_w hP e2.2 e3
    with_reducible refine xm_go_blk b_X12_value_6 k_X12_value_6 ?_
    refine by_istore_n (by rw [ml_317]; decide) ?_
    refine by_aload_n rfl ?_
    refine by_getf cn_317 fl_12_205 (by first | exact rfl | assumption) (by decide) ?_
    simp (disch := first | exact Nat.ne_of_beq_eq_false rfl | exact rfl | omega) only [nI_add, xa_sub, xa_mul, pk_div, nm_mod, xa_shr, xa_and7, xa_and1, xa_and255, xa_by_and, nI_m1, Nat.add_sub_cancel, Nat.reducePow, Nat.zero_add, Nat.add_zero, Nat.reduceAdd, Nat.reduceMul, Nat.reduceSub, xf_same, xq_ff, xq_fo, xf_1, xf_2, xs_1, xs_2, xs_same, xq_so, xj_1, xj_2, xj_same, xq_jo, xq_sa1, xq_same, xq_other, upd_s, oI_n, oI_s]
    refine by_if_le 16 rfl ?_
    simp (disch := first | exact Nat.ne_of_beq_eq_false rfl | exact rfl | omega) only [nI_add, xa_sub, xa_mul, pk_div, nm_mod, xa_shr, xa_and7, xa_and1, xa_and255, xa_by_and, nI_m1, Nat.add_sub_cancel, Nat.reducePow, Nat.zero_add, Nat.add_zero, Nat.reduceAdd, Nat.reduceMul, Nat.reduceSub, xf_same, xq_ff, xq_fo, xf_1, xf_2, xs_1, xs_2, xs_same, xq_so, xj_1, xj_2, xj_same, xq_jo, xq_sa1, xq_same, xq_other, upd_s, oI_n, oI_s, xv_0, xv_1, xv_2, xv_3, xm_p1, xm_p2, xq_fp, xq_fn, List.filter_nil, Nat.reduceBEq, Bool.not_true, Bool.not_false, Bool.and_true, Bool.and_false, Bool.false_and, Bool.true_and, if_true, if_false, Bool.false_eq_true, reduceIte, xc_i, xc_j, xc_r, xc_n, List.nil_append, List.cons_append, Option.toList_some, Option.toList_none, nI_ltJ, nI_leJ, nI_eqJ, nI_ltz, nI_gez, nI_gtz, nI_lez, nI_eqz, m1_ltz, m1_gez, true_imp_iff, false_imp_iff, true_and, and_true, ne_eq, not_false_eq_true, not_true_eq_false, Nat.reduceEqDiff, Nat.reduceLT, Nat.reduceLeDiff]
    with_reducible refine xm_go_blk b_X12_value_16 k_X12_value_16 ?_
    refine by_iload_n rfl ?_
    refine by_if_lt 40 rfl ?_
    simp (disch := first | exact Nat.ne_of_beq_eq_false rfl | exact rfl | omega) only [nI_add, xa_sub, xa_mul, pk_div, nm_mod, xa_shr, xa_and7, xa_and1, xa_and255, xa_by_and, nI_m1, Nat.add_sub_cancel, Nat.reducePow, Nat.zero_add, Nat.add_zero, Nat.reduceAdd, Nat.reduceMul, Nat.reduceSub, xf_same, xq_ff, xq_fo, xf_1, xf_2, xs_1, xs_2, xs_same, xq_so, xj_1, xj_2, xj_same, xq_jo, xq_sa1, xq_same, xq_other, upd_s, oI_n, oI_s, xv_0, xv_1, xv_2, xv_3, xm_p1, xm_p2, xq_fp, xq_fn, List.filter_nil, Nat.reduceBEq, Bool.not_true, Bool.not_false, Bool.and_true, Bool.and_false, Bool.false_and, Bool.true_and, if_true, if_false, Bool.false_eq_true, reduceIte, xc_i, xc_j, xc_r, xc_n, List.nil_append, List.cons_append, Option.toList_some, Option.toList_none, nI_ltJ, nI_leJ, nI_eqJ, nI_ltz, nI_gez, nI_gtz, nI_lez, nI_eqz, m1_ltz, m1_gez, true_imp_iff, false_imp_iff, true_and, and_true, ne_eq, not_false_eq_true, not_true_eq_false, Nat.reduceEqDiff, Nat.reduceLT, Nat.reduceLeDiff]
    with_reducible refine xm_go_blk b_X12_value_20 k_X12_value_20 ?_
    refine by_aload_n rfl ?_
    refine by_iload_n rfl ?_
    refine by_if_ge 29 rfl ?_
    simp (disch := first | exact Nat.ne_of_beq_eq_false rfl | exact rfl | omega) only [nI_add, xa_sub, xa_mul, pk_div, nm_mod, xa_shr, xa_and7, xa_and1, xa_and255, xa_by_and, nI_m1, Nat.add_sub_cancel, Nat.reducePow, Nat.zero_add, Nat.add_zero, Nat.reduceAdd, Nat.reduceMul, Nat.reduceSub, xf_same, xq_ff, xq_fo, xf_1, xf_2, xs_1, xs_2, xs_same, xq_so, xj_1, xj_2, xj_same, xq_jo, xq_sa1, xq_same, xq_other, upd_s, oI_n, oI_s, xv_0, xv_1, xv_2, xv_3, xm_p1, xm_p2, xq_fp, xq_fn, List.filter_nil, Nat.reduceBEq, Bool.not_true, Bool.not_false, Bool.and_true, Bool.and_false, Bool.false_and, Bool.true_and, if_true, if_false, Bool.false_eq_true, reduceIte, xc_i, xc_j, xc_r, xc_n, List.nil_append, List.cons_append, Option.toList_some, Option.toList_none, nI_ltJ, nI_leJ, nI_eqJ, nI_ltz, nI_gez, nI_gtz, nI_lez, nI_eqz, m1_ltz, m1_gez, true_imp_iff, false_imp_iff, true_and, and_true, ne_eq, not_false_eq_true, not_true_eq_false, Nat.reduceEqDiff, Nat.reduceLT, Nat.reduceLeDiff]
    with_reducible refine xm_go_blk b_X12_value_29 k_X12_value_29 ?_
    refine by_iload_n rfl ?_
    refine by_nil ?_
    with_reducible refine xm_go_blk b_X12_value_30 k_X12_value_30 ?_
    refine by_inv1 cn_317 lk_12_532 (by rw [xe_cnt]; decide) is_304 np_304 cn_304 (by first | exact rfl | assumption) (Nat.le_of_ble_eq_true rfl) ?_
    generalize xm_sf h 102 0 (.int (nI 0)) = g1 at *
    refine sp_takesValue (d := d + 1) F1 hY1 hy l1 t1 hw (fun h2 hv f2 u2 b2 => ?_) (fun h2 hv f2 u2 => ?_)
    · have F2 := Fr_XF F1 f2 (by decide +kernel)
      have f3 : Fr tvR [(102, 2)] g1 (xm_sf h2 102 2 (.int (nI 0))) := Fr_sf f2 (by simp)
      have F3 := Fr_XF F1 f3 (by decide +kernel)
      have hY3 := mY_fr hY1 f3 (by simp [tvR]) (by simp [tvR]) (by simp [tvR]) (by simp [tvR]) (by simp [tvR]) (by simp [tvR])
      rw [er] at hv
      with_reducible refine xm_go_blk b_X12_value_33 k_X12_value_33 ?_
      refine by_if_eq 40 rfl ?_
      simp (disch := first | exact Nat.ne_of_beq_eq_false rfl | exact rfl | omega) only [nI_add, xa_sub, xa_mul, pk_div, nm_mod, xa_shr, xa_and7, xa_and1, xa_and255, xa_by_and, nI_m1, Nat.add_sub_cancel, Nat.reducePow, Nat.zero_add, Nat.add_zero, Nat.reduceAdd, Nat.reduceMul, Nat.reduceSub, xf_same, xq_ff, xq_fo, xf_1, xf_2, xs_1, xs_2, xs_same, xq_so, xj_1, xj_2, xj_same, xq_jo, xq_sa1, xq_same, xq_other, upd_s, oI_n, oI_s, xv_0, xv_1, xv_2, xv_3, xm_p1, xm_p2, xq_fp, xq_fn, List.filter_nil, Nat.reduceBEq, Bool.not_true, Bool.not_false, Bool.and_true, Bool.and_false, Bool.false_and, Bool.true_and, if_true, if_false, Bool.false_eq_true, reduceIte, xc_i, xc_j, xc_r, xc_n, List.nil_append, List.cons_append, Option.toList_some, Option.toList_none, nI_ltJ, nI_leJ, nI_eqJ, nI_ltz, nI_gez, nI_gtz, nI_lez, nI_eqz, m1_ltz, m1_gez, true_imp_iff, false_imp_iff, true_and, and_true, ne_eq, not_false_eq_true, not_true_eq_false, Nat.reduceEqDiff, Nat.reduceLT, Nat.reduceLeDiff]
      with_reducible refine xm_go_blk b_X12_value_36 k_X12_value_36 ?_
      refine by_iconst ci_1 ?_
      refine by_goto 41 rfl ?_
      with_reducible refine xm_go_blk b_X12_value_41 k_X12_value_41 ?_
      refine by_istore (by rw [ml_317]; decide) ?_
      refine by_aload_n rfl ?_
      refine by_iconst ci_0 ?_
      refine by_putf cn_317 fl_12_215 (by first | exact rfl | assumption) (by decide) nf_12_2 ft_12_2 (by first | rfl | assumption) (by first | rfl | assumption) ?_
      refine by_iload_n rfl ?_
      refine by_if_ge 55 rfl ?_
      simp (disch := first | exact Nat.ne_of_beq_eq_false rfl | exact rfl | omega) only [nI_add, xa_sub, xa_mul, pk_div, nm_mod, xa_shr, xa_and7, xa_and1, xa_and255, xa_by_and, nI_m1, Nat.add_sub_cancel, Nat.reducePow, Nat.zero_add, Nat.add_zero, Nat.reduceAdd, Nat.reduceMul, Nat.reduceSub, xf_same, xq_ff, xq_fo, xf_1, xf_2, xs_1, xs_2, xs_same, xq_so, xj_1, xj_2, xj_same, xq_jo, xq_sa1, xq_same, xq_other, upd_s, oI_n, oI_s, xv_0, xv_1, xv_2, xv_3, xm_p1, xm_p2, xq_fp, xq_fn, List.filter_nil, Nat.reduceBEq, Bool.not_true, Bool.not_false, Bool.and_true, Bool.and_false, Bool.false_and, Bool.true_and, if_true, if_false, Bool.false_eq_true, reduceIte, xc_i, xc_j, xc_r, xc_n, List.nil_append, List.cons_append, Option.toList_some, Option.toList_none, nI_ltJ, nI_leJ, nI_eqJ, nI_ltz, nI_gez, nI_gtz, nI_lez, nI_eqz, m1_ltz, m1_gez, true_imp_iff, false_imp_iff, true_and, and_true, ne_eq, not_false_eq_true, not_true_eq_false, Nat.reduceEqDiff, Nat.reduceLT, Nat.reduceLeDiff]
      with_reducible refine xm_go_blk b_X12_value_55 k_X12_value_55 ?_
      refine by_iload rfl ?_
      refine by_if_ne 63 rfl ?_
      simp (disch := first | exact Nat.ne_of_beq_eq_false rfl | exact rfl | omega) only [nI_add, xa_sub, xa_mul, pk_div, nm_mod, xa_shr, xa_and7, xa_and1, xa_and255, xa_by_and, nI_m1, Nat.add_sub_cancel, Nat.reducePow, Nat.zero_add, Nat.add_zero, Nat.reduceAdd, Nat.reduceMul, Nat.reduceSub, xf_same, xq_ff, xq_fo, xf_1, xf_2, xs_1, xs_2, xs_same, xq_so, xj_1, xj_2, xj_same, xq_jo, xq_sa1, xq_same, xq_other, upd_s, oI_n, oI_s, xv_0, xv_1, xv_2, xv_3, xm_p1, xm_p2, xq_fp, xq_fn, List.filter_nil, Nat.reduceBEq, Bool.not_true, Bool.not_false, Bool.and_true, Bool.and_false, Bool.false_and, Bool.true_and, if_true, if_false, Bool.false_eq_true, reduceIte, xc_i, xc_j, xc_r, xc_n, List.nil_append, List.cons_append, Option.toList_some, Option.toList_none, nI_ltJ, nI_leJ, nI_eqJ, nI_ltz, nI_gez, nI_gtz, nI_lez, nI_eqz, m1_ltz, m1_gez, true_imp_iff, false_imp_iff, true_and, and_true, ne_eq, not_false_eq_true, not_true_eq_false, Nat.reduceEqDiff, Nat.reduceLT, Nat.reduceLeDiff]
      with_reducible refine xm_go_blk b_X12_value_63 k_X12_value_63 ?_
      refine by_aload_n rfl ?_
      refine by_iload_n rfl ?_
      refine by_inv1 cn_317 lk_12_571 (by rw [xe_cnt]; decide) is_258 np_258 cn_258 (by first | exact rfl | assumption) (Nat.le_of_ble_eq_true rfl) ?_
      refine sp_makeValue (d := d) (v := by_bit l) F3 hY3 hy (by_bit_lt l) hw (fun x hx => b2 x hx) (fun h4 X f4 p4 x1 x2 => ?_)
      rw [er] at x1 x2
      have F4 := Fr_XF F3 f4 (by decide +kernel)
      have f04 : Fr [115, 116, 145, 147] mvT h h4 := Fr_tr (Fr_tr (Fr_mo f1 (by simp) (by simp [mvT])) f3 (by simp [tvR]) (by simp [mvT])) f4 (by simp) (by simp [mvT])
      have z4 : h4.2.2 102 0 = .int (nI 0) := by rw [f4.2.2 _ _ (by simp), f3.2.2 _ _ (by simp)]; exact z1
      have u4 : h4.2.2 102 2 = .int (nI 0) := by rw [f4.2.2 _ _ (by simp)]; simp only [xf_same]
      with_reducible refine xm_go_blk b_X12_value_68 k_X12_value_68 ?_
      refine by_aload_n rfl ?_
      refine by_inv0 cn_317 lk_12_292 (by rw [xe_cnt]; decide) is_236 np_236 cn_236 (by first | exact rfl | assumption) (Nat.le_of_ble_eq_true rfl) ?_
      refine sp_tooLong p4 ?_
      by_cases ov : X.length ≤ 8192
      · rw [if_pos ov]
        have ex := x1 ov
        subst ex
        with_reducible refine xm_go_blk b_X12_value_72 k_X12_value_72 ?_
        refine by_if_eq 79 rfl ?_
        simp (disch := first | exact Nat.ne_of_beq_eq_false rfl | exact rfl | omega) only [nI_add, xa_sub, xa_mul, pk_div, nm_mod, xa_shr, xa_and7, xa_and1, xa_and255, xa_by_and, nI_m1, Nat.add_sub_cancel, Nat.reducePow, Nat.zero_add, Nat.add_zero, Nat.reduceAdd, Nat.reduceMul, Nat.reduceSub, xf_same, xq_ff, xq_fo, xf_1, xf_2, xs_1, xs_2, xs_same, xq_so, xj_1, xj_2, xj_same, xq_jo, xq_sa1, xq_same, xq_other, upd_s, oI_n, oI_s, xv_0, xv_1, xv_2, xv_3, xm_p1, xm_p2, xq_fp, xq_fn, List.filter_nil, Nat.reduceBEq, Bool.not_true, Bool.not_false, Bool.and_true, Bool.and_false, Bool.false_and, Bool.true_and, if_true, if_false, Bool.false_eq_true, reduceIte, xc_i, xc_j, xc_r, xc_n, List.nil_append, List.cons_append, Option.toList_some, Option.toList_none, nI_ltJ, nI_leJ, nI_eqJ, nI_ltz, nI_gez, nI_gtz, nI_lez, nI_eqz, m1_ltz, m1_gez, true_imp_iff, false_imp_iff, true_and, and_true, ne_eq, not_false_eq_true, not_true_eq_false, Nat.reduceEqDiff, Nat.reduceLT, Nat.reduceLeDiff]
        with_reducible refine xm_go_blk b_X12_value_79 k_X12_value_79 ?_
        refine by_aload_n rfl ?_
        refine by_inv0 cn_317 lk_12_568 (by rw [xe_cnt]; decide) is_308 np_308 cn_308 (by first | exact rfl | assumption) (Nat.le_of_ble_eq_true rfl) ?_
        refine sp_tellsMade F4 p4 ov (fun i hi => vtx_lt (by_bit_lt l) _ _ _ (by rw [List.getD_eq_getElem?_getD, List.getElem?_eq_getElem hi]; exact List.getElem_mem hi)) (fun h5 f5 r5 o5 => ?_)
        with_reducible refine xm_go_blk b_X12_value_83 k_X12_value_83 ?_
        refine by_iret ry_317 (by first | rfl | assumption) ?_
        exact hC n q h5 e1 e2 e3 hv ov (Fr_tr (Fr_mo f04 (by simp) (fun _ z => List.mem_cons_of_mem _ z)) f5 (by simp) (by simp)) (by rw [f5.2.2 _ _ (by simp)]; exact z4) (by rw [f5.2.2 _ _ (by simp)]; exact u4) r5 o5
      · rw [if_neg ov]
        with_reducible refine xm_go_blk b_X12_value_72 k_X12_value_72 ?_
        refine by_if_eq 79 rfl ?_
        simp (disch := first | exact Nat.ne_of_beq_eq_false rfl | exact rfl | omega) only [nI_add, xa_sub, xa_mul, pk_div, nm_mod, xa_shr, xa_and7, xa_and1, xa_and255, xa_by_and, nI_m1, Nat.add_sub_cancel, Nat.reducePow, Nat.zero_add, Nat.add_zero, Nat.reduceAdd, Nat.reduceMul, Nat.reduceSub, xf_same, xq_ff, xq_fo, xf_1, xf_2, xs_1, xs_2, xs_same, xq_so, xj_1, xj_2, xj_same, xq_jo, xq_sa1, xq_same, xq_other, upd_s, oI_n, oI_s, xv_0, xv_1, xv_2, xv_3, xm_p1, xm_p2, xq_fp, xq_fn, List.filter_nil, Nat.reduceBEq, Bool.not_true, Bool.not_false, Bool.and_true, Bool.and_false, Bool.false_and, Bool.true_and, if_true, if_false, Bool.false_eq_true, reduceIte, xc_i, xc_j, xc_r, xc_n, List.nil_append, List.cons_append, Option.toList_some, Option.toList_none, nI_ltJ, nI_leJ, nI_eqJ, nI_ltz, nI_gez, nI_gtz, nI_lez, nI_eqz, m1_ltz, m1_gez, true_imp_iff, false_imp_iff, true_and, and_true, ne_eq, not_false_eq_true, not_true_eq_false, Nat.reduceEqDiff, Nat.reduceLT, Nat.reduceLeDiff]
        with_reducible refine xm_go_blk b_X12_value_75 k_X12_value_75 ?_
        refine by_iconst ci_m1 ?_
        refine by_goto 83 rfl ?_
        with_reducible refine xm_go_blk b_X12_value_83 k_X12_value_83 ?_
        refine by_iret ry_317 (by first | rfl | assumption) ?_
        exact hL n q h4 e1 e2 e3 hv (x2 (by omega)) f04 z4 u4
    · rw [er] at hv
      have F2 := Fr_XF F1 f2 (by decide +kernel)
      have f3 : Fr tvR [(102, 2)] g1 (xm_sf h2 102 2 (.int (nI 0))) := Fr_sf f2 (by simp)
      with_reducible refine xm_go_blk b_X12_value_33 k_X12_value_33 ?_
      refine by_if_eq 40 rfl ?_
      simp (disch := first | exact Nat.ne_of_beq_eq_false rfl | exact rfl | omega) only [nI_add, xa_sub, xa_mul, pk_div, nm_mod, xa_shr, xa_and7, xa_and1, xa_and255, xa_by_and, nI_m1, Nat.add_sub_cancel, Nat.reducePow, Nat.zero_add, Nat.add_zero, Nat.reduceAdd, Nat.reduceMul, Nat.reduceSub, xf_same, xq_ff, xq_fo, xf_1, xf_2, xs_1, xs_2, xs_same, xq_so, xj_1, xj_2, xj_same, xq_jo, xq_sa1, xq_same, xq_other, upd_s, oI_n, oI_s, xv_0, xv_1, xv_2, xv_3, xm_p1, xm_p2, xq_fp, xq_fn, List.filter_nil, Nat.reduceBEq, Bool.not_true, Bool.not_false, Bool.and_true, Bool.and_false, Bool.false_and, Bool.true_and, if_true, if_false, Bool.false_eq_true, reduceIte, xc_i, xc_j, xc_r, xc_n, List.nil_append, List.cons_append, Option.toList_some, Option.toList_none, nI_ltJ, nI_leJ, nI_eqJ, nI_ltz, nI_gez, nI_gtz, nI_lez, nI_eqz, m1_ltz, m1_gez, true_imp_iff, false_imp_iff, true_and, and_true, ne_eq, not_false_eq_true, not_true_eq_false, Nat.reduceEqDiff, Nat.reduceLT, Nat.reduceLeDiff]
      with_reducible refine xm_go_blk b_X12_value_40 k_X12_value_40 ?_
      refine by_iconst ci_0 ?_
      refine by_nil ?_
      with_reducible refine xm_go_blk b_X12_value_41 k_X12_value_41 ?_
      refine by_istore (by rw [ml_317]; decide) ?_
      refine by_aload_n rfl ?_
      refine by_iconst ci_0 ?_
      refine by_putf cn_317 fl_12_215 (by first | exact rfl | assumption) (by decide) nf_12_2 ft_12_2 (by first | rfl | assumption) (by first | rfl | assumption) ?_
      refine by_iload_n rfl ?_
      refine by_if_ge 55 rfl ?_
      simp (disch := first | exact Nat.ne_of_beq_eq_false rfl | exact rfl | omega) only [nI_add, xa_sub, xa_mul, pk_div, nm_mod, xa_shr, xa_and7, xa_and1, xa_and255, xa_by_and, nI_m1, Nat.add_sub_cancel, Nat.reducePow, Nat.zero_add, Nat.add_zero, Nat.reduceAdd, Nat.reduceMul, Nat.reduceSub, xf_same, xq_ff, xq_fo, xf_1, xf_2, xs_1, xs_2, xs_same, xq_so, xj_1, xj_2, xj_same, xq_jo, xq_sa1, xq_same, xq_other, upd_s, oI_n, oI_s, xv_0, xv_1, xv_2, xv_3, xm_p1, xm_p2, xq_fp, xq_fn, List.filter_nil, Nat.reduceBEq, Bool.not_true, Bool.not_false, Bool.and_true, Bool.and_false, Bool.false_and, Bool.true_and, if_true, if_false, Bool.false_eq_true, reduceIte, xc_i, xc_j, xc_r, xc_n, List.nil_append, List.cons_append, Option.toList_some, Option.toList_none, nI_ltJ, nI_leJ, nI_eqJ, nI_ltz, nI_gez, nI_gtz, nI_lez, nI_eqz, m1_ltz, m1_gez, true_imp_iff, false_imp_iff, true_and, and_true, ne_eq, not_false_eq_true, not_true_eq_false, Nat.reduceEqDiff, Nat.reduceLT, Nat.reduceLeDiff]
      with_reducible refine xm_go_blk b_X12_value_55 k_X12_value_55 ?_
      refine by_iload rfl ?_
      refine by_if_ne 63 rfl ?_
      simp (disch := first | exact Nat.ne_of_beq_eq_false rfl | exact rfl | omega) only [nI_add, xa_sub, xa_mul, pk_div, nm_mod, xa_shr, xa_and7, xa_and1, xa_and255, xa_by_and, nI_m1, Nat.add_sub_cancel, Nat.reducePow, Nat.zero_add, Nat.add_zero, Nat.reduceAdd, Nat.reduceMul, Nat.reduceSub, xf_same, xq_ff, xq_fo, xf_1, xf_2, xs_1, xs_2, xs_same, xq_so, xj_1, xj_2, xj_same, xq_jo, xq_sa1, xq_same, xq_other, upd_s, oI_n, oI_s, xv_0, xv_1, xv_2, xv_3, xm_p1, xm_p2, xq_fp, xq_fn, List.filter_nil, Nat.reduceBEq, Bool.not_true, Bool.not_false, Bool.and_true, Bool.and_false, Bool.false_and, Bool.true_and, if_true, if_false, Bool.false_eq_true, reduceIte, xc_i, xc_j, xc_r, xc_n, List.nil_append, List.cons_append, Option.toList_some, Option.toList_none, nI_ltJ, nI_leJ, nI_eqJ, nI_ltz, nI_gez, nI_gtz, nI_lez, nI_eqz, m1_ltz, m1_gez, true_imp_iff, false_imp_iff, true_and, and_true, ne_eq, not_false_eq_true, not_true_eq_false, Nat.reduceEqDiff, Nat.reduceLT, Nat.reduceLeDiff]
      with_reducible refine xm_go_blk b_X12_value_60 k_X12_value_60 ?_
      refine by_bipush cb_m4 ?_
      refine by_iret ry_317 (by first | rfl | assumption) ?_
      exact hB n q _ e1 e2 e3 hv (Fr_tr (Fr_mo f1 (by simp) (by simp [mvT])) f3 (by simp [tvR]) (by simp [mvT])) (by rw [f3.2.2 _ _ (by simp)]; exact z1) (by simp only [xf_same])
end MV
