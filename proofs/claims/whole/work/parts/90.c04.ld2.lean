/-! ===== Loader: children, nodes ===== -/
def ldCh (h h' : xm_H) (pp : Nat) (l : List Nat) (r : Except Nat (Nat × Nat)) (y : Int32) : Prop := Fr [] [(45, 3), (45, 5)] h h' ∧ match r with
  | .error x => 1 ≤ x ∧ y = -1 ∧ ∃ a', ldS h' pp l a' x
  | .ok (i, b) => y = nI i ∧ ldS h' pp l b 0
theorem sp_rdC {sc : xm_Sc} {d pp a n : Nat} {l : List Nat} {h : xm_H} {post : xm_Po} (hn : n ≤ 2000) (hS : ldS h pp l a 0) (hp : ∀ y h', ldCh h h' pp l (pr_ch (by_bit l) (8 * l.length) n a) y → post (some (.int y)) h') :
    xm_T (XE sc) (d + 5) 70 [.ref 45, .int (nI n)] h post := by
  refine xq_in rfl ?_
  simp only [xq_a0, xq_aI, xq_aJ, xq_aR, Nat.reduceAdd]
  have hlen := hS.2.2.2.2.2.2.2.1.2.2.1
  with_reducible refine xm_go_blk b_X3_readChild_0 k_X3_readChild_0 ?_
  refine by_aload_n rfl ?_
  refine by_inv0 cn_70 lk_3_50 (by rw [xe_cnt]; decide) is_72 np_72 cn_72 (by first | exact rfl | assumption) (Nat.le_of_ble_eq_true rfl) ?_
  refine sp_rdN hS (fun y h' hN => ?_)
  obtain ⟨hfr, hN⟩ := hN
  cases hr : pr_nat (by_bit l) (8 * l.length) a with
  | error x =>
    rw [hr] at hN
    obtain ⟨hx, a', hS'⟩ := hN
    have s7 := hS'.2.2.2.2.2.2.1
    have hx2 := hS'.2.2.2.2.2.2.2.2.2
    have hx0 : (x = 0) = False := eq_false (by omega)
    with_reducible refine xm_go_blk b_X3_readChild_4 k_X3_readChild_4 ?_
    refine by_istore_n (by rw [ml_70]; decide) ?_
    refine by_aload_n rfl ?_
    refine by_getf cn_70 fl_3_47 (by first | exact rfl | assumption) (by decide) ?_
    simp (disch := first | exact Nat.ne_of_beq_eq_false rfl | omega) only [nI_add, xa_sub, xa_mul, pk_div, nm_mod, xa_shr, xa_and7, xa_and1, xa_and255, xa_by_and, nI_m1, Nat.add_sub_cancel, Nat.reducePow, Nat.zero_add, Nat.add_zero, Nat.reduceAdd, Nat.reduceMul, Nat.reduceSub, xf_same, xq_ff, xq_fo, xf_1, xf_2, xs_1, xs_2, xs_same, xq_so, xj_1, xj_2, xj_same, xq_jo, xq_sa1, xq_same, xq_other, upd_s, oI_n, oI_s, s7, hx0]
    refine by_if_ne 22 rfl ?_
    simp (disch := first | exact Nat.ne_of_beq_eq_false rfl | omega) only [nI_add, xa_sub, xa_mul, pk_div, nm_mod, xa_shr, xa_and7, xa_and1, xa_and255, xa_by_and, nI_m1, Nat.add_sub_cancel, Nat.reducePow, Nat.zero_add, Nat.add_zero, Nat.reduceAdd, Nat.reduceMul, Nat.reduceSub, xf_same, xq_ff, xq_fo, xf_1, xf_2, xs_1, xs_2, xs_same, xq_so, xj_1, xj_2, xj_same, xq_jo, xq_sa1, xq_same, xq_other, upd_s, oI_n, oI_s, xv_0, xv_1, xv_2, xv_3, xm_p1, xm_p2, List.filter_cons, List.filter_nil, Nat.reduceBEq, Bool.not_true, Bool.not_false, Bool.and_true, Bool.and_false, Bool.false_and, Bool.true_and, if_true, if_false, Bool.false_eq_true, reduceIte, xc_i, xc_j, xc_r, xc_n, List.nil_append, List.cons_append, Option.toList_some, Option.toList_none, nI_ltJ, nI_leJ, nI_eqJ, nI_ltz, nI_gez, nI_gtz, nI_lez, nI_eqz, m1_ltz, m1_gez, true_imp_iff, false_imp_iff, true_and, and_true, ne_eq, not_false_eq_true, not_true_eq_false, Nat.reduceEqDiff, Nat.reduceLT, Nat.reduceLeDiff, s7, hx0]
    with_reducible refine xm_go_blk b_X3_readChild_22 k_X3_readChild_22 ?_
    refine by_aload_n rfl ?_
    refine by_getf cn_70 fl_3_47 (by first | exact rfl | assumption) (by decide) ?_
    simp (disch := first | exact Nat.ne_of_beq_eq_false rfl | omega) only [nI_add, xa_sub, xa_mul, pk_div, nm_mod, xa_shr, xa_and7, xa_and1, xa_and255, xa_by_and, nI_m1, Nat.add_sub_cancel, Nat.reducePow, Nat.zero_add, Nat.add_zero, Nat.reduceAdd, Nat.reduceMul, Nat.reduceSub, xf_same, xq_ff, xq_fo, xf_1, xf_2, xs_1, xs_2, xs_same, xq_so, xj_1, xj_2, xj_same, xq_jo, xq_sa1, xq_same, xq_other, upd_s, oI_n, oI_s, s7, hx0]
    refine by_if_ne 35 rfl ?_
    simp (disch := first | exact Nat.ne_of_beq_eq_false rfl | omega) only [nI_add, xa_sub, xa_mul, pk_div, nm_mod, xa_shr, xa_and7, xa_and1, xa_and255, xa_by_and, nI_m1, Nat.add_sub_cancel, Nat.reducePow, Nat.zero_add, Nat.add_zero, Nat.reduceAdd, Nat.reduceMul, Nat.reduceSub, xf_same, xq_ff, xq_fo, xf_1, xf_2, xs_1, xs_2, xs_same, xq_so, xj_1, xj_2, xj_same, xq_jo, xq_sa1, xq_same, xq_other, upd_s, oI_n, oI_s, xv_0, xv_1, xv_2, xv_3, xm_p1, xm_p2, List.filter_cons, List.filter_nil, Nat.reduceBEq, Bool.not_true, Bool.not_false, Bool.and_true, Bool.and_false, Bool.false_and, Bool.true_and, if_true, if_false, Bool.false_eq_true, reduceIte, xc_i, xc_j, xc_r, xc_n, List.nil_append, List.cons_append, Option.toList_some, Option.toList_none, nI_ltJ, nI_leJ, nI_eqJ, nI_ltz, nI_gez, nI_gtz, nI_lez, nI_eqz, m1_ltz, m1_gez, true_imp_iff, false_imp_iff, true_and, and_true, ne_eq, not_false_eq_true, not_true_eq_false, Nat.reduceEqDiff, Nat.reduceLT, Nat.reduceLeDiff, s7, hx0]
    with_reducible refine xm_go_blk b_X3_readChild_35 k_X3_readChild_35 ?_
    refine by_iconst ci_m1 ?_
    refine by_nil ?_
    with_reducible refine xm_go_blk b_X3_readChild_36 k_X3_readChild_36 ?_
    refine by_iret ry_70 (by first | rfl | assumption) ?_
    exact hp _ _ ⟨hfr, by unfold pr_ch; rw [hr]; exact ⟨hx, rfl, a', hS'⟩⟩
  | ok q =>
    obtain ⟨k, b⟩ := q
    rw [hr] at hN
    obtain ⟨rfl, hS'⟩ := hN
    have s7 := hS'.2.2.2.2.2.2.1
    have hk := pr_nat_le (by_bit_lt l) hS.2.2.2.2.2.2.2.2.1 hr
    by_cases hkn : k ≤ n
    · with_reducible refine xm_go_blk b_X3_readChild_4 k_X3_readChild_4 ?_
      refine by_istore_n (by rw [ml_70]; decide) ?_
      refine by_aload_n rfl ?_
      refine by_getf cn_70 fl_3_47 (by first | exact rfl | assumption) (by decide) ?_
      simp (disch := first | exact Nat.ne_of_beq_eq_false rfl | omega) only [nI_add, xa_sub, xa_mul, pk_div, nm_mod, xa_shr, xa_and7, xa_and1, xa_and255, xa_by_and, nI_m1, Nat.add_sub_cancel, Nat.reducePow, Nat.zero_add, Nat.add_zero, Nat.reduceAdd, Nat.reduceMul, Nat.reduceSub, xf_same, xq_ff, xq_fo, xf_1, xf_2, xs_1, xs_2, xs_same, xq_so, xj_1, xj_2, xj_same, xq_jo, xq_sa1, xq_same, xq_other, upd_s, oI_n, oI_s, s7]
      refine by_if_ne 22 rfl ?_
      simp (disch := first | exact Nat.ne_of_beq_eq_false rfl | omega) only [nI_add, xa_sub, xa_mul, pk_div, nm_mod, xa_shr, xa_and7, xa_and1, xa_and255, xa_by_and, nI_m1, Nat.add_sub_cancel, Nat.reducePow, Nat.zero_add, Nat.add_zero, Nat.reduceAdd, Nat.reduceMul, Nat.reduceSub, xf_same, xq_ff, xq_fo, xf_1, xf_2, xs_1, xs_2, xs_same, xq_so, xj_1, xj_2, xj_same, xq_jo, xq_sa1, xq_same, xq_other, upd_s, oI_n, oI_s, xv_0, xv_1, xv_2, xv_3, xm_p1, xm_p2, List.filter_cons, List.filter_nil, Nat.reduceBEq, Bool.not_true, Bool.not_false, Bool.and_true, Bool.and_false, Bool.false_and, Bool.true_and, if_true, if_false, Bool.false_eq_true, reduceIte, xc_i, xc_j, xc_r, xc_n, List.nil_append, List.cons_append, Option.toList_some, Option.toList_none, nI_ltJ, nI_leJ, nI_eqJ, nI_ltz, nI_gez, nI_gtz, nI_lez, nI_eqz, m1_ltz, m1_gez, true_imp_iff, false_imp_iff, true_and, and_true, ne_eq, not_false_eq_true, not_true_eq_false, Nat.reduceEqDiff, Nat.reduceLT, Nat.reduceLeDiff, s7]
      with_reducible refine xm_go_blk b_X3_readChild_12 k_X3_readChild_12 ?_
      refine by_iload_n rfl ?_
      refine by_iload_n rfl ?_
      refine by_ic_le 22 rfl ?_
      simp (disch := first | exact Nat.ne_of_beq_eq_false rfl | omega) only [nI_add, xa_sub, xa_mul, pk_div, nm_mod, xa_shr, xa_and7, xa_and1, xa_and255, xa_by_and, nI_m1, Nat.add_sub_cancel, Nat.reducePow, Nat.zero_add, Nat.add_zero, Nat.reduceAdd, Nat.reduceMul, Nat.reduceSub, xf_same, xq_ff, xq_fo, xf_1, xf_2, xs_1, xs_2, xs_same, xq_so, xj_1, xj_2, xj_same, xq_jo, xq_sa1, xq_same, xq_other, upd_s, oI_n, oI_s, xv_0, xv_1, xv_2, xv_3, xm_p1, xm_p2, List.filter_cons, List.filter_nil, Nat.reduceBEq, Bool.not_true, Bool.not_false, Bool.and_true, Bool.and_false, Bool.false_and, Bool.true_and, if_true, if_false, Bool.false_eq_true, reduceIte, xc_i, xc_j, xc_r, xc_n, List.nil_append, List.cons_append, Option.toList_some, Option.toList_none, nI_ltJ, nI_leJ, nI_eqJ, nI_ltz, nI_gez, nI_gtz, nI_lez, nI_eqz, m1_ltz, m1_gez, true_imp_iff, false_imp_iff, true_and, and_true, ne_eq, not_false_eq_true, not_true_eq_false, Nat.reduceEqDiff, Nat.reduceLT, Nat.reduceLeDiff, s7]
      refine ⟨fun c12 => ?_, fun c => absurd (by omega) c⟩
      with_reducible refine xm_go_blk b_X3_readChild_22 k_X3_readChild_22 ?_
      refine by_aload_n rfl ?_
      refine by_getf cn_70 fl_3_47 (by first | exact rfl | assumption) (by decide) ?_
      simp (disch := first | exact Nat.ne_of_beq_eq_false rfl | omega) only [nI_add, xa_sub, xa_mul, pk_div, nm_mod, xa_shr, xa_and7, xa_and1, xa_and255, xa_by_and, nI_m1, Nat.add_sub_cancel, Nat.reducePow, Nat.zero_add, Nat.add_zero, Nat.reduceAdd, Nat.reduceMul, Nat.reduceSub, xf_same, xq_ff, xq_fo, xf_1, xf_2, xs_1, xs_2, xs_same, xq_so, xj_1, xj_2, xj_same, xq_jo, xq_sa1, xq_same, xq_other, upd_s, oI_n, oI_s, s7]
      refine by_if_ne 35 rfl ?_
      simp (disch := first | exact Nat.ne_of_beq_eq_false rfl | omega) only [nI_add, xa_sub, xa_mul, pk_div, nm_mod, xa_shr, xa_and7, xa_and1, xa_and255, xa_by_and, nI_m1, Nat.add_sub_cancel, Nat.reducePow, Nat.zero_add, Nat.add_zero, Nat.reduceAdd, Nat.reduceMul, Nat.reduceSub, xf_same, xq_ff, xq_fo, xf_1, xf_2, xs_1, xs_2, xs_same, xq_so, xj_1, xj_2, xj_same, xq_jo, xq_sa1, xq_same, xq_other, upd_s, oI_n, oI_s, xv_0, xv_1, xv_2, xv_3, xm_p1, xm_p2, List.filter_cons, List.filter_nil, Nat.reduceBEq, Bool.not_true, Bool.not_false, Bool.and_true, Bool.and_false, Bool.false_and, Bool.true_and, if_true, if_false, Bool.false_eq_true, reduceIte, xc_i, xc_j, xc_r, xc_n, List.nil_append, List.cons_append, Option.toList_some, Option.toList_none, nI_ltJ, nI_leJ, nI_eqJ, nI_ltz, nI_gez, nI_gtz, nI_lez, nI_eqz, m1_ltz, m1_gez, true_imp_iff, false_imp_iff, true_and, and_true, ne_eq, not_false_eq_true, not_true_eq_false, Nat.reduceEqDiff, Nat.reduceLT, Nat.reduceLeDiff, s7]
      with_reducible refine xm_go_blk b_X3_readChild_29 k_X3_readChild_29 ?_
      refine by_iload_n rfl ?_
      refine by_iload_n rfl ?_
      refine by_isub ?_
      refine by_goto 36 rfl ?_
      simp (disch := first | exact Nat.ne_of_beq_eq_false rfl | omega) only [nI_add, xa_sub, xa_mul, pk_div, nm_mod, xa_shr, xa_and7, xa_and1, xa_and255, xa_by_and, nI_m1, Nat.add_sub_cancel, Nat.reducePow, Nat.zero_add, Nat.add_zero, Nat.reduceAdd, Nat.reduceMul, Nat.reduceSub, xf_same, xq_ff, xq_fo, xf_1, xf_2, xs_1, xs_2, xs_same, xq_so, xj_1, xj_2, xj_same, xq_jo, xq_sa1, xq_same, xq_other, upd_s, oI_n, oI_s, xv_0, xv_1, xv_2, xv_3, xm_p1, xm_p2, List.filter_cons, List.filter_nil, Nat.reduceBEq, Bool.not_true, Bool.not_false, Bool.and_true, Bool.and_false, Bool.false_and, Bool.true_and, if_true, if_false, Bool.false_eq_true, reduceIte, xc_i, xc_j, xc_r, xc_n, List.nil_append, List.cons_append, Option.toList_some, Option.toList_none, s7]
      with_reducible refine xm_go_blk b_X3_readChild_36 k_X3_readChild_36 ?_
      refine by_iret ry_70 (by first | rfl | assumption) ?_
      refine hp _ _ ⟨hfr, ?_⟩
      unfold pr_ch
      rw [hr]
      show match (if n < k then Except.error 3 else Except.ok (n - k, b)) with
        | .error x => _
        | .ok (i, b) => _
      rw [if_neg (by omega)]
      exact ⟨rfl, hS'⟩
    · with_reducible refine xm_go_blk b_X3_readChild_4 k_X3_readChild_4 ?_
      refine by_istore_n (by rw [ml_70]; decide) ?_
      refine by_aload_n rfl ?_
      refine by_getf cn_70 fl_3_47 (by first | exact rfl | assumption) (by decide) ?_
      simp (disch := first | exact Nat.ne_of_beq_eq_false rfl | omega) only [nI_add, xa_sub, xa_mul, pk_div, nm_mod, xa_shr, xa_and7, xa_and1, xa_and255, xa_by_and, nI_m1, Nat.add_sub_cancel, Nat.reducePow, Nat.zero_add, Nat.add_zero, Nat.reduceAdd, Nat.reduceMul, Nat.reduceSub, xf_same, xq_ff, xq_fo, xf_1, xf_2, xs_1, xs_2, xs_same, xq_so, xj_1, xj_2, xj_same, xq_jo, xq_sa1, xq_same, xq_other, upd_s, oI_n, oI_s, s7]
      refine by_if_ne 22 rfl ?_
      simp (disch := first | exact Nat.ne_of_beq_eq_false rfl | omega) only [nI_add, xa_sub, xa_mul, pk_div, nm_mod, xa_shr, xa_and7, xa_and1, xa_and255, xa_by_and, nI_m1, Nat.add_sub_cancel, Nat.reducePow, Nat.zero_add, Nat.add_zero, Nat.reduceAdd, Nat.reduceMul, Nat.reduceSub, xf_same, xq_ff, xq_fo, xf_1, xf_2, xs_1, xs_2, xs_same, xq_so, xj_1, xj_2, xj_same, xq_jo, xq_sa1, xq_same, xq_other, upd_s, oI_n, oI_s, xv_0, xv_1, xv_2, xv_3, xm_p1, xm_p2, List.filter_cons, List.filter_nil, Nat.reduceBEq, Bool.not_true, Bool.not_false, Bool.and_true, Bool.and_false, Bool.false_and, Bool.true_and, if_true, if_false, Bool.false_eq_true, reduceIte, xc_i, xc_j, xc_r, xc_n, List.nil_append, List.cons_append, Option.toList_some, Option.toList_none, nI_ltJ, nI_leJ, nI_eqJ, nI_ltz, nI_gez, nI_gtz, nI_lez, nI_eqz, m1_ltz, m1_gez, true_imp_iff, false_imp_iff, true_and, and_true, ne_eq, not_false_eq_true, not_true_eq_false, Nat.reduceEqDiff, Nat.reduceLT, Nat.reduceLeDiff, s7]
      with_reducible refine xm_go_blk b_X3_readChild_12 k_X3_readChild_12 ?_
      refine by_iload_n rfl ?_
      refine by_iload_n rfl ?_
      refine by_ic_le 22 rfl ?_
      simp (disch := first | exact Nat.ne_of_beq_eq_false rfl | omega) only [nI_add, xa_sub, xa_mul, pk_div, nm_mod, xa_shr, xa_and7, xa_and1, xa_and255, xa_by_and, nI_m1, Nat.add_sub_cancel, Nat.reducePow, Nat.zero_add, Nat.add_zero, Nat.reduceAdd, Nat.reduceMul, Nat.reduceSub, xf_same, xq_ff, xq_fo, xf_1, xf_2, xs_1, xs_2, xs_same, xq_so, xj_1, xj_2, xj_same, xq_jo, xq_sa1, xq_same, xq_other, upd_s, oI_n, oI_s, xv_0, xv_1, xv_2, xv_3, xm_p1, xm_p2, List.filter_cons, List.filter_nil, Nat.reduceBEq, Bool.not_true, Bool.not_false, Bool.and_true, Bool.and_false, Bool.false_and, Bool.true_and, if_true, if_false, Bool.false_eq_true, reduceIte, xc_i, xc_j, xc_r, xc_n, List.nil_append, List.cons_append, Option.toList_some, Option.toList_none, nI_ltJ, nI_leJ, nI_eqJ, nI_ltz, nI_gez, nI_gtz, nI_lez, nI_eqz, m1_ltz, m1_gez, true_imp_iff, false_imp_iff, true_and, and_true, ne_eq, not_false_eq_true, not_true_eq_false, Nat.reduceEqDiff, Nat.reduceLT, Nat.reduceLeDiff, s7]
      refine ⟨fun c => absurd c (by omega), fun c12 => ?_⟩
      with_reducible refine xm_go_blk b_X3_readChild_17 k_X3_readChild_17 ?_
      refine by_aload_n rfl ?_
      refine by_iconst ci_3 ?_
      refine by_putf cn_70 fl_3_47 (by first | exact rfl | assumption) (by decide) nf_3_5 ft_3_5 (by first | rfl | assumption) (by first | rfl | assumption) ?_
      refine by_nil ?_
      with_reducible refine xm_go_blk b_X3_readChild_22 k_X3_readChild_22 ?_
      refine by_aload_n rfl ?_
      refine by_getf cn_70 fl_3_47 (by first | exact rfl | assumption) (by decide) ?_
      simp (disch := first | exact Nat.ne_of_beq_eq_false rfl | omega) only [nI_add, xa_sub, xa_mul, pk_div, nm_mod, xa_shr, xa_and7, xa_and1, xa_and255, xa_by_and, nI_m1, Nat.add_sub_cancel, Nat.reducePow, Nat.zero_add, Nat.add_zero, Nat.reduceAdd, Nat.reduceMul, Nat.reduceSub, xf_same, xq_ff, xq_fo, xf_1, xf_2, xs_1, xs_2, xs_same, xq_so, xj_1, xj_2, xj_same, xq_jo, xq_sa1, xq_same, xq_other, upd_s, oI_n, oI_s, s7]
      refine by_if_ne 35 rfl ?_
      simp (disch := first | exact Nat.ne_of_beq_eq_false rfl | omega) only [nI_add, xa_sub, xa_mul, pk_div, nm_mod, xa_shr, xa_and7, xa_and1, xa_and255, xa_by_and, nI_m1, Nat.add_sub_cancel, Nat.reducePow, Nat.zero_add, Nat.add_zero, Nat.reduceAdd, Nat.reduceMul, Nat.reduceSub, xf_same, xq_ff, xq_fo, xf_1, xf_2, xs_1, xs_2, xs_same, xq_so, xj_1, xj_2, xj_same, xq_jo, xq_sa1, xq_same, xq_other, upd_s, oI_n, oI_s, xv_0, xv_1, xv_2, xv_3, xm_p1, xm_p2, List.filter_cons, List.filter_nil, Nat.reduceBEq, Bool.not_true, Bool.not_false, Bool.and_true, Bool.and_false, Bool.false_and, Bool.true_and, if_true, if_false, Bool.false_eq_true, reduceIte, xc_i, xc_j, xc_r, xc_n, List.nil_append, List.cons_append, Option.toList_some, Option.toList_none, nI_ltJ, nI_leJ, nI_eqJ, nI_ltz, nI_gez, nI_gtz, nI_lez, nI_eqz, m1_ltz, m1_gez, true_imp_iff, false_imp_iff, true_and, and_true, ne_eq, not_false_eq_true, not_true_eq_false, Nat.reduceEqDiff, Nat.reduceLT, Nat.reduceLeDiff, s7]
      with_reducible refine xm_go_blk b_X3_readChild_35 k_X3_readChild_35 ?_
      refine by_iconst ci_m1 ?_
      refine by_nil ?_
      with_reducible refine xm_go_blk b_X3_readChild_36 k_X3_readChild_36 ?_
      refine by_iret ry_70 (by first | rfl | assumption) ?_
      refine hp _ _ ⟨Fr_sf hfr (by decide), ?_⟩
      unfold pr_ch
      rw [hr]
      show match (if n < k then Except.error 3 else Except.ok (n - k, b)) with
        | .error x => _
        | .ok (i, b) => _
      rw [if_pos (by omega)]
      exact ⟨by decide, rfl, b, ldS_f hS' (by decide)⟩
def pd0 : pr_D := (0, none, none, 0, fun _ => 0)
def nd (ps : List pr_D) (j : Nat) : pr_D := ps.getD j pd0
theorem nd_l {ps : List pr_D} {q : pr_D} {j : Nat} (h : j < ps.length) : nd (ps ++ [q]) j = nd ps j := by simp [nd, List.getD, List.getElem?_append_left h]
theorem nd_r {ps : List pr_D} {q : pr_D} : nd (ps ++ [q]) ps.length = q := by simp [nd, List.getD]
/-- what the class's rows have of one node -/
def ndC1 (h : xm_H) (pp : Nat) (q : pr_D) (j hx nh : Nat) : Prop := h.1 (pp + 1) j = nI q.1 ∧ h.1 (pp + 2) j = oI q.2.1 ∧ h.1 (pp + 3) j = oI q.2.2.1 ∧ (q.1 ≠ 11 → h.1 (pp + 4) j = nI q.2.2.2.1) ∧ (q.1 = 11 → h.1 (pp + 4) j = nI (8 * hx) ∧ hx < nh ∧ ∀ k, k < 8 → h.1 (pp + 11) (8 * hx + k) = nI (q.2.2.2.2 k))
def ndC (h : xm_H) (pp : Nat) (ps : List pr_D) (hx : Nat → Nat) (nh : Nat) : Prop := h.2.2 pp 0 = .int (nI ps.length) ∧ h.2.2 pp 15 = .int (nI nh) ∧ nh ≤ 255 ∧ ∀ j, j < ps.length → ndC1 h pp (nd ps j) j (hx j) nh
def ldT (pp : Nat) : List (Nat × Nat) := [(45, 3), (45, 5), (pp, 0), (pp, 15)]
def ldR (pp : Nat) : List Nat := [pp + 1, pp + 2, pp + 3, pp + 4, pp + 5, pp + 11]
theorem ldT_fin {pp : Nat} (hpp : pp = 52 ∨ pp = 77) : xt_fin.all (fun q => !((ldT pp).contains (q.1, q.2.1))) = true := by rcases hpp with rfl | rfl <;> decide +kernel
/-- a node's rows stay where it isn't written -/
theorem ndC1_fr {h h' : xm_H} {pp j hx nh nh' n : Nat} {q : pr_D} (hq : ndC1 h pp q j hx nh) (hn : nh ≤ nh') (h1 : h'.1 (pp + 1) j = h.1 (pp + 1) j) (h2 : h'.1 (pp + 2) j = h.1 (pp + 2) j) (h3 : h'.1 (pp + 3) j = h.1 (pp + 3) j) (h4 : h'.1 (pp + 4) j = h.1 (pp + 4) j) (h11 : ∀ k, k < 8 * nh → h'.1 (pp + 11) k = h.1 (pp + 11) k) : ndC1 h' pp q j hx nh' := by
  obtain ⟨a1, a2, a3, a4, a5⟩ := hq
  refine ⟨by rw [h1, a1], by rw [h2, a2], by rw [h3, a3], fun e => by rw [h4, a4 e], fun e => ?_⟩
  obtain ⟨b1, b2, b3⟩ := a5 e
  exact ⟨by rw [h4, b1], by omega, fun k hk => by rw [h11 _ (by omega), b3 k hk]⟩
