/-! ===== Finder.resolve: sums, products; whole ===== -/
theorem rs_b1 {fd : Nat → Option Ty} {t : Nat} {q : List Nat} : rs_b fd (t :: q) ≤ 1 := by
  show (if (fd t).isSome then 1 else 0) ≤ 1
  split <;> omega
theorem lt_ge0 {x : Int32} (h : (x < 0) = True) : (0 ≤ x) = False := eq_false (Int32.not_le.mpr (of_eq_true h))
section RV
variable {sc : xm_Sc} {d pp c cn turn t : Nat} {x : Int32} {k l r rt K L R : Nat → Nat} {tr : Nat → Ty} {fd : Nat → Option Ty} {q : List Nat} {h : xm_H} {post : xm_Po}
theorem rv_c (hpp : pp = 52 ∨ pp = 77) (hc : c ≤ 14026) (htu : turn < 56128) (hS : rvS h pp c k l r rt fd (t :: q) cn tr K L R) (hn : fd t = none) (hk : 2 ≤ k t)
    (hset : ∀ h' cn' tr' K' L' R' a, Fr (rvR pp) (rvT pp) h h' → rvS h' pp c k l r rt (rs_up fd t a) (t :: q) cn' tr' K' L' R' → rvX cn cn' tr tr' fd (rs_up fd t a) → xm_go (XE sc) (xm_T (XE sc) (d + 2)) 45 post 18 (rvL x pp (turn + 1)) [] h')
    (hpush : ∀ h' u, Fr (rvR pp) (rvT pp) h h' → rvS h' pp c k l r rt fd (u :: t :: q) cn tr K L R → fd u = none → u ∉ t :: q → u < c → xm_go (XE sc) (xm_T (XE sc) (d + 2)) 45 post 18 (rvL x pp (turn + 1)) [] h')
    (hbad : ∀ h', Fr (rvR pp) (rvT pp) h h' → (∀ V, ty_all c k l r V → ty_lnk c rt V → False) → post (some (.int (nI 0))) h') : xm_go (XE sc) (xm_T (XE sc) (d + 2)) 45 post 18 (rvL x pp turn) [] h := by
  obtain ⟨s1, ⟨⟨u, dd, m, u1, u2, u3⟩, i2, i3, i4, i5, i6, i7⟩, s3, s4⟩ := hS
  have hq := rs_q_len i6
  simp only [List.length_cons] at hq s4
  obtain ⟨tc, tr0⟩ := i6.2.1 t (List.mem_cons_self ..)
  have e1 := s3.1
  have hb : rs_b fd (t :: q) = 0 := by simp [rs_b, hn]
  rw [hb] at i4
  simp only [List.length_cons] at i4
  have hlt := rs_lt0 i7 tc hn
  obtain ⟨k1, k2, k3⟩ := i2 t tc
  obtain ⟨k4, k5, lc, rc⟩ := k3 hk
  obtain ⟨κ, hκ⟩ : ∃ κ, k t = κ + 1 := ⟨k t - 1, by omega⟩
  rw [show (k t + 3) % 4 = κ by omega] at k1
  have n3 : (κ = 3) = False := eq_false (by omega)
  have n0 : (κ = 0) = False := eq_false (by omega)
  have hG := uf_G (k := k) (l := l) (r := r) u2 (fun t ht => ⟨(i2 t ht).2.1, fun e => ((i2 t ht).2.2 e).2.2⟩)
  obtain ⟨lc', lr'⟩ := hG.1 _ lc
  obtain ⟨rc', rr'⟩ := hG.1 _ rc
  unfold rvL at *
  with_reducible refine xm_go_blk b_X1_resolve_18 k_X1_resolve_18 ?_
  refine by_iload_n rfl ?_
  refine by_ldc (x := nI 56128) cn_45 ki_1_118 (by decide) ?_
  refine by_ic_ge 263 rfl ?_
  simp (disch := first | exact Nat.ne_of_beq_eq_false rfl | exact rfl | omega) only [nI_add, xa_sub, xa_mul, pk_div, nm_mod, xa_shr, xa_and7, xa_and1, xa_and255, xa_by_and, nI_m1, Nat.add_sub_cancel, Nat.reducePow, Nat.zero_add, Nat.add_zero, Nat.reduceAdd, Nat.reduceMul, Nat.reduceSub, xf_same, xq_ff, xq_fo, xf_1, xf_2, xs_1, xs_2, xs_same, xq_so, xj_1, xj_2, xj_same, xq_jo, xq_sa1, xq_same, xq_other, upd_s, oI_n, oI_s, xv_0, xv_1, xv_2, xv_3, xm_p1, xm_p2, xq_fp, xq_fn, List.filter_nil, Nat.reduceBEq, Bool.not_true, Bool.not_false, Bool.and_true, Bool.and_false, Bool.false_and, Bool.true_and, if_true, if_false, Bool.false_eq_true, reduceIte, xc_i, xc_j, xc_r, xc_n, List.nil_append, List.cons_append, Option.toList_some, Option.toList_none, nI_ltJ, nI_leJ, nI_eqJ, nI_ltz, nI_gez, nI_gtz, nI_lez, nI_eqz, m1_ltz, m1_gez, true_imp_iff, false_imp_iff, true_and, and_true, ne_eq, not_false_eq_true, not_true_eq_false, Nat.reduceEqDiff, Nat.reduceLT, Nat.reduceLeDiff, xf_15_5 s1, xf_15_4 s1, xf_15_0 s1, xf_15_1 s1, s4, e1, hlt, k1, k4, n3, n0]
  refine ⟨fun c => absurd c (by omega), fun c18 => ?_⟩
  with_reducible refine xm_go_blk b_X1_resolve_24 k_X1_resolve_24 ?_
  refine by_aload_n rfl ?_
  refine by_getf cn_45 fl_1_111 (by first | exact rfl | assumption) (by decide) ?_
  simp (disch := first | exact Nat.ne_of_beq_eq_false rfl | exact rfl | omega) only [nI_add, xa_sub, xa_mul, pk_div, nm_mod, xa_shr, xa_and7, xa_and1, xa_and255, xa_by_and, nI_m1, Nat.add_sub_cancel, Nat.reducePow, Nat.zero_add, Nat.add_zero, Nat.reduceAdd, Nat.reduceMul, Nat.reduceSub, xf_same, xq_ff, xq_fo, xf_1, xf_2, xs_1, xs_2, xs_same, xq_so, xj_1, xj_2, xj_same, xq_jo, xq_sa1, xq_same, xq_other, upd_s, oI_n, oI_s, xf_15_5 s1, xf_15_4 s1, xf_15_0 s1, xf_15_1 s1, s4, e1, hlt, k1, k4, n3, n0]
  refine by_if_le 263 rfl ?_
  simp (disch := first | exact Nat.ne_of_beq_eq_false rfl | exact rfl | omega) only [nI_add, xa_sub, xa_mul, pk_div, nm_mod, xa_shr, xa_and7, xa_and1, xa_and255, xa_by_and, nI_m1, Nat.add_sub_cancel, Nat.reducePow, Nat.zero_add, Nat.add_zero, Nat.reduceAdd, Nat.reduceMul, Nat.reduceSub, xf_same, xq_ff, xq_fo, xf_1, xf_2, xs_1, xs_2, xs_same, xq_so, xj_1, xj_2, xj_same, xq_jo, xq_sa1, xq_same, xq_other, upd_s, oI_n, oI_s, xv_0, xv_1, xv_2, xv_3, xm_p1, xm_p2, xq_fp, xq_fn, List.filter_nil, Nat.reduceBEq, Bool.not_true, Bool.not_false, Bool.and_true, Bool.and_false, Bool.false_and, Bool.true_and, if_true, if_false, Bool.false_eq_true, reduceIte, xc_i, xc_j, xc_r, xc_n, List.nil_append, List.cons_append, Option.toList_some, Option.toList_none, nI_ltJ, nI_leJ, nI_eqJ, nI_ltz, nI_gez, nI_gtz, nI_lez, nI_eqz, m1_ltz, m1_gez, true_imp_iff, false_imp_iff, true_and, and_true, ne_eq, not_false_eq_true, not_true_eq_false, Nat.reduceEqDiff, Nat.reduceLT, Nat.reduceLeDiff, xf_15_5 s1, xf_15_4 s1, xf_15_0 s1, xf_15_1 s1, s4, e1, hlt, k1, k4, n3, n0]
  with_reducible refine xm_go_blk b_X1_resolve_31 k_X1_resolve_31 ?_
  refine by_aload_n rfl ?_
  refine by_getf cn_45 fl_1_29 (by first | exact rfl | assumption) (by decide) ?_
  refine by_aload_n rfl ?_
  refine by_getf cn_45 fl_1_111 (by first | exact rfl | assumption) (by decide) ?_
  refine by_iconst ci_1 ?_
  simp (disch := first | exact Nat.ne_of_beq_eq_false rfl | exact rfl | omega) only [nI_add, xa_sub, xa_mul, pk_div, nm_mod, xa_shr, xa_and7, xa_and1, xa_and255, xa_by_and, nI_m1, Nat.add_sub_cancel, Nat.reducePow, Nat.zero_add, Nat.add_zero, Nat.reduceAdd, Nat.reduceMul, Nat.reduceSub, xf_same, xq_ff, xq_fo, xf_1, xf_2, xs_1, xs_2, xs_same, xq_so, xj_1, xj_2, xj_same, xq_jo, xq_sa1, xq_same, xq_other, upd_s, oI_n, oI_s, xf_15_5 s1, xf_15_4 s1, xf_15_0 s1, xf_15_1 s1, s4, e1, hlt, k1, k4, n3, n0]
  refine by_isub ?_
  simp (disch := first | exact Nat.ne_of_beq_eq_false rfl | exact rfl | omega) only [nI_add, xa_sub, xa_mul, pk_div, nm_mod, xa_shr, xa_and7, xa_and1, xa_and255, xa_by_and, nI_m1, Nat.add_sub_cancel, Nat.reducePow, Nat.zero_add, Nat.add_zero, Nat.reduceAdd, Nat.reduceMul, Nat.reduceSub, xf_same, xq_ff, xq_fo, xf_1, xf_2, xs_1, xs_2, xs_same, xq_so, xj_1, xj_2, xj_same, xq_jo, xq_sa1, xq_same, xq_other, upd_s, oI_n, oI_s, xf_15_5 s1, xf_15_4 s1, xf_15_0 s1, xf_15_1 s1, s4, e1, hlt, k1, k4, n3, n0]
  first | refine by_iald (by first | exact rfl | assumption | exact ps_1 hpp | exact ps_2 hpp | exact ps_3 hpp | exact ps_4 hpp | exact ps_5 hpp | exact ps_6 hpp | exact ps_7 hpp | exact ps_8 hpp | exact ps_9 hpp | exact ps_10 hpp | exact ps_11 hpp | exact ps_15 hpp | exact ps_16 hpp | exact ps_17 hpp | exact ps_18 hpp | exact ps_19 hpp | exact ps_21 hpp | exact ps_22 hpp | exact ps_23 hpp | exact ps_24 hpp) ⟨by omega, by omega⟩ ?_ | refine by_tald rfl rfl ⟨by omega, by omega⟩ ?_
  refine by_istore (by rw [ml_45]; decide) ?_
  refine by_aload_n rfl ?_
  refine by_getf cn_45 fl_1_26 (by first | exact rfl | assumption) (by decide) ?_
  refine by_iload rfl ?_
  simp (disch := first | exact Nat.ne_of_beq_eq_false rfl | exact rfl | omega) only [nI_add, xa_sub, xa_mul, pk_div, nm_mod, xa_shr, xa_and7, xa_and1, xa_and255, xa_by_and, nI_m1, Nat.add_sub_cancel, Nat.reducePow, Nat.zero_add, Nat.add_zero, Nat.reduceAdd, Nat.reduceMul, Nat.reduceSub, xf_same, xq_ff, xq_fo, xf_1, xf_2, xs_1, xs_2, xs_same, xq_so, xj_1, xj_2, xj_same, xq_jo, xq_sa1, xq_same, xq_other, upd_s, oI_n, oI_s, xf_15_5 s1, xf_15_4 s1, xf_15_0 s1, xf_15_1 s1, s4, e1, hlt, k1, k4, n3, n0]
  first | refine by_iald (by first | exact rfl | assumption | exact ps_1 hpp | exact ps_2 hpp | exact ps_3 hpp | exact ps_4 hpp | exact ps_5 hpp | exact ps_6 hpp | exact ps_7 hpp | exact ps_8 hpp | exact ps_9 hpp | exact ps_10 hpp | exact ps_11 hpp | exact ps_15 hpp | exact ps_16 hpp | exact ps_17 hpp | exact ps_18 hpp | exact ps_19 hpp | exact ps_21 hpp | exact ps_22 hpp | exact ps_23 hpp | exact ps_24 hpp) ⟨by omega, by omega⟩ ?_ | refine by_tald rfl rfl ⟨by omega, by omega⟩ ?_
  refine by_if_lt 67 rfl ?_
  simp (disch := first | exact Nat.ne_of_beq_eq_false rfl | exact rfl | omega) only [nI_add, xa_sub, xa_mul, pk_div, nm_mod, xa_shr, xa_and7, xa_and1, xa_and255, xa_by_and, nI_m1, Nat.add_sub_cancel, Nat.reducePow, Nat.zero_add, Nat.add_zero, Nat.reduceAdd, Nat.reduceMul, Nat.reduceSub, xf_same, xq_ff, xq_fo, xf_1, xf_2, xs_1, xs_2, xs_same, xq_so, xj_1, xj_2, xj_same, xq_jo, xq_sa1, xq_same, xq_other, upd_s, oI_n, oI_s, xv_0, xv_1, xv_2, xv_3, xm_p1, xm_p2, xq_fp, xq_fn, List.filter_nil, Nat.reduceBEq, Bool.not_true, Bool.not_false, Bool.and_true, Bool.and_false, Bool.false_and, Bool.true_and, if_true, if_false, Bool.false_eq_true, reduceIte, xc_i, xc_j, xc_r, xc_n, List.nil_append, List.cons_append, Option.toList_some, Option.toList_none, nI_ltJ, nI_leJ, nI_eqJ, nI_ltz, nI_gez, nI_gtz, nI_lez, nI_eqz, m1_ltz, m1_gez, true_imp_iff, false_imp_iff, true_and, and_true, ne_eq, not_false_eq_true, not_true_eq_false, Nat.reduceEqDiff, Nat.reduceLT, Nat.reduceLeDiff, xf_15_5 s1, xf_15_4 s1, xf_15_0 s1, xf_15_1 s1, s4, e1, hlt, k1, k4, n3, n0]
  with_reducible refine xm_go_blk b_X1_resolve_67 k_X1_resolve_67 ?_
  refine by_aload_n rfl ?_
  refine by_getf cn_45 fl_1_13 (by first | exact rfl | assumption) (by decide) ?_
  refine by_iload rfl ?_
  simp (disch := first | exact Nat.ne_of_beq_eq_false rfl | exact rfl | omega) only [nI_add, xa_sub, xa_mul, pk_div, nm_mod, xa_shr, xa_and7, xa_and1, xa_and255, xa_by_and, nI_m1, Nat.add_sub_cancel, Nat.reducePow, Nat.zero_add, Nat.add_zero, Nat.reduceAdd, Nat.reduceMul, Nat.reduceSub, xf_same, xq_ff, xq_fo, xf_1, xf_2, xs_1, xs_2, xs_same, xq_so, xj_1, xj_2, xj_same, xq_jo, xq_sa1, xq_same, xq_other, upd_s, oI_n, oI_s, xf_15_5 s1, xf_15_4 s1, xf_15_0 s1, xf_15_1 s1, s4, e1, hlt, k1, k4, n3, n0]
  first | refine by_iald (by first | exact rfl | assumption | exact ps_1 hpp | exact ps_2 hpp | exact ps_3 hpp | exact ps_4 hpp | exact ps_5 hpp | exact ps_6 hpp | exact ps_7 hpp | exact ps_8 hpp | exact ps_9 hpp | exact ps_10 hpp | exact ps_11 hpp | exact ps_15 hpp | exact ps_16 hpp | exact ps_17 hpp | exact ps_18 hpp | exact ps_19 hpp | exact ps_21 hpp | exact ps_22 hpp | exact ps_23 hpp | exact ps_24 hpp) ⟨by omega, by omega⟩ ?_ | refine by_tald rfl rfl ⟨by omega, by omega⟩ ?_
  refine by_iconst ci_3 ?_
  refine by_ic_eq 88 rfl ?_
  simp (disch := first | exact Nat.ne_of_beq_eq_false rfl | exact rfl | omega) only [nI_add, xa_sub, xa_mul, pk_div, nm_mod, xa_shr, xa_and7, xa_and1, xa_and255, xa_by_and, nI_m1, Nat.add_sub_cancel, Nat.reducePow, Nat.zero_add, Nat.add_zero, Nat.reduceAdd, Nat.reduceMul, Nat.reduceSub, xf_same, xq_ff, xq_fo, xf_1, xf_2, xs_1, xs_2, xs_same, xq_so, xj_1, xj_2, xj_same, xq_jo, xq_sa1, xq_same, xq_other, upd_s, oI_n, oI_s, xv_0, xv_1, xv_2, xv_3, xm_p1, xm_p2, xq_fp, xq_fn, List.filter_nil, Nat.reduceBEq, Bool.not_true, Bool.not_false, Bool.and_true, Bool.and_false, Bool.false_and, Bool.true_and, if_true, if_false, Bool.false_eq_true, reduceIte, xc_i, xc_j, xc_r, xc_n, List.nil_append, List.cons_append, Option.toList_some, Option.toList_none, nI_ltJ, nI_leJ, nI_eqJ, nI_ltz, nI_gez, nI_gtz, nI_lez, nI_eqz, m1_ltz, m1_gez, true_imp_iff, false_imp_iff, true_and, and_true, ne_eq, not_false_eq_true, not_true_eq_false, Nat.reduceEqDiff, Nat.reduceLT, Nat.reduceLeDiff, xf_15_5 s1, xf_15_4 s1, xf_15_0 s1, xf_15_1 s1, s4, e1, hlt, k1, k4, n3, n0]
  with_reducible refine xm_go_blk b_X1_resolve_78 k_X1_resolve_78 ?_
  refine by_aload_n rfl ?_
  refine by_getf cn_45 fl_1_13 (by first | exact rfl | assumption) (by decide) ?_
  refine by_iload rfl ?_
  simp (disch := first | exact Nat.ne_of_beq_eq_false rfl | exact rfl | omega) only [nI_add, xa_sub, xa_mul, pk_div, nm_mod, xa_shr, xa_and7, xa_and1, xa_and255, xa_by_and, nI_m1, Nat.add_sub_cancel, Nat.reducePow, Nat.zero_add, Nat.add_zero, Nat.reduceAdd, Nat.reduceMul, Nat.reduceSub, xf_same, xq_ff, xq_fo, xf_1, xf_2, xs_1, xs_2, xs_same, xq_so, xj_1, xj_2, xj_same, xq_jo, xq_sa1, xq_same, xq_other, upd_s, oI_n, oI_s, xf_15_5 s1, xf_15_4 s1, xf_15_0 s1, xf_15_1 s1, s4, e1, hlt, k1, k4, n3, n0]
  first | refine by_iald (by first | exact rfl | assumption | exact ps_1 hpp | exact ps_2 hpp | exact ps_3 hpp | exact ps_4 hpp | exact ps_5 hpp | exact ps_6 hpp | exact ps_7 hpp | exact ps_8 hpp | exact ps_9 hpp | exact ps_10 hpp | exact ps_11 hpp | exact ps_15 hpp | exact ps_16 hpp | exact ps_17 hpp | exact ps_18 hpp | exact ps_19 hpp | exact ps_21 hpp | exact ps_22 hpp | exact ps_23 hpp | exact ps_24 hpp) ⟨by omega, by omega⟩ ?_ | refine by_tald rfl rfl ⟨by omega, by omega⟩ ?_
  refine by_if_ne 105 rfl ?_
  simp (disch := first | exact Nat.ne_of_beq_eq_false rfl | exact rfl | omega) only [nI_add, xa_sub, xa_mul, pk_div, nm_mod, xa_shr, xa_and7, xa_and1, xa_and255, xa_by_and, nI_m1, Nat.add_sub_cancel, Nat.reducePow, Nat.zero_add, Nat.add_zero, Nat.reduceAdd, Nat.reduceMul, Nat.reduceSub, xf_same, xq_ff, xq_fo, xf_1, xf_2, xs_1, xs_2, xs_same, xq_so, xj_1, xj_2, xj_same, xq_jo, xq_sa1, xq_same, xq_other, upd_s, oI_n, oI_s, xv_0, xv_1, xv_2, xv_3, xm_p1, xm_p2, xq_fp, xq_fn, List.filter_nil, Nat.reduceBEq, Bool.not_true, Bool.not_false, Bool.and_true, Bool.and_false, Bool.false_and, Bool.true_and, if_true, if_false, Bool.false_eq_true, reduceIte, xc_i, xc_j, xc_r, xc_n, List.nil_append, List.cons_append, Option.toList_some, Option.toList_none, nI_ltJ, nI_leJ, nI_eqJ, nI_ltz, nI_gez, nI_gtz, nI_lez, nI_eqz, m1_ltz, m1_gez, true_imp_iff, false_imp_iff, true_and, and_true, ne_eq, not_false_eq_true, not_true_eq_false, Nat.reduceEqDiff, Nat.reduceLT, Nat.reduceLeDiff, xf_15_5 s1, xf_15_4 s1, xf_15_0 s1, xf_15_1 s1, s4, e1, hlt, k1, k4, n3, n0]
  with_reducible refine xm_go_blk b_X1_resolve_105 k_X1_resolve_105 ?_
  refine by_aload_n rfl ?_
  refine by_getf cn_45 fl_1_26 (by first | exact rfl | assumption) (by decide) ?_
  refine by_iload rfl ?_
  refine by_bipush cb_m2 ?_
  simp (disch := first | exact Nat.ne_of_beq_eq_false rfl | exact rfl | omega) only [nI_add, xa_sub, xa_mul, pk_div, nm_mod, xa_shr, xa_and7, xa_and1, xa_and255, xa_by_and, nI_m1, Nat.add_sub_cancel, Nat.reducePow, Nat.zero_add, Nat.add_zero, Nat.reduceAdd, Nat.reduceMul, Nat.reduceSub, xf_same, xq_ff, xq_fo, xf_1, xf_2, xs_1, xs_2, xs_same, xq_so, xj_1, xj_2, xj_same, xq_jo, xq_sa1, xq_same, xq_other, upd_s, oI_n, oI_s, xf_15_5 s1, xf_15_4 s1, xf_15_0 s1, xf_15_1 s1, s4, e1, hlt, k1, k4, n3, n0]
  refine by_iast (by first | exact rfl | assumption | exact ps_1 hpp | exact ps_2 hpp | exact ps_3 hpp | exact ps_4 hpp | exact ps_5 hpp | exact ps_6 hpp | exact ps_7 hpp | exact ps_8 hpp | exact ps_9 hpp | exact ps_10 hpp | exact ps_11 hpp | exact ps_15 hpp | exact ps_16 hpp | exact ps_17 hpp | exact ps_18 hpp | exact ps_19 hpp | exact ps_21 hpp | exact ps_22 hpp | exact ps_23 hpp | exact ps_24 hpp) ⟨by omega, by omega⟩ ?_
  refine by_aload_n rfl ?_
  refine by_aload_n rfl ?_
  refine by_getf cn_45 fl_1_17 (by first | exact rfl | assumption) (by decide) ?_
  refine by_iload rfl ?_
  simp (disch := first | exact Nat.ne_of_beq_eq_false rfl | exact rfl | omega) only [nI_add, xa_sub, xa_mul, pk_div, nm_mod, xa_shr, xa_and7, xa_and1, xa_and255, xa_by_and, nI_m1, Nat.add_sub_cancel, Nat.reducePow, Nat.zero_add, Nat.add_zero, Nat.reduceAdd, Nat.reduceMul, Nat.reduceSub, xf_same, xq_ff, xq_fo, xf_1, xf_2, xs_1, xs_2, xs_same, xq_so, xj_1, xj_2, xj_same, xq_jo, xq_sa1, xq_same, xq_other, upd_s, oI_n, oI_s, xf_15_5 s1, xf_15_4 s1, xf_15_0 s1, xf_15_1 s1, s4, e1, hlt, k1, k4, n3, n0]
  first | refine by_iald (by first | exact rfl | assumption | exact ps_1 hpp | exact ps_2 hpp | exact ps_3 hpp | exact ps_4 hpp | exact ps_5 hpp | exact ps_6 hpp | exact ps_7 hpp | exact ps_8 hpp | exact ps_9 hpp | exact ps_10 hpp | exact ps_11 hpp | exact ps_15 hpp | exact ps_16 hpp | exact ps_17 hpp | exact ps_18 hpp | exact ps_19 hpp | exact ps_21 hpp | exact ps_22 hpp | exact ps_23 hpp | exact ps_24 hpp) ⟨by omega, by omega⟩ ?_ | refine by_tald rfl rfl ⟨by omega, by omega⟩ ?_
  simp (disch := first | exact Nat.ne_of_beq_eq_false rfl | exact rfl | omega) only [nI_add, xa_sub, xa_mul, pk_div, nm_mod, xa_shr, xa_and7, xa_and1, xa_and255, xa_by_and, nI_m1, Nat.add_sub_cancel, Nat.reducePow, Nat.zero_add, Nat.add_zero, Nat.reduceAdd, Nat.reduceMul, Nat.reduceSub, xf_same, xq_ff, xq_fo, xf_1, xf_2, xs_1, xs_2, xs_same, xq_so, xj_1, xj_2, xj_same, xq_jo, xq_sa1, xq_same, xq_other, upd_s, oI_n, oI_s, xv_0, xv_1, xv_2, xv_3, xm_p1, xm_p2, xq_fp, xq_fn, List.filter_nil, Nat.reduceBEq, Bool.not_true, Bool.not_false, Bool.and_true, Bool.and_false, Bool.false_and, Bool.true_and, if_true, if_false, Bool.false_eq_true, reduceIte, xc_i, xc_j, xc_r, xc_n, List.nil_append, List.cons_append, Option.toList_some, Option.toList_none, xf_15_5 s1, xf_15_4 s1, xf_15_0 s1, xf_15_1 s1, s4, e1, hlt, k1, k4, n3, n0]
  refine by_inv1 cn_45 lk_1_66 (by rw [xe_cnt]; decide) is_41 np_41 cn_41 (by first | exact rfl | assumption) (Nat.le_of_ble_eq_true rfl) ?_
  have f1 : Fr [20] [] h (xm_si h 20 t (-2)) := Fr_si Fr_rf (by simp)
  have F1 : XF (xm_si h 20 t (-2)) := Fr_XF s1 f1 (by decide +kernel)
  refine sp_xfind F1 (by omega) u3 lc (upA_fr u1 f1 (by simp)) u2 (fun h2 u' g2 v1 v2 => ?_)
  have F2 : XF h2 := Fr_XF F1 g2 (by decide +kernel)
  have f2 : Fr [19, 20] [] h h2 := Fr_tr (Fr_mo f1 (by simp) (by simp)) g2 (by simp) (by simp)
  have k5' : h2.1 18 t = nI (r t) := by rw [f2.1 18 (by simp)]; exact k5
  with_reducible refine xm_go_blk b_X1_resolve_125 k_X1_resolve_125 ?_
  refine by_istore (by rw [ml_45]; decide) ?_
  refine by_aload_n rfl ?_
  refine by_aload_n rfl ?_
  refine by_getf cn_45 fl_1_20 (by first | exact rfl | assumption) (by decide) ?_
  refine by_iload rfl ?_
  simp (disch := first | exact Nat.ne_of_beq_eq_false rfl | exact rfl | omega) only [nI_add, xa_sub, xa_mul, pk_div, nm_mod, xa_shr, xa_and7, xa_and1, xa_and255, xa_by_and, nI_m1, Nat.add_sub_cancel, Nat.reducePow, Nat.zero_add, Nat.add_zero, Nat.reduceAdd, Nat.reduceMul, Nat.reduceSub, xf_same, xq_ff, xq_fo, xf_1, xf_2, xs_1, xs_2, xs_same, xq_so, xj_1, xj_2, xj_same, xq_jo, xq_sa1, xq_same, xq_other, upd_s, oI_n, oI_s, xf_15_2 F2, k5']
  first | refine by_iald (by first | exact rfl | assumption | exact ps_1 hpp | exact ps_2 hpp | exact ps_3 hpp | exact ps_4 hpp | exact ps_5 hpp | exact ps_6 hpp | exact ps_7 hpp | exact ps_8 hpp | exact ps_9 hpp | exact ps_10 hpp | exact ps_11 hpp | exact ps_15 hpp | exact ps_16 hpp | exact ps_17 hpp | exact ps_18 hpp | exact ps_19 hpp | exact ps_21 hpp | exact ps_22 hpp | exact ps_23 hpp | exact ps_24 hpp) ⟨by omega, by omega⟩ ?_ | refine by_tald rfl rfl ⟨by omega, by omega⟩ ?_
  simp (disch := first | exact Nat.ne_of_beq_eq_false rfl | exact rfl | omega) only [nI_add, xa_sub, xa_mul, pk_div, nm_mod, xa_shr, xa_and7, xa_and1, xa_and255, xa_by_and, nI_m1, Nat.add_sub_cancel, Nat.reducePow, Nat.zero_add, Nat.add_zero, Nat.reduceAdd, Nat.reduceMul, Nat.reduceSub, xf_same, xq_ff, xq_fo, xf_1, xf_2, xs_1, xs_2, xs_same, xq_so, xj_1, xj_2, xj_same, xq_jo, xq_sa1, xq_same, xq_other, upd_s, oI_n, oI_s, xv_0, xv_1, xv_2, xv_3, xm_p1, xm_p2, xq_fp, xq_fn, List.filter_nil, Nat.reduceBEq, Bool.not_true, Bool.not_false, Bool.and_true, Bool.and_false, Bool.false_and, Bool.true_and, if_true, if_false, Bool.false_eq_true, reduceIte, xc_i, xc_j, xc_r, xc_n, List.nil_append, List.cons_append, Option.toList_some, Option.toList_none, xf_15_2 F2, k5']
  refine by_inv1 cn_45 lk_1_66 (by rw [xe_cnt]; decide) is_41 np_41 cn_41 (by first | exact rfl | assumption) (Nat.le_of_ble_eq_true rfl) ?_
  refine sp_xfind F2 (by omega) u3 rc v1 v2 (fun h3 u'' g3 w1 w2 => ?_)
  have F3 : XF h3 := Fr_XF F2 g3 (by decide +kernel)
  have f3 : Fr [19, 20] [] h h3 := Fr_tr f2 g3 (by simp) (by simp)
  have e20 : h3.1 20 = upd (h.1 20) t (-2) := by rw [g3.1 20 (by simp), g2.1 20 (by simp), xs_same]
  have j7 : rs_F 0 c cn tr fd (t :: q) (h3.1 20) := by rw [e20]; exact rs_F_2 i7 hn
  have et2 : h3.1 20 t = -2 := by rw [e20, upd_s]
  have s4' : h3.2.2 15 7 = .int (nI (q.length + 1)) := by rw [f3.2.2 _ _ (by simp)]; exact s4
  have T3 : tyT h3 pp cn tr K L R := tyT_fr i3 f3 (by simp) (by simp [taR] <;> omega)
  have A3 : fnA h3 c k l r := fnA_fr i2 f3 (by simp) (by simp) (by simp)
  have s3' : skA h3 21 (t :: q) := skA_fr s3 f3 (by simp)
  have fR : Fr (rvR pp) (rvT pp) h h3 := Fr_mo f3 (by simp [rvR]) (by simp)
  have cyc : ∀ v, v < c → (v = rt (l t) ∨ v = rt (r t)) → h3.1 20 v = -2 → ∀ V, ty_all c k l r V → ty_lnk c rt V → False := fun v vc hv hv2 V hA hL => rs_cyc hG hA hL (fun w hw => (i6.2.1 w hw).1) i6.2.2.1 (rs_F_cyc j7 (by omega) vc hv2) hk hv
  by_cases q1 : h3.1 20 (rt (l t)) = -2
  · have q1' : (h3.1 20 (rt (l t)) = -2) = True := eq_true q1
    with_reducible refine xm_go_blk b_X1_resolve_138 k_X1_resolve_138 ?_
    refine by_istore (by rw [ml_45]; decide) ?_
    refine by_aload_n rfl ?_
    refine by_getf cn_45 fl_1_26 (by first | exact rfl | assumption) (by decide) ?_
    refine by_iload rfl ?_
    simp (disch := first | exact Nat.ne_of_beq_eq_false rfl | exact rfl | omega) only [nI_add, xa_sub, xa_mul, pk_div, nm_mod, xa_shr, xa_and7, xa_and1, xa_and255, xa_by_and, nI_m1, Nat.add_sub_cancel, Nat.reducePow, Nat.zero_add, Nat.add_zero, Nat.reduceAdd, Nat.reduceMul, Nat.reduceSub, xf_same, xq_ff, xq_fo, xf_1, xf_2, xs_1, xs_2, xs_same, xq_so, xj_1, xj_2, xj_same, xq_jo, xq_sa1, xq_same, xq_other, upd_s, oI_n, oI_s, xf_15_4 F3, q1']
    first | refine by_iald (by first | exact rfl | assumption | exact ps_1 hpp | exact ps_2 hpp | exact ps_3 hpp | exact ps_4 hpp | exact ps_5 hpp | exact ps_6 hpp | exact ps_7 hpp | exact ps_8 hpp | exact ps_9 hpp | exact ps_10 hpp | exact ps_11 hpp | exact ps_15 hpp | exact ps_16 hpp | exact ps_17 hpp | exact ps_18 hpp | exact ps_19 hpp | exact ps_21 hpp | exact ps_22 hpp | exact ps_23 hpp | exact ps_24 hpp) ⟨by omega, by omega⟩ ?_ | refine by_tald rfl rfl ⟨by omega, by omega⟩ ?_
    refine by_bipush cb_m2 ?_
    refine by_ic_eq 164 rfl ?_
    simp (disch := first | exact Nat.ne_of_beq_eq_false rfl | exact rfl | omega) only [nI_add, xa_sub, xa_mul, pk_div, nm_mod, xa_shr, xa_and7, xa_and1, xa_and255, xa_by_and, nI_m1, Nat.add_sub_cancel, Nat.reducePow, Nat.zero_add, Nat.add_zero, Nat.reduceAdd, Nat.reduceMul, Nat.reduceSub, xf_same, xq_ff, xq_fo, xf_1, xf_2, xs_1, xs_2, xs_same, xq_so, xj_1, xj_2, xj_same, xq_jo, xq_sa1, xq_same, xq_other, upd_s, oI_n, oI_s, xv_0, xv_1, xv_2, xv_3, xm_p1, xm_p2, xq_fp, xq_fn, List.filter_nil, Nat.reduceBEq, Bool.not_true, Bool.not_false, Bool.and_true, Bool.and_false, Bool.false_and, Bool.true_and, if_true, if_false, Bool.false_eq_true, reduceIte, xc_i, xc_j, xc_r, xc_n, List.nil_append, List.cons_append, Option.toList_some, Option.toList_none, nI_ltJ, nI_leJ, nI_eqJ, nI_ltz, nI_gez, nI_gtz, nI_lez, nI_eqz, m1_ltz, m1_gez, true_imp_iff, false_imp_iff, true_and, and_true, ne_eq, not_false_eq_true, not_true_eq_false, Nat.reduceEqDiff, Nat.reduceLT, Nat.reduceLeDiff, xf_15_4 F3, q1']
    with_reducible refine xm_go_blk b_X1_resolve_164 k_X1_resolve_164 ?_
    refine by_iconst ci_0 ?_
    refine by_iret ry_45 (by first | rfl | assumption) ?_
    exact hbad h3 fR (cyc _ lc' (Or.inl rfl) q1)
  have q1' : (h3.1 20 (rt (l t)) = -2) = False := eq_false q1
  by_cases q2 : h3.1 20 (rt (r t)) = -2
  · have q2' : (h3.1 20 (rt (r t)) = -2) = True := eq_true q2
    with_reducible refine xm_go_blk b_X1_resolve_138 k_X1_resolve_138 ?_
    refine by_istore (by rw [ml_45]; decide) ?_
    refine by_aload_n rfl ?_
    refine by_getf cn_45 fl_1_26 (by first | exact rfl | assumption) (by decide) ?_
    refine by_iload rfl ?_
    simp (disch := first | exact Nat.ne_of_beq_eq_false rfl | exact rfl | omega) only [nI_add, xa_sub, xa_mul, pk_div, nm_mod, xa_shr, xa_and7, xa_and1, xa_and255, xa_by_and, nI_m1, Nat.add_sub_cancel, Nat.reducePow, Nat.zero_add, Nat.add_zero, Nat.reduceAdd, Nat.reduceMul, Nat.reduceSub, xf_same, xq_ff, xq_fo, xf_1, xf_2, xs_1, xs_2, xs_same, xq_so, xj_1, xj_2, xj_same, xq_jo, xq_sa1, xq_same, xq_other, upd_s, oI_n, oI_s, xf_15_4 F3, q1', q2']
    first | refine by_iald (by first | exact rfl | assumption | exact ps_1 hpp | exact ps_2 hpp | exact ps_3 hpp | exact ps_4 hpp | exact ps_5 hpp | exact ps_6 hpp | exact ps_7 hpp | exact ps_8 hpp | exact ps_9 hpp | exact ps_10 hpp | exact ps_11 hpp | exact ps_15 hpp | exact ps_16 hpp | exact ps_17 hpp | exact ps_18 hpp | exact ps_19 hpp | exact ps_21 hpp | exact ps_22 hpp | exact ps_23 hpp | exact ps_24 hpp) ⟨by omega, by omega⟩ ?_ | refine by_tald rfl rfl ⟨by omega, by omega⟩ ?_
    refine by_bipush cb_m2 ?_
    refine by_ic_eq 164 rfl ?_
    simp (disch := first | exact Nat.ne_of_beq_eq_false rfl | exact rfl | omega) only [nI_add, xa_sub, xa_mul, pk_div, nm_mod, xa_shr, xa_and7, xa_and1, xa_and255, xa_by_and, nI_m1, Nat.add_sub_cancel, Nat.reducePow, Nat.zero_add, Nat.add_zero, Nat.reduceAdd, Nat.reduceMul, Nat.reduceSub, xf_same, xq_ff, xq_fo, xf_1, xf_2, xs_1, xs_2, xs_same, xq_so, xj_1, xj_2, xj_same, xq_jo, xq_sa1, xq_same, xq_other, upd_s, oI_n, oI_s, xv_0, xv_1, xv_2, xv_3, xm_p1, xm_p2, xq_fp, xq_fn, List.filter_nil, Nat.reduceBEq, Bool.not_true, Bool.not_false, Bool.and_true, Bool.and_false, Bool.false_and, Bool.true_and, if_true, if_false, Bool.false_eq_true, reduceIte, xc_i, xc_j, xc_r, xc_n, List.nil_append, List.cons_append, Option.toList_some, Option.toList_none, nI_ltJ, nI_leJ, nI_eqJ, nI_ltz, nI_gez, nI_gtz, nI_lez, nI_eqz, m1_ltz, m1_gez, true_imp_iff, false_imp_iff, true_and, and_true, ne_eq, not_false_eq_true, not_true_eq_false, Nat.reduceEqDiff, Nat.reduceLT, Nat.reduceLeDiff, xf_15_4 F3, q1', q2']
    with_reducible refine xm_go_blk b_X1_resolve_152 k_X1_resolve_152 ?_
    refine by_aload_n rfl ?_
    refine by_getf cn_45 fl_1_26 (by first | exact rfl | assumption) (by decide) ?_
    refine by_iload rfl ?_
    simp (disch := first | exact Nat.ne_of_beq_eq_false rfl | exact rfl | omega) only [nI_add, xa_sub, xa_mul, pk_div, nm_mod, xa_shr, xa_and7, xa_and1, xa_and255, xa_by_and, nI_m1, Nat.add_sub_cancel, Nat.reducePow, Nat.zero_add, Nat.add_zero, Nat.reduceAdd, Nat.reduceMul, Nat.reduceSub, xf_same, xq_ff, xq_fo, xf_1, xf_2, xs_1, xs_2, xs_same, xq_so, xj_1, xj_2, xj_same, xq_jo, xq_sa1, xq_same, xq_other, upd_s, oI_n, oI_s, xf_15_4 F3, q1', q2']
    first | refine by_iald (by first | exact rfl | assumption | exact ps_1 hpp | exact ps_2 hpp | exact ps_3 hpp | exact ps_4 hpp | exact ps_5 hpp | exact ps_6 hpp | exact ps_7 hpp | exact ps_8 hpp | exact ps_9 hpp | exact ps_10 hpp | exact ps_11 hpp | exact ps_15 hpp | exact ps_16 hpp | exact ps_17 hpp | exact ps_18 hpp | exact ps_19 hpp | exact ps_21 hpp | exact ps_22 hpp | exact ps_23 hpp | exact ps_24 hpp) ⟨by omega, by omega⟩ ?_ | refine by_tald rfl rfl ⟨by omega, by omega⟩ ?_
    refine by_bipush cb_m2 ?_
    refine by_ic_ne 166 rfl ?_
    simp (disch := first | exact Nat.ne_of_beq_eq_false rfl | exact rfl | omega) only [nI_add, xa_sub, xa_mul, pk_div, nm_mod, xa_shr, xa_and7, xa_and1, xa_and255, xa_by_and, nI_m1, Nat.add_sub_cancel, Nat.reducePow, Nat.zero_add, Nat.add_zero, Nat.reduceAdd, Nat.reduceMul, Nat.reduceSub, xf_same, xq_ff, xq_fo, xf_1, xf_2, xs_1, xs_2, xs_same, xq_so, xj_1, xj_2, xj_same, xq_jo, xq_sa1, xq_same, xq_other, upd_s, oI_n, oI_s, xv_0, xv_1, xv_2, xv_3, xm_p1, xm_p2, xq_fp, xq_fn, List.filter_nil, Nat.reduceBEq, Bool.not_true, Bool.not_false, Bool.and_true, Bool.and_false, Bool.false_and, Bool.true_and, if_true, if_false, Bool.false_eq_true, reduceIte, xc_i, xc_j, xc_r, xc_n, List.nil_append, List.cons_append, Option.toList_some, Option.toList_none, nI_ltJ, nI_leJ, nI_eqJ, nI_ltz, nI_gez, nI_gtz, nI_lez, nI_eqz, m1_ltz, m1_gez, true_imp_iff, false_imp_iff, true_and, and_true, ne_eq, not_false_eq_true, not_true_eq_false, Nat.reduceEqDiff, Nat.reduceLT, Nat.reduceLeDiff, xf_15_4 F3, q1', q2']
    with_reducible refine xm_go_blk b_X1_resolve_164 k_X1_resolve_164 ?_
    refine by_iconst ci_0 ?_
    refine by_iret ry_45 (by first | rfl | assumption) ?_
    exact hbad h3 fR (cyc _ rc' (Or.inr rfl) q2)
  have q2' : (h3.1 20 (rt (r t)) = -2) = False := eq_false q2
  have pushed : ∀ v, v < c → rt v = v → (v = rt (l t) ∨ v = rt (r t)) → fd v = none → h3.1 20 v ≠ -2 → xm_go (XE sc) (xm_T (XE sc) (d + 2)) 45 post 18 [(0, .ref 15), (1, .int x), (2, .ref (pp + 14)), (3, .int (nI (turn + 1)))] [] (xm_sf (xm_si h3 21 (q.length + 1) (nI v)) 15 7 (.int (nI (q.length + 1 + 1)))) := by
    intro v vc vr hv vn v2
    obtain ⟨p1, p2⟩ := rs_F_push j7 tc et2 vn v2 vc
    have f4 : Fr [19, 20, 21] [(15, 7)] h (xm_sf (xm_si h3 21 (q.length + 1) (nI v)) 15 7 (.int (nI (q.length + 1 + 1)))) := Fr_sf (Fr_si (Fr_mo f3 (by simp) (by simp)) (by simp)) (by simp)
    have f5 : Fr [21] [(15, 7)] h3 (xm_sf (xm_si h3 21 (q.length + 1) (nI v)) 15 7 (.int (nI (q.length + 1 + 1)))) := Fr_sf (Fr_si Fr_rf (by simp)) (by simp)
    refine hpush _ v (Fr_mo f4 (by simp [rvR]) (by simp [rvT])) ⟨Fr_XF s1 f4 (by decide +kernel), ⟨⟨u'', dd, m, upA_fr w1 f5 (by simp), w2, u3⟩, fnA_fr A3 f5 (by simp) (by simp) (by simp), tyT_fr T3 f5 (by simp <;> omega) (by simp [taR] <;> omega), ?_, i5, rs_q_push i6 hn hk hv p1 vc vr, ?_⟩, skA_o (skA_push s3') (fun _ _ => rfl), by simp only [xf_same, List.length_cons]⟩ vn p1 vc
    · have := rs_m_push (c := c) vn p1 vc
      have hb2 : rs_b fd (v :: t :: q) = 0 := by simp [rs_b, vn]
      rw [hb2]
      simp only [List.length_cons]
      omega
    · rw [f5.1 20 (by simp)]
      exact p2
  by_cases y1 : fd (rt (l t)) = none
  · have z1 := rs_lt0 j7 lc' y1
    with_reducible refine xm_go_blk b_X1_resolve_138 k_X1_resolve_138 ?_
    refine by_istore (by rw [ml_45]; decide) ?_
    refine by_aload_n rfl ?_
    refine by_getf cn_45 fl_1_26 (by first | exact rfl | assumption) (by decide) ?_
    refine by_iload rfl ?_
    simp (disch := first | exact Nat.ne_of_beq_eq_false rfl | exact rfl | omega) only [nI_add, xa_sub, xa_mul, pk_div, nm_mod, xa_shr, xa_and7, xa_and1, xa_and255, xa_by_and, nI_m1, Nat.add_sub_cancel, Nat.reducePow, Nat.zero_add, Nat.add_zero, Nat.reduceAdd, Nat.reduceMul, Nat.reduceSub, xf_same, xq_ff, xq_fo, xf_1, xf_2, xs_1, xs_2, xs_same, xq_so, xj_1, xj_2, xj_same, xq_jo, xq_sa1, xq_same, xq_other, upd_s, oI_n, oI_s, xf_15_4 F3, xf_15_5 F3, q1', q2', z1, lt_ge0 z1, s4']
    first | refine by_iald (by first | exact rfl | assumption | exact ps_1 hpp | exact ps_2 hpp | exact ps_3 hpp | exact ps_4 hpp | exact ps_5 hpp | exact ps_6 hpp | exact ps_7 hpp | exact ps_8 hpp | exact ps_9 hpp | exact ps_10 hpp | exact ps_11 hpp | exact ps_15 hpp | exact ps_16 hpp | exact ps_17 hpp | exact ps_18 hpp | exact ps_19 hpp | exact ps_21 hpp | exact ps_22 hpp | exact ps_23 hpp | exact ps_24 hpp) ⟨by omega, by omega⟩ ?_ | refine by_tald rfl rfl ⟨by omega, by omega⟩ ?_
    refine by_bipush cb_m2 ?_
    refine by_ic_eq 164 rfl ?_
    simp (disch := first | exact Nat.ne_of_beq_eq_false rfl | exact rfl | omega) only [nI_add, xa_sub, xa_mul, pk_div, nm_mod, xa_shr, xa_and7, xa_and1, xa_and255, xa_by_and, nI_m1, Nat.add_sub_cancel, Nat.reducePow, Nat.zero_add, Nat.add_zero, Nat.reduceAdd, Nat.reduceMul, Nat.reduceSub, xf_same, xq_ff, xq_fo, xf_1, xf_2, xs_1, xs_2, xs_same, xq_so, xj_1, xj_2, xj_same, xq_jo, xq_sa1, xq_same, xq_other, upd_s, oI_n, oI_s, xv_0, xv_1, xv_2, xv_3, xm_p1, xm_p2, xq_fp, xq_fn, List.filter_nil, Nat.reduceBEq, Bool.not_true, Bool.not_false, Bool.and_true, Bool.and_false, Bool.false_and, Bool.true_and, if_true, if_false, Bool.false_eq_true, reduceIte, xc_i, xc_j, xc_r, xc_n, List.nil_append, List.cons_append, Option.toList_some, Option.toList_none, nI_ltJ, nI_leJ, nI_eqJ, nI_ltz, nI_gez, nI_gtz, nI_lez, nI_eqz, m1_ltz, m1_gez, true_imp_iff, false_imp_iff, true_and, and_true, ne_eq, not_false_eq_true, not_true_eq_false, Nat.reduceEqDiff, Nat.reduceLT, Nat.reduceLeDiff, xf_15_4 F3, xf_15_5 F3, q1', q2', z1, lt_ge0 z1, s4']
    with_reducible refine xm_go_blk b_X1_resolve_152 k_X1_resolve_152 ?_
    refine by_aload_n rfl ?_
    refine by_getf cn_45 fl_1_26 (by first | exact rfl | assumption) (by decide) ?_
    refine by_iload rfl ?_
    simp (disch := first | exact Nat.ne_of_beq_eq_false rfl | exact rfl | omega) only [nI_add, xa_sub, xa_mul, pk_div, nm_mod, xa_shr, xa_and7, xa_and1, xa_and255, xa_by_and, nI_m1, Nat.add_sub_cancel, Nat.reducePow, Nat.zero_add, Nat.add_zero, Nat.reduceAdd, Nat.reduceMul, Nat.reduceSub, xf_same, xq_ff, xq_fo, xf_1, xf_2, xs_1, xs_2, xs_same, xq_so, xj_1, xj_2, xj_same, xq_jo, xq_sa1, xq_same, xq_other, upd_s, oI_n, oI_s, xf_15_4 F3, xf_15_5 F3, q1', q2', z1, lt_ge0 z1, s4']
    first | refine by_iald (by first | exact rfl | assumption | exact ps_1 hpp | exact ps_2 hpp | exact ps_3 hpp | exact ps_4 hpp | exact ps_5 hpp | exact ps_6 hpp | exact ps_7 hpp | exact ps_8 hpp | exact ps_9 hpp | exact ps_10 hpp | exact ps_11 hpp | exact ps_15 hpp | exact ps_16 hpp | exact ps_17 hpp | exact ps_18 hpp | exact ps_19 hpp | exact ps_21 hpp | exact ps_22 hpp | exact ps_23 hpp | exact ps_24 hpp) ⟨by omega, by omega⟩ ?_ | refine by_tald rfl rfl ⟨by omega, by omega⟩ ?_
    refine by_bipush cb_m2 ?_
    refine by_ic_ne 166 rfl ?_
    simp (disch := first | exact Nat.ne_of_beq_eq_false rfl | exact rfl | omega) only [nI_add, xa_sub, xa_mul, pk_div, nm_mod, xa_shr, xa_and7, xa_and1, xa_and255, xa_by_and, nI_m1, Nat.add_sub_cancel, Nat.reducePow, Nat.zero_add, Nat.add_zero, Nat.reduceAdd, Nat.reduceMul, Nat.reduceSub, xf_same, xq_ff, xq_fo, xf_1, xf_2, xs_1, xs_2, xs_same, xq_so, xj_1, xj_2, xj_same, xq_jo, xq_sa1, xq_same, xq_other, upd_s, oI_n, oI_s, xv_0, xv_1, xv_2, xv_3, xm_p1, xm_p2, xq_fp, xq_fn, List.filter_nil, Nat.reduceBEq, Bool.not_true, Bool.not_false, Bool.and_true, Bool.and_false, Bool.false_and, Bool.true_and, if_true, if_false, Bool.false_eq_true, reduceIte, xc_i, xc_j, xc_r, xc_n, List.nil_append, List.cons_append, Option.toList_some, Option.toList_none, nI_ltJ, nI_leJ, nI_eqJ, nI_ltz, nI_gez, nI_gtz, nI_lez, nI_eqz, m1_ltz, m1_gez, true_imp_iff, false_imp_iff, true_and, and_true, ne_eq, not_false_eq_true, not_true_eq_false, Nat.reduceEqDiff, Nat.reduceLT, Nat.reduceLeDiff, xf_15_4 F3, xf_15_5 F3, q1', q2', z1, lt_ge0 z1, s4']
    with_reducible refine xm_go_blk b_X1_resolve_166 k_X1_resolve_166 ?_
    refine by_aload_n rfl ?_
    refine by_getf cn_45 fl_1_26 (by first | exact rfl | assumption) (by decide) ?_
    refine by_iload rfl ?_
    simp (disch := first | exact Nat.ne_of_beq_eq_false rfl | exact rfl | omega) only [nI_add, xa_sub, xa_mul, pk_div, nm_mod, xa_shr, xa_and7, xa_and1, xa_and255, xa_by_and, nI_m1, Nat.add_sub_cancel, Nat.reducePow, Nat.zero_add, Nat.add_zero, Nat.reduceAdd, Nat.reduceMul, Nat.reduceSub, xf_same, xq_ff, xq_fo, xf_1, xf_2, xs_1, xs_2, xs_same, xq_so, xj_1, xj_2, xj_same, xq_jo, xq_sa1, xq_same, xq_other, upd_s, oI_n, oI_s, xf_15_4 F3, xf_15_5 F3, q1', q2', z1, lt_ge0 z1, s4']
    first | refine by_iald (by first | exact rfl | assumption | exact ps_1 hpp | exact ps_2 hpp | exact ps_3 hpp | exact ps_4 hpp | exact ps_5 hpp | exact ps_6 hpp | exact ps_7 hpp | exact ps_8 hpp | exact ps_9 hpp | exact ps_10 hpp | exact ps_11 hpp | exact ps_15 hpp | exact ps_16 hpp | exact ps_17 hpp | exact ps_18 hpp | exact ps_19 hpp | exact ps_21 hpp | exact ps_22 hpp | exact ps_23 hpp | exact ps_24 hpp) ⟨by omega, by omega⟩ ?_ | refine by_tald rfl rfl ⟨by omega, by omega⟩ ?_
    refine by_if_lt 221 rfl ?_
    simp (disch := first | exact Nat.ne_of_beq_eq_false rfl | exact rfl | omega) only [nI_add, xa_sub, xa_mul, pk_div, nm_mod, xa_shr, xa_and7, xa_and1, xa_and255, xa_by_and, nI_m1, Nat.add_sub_cancel, Nat.reducePow, Nat.zero_add, Nat.add_zero, Nat.reduceAdd, Nat.reduceMul, Nat.reduceSub, xf_same, xq_ff, xq_fo, xf_1, xf_2, xs_1, xs_2, xs_same, xq_so, xj_1, xj_2, xj_same, xq_jo, xq_sa1, xq_same, xq_other, upd_s, oI_n, oI_s, xv_0, xv_1, xv_2, xv_3, xm_p1, xm_p2, xq_fp, xq_fn, List.filter_nil, Nat.reduceBEq, Bool.not_true, Bool.not_false, Bool.and_true, Bool.and_false, Bool.false_and, Bool.true_and, if_true, if_false, Bool.false_eq_true, reduceIte, xc_i, xc_j, xc_r, xc_n, List.nil_append, List.cons_append, Option.toList_some, Option.toList_none, nI_ltJ, nI_leJ, nI_eqJ, nI_ltz, nI_gez, nI_gtz, nI_lez, nI_eqz, m1_ltz, m1_gez, true_imp_iff, false_imp_iff, true_and, and_true, ne_eq, not_false_eq_true, not_true_eq_false, Nat.reduceEqDiff, Nat.reduceLT, Nat.reduceLeDiff, xf_15_4 F3, xf_15_5 F3, q1', q2', z1, lt_ge0 z1, s4']
    with_reducible refine xm_go_blk b_X1_resolve_221 k_X1_resolve_221 ?_
    refine by_aload_n rfl ?_
    refine by_getf cn_45 fl_1_29 (by first | exact rfl | assumption) (by decide) ?_
    refine by_aload_n rfl ?_
    refine by_getf cn_45 fl_1_111 (by first | exact rfl | assumption) (by decide) ?_
    refine by_aload_n rfl ?_
    refine by_getf cn_45 fl_1_26 (by first | exact rfl | assumption) (by decide) ?_
    refine by_iload rfl ?_
    simp (disch := first | exact Nat.ne_of_beq_eq_false rfl | exact rfl | omega) only [nI_add, xa_sub, xa_mul, pk_div, nm_mod, xa_shr, xa_and7, xa_and1, xa_and255, xa_by_and, nI_m1, Nat.add_sub_cancel, Nat.reducePow, Nat.zero_add, Nat.add_zero, Nat.reduceAdd, Nat.reduceMul, Nat.reduceSub, xf_same, xq_ff, xq_fo, xf_1, xf_2, xs_1, xs_2, xs_same, xq_so, xj_1, xj_2, xj_same, xq_jo, xq_sa1, xq_same, xq_other, upd_s, oI_n, oI_s, xf_15_4 F3, xf_15_5 F3, q1', q2', z1, lt_ge0 z1, s4']
    first | refine by_iald (by first | exact rfl | assumption | exact ps_1 hpp | exact ps_2 hpp | exact ps_3 hpp | exact ps_4 hpp | exact ps_5 hpp | exact ps_6 hpp | exact ps_7 hpp | exact ps_8 hpp | exact ps_9 hpp | exact ps_10 hpp | exact ps_11 hpp | exact ps_15 hpp | exact ps_16 hpp | exact ps_17 hpp | exact ps_18 hpp | exact ps_19 hpp | exact ps_21 hpp | exact ps_22 hpp | exact ps_23 hpp | exact ps_24 hpp) ⟨by omega, by omega⟩ ?_ | refine by_tald rfl rfl ⟨by omega, by omega⟩ ?_
    refine by_if_ge 244 rfl ?_
    simp (disch := first | exact Nat.ne_of_beq_eq_false rfl | exact rfl | omega) only [nI_add, xa_sub, xa_mul, pk_div, nm_mod, xa_shr, xa_and7, xa_and1, xa_and255, xa_by_and, nI_m1, Nat.add_sub_cancel, Nat.reducePow, Nat.zero_add, Nat.add_zero, Nat.reduceAdd, Nat.reduceMul, Nat.reduceSub, xf_same, xq_ff, xq_fo, xf_1, xf_2, xs_1, xs_2, xs_same, xq_so, xj_1, xj_2, xj_same, xq_jo, xq_sa1, xq_same, xq_other, upd_s, oI_n, oI_s, xv_0, xv_1, xv_2, xv_3, xm_p1, xm_p2, xq_fp, xq_fn, List.filter_nil, Nat.reduceBEq, Bool.not_true, Bool.not_false, Bool.and_true, Bool.and_false, Bool.false_and, Bool.true_and, if_true, if_false, Bool.false_eq_true, reduceIte, xc_i, xc_j, xc_r, xc_n, List.nil_append, List.cons_append, Option.toList_some, Option.toList_none, nI_ltJ, nI_leJ, nI_eqJ, nI_ltz, nI_gez, nI_gtz, nI_lez, nI_eqz, m1_ltz, m1_gez, true_imp_iff, false_imp_iff, true_and, and_true, ne_eq, not_false_eq_true, not_true_eq_false, Nat.reduceEqDiff, Nat.reduceLT, Nat.reduceLeDiff, xf_15_4 F3, xf_15_5 F3, q1', q2', z1, lt_ge0 z1, s4']
    with_reducible refine xm_go_blk b_X1_resolve_239 k_X1_resolve_239 ?_
    refine by_iload rfl ?_
    refine by_goto 246 rfl ?_
    with_reducible refine xm_go_blk b_X1_resolve_246 k_X1_resolve_246 ?_
    refine by_iast (by first | exact rfl | assumption | exact ps_1 hpp | exact ps_2 hpp | exact ps_3 hpp | exact ps_4 hpp | exact ps_5 hpp | exact ps_6 hpp | exact ps_7 hpp | exact ps_8 hpp | exact ps_9 hpp | exact ps_10 hpp | exact ps_11 hpp | exact ps_15 hpp | exact ps_16 hpp | exact ps_17 hpp | exact ps_18 hpp | exact ps_19 hpp | exact ps_21 hpp | exact ps_22 hpp | exact ps_23 hpp | exact ps_24 hpp) ⟨by omega, by omega⟩ ?_
    refine by_aload_n rfl ?_
    refine by_dup rfl ?_
    refine by_getf cn_45 fl_1_111 (by first | exact rfl | assumption) (by decide) ?_
    refine by_iconst ci_1 ?_
    simp (disch := first | exact Nat.ne_of_beq_eq_false rfl | exact rfl | omega) only [nI_add, xa_sub, xa_mul, pk_div, nm_mod, xa_shr, xa_and7, xa_and1, xa_and255, xa_by_and, nI_m1, Nat.add_sub_cancel, Nat.reducePow, Nat.zero_add, Nat.add_zero, Nat.reduceAdd, Nat.reduceMul, Nat.reduceSub, xf_same, xq_ff, xq_fo, xf_1, xf_2, xs_1, xs_2, xs_same, xq_so, xj_1, xj_2, xj_same, xq_jo, xq_sa1, xq_same, xq_other, upd_s, oI_n, oI_s, xf_15_4 F3, xf_15_5 F3, q1', q2', z1, lt_ge0 z1, s4']
    refine by_iadd ?_
    refine by_putf cn_45 fl_1_111 (by first | exact rfl | assumption) (by decide) nf_1_7 ft_1_7 (by first | rfl | assumption) (by first | rfl | assumption) ?_
    refine by_nil ?_
    simp (disch := first | exact Nat.ne_of_beq_eq_false rfl | exact rfl | omega) only [nI_add, xa_sub, xa_mul, pk_div, nm_mod, xa_shr, xa_and7, xa_and1, xa_and255, xa_by_and, nI_m1, Nat.add_sub_cancel, Nat.reducePow, Nat.zero_add, Nat.add_zero, Nat.reduceAdd, Nat.reduceMul, Nat.reduceSub, xf_same, xq_ff, xq_fo, xf_1, xf_2, xs_1, xs_2, xs_same, xq_so, xj_1, xj_2, xj_same, xq_jo, xq_sa1, xq_same, xq_other, upd_s, oI_n, oI_s, xv_0, xv_1, xv_2, xv_3, xm_p1, xm_p2, xq_fp, xq_fn, List.filter_nil, Nat.reduceBEq, Bool.not_true, Bool.not_false, Bool.and_true, Bool.and_false, Bool.false_and, Bool.true_and, if_true, if_false, Bool.false_eq_true, reduceIte, xc_i, xc_j, xc_r, xc_n, List.nil_append, List.cons_append, Option.toList_some, Option.toList_none, xf_15_4 F3, xf_15_5 F3, q1', q2', z1, lt_ge0 z1, s4']
    with_reducible refine xm_go_blk b_X1_resolve_257 k_X1_resolve_257 ?_
    refine by_iinc (by rw [ml_45]; decide) rfl ci_1 ?_
    refine by_goto 18 rfl ?_
    simp (disch := first | exact Nat.ne_of_beq_eq_false rfl | exact rfl | omega) only [nI_add, xa_sub, xa_mul, pk_div, nm_mod, xa_shr, xa_and7, xa_and1, xa_and255, xa_by_and, nI_m1, Nat.add_sub_cancel, Nat.reducePow, Nat.zero_add, Nat.add_zero, Nat.reduceAdd, Nat.reduceMul, Nat.reduceSub, xf_same, xq_ff, xq_fo, xf_1, xf_2, xs_1, xs_2, xs_same, xq_so, xj_1, xj_2, xj_same, xq_jo, xq_sa1, xq_same, xq_other, upd_s, oI_n, oI_s, xv_0, xv_1, xv_2, xv_3, xm_p1, xm_p2, xq_fp, xq_fn, List.filter_nil, Nat.reduceBEq, Bool.not_true, Bool.not_false, Bool.and_true, Bool.and_false, Bool.false_and, Bool.true_and, if_true, if_false, Bool.false_eq_true, reduceIte, xc_i, xc_j, xc_r, xc_n, List.nil_append, List.cons_append, Option.toList_some, Option.toList_none, xf_15_4 F3, xf_15_5 F3, q1', q2', z1, lt_ge0 z1, s4']
    exact xm_go_wk (by simp [Value.category]) (pushed _ lc' lr' (Or.inl rfl) y1 q1)
  obtain ⟨a1, ha1⟩ : ∃ a, fd (rt (l t)) = some a := by
    cases e : fd (rt (l t)) with
    | none => exact absurd e y1
    | some a => exact ⟨a, rfl⟩
  obtain ⟨i1, _, b2, b3, b4⟩ := (j7 _ lc').1 a1 ha1
  by_cases y2 : fd (rt (r t)) = none
  · have z2 := rs_lt0 j7 rc' y2
    with_reducible refine xm_go_blk b_X1_resolve_138 k_X1_resolve_138 ?_
    refine by_istore (by rw [ml_45]; decide) ?_
    refine by_aload_n rfl ?_
    refine by_getf cn_45 fl_1_26 (by first | exact rfl | assumption) (by decide) ?_
    refine by_iload rfl ?_
    simp (disch := first | exact Nat.ne_of_beq_eq_false rfl | exact rfl | omega) only [nI_add, xa_sub, xa_mul, pk_div, nm_mod, xa_shr, xa_and7, xa_and1, xa_and255, xa_by_and, nI_m1, Nat.add_sub_cancel, Nat.reducePow, Nat.zero_add, Nat.add_zero, Nat.reduceAdd, Nat.reduceMul, Nat.reduceSub, xf_same, xq_ff, xq_fo, xf_1, xf_2, xs_1, xs_2, xs_same, xq_so, xj_1, xj_2, xj_same, xq_jo, xq_sa1, xq_same, xq_other, upd_s, oI_n, oI_s, xf_15_4 F3, xf_15_5 F3, q1', q2', b3, z2, s4', eq_false (nI_ne2 (show i1 < 2147483648 by omega))]
    first | refine by_iald (by first | exact rfl | assumption | exact ps_1 hpp | exact ps_2 hpp | exact ps_3 hpp | exact ps_4 hpp | exact ps_5 hpp | exact ps_6 hpp | exact ps_7 hpp | exact ps_8 hpp | exact ps_9 hpp | exact ps_10 hpp | exact ps_11 hpp | exact ps_15 hpp | exact ps_16 hpp | exact ps_17 hpp | exact ps_18 hpp | exact ps_19 hpp | exact ps_21 hpp | exact ps_22 hpp | exact ps_23 hpp | exact ps_24 hpp) ⟨by omega, by omega⟩ ?_ | refine by_tald rfl rfl ⟨by omega, by omega⟩ ?_
    refine by_bipush cb_m2 ?_
    refine by_ic_eq 164 rfl ?_
    simp (disch := first | exact Nat.ne_of_beq_eq_false rfl | exact rfl | omega) only [nI_add, xa_sub, xa_mul, pk_div, nm_mod, xa_shr, xa_and7, xa_and1, xa_and255, xa_by_and, nI_m1, Nat.add_sub_cancel, Nat.reducePow, Nat.zero_add, Nat.add_zero, Nat.reduceAdd, Nat.reduceMul, Nat.reduceSub, xf_same, xq_ff, xq_fo, xf_1, xf_2, xs_1, xs_2, xs_same, xq_so, xj_1, xj_2, xj_same, xq_jo, xq_sa1, xq_same, xq_other, upd_s, oI_n, oI_s, xv_0, xv_1, xv_2, xv_3, xm_p1, xm_p2, xq_fp, xq_fn, List.filter_nil, Nat.reduceBEq, Bool.not_true, Bool.not_false, Bool.and_true, Bool.and_false, Bool.false_and, Bool.true_and, if_true, if_false, Bool.false_eq_true, reduceIte, xc_i, xc_j, xc_r, xc_n, List.nil_append, List.cons_append, Option.toList_some, Option.toList_none, nI_ltJ, nI_leJ, nI_eqJ, nI_ltz, nI_gez, nI_gtz, nI_lez, nI_eqz, m1_ltz, m1_gez, true_imp_iff, false_imp_iff, true_and, and_true, ne_eq, not_false_eq_true, not_true_eq_false, Nat.reduceEqDiff, Nat.reduceLT, Nat.reduceLeDiff, xf_15_4 F3, xf_15_5 F3, q1', q2', b3, z2, s4', eq_false (nI_ne2 (show i1 < 2147483648 by omega))]
    with_reducible refine xm_go_blk b_X1_resolve_152 k_X1_resolve_152 ?_
    refine by_aload_n rfl ?_
    refine by_getf cn_45 fl_1_26 (by first | exact rfl | assumption) (by decide) ?_
    refine by_iload rfl ?_
    simp (disch := first | exact Nat.ne_of_beq_eq_false rfl | exact rfl | omega) only [nI_add, xa_sub, xa_mul, pk_div, nm_mod, xa_shr, xa_and7, xa_and1, xa_and255, xa_by_and, nI_m1, Nat.add_sub_cancel, Nat.reducePow, Nat.zero_add, Nat.add_zero, Nat.reduceAdd, Nat.reduceMul, Nat.reduceSub, xf_same, xq_ff, xq_fo, xf_1, xf_2, xs_1, xs_2, xs_same, xq_so, xj_1, xj_2, xj_same, xq_jo, xq_sa1, xq_same, xq_other, upd_s, oI_n, oI_s, xf_15_4 F3, xf_15_5 F3, q1', q2', b3, z2, s4', eq_false (nI_ne2 (show i1 < 2147483648 by omega))]
    first | refine by_iald (by first | exact rfl | assumption | exact ps_1 hpp | exact ps_2 hpp | exact ps_3 hpp | exact ps_4 hpp | exact ps_5 hpp | exact ps_6 hpp | exact ps_7 hpp | exact ps_8 hpp | exact ps_9 hpp | exact ps_10 hpp | exact ps_11 hpp | exact ps_15 hpp | exact ps_16 hpp | exact ps_17 hpp | exact ps_18 hpp | exact ps_19 hpp | exact ps_21 hpp | exact ps_22 hpp | exact ps_23 hpp | exact ps_24 hpp) ⟨by omega, by omega⟩ ?_ | refine by_tald rfl rfl ⟨by omega, by omega⟩ ?_
    refine by_bipush cb_m2 ?_
    refine by_ic_ne 166 rfl ?_
    simp (disch := first | exact Nat.ne_of_beq_eq_false rfl | exact rfl | omega) only [nI_add, xa_sub, xa_mul, pk_div, nm_mod, xa_shr, xa_and7, xa_and1, xa_and255, xa_by_and, nI_m1, Nat.add_sub_cancel, Nat.reducePow, Nat.zero_add, Nat.add_zero, Nat.reduceAdd, Nat.reduceMul, Nat.reduceSub, xf_same, xq_ff, xq_fo, xf_1, xf_2, xs_1, xs_2, xs_same, xq_so, xj_1, xj_2, xj_same, xq_jo, xq_sa1, xq_same, xq_other, upd_s, oI_n, oI_s, xv_0, xv_1, xv_2, xv_3, xm_p1, xm_p2, xq_fp, xq_fn, List.filter_nil, Nat.reduceBEq, Bool.not_true, Bool.not_false, Bool.and_true, Bool.and_false, Bool.false_and, Bool.true_and, if_true, if_false, Bool.false_eq_true, reduceIte, xc_i, xc_j, xc_r, xc_n, List.nil_append, List.cons_append, Option.toList_some, Option.toList_none, nI_ltJ, nI_leJ, nI_eqJ, nI_ltz, nI_gez, nI_gtz, nI_lez, nI_eqz, m1_ltz, m1_gez, true_imp_iff, false_imp_iff, true_and, and_true, ne_eq, not_false_eq_true, not_true_eq_false, Nat.reduceEqDiff, Nat.reduceLT, Nat.reduceLeDiff, xf_15_4 F3, xf_15_5 F3, q1', q2', b3, z2, s4', eq_false (nI_ne2 (show i1 < 2147483648 by omega))]
    with_reducible refine xm_go_blk b_X1_resolve_166 k_X1_resolve_166 ?_
    refine by_aload_n rfl ?_
    refine by_getf cn_45 fl_1_26 (by first | exact rfl | assumption) (by decide) ?_
    refine by_iload rfl ?_
    simp (disch := first | exact Nat.ne_of_beq_eq_false rfl | exact rfl | omega) only [nI_add, xa_sub, xa_mul, pk_div, nm_mod, xa_shr, xa_and7, xa_and1, xa_and255, xa_by_and, nI_m1, Nat.add_sub_cancel, Nat.reducePow, Nat.zero_add, Nat.add_zero, Nat.reduceAdd, Nat.reduceMul, Nat.reduceSub, xf_same, xq_ff, xq_fo, xf_1, xf_2, xs_1, xs_2, xs_same, xq_so, xj_1, xj_2, xj_same, xq_jo, xq_sa1, xq_same, xq_other, upd_s, oI_n, oI_s, xf_15_4 F3, xf_15_5 F3, q1', q2', b3, z2, s4', eq_false (nI_ne2 (show i1 < 2147483648 by omega))]
    first | refine by_iald (by first | exact rfl | assumption | exact ps_1 hpp | exact ps_2 hpp | exact ps_3 hpp | exact ps_4 hpp | exact ps_5 hpp | exact ps_6 hpp | exact ps_7 hpp | exact ps_8 hpp | exact ps_9 hpp | exact ps_10 hpp | exact ps_11 hpp | exact ps_15 hpp | exact ps_16 hpp | exact ps_17 hpp | exact ps_18 hpp | exact ps_19 hpp | exact ps_21 hpp | exact ps_22 hpp | exact ps_23 hpp | exact ps_24 hpp) ⟨by omega, by omega⟩ ?_ | refine by_tald rfl rfl ⟨by omega, by omega⟩ ?_
    refine by_if_lt 221 rfl ?_
    simp (disch := first | exact Nat.ne_of_beq_eq_false rfl | exact rfl | omega) only [nI_add, xa_sub, xa_mul, pk_div, nm_mod, xa_shr, xa_and7, xa_and1, xa_and255, xa_by_and, nI_m1, Nat.add_sub_cancel, Nat.reducePow, Nat.zero_add, Nat.add_zero, Nat.reduceAdd, Nat.reduceMul, Nat.reduceSub, xf_same, xq_ff, xq_fo, xf_1, xf_2, xs_1, xs_2, xs_same, xq_so, xj_1, xj_2, xj_same, xq_jo, xq_sa1, xq_same, xq_other, upd_s, oI_n, oI_s, xv_0, xv_1, xv_2, xv_3, xm_p1, xm_p2, xq_fp, xq_fn, List.filter_nil, Nat.reduceBEq, Bool.not_true, Bool.not_false, Bool.and_true, Bool.and_false, Bool.false_and, Bool.true_and, if_true, if_false, Bool.false_eq_true, reduceIte, xc_i, xc_j, xc_r, xc_n, List.nil_append, List.cons_append, Option.toList_some, Option.toList_none, nI_ltJ, nI_leJ, nI_eqJ, nI_ltz, nI_gez, nI_gtz, nI_lez, nI_eqz, m1_ltz, m1_gez, true_imp_iff, false_imp_iff, true_and, and_true, ne_eq, not_false_eq_true, not_true_eq_false, Nat.reduceEqDiff, Nat.reduceLT, Nat.reduceLeDiff, xf_15_4 F3, xf_15_5 F3, q1', q2', b3, z2, s4', eq_false (nI_ne2 (show i1 < 2147483648 by omega))]
    with_reducible refine xm_go_blk b_X1_resolve_176 k_X1_resolve_176 ?_
    refine by_aload_n rfl ?_
    refine by_getf cn_45 fl_1_26 (by first | exact rfl | assumption) (by decide) ?_
    refine by_iload rfl ?_
    simp (disch := first | exact Nat.ne_of_beq_eq_false rfl | exact rfl | omega) only [nI_add, xa_sub, xa_mul, pk_div, nm_mod, xa_shr, xa_and7, xa_and1, xa_and255, xa_by_and, nI_m1, Nat.add_sub_cancel, Nat.reducePow, Nat.zero_add, Nat.add_zero, Nat.reduceAdd, Nat.reduceMul, Nat.reduceSub, xf_same, xq_ff, xq_fo, xf_1, xf_2, xs_1, xs_2, xs_same, xq_so, xj_1, xj_2, xj_same, xq_jo, xq_sa1, xq_same, xq_other, upd_s, oI_n, oI_s, xf_15_4 F3, xf_15_5 F3, q1', q2', b3, z2, s4', eq_false (nI_ne2 (show i1 < 2147483648 by omega))]
    first | refine by_iald (by first | exact rfl | assumption | exact ps_1 hpp | exact ps_2 hpp | exact ps_3 hpp | exact ps_4 hpp | exact ps_5 hpp | exact ps_6 hpp | exact ps_7 hpp | exact ps_8 hpp | exact ps_9 hpp | exact ps_10 hpp | exact ps_11 hpp | exact ps_15 hpp | exact ps_16 hpp | exact ps_17 hpp | exact ps_18 hpp | exact ps_19 hpp | exact ps_21 hpp | exact ps_22 hpp | exact ps_23 hpp | exact ps_24 hpp) ⟨by omega, by omega⟩ ?_ | refine by_tald rfl rfl ⟨by omega, by omega⟩ ?_
    refine by_if_lt 221 rfl ?_
    simp (disch := first | exact Nat.ne_of_beq_eq_false rfl | exact rfl | omega) only [nI_add, xa_sub, xa_mul, pk_div, nm_mod, xa_shr, xa_and7, xa_and1, xa_and255, xa_by_and, nI_m1, Nat.add_sub_cancel, Nat.reducePow, Nat.zero_add, Nat.add_zero, Nat.reduceAdd, Nat.reduceMul, Nat.reduceSub, xf_same, xq_ff, xq_fo, xf_1, xf_2, xs_1, xs_2, xs_same, xq_so, xj_1, xj_2, xj_same, xq_jo, xq_sa1, xq_same, xq_other, upd_s, oI_n, oI_s, xv_0, xv_1, xv_2, xv_3, xm_p1, xm_p2, xq_fp, xq_fn, List.filter_nil, Nat.reduceBEq, Bool.not_true, Bool.not_false, Bool.and_true, Bool.and_false, Bool.false_and, Bool.true_and, if_true, if_false, Bool.false_eq_true, reduceIte, xc_i, xc_j, xc_r, xc_n, List.nil_append, List.cons_append, Option.toList_some, Option.toList_none, nI_ltJ, nI_leJ, nI_eqJ, nI_ltz, nI_gez, nI_gtz, nI_lez, nI_eqz, m1_ltz, m1_gez, true_imp_iff, false_imp_iff, true_and, and_true, ne_eq, not_false_eq_true, not_true_eq_false, Nat.reduceEqDiff, Nat.reduceLT, Nat.reduceLeDiff, xf_15_4 F3, xf_15_5 F3, q1', q2', b3, z2, s4', eq_false (nI_ne2 (show i1 < 2147483648 by omega))]
    with_reducible refine xm_go_blk b_X1_resolve_221 k_X1_resolve_221 ?_
    refine by_aload_n rfl ?_
    refine by_getf cn_45 fl_1_29 (by first | exact rfl | assumption) (by decide) ?_
    refine by_aload_n rfl ?_
    refine by_getf cn_45 fl_1_111 (by first | exact rfl | assumption) (by decide) ?_
    refine by_aload_n rfl ?_
    refine by_getf cn_45 fl_1_26 (by first | exact rfl | assumption) (by decide) ?_
    refine by_iload rfl ?_
    simp (disch := first | exact Nat.ne_of_beq_eq_false rfl | exact rfl | omega) only [nI_add, xa_sub, xa_mul, pk_div, nm_mod, xa_shr, xa_and7, xa_and1, xa_and255, xa_by_and, nI_m1, Nat.add_sub_cancel, Nat.reducePow, Nat.zero_add, Nat.add_zero, Nat.reduceAdd, Nat.reduceMul, Nat.reduceSub, xf_same, xq_ff, xq_fo, xf_1, xf_2, xs_1, xs_2, xs_same, xq_so, xj_1, xj_2, xj_same, xq_jo, xq_sa1, xq_same, xq_other, upd_s, oI_n, oI_s, xf_15_4 F3, xf_15_5 F3, q1', q2', b3, z2, s4', eq_false (nI_ne2 (show i1 < 2147483648 by omega))]
    first | refine by_iald (by first | exact rfl | assumption | exact ps_1 hpp | exact ps_2 hpp | exact ps_3 hpp | exact ps_4 hpp | exact ps_5 hpp | exact ps_6 hpp | exact ps_7 hpp | exact ps_8 hpp | exact ps_9 hpp | exact ps_10 hpp | exact ps_11 hpp | exact ps_15 hpp | exact ps_16 hpp | exact ps_17 hpp | exact ps_18 hpp | exact ps_19 hpp | exact ps_21 hpp | exact ps_22 hpp | exact ps_23 hpp | exact ps_24 hpp) ⟨by omega, by omega⟩ ?_ | refine by_tald rfl rfl ⟨by omega, by omega⟩ ?_
    refine by_if_ge 244 rfl ?_
    simp (disch := first | exact Nat.ne_of_beq_eq_false rfl | exact rfl | omega) only [nI_add, xa_sub, xa_mul, pk_div, nm_mod, xa_shr, xa_and7, xa_and1, xa_and255, xa_by_and, nI_m1, Nat.add_sub_cancel, Nat.reducePow, Nat.zero_add, Nat.add_zero, Nat.reduceAdd, Nat.reduceMul, Nat.reduceSub, xf_same, xq_ff, xq_fo, xf_1, xf_2, xs_1, xs_2, xs_same, xq_so, xj_1, xj_2, xj_same, xq_jo, xq_sa1, xq_same, xq_other, upd_s, oI_n, oI_s, xv_0, xv_1, xv_2, xv_3, xm_p1, xm_p2, xq_fp, xq_fn, List.filter_nil, Nat.reduceBEq, Bool.not_true, Bool.not_false, Bool.and_true, Bool.and_false, Bool.false_and, Bool.true_and, if_true, if_false, Bool.false_eq_true, reduceIte, xc_i, xc_j, xc_r, xc_n, List.nil_append, List.cons_append, Option.toList_some, Option.toList_none, nI_ltJ, nI_leJ, nI_eqJ, nI_ltz, nI_gez, nI_gtz, nI_lez, nI_eqz, m1_ltz, m1_gez, true_imp_iff, false_imp_iff, true_and, and_true, ne_eq, not_false_eq_true, not_true_eq_false, Nat.reduceEqDiff, Nat.reduceLT, Nat.reduceLeDiff, xf_15_4 F3, xf_15_5 F3, q1', q2', b3, z2, s4', eq_false (nI_ne2 (show i1 < 2147483648 by omega))]
    with_reducible refine xm_go_blk b_X1_resolve_244 k_X1_resolve_244 ?_
    refine by_iload rfl ?_
    refine by_nil ?_
    with_reducible refine xm_go_blk b_X1_resolve_246 k_X1_resolve_246 ?_
    refine by_iast (by first | exact rfl | assumption | exact ps_1 hpp | exact ps_2 hpp | exact ps_3 hpp | exact ps_4 hpp | exact ps_5 hpp | exact ps_6 hpp | exact ps_7 hpp | exact ps_8 hpp | exact ps_9 hpp | exact ps_10 hpp | exact ps_11 hpp | exact ps_15 hpp | exact ps_16 hpp | exact ps_17 hpp | exact ps_18 hpp | exact ps_19 hpp | exact ps_21 hpp | exact ps_22 hpp | exact ps_23 hpp | exact ps_24 hpp) ⟨by omega, by omega⟩ ?_
    refine by_aload_n rfl ?_
    refine by_dup rfl ?_
    refine by_getf cn_45 fl_1_111 (by first | exact rfl | assumption) (by decide) ?_
    refine by_iconst ci_1 ?_
    simp (disch := first | exact Nat.ne_of_beq_eq_false rfl | exact rfl | omega) only [nI_add, xa_sub, xa_mul, pk_div, nm_mod, xa_shr, xa_and7, xa_and1, xa_and255, xa_by_and, nI_m1, Nat.add_sub_cancel, Nat.reducePow, Nat.zero_add, Nat.add_zero, Nat.reduceAdd, Nat.reduceMul, Nat.reduceSub, xf_same, xq_ff, xq_fo, xf_1, xf_2, xs_1, xs_2, xs_same, xq_so, xj_1, xj_2, xj_same, xq_jo, xq_sa1, xq_same, xq_other, upd_s, oI_n, oI_s, xf_15_4 F3, xf_15_5 F3, q1', q2', b3, z2, s4', eq_false (nI_ne2 (show i1 < 2147483648 by omega))]
    refine by_iadd ?_
    refine by_putf cn_45 fl_1_111 (by first | exact rfl | assumption) (by decide) nf_1_7 ft_1_7 (by first | rfl | assumption) (by first | rfl | assumption) ?_
    refine by_nil ?_
    simp (disch := first | exact Nat.ne_of_beq_eq_false rfl | exact rfl | omega) only [nI_add, xa_sub, xa_mul, pk_div, nm_mod, xa_shr, xa_and7, xa_and1, xa_and255, xa_by_and, nI_m1, Nat.add_sub_cancel, Nat.reducePow, Nat.zero_add, Nat.add_zero, Nat.reduceAdd, Nat.reduceMul, Nat.reduceSub, xf_same, xq_ff, xq_fo, xf_1, xf_2, xs_1, xs_2, xs_same, xq_so, xj_1, xj_2, xj_same, xq_jo, xq_sa1, xq_same, xq_other, upd_s, oI_n, oI_s, xv_0, xv_1, xv_2, xv_3, xm_p1, xm_p2, xq_fp, xq_fn, List.filter_nil, Nat.reduceBEq, Bool.not_true, Bool.not_false, Bool.and_true, Bool.and_false, Bool.false_and, Bool.true_and, if_true, if_false, Bool.false_eq_true, reduceIte, xc_i, xc_j, xc_r, xc_n, List.nil_append, List.cons_append, Option.toList_some, Option.toList_none, xf_15_4 F3, xf_15_5 F3, q1', q2', b3, z2, s4', eq_false (nI_ne2 (show i1 < 2147483648 by omega))]
    with_reducible refine xm_go_blk b_X1_resolve_257 k_X1_resolve_257 ?_
    refine by_iinc (by rw [ml_45]; decide) rfl ci_1 ?_
    refine by_goto 18 rfl ?_
    simp (disch := first | exact Nat.ne_of_beq_eq_false rfl | exact rfl | omega) only [nI_add, xa_sub, xa_mul, pk_div, nm_mod, xa_shr, xa_and7, xa_and1, xa_and255, xa_by_and, nI_m1, Nat.add_sub_cancel, Nat.reducePow, Nat.zero_add, Nat.add_zero, Nat.reduceAdd, Nat.reduceMul, Nat.reduceSub, xf_same, xq_ff, xq_fo, xf_1, xf_2, xs_1, xs_2, xs_same, xq_so, xj_1, xj_2, xj_same, xq_jo, xq_sa1, xq_same, xq_other, upd_s, oI_n, oI_s, xv_0, xv_1, xv_2, xv_3, xm_p1, xm_p2, xq_fp, xq_fn, List.filter_nil, Nat.reduceBEq, Bool.not_true, Bool.not_false, Bool.and_true, Bool.and_false, Bool.false_and, Bool.true_and, if_true, if_false, Bool.false_eq_true, reduceIte, xc_i, xc_j, xc_r, xc_n, List.nil_append, List.cons_append, Option.toList_some, Option.toList_none, xf_15_4 F3, xf_15_5 F3, q1', q2', b3, z2, s4', eq_false (nI_ne2 (show i1 < 2147483648 by omega))]
    exact xm_go_wk (by simp [Value.category]) (pushed _ rc' rr' (Or.inr rfl) y2 q2)
  obtain ⟨a2, ha2⟩ : ∃ a, fd (rt (r t)) = some a := by
    cases e : fd (rt (r t)) with
    | none => exact absurd e y2
    | some a => exact ⟨a, rfl⟩
  obtain ⟨j1, _, d2, d3, d4⟩ := (j7 _ rc').1 a2 ha2
  have k1' : h3.1 16 t = nI κ := by rw [f3.1 16 (by simp)]; exact k1
  with_reducible refine xm_go_blk b_X1_resolve_138 k_X1_resolve_138 ?_
  refine by_istore (by rw [ml_45]; decide) ?_
  refine by_aload_n rfl ?_
  refine by_getf cn_45 fl_1_26 (by first | exact rfl | assumption) (by decide) ?_
  refine by_iload rfl ?_
  simp (disch := first | exact Nat.ne_of_beq_eq_false rfl | exact rfl | omega) only [nI_add, xa_sub, xa_mul, pk_div, nm_mod, xa_shr, xa_and7, xa_and1, xa_and255, xa_by_and, nI_m1, Nat.add_sub_cancel, Nat.reducePow, Nat.zero_add, Nat.add_zero, Nat.reduceAdd, Nat.reduceMul, Nat.reduceSub, xf_same, xq_ff, xq_fo, xf_1, xf_2, xs_1, xs_2, xs_same, xq_so, xj_1, xj_2, xj_same, xq_jo, xq_sa1, xq_same, xq_other, upd_s, oI_n, oI_s, xf_15_4 F3, xf_15_0 F3, q1', q2', b3, d3, k1', eq_false (nI_ne2 (show i1 < 2147483648 by omega)), eq_false (nI_ne2 (show j1 < 2147483648 by omega))]
  first | refine by_iald (by first | exact rfl | assumption | exact ps_1 hpp | exact ps_2 hpp | exact ps_3 hpp | exact ps_4 hpp | exact ps_5 hpp | exact ps_6 hpp | exact ps_7 hpp | exact ps_8 hpp | exact ps_9 hpp | exact ps_10 hpp | exact ps_11 hpp | exact ps_15 hpp | exact ps_16 hpp | exact ps_17 hpp | exact ps_18 hpp | exact ps_19 hpp | exact ps_21 hpp | exact ps_22 hpp | exact ps_23 hpp | exact ps_24 hpp) ⟨by omega, by omega⟩ ?_ | refine by_tald rfl rfl ⟨by omega, by omega⟩ ?_
  refine by_bipush cb_m2 ?_
  refine by_ic_eq 164 rfl ?_
  simp (disch := first | exact Nat.ne_of_beq_eq_false rfl | exact rfl | omega) only [nI_add, xa_sub, xa_mul, pk_div, nm_mod, xa_shr, xa_and7, xa_and1, xa_and255, xa_by_and, nI_m1, Nat.add_sub_cancel, Nat.reducePow, Nat.zero_add, Nat.add_zero, Nat.reduceAdd, Nat.reduceMul, Nat.reduceSub, xf_same, xq_ff, xq_fo, xf_1, xf_2, xs_1, xs_2, xs_same, xq_so, xj_1, xj_2, xj_same, xq_jo, xq_sa1, xq_same, xq_other, upd_s, oI_n, oI_s, xv_0, xv_1, xv_2, xv_3, xm_p1, xm_p2, xq_fp, xq_fn, List.filter_nil, Nat.reduceBEq, Bool.not_true, Bool.not_false, Bool.and_true, Bool.and_false, Bool.false_and, Bool.true_and, if_true, if_false, Bool.false_eq_true, reduceIte, xc_i, xc_j, xc_r, xc_n, List.nil_append, List.cons_append, Option.toList_some, Option.toList_none, nI_ltJ, nI_leJ, nI_eqJ, nI_ltz, nI_gez, nI_gtz, nI_lez, nI_eqz, m1_ltz, m1_gez, true_imp_iff, false_imp_iff, true_and, and_true, ne_eq, not_false_eq_true, not_true_eq_false, Nat.reduceEqDiff, Nat.reduceLT, Nat.reduceLeDiff, xf_15_4 F3, xf_15_0 F3, q1', q2', b3, d3, k1', eq_false (nI_ne2 (show i1 < 2147483648 by omega)), eq_false (nI_ne2 (show j1 < 2147483648 by omega))]
  with_reducible refine xm_go_blk b_X1_resolve_152 k_X1_resolve_152 ?_
  refine by_aload_n rfl ?_
  refine by_getf cn_45 fl_1_26 (by first | exact rfl | assumption) (by decide) ?_
  refine by_iload rfl ?_
  simp (disch := first | exact Nat.ne_of_beq_eq_false rfl | exact rfl | omega) only [nI_add, xa_sub, xa_mul, pk_div, nm_mod, xa_shr, xa_and7, xa_and1, xa_and255, xa_by_and, nI_m1, Nat.add_sub_cancel, Nat.reducePow, Nat.zero_add, Nat.add_zero, Nat.reduceAdd, Nat.reduceMul, Nat.reduceSub, xf_same, xq_ff, xq_fo, xf_1, xf_2, xs_1, xs_2, xs_same, xq_so, xj_1, xj_2, xj_same, xq_jo, xq_sa1, xq_same, xq_other, upd_s, oI_n, oI_s, xf_15_4 F3, xf_15_0 F3, q1', q2', b3, d3, k1', eq_false (nI_ne2 (show i1 < 2147483648 by omega)), eq_false (nI_ne2 (show j1 < 2147483648 by omega))]
  first | refine by_iald (by first | exact rfl | assumption | exact ps_1 hpp | exact ps_2 hpp | exact ps_3 hpp | exact ps_4 hpp | exact ps_5 hpp | exact ps_6 hpp | exact ps_7 hpp | exact ps_8 hpp | exact ps_9 hpp | exact ps_10 hpp | exact ps_11 hpp | exact ps_15 hpp | exact ps_16 hpp | exact ps_17 hpp | exact ps_18 hpp | exact ps_19 hpp | exact ps_21 hpp | exact ps_22 hpp | exact ps_23 hpp | exact ps_24 hpp) ⟨by omega, by omega⟩ ?_ | refine by_tald rfl rfl ⟨by omega, by omega⟩ ?_
  refine by_bipush cb_m2 ?_
  refine by_ic_ne 166 rfl ?_
  simp (disch := first | exact Nat.ne_of_beq_eq_false rfl | exact rfl | omega) only [nI_add, xa_sub, xa_mul, pk_div, nm_mod, xa_shr, xa_and7, xa_and1, xa_and255, xa_by_and, nI_m1, Nat.add_sub_cancel, Nat.reducePow, Nat.zero_add, Nat.add_zero, Nat.reduceAdd, Nat.reduceMul, Nat.reduceSub, xf_same, xq_ff, xq_fo, xf_1, xf_2, xs_1, xs_2, xs_same, xq_so, xj_1, xj_2, xj_same, xq_jo, xq_sa1, xq_same, xq_other, upd_s, oI_n, oI_s, xv_0, xv_1, xv_2, xv_3, xm_p1, xm_p2, xq_fp, xq_fn, List.filter_nil, Nat.reduceBEq, Bool.not_true, Bool.not_false, Bool.and_true, Bool.and_false, Bool.false_and, Bool.true_and, if_true, if_false, Bool.false_eq_true, reduceIte, xc_i, xc_j, xc_r, xc_n, List.nil_append, List.cons_append, Option.toList_some, Option.toList_none, nI_ltJ, nI_leJ, nI_eqJ, nI_ltz, nI_gez, nI_gtz, nI_lez, nI_eqz, m1_ltz, m1_gez, true_imp_iff, false_imp_iff, true_and, and_true, ne_eq, not_false_eq_true, not_true_eq_false, Nat.reduceEqDiff, Nat.reduceLT, Nat.reduceLeDiff, xf_15_4 F3, xf_15_0 F3, q1', q2', b3, d3, k1', eq_false (nI_ne2 (show i1 < 2147483648 by omega)), eq_false (nI_ne2 (show j1 < 2147483648 by omega))]
  with_reducible refine xm_go_blk b_X1_resolve_166 k_X1_resolve_166 ?_
  refine by_aload_n rfl ?_
  refine by_getf cn_45 fl_1_26 (by first | exact rfl | assumption) (by decide) ?_
  refine by_iload rfl ?_
  simp (disch := first | exact Nat.ne_of_beq_eq_false rfl | exact rfl | omega) only [nI_add, xa_sub, xa_mul, pk_div, nm_mod, xa_shr, xa_and7, xa_and1, xa_and255, xa_by_and, nI_m1, Nat.add_sub_cancel, Nat.reducePow, Nat.zero_add, Nat.add_zero, Nat.reduceAdd, Nat.reduceMul, Nat.reduceSub, xf_same, xq_ff, xq_fo, xf_1, xf_2, xs_1, xs_2, xs_same, xq_so, xj_1, xj_2, xj_same, xq_jo, xq_sa1, xq_same, xq_other, upd_s, oI_n, oI_s, xf_15_4 F3, xf_15_0 F3, q1', q2', b3, d3, k1', eq_false (nI_ne2 (show i1 < 2147483648 by omega)), eq_false (nI_ne2 (show j1 < 2147483648 by omega))]
  first | refine by_iald (by first | exact rfl | assumption | exact ps_1 hpp | exact ps_2 hpp | exact ps_3 hpp | exact ps_4 hpp | exact ps_5 hpp | exact ps_6 hpp | exact ps_7 hpp | exact ps_8 hpp | exact ps_9 hpp | exact ps_10 hpp | exact ps_11 hpp | exact ps_15 hpp | exact ps_16 hpp | exact ps_17 hpp | exact ps_18 hpp | exact ps_19 hpp | exact ps_21 hpp | exact ps_22 hpp | exact ps_23 hpp | exact ps_24 hpp) ⟨by omega, by omega⟩ ?_ | refine by_tald rfl rfl ⟨by omega, by omega⟩ ?_
  refine by_if_lt 221 rfl ?_
  simp (disch := first | exact Nat.ne_of_beq_eq_false rfl | exact rfl | omega) only [nI_add, xa_sub, xa_mul, pk_div, nm_mod, xa_shr, xa_and7, xa_and1, xa_and255, xa_by_and, nI_m1, Nat.add_sub_cancel, Nat.reducePow, Nat.zero_add, Nat.add_zero, Nat.reduceAdd, Nat.reduceMul, Nat.reduceSub, xf_same, xq_ff, xq_fo, xf_1, xf_2, xs_1, xs_2, xs_same, xq_so, xj_1, xj_2, xj_same, xq_jo, xq_sa1, xq_same, xq_other, upd_s, oI_n, oI_s, xv_0, xv_1, xv_2, xv_3, xm_p1, xm_p2, xq_fp, xq_fn, List.filter_nil, Nat.reduceBEq, Bool.not_true, Bool.not_false, Bool.and_true, Bool.and_false, Bool.false_and, Bool.true_and, if_true, if_false, Bool.false_eq_true, reduceIte, xc_i, xc_j, xc_r, xc_n, List.nil_append, List.cons_append, Option.toList_some, Option.toList_none, nI_ltJ, nI_leJ, nI_eqJ, nI_ltz, nI_gez, nI_gtz, nI_lez, nI_eqz, m1_ltz, m1_gez, true_imp_iff, false_imp_iff, true_and, and_true, ne_eq, not_false_eq_true, not_true_eq_false, Nat.reduceEqDiff, Nat.reduceLT, Nat.reduceLeDiff, xf_15_4 F3, xf_15_0 F3, q1', q2', b3, d3, k1', eq_false (nI_ne2 (show i1 < 2147483648 by omega)), eq_false (nI_ne2 (show j1 < 2147483648 by omega))]
  with_reducible refine xm_go_blk b_X1_resolve_176 k_X1_resolve_176 ?_
  refine by_aload_n rfl ?_
  refine by_getf cn_45 fl_1_26 (by first | exact rfl | assumption) (by decide) ?_
  refine by_iload rfl ?_
  simp (disch := first | exact Nat.ne_of_beq_eq_false rfl | exact rfl | omega) only [nI_add, xa_sub, xa_mul, pk_div, nm_mod, xa_shr, xa_and7, xa_and1, xa_and255, xa_by_and, nI_m1, Nat.add_sub_cancel, Nat.reducePow, Nat.zero_add, Nat.add_zero, Nat.reduceAdd, Nat.reduceMul, Nat.reduceSub, xf_same, xq_ff, xq_fo, xf_1, xf_2, xs_1, xs_2, xs_same, xq_so, xj_1, xj_2, xj_same, xq_jo, xq_sa1, xq_same, xq_other, upd_s, oI_n, oI_s, xf_15_4 F3, xf_15_0 F3, q1', q2', b3, d3, k1', eq_false (nI_ne2 (show i1 < 2147483648 by omega)), eq_false (nI_ne2 (show j1 < 2147483648 by omega))]
  first | refine by_iald (by first | exact rfl | assumption | exact ps_1 hpp | exact ps_2 hpp | exact ps_3 hpp | exact ps_4 hpp | exact ps_5 hpp | exact ps_6 hpp | exact ps_7 hpp | exact ps_8 hpp | exact ps_9 hpp | exact ps_10 hpp | exact ps_11 hpp | exact ps_15 hpp | exact ps_16 hpp | exact ps_17 hpp | exact ps_18 hpp | exact ps_19 hpp | exact ps_21 hpp | exact ps_22 hpp | exact ps_23 hpp | exact ps_24 hpp) ⟨by omega, by omega⟩ ?_ | refine by_tald rfl rfl ⟨by omega, by omega⟩ ?_
  refine by_if_lt 221 rfl ?_
  simp (disch := first | exact Nat.ne_of_beq_eq_false rfl | exact rfl | omega) only [nI_add, xa_sub, xa_mul, pk_div, nm_mod, xa_shr, xa_and7, xa_and1, xa_and255, xa_by_and, nI_m1, Nat.add_sub_cancel, Nat.reducePow, Nat.zero_add, Nat.add_zero, Nat.reduceAdd, Nat.reduceMul, Nat.reduceSub, xf_same, xq_ff, xq_fo, xf_1, xf_2, xs_1, xs_2, xs_same, xq_so, xj_1, xj_2, xj_same, xq_jo, xq_sa1, xq_same, xq_other, upd_s, oI_n, oI_s, xv_0, xv_1, xv_2, xv_3, xm_p1, xm_p2, xq_fp, xq_fn, List.filter_nil, Nat.reduceBEq, Bool.not_true, Bool.not_false, Bool.and_true, Bool.and_false, Bool.false_and, Bool.true_and, if_true, if_false, Bool.false_eq_true, reduceIte, xc_i, xc_j, xc_r, xc_n, List.nil_append, List.cons_append, Option.toList_some, Option.toList_none, nI_ltJ, nI_leJ, nI_eqJ, nI_ltz, nI_gez, nI_gtz, nI_lez, nI_eqz, m1_ltz, m1_gez, true_imp_iff, false_imp_iff, true_and, and_true, ne_eq, not_false_eq_true, not_true_eq_false, Nat.reduceEqDiff, Nat.reduceLT, Nat.reduceLeDiff, xf_15_4 F3, xf_15_0 F3, q1', q2', b3, d3, k1', eq_false (nI_ne2 (show i1 < 2147483648 by omega)), eq_false (nI_ne2 (show j1 < 2147483648 by omega))]
  with_reducible refine xm_go_blk b_X1_resolve_186 k_X1_resolve_186 ?_
  refine by_aload_n rfl ?_
  refine by_getf cn_45 fl_1_26 (by first | exact rfl | assumption) (by decide) ?_
  refine by_iload rfl ?_
  refine by_aload_n rfl ?_
  refine by_aload_n rfl ?_
  refine by_getf cn_45 fl_1_13 (by first | exact rfl | assumption) (by decide) ?_
  refine by_iload rfl ?_
  simp (disch := first | exact Nat.ne_of_beq_eq_false rfl | exact rfl | omega) only [nI_add, xa_sub, xa_mul, pk_div, nm_mod, xa_shr, xa_and7, xa_and1, xa_and255, xa_by_and, nI_m1, Nat.add_sub_cancel, Nat.reducePow, Nat.zero_add, Nat.add_zero, Nat.reduceAdd, Nat.reduceMul, Nat.reduceSub, xf_same, xq_ff, xq_fo, xf_1, xf_2, xs_1, xs_2, xs_same, xq_so, xj_1, xj_2, xj_same, xq_jo, xq_sa1, xq_same, xq_other, upd_s, oI_n, oI_s, xf_15_4 F3, xf_15_0 F3, q1', q2', b3, d3, k1', eq_false (nI_ne2 (show i1 < 2147483648 by omega)), eq_false (nI_ne2 (show j1 < 2147483648 by omega))]
  first | refine by_iald (by first | exact rfl | assumption | exact ps_1 hpp | exact ps_2 hpp | exact ps_3 hpp | exact ps_4 hpp | exact ps_5 hpp | exact ps_6 hpp | exact ps_7 hpp | exact ps_8 hpp | exact ps_9 hpp | exact ps_10 hpp | exact ps_11 hpp | exact ps_15 hpp | exact ps_16 hpp | exact ps_17 hpp | exact ps_18 hpp | exact ps_19 hpp | exact ps_21 hpp | exact ps_22 hpp | exact ps_23 hpp | exact ps_24 hpp) ⟨by omega, by omega⟩ ?_ | refine by_tald rfl rfl ⟨by omega, by omega⟩ ?_
  refine by_aload_n rfl ?_
  refine by_getf cn_45 fl_1_26 (by first | exact rfl | assumption) (by decide) ?_
  refine by_iload rfl ?_
  simp (disch := first | exact Nat.ne_of_beq_eq_false rfl | exact rfl | omega) only [nI_add, xa_sub, xa_mul, pk_div, nm_mod, xa_shr, xa_and7, xa_and1, xa_and255, xa_by_and, nI_m1, Nat.add_sub_cancel, Nat.reducePow, Nat.zero_add, Nat.add_zero, Nat.reduceAdd, Nat.reduceMul, Nat.reduceSub, xf_same, xq_ff, xq_fo, xf_1, xf_2, xs_1, xs_2, xs_same, xq_so, xj_1, xj_2, xj_same, xq_jo, xq_sa1, xq_same, xq_other, upd_s, oI_n, oI_s, xf_15_4 F3, xf_15_0 F3, q1', q2', b3, d3, k1', eq_false (nI_ne2 (show i1 < 2147483648 by omega)), eq_false (nI_ne2 (show j1 < 2147483648 by omega))]
  first | refine by_iald (by first | exact rfl | assumption | exact ps_1 hpp | exact ps_2 hpp | exact ps_3 hpp | exact ps_4 hpp | exact ps_5 hpp | exact ps_6 hpp | exact ps_7 hpp | exact ps_8 hpp | exact ps_9 hpp | exact ps_10 hpp | exact ps_11 hpp | exact ps_15 hpp | exact ps_16 hpp | exact ps_17 hpp | exact ps_18 hpp | exact ps_19 hpp | exact ps_21 hpp | exact ps_22 hpp | exact ps_23 hpp | exact ps_24 hpp) ⟨by omega, by omega⟩ ?_ | refine by_tald rfl rfl ⟨by omega, by omega⟩ ?_
  refine by_aload_n rfl ?_
  refine by_getf cn_45 fl_1_26 (by first | exact rfl | assumption) (by decide) ?_
  refine by_iload rfl ?_
  simp (disch := first | exact Nat.ne_of_beq_eq_false rfl | exact rfl | omega) only [nI_add, xa_sub, xa_mul, pk_div, nm_mod, xa_shr, xa_and7, xa_and1, xa_and255, xa_by_and, nI_m1, Nat.add_sub_cancel, Nat.reducePow, Nat.zero_add, Nat.add_zero, Nat.reduceAdd, Nat.reduceMul, Nat.reduceSub, xf_same, xq_ff, xq_fo, xf_1, xf_2, xs_1, xs_2, xs_same, xq_so, xj_1, xj_2, xj_same, xq_jo, xq_sa1, xq_same, xq_other, upd_s, oI_n, oI_s, xf_15_4 F3, xf_15_0 F3, q1', q2', b3, d3, k1', eq_false (nI_ne2 (show i1 < 2147483648 by omega)), eq_false (nI_ne2 (show j1 < 2147483648 by omega))]
  first | refine by_iald (by first | exact rfl | assumption | exact ps_1 hpp | exact ps_2 hpp | exact ps_3 hpp | exact ps_4 hpp | exact ps_5 hpp | exact ps_6 hpp | exact ps_7 hpp | exact ps_8 hpp | exact ps_9 hpp | exact ps_10 hpp | exact ps_11 hpp | exact ps_15 hpp | exact ps_16 hpp | exact ps_17 hpp | exact ps_18 hpp | exact ps_19 hpp | exact ps_21 hpp | exact ps_22 hpp | exact ps_23 hpp | exact ps_24 hpp) ⟨by omega, by omega⟩ ?_ | refine by_tald rfl rfl ⟨by omega, by omega⟩ ?_
  simp (disch := first | exact Nat.ne_of_beq_eq_false rfl | exact rfl | omega) only [nI_add, xa_sub, xa_mul, pk_div, nm_mod, xa_shr, xa_and7, xa_and1, xa_and255, xa_by_and, nI_m1, Nat.add_sub_cancel, Nat.reducePow, Nat.zero_add, Nat.add_zero, Nat.reduceAdd, Nat.reduceMul, Nat.reduceSub, xf_same, xq_ff, xq_fo, xf_1, xf_2, xs_1, xs_2, xs_same, xq_so, xj_1, xj_2, xj_same, xq_jo, xq_sa1, xq_same, xq_other, upd_s, oI_n, oI_s, xv_0, xv_1, xv_2, xv_3, xm_p1, xm_p2, xq_fp, xq_fn, List.filter_nil, Nat.reduceBEq, Bool.not_true, Bool.not_false, Bool.and_true, Bool.and_false, Bool.false_and, Bool.true_and, if_true, if_false, Bool.false_eq_true, reduceIte, xc_i, xc_j, xc_r, xc_n, List.nil_append, List.cons_append, Option.toList_some, Option.toList_none, xf_15_4 F3, xf_15_0 F3, q1', q2', b3, d3, k1', eq_false (nI_ne2 (show i1 < 2147483648 by omega)), eq_false (nI_ne2 (show j1 < 2147483648 by omega))]
  refine by_inv3 cn_45 lk_1_119 (by rw [xe_cnt]; decide) is_164 np_164 cn_164 (by first | exact rfl | assumption | exact ps_14 hpp) (Nat.le_of_ble_eq_true rfl) ?_
  refine sp_tadd (k := κ) (l := i1) (r := j1) F3 hpp T3 (by omega) ⟨by omega, fun z => by omega, fun _ => ⟨b2, d2⟩⟩ (fun h' cn' tr' K' L' R' i hf hT' c1 c2 c3 c4 c5 => ?_)
  have hf2 : Fr [20, pp + 15, pp + 16, pp + 17, pp + 18, pp + 19, pp + 20, pp + 21, pp + 22, pp + 23] [(pp + 14, 0)] h3 (xm_si h' 20 t (nI i)) := Fr_si (Fr_mo hf (by simp [taR]) (fun _ z => z)) (by simp)
  have hf3 : Fr (rvR pp) (rvT pp) h (xm_si h' 20 t (nI i)) := Fr_tr fR hf2 (by simp [rvR]) (by simp [rvT])
  have e20' : h'.1 20 = h3.1 20 := hf.1 20 (by simp [taR] <;> omega)
  with_reducible refine xm_go_blk b_X1_resolve_217 k_X1_resolve_217 ?_
  refine by_iast (by first | exact rfl | assumption | exact ps_1 hpp | exact ps_2 hpp | exact ps_3 hpp | exact ps_4 hpp | exact ps_5 hpp | exact ps_6 hpp | exact ps_7 hpp | exact ps_8 hpp | exact ps_9 hpp | exact ps_10 hpp | exact ps_11 hpp | exact ps_15 hpp | exact ps_16 hpp | exact ps_17 hpp | exact ps_18 hpp | exact ps_19 hpp | exact ps_21 hpp | exact ps_22 hpp | exact ps_23 hpp | exact ps_24 hpp) ⟨by omega, by omega⟩ ?_
  refine by_goto 257 rfl ?_
  with_reducible refine xm_go_blk b_X1_resolve_257 k_X1_resolve_257 ?_
  refine by_iinc (by rw [ml_45]; decide) rfl ci_1 ?_
  refine by_goto 18 rfl ?_
  simp (disch := first | exact Nat.ne_of_beq_eq_false rfl | exact rfl | omega) only [nI_add, xa_sub, xa_mul, pk_div, nm_mod, xa_shr, xa_and7, xa_and1, xa_and255, xa_by_and, nI_m1, Nat.add_sub_cancel, Nat.reducePow, Nat.zero_add, Nat.add_zero, Nat.reduceAdd, Nat.reduceMul, Nat.reduceSub, xf_same, xq_ff, xq_fo, xf_1, xf_2, xs_1, xs_2, xs_same, xq_so, xj_1, xj_2, xj_same, xq_jo, xq_sa1, xq_same, xq_other, upd_s, oI_n, oI_s, xv_0, xv_1, xv_2, xv_3, xm_p1, xm_p2, xq_fp, xq_fn, List.filter_nil, Nat.reduceBEq, Bool.not_true, Bool.not_false, Bool.and_true, Bool.and_false, Bool.false_and, Bool.true_and, if_true, if_false, Bool.false_eq_true, reduceIte, xc_i, xc_j, xc_r, xc_n, List.nil_append, List.cons_append, Option.toList_some, Option.toList_none]
  refine xm_go_wk (by simp [Value.category]) (hset (xm_si h' 20 t (nI i)) cn' tr' K' L' R' (tsv tr κ i1 j1) hf3 ⟨Fr_XF s1 hf3 (rv_fin hpp), ⟨⟨u'', dd, m, upA_fr w1 hf2 (by simp <;> omega), w2, u3⟩, fnA_fr A3 hf2 (by simp <;> omega) (by simp <;> omega) (by simp <;> omega), tyT_fr hT' (Fr_si (Fr_rf (S := [20]) (T := [])) (by simp)) (by simp) (by simp [taR] <;> omega), ?_, rs_fd_up i5 tc tr0 hn (fun z => by omega) (fun z => ⟨a1, a2, ha1, ha2, ?_⟩) (fun z => ⟨a1, a2, ha1, ha2, ?_⟩), rs_q_up i6, ?_⟩, skA_fr s3' hf2 (by simp <;> omega), ?_⟩ (rvX_up c1 c3 hn))
  · rw [rs_m_set]
    simp only [rs_b, rs_up_same, Option.isSome_some, if_true, List.length_cons]
    omega
  · have : κ = 1 := by omega
    subst this
    rw [← b4, ← d4]; rfl
  · have : κ = 2 := by omega
    subst this
    rw [← b4, ← d4]; rfl
  · rw [xs_same, e20']
    exact rs_F_set j7 hn (Nat.zero_le _) c4 c1 c3 c5
  · show h'.2.2 15 7 = _
    rw [hf.2.2 _ _ (by simp <;> omega)]
    simpa using s4'
theorem sp_resolve {xx : Nat} (hpp : pp = 52 ∨ pp = 77) (hc : c ≤ 14026) (hF : XF h) (hI : rvI h pp c k l r rt fd [] cn tr K L R) (hx : xx < c)
    (hT : ∀ h' fd' cn' tr' K' L' R', Fr (rvR pp) (rvT pp) h h' → rvI h' pp c k l r rt fd' [] cn' tr' K' L' R' → rvX cn cn' tr tr' fd fd' → fd' (rt xx) ≠ none → post (some (.int (nI 1))) h')
    (hB : ∀ h', Fr (rvR pp) (rvT pp) h h' → (∀ V, ty_all c k l r V → ty_lnk c rt V → False) → post (some (.int (nI 0))) h') : xm_T (XE sc) (d + 3) 45 [.ref 15, .int (nI xx), .ref (pp + 14)] h post := by
  have key : ∀ (f turn : Nat) (q : List Nat) (fd' : Nat → Option Ty) (cn' : Nat) (tr' : Nat → Ty) (K' L' R' : Nat → Nat) (h' : xm_H), Fr (rvR pp) (rvT pp) h h' → rvS h' pp c k l r rt fd' q cn' tr' K' L' R' → 3 * rs_m fd' q c + 2 * q.length ≤ f + rs_b fd' q → turn + f ≤ 56000 → rvX cn cn' tr tr' fd fd' → (rt xx ∈ q ∨ fd' (rt xx) ≠ none) → xm_go (XE sc) (xm_T (XE sc) (d + 2)) 45 post 18 (rvL (nI xx) pp turn) [] h' := by
    have fin : ∀ (turn : Nat) (fd' : Nat → Option Ty) (cn' : Nat) (tr' : Nat → Ty) (K' L' R' : Nat → Nat) (h' : xm_H), Fr (rvR pp) (rvT pp) h h' → rvS h' pp c k l r rt fd' [] cn' tr' K' L' R' → turn ≤ 56000 → rvX cn cn' tr tr' fd fd' → (rt xx ∈ ([] : List Nat) ∨ fd' (rt xx) ≠ none) → xm_go (XE sc) (xm_T (XE sc) (d + 2)) 45 post 18 (rvL (nI xx) pp turn) [] h' := by
      intro turn fd' cn' tr' K' L' R' h' hf hS ht hX hr
      have hr' : fd' (rt xx) ≠ none := by
        rcases hr with z | z
        · cases z
        · exact z
      have hS0 := hS
      obtain ⟨s1, s2, s3, s4⟩ := hS0
      have s4 : h'.2.2 15 7 = .int (nI 0) := s4
      unfold rvL
      with_reducible refine xm_go_blk b_X1_resolve_18 k_X1_resolve_18 ?_
      refine by_iload_n rfl ?_
      refine by_ldc (x := nI 56128) cn_45 ki_1_118 (by decide) ?_
      refine by_ic_ge 263 rfl ?_
      simp (disch := first | exact Nat.ne_of_beq_eq_false rfl | exact rfl | omega) only [nI_add, xa_sub, xa_mul, pk_div, nm_mod, xa_shr, xa_and7, xa_and1, xa_and255, xa_by_and, nI_m1, Nat.add_sub_cancel, Nat.reducePow, Nat.zero_add, Nat.add_zero, Nat.reduceAdd, Nat.reduceMul, Nat.reduceSub, xf_same, xq_ff, xq_fo, xf_1, xf_2, xs_1, xs_2, xs_same, xq_so, xj_1, xj_2, xj_same, xq_jo, xq_sa1, xq_same, xq_other, upd_s, oI_n, oI_s, xv_0, xv_1, xv_2, xv_3, xm_p1, xm_p2, xq_fp, xq_fn, List.filter_nil, Nat.reduceBEq, Bool.not_true, Bool.not_false, Bool.and_true, Bool.and_false, Bool.false_and, Bool.true_and, if_true, if_false, Bool.false_eq_true, reduceIte, xc_i, xc_j, xc_r, xc_n, List.nil_append, List.cons_append, Option.toList_some, Option.toList_none, nI_ltJ, nI_leJ, nI_eqJ, nI_ltz, nI_gez, nI_gtz, nI_lez, nI_eqz, m1_ltz, m1_gez, true_imp_iff, false_imp_iff, true_and, and_true, ne_eq, not_false_eq_true, not_true_eq_false, Nat.reduceEqDiff, Nat.reduceLT, Nat.reduceLeDiff, s4]
      refine ⟨fun c => absurd c (by omega), fun c18 => ?_⟩
      with_reducible refine xm_go_blk b_X1_resolve_24 k_X1_resolve_24 ?_
      refine by_aload_n rfl ?_
      refine by_getf cn_45 fl_1_111 (by first | exact rfl | assumption) (by decide) ?_
      simp (disch := first | exact Nat.ne_of_beq_eq_false rfl | exact rfl | omega) only [nI_add, xa_sub, xa_mul, pk_div, nm_mod, xa_shr, xa_and7, xa_and1, xa_and255, xa_by_and, nI_m1, Nat.add_sub_cancel, Nat.reducePow, Nat.zero_add, Nat.add_zero, Nat.reduceAdd, Nat.reduceMul, Nat.reduceSub, xf_same, xq_ff, xq_fo, xf_1, xf_2, xs_1, xs_2, xs_same, xq_so, xj_1, xj_2, xj_same, xq_jo, xq_sa1, xq_same, xq_other, upd_s, oI_n, oI_s, s4]
      refine by_if_le 263 rfl ?_
      simp (disch := first | exact Nat.ne_of_beq_eq_false rfl | exact rfl | omega) only [nI_add, xa_sub, xa_mul, pk_div, nm_mod, xa_shr, xa_and7, xa_and1, xa_and255, xa_by_and, nI_m1, Nat.add_sub_cancel, Nat.reducePow, Nat.zero_add, Nat.add_zero, Nat.reduceAdd, Nat.reduceMul, Nat.reduceSub, xf_same, xq_ff, xq_fo, xf_1, xf_2, xs_1, xs_2, xs_same, xq_so, xj_1, xj_2, xj_same, xq_jo, xq_sa1, xq_same, xq_other, upd_s, oI_n, oI_s, xv_0, xv_1, xv_2, xv_3, xm_p1, xm_p2, xq_fp, xq_fn, List.filter_nil, Nat.reduceBEq, Bool.not_true, Bool.not_false, Bool.and_true, Bool.and_false, Bool.false_and, Bool.true_and, if_true, if_false, Bool.false_eq_true, reduceIte, xc_i, xc_j, xc_r, xc_n, List.nil_append, List.cons_append, Option.toList_some, Option.toList_none, nI_ltJ, nI_leJ, nI_eqJ, nI_ltz, nI_gez, nI_gtz, nI_lez, nI_eqz, m1_ltz, m1_gez, true_imp_iff, false_imp_iff, true_and, and_true, ne_eq, not_false_eq_true, not_true_eq_false, Nat.reduceEqDiff, Nat.reduceLT, Nat.reduceLeDiff, s4]
      with_reducible refine xm_go_blk b_X1_resolve_263 k_X1_resolve_263 ?_
      refine by_iconst ci_1 ?_
      refine by_iret ry_45 (by first | rfl | assumption) ?_
      exact hT h' fd' cn' tr' K' L' R' hf s2 hX hr'
    intro f
    induction f with
    | zero =>
      intro turn q fd' cn' tr' K' L' R' h' hf hS hm ht hX hr
      cases q with
      | nil => exact fin turn fd' cn' tr' K' L' R' h' hf hS (by omega) hX hr
      | cons t q =>
        exfalso
        have : rs_b fd' (t :: q) ≤ 1 := rs_b1
        simp only [List.length_cons] at hm
        omega
    | succ f ih =>
      intro turn q fd' cn' tr' K' L' R' h' hf hS hm ht hX hr
      cases q with
      | nil => exact fin turn fd' cn' tr' K' L' R' h' hf hS (by omega) hX hr
      | cons t q =>
        simp only [List.length_cons] at hm
        by_cases hn : fd' t = none
        · have hb : rs_b fd' (t :: q) = 0 := by simp [rs_b, hn]
          rw [hb] at hm
          by_cases hk : k t ≤ 1
          · refine rv_b hpp hc (by omega) hS hn hk (fun h2 cn2 tr2 K2 L2 R2 hf2 hS2 hX2 => ?_)
            refine ih (turn + 1) _ _ _ _ _ _ _ _ (Fr_tr hf hf2 (fun _ z => z) (fun _ z => z)) hS2 ?_ (by omega) (rvX_tr hX hX2) ?_
            · rw [rs_m_set]
              simp only [rs_b, rs_up_same, Option.isSome_some, if_true, List.length_cons]
              omega
            · rcases hr with z | z
              · exact Or.inl z
              · right
                cases e : fd' (rt xx) with
                | none => exact absurd e z
                | some a => rw [rs_up_of hn e]; simp
          · refine rv_c hpp hc (by omega) hS hn (by omega) (fun h2 cn2 tr2 K2 L2 R2 a hf2 hS2 hX2 => ?_) (fun h2 u hf2 hS2 hu hu1 huc => ?_) (fun h2 hf2 hb => hB h2 (Fr_tr hf hf2 (fun _ z => z) (fun _ z => z)) hb)
            · refine ih (turn + 1) _ _ _ _ _ _ _ _ (Fr_tr hf hf2 (fun _ z => z) (fun _ z => z)) hS2 ?_ (by omega) (rvX_tr hX hX2) ?_
              · rw [rs_m_set]
                simp only [rs_b, rs_up_same, Option.isSome_some, if_true, List.length_cons]
                omega
              · rcases hr with z | z
                · exact Or.inl z
                · right
                  cases e : fd' (rt xx) with
                  | none => exact absurd e z
                  | some a => rw [rs_up_of hn e]; simp
            · refine ih (turn + 1) _ _ _ _ _ _ _ _ (Fr_tr hf hf2 (fun _ z => z) (fun _ z => z)) hS2 ?_ (by omega) hX ?_
              · have := rs_m_push (c := c) hu hu1 huc
                have hb2 : rs_b fd' (u :: t :: q) = 0 := by simp [rs_b, hu]
                rw [hb2]
                simp only [List.length_cons]
                omega
              · rcases hr with z | z
                · exact Or.inl (List.mem_cons_of_mem _ z)
                · exact Or.inr z
        · have hb : rs_b fd' (t :: q) ≤ 1 := rs_b1
          refine rv_a hpp hc (by omega) hS hn (fun h2 hf2 hS2 => ?_)
          refine ih (turn + 1) _ _ _ _ _ _ _ _ (Fr_tr hf hf2 (fun _ z => z) (fun _ z => z)) hS2 ?_ (by omega) hX ?_
          · rw [rs_m_pop hn]
            omega
          · rcases hr with z | z
            · rcases List.mem_cons.mp z with z | z
              · right; rw [z]; exact hn
              · exact Or.inl z
            · exact Or.inr z
  obtain ⟨⟨u, dd, m, u1, u2, u3⟩, i2, i3, i4, i5, i6, i7⟩ := hI
  have hG := uf_G (k := k) (l := l) (r := r) u2 (fun t ht => ⟨(i2 t ht).2.1, fun e => ((i2 t ht).2.2 e).2.2⟩)
  obtain ⟨xc, xr⟩ := hG.1 _ hx
  refine xq_in rfl ?_
  simp only [xq_a0, xq_aI, xq_aJ, xq_aR, Nat.reduceAdd]
  with_reducible refine xm_go_blk b_X1_resolve_0 k_X1_resolve_0 ?_
  refine by_aload_n rfl ?_
  refine by_getf cn_45 fl_1_29 (by first | exact rfl | assumption) (by decide) ?_
  refine by_iconst ci_0 ?_
  refine by_aload_n rfl ?_
  refine by_iload_n rfl ?_
  simp (disch := first | exact Nat.ne_of_beq_eq_false rfl | exact rfl | omega) only [nI_add, xa_sub, xa_mul, pk_div, nm_mod, xa_shr, xa_and7, xa_and1, xa_and255, xa_by_and, nI_m1, Nat.add_sub_cancel, Nat.reducePow, Nat.zero_add, Nat.add_zero, Nat.reduceAdd, Nat.reduceMul, Nat.reduceSub, xf_same, xq_ff, xq_fo, xf_1, xf_2, xs_1, xs_2, xs_same, xq_so, xj_1, xj_2, xj_same, xq_jo, xq_sa1, xq_same, xq_other, upd_s, oI_n, oI_s, xv_0, xv_1, xv_2, xv_3, xm_p1, xm_p2, xq_fp, xq_fn, List.filter_nil, Nat.reduceBEq, Bool.not_true, Bool.not_false, Bool.and_true, Bool.and_false, Bool.false_and, Bool.true_and, if_true, if_false, Bool.false_eq_true, reduceIte, xc_i, xc_j, xc_r, xc_n, List.nil_append, List.cons_append, Option.toList_some, Option.toList_none, xf_15_5 hF]
  refine by_inv1 cn_45 lk_1_66 (by rw [xe_cnt]; decide) is_41 np_41 cn_41 (by first | exact rfl | assumption) (Nat.le_of_ble_eq_true rfl) ?_
  refine sp_xfind hF (by omega) u3 hx u1 u2 (fun h1 u' g1 v1 v2 => ?_)
  with_reducible refine xm_go_blk b_X1_resolve_10 k_X1_resolve_10 ?_
  refine by_iast (by first | exact rfl | assumption | exact ps_1 hpp | exact ps_2 hpp | exact ps_3 hpp | exact ps_4 hpp | exact ps_5 hpp | exact ps_6 hpp | exact ps_7 hpp | exact ps_8 hpp | exact ps_9 hpp | exact ps_10 hpp | exact ps_11 hpp | exact ps_15 hpp | exact ps_16 hpp | exact ps_17 hpp | exact ps_18 hpp | exact ps_19 hpp | exact ps_21 hpp | exact ps_22 hpp | exact ps_23 hpp | exact ps_24 hpp) ⟨by omega, by omega⟩ ?_
  refine by_aload_n rfl ?_
  refine by_iconst ci_1 ?_
  refine by_putf cn_45 fl_1_111 (by first | exact rfl | assumption) (by decide) nf_1_7 ft_1_7 (by first | rfl | assumption) (by first | rfl | assumption) ?_
  refine by_iconst ci_0 ?_
  refine by_istore_n (by rw [ml_45]; decide) ?_
  refine by_nil ?_
  simp (disch := first | exact Nat.ne_of_beq_eq_false rfl | exact rfl | omega) only [nI_add, xa_sub, xa_mul, pk_div, nm_mod, xa_shr, xa_and7, xa_and1, xa_and255, xa_by_and, nI_m1, Nat.add_sub_cancel, Nat.reducePow, Nat.zero_add, Nat.add_zero, Nat.reduceAdd, Nat.reduceMul, Nat.reduceSub, xf_same, xq_ff, xq_fo, xf_1, xf_2, xs_1, xs_2, xs_same, xq_so, xj_1, xj_2, xj_same, xq_jo, xq_sa1, xq_same, xq_other, upd_s, oI_n, oI_s, xv_0, xv_1, xv_2, xv_3, xm_p1, xm_p2, xq_fp, xq_fn, List.filter_nil, Nat.reduceBEq, Bool.not_true, Bool.not_false, Bool.and_true, Bool.and_false, Bool.false_and, Bool.true_and, if_true, if_false, Bool.false_eq_true, reduceIte, xc_i, xc_j, xc_r, xc_n, List.nil_append, List.cons_append, Option.toList_some, Option.toList_none]
  have f1 : Fr [19, 21] [(15, 7)] h (xm_sf (xm_si h1 21 0 (nI (rt xx))) 15 7 (.int (nI 1))) := Fr_sf (Fr_si (Fr_mo g1 (by simp) (by simp)) (by simp)) (by simp)
  have f2 : Fr [21] [(15, 7)] h1 (xm_sf (xm_si h1 21 0 (nI (rt xx))) 15 7 (.int (nI 1))) := Fr_sf (Fr_si Fr_rf (by simp)) (by simp)
  have hkey := key 55000 0 [rt xx] fd cn tr K L R (xm_sf (xm_si h1 21 0 (nI (rt xx))) 15 7 (.int (nI 1))) (Fr_mo f1 (by simp [rvR]) (by simp [rvT])) ⟨Fr_XF hF f1 (by decide +kernel), ⟨⟨u', dd, m, upA_fr v1 f2 (by simp), v2, u3⟩, fnA_fr i2 f1 (by simp) (by simp) (by simp), tyT_fr i3 f1 (by simp <;> omega) (by simp [taR] <;> omega), ?_, i5, ⟨by simp, by simp; exact ⟨xc, xr⟩, ⟨by simp, trivial⟩, by simp⟩, ?_⟩, ⟨by show (xm_si h1 21 0 (nI (rt xx))).1 21 0 = _; rw [xs_same, upd_s], trivial⟩, by simp only [xf_same]; rfl⟩ ?_ (by omega) rvX_rf (Or.inl (by simp))
  · unfold rvL at hkey
    exact xm_go_wk (by simp [Value.category]) hkey
  · by_cases e : fd (rt xx) = none
    · have := rs_m_push (c := c) (q := []) e (by simp) xc
      simp only [rs_b, e, Option.isSome_none, Bool.false_eq_true, if_false, List.length_cons, List.length_nil] at i4 ⊢
      omega
    · have h1 := rs_m_pop (c := c) (q := []) e
      have h2 : (fd (rt xx)).isSome = true := by
        cases z : fd (rt xx) with
        | none => exact absurd z e
        | some a => rfl
      simp only [rs_b, h2, if_true, List.length_cons, List.length_nil] at i4 ⊢
      omega
  · rw [f1.1 20 (by simp)]
    intro s hs
    obtain ⟨g1, g2⟩ := i7 s hs
    refine ⟨g1, fun e => ?_⟩
    have := (g2 e).1 (by simp)
    exact ⟨fun _ => this, fun z => by simp at z, fun _ => Or.inl this⟩
  · have := rs_m_le fd [rt xx] c
    simp only [List.length_cons, List.length_nil]
    omega
end RV
