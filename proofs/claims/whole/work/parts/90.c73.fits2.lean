/-! ===== Types.fits: its loop ===== -/
section FI
variable {sc : xm_Sc} {d pp cn r b i at' turn : Nat} {tr : Nat → Ty} {K L R : Nat → Nat} {l q : List Nat} {h h' : xm_H} {post : xm_Po}
def fiL (pp r at' turn : Nat) : xm_L := [(0, .ref (pp + 14)), (1, .ref r), (4, .int (nI at')), (5, .int (nI turn))]
def fiS (h h' : xm_H) (pp cn : Nat) (tr : Nat → Ty) (q : List Nat) : Prop := XF h' ∧ Fr [pp + 24] [(pp + 14, 11)] h h' ∧ skA h' (pp + 24) q ∧ h'.2.2 (pp + 14) 11 = .int (nI q.length) ∧ stH cn q ∧ ∀ i ∈ q, i < cn ∧ ty_w (tr i) ≤ 2048
theorem fi_fin (hpp : pp = 52 ∨ pp = 77) : xt_fin.all (fun q => !(([(pp + 14, 11)] : List (Nat × Nat)).contains (q.1, q.2.1))) = true := by rcases hpp with rfl | rfl <;> decide +kernel
/-- the topmost is taken -/
theorem fi_30 (hpp : pp = 52 ∨ pp = 77) (hT : tyT h pp cn tr K L R) (hcn : cn ≤ 14026) (hS : fiS h h' pp cn tr (i :: q)) (htu : turn < 28737536) (hat : at' < 1000000)
    (hfull : ty_full (tr i) = true → ∀ h2, fiS h h2 pp cn tr q → xm_go (XE sc) (xm_T (XE sc) (d + 3)) 167 post 16 (fiL pp r (at' + ty_w (tr i)) (turn + 1)) [] h2)
    (hnot : ty_full (tr i) = false → ∀ h2, fiS h h2 pp cn tr q → xm_go (XE sc) (xm_T (XE sc) (d + 3)) 167 post 76 ((6, .int (nI i)) :: fiL pp r at' turn) [] h2) :
    xm_go (XE sc) (xm_T (XE sc) (d + 3)) 167 post 16 (fiL pp r at' turn) [] h' := by
  obtain ⟨s1, s2, s3, s4, s5, s6⟩ := hS
  have hlen := stH_len s5
  simp only [List.length_cons] at hlen s4
  obtain ⟨i1, i2⟩ := s6 i (List.mem_cons_self ..)
  obtain ⟨t1, t2, t3, t4⟩ := hT
  obtain ⟨x1, x2, x3, x4, x5, x6, x7, x8, ⟨fb, x9, x9'⟩, x10⟩ := t2 i i1
  rw [Nat.min_eq_right (by omega)] at x7
  have x9' := x9' (by omega)
  subst x9'
  have e1 := s3.1
  have y9 : h'.1 (pp + 20) i = nI (ty_full (tr i)).toNat := by rw [s2.1 (pp + 20) (by simp)]; exact x9
  have y7 : h'.1 (pp + 18) i = nI (ty_w (tr i)) := by rw [s2.1 (pp + 18) (by simp)]; exact x7
  have f2 : Fr [] [(pp + 14, 11)] h' (xm_sf h' (pp + 14) 11 (.int (nI q.length))) := Fr_sf Fr_rf (by simp)
  have hS2 : fiS h (xm_sf h' (pp + 14) 11 (.int (nI q.length))) pp cn tr q := ⟨Fr_XF s1 f2 (fi_fin hpp), Fr_sf s2 (by simp), skA_o s3.2 (fun _ _ => rfl), by simp only [xf_same], s5.2, fun j hj => s6 j (List.mem_cons_of_mem _ hj)⟩
  cases e : ty_full (tr i)
  · rw [e] at y9
    have y9 : h'.1 (pp + 20) i = nI 0 := y9
    have hg := hnot e _ hS2
    unfold fiL at hg ⊢
    with_reducible refine xm_go_blk b_X10_fits_16 k_X10_fits_16 ?_
    refine by_iload rfl ?_
    refine by_ldc (x := nI 28737536) cn_167 ki_10_82 (by decide) ?_
    refine by_ic_ge 186 rfl ?_
    simp (disch := first | exact Nat.ne_of_beq_eq_false rfl | exact rfl | omega) only [nI_add, xa_sub, xa_mul, pk_div, nm_mod, xa_shr, xa_and7, xa_and1, xa_and255, xa_by_and, nI_m1, Nat.add_sub_cancel, Nat.reducePow, Nat.zero_add, Nat.add_zero, Nat.reduceAdd, Nat.reduceMul, Nat.reduceSub, xf_same, xq_ff, xq_fo, xf_1, xf_2, xs_1, xs_2, xs_same, xq_so, xj_1, xj_2, xj_same, xq_jo, xq_sa1, xq_same, xq_other, upd_s, oI_n, oI_s, xv_0, xv_1, xv_2, xv_3, xm_p1, xm_p2, xq_fp, xq_fn, List.filter_nil, Nat.reduceBEq, Bool.not_true, Bool.not_false, Bool.and_true, Bool.and_false, Bool.false_and, Bool.true_and, if_true, if_false, Bool.false_eq_true, reduceIte, xc_i, xc_j, xc_r, xc_n, List.nil_append, List.cons_append, Option.toList_some, Option.toList_none, nI_ltJ, nI_leJ, nI_eqJ, nI_ltz, nI_gez, nI_gtz, nI_lez, nI_eqz, m1_ltz, m1_gez, true_imp_iff, false_imp_iff, true_and, and_true, ne_eq, not_false_eq_true, not_true_eq_false, Nat.reduceEqDiff, Nat.reduceLT, Nat.reduceLeDiff, s4, pt_10 s1 hpp, pt_6 s1 hpp, e1, y9]
    refine ⟨fun c => absurd c (by omega), fun c16 => ?_⟩
    with_reducible refine xm_go_blk b_X10_fits_23 k_X10_fits_23 ?_
    refine by_aload_n rfl ?_
    refine by_getf cn_167 fl_10_62 (by first | exact rfl | assumption | exact ps_14 hpp) (by decide) ?_
    simp (disch := first | exact Nat.ne_of_beq_eq_false rfl | exact rfl | omega) only [nI_add, xa_sub, xa_mul, pk_div, nm_mod, xa_shr, xa_and7, xa_and1, xa_and255, xa_by_and, nI_m1, Nat.add_sub_cancel, Nat.reducePow, Nat.zero_add, Nat.add_zero, Nat.reduceAdd, Nat.reduceMul, Nat.reduceSub, xf_same, xq_ff, xq_fo, xf_1, xf_2, xs_1, xs_2, xs_same, xq_so, xj_1, xj_2, xj_same, xq_jo, xq_sa1, xq_same, xq_other, upd_s, oI_n, oI_s, s4, pt_10 s1 hpp, pt_6 s1 hpp, e1, y9]
    refine by_if_le 186 rfl ?_
    simp (disch := first | exact Nat.ne_of_beq_eq_false rfl | exact rfl | omega) only [nI_add, xa_sub, xa_mul, pk_div, nm_mod, xa_shr, xa_and7, xa_and1, xa_and255, xa_by_and, nI_m1, Nat.add_sub_cancel, Nat.reducePow, Nat.zero_add, Nat.add_zero, Nat.reduceAdd, Nat.reduceMul, Nat.reduceSub, xf_same, xq_ff, xq_fo, xf_1, xf_2, xs_1, xs_2, xs_same, xq_so, xj_1, xj_2, xj_same, xq_jo, xq_sa1, xq_same, xq_other, upd_s, oI_n, oI_s, xv_0, xv_1, xv_2, xv_3, xm_p1, xm_p2, xq_fp, xq_fn, List.filter_nil, Nat.reduceBEq, Bool.not_true, Bool.not_false, Bool.and_true, Bool.and_false, Bool.false_and, Bool.true_and, if_true, if_false, Bool.false_eq_true, reduceIte, xc_i, xc_j, xc_r, xc_n, List.nil_append, List.cons_append, Option.toList_some, Option.toList_none, nI_ltJ, nI_leJ, nI_eqJ, nI_ltz, nI_gez, nI_gtz, nI_lez, nI_eqz, m1_ltz, m1_gez, true_imp_iff, false_imp_iff, true_and, and_true, ne_eq, not_false_eq_true, not_true_eq_false, Nat.reduceEqDiff, Nat.reduceLT, Nat.reduceLeDiff, s4, pt_10 s1 hpp, pt_6 s1 hpp, e1, y9]
    with_reducible refine xm_go_blk b_X10_fits_30 k_X10_fits_30 ?_
    refine by_aload_n rfl ?_
    refine by_dup rfl ?_
    refine by_getf cn_167 fl_10_62 (by first | exact rfl | assumption | exact ps_14 hpp) (by decide) ?_
    refine by_iconst ci_1 ?_
    simp (disch := first | exact Nat.ne_of_beq_eq_false rfl | exact rfl | omega) only [nI_add, xa_sub, xa_mul, pk_div, nm_mod, xa_shr, xa_and7, xa_and1, xa_and255, xa_by_and, nI_m1, Nat.add_sub_cancel, Nat.reducePow, Nat.zero_add, Nat.add_zero, Nat.reduceAdd, Nat.reduceMul, Nat.reduceSub, xf_same, xq_ff, xq_fo, xf_1, xf_2, xs_1, xs_2, xs_same, xq_so, xj_1, xj_2, xj_same, xq_jo, xq_sa1, xq_same, xq_other, upd_s, oI_n, oI_s, s4, pt_10 s1 hpp, pt_6 s1 hpp, e1, y9]
    refine by_isub ?_
    refine by_putf cn_167 fl_10_62 (by first | exact rfl | assumption | exact ps_14 hpp) (by decide) nf_10_11 ft_10_11 (by first | rfl | assumption) (by first | rfl | assumption) ?_
    refine by_aload_n rfl ?_
    refine by_getf cn_167 fl_10_40 (by first | exact rfl | assumption | exact ps_14 hpp) (by decide) ?_
    refine by_aload_n rfl ?_
    refine by_getf cn_167 fl_10_62 (by first | exact rfl | assumption | exact ps_14 hpp) (by decide) ?_
    simp (disch := first | exact Nat.ne_of_beq_eq_false rfl | exact rfl | omega) only [nI_add, xa_sub, xa_mul, pk_div, nm_mod, xa_shr, xa_and7, xa_and1, xa_and255, xa_by_and, nI_m1, Nat.add_sub_cancel, Nat.reducePow, Nat.zero_add, Nat.add_zero, Nat.reduceAdd, Nat.reduceMul, Nat.reduceSub, xf_same, xq_ff, xq_fo, xf_1, xf_2, xs_1, xs_2, xs_same, xq_so, xj_1, xj_2, xj_same, xq_jo, xq_sa1, xq_same, xq_other, upd_s, oI_n, oI_s, s4, pt_10 s1 hpp, pt_6 s1 hpp, e1, y9]
    first | refine by_iald (by first | exact rfl | assumption | exact ps_1 hpp | exact ps_2 hpp | exact ps_3 hpp | exact ps_4 hpp | exact ps_5 hpp | exact ps_6 hpp | exact ps_7 hpp | exact ps_8 hpp | exact ps_9 hpp | exact ps_10 hpp | exact ps_11 hpp | exact ps_15 hpp | exact ps_16 hpp | exact ps_17 hpp | exact ps_18 hpp | exact ps_19 hpp | exact ps_21 hpp | exact ps_22 hpp | exact ps_23 hpp | exact ps_24 hpp) ⟨by omega, by omega⟩ ?_ | refine by_tald rfl rfl ⟨by omega, by omega⟩ ?_
    refine by_istore (by rw [ml_167]; decide) ?_
    refine by_aload_n rfl ?_
    refine by_getf cn_167 fl_10_27 (by first | exact rfl | assumption | exact ps_14 hpp) (by decide) ?_
    refine by_iload rfl ?_
    simp (disch := first | exact Nat.ne_of_beq_eq_false rfl | exact rfl | omega) only [nI_add, xa_sub, xa_mul, pk_div, nm_mod, xa_shr, xa_and7, xa_and1, xa_and255, xa_by_and, nI_m1, Nat.add_sub_cancel, Nat.reducePow, Nat.zero_add, Nat.add_zero, Nat.reduceAdd, Nat.reduceMul, Nat.reduceSub, xf_same, xq_ff, xq_fo, xf_1, xf_2, xs_1, xs_2, xs_same, xq_so, xj_1, xj_2, xj_same, xq_jo, xq_sa1, xq_same, xq_other, upd_s, oI_n, oI_s, s4, pt_10 s1 hpp, pt_6 s1 hpp, e1, y9]
    first | refine by_bald (Or.inl rfl) (by first | exact rfl | assumption | exact ps_13 hpp) ⟨by omega, by omega⟩ ?_ | refine by_bald (Or.inr rfl) (by first | exact rfl | assumption | exact ps_20 hpp) ⟨by omega, by omega⟩ ?_
    refine by_if_eq 76 rfl ?_
    simp (disch := first | exact Nat.ne_of_beq_eq_false rfl | exact rfl | omega) only [nI_add, xa_sub, xa_mul, pk_div, nm_mod, xa_shr, xa_and7, xa_and1, xa_and255, xa_by_and, nI_m1, Nat.add_sub_cancel, Nat.reducePow, Nat.zero_add, Nat.add_zero, Nat.reduceAdd, Nat.reduceMul, Nat.reduceSub, xf_same, xq_ff, xq_fo, xf_1, xf_2, xs_1, xs_2, xs_same, xq_so, xj_1, xj_2, xj_same, xq_jo, xq_sa1, xq_same, xq_other, upd_s, oI_n, oI_s, xv_0, xv_1, xv_2, xv_3, xm_p1, xm_p2, xq_fp, xq_fn, List.filter_nil, Nat.reduceBEq, Bool.not_true, Bool.not_false, Bool.and_true, Bool.and_false, Bool.false_and, Bool.true_and, if_true, if_false, Bool.false_eq_true, reduceIte, xc_i, xc_j, xc_r, xc_n, List.nil_append, List.cons_append, Option.toList_some, Option.toList_none, nI_ltJ, nI_leJ, nI_eqJ, nI_ltz, nI_gez, nI_gtz, nI_lez, nI_eqz, m1_ltz, m1_gez, true_imp_iff, false_imp_iff, true_and, and_true, ne_eq, not_false_eq_true, not_true_eq_false, Nat.reduceEqDiff, Nat.reduceLT, Nat.reduceLeDiff, s4, pt_10 s1 hpp, pt_6 s1 hpp, e1, y9]
    exact xm_go_wk (by simp [Value.category]) hg
  · rw [e] at y9
    have y9 : h'.1 (pp + 20) i = nI 1 := y9
    have hg := hfull e _ hS2
    unfold fiL at hg ⊢
    with_reducible refine xm_go_blk b_X10_fits_16 k_X10_fits_16 ?_
    refine by_iload rfl ?_
    refine by_ldc (x := nI 28737536) cn_167 ki_10_82 (by decide) ?_
    refine by_ic_ge 186 rfl ?_
    simp (disch := first | exact Nat.ne_of_beq_eq_false rfl | exact rfl | omega) only [nI_add, xa_sub, xa_mul, pk_div, nm_mod, xa_shr, xa_and7, xa_and1, xa_and255, xa_by_and, nI_m1, Nat.add_sub_cancel, Nat.reducePow, Nat.zero_add, Nat.add_zero, Nat.reduceAdd, Nat.reduceMul, Nat.reduceSub, xf_same, xq_ff, xq_fo, xf_1, xf_2, xs_1, xs_2, xs_same, xq_so, xj_1, xj_2, xj_same, xq_jo, xq_sa1, xq_same, xq_other, upd_s, oI_n, oI_s, xv_0, xv_1, xv_2, xv_3, xm_p1, xm_p2, xq_fp, xq_fn, List.filter_nil, Nat.reduceBEq, Bool.not_true, Bool.not_false, Bool.and_true, Bool.and_false, Bool.false_and, Bool.true_and, if_true, if_false, Bool.false_eq_true, reduceIte, xc_i, xc_j, xc_r, xc_n, List.nil_append, List.cons_append, Option.toList_some, Option.toList_none, nI_ltJ, nI_leJ, nI_eqJ, nI_ltz, nI_gez, nI_gtz, nI_lez, nI_eqz, m1_ltz, m1_gez, true_imp_iff, false_imp_iff, true_and, and_true, ne_eq, not_false_eq_true, not_true_eq_false, Nat.reduceEqDiff, Nat.reduceLT, Nat.reduceLeDiff, s4, pt_10 s1 hpp, pt_6 s1 hpp, pt_4 s1 hpp, e1, y9, y7]
    refine ⟨fun c => absurd c (by omega), fun c16 => ?_⟩
    with_reducible refine xm_go_blk b_X10_fits_23 k_X10_fits_23 ?_
    refine by_aload_n rfl ?_
    refine by_getf cn_167 fl_10_62 (by first | exact rfl | assumption | exact ps_14 hpp) (by decide) ?_
    simp (disch := first | exact Nat.ne_of_beq_eq_false rfl | exact rfl | omega) only [nI_add, xa_sub, xa_mul, pk_div, nm_mod, xa_shr, xa_and7, xa_and1, xa_and255, xa_by_and, nI_m1, Nat.add_sub_cancel, Nat.reducePow, Nat.zero_add, Nat.add_zero, Nat.reduceAdd, Nat.reduceMul, Nat.reduceSub, xf_same, xq_ff, xq_fo, xf_1, xf_2, xs_1, xs_2, xs_same, xq_so, xj_1, xj_2, xj_same, xq_jo, xq_sa1, xq_same, xq_other, upd_s, oI_n, oI_s, s4, pt_10 s1 hpp, pt_6 s1 hpp, pt_4 s1 hpp, e1, y9, y7]
    refine by_if_le 186 rfl ?_
    simp (disch := first | exact Nat.ne_of_beq_eq_false rfl | exact rfl | omega) only [nI_add, xa_sub, xa_mul, pk_div, nm_mod, xa_shr, xa_and7, xa_and1, xa_and255, xa_by_and, nI_m1, Nat.add_sub_cancel, Nat.reducePow, Nat.zero_add, Nat.add_zero, Nat.reduceAdd, Nat.reduceMul, Nat.reduceSub, xf_same, xq_ff, xq_fo, xf_1, xf_2, xs_1, xs_2, xs_same, xq_so, xj_1, xj_2, xj_same, xq_jo, xq_sa1, xq_same, xq_other, upd_s, oI_n, oI_s, xv_0, xv_1, xv_2, xv_3, xm_p1, xm_p2, xq_fp, xq_fn, List.filter_nil, Nat.reduceBEq, Bool.not_true, Bool.not_false, Bool.and_true, Bool.and_false, Bool.false_and, Bool.true_and, if_true, if_false, Bool.false_eq_true, reduceIte, xc_i, xc_j, xc_r, xc_n, List.nil_append, List.cons_append, Option.toList_some, Option.toList_none, nI_ltJ, nI_leJ, nI_eqJ, nI_ltz, nI_gez, nI_gtz, nI_lez, nI_eqz, m1_ltz, m1_gez, true_imp_iff, false_imp_iff, true_and, and_true, ne_eq, not_false_eq_true, not_true_eq_false, Nat.reduceEqDiff, Nat.reduceLT, Nat.reduceLeDiff, s4, pt_10 s1 hpp, pt_6 s1 hpp, pt_4 s1 hpp, e1, y9, y7]
    with_reducible refine xm_go_blk b_X10_fits_30 k_X10_fits_30 ?_
    refine by_aload_n rfl ?_
    refine by_dup rfl ?_
    refine by_getf cn_167 fl_10_62 (by first | exact rfl | assumption | exact ps_14 hpp) (by decide) ?_
    refine by_iconst ci_1 ?_
    simp (disch := first | exact Nat.ne_of_beq_eq_false rfl | exact rfl | omega) only [nI_add, xa_sub, xa_mul, pk_div, nm_mod, xa_shr, xa_and7, xa_and1, xa_and255, xa_by_and, nI_m1, Nat.add_sub_cancel, Nat.reducePow, Nat.zero_add, Nat.add_zero, Nat.reduceAdd, Nat.reduceMul, Nat.reduceSub, xf_same, xq_ff, xq_fo, xf_1, xf_2, xs_1, xs_2, xs_same, xq_so, xj_1, xj_2, xj_same, xq_jo, xq_sa1, xq_same, xq_other, upd_s, oI_n, oI_s, s4, pt_10 s1 hpp, pt_6 s1 hpp, pt_4 s1 hpp, e1, y9, y7]
    refine by_isub ?_
    refine by_putf cn_167 fl_10_62 (by first | exact rfl | assumption | exact ps_14 hpp) (by decide) nf_10_11 ft_10_11 (by first | rfl | assumption) (by first | rfl | assumption) ?_
    refine by_aload_n rfl ?_
    refine by_getf cn_167 fl_10_40 (by first | exact rfl | assumption | exact ps_14 hpp) (by decide) ?_
    refine by_aload_n rfl ?_
    refine by_getf cn_167 fl_10_62 (by first | exact rfl | assumption | exact ps_14 hpp) (by decide) ?_
    simp (disch := first | exact Nat.ne_of_beq_eq_false rfl | exact rfl | omega) only [nI_add, xa_sub, xa_mul, pk_div, nm_mod, xa_shr, xa_and7, xa_and1, xa_and255, xa_by_and, nI_m1, Nat.add_sub_cancel, Nat.reducePow, Nat.zero_add, Nat.add_zero, Nat.reduceAdd, Nat.reduceMul, Nat.reduceSub, xf_same, xq_ff, xq_fo, xf_1, xf_2, xs_1, xs_2, xs_same, xq_so, xj_1, xj_2, xj_same, xq_jo, xq_sa1, xq_same, xq_other, upd_s, oI_n, oI_s, s4, pt_10 s1 hpp, pt_6 s1 hpp, pt_4 s1 hpp, e1, y9, y7]
    first | refine by_iald (by first | exact rfl | assumption | exact ps_1 hpp | exact ps_2 hpp | exact ps_3 hpp | exact ps_4 hpp | exact ps_5 hpp | exact ps_6 hpp | exact ps_7 hpp | exact ps_8 hpp | exact ps_9 hpp | exact ps_10 hpp | exact ps_11 hpp | exact ps_15 hpp | exact ps_16 hpp | exact ps_17 hpp | exact ps_18 hpp | exact ps_19 hpp | exact ps_21 hpp | exact ps_22 hpp | exact ps_23 hpp | exact ps_24 hpp) ⟨by omega, by omega⟩ ?_ | refine by_tald rfl rfl ⟨by omega, by omega⟩ ?_
    refine by_istore (by rw [ml_167]; decide) ?_
    refine by_aload_n rfl ?_
    refine by_getf cn_167 fl_10_27 (by first | exact rfl | assumption | exact ps_14 hpp) (by decide) ?_
    refine by_iload rfl ?_
    simp (disch := first | exact Nat.ne_of_beq_eq_false rfl | exact rfl | omega) only [nI_add, xa_sub, xa_mul, pk_div, nm_mod, xa_shr, xa_and7, xa_and1, xa_and255, xa_by_and, nI_m1, Nat.add_sub_cancel, Nat.reducePow, Nat.zero_add, Nat.add_zero, Nat.reduceAdd, Nat.reduceMul, Nat.reduceSub, xf_same, xq_ff, xq_fo, xf_1, xf_2, xs_1, xs_2, xs_same, xq_so, xj_1, xj_2, xj_same, xq_jo, xq_sa1, xq_same, xq_other, upd_s, oI_n, oI_s, s4, pt_10 s1 hpp, pt_6 s1 hpp, pt_4 s1 hpp, e1, y9, y7]
    first | refine by_bald (Or.inl rfl) (by first | exact rfl | assumption | exact ps_13 hpp) ⟨by omega, by omega⟩ ?_ | refine by_bald (Or.inr rfl) (by first | exact rfl | assumption | exact ps_20 hpp) ⟨by omega, by omega⟩ ?_
    refine by_if_eq 76 rfl ?_
    simp (disch := first | exact Nat.ne_of_beq_eq_false rfl | exact rfl | omega) only [nI_add, xa_sub, xa_mul, pk_div, nm_mod, xa_shr, xa_and7, xa_and1, xa_and255, xa_by_and, nI_m1, Nat.add_sub_cancel, Nat.reducePow, Nat.zero_add, Nat.add_zero, Nat.reduceAdd, Nat.reduceMul, Nat.reduceSub, xf_same, xq_ff, xq_fo, xf_1, xf_2, xs_1, xs_2, xs_same, xq_so, xj_1, xj_2, xj_same, xq_jo, xq_sa1, xq_same, xq_other, upd_s, oI_n, oI_s, xv_0, xv_1, xv_2, xv_3, xm_p1, xm_p2, xq_fp, xq_fn, List.filter_nil, Nat.reduceBEq, Bool.not_true, Bool.not_false, Bool.and_true, Bool.and_false, Bool.false_and, Bool.true_and, if_true, if_false, Bool.false_eq_true, reduceIte, xc_i, xc_j, xc_r, xc_n, List.nil_append, List.cons_append, Option.toList_some, Option.toList_none, nI_ltJ, nI_leJ, nI_eqJ, nI_ltz, nI_gez, nI_gtz, nI_lez, nI_eqz, m1_ltz, m1_gez, true_imp_iff, false_imp_iff, true_and, and_true, ne_eq, not_false_eq_true, not_true_eq_false, Nat.reduceEqDiff, Nat.reduceLT, Nat.reduceLeDiff, s4, pt_10 s1 hpp, pt_6 s1 hpp, pt_4 s1 hpp, e1, y9, y7]
    with_reducible refine xm_go_blk b_X10_fits_61 k_X10_fits_61 ?_
    refine by_iload rfl ?_
    refine by_aload_n rfl ?_
    refine by_getf cn_167 fl_10_21 (by first | exact rfl | assumption | exact ps_14 hpp) (by decide) ?_
    refine by_iload rfl ?_
    simp (disch := first | exact Nat.ne_of_beq_eq_false rfl | exact rfl | omega) only [nI_add, xa_sub, xa_mul, pk_div, nm_mod, xa_shr, xa_and7, xa_and1, xa_and255, xa_by_and, nI_m1, Nat.add_sub_cancel, Nat.reducePow, Nat.zero_add, Nat.add_zero, Nat.reduceAdd, Nat.reduceMul, Nat.reduceSub, xf_same, xq_ff, xq_fo, xf_1, xf_2, xs_1, xs_2, xs_same, xq_so, xj_1, xj_2, xj_same, xq_jo, xq_sa1, xq_same, xq_other, upd_s, oI_n, oI_s, s4, pt_10 s1 hpp, pt_6 s1 hpp, pt_4 s1 hpp, e1, y9, y7]
    first | refine by_iald (by first | exact rfl | assumption | exact ps_1 hpp | exact ps_2 hpp | exact ps_3 hpp | exact ps_4 hpp | exact ps_5 hpp | exact ps_6 hpp | exact ps_7 hpp | exact ps_8 hpp | exact ps_9 hpp | exact ps_10 hpp | exact ps_11 hpp | exact ps_15 hpp | exact ps_16 hpp | exact ps_17 hpp | exact ps_18 hpp | exact ps_19 hpp | exact ps_21 hpp | exact ps_22 hpp | exact ps_23 hpp | exact ps_24 hpp) ⟨by omega, by omega⟩ ?_ | refine by_tald rfl rfl ⟨by omega, by omega⟩ ?_
    refine by_iadd ?_
    refine by_istore (by rw [ml_167]; decide) ?_
    refine by_goto 180 rfl ?_
    simp (disch := first | exact Nat.ne_of_beq_eq_false rfl | exact rfl | omega) only [nI_add, xa_sub, xa_mul, pk_div, nm_mod, xa_shr, xa_and7, xa_and1, xa_and255, xa_by_and, nI_m1, Nat.add_sub_cancel, Nat.reducePow, Nat.zero_add, Nat.add_zero, Nat.reduceAdd, Nat.reduceMul, Nat.reduceSub, xf_same, xq_ff, xq_fo, xf_1, xf_2, xs_1, xs_2, xs_same, xq_so, xj_1, xj_2, xj_same, xq_jo, xq_sa1, xq_same, xq_other, upd_s, oI_n, oI_s, xv_0, xv_1, xv_2, xv_3, xm_p1, xm_p2, xq_fp, xq_fn, List.filter_nil, Nat.reduceBEq, Bool.not_true, Bool.not_false, Bool.and_true, Bool.and_false, Bool.false_and, Bool.true_and, if_true, if_false, Bool.false_eq_true, reduceIte, xc_i, xc_j, xc_r, xc_n, List.nil_append, List.cons_append, Option.toList_some, Option.toList_none, s4, pt_10 s1 hpp, pt_6 s1 hpp, pt_4 s1 hpp, e1, y9, y7]
    with_reducible refine xm_go_blk b_X10_fits_180 k_X10_fits_180 ?_
    refine by_iinc (by rw [ml_167]; decide) rfl ci_1 ?_
    refine by_goto 16 rfl ?_
    simp (disch := first | exact Nat.ne_of_beq_eq_false rfl | exact rfl | omega) only [nI_add, xa_sub, xa_mul, pk_div, nm_mod, xa_shr, xa_and7, xa_and1, xa_and255, xa_by_and, nI_m1, Nat.add_sub_cancel, Nat.reducePow, Nat.zero_add, Nat.add_zero, Nat.reduceAdd, Nat.reduceMul, Nat.reduceSub, xf_same, xq_ff, xq_fo, xf_1, xf_2, xs_1, xs_2, xs_same, xq_so, xj_1, xj_2, xj_same, xq_jo, xq_sa1, xq_same, xq_other, upd_s, oI_n, oI_s, xv_0, xv_1, xv_2, xv_3, xm_p1, xm_p2, xq_fp, xq_fn, List.filter_nil, Nat.reduceBEq, Bool.not_true, Bool.not_false, Bool.and_true, Bool.and_false, Bool.false_and, Bool.true_and, if_true, if_false, Bool.false_eq_true, reduceIte, xc_i, xc_j, xc_r, xc_n, List.nil_append, List.cons_append, Option.toList_some, Option.toList_none, s4, pt_10 s1 hpp, pt_6 s1 hpp, pt_4 s1 hpp, e1, y9, y7]
    exact xm_go_wk (by simp [Value.category]) hg
/-- a type is laid on the stack -/
theorem fi_push {x : Nat} (hpp : pp = 52 ∨ pp = 77) (hcn : cn ≤ 14026) (hS : fiS h h' pp cn tr q) (hx : q.length + 1 + x ≤ cn) (hw : ty_w (tr x) ≤ 2048) (hp : ∀ h2, fiS h h2 pp cn tr (x :: q) → post none h2) : xm_T (XE sc) (d + 1) 170 [.ref (pp + 14), .int (nI x)] h' post := by
  obtain ⟨s1, s2, s3, s4, s5, s6⟩ := hS
  have hlen := stH_len s5
  refine sp_tpush s1 hpp (by omega) s4 (hp _ ⟨Fr_XF s1 (Fr_sf (Fr_si (Fr_rf (S := [pp + 24]) (T := [(pp + 14, 11)])) (by simp)) (by simp)) (fi_fin hpp), Fr_sf (Fr_si s2 (by simp)) (by simp), skA_o (skA_push s3) (fun _ _ => rfl), by simp only [xf_same, List.length_cons], ⟨hx, s5⟩, fun j hj => ?_⟩)
  rcases List.mem_cons.mp hj with rfl | hj
  · exact ⟨by omega, hw⟩
  · exact s6 j hj
theorem sp_fits {t fr : Nat} (hF : XF h) (hpp : pp = 52 ∨ pp = 77) (hT : tyT h pp cn tr K L R) (hcn : cn ≤ 14026) (ht : t < cn) (hw : ty_w (tr t) ≤ 2048) (hfr : fr ≤ 900000) (hr : (xe_sh (XE sc))[r]? = some (.inr (8, 4))) (hb : (xe_sh (XE sc))[b]? = some (.inl (.byte, 8192))) (hrow : rowIs h r b l) (hr14 : r ≠ pp + 14) (hb24 : b ≠ pp + 24)
    (h1 : ∀ h', ty_val (by_bit l) (tr t) fr = true → Fr [pp + 24] [(pp + 14, 11)] h h' → post (some (.int (nI 1))) h') (h0 : ∀ h', ty_val (by_bit l) (tr t) fr = false → Fr [pp + 24] [(pp + 14, 11)] h h' → post (some (.int (nI 0))) h') :
    xm_T (XE sc) (d + 4) 167 [.ref (pp + 14), .ref r, .int (nI fr), .int (nI t)] h post := by
  have hT0 := hT
  obtain ⟨t1, t2, t3, t4⟩ := hT0
  have key : ∀ (M turn at' : Nat) (q : List Nat) (h' : xm_H), muL tr q ≤ M → turn + M ≤ 28737536 → at' + wiL tr q ≤ 950000 → fiS h h' pp cn tr q → ty_val (by_bit l) (tr t) fr = ty_vals (by_bit l) (q.map tr) at' → xm_go (XE sc) (xm_T (XE sc) (d + 3)) 167 post 16 (fiL pp r at' turn) [] h' := by
    intro M
    induction M with
    | zero =>
      intro turn at' q h' hm htu hat hS hv
      cases q with
      | nil =>
        obtain ⟨s1, s2, s3, s4, s5, s6⟩ := hS
        have s4 : h'.2.2 (pp + 14) 11 = .int (nI 0) := s4
        unfold fiL
        by_cases e : turn < 28737536
        · with_reducible refine xm_go_blk b_X10_fits_16 k_X10_fits_16 ?_
          refine by_iload rfl ?_
          refine by_ldc (x := nI 28737536) cn_167 ki_10_82 (by decide) ?_
          refine by_ic_ge 186 rfl ?_
          simp (disch := first | exact Nat.ne_of_beq_eq_false rfl | exact rfl | omega) only [nI_add, xa_sub, xa_mul, pk_div, nm_mod, xa_shr, xa_and7, xa_and1, xa_and255, xa_by_and, nI_m1, Nat.add_sub_cancel, Nat.reducePow, Nat.zero_add, Nat.add_zero, Nat.reduceAdd, Nat.reduceMul, Nat.reduceSub, xf_same, xq_ff, xq_fo, xf_1, xf_2, xs_1, xs_2, xs_same, xq_so, xj_1, xj_2, xj_same, xq_jo, xq_sa1, xq_same, xq_other, upd_s, oI_n, oI_s, xv_0, xv_1, xv_2, xv_3, xm_p1, xm_p2, xq_fp, xq_fn, List.filter_nil, Nat.reduceBEq, Bool.not_true, Bool.not_false, Bool.and_true, Bool.and_false, Bool.false_and, Bool.true_and, if_true, if_false, Bool.false_eq_true, reduceIte, xc_i, xc_j, xc_r, xc_n, List.nil_append, List.cons_append, Option.toList_some, Option.toList_none, nI_ltJ, nI_leJ, nI_eqJ, nI_ltz, nI_gez, nI_gtz, nI_lez, nI_eqz, m1_ltz, m1_gez, true_imp_iff, false_imp_iff, true_and, and_true, ne_eq, not_false_eq_true, not_true_eq_false, Nat.reduceEqDiff, Nat.reduceLT, Nat.reduceLeDiff, s4]
          refine ⟨fun c => absurd c (by omega), fun c16 => ?_⟩
          with_reducible refine xm_go_blk b_X10_fits_23 k_X10_fits_23 ?_
          refine by_aload_n rfl ?_
          refine by_getf cn_167 fl_10_62 (by first | exact rfl | assumption | exact ps_14 hpp) (by decide) ?_
          simp (disch := first | exact Nat.ne_of_beq_eq_false rfl | exact rfl | omega) only [nI_add, xa_sub, xa_mul, pk_div, nm_mod, xa_shr, xa_and7, xa_and1, xa_and255, xa_by_and, nI_m1, Nat.add_sub_cancel, Nat.reducePow, Nat.zero_add, Nat.add_zero, Nat.reduceAdd, Nat.reduceMul, Nat.reduceSub, xf_same, xq_ff, xq_fo, xf_1, xf_2, xs_1, xs_2, xs_same, xq_so, xj_1, xj_2, xj_same, xq_jo, xq_sa1, xq_same, xq_other, upd_s, oI_n, oI_s, s4]
          refine by_if_le 186 rfl ?_
          simp (disch := first | exact Nat.ne_of_beq_eq_false rfl | exact rfl | omega) only [nI_add, xa_sub, xa_mul, pk_div, nm_mod, xa_shr, xa_and7, xa_and1, xa_and255, xa_by_and, nI_m1, Nat.add_sub_cancel, Nat.reducePow, Nat.zero_add, Nat.add_zero, Nat.reduceAdd, Nat.reduceMul, Nat.reduceSub, xf_same, xq_ff, xq_fo, xf_1, xf_2, xs_1, xs_2, xs_same, xq_so, xj_1, xj_2, xj_same, xq_jo, xq_sa1, xq_same, xq_other, upd_s, oI_n, oI_s, xv_0, xv_1, xv_2, xv_3, xm_p1, xm_p2, xq_fp, xq_fn, List.filter_nil, Nat.reduceBEq, Bool.not_true, Bool.not_false, Bool.and_true, Bool.and_false, Bool.false_and, Bool.true_and, if_true, if_false, Bool.false_eq_true, reduceIte, xc_i, xc_j, xc_r, xc_n, List.nil_append, List.cons_append, Option.toList_some, Option.toList_none, nI_ltJ, nI_leJ, nI_eqJ, nI_ltz, nI_gez, nI_gtz, nI_lez, nI_eqz, m1_ltz, m1_gez, true_imp_iff, false_imp_iff, true_and, and_true, ne_eq, not_false_eq_true, not_true_eq_false, Nat.reduceEqDiff, Nat.reduceLT, Nat.reduceLeDiff, s4]
          with_reducible refine xm_go_blk b_X10_fits_186 k_X10_fits_186 ?_
          refine by_iconst ci_1 ?_
          refine by_iret ry_167 (by first | rfl | assumption) ?_
          exact h1 h' (by rw [hv]; rfl) s2
        · with_reducible refine xm_go_blk b_X10_fits_16 k_X10_fits_16 ?_
          refine by_iload rfl ?_
          refine by_ldc (x := nI 28737536) cn_167 ki_10_82 (by decide) ?_
          refine by_ic_ge 186 rfl ?_
          simp (disch := first | exact Nat.ne_of_beq_eq_false rfl | exact rfl | omega) only [nI_add, xa_sub, xa_mul, pk_div, nm_mod, xa_shr, xa_and7, xa_and1, xa_and255, xa_by_and, nI_m1, Nat.add_sub_cancel, Nat.reducePow, Nat.zero_add, Nat.add_zero, Nat.reduceAdd, Nat.reduceMul, Nat.reduceSub, xf_same, xq_ff, xq_fo, xf_1, xf_2, xs_1, xs_2, xs_same, xq_so, xj_1, xj_2, xj_same, xq_jo, xq_sa1, xq_same, xq_other, upd_s, oI_n, oI_s, xv_0, xv_1, xv_2, xv_3, xm_p1, xm_p2, xq_fp, xq_fn, List.filter_nil, Nat.reduceBEq, Bool.not_true, Bool.not_false, Bool.and_true, Bool.and_false, Bool.false_and, Bool.true_and, if_true, if_false, Bool.false_eq_true, reduceIte, xc_i, xc_j, xc_r, xc_n, List.nil_append, List.cons_append, Option.toList_some, Option.toList_none, nI_ltJ, nI_leJ, nI_eqJ, nI_ltz, nI_gez, nI_gtz, nI_lez, nI_eqz, m1_ltz, m1_gez, true_imp_iff, false_imp_iff, true_and, and_true, ne_eq, not_false_eq_true, not_true_eq_false, Nat.reduceEqDiff, Nat.reduceLT, Nat.reduceLeDiff]
          refine ⟨fun c16 => ?_, fun c => absurd (by omega) c⟩
          with_reducible refine xm_go_blk b_X10_fits_186 k_X10_fits_186 ?_
          refine by_iconst ci_1 ?_
          refine by_iret ry_167 (by first | rfl | assumption) ?_
          exact h1 h' (by rw [hv]; rfl) s2
      | cons i q =>
        exfalso
        have := muF_pos (tr := tr) (i := i)
        simp only [muL] at hm
        omega
    | succ M ih =>
      intro turn at' q h' hm htu hat hS hv
      cases q with
      | nil =>
        obtain ⟨s1, s2, s3, s4, s5, s6⟩ := hS
        have s4 : h'.2.2 (pp + 14) 11 = .int (nI 0) := s4
        unfold fiL
        with_reducible refine xm_go_blk b_X10_fits_16 k_X10_fits_16 ?_
        refine by_iload rfl ?_
        refine by_ldc (x := nI 28737536) cn_167 ki_10_82 (by decide) ?_
        refine by_ic_ge 186 rfl ?_
        simp (disch := first | exact Nat.ne_of_beq_eq_false rfl | exact rfl | omega) only [nI_add, xa_sub, xa_mul, pk_div, nm_mod, xa_shr, xa_and7, xa_and1, xa_and255, xa_by_and, nI_m1, Nat.add_sub_cancel, Nat.reducePow, Nat.zero_add, Nat.add_zero, Nat.reduceAdd, Nat.reduceMul, Nat.reduceSub, xf_same, xq_ff, xq_fo, xf_1, xf_2, xs_1, xs_2, xs_same, xq_so, xj_1, xj_2, xj_same, xq_jo, xq_sa1, xq_same, xq_other, upd_s, oI_n, oI_s, xv_0, xv_1, xv_2, xv_3, xm_p1, xm_p2, xq_fp, xq_fn, List.filter_nil, Nat.reduceBEq, Bool.not_true, Bool.not_false, Bool.and_true, Bool.and_false, Bool.false_and, Bool.true_and, if_true, if_false, Bool.false_eq_true, reduceIte, xc_i, xc_j, xc_r, xc_n, List.nil_append, List.cons_append, Option.toList_some, Option.toList_none, nI_ltJ, nI_leJ, nI_eqJ, nI_ltz, nI_gez, nI_gtz, nI_lez, nI_eqz, m1_ltz, m1_gez, true_imp_iff, false_imp_iff, true_and, and_true, ne_eq, not_false_eq_true, not_true_eq_false, Nat.reduceEqDiff, Nat.reduceLT, Nat.reduceLeDiff, s4]
        refine ⟨fun c => absurd c (by omega), fun c16 => ?_⟩
        with_reducible refine xm_go_blk b_X10_fits_23 k_X10_fits_23 ?_
        refine by_aload_n rfl ?_
        refine by_getf cn_167 fl_10_62 (by first | exact rfl | assumption | exact ps_14 hpp) (by decide) ?_
        simp (disch := first | exact Nat.ne_of_beq_eq_false rfl | exact rfl | omega) only [nI_add, xa_sub, xa_mul, pk_div, nm_mod, xa_shr, xa_and7, xa_and1, xa_and255, xa_by_and, nI_m1, Nat.add_sub_cancel, Nat.reducePow, Nat.zero_add, Nat.add_zero, Nat.reduceAdd, Nat.reduceMul, Nat.reduceSub, xf_same, xq_ff, xq_fo, xf_1, xf_2, xs_1, xs_2, xs_same, xq_so, xj_1, xj_2, xj_same, xq_jo, xq_sa1, xq_same, xq_other, upd_s, oI_n, oI_s, s4]
        refine by_if_le 186 rfl ?_
        simp (disch := first | exact Nat.ne_of_beq_eq_false rfl | exact rfl | omega) only [nI_add, xa_sub, xa_mul, pk_div, nm_mod, xa_shr, xa_and7, xa_and1, xa_and255, xa_by_and, nI_m1, Nat.add_sub_cancel, Nat.reducePow, Nat.zero_add, Nat.add_zero, Nat.reduceAdd, Nat.reduceMul, Nat.reduceSub, xf_same, xq_ff, xq_fo, xf_1, xf_2, xs_1, xs_2, xs_same, xq_so, xj_1, xj_2, xj_same, xq_jo, xq_sa1, xq_same, xq_other, upd_s, oI_n, oI_s, xv_0, xv_1, xv_2, xv_3, xm_p1, xm_p2, xq_fp, xq_fn, List.filter_nil, Nat.reduceBEq, Bool.not_true, Bool.not_false, Bool.and_true, Bool.and_false, Bool.false_and, Bool.true_and, if_true, if_false, Bool.false_eq_true, reduceIte, xc_i, xc_j, xc_r, xc_n, List.nil_append, List.cons_append, Option.toList_some, Option.toList_none, nI_ltJ, nI_leJ, nI_eqJ, nI_ltz, nI_gez, nI_gtz, nI_lez, nI_eqz, m1_ltz, m1_gez, true_imp_iff, false_imp_iff, true_and, and_true, ne_eq, not_false_eq_true, not_true_eq_false, Nat.reduceEqDiff, Nat.reduceLT, Nat.reduceLeDiff, s4]
        with_reducible refine xm_go_blk b_X10_fits_186 k_X10_fits_186 ?_
        refine by_iconst ci_1 ?_
        refine by_iret ry_167 (by first | rfl | assumption) ?_
        exact h1 h' (by rw [hv]; rfl) s2
      | cons i q =>
        simp only [muL] at hm
        simp only [wiL] at hat
        have hS0 := hS
        obtain ⟨s1, s2, s3, s4, s5, s6⟩ := hS0
        obtain ⟨i1, i2⟩ := s6 i (List.mem_cons_self ..)
        have hst := s5.1
        obtain ⟨x1, x2, x3, x4, x5, x6, x7, x8, x9, x10⟩ := t2 i i1
        rw [List.map_cons, ty_vals] at hv
        refine fi_30 hpp hT hcn hS (by omega) (by omega) (fun hfu h2 hS2 => ?_) (fun hnf h2 hS2 => ?_)
        · have := muF_pos (tr := tr) (i := i)
          exact ih (turn + 1) (at' + ty_w (tr i)) q h2 (by omega) (by omega) (by omega) hS2 (by rw [hv, ty_full_val _ _ hfu, Bool.true_and])
        · have F2 := hS2.1
          have g2 := hS2.2.1
          have k15 : h2.1 (pp + 15) i = nI (K i) := by rw [g2.1 (pp + 15) (by simp)]; exact x4
          have k16 : h2.1 (pp + 16) i = nI (L i) := by rw [g2.1 (pp + 16) (by simp)]; exact x5
          have k17 : h2.1 (pp + 17) i = nI (R i) := by rw [g2.1 (pp + 17) (by simp)]; exact x6
          rcases ts_cs x1.1 with e | e | e
          · exfalso
            rw [x2, e] at hnf
            cases hnf
          · -- a sum
            obtain ⟨lt1, lt2⟩ := x1.2.2 (by omega)
            rw [e] at x2 k15
            have x2 : tr i = .add (tr (L i)) (tr (R i)) := x2
            have ww : ty_w (tr i) = 1 + max (ty_w (tr (L i))) (ty_w (tr (R i))) := by rw [x2]; rfl
            have wrow : ∀ j, j < cn → ty_w (tr j) ≤ 2048 → h2.1 (pp + 18) j = nI (ty_w (tr j)) := by
              intro j hj hjw
              have := (t2 j hj).2.2.2.2.2.2.1
              rw [Nat.min_eq_right (by omega)] at this
              rw [g2.1 (pp + 18) (by simp)]; exact this
            have hrow2 : rowIs h2 r b l := rowIs_fr hrow g2 (by simp; omega) (by simp) (by simp)
            have part : ∀ p, (p = L i ∨ p = R i) → (ty_val (by_bit l) (tr i) at' = (bz (by_bit l) (at' + 1) (max (ty_w (tr (L i))) (ty_w (tr (R i))) - ty_w (tr p)) && ty_val (by_bit l) (tr p) (at' + 1 + (max (ty_w (tr (L i))) (ty_w (tr (R i))) - ty_w (tr p))))) → xm_go (XE sc) (xm_T (XE sc) (d + 3)) 167 post 138 [(6, .int (nI i)), (0, .ref (pp + 14)), (1, .ref r), (4, .int (nI at')), (5, .int (nI turn))] [.int (nI p)] h2 := by
              intro p hpLR hval
              have hpi : p < i := by rcases hpLR with rfl | rfl <;> omega
              have hpw : ty_w (tr p) + 1 ≤ ty_w (tr i) := by rcases hpLR with rfl | rfl <;> omega
              have hpm := mu_sum hnf hpw hpi
              generalize hz : max (ty_w (tr (L i))) (ty_w (tr (R i))) - ty_w (tr p) = z at hval
              have ez : ty_w (tr i) - 1 - ty_w (tr p) = z := by omega
              with_reducible refine xm_go_blk b_X10_fits_138 k_X10_fits_138 ?_
              refine by_istore (by rw [ml_167]; decide) ?_
              refine by_aload_n rfl ?_
              refine by_iload rfl ?_
              refine by_iload rfl ?_
              simp (disch := first | exact Nat.ne_of_beq_eq_false rfl | exact rfl | omega) only [nI_add, xa_sub, xa_mul, pk_div, nm_mod, xa_shr, xa_and7, xa_and1, xa_and255, xa_by_and, nI_m1, Nat.add_sub_cancel, Nat.reducePow, Nat.zero_add, Nat.add_zero, Nat.reduceAdd, Nat.reduceMul, Nat.reduceSub, xf_same, xq_ff, xq_fo, xf_1, xf_2, xs_1, xs_2, xs_same, xq_so, xj_1, xj_2, xj_same, xq_jo, xq_sa1, xq_same, xq_other, upd_s, oI_n, oI_s, xv_0, xv_1, xv_2, xv_3, xm_p1, xm_p2, xq_fp, xq_fn, List.filter_nil, Nat.reduceBEq, Bool.not_true, Bool.not_false, Bool.and_true, Bool.and_false, Bool.false_and, Bool.true_and, if_true, if_false, Bool.false_eq_true, reduceIte, xc_i, xc_j, xc_r, xc_n, List.nil_append, List.cons_append, Option.toList_some, Option.toList_none]
              refine by_inv2 cn_167 lk_10_87 (by rw [xe_cnt]; decide) is_169 np_169 cn_169 (by first | exact rfl | assumption | exact ps_14 hpp) (Nat.le_of_ble_eq_true rfl) ?_
              refine sp_padding F2 hpp (by omega) (by omega) (wrow i i1 i2) (wrow p (by omega) (by omega)) hpw ?_
              rw [ez]
              with_reducible refine xm_go_blk b_X10_fits_148 k_X10_fits_148 ?_
              refine by_istore (by rw [ml_167]; decide) ?_
              refine by_aload_n rfl ?_
              refine by_iload rfl ?_
              refine by_iconst ci_1 ?_
              refine by_iadd ?_
              refine by_iload rfl ?_
              simp (disch := first | exact Nat.ne_of_beq_eq_false rfl | exact rfl | omega) only [nI_add, xa_sub, xa_mul, pk_div, nm_mod, xa_shr, xa_and7, xa_and1, xa_and255, xa_by_and, nI_m1, Nat.add_sub_cancel, Nat.reducePow, Nat.zero_add, Nat.add_zero, Nat.reduceAdd, Nat.reduceMul, Nat.reduceSub, xf_same, xq_ff, xq_fo, xf_1, xf_2, xs_1, xs_2, xs_same, xq_so, xj_1, xj_2, xj_same, xq_jo, xq_sa1, xq_same, xq_other, upd_s, oI_n, oI_s, xv_0, xv_1, xv_2, xv_3, xm_p1, xm_p2, xq_fp, xq_fn, List.filter_nil, Nat.reduceBEq, Bool.not_true, Bool.not_false, Bool.and_true, Bool.and_false, Bool.false_and, Bool.true_and, if_true, if_false, Bool.false_eq_true, reduceIte, xc_i, xc_j, xc_r, xc_n, List.nil_append, List.cons_append, Option.toList_some, Option.toList_none]
              refine by_inv2 cn_167 lk_10_70 (by rw [xe_cnt]; decide) is_131 np_131 cn_131 (by first | exact rfl | assumption | exact ps_12 hpp) (Nat.le_of_ble_eq_true rfl) ?_
              refine sp_isZero hr hb hrow2.1 hrow2.2.1 hrow2.2.2.1 (by omega) ?_
              rw [rowIs_z hrow2]
              cases eb : bz (by_bit l) (at' + 1) z
              · rw [eb, Bool.false_and] at hval
                with_reducible refine xm_go_blk b_X10_fits_160 k_X10_fits_160 ?_
                refine by_if_ne 165 rfl ?_
                simp (disch := first | exact Nat.ne_of_beq_eq_false rfl | exact rfl | omega) only [nI_add, xa_sub, xa_mul, pk_div, nm_mod, xa_shr, xa_and7, xa_and1, xa_and255, xa_by_and, nI_m1, Nat.add_sub_cancel, Nat.reducePow, Nat.zero_add, Nat.add_zero, Nat.reduceAdd, Nat.reduceMul, Nat.reduceSub, xf_same, xq_ff, xq_fo, xf_1, xf_2, xs_1, xs_2, xs_same, xq_so, xj_1, xj_2, xj_same, xq_jo, xq_sa1, xq_same, xq_other, upd_s, oI_n, oI_s, xv_0, xv_1, xv_2, xv_3, xm_p1, xm_p2, xq_fp, xq_fn, List.filter_nil, Nat.reduceBEq, Bool.not_true, Bool.not_false, Bool.and_true, Bool.and_false, Bool.false_and, Bool.true_and, if_true, if_false, Bool.false_eq_true, reduceIte, xc_i, xc_j, xc_r, xc_n, List.nil_append, List.cons_append, Option.toList_some, Option.toList_none, nI_ltJ, nI_leJ, nI_eqJ, nI_ltz, nI_gez, nI_gtz, nI_lez, nI_eqz, m1_ltz, m1_gez, true_imp_iff, false_imp_iff, true_and, and_true, ne_eq, not_false_eq_true, not_true_eq_false, Nat.reduceEqDiff, Nat.reduceLT, Nat.reduceLeDiff, Bool.toNat_false]
                with_reducible refine xm_go_blk b_X10_fits_163 k_X10_fits_163 ?_
                refine by_iconst ci_0 ?_
                refine by_iret ry_167 (by first | rfl | assumption) ?_
                exact h0 h2 (by rw [hv, hval, Bool.false_and]) g2
              · rw [eb, Bool.true_and] at hval
                with_reducible refine xm_go_blk b_X10_fits_160 k_X10_fits_160 ?_
                refine by_if_ne 165 rfl ?_
                simp (disch := first | exact Nat.ne_of_beq_eq_false rfl | exact rfl | omega) only [nI_add, xa_sub, xa_mul, pk_div, nm_mod, xa_shr, xa_and7, xa_and1, xa_and255, xa_by_and, nI_m1, Nat.add_sub_cancel, Nat.reducePow, Nat.zero_add, Nat.add_zero, Nat.reduceAdd, Nat.reduceMul, Nat.reduceSub, xf_same, xq_ff, xq_fo, xf_1, xf_2, xs_1, xs_2, xs_same, xq_so, xj_1, xj_2, xj_same, xq_jo, xq_sa1, xq_same, xq_other, upd_s, oI_n, oI_s, xv_0, xv_1, xv_2, xv_3, xm_p1, xm_p2, xq_fp, xq_fn, List.filter_nil, Nat.reduceBEq, Bool.not_true, Bool.not_false, Bool.and_true, Bool.and_false, Bool.false_and, Bool.true_and, if_true, if_false, Bool.false_eq_true, reduceIte, xc_i, xc_j, xc_r, xc_n, List.nil_append, List.cons_append, Option.toList_some, Option.toList_none, nI_ltJ, nI_leJ, nI_eqJ, nI_ltz, nI_gez, nI_gtz, nI_lez, nI_eqz, m1_ltz, m1_gez, true_imp_iff, false_imp_iff, true_and, and_true, ne_eq, not_false_eq_true, not_true_eq_false, Nat.reduceEqDiff, Nat.reduceLT, Nat.reduceLeDiff, Bool.toNat_true]
                with_reducible refine xm_go_blk b_X10_fits_165 k_X10_fits_165 ?_
                refine by_iload rfl ?_
                refine by_iconst ci_1 ?_
                refine by_iload rfl ?_
                refine by_iadd ?_
                refine by_iadd ?_
                refine by_istore (by rw [ml_167]; decide) ?_
                refine by_aload_n rfl ?_
                refine by_iload rfl ?_
                simp (disch := first | exact Nat.ne_of_beq_eq_false rfl | exact rfl | omega) only [nI_add, xa_sub, xa_mul, pk_div, nm_mod, xa_shr, xa_and7, xa_and1, xa_and255, xa_by_and, nI_m1, Nat.add_sub_cancel, Nat.reducePow, Nat.zero_add, Nat.add_zero, Nat.reduceAdd, Nat.reduceMul, Nat.reduceSub, xf_same, xq_ff, xq_fo, xf_1, xf_2, xs_1, xs_2, xs_same, xq_so, xj_1, xj_2, xj_same, xq_jo, xq_sa1, xq_same, xq_other, upd_s, oI_n, oI_s, xv_0, xv_1, xv_2, xv_3, xm_p1, xm_p2, xq_fp, xq_fn, List.filter_nil, Nat.reduceBEq, Bool.not_true, Bool.not_false, Bool.and_true, Bool.and_false, Bool.false_and, Bool.true_and, if_true, if_false, Bool.false_eq_true, reduceIte, xc_i, xc_j, xc_r, xc_n, List.nil_append, List.cons_append, Option.toList_some, Option.toList_none, Bool.toNat_true]
                refine by_inv1 cn_167 lk_10_78 (by rw [xe_cnt]; decide) is_170 np_170 cn_170 (by first | exact rfl | assumption | exact ps_14 hpp) (Nat.le_of_ble_eq_true rfl) ?_
                refine fi_push hpp hcn hS2 (by omega) (by omega) (fun h3 hS3 => ?_)
                have hg := ih (turn + 1) (at' + (1 + z)) (p :: q) h3 (by simp only [muL]; omega) (by omega) (by simp only [wiL]; omega) hS3 (by
                  rw [hv, hval, List.map_cons, ty_vals, show at' + 1 + z = at' + (1 + z) by omega, show at' + ty_w (tr i) = at' + (1 + z) + ty_w (tr p) by omega])
                unfold fiL at hg
                with_reducible refine xm_go_blk b_X10_fits_180 k_X10_fits_180 ?_
                refine by_iinc (by rw [ml_167]; decide) rfl ci_1 ?_
                refine by_goto 16 rfl ?_
                simp (disch := first | exact Nat.ne_of_beq_eq_false rfl | exact rfl | omega) only [nI_add, xa_sub, xa_mul, pk_div, nm_mod, xa_shr, xa_and7, xa_and1, xa_and255, xa_by_and, nI_m1, Nat.add_sub_cancel, Nat.reducePow, Nat.zero_add, Nat.add_zero, Nat.reduceAdd, Nat.reduceMul, Nat.reduceSub, xf_same, xq_ff, xq_fo, xf_1, xf_2, xs_1, xs_2, xs_same, xq_so, xj_1, xj_2, xj_same, xq_jo, xq_sa1, xq_same, xq_other, upd_s, oI_n, oI_s, xv_0, xv_1, xv_2, xv_3, xm_p1, xm_p2, xq_fp, xq_fn, List.filter_nil, Nat.reduceBEq, Bool.not_true, Bool.not_false, Bool.and_true, Bool.and_false, Bool.false_and, Bool.true_and, if_true, if_false, Bool.false_eq_true, reduceIte, xc_i, xc_j, xc_r, xc_n, List.nil_append, List.cons_append, Option.toList_some, Option.toList_none]
                exact xm_go_wk (by simp [Value.category]) hg
            unfold fiL
            with_reducible refine xm_go_blk b_X10_fits_76 k_X10_fits_76 ?_
            refine by_aload_n rfl ?_
            refine by_getf cn_167 fl_10_11 (by first | exact rfl | assumption | exact ps_14 hpp) (by decide) ?_
            refine by_iload rfl ?_
            simp (disch := first | exact Nat.ne_of_beq_eq_false rfl | exact rfl | omega) only [nI_add, xa_sub, xa_mul, pk_div, nm_mod, xa_shr, xa_and7, xa_and1, xa_and255, xa_by_and, nI_m1, Nat.add_sub_cancel, Nat.reducePow, Nat.zero_add, Nat.add_zero, Nat.reduceAdd, Nat.reduceMul, Nat.reduceSub, xf_same, xq_ff, xq_fo, xf_1, xf_2, xs_1, xs_2, xs_same, xq_so, xj_1, xj_2, xj_same, xq_jo, xq_sa1, xq_same, xq_other, upd_s, oI_n, oI_s, pt_1 F2 hpp, k15]
            first | refine by_iald (by first | exact rfl | assumption | exact ps_1 hpp | exact ps_2 hpp | exact ps_3 hpp | exact ps_4 hpp | exact ps_5 hpp | exact ps_6 hpp | exact ps_7 hpp | exact ps_8 hpp | exact ps_9 hpp | exact ps_10 hpp | exact ps_11 hpp | exact ps_15 hpp | exact ps_16 hpp | exact ps_17 hpp | exact ps_18 hpp | exact ps_19 hpp | exact ps_21 hpp | exact ps_22 hpp | exact ps_23 hpp | exact ps_24 hpp) ⟨by omega, by omega⟩ ?_ | refine by_tald rfl rfl ⟨by omega, by omega⟩ ?_
            refine by_iconst ci_2 ?_
            refine by_ic_ne 112 rfl ?_
            simp (disch := first | exact Nat.ne_of_beq_eq_false rfl | exact rfl | omega) only [nI_add, xa_sub, xa_mul, pk_div, nm_mod, xa_shr, xa_and7, xa_and1, xa_and255, xa_by_and, nI_m1, Nat.add_sub_cancel, Nat.reducePow, Nat.zero_add, Nat.add_zero, Nat.reduceAdd, Nat.reduceMul, Nat.reduceSub, xf_same, xq_ff, xq_fo, xf_1, xf_2, xs_1, xs_2, xs_same, xq_so, xj_1, xj_2, xj_same, xq_jo, xq_sa1, xq_same, xq_other, upd_s, oI_n, oI_s, xv_0, xv_1, xv_2, xv_3, xm_p1, xm_p2, xq_fp, xq_fn, List.filter_nil, Nat.reduceBEq, Bool.not_true, Bool.not_false, Bool.and_true, Bool.and_false, Bool.false_and, Bool.true_and, if_true, if_false, Bool.false_eq_true, reduceIte, xc_i, xc_j, xc_r, xc_n, List.nil_append, List.cons_append, Option.toList_some, Option.toList_none, nI_ltJ, nI_leJ, nI_eqJ, nI_ltz, nI_gez, nI_gtz, nI_lez, nI_eqz, m1_ltz, m1_gez, true_imp_iff, false_imp_iff, true_and, and_true, ne_eq, not_false_eq_true, not_true_eq_false, Nat.reduceEqDiff, Nat.reduceLT, Nat.reduceLeDiff, pt_1 F2 hpp, k15]
            with_reducible refine xm_go_blk b_X10_fits_112 k_X10_fits_112 ?_
            refine by_aload_n rfl ?_
            refine by_iload rfl ?_
            refine by_inv1 cn_167 lk_10_83 (by rw [xe_cnt]; decide) is_127 np_127 cn_127 (by first | exact rfl | assumption | exact ps_12 hpp) (Nat.le_of_ble_eq_true rfl) ?_
            refine sp_bit hr hb hrow2.1 hrow2.2.1 hrow2.2.2.1 (by omega) ?_
            rw [rowIs_bit hrow2]
            have hb2 := by_bit_lt l at'
            by_cases e0 : by_bit l at' = 0
            · rw [e0]
              with_reducible refine xm_go_blk b_X10_fits_118 k_X10_fits_118 ?_
              refine by_if_ne 131 rfl ?_
              simp (disch := first | exact Nat.ne_of_beq_eq_false rfl | exact rfl | omega) only [nI_add, xa_sub, xa_mul, pk_div, nm_mod, xa_shr, xa_and7, xa_and1, xa_and255, xa_by_and, nI_m1, Nat.add_sub_cancel, Nat.reducePow, Nat.zero_add, Nat.add_zero, Nat.reduceAdd, Nat.reduceMul, Nat.reduceSub, xf_same, xq_ff, xq_fo, xf_1, xf_2, xs_1, xs_2, xs_same, xq_so, xj_1, xj_2, xj_same, xq_jo, xq_sa1, xq_same, xq_other, upd_s, oI_n, oI_s, xv_0, xv_1, xv_2, xv_3, xm_p1, xm_p2, xq_fp, xq_fn, List.filter_nil, Nat.reduceBEq, Bool.not_true, Bool.not_false, Bool.and_true, Bool.and_false, Bool.false_and, Bool.true_and, if_true, if_false, Bool.false_eq_true, reduceIte, xc_i, xc_j, xc_r, xc_n, List.nil_append, List.cons_append, Option.toList_some, Option.toList_none, nI_ltJ, nI_leJ, nI_eqJ, nI_ltz, nI_gez, nI_gtz, nI_lez, nI_eqz, m1_ltz, m1_gez, true_imp_iff, false_imp_iff, true_and, and_true, ne_eq, not_false_eq_true, not_true_eq_false, Nat.reduceEqDiff, Nat.reduceLT, Nat.reduceLeDiff, pt_2 F2 hpp, k16]
              with_reducible refine xm_go_blk b_X10_fits_121 k_X10_fits_121 ?_
              refine by_aload_n rfl ?_
              refine by_getf cn_167 fl_10_15 (by first | exact rfl | assumption | exact ps_14 hpp) (by decide) ?_
              refine by_iload rfl ?_
              simp (disch := first | exact Nat.ne_of_beq_eq_false rfl | exact rfl | omega) only [nI_add, xa_sub, xa_mul, pk_div, nm_mod, xa_shr, xa_and7, xa_and1, xa_and255, xa_by_and, nI_m1, Nat.add_sub_cancel, Nat.reducePow, Nat.zero_add, Nat.add_zero, Nat.reduceAdd, Nat.reduceMul, Nat.reduceSub, xf_same, xq_ff, xq_fo, xf_1, xf_2, xs_1, xs_2, xs_same, xq_so, xj_1, xj_2, xj_same, xq_jo, xq_sa1, xq_same, xq_other, upd_s, oI_n, oI_s, pt_2 F2 hpp, k16]
              first | refine by_iald (by first | exact rfl | assumption | exact ps_1 hpp | exact ps_2 hpp | exact ps_3 hpp | exact ps_4 hpp | exact ps_5 hpp | exact ps_6 hpp | exact ps_7 hpp | exact ps_8 hpp | exact ps_9 hpp | exact ps_10 hpp | exact ps_11 hpp | exact ps_15 hpp | exact ps_16 hpp | exact ps_17 hpp | exact ps_18 hpp | exact ps_19 hpp | exact ps_21 hpp | exact ps_22 hpp | exact ps_23 hpp | exact ps_24 hpp) ⟨by omega, by omega⟩ ?_ | refine by_tald rfl rfl ⟨by omega, by omega⟩ ?_
              refine by_goto 138 rfl ?_
              simp (disch := first | exact Nat.ne_of_beq_eq_false rfl | exact rfl | omega) only [nI_add, xa_sub, xa_mul, pk_div, nm_mod, xa_shr, xa_and7, xa_and1, xa_and255, xa_by_and, nI_m1, Nat.add_sub_cancel, Nat.reducePow, Nat.zero_add, Nat.add_zero, Nat.reduceAdd, Nat.reduceMul, Nat.reduceSub, xf_same, xq_ff, xq_fo, xf_1, xf_2, xs_1, xs_2, xs_same, xq_so, xj_1, xj_2, xj_same, xq_jo, xq_sa1, xq_same, xq_other, upd_s, oI_n, oI_s, xv_0, xv_1, xv_2, xv_3, xm_p1, xm_p2, xq_fp, xq_fn, List.filter_nil, Nat.reduceBEq, Bool.not_true, Bool.not_false, Bool.and_true, Bool.and_false, Bool.false_and, Bool.true_and, if_true, if_false, Bool.false_eq_true, reduceIte, xc_i, xc_j, xc_r, xc_n, List.nil_append, List.cons_append, Option.toList_some, Option.toList_none, pt_2 F2 hpp, k16]
              exact xm_go_wk (by simp [Value.category]) (part _ (Or.inl rfl) (by rw [x2]; simp only [ty_val, e0, if_true]))
            · have e1 : by_bit l at' = 1 := by omega
              rw [e1]
              with_reducible refine xm_go_blk b_X10_fits_118 k_X10_fits_118 ?_
              refine by_if_ne 131 rfl ?_
              simp (disch := first | exact Nat.ne_of_beq_eq_false rfl | exact rfl | omega) only [nI_add, xa_sub, xa_mul, pk_div, nm_mod, xa_shr, xa_and7, xa_and1, xa_and255, xa_by_and, nI_m1, Nat.add_sub_cancel, Nat.reducePow, Nat.zero_add, Nat.add_zero, Nat.reduceAdd, Nat.reduceMul, Nat.reduceSub, xf_same, xq_ff, xq_fo, xf_1, xf_2, xs_1, xs_2, xs_same, xq_so, xj_1, xj_2, xj_same, xq_jo, xq_sa1, xq_same, xq_other, upd_s, oI_n, oI_s, xv_0, xv_1, xv_2, xv_3, xm_p1, xm_p2, xq_fp, xq_fn, List.filter_nil, Nat.reduceBEq, Bool.not_true, Bool.not_false, Bool.and_true, Bool.and_false, Bool.false_and, Bool.true_and, if_true, if_false, Bool.false_eq_true, reduceIte, xc_i, xc_j, xc_r, xc_n, List.nil_append, List.cons_append, Option.toList_some, Option.toList_none, nI_ltJ, nI_leJ, nI_eqJ, nI_ltz, nI_gez, nI_gtz, nI_lez, nI_eqz, m1_ltz, m1_gez, true_imp_iff, false_imp_iff, true_and, and_true, ne_eq, not_false_eq_true, not_true_eq_false, Nat.reduceEqDiff, Nat.reduceLT, Nat.reduceLeDiff, pt_3 F2 hpp, k17]
              with_reducible refine xm_go_blk b_X10_fits_131 k_X10_fits_131 ?_
              refine by_aload_n rfl ?_
              refine by_getf cn_167 fl_10_18 (by first | exact rfl | assumption | exact ps_14 hpp) (by decide) ?_
              refine by_iload rfl ?_
              simp (disch := first | exact Nat.ne_of_beq_eq_false rfl | exact rfl | omega) only [nI_add, xa_sub, xa_mul, pk_div, nm_mod, xa_shr, xa_and7, xa_and1, xa_and255, xa_by_and, nI_m1, Nat.add_sub_cancel, Nat.reducePow, Nat.zero_add, Nat.add_zero, Nat.reduceAdd, Nat.reduceMul, Nat.reduceSub, xf_same, xq_ff, xq_fo, xf_1, xf_2, xs_1, xs_2, xs_same, xq_so, xj_1, xj_2, xj_same, xq_jo, xq_sa1, xq_same, xq_other, upd_s, oI_n, oI_s, pt_3 F2 hpp, k17]
              first | refine by_iald (by first | exact rfl | assumption | exact ps_1 hpp | exact ps_2 hpp | exact ps_3 hpp | exact ps_4 hpp | exact ps_5 hpp | exact ps_6 hpp | exact ps_7 hpp | exact ps_8 hpp | exact ps_9 hpp | exact ps_10 hpp | exact ps_11 hpp | exact ps_15 hpp | exact ps_16 hpp | exact ps_17 hpp | exact ps_18 hpp | exact ps_19 hpp | exact ps_21 hpp | exact ps_22 hpp | exact ps_23 hpp | exact ps_24 hpp) ⟨by omega, by omega⟩ ?_ | refine by_tald rfl rfl ⟨by omega, by omega⟩ ?_
              refine by_nil ?_
              simp (disch := first | exact Nat.ne_of_beq_eq_false rfl | exact rfl | omega) only [nI_add, xa_sub, xa_mul, pk_div, nm_mod, xa_shr, xa_and7, xa_and1, xa_and255, xa_by_and, nI_m1, Nat.add_sub_cancel, Nat.reducePow, Nat.zero_add, Nat.add_zero, Nat.reduceAdd, Nat.reduceMul, Nat.reduceSub, xf_same, xq_ff, xq_fo, xf_1, xf_2, xs_1, xs_2, xs_same, xq_so, xj_1, xj_2, xj_same, xq_jo, xq_sa1, xq_same, xq_other, upd_s, oI_n, oI_s, xv_0, xv_1, xv_2, xv_3, xm_p1, xm_p2, xq_fp, xq_fn, List.filter_nil, Nat.reduceBEq, Bool.not_true, Bool.not_false, Bool.and_true, Bool.and_false, Bool.false_and, Bool.true_and, if_true, if_false, Bool.false_eq_true, reduceIte, xc_i, xc_j, xc_r, xc_n, List.nil_append, List.cons_append, Option.toList_some, Option.toList_none, pt_3 F2 hpp, k17]
              exact xm_go_wk (by simp [Value.category]) (part _ (Or.inr rfl) (by rw [x2]; simp only [ty_val, e0, if_false]))
          · -- a product
            obtain ⟨lt1, lt2⟩ := x1.2.2 (by omega)
            rw [e] at x2 k15
            have x2 : tr i = .mul (tr (L i)) (tr (R i)) := x2
            have ww : ty_w (tr i) = ty_w (tr (L i)) + ty_w (tr (R i)) := by rw [x2]; rfl
            have hpm := mu_prod hnf x2 lt1 lt2
            unfold fiL
            with_reducible refine xm_go_blk b_X10_fits_76 k_X10_fits_76 ?_
            refine by_aload_n rfl ?_
            refine by_getf cn_167 fl_10_11 (by first | exact rfl | assumption | exact ps_14 hpp) (by decide) ?_
            refine by_iload rfl ?_
            simp (disch := first | exact Nat.ne_of_beq_eq_false rfl | exact rfl | omega) only [nI_add, xa_sub, xa_mul, pk_div, nm_mod, xa_shr, xa_and7, xa_and1, xa_and255, xa_by_and, nI_m1, Nat.add_sub_cancel, Nat.reducePow, Nat.zero_add, Nat.add_zero, Nat.reduceAdd, Nat.reduceMul, Nat.reduceSub, xf_same, xq_ff, xq_fo, xf_1, xf_2, xs_1, xs_2, xs_same, xq_so, xj_1, xj_2, xj_same, xq_jo, xq_sa1, xq_same, xq_other, upd_s, oI_n, oI_s, pt_1 F2 hpp, pt_3 F2 hpp, k15, k17]
            first | refine by_iald (by first | exact rfl | assumption | exact ps_1 hpp | exact ps_2 hpp | exact ps_3 hpp | exact ps_4 hpp | exact ps_5 hpp | exact ps_6 hpp | exact ps_7 hpp | exact ps_8 hpp | exact ps_9 hpp | exact ps_10 hpp | exact ps_11 hpp | exact ps_15 hpp | exact ps_16 hpp | exact ps_17 hpp | exact ps_18 hpp | exact ps_19 hpp | exact ps_21 hpp | exact ps_22 hpp | exact ps_23 hpp | exact ps_24 hpp) ⟨by omega, by omega⟩ ?_ | refine by_tald rfl rfl ⟨by omega, by omega⟩ ?_
            refine by_iconst ci_2 ?_
            refine by_ic_ne 112 rfl ?_
            simp (disch := first | exact Nat.ne_of_beq_eq_false rfl | exact rfl | omega) only [nI_add, xa_sub, xa_mul, pk_div, nm_mod, xa_shr, xa_and7, xa_and1, xa_and255, xa_by_and, nI_m1, Nat.add_sub_cancel, Nat.reducePow, Nat.zero_add, Nat.add_zero, Nat.reduceAdd, Nat.reduceMul, Nat.reduceSub, xf_same, xq_ff, xq_fo, xf_1, xf_2, xs_1, xs_2, xs_same, xq_so, xj_1, xj_2, xj_same, xq_jo, xq_sa1, xq_same, xq_other, upd_s, oI_n, oI_s, xv_0, xv_1, xv_2, xv_3, xm_p1, xm_p2, xq_fp, xq_fn, List.filter_nil, Nat.reduceBEq, Bool.not_true, Bool.not_false, Bool.and_true, Bool.and_false, Bool.false_and, Bool.true_and, if_true, if_false, Bool.false_eq_true, reduceIte, xc_i, xc_j, xc_r, xc_n, List.nil_append, List.cons_append, Option.toList_some, Option.toList_none, nI_ltJ, nI_leJ, nI_eqJ, nI_ltz, nI_gez, nI_gtz, nI_lez, nI_eqz, m1_ltz, m1_gez, true_imp_iff, false_imp_iff, true_and, and_true, ne_eq, not_false_eq_true, not_true_eq_false, Nat.reduceEqDiff, Nat.reduceLT, Nat.reduceLeDiff, pt_1 F2 hpp, pt_3 F2 hpp, k15, k17]
            with_reducible refine xm_go_blk b_X10_fits_87 k_X10_fits_87 ?_
            refine by_aload_n rfl ?_
            refine by_aload_n rfl ?_
            refine by_getf cn_167 fl_10_18 (by first | exact rfl | assumption | exact ps_14 hpp) (by decide) ?_
            refine by_iload rfl ?_
            simp (disch := first | exact Nat.ne_of_beq_eq_false rfl | exact rfl | omega) only [nI_add, xa_sub, xa_mul, pk_div, nm_mod, xa_shr, xa_and7, xa_and1, xa_and255, xa_by_and, nI_m1, Nat.add_sub_cancel, Nat.reducePow, Nat.zero_add, Nat.add_zero, Nat.reduceAdd, Nat.reduceMul, Nat.reduceSub, xf_same, xq_ff, xq_fo, xf_1, xf_2, xs_1, xs_2, xs_same, xq_so, xj_1, xj_2, xj_same, xq_jo, xq_sa1, xq_same, xq_other, upd_s, oI_n, oI_s, pt_1 F2 hpp, pt_3 F2 hpp, k15, k17]
            first | refine by_iald (by first | exact rfl | assumption | exact ps_1 hpp | exact ps_2 hpp | exact ps_3 hpp | exact ps_4 hpp | exact ps_5 hpp | exact ps_6 hpp | exact ps_7 hpp | exact ps_8 hpp | exact ps_9 hpp | exact ps_10 hpp | exact ps_11 hpp | exact ps_15 hpp | exact ps_16 hpp | exact ps_17 hpp | exact ps_18 hpp | exact ps_19 hpp | exact ps_21 hpp | exact ps_22 hpp | exact ps_23 hpp | exact ps_24 hpp) ⟨by omega, by omega⟩ ?_ | refine by_tald rfl rfl ⟨by omega, by omega⟩ ?_
            simp (disch := first | exact Nat.ne_of_beq_eq_false rfl | exact rfl | omega) only [nI_add, xa_sub, xa_mul, pk_div, nm_mod, xa_shr, xa_and7, xa_and1, xa_and255, xa_by_and, nI_m1, Nat.add_sub_cancel, Nat.reducePow, Nat.zero_add, Nat.add_zero, Nat.reduceAdd, Nat.reduceMul, Nat.reduceSub, xf_same, xq_ff, xq_fo, xf_1, xf_2, xs_1, xs_2, xs_same, xq_so, xj_1, xj_2, xj_same, xq_jo, xq_sa1, xq_same, xq_other, upd_s, oI_n, oI_s, xv_0, xv_1, xv_2, xv_3, xm_p1, xm_p2, xq_fp, xq_fn, List.filter_nil, Nat.reduceBEq, Bool.not_true, Bool.not_false, Bool.and_true, Bool.and_false, Bool.false_and, Bool.true_and, if_true, if_false, Bool.false_eq_true, reduceIte, xc_i, xc_j, xc_r, xc_n, List.nil_append, List.cons_append, Option.toList_some, Option.toList_none, pt_1 F2 hpp, pt_3 F2 hpp, k15, k17]
            refine by_inv1 cn_167 lk_10_78 (by rw [xe_cnt]; decide) is_170 np_170 cn_170 (by first | exact rfl | assumption | exact ps_14 hpp) (Nat.le_of_ble_eq_true rfl) ?_
            refine fi_push hpp hcn hS2 (by omega) (by omega) (fun h3 hS3 => ?_)
            have k16' : h3.1 (pp + 16) i = nI (L i) := by rw [hS3.2.1.1 (pp + 16) (by simp)]; exact x5
            with_reducible refine xm_go_blk b_X10_fits_98 k_X10_fits_98 ?_
            refine by_aload_n rfl ?_
            refine by_aload_n rfl ?_
            refine by_getf cn_167 fl_10_15 (by first | exact rfl | assumption | exact ps_14 hpp) (by decide) ?_
            refine by_iload rfl ?_
            simp (disch := first | exact Nat.ne_of_beq_eq_false rfl | exact rfl | omega) only [nI_add, xa_sub, xa_mul, pk_div, nm_mod, xa_shr, xa_and7, xa_and1, xa_and255, xa_by_and, nI_m1, Nat.add_sub_cancel, Nat.reducePow, Nat.zero_add, Nat.add_zero, Nat.reduceAdd, Nat.reduceMul, Nat.reduceSub, xf_same, xq_ff, xq_fo, xf_1, xf_2, xs_1, xs_2, xs_same, xq_so, xj_1, xj_2, xj_same, xq_jo, xq_sa1, xq_same, xq_other, upd_s, oI_n, oI_s, pt_2 hS3.1 hpp, k16']
            first | refine by_iald (by first | exact rfl | assumption | exact ps_1 hpp | exact ps_2 hpp | exact ps_3 hpp | exact ps_4 hpp | exact ps_5 hpp | exact ps_6 hpp | exact ps_7 hpp | exact ps_8 hpp | exact ps_9 hpp | exact ps_10 hpp | exact ps_11 hpp | exact ps_15 hpp | exact ps_16 hpp | exact ps_17 hpp | exact ps_18 hpp | exact ps_19 hpp | exact ps_21 hpp | exact ps_22 hpp | exact ps_23 hpp | exact ps_24 hpp) ⟨by omega, by omega⟩ ?_ | refine by_tald rfl rfl ⟨by omega, by omega⟩ ?_
            simp (disch := first | exact Nat.ne_of_beq_eq_false rfl | exact rfl | omega) only [nI_add, xa_sub, xa_mul, pk_div, nm_mod, xa_shr, xa_and7, xa_and1, xa_and255, xa_by_and, nI_m1, Nat.add_sub_cancel, Nat.reducePow, Nat.zero_add, Nat.add_zero, Nat.reduceAdd, Nat.reduceMul, Nat.reduceSub, xf_same, xq_ff, xq_fo, xf_1, xf_2, xs_1, xs_2, xs_same, xq_so, xj_1, xj_2, xj_same, xq_jo, xq_sa1, xq_same, xq_other, upd_s, oI_n, oI_s, xv_0, xv_1, xv_2, xv_3, xm_p1, xm_p2, xq_fp, xq_fn, List.filter_nil, Nat.reduceBEq, Bool.not_true, Bool.not_false, Bool.and_true, Bool.and_false, Bool.false_and, Bool.true_and, if_true, if_false, Bool.false_eq_true, reduceIte, xc_i, xc_j, xc_r, xc_n, List.nil_append, List.cons_append, Option.toList_some, Option.toList_none, pt_2 hS3.1 hpp, k16']
            refine by_inv1 cn_167 lk_10_78 (by rw [xe_cnt]; decide) is_170 np_170 cn_170 (by first | exact rfl | assumption | exact ps_14 hpp) (Nat.le_of_ble_eq_true rfl) ?_
            refine fi_push hpp hcn hS3 (by simp only [List.length_cons]; omega) (by omega) (fun h4 hS4 => ?_)
            have hg := ih (turn + 1) at' (L i :: R i :: q) h4 (by simp only [muL]; omega) (by omega) (by simp only [wiL]; omega) hS4 (by
              rw [hv, x2]
              simp only [List.map_cons, ty_vals, ty_val, ty_w]
              rw [Bool.and_assoc, Nat.add_assoc])
            unfold fiL at hg
            with_reducible refine xm_go_blk b_X10_fits_109 k_X10_fits_109 ?_
            refine by_goto 180 rfl ?_
            with_reducible refine xm_go_blk b_X10_fits_180 k_X10_fits_180 ?_
            refine by_iinc (by rw [ml_167]; decide) rfl ci_1 ?_
            refine by_goto 16 rfl ?_
            simp (disch := first | exact Nat.ne_of_beq_eq_false rfl | exact rfl | omega) only [nI_add, xa_sub, xa_mul, pk_div, nm_mod, xa_shr, xa_and7, xa_and1, xa_and255, xa_by_and, nI_m1, Nat.add_sub_cancel, Nat.reducePow, Nat.zero_add, Nat.add_zero, Nat.reduceAdd, Nat.reduceMul, Nat.reduceSub, xf_same, xq_ff, xq_fo, xf_1, xf_2, xs_1, xs_2, xs_same, xq_so, xj_1, xj_2, xj_same, xq_jo, xq_sa1, xq_same, xq_other, upd_s, oI_n, oI_s, xv_0, xv_1, xv_2, xv_3, xm_p1, xm_p2, xq_fp, xq_fn, List.filter_nil, Nat.reduceBEq, Bool.not_true, Bool.not_false, Bool.and_true, Bool.and_false, Bool.false_and, Bool.true_and, if_true, if_false, Bool.false_eq_true, reduceIte, xc_i, xc_j, xc_r, xc_n, List.nil_append, List.cons_append, Option.toList_some, Option.toList_none]
            exact xm_go_wk (by simp [Value.category]) hg
  refine xq_in rfl ?_
  simp only [xq_a0, xq_aI, xq_aJ, xq_aR, Nat.reduceAdd]
  with_reducible refine xm_go_blk b_X10_fits_0 k_X10_fits_0 ?_
  refine by_iload_n rfl ?_
  refine by_istore (by rw [ml_167]; decide) ?_
  refine by_aload_n rfl ?_
  refine by_iconst ci_0 ?_
  refine by_putf cn_167 fl_10_62 (by first | exact rfl | assumption | exact ps_14 hpp) (by decide) nf_10_11 ft_10_11 (by first | rfl | assumption) (by first | rfl | assumption) ?_
  refine by_aload_n rfl ?_
  refine by_iload_n rfl ?_
  simp (disch := first | exact Nat.ne_of_beq_eq_false rfl | exact rfl | omega) only [nI_add, xa_sub, xa_mul, pk_div, nm_mod, xa_shr, xa_and7, xa_and1, xa_and255, xa_by_and, nI_m1, Nat.add_sub_cancel, Nat.reducePow, Nat.zero_add, Nat.add_zero, Nat.reduceAdd, Nat.reduceMul, Nat.reduceSub, xf_same, xq_ff, xq_fo, xf_1, xf_2, xs_1, xs_2, xs_same, xq_so, xj_1, xj_2, xj_same, xq_jo, xq_sa1, xq_same, xq_other, upd_s, oI_n, oI_s, xv_0, xv_1, xv_2, xv_3, xm_p1, xm_p2, xq_fp, xq_fn, List.filter_nil, Nat.reduceBEq, Bool.not_true, Bool.not_false, Bool.and_true, Bool.and_false, Bool.false_and, Bool.true_and, if_true, if_false, Bool.false_eq_true, reduceIte, xc_i, xc_j, xc_r, xc_n, List.nil_append, List.cons_append, Option.toList_some, Option.toList_none]
  refine by_inv1 cn_167 lk_10_78 (by rw [xe_cnt]; decide) is_170 np_170 cn_170 (by first | exact rfl | assumption | exact ps_14 hpp) (Nat.le_of_ble_eq_true rfl) ?_
  have f1 : Fr [pp + 24] [(pp + 14, 11)] h (xm_sf h (pp + 14) 11 (.int (nI 0))) := Fr_sf Fr_rf (by simp)
  have hS1 : fiS h (xm_sf h (pp + 14) 11 (.int (nI 0))) pp cn tr [] := ⟨Fr_XF hF f1 (fi_fin hpp), f1, trivial, by simp only [xf_same]; rfl, trivial, fun j hj => absurd hj (by simp)⟩
  refine fi_push hpp hcn hS1 (by simp only [List.length_nil]; omega) hw (fun h2 hS2 => ?_)
  have hmu : muF tr t ≤ 28725300 := by
    unfold muF
    split
    · omega
    · have : ty_w (tr t) * (t + 1) ≤ 2048 * 14026 := Nat.mul_le_mul hw (by omega)
      omega
  have hg := key 28725300 0 fr [t] h2 (by simp only [muL]; omega) (by omega) (by simp only [wiL]; omega) hS2 (by simp only [List.map_cons, List.map_nil, ty_vals, Bool.and_true])
  unfold fiL at hg
  with_reducible refine xm_go_blk b_X10_fits_13 k_X10_fits_13 ?_
  refine by_iconst ci_0 ?_
  refine by_istore (by rw [ml_167]; decide) ?_
  refine by_nil ?_
  simp (disch := first | exact Nat.ne_of_beq_eq_false rfl | exact rfl | omega) only [nI_add, xa_sub, xa_mul, pk_div, nm_mod, xa_shr, xa_and7, xa_and1, xa_and255, xa_by_and, nI_m1, Nat.add_sub_cancel, Nat.reducePow, Nat.zero_add, Nat.add_zero, Nat.reduceAdd, Nat.reduceMul, Nat.reduceSub, xf_same, xq_ff, xq_fo, xf_1, xf_2, xs_1, xs_2, xs_same, xq_so, xj_1, xj_2, xj_same, xq_jo, xq_sa1, xq_same, xq_other, upd_s, oI_n, oI_s, xv_0, xv_1, xv_2, xv_3, xm_p1, xm_p2, xq_fp, xq_fn, List.filter_nil, Nat.reduceBEq, Bool.not_true, Bool.not_false, Bool.and_true, Bool.and_false, Bool.false_and, Bool.true_and, if_true, if_false, Bool.false_eq_true, reduceIte, xc_i, xc_j, xc_r, xc_n, List.nil_append, List.cons_append, Option.toList_some, Option.toList_none]
  exact xm_go_wk (by simp [Value.category]) hg
end FI
