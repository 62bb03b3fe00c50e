/-! ===== the class: writePart, writeValue ===== -/
section WP
variable {sc : xm_Sc} {d pp cn i p : Nat} {tr : Nat → Ty} {K L R : Nat → Nat} {l dn : List Nat} {q : List itm} {h : xm_H} {post : xm_Po}
theorem wp_2 (hF : XF h) (hpp : pp = 52 ∨ pp = 77) (hT : tyT h pp cn tr K L R) (hcn : cn ≤ 2826) (hi : i < cn) (hK : K i = 2) (hw4 : ty_word (tr i) < 4) (hpen : penIs h dn) (hS : xSt h pp cn tr q) (hb : q.length + 3 * i + 3 ≤ 3 * cn) (hp : wpP h post pp cn tr (by_bit l) dn q p i) : xm_T (XE sc) (d + 4) 175 [.ref (pp + 14), .ref 1, .int (nI p), .int (nI i), .ref 5] h post := by
  obtain ⟨⟨t1, t2, t3⟩, ta, tok, tK, _, _, _, tw, _⟩ := hT.2.1 i hi
  rw [hK] at tK ta
  have et : tr i = .mul (tr (L i)) (tr (R i)) := ta
  have hne : ty_word (tr i) ≠ 1 := by
    have := ty_word_mul (tr (L i)) (tr (R i))
    rw [← et] at this; omega
  rw [Nat.min_eq_right (by omega)] at tw
  refine xq_in rfl ?_
  simp only [xq_a0, xq_aI, xq_aJ, xq_aR, Nat.reduceAdd]
  have hne' : (ty_word (tr i) = 1) = False := eq_false hne
  with_reducible refine xm_go_blk b_X10_writePart_0 k_X10_writePart_0 ?_
  refine by_aload_n rfl ?_
  refine by_getf cn_175 fl_10_11 (by first | exact rfl | assumption | exact ps_14 hpp) (by decide) ?_
  refine by_iload_n rfl ?_
  simp (disch := first | exact Nat.ne_of_beq_eq_false rfl | exact rfl | omega) only [nI_add, xa_sub, xa_mul, pk_div, nm_mod, xa_shr, xa_and7, xa_and1, xa_and255, xa_by_and, nI_m1, Nat.add_sub_cancel, Nat.reducePow, Nat.zero_add, Nat.add_zero, Nat.reduceAdd, Nat.reduceMul, Nat.reduceSub, xf_same, xq_ff, xq_fo, xf_1, xf_2, xs_1, xs_2, xs_same, xq_so, xj_1, xj_2, xj_same, xq_jo, xq_sa1, xq_same, xq_other, upd_s, oI_n, oI_s, pt_1 hF hpp, tK, pt_5 hF hpp, tw, hne']
  first | refine by_iald (by first | exact rfl | assumption | exact ps_1 hpp | exact ps_2 hpp | exact ps_3 hpp | exact ps_4 hpp | exact ps_5 hpp | exact ps_6 hpp | exact ps_7 hpp | exact ps_8 hpp | exact ps_9 hpp | exact ps_10 hpp | exact ps_11 hpp | exact ps_15 hpp | exact ps_16 hpp | exact ps_17 hpp | exact ps_18 hpp | exact ps_19 hpp | exact ps_21 hpp | exact ps_22 hpp | exact ps_23 hpp | exact ps_24 hpp) ⟨by omega, by omega⟩ ?_ | refine by_tald rfl rfl ⟨by omega, by omega⟩ ?_
  refine by_if_ne 18 rfl ?_
  simp (disch := first | exact Nat.ne_of_beq_eq_false rfl | exact rfl | omega) only [nI_add, xa_sub, xa_mul, pk_div, nm_mod, xa_shr, xa_and7, xa_and1, xa_and255, xa_by_and, nI_m1, Nat.add_sub_cancel, Nat.reducePow, Nat.zero_add, Nat.add_zero, Nat.reduceAdd, Nat.reduceMul, Nat.reduceSub, xf_same, xq_ff, xq_fo, xf_1, xf_2, xs_1, xs_2, xs_same, xq_so, xj_1, xj_2, xj_same, xq_jo, xq_sa1, xq_same, xq_other, upd_s, oI_n, oI_s, xv_0, xv_1, xv_2, xv_3, xm_p1, xm_p2, xq_fp, xq_fn, List.filter_nil, Nat.reduceBEq, Bool.not_true, Bool.not_false, Bool.and_true, Bool.and_false, Bool.false_and, Bool.true_and, if_true, if_false, Bool.false_eq_true, reduceIte, xc_i, xc_j, xc_r, xc_n, List.nil_append, List.cons_append, Option.toList_some, Option.toList_none, nI_ltJ, nI_leJ, nI_eqJ, nI_ltz, nI_gez, nI_gtz, nI_lez, nI_eqz, m1_ltz, m1_gez, true_imp_iff, false_imp_iff, true_and, and_true, ne_eq, not_false_eq_true, not_true_eq_false, Nat.reduceEqDiff, Nat.reduceLT, Nat.reduceLeDiff, pt_1 hF hpp, tK, pt_5 hF hpp, tw, hne']
  with_reducible refine xm_go_blk b_X10_writePart_18 k_X10_writePart_18 ?_
  refine by_aload_n rfl ?_
  refine by_getf cn_175 fl_10_24 (by first | exact rfl | assumption | exact ps_14 hpp) (by decide) ?_
  refine by_iload_n rfl ?_
  simp (disch := first | exact Nat.ne_of_beq_eq_false rfl | exact rfl | omega) only [nI_add, xa_sub, xa_mul, pk_div, nm_mod, xa_shr, xa_and7, xa_and1, xa_and255, xa_by_and, nI_m1, Nat.add_sub_cancel, Nat.reducePow, Nat.zero_add, Nat.add_zero, Nat.reduceAdd, Nat.reduceMul, Nat.reduceSub, xf_same, xq_ff, xq_fo, xf_1, xf_2, xs_1, xs_2, xs_same, xq_so, xj_1, xj_2, xj_same, xq_jo, xq_sa1, xq_same, xq_other, upd_s, oI_n, oI_s, pt_1 hF hpp, tK, pt_5 hF hpp, tw, hne']
  first | refine by_iald (by first | exact rfl | assumption | exact ps_1 hpp | exact ps_2 hpp | exact ps_3 hpp | exact ps_4 hpp | exact ps_5 hpp | exact ps_6 hpp | exact ps_7 hpp | exact ps_8 hpp | exact ps_9 hpp | exact ps_10 hpp | exact ps_11 hpp | exact ps_15 hpp | exact ps_16 hpp | exact ps_17 hpp | exact ps_18 hpp | exact ps_19 hpp | exact ps_21 hpp | exact ps_22 hpp | exact ps_23 hpp | exact ps_24 hpp) ⟨by omega, by omega⟩ ?_ | refine by_tald rfl rfl ⟨by omega, by omega⟩ ?_
  refine by_iconst ci_1 ?_
  refine by_ic_ne 45 rfl ?_
  simp (disch := first | exact Nat.ne_of_beq_eq_false rfl | exact rfl | omega) only [nI_add, xa_sub, xa_mul, pk_div, nm_mod, xa_shr, xa_and7, xa_and1, xa_and255, xa_by_and, nI_m1, Nat.add_sub_cancel, Nat.reducePow, Nat.zero_add, Nat.add_zero, Nat.reduceAdd, Nat.reduceMul, Nat.reduceSub, xf_same, xq_ff, xq_fo, xf_1, xf_2, xs_1, xs_2, xs_same, xq_so, xj_1, xj_2, xj_same, xq_jo, xq_sa1, xq_same, xq_other, upd_s, oI_n, oI_s, xv_0, xv_1, xv_2, xv_3, xm_p1, xm_p2, xq_fp, xq_fn, List.filter_nil, Nat.reduceBEq, Bool.not_true, Bool.not_false, Bool.and_true, Bool.and_false, Bool.false_and, Bool.true_and, if_true, if_false, Bool.false_eq_true, reduceIte, xc_i, xc_j, xc_r, xc_n, List.nil_append, List.cons_append, Option.toList_some, Option.toList_none, nI_ltJ, nI_leJ, nI_eqJ, nI_ltz, nI_gez, nI_gtz, nI_lez, nI_eqz, m1_ltz, m1_gez, true_imp_iff, false_imp_iff, true_and, and_true, ne_eq, not_false_eq_true, not_true_eq_false, Nat.reduceEqDiff, Nat.reduceLT, Nat.reduceLeDiff, pt_1 hF hpp, tK, pt_5 hF hpp, tw, hne']
  with_reducible refine xm_go_blk b_X10_writePart_45 k_X10_writePart_45 ?_
  refine by_aload_n rfl ?_
  refine by_getf cn_175 fl_10_24 (by first | exact rfl | assumption | exact ps_14 hpp) (by decide) ?_
  refine by_iload_n rfl ?_
  simp (disch := first | exact Nat.ne_of_beq_eq_false rfl | exact rfl | omega) only [nI_add, xa_sub, xa_mul, pk_div, nm_mod, xa_shr, xa_and7, xa_and1, xa_and255, xa_by_and, nI_m1, Nat.add_sub_cancel, Nat.reducePow, Nat.zero_add, Nat.add_zero, Nat.reduceAdd, Nat.reduceMul, Nat.reduceSub, xf_same, xq_ff, xq_fo, xf_1, xf_2, xs_1, xs_2, xs_same, xq_so, xj_1, xj_2, xj_same, xq_jo, xq_sa1, xq_same, xq_other, upd_s, oI_n, oI_s, pt_1 hF hpp, tK, pt_5 hF hpp, tw, hne']
  first | refine by_iald (by first | exact rfl | assumption | exact ps_1 hpp | exact ps_2 hpp | exact ps_3 hpp | exact ps_4 hpp | exact ps_5 hpp | exact ps_6 hpp | exact ps_7 hpp | exact ps_8 hpp | exact ps_9 hpp | exact ps_10 hpp | exact ps_11 hpp | exact ps_15 hpp | exact ps_16 hpp | exact ps_17 hpp | exact ps_18 hpp | exact ps_19 hpp | exact ps_21 hpp | exact ps_22 hpp | exact ps_23 hpp | exact ps_24 hpp) ⟨by omega, by omega⟩ ?_ | refine by_tald rfl rfl ⟨by omega, by omega⟩ ?_
  refine by_iconst ci_4 ?_
  refine by_ic_lt 144 rfl ?_
  simp (disch := first | exact Nat.ne_of_beq_eq_false rfl | exact rfl | omega) only [nI_add, xa_sub, xa_mul, pk_div, nm_mod, xa_shr, xa_and7, xa_and1, xa_and255, xa_by_and, nI_m1, Nat.add_sub_cancel, Nat.reducePow, Nat.zero_add, Nat.add_zero, Nat.reduceAdd, Nat.reduceMul, Nat.reduceSub, xf_same, xq_ff, xq_fo, xf_1, xf_2, xs_1, xs_2, xs_same, xq_so, xj_1, xj_2, xj_same, xq_jo, xq_sa1, xq_same, xq_other, upd_s, oI_n, oI_s, xv_0, xv_1, xv_2, xv_3, xm_p1, xm_p2, xq_fp, xq_fn, List.filter_nil, Nat.reduceBEq, Bool.not_true, Bool.not_false, Bool.and_true, Bool.and_false, Bool.false_and, Bool.true_and, if_true, if_false, Bool.false_eq_true, reduceIte, xc_i, xc_j, xc_r, xc_n, List.nil_append, List.cons_append, Option.toList_some, Option.toList_none, nI_ltJ, nI_leJ, nI_eqJ, nI_ltz, nI_gez, nI_gtz, nI_lez, nI_eqz, m1_ltz, m1_gez, true_imp_iff, false_imp_iff, true_and, and_true, ne_eq, not_false_eq_true, not_true_eq_false, Nat.reduceEqDiff, Nat.reduceLT, Nat.reduceLeDiff, pt_1 hF hpp, tK, pt_5 hF hpp, tw, hne']
  refine ⟨fun c45 => ?_, fun c => absurd (by omega) c⟩
  with_reducible refine xm_go_blk b_X10_writePart_144 k_X10_writePart_144 ?_
  refine by_aload_n rfl ?_
  refine by_getf cn_175 fl_10_11 (by first | exact rfl | assumption | exact ps_14 hpp) (by decide) ?_
  refine by_iload_n rfl ?_
  simp (disch := first | exact Nat.ne_of_beq_eq_false rfl | exact rfl | omega) only [nI_add, xa_sub, xa_mul, pk_div, nm_mod, xa_shr, xa_and7, xa_and1, xa_and255, xa_by_and, nI_m1, Nat.add_sub_cancel, Nat.reducePow, Nat.zero_add, Nat.add_zero, Nat.reduceAdd, Nat.reduceMul, Nat.reduceSub, xf_same, xq_ff, xq_fo, xf_1, xf_2, xs_1, xs_2, xs_same, xq_so, xj_1, xj_2, xj_same, xq_jo, xq_sa1, xq_same, xq_other, upd_s, oI_n, oI_s, pt_1 hF hpp, tK, pt_5 hF hpp, tw, hne']
  first | refine by_iald (by first | exact rfl | assumption | exact ps_1 hpp | exact ps_2 hpp | exact ps_3 hpp | exact ps_4 hpp | exact ps_5 hpp | exact ps_6 hpp | exact ps_7 hpp | exact ps_8 hpp | exact ps_9 hpp | exact ps_10 hpp | exact ps_11 hpp | exact ps_15 hpp | exact ps_16 hpp | exact ps_17 hpp | exact ps_18 hpp | exact ps_19 hpp | exact ps_21 hpp | exact ps_22 hpp | exact ps_23 hpp | exact ps_24 hpp) ⟨by omega, by omega⟩ ?_ | refine by_tald rfl rfl ⟨by omega, by omega⟩ ?_
  refine by_iconst ci_2 ?_
  refine by_ic_ne 170 rfl ?_
  simp (disch := first | exact Nat.ne_of_beq_eq_false rfl | exact rfl | omega) only [nI_add, xa_sub, xa_mul, pk_div, nm_mod, xa_shr, xa_and7, xa_and1, xa_and255, xa_by_and, nI_m1, Nat.add_sub_cancel, Nat.reducePow, Nat.zero_add, Nat.add_zero, Nat.reduceAdd, Nat.reduceMul, Nat.reduceSub, xf_same, xq_ff, xq_fo, xf_1, xf_2, xs_1, xs_2, xs_same, xq_so, xj_1, xj_2, xj_same, xq_jo, xq_sa1, xq_same, xq_other, upd_s, oI_n, oI_s, xv_0, xv_1, xv_2, xv_3, xm_p1, xm_p2, xq_fp, xq_fn, List.filter_nil, Nat.reduceBEq, Bool.not_true, Bool.not_false, Bool.and_true, Bool.and_false, Bool.false_and, Bool.true_and, if_true, if_false, Bool.false_eq_true, reduceIte, xc_i, xc_j, xc_r, xc_n, List.nil_append, List.cons_append, Option.toList_some, Option.toList_none, nI_ltJ, nI_leJ, nI_eqJ, nI_ltz, nI_gez, nI_gtz, nI_lez, nI_eqz, m1_ltz, m1_gez, true_imp_iff, false_imp_iff, true_and, and_true, ne_eq, not_false_eq_true, not_true_eq_false, Nat.reduceEqDiff, Nat.reduceLT, Nat.reduceLeDiff, pt_1 hF hpp, tK, pt_5 hF hpp, tw, hne']
  with_reducible refine xm_go_blk b_X10_writePart_154 k_X10_writePart_154 ?_
  refine by_aload rfl ?_
  refine by_bipush cb_40 ?_
  refine by_inv1 cn_175 lk_10_90 (by rw [xe_cnt]; decide) is_133 np_133 cn_133 (by first | exact rfl | assumption | exact ps_12 hpp) (Nat.le_of_ble_eq_true rfl) ?_
  refine sp_pen hF hpen (by decide) (fun h1 f1 p1 => ?_)
  have F1 := Fr_XF hF f1 (by decide +kernel)
  have hT1 : tyT h1 pp cn tr K L R := tyT_fr hT f1 (by simp <;> omega) (by simp [taR] <;> omega)
  with_reducible refine xm_go_blk b_X10_writePart_161 k_X10_writePart_161 ?_
  refine by_aload_n rfl ?_
  refine by_iload_n rfl ?_
  refine by_bipush cb_44 ?_
  refine by_inv2 cn_175 lk_10_93 (by rw [xe_cnt]; decide) is_171 np_171 cn_171 (by first | exact rfl | assumption | exact ps_14 hpp) (Nat.le_of_ble_eq_true rfl) ?_
  refine sp_pushParts F1 hpp hcn hT1 hi (by omega) hb (by decide) (by decide) (xSt_fr hS f1 (by simp <;> omega) (by simp <;> omega)) (fun h2 f2 S2 => ?_)
  with_reducible refine xm_go_blk b_X10_writePart_168 k_X10_writePart_168 ?_
  refine by_iload_n rfl ?_
  refine by_iret ry_175 (by first | rfl | assumption) ?_
  refine hp h2 _ p (dn ++ [40]) (Fr_tr (Fr_mo f1 (by simp) (by simp [twT])) f2 (by simp) (by simp [twT])) (penIs_fr p1 f2 (by simp <;> omega) (by simp <;> omega) (by simp <;> omega)) S2 (by simp) ?_ ?_
  · rw [et] at hw4 ⊢
    simp only [vtx, if_neg (show ¬ 4 ≤ ty_word (.mul (tr (L i)) (tr (R i))) by omega), itv, ty_w, List.append_assoc, List.cons_append, List.nil_append, Nat.add_assoc]
  · rw [et]; simp only [wiT, ty_w]; omega
theorem wp_s (hF : XF h) (hpp : pp = 52 ∨ pp = 77) (hT : tyT h pp cn tr K L R) (hcn : cn ≤ 2826) (hi : i < cn) (hK : K i = 1) (hrow : rowIs h 1 2 l) (hw0 : ty_word (tr i) = 0) (hpw : p + ty_w (tr i) ≤ 2048) (hpen : penIs h dn) (hS : xSt h pp cn tr q) (hb : q.length + 3 * i + 3 ≤ 3 * cn) (hp : wpP h post pp cn tr (by_bit l) dn q p i) : xm_T (XE sc) (d + 4) 175 [.ref (pp + 14), .ref 1, .int (nI p), .int (nI i), .ref 5] h post := by
  obtain ⟨⟨t1, t2, t3⟩, ta, tok, tK, tL, tR, tW, tw, _⟩ := hT.2.1 i hi
  have lt := t3 (by omega)
  rw [hK] at tK ta
  have et : tr i = .add (tr (L i)) (tr (R i)) := ta
  have ew : ty_w (tr i) = 1 + max (ty_w (tr (L i))) (ty_w (tr (R i))) := by rw [et]; rfl
  rw [hw0] at tw
  have tw' : h.1 (pp + 19) i = nI 0 := tw
  have bl := by_bit_lt l p
  have wL := (hT.2.1 (L i) (by omega)).2.2.2.2.2.2.1
  have wR := (hT.2.1 (R i) (by omega)).2.2.2.2.2.2.1
  rw [Nat.min_eq_right (by omega)] at tW wL wR
  have hw0' := hw0
  rw [et] at hw0'
  refine xq_in rfl ?_
  simp only [xq_a0, xq_aI, xq_aJ, xq_aR, Nat.reduceAdd]
  with_reducible refine xm_go_blk b_X10_writePart_0 k_X10_writePart_0 ?_
  refine by_aload_n rfl ?_
  refine by_getf cn_175 fl_10_11 (by first | exact rfl | assumption | exact ps_14 hpp) (by decide) ?_
  refine by_iload_n rfl ?_
  simp (disch := first | exact Nat.ne_of_beq_eq_false rfl | exact rfl | omega) only [nI_add, xa_sub, xa_mul, pk_div, nm_mod, xa_shr, xa_and7, xa_and1, xa_and255, xa_by_and, nI_m1, Nat.add_sub_cancel, Nat.reducePow, Nat.zero_add, Nat.add_zero, Nat.reduceAdd, Nat.reduceMul, Nat.reduceSub, xf_same, xq_ff, xq_fo, xf_1, xf_2, xs_1, xs_2, xs_same, xq_so, xj_1, xj_2, xj_same, xq_jo, xq_sa1, xq_same, xq_other, upd_s, oI_n, oI_s, pt_1 hF hpp, tK, pt_5 hF hpp, tw']
  first | refine by_iald (by first | exact rfl | assumption | exact ps_1 hpp | exact ps_2 hpp | exact ps_3 hpp | exact ps_4 hpp | exact ps_5 hpp | exact ps_6 hpp | exact ps_7 hpp | exact ps_8 hpp | exact ps_9 hpp | exact ps_10 hpp | exact ps_11 hpp | exact ps_15 hpp | exact ps_16 hpp | exact ps_17 hpp | exact ps_18 hpp | exact ps_19 hpp | exact ps_21 hpp | exact ps_22 hpp | exact ps_23 hpp | exact ps_24 hpp) ⟨by omega, by omega⟩ ?_ | refine by_tald rfl rfl ⟨by omega, by omega⟩ ?_
  refine by_if_ne 18 rfl ?_
  simp (disch := first | exact Nat.ne_of_beq_eq_false rfl | exact rfl | omega) only [nI_add, xa_sub, xa_mul, pk_div, nm_mod, xa_shr, xa_and7, xa_and1, xa_and255, xa_by_and, nI_m1, Nat.add_sub_cancel, Nat.reducePow, Nat.zero_add, Nat.add_zero, Nat.reduceAdd, Nat.reduceMul, Nat.reduceSub, xf_same, xq_ff, xq_fo, xf_1, xf_2, xs_1, xs_2, xs_same, xq_so, xj_1, xj_2, xj_same, xq_jo, xq_sa1, xq_same, xq_other, upd_s, oI_n, oI_s, xv_0, xv_1, xv_2, xv_3, xm_p1, xm_p2, xq_fp, xq_fn, List.filter_nil, Nat.reduceBEq, Bool.not_true, Bool.not_false, Bool.and_true, Bool.and_false, Bool.false_and, Bool.true_and, if_true, if_false, Bool.false_eq_true, reduceIte, xc_i, xc_j, xc_r, xc_n, List.nil_append, List.cons_append, Option.toList_some, Option.toList_none, nI_ltJ, nI_leJ, nI_eqJ, nI_ltz, nI_gez, nI_gtz, nI_lez, nI_eqz, m1_ltz, m1_gez, true_imp_iff, false_imp_iff, true_and, and_true, ne_eq, not_false_eq_true, not_true_eq_false, Nat.reduceEqDiff, Nat.reduceLT, Nat.reduceLeDiff, pt_1 hF hpp, tK, pt_5 hF hpp, tw']
  with_reducible refine xm_go_blk b_X10_writePart_18 k_X10_writePart_18 ?_
  refine by_aload_n rfl ?_
  refine by_getf cn_175 fl_10_24 (by first | exact rfl | assumption | exact ps_14 hpp) (by decide) ?_
  refine by_iload_n rfl ?_
  simp (disch := first | exact Nat.ne_of_beq_eq_false rfl | exact rfl | omega) only [nI_add, xa_sub, xa_mul, pk_div, nm_mod, xa_shr, xa_and7, xa_and1, xa_and255, xa_by_and, nI_m1, Nat.add_sub_cancel, Nat.reducePow, Nat.zero_add, Nat.add_zero, Nat.reduceAdd, Nat.reduceMul, Nat.reduceSub, xf_same, xq_ff, xq_fo, xf_1, xf_2, xs_1, xs_2, xs_same, xq_so, xj_1, xj_2, xj_same, xq_jo, xq_sa1, xq_same, xq_other, upd_s, oI_n, oI_s, pt_1 hF hpp, tK, pt_5 hF hpp, tw']
  first | refine by_iald (by first | exact rfl | assumption | exact ps_1 hpp | exact ps_2 hpp | exact ps_3 hpp | exact ps_4 hpp | exact ps_5 hpp | exact ps_6 hpp | exact ps_7 hpp | exact ps_8 hpp | exact ps_9 hpp | exact ps_10 hpp | exact ps_11 hpp | exact ps_15 hpp | exact ps_16 hpp | exact ps_17 hpp | exact ps_18 hpp | exact ps_19 hpp | exact ps_21 hpp | exact ps_22 hpp | exact ps_23 hpp | exact ps_24 hpp) ⟨by omega, by omega⟩ ?_ | refine by_tald rfl rfl ⟨by omega, by omega⟩ ?_
  refine by_iconst ci_1 ?_
  refine by_ic_ne 45 rfl ?_
  simp (disch := first | exact Nat.ne_of_beq_eq_false rfl | exact rfl | omega) only [nI_add, xa_sub, xa_mul, pk_div, nm_mod, xa_shr, xa_and7, xa_and1, xa_and255, xa_by_and, nI_m1, Nat.add_sub_cancel, Nat.reducePow, Nat.zero_add, Nat.add_zero, Nat.reduceAdd, Nat.reduceMul, Nat.reduceSub, xf_same, xq_ff, xq_fo, xf_1, xf_2, xs_1, xs_2, xs_same, xq_so, xj_1, xj_2, xj_same, xq_jo, xq_sa1, xq_same, xq_other, upd_s, oI_n, oI_s, xv_0, xv_1, xv_2, xv_3, xm_p1, xm_p2, xq_fp, xq_fn, List.filter_nil, Nat.reduceBEq, Bool.not_true, Bool.not_false, Bool.and_true, Bool.and_false, Bool.false_and, Bool.true_and, if_true, if_false, Bool.false_eq_true, reduceIte, xc_i, xc_j, xc_r, xc_n, List.nil_append, List.cons_append, Option.toList_some, Option.toList_none, nI_ltJ, nI_leJ, nI_eqJ, nI_ltz, nI_gez, nI_gtz, nI_lez, nI_eqz, m1_ltz, m1_gez, true_imp_iff, false_imp_iff, true_and, and_true, ne_eq, not_false_eq_true, not_true_eq_false, Nat.reduceEqDiff, Nat.reduceLT, Nat.reduceLeDiff, pt_1 hF hpp, tK, pt_5 hF hpp, tw']
  with_reducible refine xm_go_blk b_X10_writePart_45 k_X10_writePart_45 ?_
  refine by_aload_n rfl ?_
  refine by_getf cn_175 fl_10_24 (by first | exact rfl | assumption | exact ps_14 hpp) (by decide) ?_
  refine by_iload_n rfl ?_
  simp (disch := first | exact Nat.ne_of_beq_eq_false rfl | exact rfl | omega) only [nI_add, xa_sub, xa_mul, pk_div, nm_mod, xa_shr, xa_and7, xa_and1, xa_and255, xa_by_and, nI_m1, Nat.add_sub_cancel, Nat.reducePow, Nat.zero_add, Nat.add_zero, Nat.reduceAdd, Nat.reduceMul, Nat.reduceSub, xf_same, xq_ff, xq_fo, xf_1, xf_2, xs_1, xs_2, xs_same, xq_so, xj_1, xj_2, xj_same, xq_jo, xq_sa1, xq_same, xq_other, upd_s, oI_n, oI_s, pt_1 hF hpp, tK, pt_5 hF hpp, tw']
  first | refine by_iald (by first | exact rfl | assumption | exact ps_1 hpp | exact ps_2 hpp | exact ps_3 hpp | exact ps_4 hpp | exact ps_5 hpp | exact ps_6 hpp | exact ps_7 hpp | exact ps_8 hpp | exact ps_9 hpp | exact ps_10 hpp | exact ps_11 hpp | exact ps_15 hpp | exact ps_16 hpp | exact ps_17 hpp | exact ps_18 hpp | exact ps_19 hpp | exact ps_21 hpp | exact ps_22 hpp | exact ps_23 hpp | exact ps_24 hpp) ⟨by omega, by omega⟩ ?_ | refine by_tald rfl rfl ⟨by omega, by omega⟩ ?_
  refine by_iconst ci_4 ?_
  refine by_ic_lt 144 rfl ?_
  simp (disch := first | exact Nat.ne_of_beq_eq_false rfl | exact rfl | omega) only [nI_add, xa_sub, xa_mul, pk_div, nm_mod, xa_shr, xa_and7, xa_and1, xa_and255, xa_by_and, nI_m1, Nat.add_sub_cancel, Nat.reducePow, Nat.zero_add, Nat.add_zero, Nat.reduceAdd, Nat.reduceMul, Nat.reduceSub, xf_same, xq_ff, xq_fo, xf_1, xf_2, xs_1, xs_2, xs_same, xq_so, xj_1, xj_2, xj_same, xq_jo, xq_sa1, xq_same, xq_other, upd_s, oI_n, oI_s, xv_0, xv_1, xv_2, xv_3, xm_p1, xm_p2, xq_fp, xq_fn, List.filter_nil, Nat.reduceBEq, Bool.not_true, Bool.not_false, Bool.and_true, Bool.and_false, Bool.false_and, Bool.true_and, if_true, if_false, Bool.false_eq_true, reduceIte, xc_i, xc_j, xc_r, xc_n, List.nil_append, List.cons_append, Option.toList_some, Option.toList_none, nI_ltJ, nI_leJ, nI_eqJ, nI_ltz, nI_gez, nI_gtz, nI_lez, nI_eqz, m1_ltz, m1_gez, true_imp_iff, false_imp_iff, true_and, and_true, ne_eq, not_false_eq_true, not_true_eq_false, Nat.reduceEqDiff, Nat.reduceLT, Nat.reduceLeDiff, pt_1 hF hpp, tK, pt_5 hF hpp, tw']
  with_reducible refine xm_go_blk b_X10_writePart_144 k_X10_writePart_144 ?_
  refine by_aload_n rfl ?_
  refine by_getf cn_175 fl_10_11 (by first | exact rfl | assumption | exact ps_14 hpp) (by decide) ?_
  refine by_iload_n rfl ?_
  simp (disch := first | exact Nat.ne_of_beq_eq_false rfl | exact rfl | omega) only [nI_add, xa_sub, xa_mul, pk_div, nm_mod, xa_shr, xa_and7, xa_and1, xa_and255, xa_by_and, nI_m1, Nat.add_sub_cancel, Nat.reducePow, Nat.zero_add, Nat.add_zero, Nat.reduceAdd, Nat.reduceMul, Nat.reduceSub, xf_same, xq_ff, xq_fo, xf_1, xf_2, xs_1, xs_2, xs_same, xq_so, xj_1, xj_2, xj_same, xq_jo, xq_sa1, xq_same, xq_other, upd_s, oI_n, oI_s, pt_1 hF hpp, tK, pt_5 hF hpp, tw']
  first | refine by_iald (by first | exact rfl | assumption | exact ps_1 hpp | exact ps_2 hpp | exact ps_3 hpp | exact ps_4 hpp | exact ps_5 hpp | exact ps_6 hpp | exact ps_7 hpp | exact ps_8 hpp | exact ps_9 hpp | exact ps_10 hpp | exact ps_11 hpp | exact ps_15 hpp | exact ps_16 hpp | exact ps_17 hpp | exact ps_18 hpp | exact ps_19 hpp | exact ps_21 hpp | exact ps_22 hpp | exact ps_23 hpp | exact ps_24 hpp) ⟨by omega, by omega⟩ ?_ | refine by_tald rfl rfl ⟨by omega, by omega⟩ ?_
  refine by_iconst ci_2 ?_
  refine by_ic_ne 170 rfl ?_
  simp (disch := first | exact Nat.ne_of_beq_eq_false rfl | exact rfl | omega) only [nI_add, xa_sub, xa_mul, pk_div, nm_mod, xa_shr, xa_and7, xa_and1, xa_and255, xa_by_and, nI_m1, Nat.add_sub_cancel, Nat.reducePow, Nat.zero_add, Nat.add_zero, Nat.reduceAdd, Nat.reduceMul, Nat.reduceSub, xf_same, xq_ff, xq_fo, xf_1, xf_2, xs_1, xs_2, xs_same, xq_so, xj_1, xj_2, xj_same, xq_jo, xq_sa1, xq_same, xq_other, upd_s, oI_n, oI_s, xv_0, xv_1, xv_2, xv_3, xm_p1, xm_p2, xq_fp, xq_fn, List.filter_nil, Nat.reduceBEq, Bool.not_true, Bool.not_false, Bool.and_true, Bool.and_false, Bool.false_and, Bool.true_and, if_true, if_false, Bool.false_eq_true, reduceIte, xc_i, xc_j, xc_r, xc_n, List.nil_append, List.cons_append, Option.toList_some, Option.toList_none, nI_ltJ, nI_leJ, nI_eqJ, nI_ltz, nI_gez, nI_gtz, nI_lez, nI_eqz, m1_ltz, m1_gez, true_imp_iff, false_imp_iff, true_and, and_true, ne_eq, not_false_eq_true, not_true_eq_false, Nat.reduceEqDiff, Nat.reduceLT, Nat.reduceLeDiff, pt_1 hF hpp, tK, pt_5 hF hpp, tw']
  with_reducible refine xm_go_blk b_X10_writePart_170 k_X10_writePart_170 ?_
  refine by_aload_n rfl ?_
  refine by_iload_n rfl ?_
  refine by_inv1 cn_175 lk_10_83 (by rw [xe_cnt]; decide) is_127 np_127 cn_127 (by first | exact rfl | assumption | exact ps_12 hpp) (Nat.le_of_ble_eq_true rfl) ?_
  refine sp_bitL sh_1 sh_2 hrow (by omega) ?_
  rcases (by omega : by_bit l p = 0 ∨ by_bit l p = 1) with eb | eb
  · rw [eb]
    with_reducible refine xm_go_blk b_X10_writePart_175 k_X10_writePart_175 ?_
    refine by_if_ne 182 rfl ?_
    simp (disch := first | exact Nat.ne_of_beq_eq_false rfl | exact rfl | omega) only [nI_add, xa_sub, xa_mul, pk_div, nm_mod, xa_shr, xa_and7, xa_and1, xa_and255, xa_by_and, nI_m1, Nat.add_sub_cancel, Nat.reducePow, Nat.zero_add, Nat.add_zero, Nat.reduceAdd, Nat.reduceMul, Nat.reduceSub, xf_same, xq_ff, xq_fo, xf_1, xf_2, xs_1, xs_2, xs_same, xq_so, xj_1, xj_2, xj_same, xq_jo, xq_sa1, xq_same, xq_other, upd_s, oI_n, oI_s, xv_0, xv_1, xv_2, xv_3, xm_p1, xm_p2, xq_fp, xq_fn, List.filter_nil, Nat.reduceBEq, Bool.not_true, Bool.not_false, Bool.and_true, Bool.and_false, Bool.false_and, Bool.true_and, if_true, if_false, Bool.false_eq_true, reduceIte, xc_i, xc_j, xc_r, xc_n, List.nil_append, List.cons_append, Option.toList_some, Option.toList_none, nI_ltJ, nI_leJ, nI_eqJ, nI_ltz, nI_gez, nI_gtz, nI_lez, nI_eqz, m1_ltz, m1_gez, true_imp_iff, false_imp_iff, true_and, and_true, ne_eq, not_false_eq_true, not_true_eq_false, Nat.reduceEqDiff, Nat.reduceLT, Nat.reduceLeDiff, pt_2 hF hpp, tL]
    with_reducible refine xm_go_blk b_X10_writePart_178 k_X10_writePart_178 ?_
    refine by_iconst ci_1 ?_
    refine by_goto 183 rfl ?_
    with_reducible refine xm_go_blk b_X10_writePart_183 k_X10_writePart_183 ?_
    refine by_istore (by rw [ml_175]; decide) ?_
    refine by_iload rfl ?_
    refine by_if_eq 199 rfl ?_
    simp (disch := first | exact Nat.ne_of_beq_eq_false rfl | exact rfl | omega) only [nI_add, xa_sub, xa_mul, pk_div, nm_mod, xa_shr, xa_and7, xa_and1, xa_and255, xa_by_and, nI_m1, Nat.add_sub_cancel, Nat.reducePow, Nat.zero_add, Nat.add_zero, Nat.reduceAdd, Nat.reduceMul, Nat.reduceSub, xf_same, xq_ff, xq_fo, xf_1, xf_2, xs_1, xs_2, xs_same, xq_so, xj_1, xj_2, xj_same, xq_jo, xq_sa1, xq_same, xq_other, upd_s, oI_n, oI_s, xv_0, xv_1, xv_2, xv_3, xm_p1, xm_p2, xq_fp, xq_fn, List.filter_nil, Nat.reduceBEq, Bool.not_true, Bool.not_false, Bool.and_true, Bool.and_false, Bool.false_and, Bool.true_and, if_true, if_false, Bool.false_eq_true, reduceIte, xc_i, xc_j, xc_r, xc_n, List.nil_append, List.cons_append, Option.toList_some, Option.toList_none, nI_ltJ, nI_leJ, nI_eqJ, nI_ltz, nI_gez, nI_gtz, nI_lez, nI_eqz, m1_ltz, m1_gez, true_imp_iff, false_imp_iff, true_and, and_true, ne_eq, not_false_eq_true, not_true_eq_false, Nat.reduceEqDiff, Nat.reduceLT, Nat.reduceLeDiff, pt_2 hF hpp, tL]
    with_reducible refine xm_go_blk b_X10_writePart_190 k_X10_writePart_190 ?_
    refine by_aload_n rfl ?_
    refine by_getf cn_175 fl_10_15 (by first | exact rfl | assumption | exact ps_14 hpp) (by decide) ?_
    refine by_iload_n rfl ?_
    simp (disch := first | exact Nat.ne_of_beq_eq_false rfl | exact rfl | omega) only [nI_add, xa_sub, xa_mul, pk_div, nm_mod, xa_shr, xa_and7, xa_and1, xa_and255, xa_by_and, nI_m1, Nat.add_sub_cancel, Nat.reducePow, Nat.zero_add, Nat.add_zero, Nat.reduceAdd, Nat.reduceMul, Nat.reduceSub, xf_same, xq_ff, xq_fo, xf_1, xf_2, xs_1, xs_2, xs_same, xq_so, xj_1, xj_2, xj_same, xq_jo, xq_sa1, xq_same, xq_other, upd_s, oI_n, oI_s, pt_2 hF hpp, tL]
    first | refine by_iald (by first | exact rfl | assumption | exact ps_1 hpp | exact ps_2 hpp | exact ps_3 hpp | exact ps_4 hpp | exact ps_5 hpp | exact ps_6 hpp | exact ps_7 hpp | exact ps_8 hpp | exact ps_9 hpp | exact ps_10 hpp | exact ps_11 hpp | exact ps_15 hpp | exact ps_16 hpp | exact ps_17 hpp | exact ps_18 hpp | exact ps_19 hpp | exact ps_21 hpp | exact ps_22 hpp | exact ps_23 hpp | exact ps_24 hpp) ⟨by omega, by omega⟩ ?_ | refine by_tald rfl rfl ⟨by omega, by omega⟩ ?_
    refine by_goto 205 rfl ?_
    try simp (disch := first | exact Nat.ne_of_beq_eq_false rfl | exact rfl | omega) only [nI_add, xa_sub, xa_mul, pk_div, nm_mod, xa_shr, xa_and7, xa_and1, xa_and255, xa_by_and, nI_m1, Nat.add_sub_cancel, Nat.reducePow, Nat.zero_add, Nat.add_zero, Nat.reduceAdd, Nat.reduceMul, Nat.reduceSub, xf_same, xq_ff, xq_fo, xf_1, xf_2, xs_1, xs_2, xs_same, xq_so, xj_1, xj_2, xj_same, xq_jo, xq_sa1, xq_same, xq_other, upd_s, oI_n, oI_s, xv_0, xv_1, xv_2, xv_3, xm_p1, xm_p2, xq_fp, xq_fn, List.filter_nil, Nat.reduceBEq, Bool.not_true, Bool.not_false, Bool.and_true, Bool.and_false, Bool.false_and, Bool.true_and, if_true, if_false, Bool.false_eq_true, reduceIte, xc_i, xc_j, xc_r, xc_n, List.nil_append, List.cons_append, Option.toList_some, Option.toList_none, pt_2 hF hpp, tL]
    with_reducible refine xm_go_blk b_X10_writePart_205 k_X10_writePart_205 ?_
    refine by_istore (by rw [ml_175]; decide) ?_
    refine by_aload rfl ?_
    refine by_iload rfl ?_
    refine by_if_eq 219 rfl ?_
    simp (disch := first | exact Nat.ne_of_beq_eq_false rfl | exact rfl | omega) only [nI_add, xa_sub, xa_mul, pk_div, nm_mod, xa_shr, xa_and7, xa_and1, xa_and255, xa_by_and, nI_m1, Nat.add_sub_cancel, Nat.reducePow, Nat.zero_add, Nat.add_zero, Nat.reduceAdd, Nat.reduceMul, Nat.reduceSub, xf_same, xq_ff, xq_fo, xf_1, xf_2, xs_1, xs_2, xs_same, xq_so, xj_1, xj_2, xj_same, xq_jo, xq_sa1, xq_same, xq_other, upd_s, oI_n, oI_s, xv_0, xv_1, xv_2, xv_3, xm_p1, xm_p2, xq_fp, xq_fn, List.filter_nil, Nat.reduceBEq, Bool.not_true, Bool.not_false, Bool.and_true, Bool.and_false, Bool.false_and, Bool.true_and, if_true, if_false, Bool.false_eq_true, reduceIte, xc_i, xc_j, xc_r, xc_n, List.nil_append, List.cons_append, Option.toList_some, Option.toList_none, nI_ltJ, nI_leJ, nI_eqJ, nI_ltz, nI_gez, nI_gtz, nI_lez, nI_eqz, m1_ltz, m1_gez, true_imp_iff, false_imp_iff, true_and, and_true, ne_eq, not_false_eq_true, not_true_eq_false, Nat.reduceEqDiff, Nat.reduceLT, Nat.reduceLeDiff, pt_2 hF hpp, tL]
    with_reducible refine xm_go_blk b_X10_writePart_214 k_X10_writePart_214 ?_
    refine by_bipush cb_76 ?_
    refine by_goto 221 rfl ?_
    with_reducible refine xm_go_blk b_X10_writePart_221 k_X10_writePart_221 ?_
    refine by_inv1 cn_175 lk_10_90 (by rw [xe_cnt]; decide) is_133 np_133 cn_133 (by first | exact rfl | assumption | exact ps_12 hpp) (Nat.le_of_ble_eq_true rfl) ?_
    refine sp_pen hF hpen (by decide) (fun h1 f1 p1 => ?_)
    have F1 := Fr_XF hF f1 (by decide +kernel)
    with_reducible refine xm_go_blk b_X10_writePart_224 k_X10_writePart_224 ?_
    refine by_aload_n rfl ?_
    refine by_iload rfl ?_
    refine by_inv1 cn_175 lk_10_78 (by rw [xe_cnt]; decide) is_170 np_170 cn_170 (by first | exact rfl | assumption | exact ps_14 hpp) (Nat.le_of_ble_eq_true rfl) ?_
    refine xS_pushT F1 hpp (xSt_fr hS f1 (by simp <;> omega) (by simp <;> omega)) (by omega) (by omega) hcn (fun h2 f2 S2 => ?_)
    have F2 := Fr_XF F1 f2 (sy_fin hpp)
    have f02 : Fr [6, pp + 24] (twT pp) h h2 := Fr_tr (Fr_mo f1 (by simp) (by simp [twT])) f2 (by simp) (by simp [twT])
    with_reducible refine xm_go_blk b_X10_writePart_230 k_X10_writePart_230 ?_
    refine by_iload_n rfl ?_
    refine by_iconst ci_1 ?_
    refine by_iadd ?_
    refine by_aload_n rfl ?_
    refine by_iload_n rfl ?_
    refine by_iload rfl ?_
    simp (disch := first | exact Nat.ne_of_beq_eq_false rfl | exact rfl | omega) only [nI_add, xa_sub, xa_mul, pk_div, nm_mod, xa_shr, xa_and7, xa_and1, xa_and255, xa_by_and, nI_m1, Nat.add_sub_cancel, Nat.reducePow, Nat.zero_add, Nat.add_zero, Nat.reduceAdd, Nat.reduceMul, Nat.reduceSub, xf_same, xq_ff, xq_fo, xf_1, xf_2, xs_1, xs_2, xs_same, xq_so, xj_1, xj_2, xj_same, xq_jo, xq_sa1, xq_same, xq_other, upd_s, oI_n, oI_s, xv_0, xv_1, xv_2, xv_3, xm_p1, xm_p2, xq_fp, xq_fn, List.filter_nil, Nat.reduceBEq, Bool.not_true, Bool.not_false, Bool.and_true, Bool.and_false, Bool.false_and, Bool.true_and, if_true, if_false, Bool.false_eq_true, reduceIte, xc_i, xc_j, xc_r, xc_n, List.nil_append, List.cons_append, Option.toList_some, Option.toList_none]
    refine by_inv2 cn_175 lk_10_87 (by rw [xe_cnt]; decide) is_169 np_169 cn_169 (by first | exact rfl | assumption | exact ps_14 hpp) (Nat.le_of_ble_eq_true rfl) ?_
    refine sp_padding (ws := ty_w (tr i)) (wp := ty_w (tr (L i))) F2 hpp (by omega) (by omega) (by rw [f02.1 (pp + 18) (by simp <;> omega)]; exact tW) (by rw [f02.1 (pp + 18) (by simp <;> omega)]; exact wL) (by omega) ?_
    with_reducible refine xm_go_blk b_X10_writePart_240 k_X10_writePart_240 ?_
    refine by_iadd ?_
    simp (disch := first | exact Nat.ne_of_beq_eq_false rfl | exact rfl | omega) only [nI_add, xa_sub, xa_mul, pk_div, nm_mod, xa_shr, xa_and7, xa_and1, xa_and255, xa_by_and, nI_m1, Nat.add_sub_cancel, Nat.reducePow, Nat.zero_add, Nat.add_zero, Nat.reduceAdd, Nat.reduceMul, Nat.reduceSub, xf_same, xq_ff, xq_fo, xf_1, xf_2, xs_1, xs_2, xs_same, xq_so, xj_1, xj_2, xj_same, xq_jo, xq_sa1, xq_same, xq_other, upd_s, oI_n, oI_s]
    refine by_iret ry_175 (by first | rfl | assumption) ?_
    refine hp h2 _ (p + 1 + (ty_w (tr i) - 1 - ty_w (tr (L i)))) (dn ++ [76]) f02 (penIs_fr p1 f2 (by simp <;> omega) (by simp <;> omega) (by simp <;> omega)) S2 (by simp) ?_ ?_
    · rw [ew, et]
      simp only [vtx, if_neg (show ¬ ty_word (.add (tr (L i)) (tr (R i))) = 1 by omega), if_pos eb, itv, ty_w, List.append_assoc, List.cons_append, List.nil_append]
      rw [show p + 1 + (1 + max (ty_w (tr (L i))) (ty_w (tr (R i))) - 1 - ty_w (tr (L i))) = p + 1 + (max (ty_w (tr (L i))) (ty_w (tr (R i))) - ty_w (tr (L i))) by omega, show p + 1 + (max (ty_w (tr (L i))) (ty_w (tr (R i))) - ty_w (tr (L i))) + ty_w (tr (L i)) = p + (1 + max (ty_w (tr (L i))) (ty_w (tr (R i)))) by omega]
    · simp only [wiT]; omega
  · rw [eb]
    with_reducible refine xm_go_blk b_X10_writePart_175 k_X10_writePart_175 ?_
    refine by_if_ne 182 rfl ?_
    simp (disch := first | exact Nat.ne_of_beq_eq_false rfl | exact rfl | omega) only [nI_add, xa_sub, xa_mul, pk_div, nm_mod, xa_shr, xa_and7, xa_and1, xa_and255, xa_by_and, nI_m1, Nat.add_sub_cancel, Nat.reducePow, Nat.zero_add, Nat.add_zero, Nat.reduceAdd, Nat.reduceMul, Nat.reduceSub, xf_same, xq_ff, xq_fo, xf_1, xf_2, xs_1, xs_2, xs_same, xq_so, xj_1, xj_2, xj_same, xq_jo, xq_sa1, xq_same, xq_other, upd_s, oI_n, oI_s, xv_0, xv_1, xv_2, xv_3, xm_p1, xm_p2, xq_fp, xq_fn, List.filter_nil, Nat.reduceBEq, Bool.not_true, Bool.not_false, Bool.and_true, Bool.and_false, Bool.false_and, Bool.true_and, if_true, if_false, Bool.false_eq_true, reduceIte, xc_i, xc_j, xc_r, xc_n, List.nil_append, List.cons_append, Option.toList_some, Option.toList_none, nI_ltJ, nI_leJ, nI_eqJ, nI_ltz, nI_gez, nI_gtz, nI_lez, nI_eqz, m1_ltz, m1_gez, true_imp_iff, false_imp_iff, true_and, and_true, ne_eq, not_false_eq_true, not_true_eq_false, Nat.reduceEqDiff, Nat.reduceLT, Nat.reduceLeDiff, pt_3 hF hpp, tR]
    with_reducible refine xm_go_blk b_X10_writePart_182 k_X10_writePart_182 ?_
    refine by_iconst ci_0 ?_
    refine by_nil ?_
    with_reducible refine xm_go_blk b_X10_writePart_183 k_X10_writePart_183 ?_
    refine by_istore (by rw [ml_175]; decide) ?_
    refine by_iload rfl ?_
    refine by_if_eq 199 rfl ?_
    simp (disch := first | exact Nat.ne_of_beq_eq_false rfl | exact rfl | omega) only [nI_add, xa_sub, xa_mul, pk_div, nm_mod, xa_shr, xa_and7, xa_and1, xa_and255, xa_by_and, nI_m1, Nat.add_sub_cancel, Nat.reducePow, Nat.zero_add, Nat.add_zero, Nat.reduceAdd, Nat.reduceMul, Nat.reduceSub, xf_same, xq_ff, xq_fo, xf_1, xf_2, xs_1, xs_2, xs_same, xq_so, xj_1, xj_2, xj_same, xq_jo, xq_sa1, xq_same, xq_other, upd_s, oI_n, oI_s, xv_0, xv_1, xv_2, xv_3, xm_p1, xm_p2, xq_fp, xq_fn, List.filter_nil, Nat.reduceBEq, Bool.not_true, Bool.not_false, Bool.and_true, Bool.and_false, Bool.false_and, Bool.true_and, if_true, if_false, Bool.false_eq_true, reduceIte, xc_i, xc_j, xc_r, xc_n, List.nil_append, List.cons_append, Option.toList_some, Option.toList_none, nI_ltJ, nI_leJ, nI_eqJ, nI_ltz, nI_gez, nI_gtz, nI_lez, nI_eqz, m1_ltz, m1_gez, true_imp_iff, false_imp_iff, true_and, and_true, ne_eq, not_false_eq_true, not_true_eq_false, Nat.reduceEqDiff, Nat.reduceLT, Nat.reduceLeDiff, pt_3 hF hpp, tR]
    with_reducible refine xm_go_blk b_X10_writePart_199 k_X10_writePart_199 ?_
    refine by_aload_n rfl ?_
    refine by_getf cn_175 fl_10_18 (by first | exact rfl | assumption | exact ps_14 hpp) (by decide) ?_
    refine by_iload_n rfl ?_
    simp (disch := first | exact Nat.ne_of_beq_eq_false rfl | exact rfl | omega) only [nI_add, xa_sub, xa_mul, pk_div, nm_mod, xa_shr, xa_and7, xa_and1, xa_and255, xa_by_and, nI_m1, Nat.add_sub_cancel, Nat.reducePow, Nat.zero_add, Nat.add_zero, Nat.reduceAdd, Nat.reduceMul, Nat.reduceSub, xf_same, xq_ff, xq_fo, xf_1, xf_2, xs_1, xs_2, xs_same, xq_so, xj_1, xj_2, xj_same, xq_jo, xq_sa1, xq_same, xq_other, upd_s, oI_n, oI_s, pt_3 hF hpp, tR]
    first | refine by_iald (by first | exact rfl | assumption | exact ps_1 hpp | exact ps_2 hpp | exact ps_3 hpp | exact ps_4 hpp | exact ps_5 hpp | exact ps_6 hpp | exact ps_7 hpp | exact ps_8 hpp | exact ps_9 hpp | exact ps_10 hpp | exact ps_11 hpp | exact ps_15 hpp | exact ps_16 hpp | exact ps_17 hpp | exact ps_18 hpp | exact ps_19 hpp | exact ps_21 hpp | exact ps_22 hpp | exact ps_23 hpp | exact ps_24 hpp) ⟨by omega, by omega⟩ ?_ | refine by_tald rfl rfl ⟨by omega, by omega⟩ ?_
    refine by_nil ?_
    try simp (disch := first | exact Nat.ne_of_beq_eq_false rfl | exact rfl | omega) only [nI_add, xa_sub, xa_mul, pk_div, nm_mod, xa_shr, xa_and7, xa_and1, xa_and255, xa_by_and, nI_m1, Nat.add_sub_cancel, Nat.reducePow, Nat.zero_add, Nat.add_zero, Nat.reduceAdd, Nat.reduceMul, Nat.reduceSub, xf_same, xq_ff, xq_fo, xf_1, xf_2, xs_1, xs_2, xs_same, xq_so, xj_1, xj_2, xj_same, xq_jo, xq_sa1, xq_same, xq_other, upd_s, oI_n, oI_s, xv_0, xv_1, xv_2, xv_3, xm_p1, xm_p2, xq_fp, xq_fn, List.filter_nil, Nat.reduceBEq, Bool.not_true, Bool.not_false, Bool.and_true, Bool.and_false, Bool.false_and, Bool.true_and, if_true, if_false, Bool.false_eq_true, reduceIte, xc_i, xc_j, xc_r, xc_n, List.nil_append, List.cons_append, Option.toList_some, Option.toList_none, pt_3 hF hpp, tR]
    with_reducible refine xm_go_blk b_X10_writePart_205 k_X10_writePart_205 ?_
    refine by_istore (by rw [ml_175]; decide) ?_
    refine by_aload rfl ?_
    refine by_iload rfl ?_
    refine by_if_eq 219 rfl ?_
    simp (disch := first | exact Nat.ne_of_beq_eq_false rfl | exact rfl | omega) only [nI_add, xa_sub, xa_mul, pk_div, nm_mod, xa_shr, xa_and7, xa_and1, xa_and255, xa_by_and, nI_m1, Nat.add_sub_cancel, Nat.reducePow, Nat.zero_add, Nat.add_zero, Nat.reduceAdd, Nat.reduceMul, Nat.reduceSub, xf_same, xq_ff, xq_fo, xf_1, xf_2, xs_1, xs_2, xs_same, xq_so, xj_1, xj_2, xj_same, xq_jo, xq_sa1, xq_same, xq_other, upd_s, oI_n, oI_s, xv_0, xv_1, xv_2, xv_3, xm_p1, xm_p2, xq_fp, xq_fn, List.filter_nil, Nat.reduceBEq, Bool.not_true, Bool.not_false, Bool.and_true, Bool.and_false, Bool.false_and, Bool.true_and, if_true, if_false, Bool.false_eq_true, reduceIte, xc_i, xc_j, xc_r, xc_n, List.nil_append, List.cons_append, Option.toList_some, Option.toList_none, nI_ltJ, nI_leJ, nI_eqJ, nI_ltz, nI_gez, nI_gtz, nI_lez, nI_eqz, m1_ltz, m1_gez, true_imp_iff, false_imp_iff, true_and, and_true, ne_eq, not_false_eq_true, not_true_eq_false, Nat.reduceEqDiff, Nat.reduceLT, Nat.reduceLeDiff, pt_3 hF hpp, tR]
    with_reducible refine xm_go_blk b_X10_writePart_219 k_X10_writePart_219 ?_
    refine by_bipush cb_82 ?_
    refine by_nil ?_
    with_reducible refine xm_go_blk b_X10_writePart_221 k_X10_writePart_221 ?_
    refine by_inv1 cn_175 lk_10_90 (by rw [xe_cnt]; decide) is_133 np_133 cn_133 (by first | exact rfl | assumption | exact ps_12 hpp) (Nat.le_of_ble_eq_true rfl) ?_
    refine sp_pen hF hpen (by decide) (fun h1 f1 p1 => ?_)
    have F1 := Fr_XF hF f1 (by decide +kernel)
    with_reducible refine xm_go_blk b_X10_writePart_224 k_X10_writePart_224 ?_
    refine by_aload_n rfl ?_
    refine by_iload rfl ?_
    refine by_inv1 cn_175 lk_10_78 (by rw [xe_cnt]; decide) is_170 np_170 cn_170 (by first | exact rfl | assumption | exact ps_14 hpp) (Nat.le_of_ble_eq_true rfl) ?_
    refine xS_pushT F1 hpp (xSt_fr hS f1 (by simp <;> omega) (by simp <;> omega)) (by omega) (by omega) hcn (fun h2 f2 S2 => ?_)
    have F2 := Fr_XF F1 f2 (sy_fin hpp)
    have f02 : Fr [6, pp + 24] (twT pp) h h2 := Fr_tr (Fr_mo f1 (by simp) (by simp [twT])) f2 (by simp) (by simp [twT])
    with_reducible refine xm_go_blk b_X10_writePart_230 k_X10_writePart_230 ?_
    refine by_iload_n rfl ?_
    refine by_iconst ci_1 ?_
    refine by_iadd ?_
    refine by_aload_n rfl ?_
    refine by_iload_n rfl ?_
    refine by_iload rfl ?_
    simp (disch := first | exact Nat.ne_of_beq_eq_false rfl | exact rfl | omega) only [nI_add, xa_sub, xa_mul, pk_div, nm_mod, xa_shr, xa_and7, xa_and1, xa_and255, xa_by_and, nI_m1, Nat.add_sub_cancel, Nat.reducePow, Nat.zero_add, Nat.add_zero, Nat.reduceAdd, Nat.reduceMul, Nat.reduceSub, xf_same, xq_ff, xq_fo, xf_1, xf_2, xs_1, xs_2, xs_same, xq_so, xj_1, xj_2, xj_same, xq_jo, xq_sa1, xq_same, xq_other, upd_s, oI_n, oI_s, xv_0, xv_1, xv_2, xv_3, xm_p1, xm_p2, xq_fp, xq_fn, List.filter_nil, Nat.reduceBEq, Bool.not_true, Bool.not_false, Bool.and_true, Bool.and_false, Bool.false_and, Bool.true_and, if_true, if_false, Bool.false_eq_true, reduceIte, xc_i, xc_j, xc_r, xc_n, List.nil_append, List.cons_append, Option.toList_some, Option.toList_none]
    refine by_inv2 cn_175 lk_10_87 (by rw [xe_cnt]; decide) is_169 np_169 cn_169 (by first | exact rfl | assumption | exact ps_14 hpp) (Nat.le_of_ble_eq_true rfl) ?_
    refine sp_padding (ws := ty_w (tr i)) (wp := ty_w (tr (R i))) F2 hpp (by omega) (by omega) (by rw [f02.1 (pp + 18) (by simp <;> omega)]; exact tW) (by rw [f02.1 (pp + 18) (by simp <;> omega)]; exact wR) (by omega) ?_
    with_reducible refine xm_go_blk b_X10_writePart_240 k_X10_writePart_240 ?_
    refine by_iadd ?_
    simp (disch := first | exact Nat.ne_of_beq_eq_false rfl | exact rfl | omega) only [nI_add, xa_sub, xa_mul, pk_div, nm_mod, xa_shr, xa_and7, xa_and1, xa_and255, xa_by_and, nI_m1, Nat.add_sub_cancel, Nat.reducePow, Nat.zero_add, Nat.add_zero, Nat.reduceAdd, Nat.reduceMul, Nat.reduceSub, xf_same, xq_ff, xq_fo, xf_1, xf_2, xs_1, xs_2, xs_same, xq_so, xj_1, xj_2, xj_same, xq_jo, xq_sa1, xq_same, xq_other, upd_s, oI_n, oI_s]
    refine by_iret ry_175 (by first | rfl | assumption) ?_
    refine hp h2 _ (p + 1 + (ty_w (tr i) - 1 - ty_w (tr (R i)))) (dn ++ [82]) f02 (penIs_fr p1 f2 (by simp <;> omega) (by simp <;> omega) (by simp <;> omega)) S2 (by simp) ?_ ?_
    · rw [ew, et]
      simp only [vtx, if_neg (show ¬ ty_word (.add (tr (L i)) (tr (R i))) = 1 by omega), if_neg (show ¬ by_bit l p = 0 by omega), itv, ty_w, List.append_assoc, List.cons_append, List.nil_append]
      rw [show p + 1 + (1 + max (ty_w (tr (L i))) (ty_w (tr (R i))) - 1 - ty_w (tr (R i))) = p + 1 + (max (ty_w (tr (L i))) (ty_w (tr (R i))) - ty_w (tr (R i))) by omega, show p + 1 + (max (ty_w (tr (L i))) (ty_w (tr (R i))) - ty_w (tr (R i))) + ty_w (tr (R i)) = p + (1 + max (ty_w (tr (L i))) (ty_w (tr (R i)))) by omega]
    · simp only [wiT]; omega
theorem sp_writePart (hF : XF h) (hpp : pp = 52 ∨ pp = 77) (hT : tyT h pp cn tr K L R) (hcn : cn ≤ 2826) (hi : i < cn) (hrow : rowIs h 1 2 l) (hpw : p + ty_w (tr i) ≤ 2048) (hpen : penIs h dn) (hS : xSt h pp cn tr q) (hb : q.length + 3 * i + 3 ≤ 3 * cn) (hp : wpP h post pp cn tr (by_bit l) dn q p i) : xm_T (XE sc) (d + 4) 175 [.ref (pp + 14), .ref 1, .int (nI p), .int (nI i), .ref 5] h post := by
  obtain ⟨⟨t1, _, _⟩, ta, _⟩ := hT.2.1 i hi
  rcases (by omega : K i = 0 ∨ K i = 1 ∨ K i = 2) with z | z | z
  · exact wp_0 (l := l) hF hpp hT hcn hi z hpen hS hp
  · rw [z] at ta
    have et : tr i = .add (tr (L i)) (tr (R i)) := ta
    rcases ty_word_add (tr (L i)) (tr (R i)) with w | w
    · exact wp_s (l := l) hF hpp hT hcn hi z hrow (by rw [et]; exact w) hpw hpen hS hb hp
    · exact wp_w1 (l := l) hF hpp hT hcn hi z hrow (by rw [et]; exact w) (by omega) hpen hS hp
  · by_cases w : 4 ≤ ty_word (tr i)
    · exact wp_w4 (l := l) hF hpp hT hcn hi z hrow w hpw hpen hS hp
    · exact wp_2 (l := l) hF hpp hT hcn hi z (by omega) hpen hS hb hp
theorem itv_0 {v : Nat → Nat} {q : List itm} {p : Nat} (h : (itv v q p).length = 0) : q = [] := by
  cases q with
  | nil => rfl
  | cons x q =>
    exfalso
    rcases x with c | t
    · simp [itv] at h
    · have := vtx_pos v t p
      rw [itv, List.length_append] at h; omega
theorem sp_writeValue {t : Nat} (hF : XF h) (hpp : pp = 52 ∨ pp = 77) (hT : tyT h pp cn tr K L R) (hcn : cn ≤ 2826) (ht : t < cn) (hrow : rowIs h 1 2 l) (hw : ty_w (tr t) ≤ 2048) (hpen : penIs h [])
    (hp : ∀ h' X, Fr [6, pp + 24] (twT pp) h h' → penIs h' X → (X.length ≤ 8192 → X = vtx (by_bit l) (tr t) 0) → (8192 < X.length → 8192 < (vtx (by_bit l) (tr t) 0).length) → post none h') : xm_T (XE sc) (d + 5) 177 [.ref (pp + 14), .ref 1, .int (nI t), .ref 5] h post := by
  have key : ∀ (j : Nat) (q : List itm) (dn : List Nat) (p tn : Nat) (h2 : xm_H), tn + j = 8193 → tn ≤ dn.length → dn ++ itv (by_bit l) q p = vtx (by_bit l) (tr t) 0 → p + wiT q = ty_w (tr t) → Fr [6, pp + 24] (twT pp) h h2 → penIs h2 dn → xSt h2 pp cn tr q → xm_go (XE sc) (xm_T (XE sc) (d + 4)) 177 post 16 [(5, .int (nI tn)), (4, .int (nI p)), (0, .ref (pp + 14)), (1, .ref 1), (3, .ref 5)] [] h2 := by
    intro j
    induction j with
    | zero =>
      intro q dn p tn h2 hj htn he hpw f2 p2 s2
      have : tn = 8193 := by omega
      subst this
      with_reducible refine xm_go_blk b_X10_writeValue_16 k_X10_writeValue_16 ?_
      refine by_iload rfl ?_
      refine by_sipush cs_8192 ?_
      refine by_ic_gt 92 rfl ?_
      simp (disch := first | exact Nat.ne_of_beq_eq_false rfl | exact rfl | omega) only [nI_add, xa_sub, xa_mul, pk_div, nm_mod, xa_shr, xa_and7, xa_and1, xa_and255, xa_by_and, nI_m1, Nat.add_sub_cancel, Nat.reducePow, Nat.zero_add, Nat.add_zero, Nat.reduceAdd, Nat.reduceMul, Nat.reduceSub, xf_same, xq_ff, xq_fo, xf_1, xf_2, xs_1, xs_2, xs_same, xq_so, xj_1, xj_2, xj_same, xq_jo, xq_sa1, xq_same, xq_other, upd_s, oI_n, oI_s, xv_0, xv_1, xv_2, xv_3, xm_p1, xm_p2, xq_fp, xq_fn, List.filter_nil, Nat.reduceBEq, Bool.not_true, Bool.not_false, Bool.and_true, Bool.and_false, Bool.false_and, Bool.true_and, if_true, if_false, Bool.false_eq_true, reduceIte, xc_i, xc_j, xc_r, xc_n, List.nil_append, List.cons_append, Option.toList_some, Option.toList_none, nI_ltJ, nI_leJ, nI_eqJ, nI_ltz, nI_gez, nI_gtz, nI_lez, nI_eqz, m1_ltz, m1_gez, true_imp_iff, false_imp_iff, true_and, and_true, ne_eq, not_false_eq_true, not_true_eq_false, Nat.reduceEqDiff, Nat.reduceLT, Nat.reduceLeDiff]
      with_reducible refine xm_go_blk b_X10_writeValue_92 k_X10_writeValue_92 ?_
      refine by_ret ry_177 ?_
      exact hp h2 dn f2 p2 (fun z => by omega) (fun _ => by rw [← he, List.length_append]; omega)
    | succ j ih =>
      intro q dn p tn h2 hj htn he hpw f2 p2 s2
      have F2 := Fr_XF hF f2 (wt_fin hpp)
      have hT2 : tyT h2 pp cn tr K L R := tyT_fr hT f2 (by simp [twT] <;> omega) (by simp [taR] <;> omega)
      have hlen := xStk_len s2.2
      obtain _ | ⟨x, q⟩ := q
      · have e11 := s2.1
        simp only [List.length_nil] at e11
        have e2 : dn = vtx (by_bit l) (tr t) 0 := by simpa [itv] using he
        with_reducible refine xm_go_blk b_X10_writeValue_16 k_X10_writeValue_16 ?_
        refine by_iload rfl ?_
        refine by_sipush cs_8192 ?_
        refine by_ic_gt 92 rfl ?_
        simp (disch := first | exact Nat.ne_of_beq_eq_false rfl | exact rfl | omega) only [nI_add, xa_sub, xa_mul, pk_div, nm_mod, xa_shr, xa_and7, xa_and1, xa_and255, xa_by_and, nI_m1, Nat.add_sub_cancel, Nat.reducePow, Nat.zero_add, Nat.add_zero, Nat.reduceAdd, Nat.reduceMul, Nat.reduceSub, xf_same, xq_ff, xq_fo, xf_1, xf_2, xs_1, xs_2, xs_same, xq_so, xj_1, xj_2, xj_same, xq_jo, xq_sa1, xq_same, xq_other, upd_s, oI_n, oI_s, xv_0, xv_1, xv_2, xv_3, xm_p1, xm_p2, xq_fp, xq_fn, List.filter_nil, Nat.reduceBEq, Bool.not_true, Bool.not_false, Bool.and_true, Bool.and_false, Bool.false_and, Bool.true_and, if_true, if_false, Bool.false_eq_true, reduceIte, xc_i, xc_j, xc_r, xc_n, List.nil_append, List.cons_append, Option.toList_some, Option.toList_none, nI_ltJ, nI_leJ, nI_eqJ, nI_ltz, nI_gez, nI_gtz, nI_lez, nI_eqz, m1_ltz, m1_gez, true_imp_iff, false_imp_iff, true_and, and_true, ne_eq, not_false_eq_true, not_true_eq_false, Nat.reduceEqDiff, Nat.reduceLT, Nat.reduceLeDiff, e11]
        refine ⟨fun c => absurd c (by omega), fun c16 => ?_⟩
        with_reducible refine xm_go_blk b_X10_writeValue_24 k_X10_writeValue_24 ?_
        refine by_aload_n rfl ?_
        refine by_getf cn_177 fl_10_62 (by first | exact rfl | assumption | exact ps_14 hpp) (by decide) ?_
        simp (disch := first | exact Nat.ne_of_beq_eq_false rfl | exact rfl | omega) only [nI_add, xa_sub, xa_mul, pk_div, nm_mod, xa_shr, xa_and7, xa_and1, xa_and255, xa_by_and, nI_m1, Nat.add_sub_cancel, Nat.reducePow, Nat.zero_add, Nat.add_zero, Nat.reduceAdd, Nat.reduceMul, Nat.reduceSub, xf_same, xq_ff, xq_fo, xf_1, xf_2, xs_1, xs_2, xs_same, xq_so, xj_1, xj_2, xj_same, xq_jo, xq_sa1, xq_same, xq_other, upd_s, oI_n, oI_s, e11]
        refine by_if_le 92 rfl ?_
        simp (disch := first | exact Nat.ne_of_beq_eq_false rfl | exact rfl | omega) only [nI_add, xa_sub, xa_mul, pk_div, nm_mod, xa_shr, xa_and7, xa_and1, xa_and255, xa_by_and, nI_m1, Nat.add_sub_cancel, Nat.reducePow, Nat.zero_add, Nat.add_zero, Nat.reduceAdd, Nat.reduceMul, Nat.reduceSub, xf_same, xq_ff, xq_fo, xf_1, xf_2, xs_1, xs_2, xs_same, xq_so, xj_1, xj_2, xj_same, xq_jo, xq_sa1, xq_same, xq_other, upd_s, oI_n, oI_s, xv_0, xv_1, xv_2, xv_3, xm_p1, xm_p2, xq_fp, xq_fn, List.filter_nil, Nat.reduceBEq, Bool.not_true, Bool.not_false, Bool.and_true, Bool.and_false, Bool.false_and, Bool.true_and, if_true, if_false, Bool.false_eq_true, reduceIte, xc_i, xc_j, xc_r, xc_n, List.nil_append, List.cons_append, Option.toList_some, Option.toList_none, nI_ltJ, nI_leJ, nI_eqJ, nI_ltz, nI_gez, nI_gtz, nI_lez, nI_eqz, m1_ltz, m1_gez, true_imp_iff, false_imp_iff, true_and, and_true, ne_eq, not_false_eq_true, not_true_eq_false, Nat.reduceEqDiff, Nat.reduceLT, Nat.reduceLeDiff, e11]
        with_reducible refine xm_go_blk b_X10_writeValue_92 k_X10_writeValue_92 ?_
        refine by_ret ry_177 ?_
        exact hp h2 dn f2 p2 (fun _ => e2) (fun z => e2 ▸ z)
      have e11 := s2.1
      simp only [List.length_cons] at e11 hlen
      by_cases ov : dn.length ≤ 8192
      · have eov : h2.2.2 5 2 = .int (nI 0) := by rw [p2.2.1, if_pos ov]
        have f3 : Fr [] [(pp + 14, 11)] h2 (xm_sf h2 (pp + 14) 11 (.int (nI q.length))) := Fr_sf Fr_rf (by simp)
        have F3 := Fr_XF F2 f3 (sy_fin hpp)
        have p3 : penIs (xm_sf h2 (pp + 14) 11 (.int (nI q.length))) dn := penIs_fr p2 f3 (by simp) (by simp <;> omega) (by simp <;> omega)
        have f03 : Fr [6, pp + 24] (twT pp) h (xm_sf h2 (pp + 14) 11 (.int (nI q.length))) := Fr_tr f2 f3 (by simp) (by simp [twT])
        have e3 : (xm_sf h2 (pp + 14) 11 (.int (nI q.length))).2.2 (pp + 14) 11 = .int (nI q.length) := by simp only [xf_same]
        rcases x with c | ty
        · obtain ⟨⟨c1, c2, c3, c4⟩, s3⟩ := s2.2
          have g := ng_ge c2 c3
          have S3 : xSt (xm_sf h2 (pp + 14) 11 (.int (nI q.length))) pp cn tr q := ⟨e3, xStk_o s3 (fun _ _ => rfl)⟩
          with_reducible refine xm_go_blk b_X10_writeValue_16 k_X10_writeValue_16 ?_
          refine by_iload rfl ?_
          refine by_sipush cs_8192 ?_
          refine by_ic_gt 92 rfl ?_
          simp (disch := first | exact Nat.ne_of_beq_eq_false rfl | exact rfl | omega) only [nI_add, xa_sub, xa_mul, pk_div, nm_mod, xa_shr, xa_and7, xa_and1, xa_and255, xa_by_and, nI_m1, Nat.add_sub_cancel, Nat.reducePow, Nat.zero_add, Nat.add_zero, Nat.reduceAdd, Nat.reduceMul, Nat.reduceSub, xf_same, xq_ff, xq_fo, xf_1, xf_2, xs_1, xs_2, xs_same, xq_so, xj_1, xj_2, xj_same, xq_jo, xq_sa1, xq_same, xq_other, upd_s, oI_n, oI_s, xv_0, xv_1, xv_2, xv_3, xm_p1, xm_p2, xq_fp, xq_fn, List.filter_nil, Nat.reduceBEq, Bool.not_true, Bool.not_false, Bool.and_true, Bool.and_false, Bool.false_and, Bool.true_and, if_true, if_false, Bool.false_eq_true, reduceIte, xc_i, xc_j, xc_r, xc_n, List.nil_append, List.cons_append, Option.toList_some, Option.toList_none, nI_ltJ, nI_leJ, nI_eqJ, nI_ltz, nI_gez, nI_gtz, nI_lez, nI_eqz, m1_ltz, m1_gez, true_imp_iff, false_imp_iff, true_and, and_true, ne_eq, not_false_eq_true, not_true_eq_false, Nat.reduceEqDiff, Nat.reduceLT, Nat.reduceLeDiff, e11, eov, pt_10 F2 hpp, c1, g, Int32.neg_neg]
          refine ⟨fun c => absurd c (by omega), fun c16 => ?_⟩
          with_reducible refine xm_go_blk b_X10_writeValue_24 k_X10_writeValue_24 ?_
          refine by_aload_n rfl ?_
          refine by_getf cn_177 fl_10_62 (by first | exact rfl | assumption | exact ps_14 hpp) (by decide) ?_
          simp (disch := first | exact Nat.ne_of_beq_eq_false rfl | exact rfl | omega) only [nI_add, xa_sub, xa_mul, pk_div, nm_mod, xa_shr, xa_and7, xa_and1, xa_and255, xa_by_and, nI_m1, Nat.add_sub_cancel, Nat.reducePow, Nat.zero_add, Nat.add_zero, Nat.reduceAdd, Nat.reduceMul, Nat.reduceSub, xf_same, xq_ff, xq_fo, xf_1, xf_2, xs_1, xs_2, xs_same, xq_so, xj_1, xj_2, xj_same, xq_jo, xq_sa1, xq_same, xq_other, upd_s, oI_n, oI_s, e11, eov, pt_10 F2 hpp, c1, g, Int32.neg_neg]
          refine by_if_le 92 rfl ?_
          simp (disch := first | exact Nat.ne_of_beq_eq_false rfl | exact rfl | omega) only [nI_add, xa_sub, xa_mul, pk_div, nm_mod, xa_shr, xa_and7, xa_and1, xa_and255, xa_by_and, nI_m1, Nat.add_sub_cancel, Nat.reducePow, Nat.zero_add, Nat.add_zero, Nat.reduceAdd, Nat.reduceMul, Nat.reduceSub, xf_same, xq_ff, xq_fo, xf_1, xf_2, xs_1, xs_2, xs_same, xq_so, xj_1, xj_2, xj_same, xq_jo, xq_sa1, xq_same, xq_other, upd_s, oI_n, oI_s, xv_0, xv_1, xv_2, xv_3, xm_p1, xm_p2, xq_fp, xq_fn, List.filter_nil, Nat.reduceBEq, Bool.not_true, Bool.not_false, Bool.and_true, Bool.and_false, Bool.false_and, Bool.true_and, if_true, if_false, Bool.false_eq_true, reduceIte, xc_i, xc_j, xc_r, xc_n, List.nil_append, List.cons_append, Option.toList_some, Option.toList_none, nI_ltJ, nI_leJ, nI_eqJ, nI_ltz, nI_gez, nI_gtz, nI_lez, nI_eqz, m1_ltz, m1_gez, true_imp_iff, false_imp_iff, true_and, and_true, ne_eq, not_false_eq_true, not_true_eq_false, Nat.reduceEqDiff, Nat.reduceLT, Nat.reduceLeDiff, e11, eov, pt_10 F2 hpp, c1, g, Int32.neg_neg]
          with_reducible refine xm_go_blk b_X10_writeValue_31 k_X10_writeValue_31 ?_
          refine by_aload_n rfl ?_
          refine by_getf cn_177 fl_10_97 (by first | exact rfl | assumption | exact ps_12 hpp) (by decide) ?_
          simp (disch := first | exact Nat.ne_of_beq_eq_false rfl | exact rfl | omega) only [nI_add, xa_sub, xa_mul, pk_div, nm_mod, xa_shr, xa_and7, xa_and1, xa_and255, xa_by_and, nI_m1, Nat.add_sub_cancel, Nat.reducePow, Nat.zero_add, Nat.add_zero, Nat.reduceAdd, Nat.reduceMul, Nat.reduceSub, xf_same, xq_ff, xq_fo, xf_1, xf_2, xs_1, xs_2, xs_same, xq_so, xj_1, xj_2, xj_same, xq_jo, xq_sa1, xq_same, xq_other, upd_s, oI_n, oI_s, e11, eov, pt_10 F2 hpp, c1, g, Int32.neg_neg]
          refine by_if_ne 92 rfl ?_
          simp (disch := first | exact Nat.ne_of_beq_eq_false rfl | exact rfl | omega) only [nI_add, xa_sub, xa_mul, pk_div, nm_mod, xa_shr, xa_and7, xa_and1, xa_and255, xa_by_and, nI_m1, Nat.add_sub_cancel, Nat.reducePow, Nat.zero_add, Nat.add_zero, Nat.reduceAdd, Nat.reduceMul, Nat.reduceSub, xf_same, xq_ff, xq_fo, xf_1, xf_2, xs_1, xs_2, xs_same, xq_so, xj_1, xj_2, xj_same, xq_jo, xq_sa1, xq_same, xq_other, upd_s, oI_n, oI_s, xv_0, xv_1, xv_2, xv_3, xm_p1, xm_p2, xq_fp, xq_fn, List.filter_nil, Nat.reduceBEq, Bool.not_true, Bool.not_false, Bool.and_true, Bool.and_false, Bool.false_and, Bool.true_and, if_true, if_false, Bool.false_eq_true, reduceIte, xc_i, xc_j, xc_r, xc_n, List.nil_append, List.cons_append, Option.toList_some, Option.toList_none, nI_ltJ, nI_leJ, nI_eqJ, nI_ltz, nI_gez, nI_gtz, nI_lez, nI_eqz, m1_ltz, m1_gez, true_imp_iff, false_imp_iff, true_and, and_true, ne_eq, not_false_eq_true, not_true_eq_false, Nat.reduceEqDiff, Nat.reduceLT, Nat.reduceLeDiff, e11, eov, pt_10 F2 hpp, c1, g, Int32.neg_neg]
          with_reducible refine xm_go_blk b_X10_writeValue_38 k_X10_writeValue_38 ?_
          refine by_aload_n rfl ?_
          refine by_dup rfl ?_
          refine by_getf cn_177 fl_10_62 (by first | exact rfl | assumption | exact ps_14 hpp) (by decide) ?_
          refine by_iconst ci_1 ?_
          simp (disch := first | exact Nat.ne_of_beq_eq_false rfl | exact rfl | omega) only [nI_add, xa_sub, xa_mul, pk_div, nm_mod, xa_shr, xa_and7, xa_and1, xa_and255, xa_by_and, nI_m1, Nat.add_sub_cancel, Nat.reducePow, Nat.zero_add, Nat.add_zero, Nat.reduceAdd, Nat.reduceMul, Nat.reduceSub, xf_same, xq_ff, xq_fo, xf_1, xf_2, xs_1, xs_2, xs_same, xq_so, xj_1, xj_2, xj_same, xq_jo, xq_sa1, xq_same, xq_other, upd_s, oI_n, oI_s, e11, eov, pt_10 F2 hpp, c1, g, Int32.neg_neg]
          refine by_isub ?_
          refine by_putf cn_177 fl_10_62 (by first | exact rfl | assumption | exact ps_14 hpp) (by decide) nf_10_11 ft_10_11 (by first | rfl | assumption) (by first | rfl | assumption) ?_
          refine by_aload_n rfl ?_
          refine by_getf cn_177 fl_10_40 (by first | exact rfl | assumption | exact ps_14 hpp) (by decide) ?_
          refine by_aload_n rfl ?_
          refine by_getf cn_177 fl_10_62 (by first | exact rfl | assumption | exact ps_14 hpp) (by decide) ?_
          simp (disch := first | exact Nat.ne_of_beq_eq_false rfl | exact rfl | omega) only [nI_add, xa_sub, xa_mul, pk_div, nm_mod, xa_shr, xa_and7, xa_and1, xa_and255, xa_by_and, nI_m1, Nat.add_sub_cancel, Nat.reducePow, Nat.zero_add, Nat.add_zero, Nat.reduceAdd, Nat.reduceMul, Nat.reduceSub, xf_same, xq_ff, xq_fo, xf_1, xf_2, xs_1, xs_2, xs_same, xq_so, xj_1, xj_2, xj_same, xq_jo, xq_sa1, xq_same, xq_other, upd_s, oI_n, oI_s, e11, eov, pt_10 F2 hpp, c1, g, Int32.neg_neg]
          first | refine by_iald (by first | exact rfl | assumption | exact ps_1 hpp | exact ps_2 hpp | exact ps_3 hpp | exact ps_4 hpp | exact ps_5 hpp | exact ps_6 hpp | exact ps_7 hpp | exact ps_8 hpp | exact ps_9 hpp | exact ps_10 hpp | exact ps_11 hpp | exact ps_15 hpp | exact ps_16 hpp | exact ps_17 hpp | exact ps_18 hpp | exact ps_19 hpp | exact ps_21 hpp | exact ps_22 hpp | exact ps_23 hpp | exact ps_24 hpp) ⟨by omega, by omega⟩ ?_ | refine by_tald rfl rfl ⟨by omega, by omega⟩ ?_
          refine by_istore (by rw [ml_177]; decide) ?_
          refine by_iload rfl ?_
          refine by_if_ge 74 rfl ?_
          simp (disch := first | exact Nat.ne_of_beq_eq_false rfl | exact rfl | omega) only [nI_add, xa_sub, xa_mul, pk_div, nm_mod, xa_shr, xa_and7, xa_and1, xa_and255, xa_by_and, nI_m1, Nat.add_sub_cancel, Nat.reducePow, Nat.zero_add, Nat.add_zero, Nat.reduceAdd, Nat.reduceMul, Nat.reduceSub, xf_same, xq_ff, xq_fo, xf_1, xf_2, xs_1, xs_2, xs_same, xq_so, xj_1, xj_2, xj_same, xq_jo, xq_sa1, xq_same, xq_other, upd_s, oI_n, oI_s, xv_0, xv_1, xv_2, xv_3, xm_p1, xm_p2, xq_fp, xq_fn, List.filter_nil, Nat.reduceBEq, Bool.not_true, Bool.not_false, Bool.and_true, Bool.and_false, Bool.false_and, Bool.true_and, if_true, if_false, Bool.false_eq_true, reduceIte, xc_i, xc_j, xc_r, xc_n, List.nil_append, List.cons_append, Option.toList_some, Option.toList_none, nI_ltJ, nI_leJ, nI_eqJ, nI_ltz, nI_gez, nI_gtz, nI_lez, nI_eqz, m1_ltz, m1_gez, true_imp_iff, false_imp_iff, true_and, and_true, ne_eq, not_false_eq_true, not_true_eq_false, Nat.reduceEqDiff, Nat.reduceLT, Nat.reduceLeDiff, e11, eov, pt_10 F2 hpp, c1, g, Int32.neg_neg]
          with_reducible refine xm_go_blk b_X10_writeValue_64 k_X10_writeValue_64 ?_
          refine by_aload_n rfl ?_
          refine by_iload rfl ?_
          refine by_ineg ?_
          simp (disch := first | exact Nat.ne_of_beq_eq_false rfl | exact rfl | omega) only [nI_add, xa_sub, xa_mul, pk_div, nm_mod, xa_shr, xa_and7, xa_and1, xa_and255, xa_by_and, nI_m1, Nat.add_sub_cancel, Nat.reducePow, Nat.zero_add, Nat.add_zero, Nat.reduceAdd, Nat.reduceMul, Nat.reduceSub, xf_same, xq_ff, xq_fo, xf_1, xf_2, xs_1, xs_2, xs_same, xq_so, xj_1, xj_2, xj_same, xq_jo, xq_sa1, xq_same, xq_other, upd_s, oI_n, oI_s, xv_0, xv_1, xv_2, xv_3, xm_p1, xm_p2, xq_fp, xq_fn, List.filter_nil, Nat.reduceBEq, Bool.not_true, Bool.not_false, Bool.and_true, Bool.and_false, Bool.false_and, Bool.true_and, if_true, if_false, Bool.false_eq_true, reduceIte, xc_i, xc_j, xc_r, xc_n, List.nil_append, List.cons_append, Option.toList_some, Option.toList_none, e11, eov, pt_10 F2 hpp, c1, g, Int32.neg_neg]
          refine by_inv1 cn_177 lk_10_90 (by rw [xe_cnt]; decide) is_133 np_133 cn_133 (by first | exact rfl | assumption | exact ps_12 hpp) (Nat.le_of_ble_eq_true rfl) ?_
          refine sp_pen F3 p3 c3 (fun h4 f4 p4 => ?_)
          with_reducible refine xm_go_blk b_X10_writeValue_71 k_X10_writeValue_71 ?_
          refine by_goto 86 rfl ?_
          with_reducible refine xm_go_blk b_X10_writeValue_86 k_X10_writeValue_86 ?_
          refine by_iinc (by rw [ml_177]; decide) rfl ci_1 ?_
          refine by_goto 16 rfl ?_
          try simp (disch := first | exact Nat.ne_of_beq_eq_false rfl | exact rfl | omega) only [nI_add, xa_sub, xa_mul, pk_div, nm_mod, xa_shr, xa_and7, xa_and1, xa_and255, xa_by_and, nI_m1, Nat.add_sub_cancel, Nat.reducePow, Nat.zero_add, Nat.add_zero, Nat.reduceAdd, Nat.reduceMul, Nat.reduceSub, xf_same, xq_ff, xq_fo, xf_1, xf_2, xs_1, xs_2, xs_same, xq_so, xj_1, xj_2, xj_same, xq_jo, xq_sa1, xq_same, xq_other, upd_s, oI_n, oI_s, xv_0, xv_1, xv_2, xv_3, xm_p1, xm_p2, xq_fp, xq_fn, List.filter_nil, Nat.reduceBEq, Bool.not_true, Bool.not_false, Bool.and_true, Bool.and_false, Bool.false_and, Bool.true_and, if_true, if_false, Bool.false_eq_true, reduceIte, xc_i, xc_j, xc_r, xc_n, List.nil_append, List.cons_append, Option.toList_some, Option.toList_none]
          refine xm_go_wk (by simp [Value.category]) (ih q (dn ++ [c]) p (tn + 1) h4 (by omega) (by simp; omega) (by rw [← he, itv, List.append_assoc]; rfl) hpw (Fr_tr f03 f4 (by simp) (by simp [twT])) p4 (xSt_fr S3 f4 (by simp <;> omega) (by simp <;> omega)))
        · obtain ⟨⟨i, _, i1, i2, i3, i4⟩, s3⟩ := s2.2
          have S3 : xSt (xm_sf h2 (pp + 14) 11 (.int (nI q.length))) pp cn tr q := ⟨e3, xStk_o s3 (fun _ _ => rfl)⟩
          have hT3 : tyT (xm_sf h2 (pp + 14) 11 (.int (nI q.length))) pp cn tr K L R := tyT_fr hT f03 (by simp [twT] <;> omega) (by simp [taR] <;> omega)
          subst i2
          simp only [wiT] at hpw
          with_reducible refine xm_go_blk b_X10_writeValue_16 k_X10_writeValue_16 ?_
          refine by_iload rfl ?_
          refine by_sipush cs_8192 ?_
          refine by_ic_gt 92 rfl ?_
          simp (disch := first | exact Nat.ne_of_beq_eq_false rfl | exact rfl | omega) only [nI_add, xa_sub, xa_mul, pk_div, nm_mod, xa_shr, xa_and7, xa_and1, xa_and255, xa_by_and, nI_m1, Nat.add_sub_cancel, Nat.reducePow, Nat.zero_add, Nat.add_zero, Nat.reduceAdd, Nat.reduceMul, Nat.reduceSub, xf_same, xq_ff, xq_fo, xf_1, xf_2, xs_1, xs_2, xs_same, xq_so, xj_1, xj_2, xj_same, xq_jo, xq_sa1, xq_same, xq_other, upd_s, oI_n, oI_s, xv_0, xv_1, xv_2, xv_3, xm_p1, xm_p2, xq_fp, xq_fn, List.filter_nil, Nat.reduceBEq, Bool.not_true, Bool.not_false, Bool.and_true, Bool.and_false, Bool.false_and, Bool.true_and, if_true, if_false, Bool.false_eq_true, reduceIte, xc_i, xc_j, xc_r, xc_n, List.nil_append, List.cons_append, Option.toList_some, Option.toList_none, nI_ltJ, nI_leJ, nI_eqJ, nI_ltz, nI_gez, nI_gtz, nI_lez, nI_eqz, m1_ltz, m1_gez, true_imp_iff, false_imp_iff, true_and, and_true, ne_eq, not_false_eq_true, not_true_eq_false, Nat.reduceEqDiff, Nat.reduceLT, Nat.reduceLeDiff, e11, eov, pt_10 F2 hpp, i3]
          refine ⟨fun c => absurd c (by omega), fun c16 => ?_⟩
          with_reducible refine xm_go_blk b_X10_writeValue_24 k_X10_writeValue_24 ?_
          refine by_aload_n rfl ?_
          refine by_getf cn_177 fl_10_62 (by first | exact rfl | assumption | exact ps_14 hpp) (by decide) ?_
          simp (disch := first | exact Nat.ne_of_beq_eq_false rfl | exact rfl | omega) only [nI_add, xa_sub, xa_mul, pk_div, nm_mod, xa_shr, xa_and7, xa_and1, xa_and255, xa_by_and, nI_m1, Nat.add_sub_cancel, Nat.reducePow, Nat.zero_add, Nat.add_zero, Nat.reduceAdd, Nat.reduceMul, Nat.reduceSub, xf_same, xq_ff, xq_fo, xf_1, xf_2, xs_1, xs_2, xs_same, xq_so, xj_1, xj_2, xj_same, xq_jo, xq_sa1, xq_same, xq_other, upd_s, oI_n, oI_s, e11, eov, pt_10 F2 hpp, i3]
          refine by_if_le 92 rfl ?_
          simp (disch := first | exact Nat.ne_of_beq_eq_false rfl | exact rfl | omega) only [nI_add, xa_sub, xa_mul, pk_div, nm_mod, xa_shr, xa_and7, xa_and1, xa_and255, xa_by_and, nI_m1, Nat.add_sub_cancel, Nat.reducePow, Nat.zero_add, Nat.add_zero, Nat.reduceAdd, Nat.reduceMul, Nat.reduceSub, xf_same, xq_ff, xq_fo, xf_1, xf_2, xs_1, xs_2, xs_same, xq_so, xj_1, xj_2, xj_same, xq_jo, xq_sa1, xq_same, xq_other, upd_s, oI_n, oI_s, xv_0, xv_1, xv_2, xv_3, xm_p1, xm_p2, xq_fp, xq_fn, List.filter_nil, Nat.reduceBEq, Bool.not_true, Bool.not_false, Bool.and_true, Bool.and_false, Bool.false_and, Bool.true_and, if_true, if_false, Bool.false_eq_true, reduceIte, xc_i, xc_j, xc_r, xc_n, List.nil_append, List.cons_append, Option.toList_some, Option.toList_none, nI_ltJ, nI_leJ, nI_eqJ, nI_ltz, nI_gez, nI_gtz, nI_lez, nI_eqz, m1_ltz, m1_gez, true_imp_iff, false_imp_iff, true_and, and_true, ne_eq, not_false_eq_true, not_true_eq_false, Nat.reduceEqDiff, Nat.reduceLT, Nat.reduceLeDiff, e11, eov, pt_10 F2 hpp, i3]
          with_reducible refine xm_go_blk b_X10_writeValue_31 k_X10_writeValue_31 ?_
          refine by_aload_n rfl ?_
          refine by_getf cn_177 fl_10_97 (by first | exact rfl | assumption | exact ps_12 hpp) (by decide) ?_
          simp (disch := first | exact Nat.ne_of_beq_eq_false rfl | exact rfl | omega) only [nI_add, xa_sub, xa_mul, pk_div, nm_mod, xa_shr, xa_and7, xa_and1, xa_and255, xa_by_and, nI_m1, Nat.add_sub_cancel, Nat.reducePow, Nat.zero_add, Nat.add_zero, Nat.reduceAdd, Nat.reduceMul, Nat.reduceSub, xf_same, xq_ff, xq_fo, xf_1, xf_2, xs_1, xs_2, xs_same, xq_so, xj_1, xj_2, xj_same, xq_jo, xq_sa1, xq_same, xq_other, upd_s, oI_n, oI_s, e11, eov, pt_10 F2 hpp, i3]
          refine by_if_ne 92 rfl ?_
          simp (disch := first | exact Nat.ne_of_beq_eq_false rfl | exact rfl | omega) only [nI_add, xa_sub, xa_mul, pk_div, nm_mod, xa_shr, xa_and7, xa_and1, xa_and255, xa_by_and, nI_m1, Nat.add_sub_cancel, Nat.reducePow, Nat.zero_add, Nat.add_zero, Nat.reduceAdd, Nat.reduceMul, Nat.reduceSub, xf_same, xq_ff, xq_fo, xf_1, xf_2, xs_1, xs_2, xs_same, xq_so, xj_1, xj_2, xj_same, xq_jo, xq_sa1, xq_same, xq_other, upd_s, oI_n, oI_s, xv_0, xv_1, xv_2, xv_3, xm_p1, xm_p2, xq_fp, xq_fn, List.filter_nil, Nat.reduceBEq, Bool.not_true, Bool.not_false, Bool.and_true, Bool.and_false, Bool.false_and, Bool.true_and, if_true, if_false, Bool.false_eq_true, reduceIte, xc_i, xc_j, xc_r, xc_n, List.nil_append, List.cons_append, Option.toList_some, Option.toList_none, nI_ltJ, nI_leJ, nI_eqJ, nI_ltz, nI_gez, nI_gtz, nI_lez, nI_eqz, m1_ltz, m1_gez, true_imp_iff, false_imp_iff, true_and, and_true, ne_eq, not_false_eq_true, not_true_eq_false, Nat.reduceEqDiff, Nat.reduceLT, Nat.reduceLeDiff, e11, eov, pt_10 F2 hpp, i3]
          with_reducible refine xm_go_blk b_X10_writeValue_38 k_X10_writeValue_38 ?_
          refine by_aload_n rfl ?_
          refine by_dup rfl ?_
          refine by_getf cn_177 fl_10_62 (by first | exact rfl | assumption | exact ps_14 hpp) (by decide) ?_
          refine by_iconst ci_1 ?_
          simp (disch := first | exact Nat.ne_of_beq_eq_false rfl | exact rfl | omega) only [nI_add, xa_sub, xa_mul, pk_div, nm_mod, xa_shr, xa_and7, xa_and1, xa_and255, xa_by_and, nI_m1, Nat.add_sub_cancel, Nat.reducePow, Nat.zero_add, Nat.add_zero, Nat.reduceAdd, Nat.reduceMul, Nat.reduceSub, xf_same, xq_ff, xq_fo, xf_1, xf_2, xs_1, xs_2, xs_same, xq_so, xj_1, xj_2, xj_same, xq_jo, xq_sa1, xq_same, xq_other, upd_s, oI_n, oI_s, e11, eov, pt_10 F2 hpp, i3]
          refine by_isub ?_
          refine by_putf cn_177 fl_10_62 (by first | exact rfl | assumption | exact ps_14 hpp) (by decide) nf_10_11 ft_10_11 (by first | rfl | assumption) (by first | rfl | assumption) ?_
          refine by_aload_n rfl ?_
          refine by_getf cn_177 fl_10_40 (by first | exact rfl | assumption | exact ps_14 hpp) (by decide) ?_
          refine by_aload_n rfl ?_
          refine by_getf cn_177 fl_10_62 (by first | exact rfl | assumption | exact ps_14 hpp) (by decide) ?_
          simp (disch := first | exact Nat.ne_of_beq_eq_false rfl | exact rfl | omega) only [nI_add, xa_sub, xa_mul, pk_div, nm_mod, xa_shr, xa_and7, xa_and1, xa_and255, xa_by_and, nI_m1, Nat.add_sub_cancel, Nat.reducePow, Nat.zero_add, Nat.add_zero, Nat.reduceAdd, Nat.reduceMul, Nat.reduceSub, xf_same, xq_ff, xq_fo, xf_1, xf_2, xs_1, xs_2, xs_same, xq_so, xj_1, xj_2, xj_same, xq_jo, xq_sa1, xq_same, xq_other, upd_s, oI_n, oI_s, e11, eov, pt_10 F2 hpp, i3]
          first | refine by_iald (by first | exact rfl | assumption | exact ps_1 hpp | exact ps_2 hpp | exact ps_3 hpp | exact ps_4 hpp | exact ps_5 hpp | exact ps_6 hpp | exact ps_7 hpp | exact ps_8 hpp | exact ps_9 hpp | exact ps_10 hpp | exact ps_11 hpp | exact ps_15 hpp | exact ps_16 hpp | exact ps_17 hpp | exact ps_18 hpp | exact ps_19 hpp | exact ps_21 hpp | exact ps_22 hpp | exact ps_23 hpp | exact ps_24 hpp) ⟨by omega, by omega⟩ ?_ | refine by_tald rfl rfl ⟨by omega, by omega⟩ ?_
          refine by_istore (by rw [ml_177]; decide) ?_
          refine by_iload rfl ?_
          refine by_if_ge 74 rfl ?_
          simp (disch := first | exact Nat.ne_of_beq_eq_false rfl | exact rfl | omega) only [nI_add, xa_sub, xa_mul, pk_div, nm_mod, xa_shr, xa_and7, xa_and1, xa_and255, xa_by_and, nI_m1, Nat.add_sub_cancel, Nat.reducePow, Nat.zero_add, Nat.add_zero, Nat.reduceAdd, Nat.reduceMul, Nat.reduceSub, xf_same, xq_ff, xq_fo, xf_1, xf_2, xs_1, xs_2, xs_same, xq_so, xj_1, xj_2, xj_same, xq_jo, xq_sa1, xq_same, xq_other, upd_s, oI_n, oI_s, xv_0, xv_1, xv_2, xv_3, xm_p1, xm_p2, xq_fp, xq_fn, List.filter_nil, Nat.reduceBEq, Bool.not_true, Bool.not_false, Bool.and_true, Bool.and_false, Bool.false_and, Bool.true_and, if_true, if_false, Bool.false_eq_true, reduceIte, xc_i, xc_j, xc_r, xc_n, List.nil_append, List.cons_append, Option.toList_some, Option.toList_none, nI_ltJ, nI_leJ, nI_eqJ, nI_ltz, nI_gez, nI_gtz, nI_lez, nI_eqz, m1_ltz, m1_gez, true_imp_iff, false_imp_iff, true_and, and_true, ne_eq, not_false_eq_true, not_true_eq_false, Nat.reduceEqDiff, Nat.reduceLT, Nat.reduceLeDiff, e11, eov, pt_10 F2 hpp, i3]
          with_reducible refine xm_go_blk b_X10_writeValue_74 k_X10_writeValue_74 ?_
          refine by_aload_n rfl ?_
          refine by_aload_n rfl ?_
          refine by_iload rfl ?_
          refine by_iload rfl ?_
          refine by_aload_n rfl ?_
          refine by_inv4 cn_177 lk_10_101 (by rw [xe_cnt]; decide) is_175 np_175 cn_175 (by first | exact rfl | assumption | exact ps_14 hpp) (Nat.le_of_ble_eq_true rfl) ?_
          refine sp_writePart (d := d) (l := l) F3 hpp hT3 hcn i1 (rowIs_fr hrow f03 (by simp <;> omega) (by simp [twT] <;> omega) (by simp [twT] <;> omega)) (by omega) p3 S3 i4 (fun h4 q4 p4 dn4 f4 pn4 S4 hl4 he4 hw4 => ?_)
          with_reducible refine xm_go_blk b_X10_writeValue_84 k_X10_writeValue_84 ?_
          refine by_istore (by rw [ml_177]; decide) ?_
          refine by_nil ?_
          try simp (disch := first | exact Nat.ne_of_beq_eq_false rfl | exact rfl | omega) only [nI_add, xa_sub, xa_mul, pk_div, nm_mod, xa_shr, xa_and7, xa_and1, xa_and255, xa_by_and, nI_m1, Nat.add_sub_cancel, Nat.reducePow, Nat.zero_add, Nat.add_zero, Nat.reduceAdd, Nat.reduceMul, Nat.reduceSub, xf_same, xq_ff, xq_fo, xf_1, xf_2, xs_1, xs_2, xs_same, xq_so, xj_1, xj_2, xj_same, xq_jo, xq_sa1, xq_same, xq_other, upd_s, oI_n, oI_s, xv_0, xv_1, xv_2, xv_3, xm_p1, xm_p2, xq_fp, xq_fn, List.filter_nil, Nat.reduceBEq, Bool.not_true, Bool.not_false, Bool.and_true, Bool.and_false, Bool.false_and, Bool.true_and, if_true, if_false, Bool.false_eq_true, reduceIte, xc_i, xc_j, xc_r, xc_n, List.nil_append, List.cons_append, Option.toList_some, Option.toList_none]
          with_reducible refine xm_go_blk b_X10_writeValue_86 k_X10_writeValue_86 ?_
          refine by_iinc (by rw [ml_177]; decide) rfl ci_1 ?_
          refine by_goto 16 rfl ?_
          try simp (disch := first | exact Nat.ne_of_beq_eq_false rfl | exact rfl | omega) only [nI_add, xa_sub, xa_mul, pk_div, nm_mod, xa_shr, xa_and7, xa_and1, xa_and255, xa_by_and, nI_m1, Nat.add_sub_cancel, Nat.reducePow, Nat.zero_add, Nat.add_zero, Nat.reduceAdd, Nat.reduceMul, Nat.reduceSub, xf_same, xq_ff, xq_fo, xf_1, xf_2, xs_1, xs_2, xs_same, xq_so, xj_1, xj_2, xj_same, xq_jo, xq_sa1, xq_same, xq_other, upd_s, oI_n, oI_s, xv_0, xv_1, xv_2, xv_3, xm_p1, xm_p2, xq_fp, xq_fn, List.filter_nil, Nat.reduceBEq, Bool.not_true, Bool.not_false, Bool.and_true, Bool.and_false, Bool.false_and, Bool.true_and, if_true, if_false, Bool.false_eq_true, reduceIte, xc_i, xc_j, xc_r, xc_n, List.nil_append, List.cons_append, Option.toList_some, Option.toList_none]
          refine xm_go_wk (by simp [Value.category]) (ih q4 dn4 p4 (tn + 1) h4 (by omega) (by omega) (by rw [he4, ← he]; rfl) (by omega) (Fr_tr f03 f4 (fun _ z => z) (fun _ z => z)) pn4 S4)
      · have eov : h2.2.2 5 2 = .int (nI 1) := by rw [p2.2.1, if_neg ov]
        with_reducible refine xm_go_blk b_X10_writeValue_16 k_X10_writeValue_16 ?_
        refine by_iload rfl ?_
        refine by_sipush cs_8192 ?_
        refine by_ic_gt 92 rfl ?_
        simp (disch := first | exact Nat.ne_of_beq_eq_false rfl | exact rfl | omega) only [nI_add, xa_sub, xa_mul, pk_div, nm_mod, xa_shr, xa_and7, xa_and1, xa_and255, xa_by_and, nI_m1, Nat.add_sub_cancel, Nat.reducePow, Nat.zero_add, Nat.add_zero, Nat.reduceAdd, Nat.reduceMul, Nat.reduceSub, xf_same, xq_ff, xq_fo, xf_1, xf_2, xs_1, xs_2, xs_same, xq_so, xj_1, xj_2, xj_same, xq_jo, xq_sa1, xq_same, xq_other, upd_s, oI_n, oI_s, xv_0, xv_1, xv_2, xv_3, xm_p1, xm_p2, xq_fp, xq_fn, List.filter_nil, Nat.reduceBEq, Bool.not_true, Bool.not_false, Bool.and_true, Bool.and_false, Bool.false_and, Bool.true_and, if_true, if_false, Bool.false_eq_true, reduceIte, xc_i, xc_j, xc_r, xc_n, List.nil_append, List.cons_append, Option.toList_some, Option.toList_none, nI_ltJ, nI_leJ, nI_eqJ, nI_ltz, nI_gez, nI_gtz, nI_lez, nI_eqz, m1_ltz, m1_gez, true_imp_iff, false_imp_iff, true_and, and_true, ne_eq, not_false_eq_true, not_true_eq_false, Nat.reduceEqDiff, Nat.reduceLT, Nat.reduceLeDiff, e11, eov]
        refine ⟨fun c => absurd c (by omega), fun c16 => ?_⟩
        with_reducible refine xm_go_blk b_X10_writeValue_24 k_X10_writeValue_24 ?_
        refine by_aload_n rfl ?_
        refine by_getf cn_177 fl_10_62 (by first | exact rfl | assumption | exact ps_14 hpp) (by decide) ?_
        simp (disch := first | exact Nat.ne_of_beq_eq_false rfl | exact rfl | omega) only [nI_add, xa_sub, xa_mul, pk_div, nm_mod, xa_shr, xa_and7, xa_and1, xa_and255, xa_by_and, nI_m1, Nat.add_sub_cancel, Nat.reducePow, Nat.zero_add, Nat.add_zero, Nat.reduceAdd, Nat.reduceMul, Nat.reduceSub, xf_same, xq_ff, xq_fo, xf_1, xf_2, xs_1, xs_2, xs_same, xq_so, xj_1, xj_2, xj_same, xq_jo, xq_sa1, xq_same, xq_other, upd_s, oI_n, oI_s, e11, eov]
        refine by_if_le 92 rfl ?_
        simp (disch := first | exact Nat.ne_of_beq_eq_false rfl | exact rfl | omega) only [nI_add, xa_sub, xa_mul, pk_div, nm_mod, xa_shr, xa_and7, xa_and1, xa_and255, xa_by_and, nI_m1, Nat.add_sub_cancel, Nat.reducePow, Nat.zero_add, Nat.add_zero, Nat.reduceAdd, Nat.reduceMul, Nat.reduceSub, xf_same, xq_ff, xq_fo, xf_1, xf_2, xs_1, xs_2, xs_same, xq_so, xj_1, xj_2, xj_same, xq_jo, xq_sa1, xq_same, xq_other, upd_s, oI_n, oI_s, xv_0, xv_1, xv_2, xv_3, xm_p1, xm_p2, xq_fp, xq_fn, List.filter_nil, Nat.reduceBEq, Bool.not_true, Bool.not_false, Bool.and_true, Bool.and_false, Bool.false_and, Bool.true_and, if_true, if_false, Bool.false_eq_true, reduceIte, xc_i, xc_j, xc_r, xc_n, List.nil_append, List.cons_append, Option.toList_some, Option.toList_none, nI_ltJ, nI_leJ, nI_eqJ, nI_ltz, nI_gez, nI_gtz, nI_lez, nI_eqz, m1_ltz, m1_gez, true_imp_iff, false_imp_iff, true_and, and_true, ne_eq, not_false_eq_true, not_true_eq_false, Nat.reduceEqDiff, Nat.reduceLT, Nat.reduceLeDiff, e11, eov]
        with_reducible refine xm_go_blk b_X10_writeValue_31 k_X10_writeValue_31 ?_
        refine by_aload_n rfl ?_
        refine by_getf cn_177 fl_10_97 (by first | exact rfl | assumption | exact ps_12 hpp) (by decide) ?_
        simp (disch := first | exact Nat.ne_of_beq_eq_false rfl | exact rfl | omega) only [nI_add, xa_sub, xa_mul, pk_div, nm_mod, xa_shr, xa_and7, xa_and1, xa_and255, xa_by_and, nI_m1, Nat.add_sub_cancel, Nat.reducePow, Nat.zero_add, Nat.add_zero, Nat.reduceAdd, Nat.reduceMul, Nat.reduceSub, xf_same, xq_ff, xq_fo, xf_1, xf_2, xs_1, xs_2, xs_same, xq_so, xj_1, xj_2, xj_same, xq_jo, xq_sa1, xq_same, xq_other, upd_s, oI_n, oI_s, e11, eov]
        refine by_if_ne 92 rfl ?_
        simp (disch := first | exact Nat.ne_of_beq_eq_false rfl | exact rfl | omega) only [nI_add, xa_sub, xa_mul, pk_div, nm_mod, xa_shr, xa_and7, xa_and1, xa_and255, xa_by_and, nI_m1, Nat.add_sub_cancel, Nat.reducePow, Nat.zero_add, Nat.add_zero, Nat.reduceAdd, Nat.reduceMul, Nat.reduceSub, xf_same, xq_ff, xq_fo, xf_1, xf_2, xs_1, xs_2, xs_same, xq_so, xj_1, xj_2, xj_same, xq_jo, xq_sa1, xq_same, xq_other, upd_s, oI_n, oI_s, xv_0, xv_1, xv_2, xv_3, xm_p1, xm_p2, xq_fp, xq_fn, List.filter_nil, Nat.reduceBEq, Bool.not_true, Bool.not_false, Bool.and_true, Bool.and_false, Bool.false_and, Bool.true_and, if_true, if_false, Bool.false_eq_true, reduceIte, xc_i, xc_j, xc_r, xc_n, List.nil_append, List.cons_append, Option.toList_some, Option.toList_none, nI_ltJ, nI_leJ, nI_eqJ, nI_ltz, nI_gez, nI_gtz, nI_lez, nI_eqz, m1_ltz, m1_gez, true_imp_iff, false_imp_iff, true_and, and_true, ne_eq, not_false_eq_true, not_true_eq_false, Nat.reduceEqDiff, Nat.reduceLT, Nat.reduceLeDiff, e11, eov]
        with_reducible refine xm_go_blk b_X10_writeValue_92 k_X10_writeValue_92 ?_
        refine by_ret ry_177 ?_
        exact hp h2 dn f2 p2 (fun z => absurd z ov) (fun _ => by rw [← he, List.length_append]; omega)
  refine xq_in rfl ?_
  simp only [xq_a0, xq_aI, xq_aJ, xq_aR, Nat.reduceAdd]
  with_reducible refine xm_go_blk b_X10_writeValue_0 k_X10_writeValue_0 ?_
  refine by_iconst ci_0 ?_
  refine by_istore (by rw [ml_177]; decide) ?_
  refine by_aload_n rfl ?_
  refine by_iconst ci_0 ?_
  refine by_putf cn_177 fl_10_62 (by first | exact rfl | assumption | exact ps_14 hpp) (by decide) nf_10_11 ft_10_11 (by first | rfl | assumption) (by first | rfl | assumption) ?_
  refine by_aload_n rfl ?_
  refine by_iload_n rfl ?_
  simp (disch := first | exact Nat.ne_of_beq_eq_false rfl | exact rfl | omega) only [nI_add, xa_sub, xa_mul, pk_div, nm_mod, xa_shr, xa_and7, xa_and1, xa_and255, xa_by_and, nI_m1, Nat.add_sub_cancel, Nat.reducePow, Nat.zero_add, Nat.add_zero, Nat.reduceAdd, Nat.reduceMul, Nat.reduceSub, xf_same, xq_ff, xq_fo, xf_1, xf_2, xs_1, xs_2, xs_same, xq_so, xj_1, xj_2, xj_same, xq_jo, xq_sa1, xq_same, xq_other, upd_s, oI_n, oI_s, xv_0, xv_1, xv_2, xv_3, xm_p1, xm_p2, xq_fp, xq_fn, List.filter_nil, Nat.reduceBEq, Bool.not_true, Bool.not_false, Bool.and_true, Bool.and_false, Bool.false_and, Bool.true_and, if_true, if_false, Bool.false_eq_true, reduceIte, xc_i, xc_j, xc_r, xc_n, List.nil_append, List.cons_append, Option.toList_some, Option.toList_none]
  refine by_inv1 cn_177 lk_10_78 (by rw [xe_cnt]; decide) is_170 np_170 cn_170 (by first | exact rfl | assumption | exact ps_14 hpp) (Nat.le_of_ble_eq_true rfl) ?_
  have f1 : Fr [] [(pp + 14, 11)] h (xm_sf h (pp + 14) 11 (.int (nI 0))) := Fr_sf Fr_rf (by simp)
  have F1 := Fr_XF hF f1 (sy_fin hpp)
  have S1 : xSt (xm_sf h (pp + 14) 11 (.int (nI 0))) pp cn tr [] := ⟨by simp only [xf_same, List.length_nil], trivial⟩
  refine xS_pushT F1 hpp S1 ht (by simp only [List.length_nil]; omega) hcn (fun h2 f2 S2 => ?_)
  have f12 : Fr [6, pp + 24] (twT pp) h h2 := Fr_tr (Fr_mo f1 (by simp) (by simp [twT])) f2 (by simp) (by simp [twT])
  with_reducible refine xm_go_blk b_X10_writeValue_13 k_X10_writeValue_13 ?_
  refine by_iconst ci_0 ?_
  refine by_istore (by rw [ml_177]; decide) ?_
  refine by_nil ?_
  try simp (disch := first | exact Nat.ne_of_beq_eq_false rfl | exact rfl | omega) only [nI_add, xa_sub, xa_mul, pk_div, nm_mod, xa_shr, xa_and7, xa_and1, xa_and255, xa_by_and, nI_m1, Nat.add_sub_cancel, Nat.reducePow, Nat.zero_add, Nat.add_zero, Nat.reduceAdd, Nat.reduceMul, Nat.reduceSub, xf_same, xq_ff, xq_fo, xf_1, xf_2, xs_1, xs_2, xs_same, xq_so, xj_1, xj_2, xj_same, xq_jo, xq_sa1, xq_same, xq_other, upd_s, oI_n, oI_s, xv_0, xv_1, xv_2, xv_3, xm_p1, xm_p2, xq_fp, xq_fn, List.filter_nil, Nat.reduceBEq, Bool.not_true, Bool.not_false, Bool.and_true, Bool.and_false, Bool.false_and, Bool.true_and, if_true, if_false, Bool.false_eq_true, reduceIte, xc_i, xc_j, xc_r, xc_n, List.nil_append, List.cons_append, Option.toList_some, Option.toList_none]
  exact xm_go_wk (by simp [Value.category]) (key 8193 [.inr (tr t)] [] 0 0 h2 (by omega) (Nat.le_refl _) (by simp [itv]) (by simp [wiT]) f12 (penIs_fr hpen (Fr_tr (Fr_mo f1 (S := [pp + 24]) (T := [(pp + 14, 11)]) (by simp) (by simp)) f2 (fun _ z => z) (fun _ z => z)) (by simp <;> omega) (by simp <;> omega) (by simp <;> omega)) S2)
end WP
