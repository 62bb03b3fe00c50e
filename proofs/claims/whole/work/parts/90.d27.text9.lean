/-! ===== the class: fitsWhole, value ===== -/
/-- the bytes are a value of the type -/
def vOK (l : List Nat) (t : Ty) : Prop := l.length = (ty_w t + 7) / 8 ∧ bz (by_bit l) (ty_w t) (8 * l.length - ty_w t) = true ∧ ty_val (by_bit l) t 0 = true
section FW
variable {sc : xm_Sc} {d pp cn : Nat} {tr : Nat → Ty} {K L R : Nat → Nat} {l : List Nat} {h : xm_H} {post : xm_Po}
theorem sp_fitsWhole {t : Nat} (hF : XF h) (hpp : pp = 52 ∨ pp = 77) (hT : tyT h pp cn tr K L R) (hcn : cn ≤ 2826) (ht : t < cn) (hrow : rowIs h 1 2 l) (hw : ty_w (tr t) ≤ 2048)
    (h1 : ∀ h', vOK l (tr t) → Fr [pp + 24] [(pp + 14, 11)] h h' → post (some (.int (nI 1))) h') (h0 : ∀ h', ¬ vOK l (tr t) → Fr [pp + 24] [(pp + 14, 11)] h h' → post (some (.int (nI 0))) h') : xm_T (XE sc) (d + 5) 168 [.ref (pp + 14), .ref 1, .int (nI t)] h post := by
  have tW := (hT.2.1 t ht).2.2.2.2.2.2.1
  rw [Nat.min_eq_right (by omega)] at tW
  have hl := hrow.2.2.1
  refine xq_in rfl ?_
  simp only [xq_a0, xq_aI, xq_aJ, xq_aR, Nat.reduceAdd]
  by_cases e : l.length = (ty_w (tr t) + 7) / 8
  · have e' : (l.length = (ty_w (tr t) + 7) / 8) = True := eq_true e
    have le : ty_w (tr t) ≤ 8 * l.length := by omega
    with_reducible refine xm_go_blk b_X10_fitsWhole_0 k_X10_fitsWhole_0 ?_
    refine by_aload_n rfl ?_
    refine by_getf cn_168 fl_10_21 (by first | exact rfl | assumption | exact ps_14 hpp) (by decide) ?_
    refine by_iload_n rfl ?_
    simp (disch := first | exact Nat.ne_of_beq_eq_false rfl | exact rfl | omega) only [nI_add, xa_sub, xa_mul, pk_div, nm_mod, xa_shr, xa_and7, xa_and1, xa_and255, xa_by_and, nI_m1, Nat.add_sub_cancel, Nat.reducePow, Nat.zero_add, Nat.add_zero, Nat.reduceAdd, Nat.reduceMul, Nat.reduceSub, xf_same, xq_ff, xq_fo, xf_1, xf_2, xs_1, xs_2, xs_same, xq_so, xj_1, xj_2, xj_same, xq_jo, xq_sa1, xq_same, xq_other, upd_s, oI_n, oI_s, pt_4 hF hpp, tW, hrow.2.1, e']
    first | refine by_iald (by first | exact rfl | assumption | exact ps_1 hpp | exact ps_2 hpp | exact ps_3 hpp | exact ps_4 hpp | exact ps_5 hpp | exact ps_6 hpp | exact ps_7 hpp | exact ps_8 hpp | exact ps_9 hpp | exact ps_10 hpp | exact ps_11 hpp | exact ps_15 hpp | exact ps_16 hpp | exact ps_17 hpp | exact ps_18 hpp | exact ps_19 hpp | exact ps_21 hpp | exact ps_22 hpp | exact ps_23 hpp | exact ps_24 hpp) ⟨by omega, by omega⟩ ?_ | refine by_tald rfl rfl ⟨by omega, by omega⟩ ?_
    refine by_istore_n (by rw [ml_168]; decide) ?_
    refine by_aload_n rfl ?_
    refine by_getf cn_168 fl_10_65 (by first | exact rfl | assumption | exact ps_12 hpp) (by decide) ?_
    refine by_iload_n rfl ?_
    refine by_bipush cb_7 ?_
    refine by_iadd ?_
    refine by_bipush cb_8 ?_
    refine by_idiv (by first | decide | assumption) ?_
    simp (disch := first | exact Nat.ne_of_beq_eq_false rfl | exact rfl | omega) only [nI_add, xa_sub, xa_mul, pk_div, nm_mod, xa_shr, xa_and7, xa_and1, xa_and255, xa_by_and, nI_m1, Nat.add_sub_cancel, Nat.reducePow, Nat.zero_add, Nat.add_zero, Nat.reduceAdd, Nat.reduceMul, Nat.reduceSub, xf_same, xq_ff, xq_fo, xf_1, xf_2, xs_1, xs_2, xs_same, xq_so, xj_1, xj_2, xj_same, xq_jo, xq_sa1, xq_same, xq_other, upd_s, oI_n, oI_s, pt_4 hF hpp, tW, hrow.2.1, e']
    refine by_ic_ne 52 rfl ?_
    simp (disch := first | exact Nat.ne_of_beq_eq_false rfl | exact rfl | omega) only [nI_add, xa_sub, xa_mul, pk_div, nm_mod, xa_shr, xa_and7, xa_and1, xa_and255, xa_by_and, nI_m1, Nat.add_sub_cancel, Nat.reducePow, Nat.zero_add, Nat.add_zero, Nat.reduceAdd, Nat.reduceMul, Nat.reduceSub, xf_same, xq_ff, xq_fo, xf_1, xf_2, xs_1, xs_2, xs_same, xq_so, xj_1, xj_2, xj_same, xq_jo, xq_sa1, xq_same, xq_other, upd_s, oI_n, oI_s, xv_0, xv_1, xv_2, xv_3, xm_p1, xm_p2, xq_fp, xq_fn, List.filter_nil, Nat.reduceBEq, Bool.not_true, Bool.not_false, Bool.and_true, Bool.and_false, Bool.false_and, Bool.true_and, if_true, if_false, Bool.false_eq_true, reduceIte, xc_i, xc_j, xc_r, xc_n, List.nil_append, List.cons_append, Option.toList_some, Option.toList_none, nI_ltJ, nI_leJ, nI_eqJ, nI_ltz, nI_gez, nI_gtz, nI_lez, nI_eqz, m1_ltz, m1_gez, true_imp_iff, false_imp_iff, true_and, and_true, ne_eq, not_false_eq_true, not_true_eq_false, Nat.reduceEqDiff, Nat.reduceLT, Nat.reduceLeDiff, pt_4 hF hpp, tW, hrow.2.1, e']
    with_reducible refine xm_go_blk b_X10_fitsWhole_21 k_X10_fitsWhole_21 ?_
    refine by_aload_n rfl ?_
    refine by_iload_n rfl ?_
    refine by_bipush cb_8 ?_
    refine by_aload_n rfl ?_
    refine by_getf cn_168 fl_10_65 (by first | exact rfl | assumption | exact ps_12 hpp) (by decide) ?_
    simp (disch := first | exact Nat.ne_of_beq_eq_false rfl | exact rfl | omega) only [nI_add, xa_sub, xa_mul, pk_div, nm_mod, xa_shr, xa_and7, xa_and1, xa_and255, xa_by_and, nI_m1, Nat.add_sub_cancel, Nat.reducePow, Nat.zero_add, Nat.add_zero, Nat.reduceAdd, Nat.reduceMul, Nat.reduceSub, xf_same, xq_ff, xq_fo, xf_1, xf_2, xs_1, xs_2, xs_same, xq_so, xj_1, xj_2, xj_same, xq_jo, xq_sa1, xq_same, xq_other, upd_s, oI_n, oI_s, pt_4 hF hpp, tW, hrow.2.1, e']
    refine by_imul ?_
    refine by_iload_n rfl ?_
    refine by_isub ?_
    simp (disch := first | exact Nat.ne_of_beq_eq_false rfl | exact rfl | omega) only [nI_add, xa_sub, xa_mul, pk_div, nm_mod, xa_shr, xa_and7, xa_and1, xa_and255, xa_by_and, nI_m1, Nat.add_sub_cancel, Nat.reducePow, Nat.zero_add, Nat.add_zero, Nat.reduceAdd, Nat.reduceMul, Nat.reduceSub, xf_same, xq_ff, xq_fo, xf_1, xf_2, xs_1, xs_2, xs_same, xq_so, xj_1, xj_2, xj_same, xq_jo, xq_sa1, xq_same, xq_other, upd_s, oI_n, oI_s, xv_0, xv_1, xv_2, xv_3, xm_p1, xm_p2, xq_fp, xq_fn, List.filter_nil, Nat.reduceBEq, Bool.not_true, Bool.not_false, Bool.and_true, Bool.and_false, Bool.false_and, Bool.true_and, if_true, if_false, Bool.false_eq_true, reduceIte, xc_i, xc_j, xc_r, xc_n, List.nil_append, List.cons_append, Option.toList_some, Option.toList_none, pt_4 hF hpp, tW, hrow.2.1, e']
    refine by_inv2 cn_168 lk_10_70 (by rw [xe_cnt]; decide) is_131 np_131 cn_131 (by first | exact rfl | assumption | exact ps_12 hpp) (Nat.le_of_ble_eq_true rfl) ?_
    refine sp_isZero sh_1 sh_2 hrow.1 hrow.2.1 hl (by omega) ?_
    rw [rowIs_z hrow]
    cases hz : bz (by_bit l) (ty_w (tr t)) (8 * l.length - ty_w (tr t)) with
    | false =>
      with_reducible refine xm_go_blk b_X10_fitsWhole_35 k_X10_fitsWhole_35 ?_
      refine by_if_eq 52 rfl ?_
      simp (disch := first | exact Nat.ne_of_beq_eq_false rfl | exact rfl | omega) only [nI_add, xa_sub, xa_mul, pk_div, nm_mod, xa_shr, xa_and7, xa_and1, xa_and255, xa_by_and, nI_m1, Nat.add_sub_cancel, Nat.reducePow, Nat.zero_add, Nat.add_zero, Nat.reduceAdd, Nat.reduceMul, Nat.reduceSub, xf_same, xq_ff, xq_fo, xf_1, xf_2, xs_1, xs_2, xs_same, xq_so, xj_1, xj_2, xj_same, xq_jo, xq_sa1, xq_same, xq_other, upd_s, oI_n, oI_s, xv_0, xv_1, xv_2, xv_3, xm_p1, xm_p2, xq_fp, xq_fn, List.filter_nil, Nat.reduceBEq, Bool.not_true, Bool.not_false, Bool.and_true, Bool.and_false, Bool.false_and, Bool.true_and, if_true, if_false, Bool.false_eq_true, reduceIte, xc_i, xc_j, xc_r, xc_n, List.nil_append, List.cons_append, Option.toList_some, Option.toList_none, nI_ltJ, nI_leJ, nI_eqJ, nI_ltz, nI_gez, nI_gtz, nI_lez, nI_eqz, m1_ltz, m1_gez, true_imp_iff, false_imp_iff, true_and, and_true, ne_eq, not_false_eq_true, not_true_eq_false, Nat.reduceEqDiff, Nat.reduceLT, Nat.reduceLeDiff, Bool.toNat_false]
      with_reducible refine xm_go_blk b_X10_fitsWhole_52 k_X10_fitsWhole_52 ?_
      refine by_iconst ci_0 ?_
      refine by_nil ?_
      with_reducible refine xm_go_blk b_X10_fitsWhole_53 k_X10_fitsWhole_53 ?_
      refine by_iret ry_168 (by first | rfl | assumption) ?_
      exact h0 h (fun q => by rw [q.2.1] at hz; cases hz) Fr_rf
    | true =>
      with_reducible refine xm_go_blk b_X10_fitsWhole_35 k_X10_fitsWhole_35 ?_
      refine by_if_eq 52 rfl ?_
      simp (disch := first | exact Nat.ne_of_beq_eq_false rfl | exact rfl | omega) only [nI_add, xa_sub, xa_mul, pk_div, nm_mod, xa_shr, xa_and7, xa_and1, xa_and255, xa_by_and, nI_m1, Nat.add_sub_cancel, Nat.reducePow, Nat.zero_add, Nat.add_zero, Nat.reduceAdd, Nat.reduceMul, Nat.reduceSub, xf_same, xq_ff, xq_fo, xf_1, xf_2, xs_1, xs_2, xs_same, xq_so, xj_1, xj_2, xj_same, xq_jo, xq_sa1, xq_same, xq_other, upd_s, oI_n, oI_s, xv_0, xv_1, xv_2, xv_3, xm_p1, xm_p2, xq_fp, xq_fn, List.filter_nil, Nat.reduceBEq, Bool.not_true, Bool.not_false, Bool.and_true, Bool.and_false, Bool.false_and, Bool.true_and, if_true, if_false, Bool.false_eq_true, reduceIte, xc_i, xc_j, xc_r, xc_n, List.nil_append, List.cons_append, Option.toList_some, Option.toList_none, nI_ltJ, nI_leJ, nI_eqJ, nI_ltz, nI_gez, nI_gtz, nI_lez, nI_eqz, m1_ltz, m1_gez, true_imp_iff, false_imp_iff, true_and, and_true, ne_eq, not_false_eq_true, not_true_eq_false, Nat.reduceEqDiff, Nat.reduceLT, Nat.reduceLeDiff, Bool.toNat_true]
      with_reducible refine xm_go_blk b_X10_fitsWhole_38 k_X10_fitsWhole_38 ?_
      refine by_aload_n rfl ?_
      refine by_aload_n rfl ?_
      refine by_iconst ci_0 ?_
      refine by_iload_n rfl ?_
      refine by_inv3 cn_168 lk_10_74 (by rw [xe_cnt]; decide) is_167 np_167 cn_167 (by first | exact rfl | assumption | exact ps_14 hpp) (Nat.le_of_ble_eq_true rfl) ?_
      refine sp_fits (d := d) (l := l) hF hpp hT (by omega) ht hw (by omega) sh_1 sh_2 hrow (by omega) (by omega) (fun h2 hv f2 => ?_) (fun h2 hv f2 => ?_)
      · with_reducible refine xm_go_blk b_X10_fitsWhole_45 k_X10_fitsWhole_45 ?_
        refine by_if_eq 52 rfl ?_
        simp (disch := first | exact Nat.ne_of_beq_eq_false rfl | exact rfl | omega) only [nI_add, xa_sub, xa_mul, pk_div, nm_mod, xa_shr, xa_and7, xa_and1, xa_and255, xa_by_and, nI_m1, Nat.add_sub_cancel, Nat.reducePow, Nat.zero_add, Nat.add_zero, Nat.reduceAdd, Nat.reduceMul, Nat.reduceSub, xf_same, xq_ff, xq_fo, xf_1, xf_2, xs_1, xs_2, xs_same, xq_so, xj_1, xj_2, xj_same, xq_jo, xq_sa1, xq_same, xq_other, upd_s, oI_n, oI_s, xv_0, xv_1, xv_2, xv_3, xm_p1, xm_p2, xq_fp, xq_fn, List.filter_nil, Nat.reduceBEq, Bool.not_true, Bool.not_false, Bool.and_true, Bool.and_false, Bool.false_and, Bool.true_and, if_true, if_false, Bool.false_eq_true, reduceIte, xc_i, xc_j, xc_r, xc_n, List.nil_append, List.cons_append, Option.toList_some, Option.toList_none, nI_ltJ, nI_leJ, nI_eqJ, nI_ltz, nI_gez, nI_gtz, nI_lez, nI_eqz, m1_ltz, m1_gez, true_imp_iff, false_imp_iff, true_and, and_true, ne_eq, not_false_eq_true, not_true_eq_false, Nat.reduceEqDiff, Nat.reduceLT, Nat.reduceLeDiff]
        with_reducible refine xm_go_blk b_X10_fitsWhole_48 k_X10_fitsWhole_48 ?_
        refine by_iconst ci_1 ?_
        refine by_goto 53 rfl ?_
        with_reducible refine xm_go_blk b_X10_fitsWhole_53 k_X10_fitsWhole_53 ?_
        refine by_iret ry_168 (by first | rfl | assumption) ?_
        exact h1 h2 ⟨e, hz, hv⟩ f2
      · with_reducible refine xm_go_blk b_X10_fitsWhole_45 k_X10_fitsWhole_45 ?_
        refine by_if_eq 52 rfl ?_
        simp (disch := first | exact Nat.ne_of_beq_eq_false rfl | exact rfl | omega) only [nI_add, xa_sub, xa_mul, pk_div, nm_mod, xa_shr, xa_and7, xa_and1, xa_and255, xa_by_and, nI_m1, Nat.add_sub_cancel, Nat.reducePow, Nat.zero_add, Nat.add_zero, Nat.reduceAdd, Nat.reduceMul, Nat.reduceSub, xf_same, xq_ff, xq_fo, xf_1, xf_2, xs_1, xs_2, xs_same, xq_so, xj_1, xj_2, xj_same, xq_jo, xq_sa1, xq_same, xq_other, upd_s, oI_n, oI_s, xv_0, xv_1, xv_2, xv_3, xm_p1, xm_p2, xq_fp, xq_fn, List.filter_nil, Nat.reduceBEq, Bool.not_true, Bool.not_false, Bool.and_true, Bool.and_false, Bool.false_and, Bool.true_and, if_true, if_false, Bool.false_eq_true, reduceIte, xc_i, xc_j, xc_r, xc_n, List.nil_append, List.cons_append, Option.toList_some, Option.toList_none, nI_ltJ, nI_leJ, nI_eqJ, nI_ltz, nI_gez, nI_gtz, nI_lez, nI_eqz, m1_ltz, m1_gez, true_imp_iff, false_imp_iff, true_and, and_true, ne_eq, not_false_eq_true, not_true_eq_false, Nat.reduceEqDiff, Nat.reduceLT, Nat.reduceLeDiff]
        with_reducible refine xm_go_blk b_X10_fitsWhole_52 k_X10_fitsWhole_52 ?_
        refine by_iconst ci_0 ?_
        refine by_nil ?_
        with_reducible refine xm_go_blk b_X10_fitsWhole_53 k_X10_fitsWhole_53 ?_
        refine by_iret ry_168 (by first | rfl | assumption) ?_
        exact h0 h2 (fun q => by rw [q.2.2] at hv; cases hv) f2
  · have e' : (l.length = (ty_w (tr t) + 7) / 8) = False := eq_false e
    with_reducible refine xm_go_blk b_X10_fitsWhole_0 k_X10_fitsWhole_0 ?_
    refine by_aload_n rfl ?_
    refine by_getf cn_168 fl_10_21 (by first | exact rfl | assumption | exact ps_14 hpp) (by decide) ?_
    refine by_iload_n rfl ?_
    simp (disch := first | exact Nat.ne_of_beq_eq_false rfl | exact rfl | omega) only [nI_add, xa_sub, xa_mul, pk_div, nm_mod, xa_shr, xa_and7, xa_and1, xa_and255, xa_by_and, nI_m1, Nat.add_sub_cancel, Nat.reducePow, Nat.zero_add, Nat.add_zero, Nat.reduceAdd, Nat.reduceMul, Nat.reduceSub, xf_same, xq_ff, xq_fo, xf_1, xf_2, xs_1, xs_2, xs_same, xq_so, xj_1, xj_2, xj_same, xq_jo, xq_sa1, xq_same, xq_other, upd_s, oI_n, oI_s, pt_4 hF hpp, tW, hrow.2.1, e']
    first | refine by_iald (by first | exact rfl | assumption | exact ps_1 hpp | exact ps_2 hpp | exact ps_3 hpp | exact ps_4 hpp | exact ps_5 hpp | exact ps_6 hpp | exact ps_7 hpp | exact ps_8 hpp | exact ps_9 hpp | exact ps_10 hpp | exact ps_11 hpp | exact ps_15 hpp | exact ps_16 hpp | exact ps_17 hpp | exact ps_18 hpp | exact ps_19 hpp | exact ps_21 hpp | exact ps_22 hpp | exact ps_23 hpp | exact ps_24 hpp) ⟨by omega, by omega⟩ ?_ | refine by_tald rfl rfl ⟨by omega, by omega⟩ ?_
    refine by_istore_n (by rw [ml_168]; decide) ?_
    refine by_aload_n rfl ?_
    refine by_getf cn_168 fl_10_65 (by first | exact rfl | assumption | exact ps_12 hpp) (by decide) ?_
    refine by_iload_n rfl ?_
    refine by_bipush cb_7 ?_
    refine by_iadd ?_
    refine by_bipush cb_8 ?_
    refine by_idiv (by first | decide | assumption) ?_
    simp (disch := first | exact Nat.ne_of_beq_eq_false rfl | exact rfl | omega) only [nI_add, xa_sub, xa_mul, pk_div, nm_mod, xa_shr, xa_and7, xa_and1, xa_and255, xa_by_and, nI_m1, Nat.add_sub_cancel, Nat.reducePow, Nat.zero_add, Nat.add_zero, Nat.reduceAdd, Nat.reduceMul, Nat.reduceSub, xf_same, xq_ff, xq_fo, xf_1, xf_2, xs_1, xs_2, xs_same, xq_so, xj_1, xj_2, xj_same, xq_jo, xq_sa1, xq_same, xq_other, upd_s, oI_n, oI_s, pt_4 hF hpp, tW, hrow.2.1, e']
    refine by_ic_ne 52 rfl ?_
    simp (disch := first | exact Nat.ne_of_beq_eq_false rfl | exact rfl | omega) only [nI_add, xa_sub, xa_mul, pk_div, nm_mod, xa_shr, xa_and7, xa_and1, xa_and255, xa_by_and, nI_m1, Nat.add_sub_cancel, Nat.reducePow, Nat.zero_add, Nat.add_zero, Nat.reduceAdd, Nat.reduceMul, Nat.reduceSub, xf_same, xq_ff, xq_fo, xf_1, xf_2, xs_1, xs_2, xs_same, xq_so, xj_1, xj_2, xj_same, xq_jo, xq_sa1, xq_same, xq_other, upd_s, oI_n, oI_s, xv_0, xv_1, xv_2, xv_3, xm_p1, xm_p2, xq_fp, xq_fn, List.filter_nil, Nat.reduceBEq, Bool.not_true, Bool.not_false, Bool.and_true, Bool.and_false, Bool.false_and, Bool.true_and, if_true, if_false, Bool.false_eq_true, reduceIte, xc_i, xc_j, xc_r, xc_n, List.nil_append, List.cons_append, Option.toList_some, Option.toList_none, nI_ltJ, nI_leJ, nI_eqJ, nI_ltz, nI_gez, nI_gtz, nI_lez, nI_eqz, m1_ltz, m1_gez, true_imp_iff, false_imp_iff, true_and, and_true, ne_eq, not_false_eq_true, not_true_eq_false, Nat.reduceEqDiff, Nat.reduceLT, Nat.reduceLeDiff, pt_4 hF hpp, tW, hrow.2.1, e']
    with_reducible refine xm_go_blk b_X10_fitsWhole_52 k_X10_fitsWhole_52 ?_
    refine by_iconst ci_0 ?_
    refine by_nil ?_
    with_reducible refine xm_go_blk b_X10_fitsWhole_53 k_X10_fitsWhole_53 ?_
    refine by_iret ry_168 (by first | rfl | assumption) ?_
    exact h0 h (fun q => e q.1) Fr_rf
end FW
def vbT (pp : Nat) : List (Nat × Nat) := [(5, 1), (5, 2), (5, 3), (pp + 14, 11), (1, 1), (1, 2), (1, 3)]
def vaT (pp : Nat) : List (Nat × Nat) := [(5, 1), (5, 2), (5, 3), (pp + 14, 11), (3, 1), (3, 2), (3, 3), (1, 1), (1, 2), (1, 3)]
theorem va_fin {pp : Nat} (hpp : pp = 52 ∨ pp = 77) : xt_fin.all (fun q => !((vaT pp).contains (q.1, q.2.1))) = true := by
  rcases hpp with rfl | rfl <;> decide +kernel
theorem rowIs_0 {h : xm_H} {r b : Nat} (h0 : h.2.2 r 0 = .ref b) : rowIs (xm_sf (xm_sf (xm_sf h r 1 (.int (nI 0))) r 3 (.int (nI 0))) r 2 (.int (nI 0))) r b [] :=
  ⟨by simpa [xm_sf, updV] using h0, by simp [xm_sf, updV], Nat.zero_le _, fun i hi => absurd hi (Nat.not_lt_zero _), fun i hi => absurd hi (Nat.not_lt_zero _)⟩
/-- widths of a loaded program's types -/
theorem PG_w {l : List Nat} {ps : List pr_D} {a tb n : Nat} {S T : Nat → Ty} (hG : LdG l ps a 0 S T) (hn : n < ps.length) (h11 : pC ps n ≠ 11) : ty_w (tyOf (l, ps, a, S, T) tb n) ≤ 2048 := by
  have hj := (LdG_0 hG).2.2.2.1
  have : ty_w (S n) ≤ 2048 ∧ ty_w (T n) ≤ 2048 := by
    refine ⟨Nat.le_of_not_lt (fun z => hj ⟨n, List.mem_range.mpr hn, h11, Or.inl z⟩), Nat.le_of_not_lt (fun z => hj ⟨n, List.mem_range.mpr hn, h11, Or.inr z⟩)⟩
  unfold tyOf
  split
  · exact this.2
  · exact this.1
section XV
variable {sc : xm_Sc} {d pp tb : Nat} {o : Option PgD} {l : List Nat} {h : xm_H} {post : xm_Po} {px : String → xm_H → Prop} {i : Int32}
theorem sp_xvalue (hF : XF h) (hpp : pp = 52 ∨ pp = 77) (h9 : h.2.2 0 9 = .ref pp) (hP : xPg h pp o) (htb : tb < 2) (hrow : rowIs h 1 2 l)
    (hA : (∀ n, ¬ ndA o i n) → px "java/util/NoSuchElementException" h)
    (hH : ∀ n q h', o = some q → ndA o i n → pC q.2.1 n = 11 → Fr [6, pp + 24] (vbT pp) h h' → rowIs h' 1 2 [] → post (some (.int (-2))) h')
    (hB : ∀ n q h', o = some q → ndA o i n → pC q.2.1 n ≠ 11 → ¬ vOK l (tyOf q tb n) → Fr [6, pp + 24] (vbT pp) h h' → rowIs h' 1 2 [] → post (some (.int (-4))) h')
    (hL : ∀ n q h', o = some q → ndA o i n → pC q.2.1 n ≠ 11 → vOK l (tyOf q tb n) → 8192 < (vtx (by_bit l) (tyOf q tb n) 0).length → Fr [6, pp + 24] (vbT pp) h h' → rowIs h' 1 2 [] → post (some (.int (-1))) h')
    (hC : ∀ n q h', o = some q → ndA o i n → pC q.2.1 n ≠ 11 → vOK l (tyOf q tb n) → (vtx (by_bit l) (tyOf q tb n) 0).length ≤ 8192 → Fr [4, 6, pp + 24] (vaT pp) h h' → rowIs h' 3 4 (vtx (by_bit l) (tyOf q tb n) 0) → rowIs h' 1 2 [] → post (some (.int (nI (vtx (by_bit l) (tyOf q tb n) 0).length))) h') :
    xm_goX (XE sc) (xm_T (XE sc) (d + 7)) 195 post tw_X11_value px 0 [(0, .ref 0), (1, .int i), (2, .int (nI tb))] [] h := by
  obtain ⟨hc, hc4⟩ := xPg_c hP
  with_reducible refine xx_blk b_X11_value_0 k_X11_value_0 ?_
  refine by_aload_n rfl ?_
  refine by_iload_n rfl ?_
  refine by_inv1 cn_195 lk_11_201 (by rw [xe_cnt]; decide) is_180 np_180 cn_180 (by first | exact rfl | assumption) (Nat.le_of_ble_eq_true rfl) ?_
  refine sp_xisNode hpp h9 hc (by omega) ⟨fun n hn hlt => ?_, fun hno => ?_⟩
  · subst hn
    with_reducible refine xx_blk b_X11_value_5 k_X11_value_5 ?_
    refine by_if_ne 18 rfl ?_
    simp (disch := first | exact Nat.ne_of_beq_eq_false rfl | exact rfl | omega) only [nI_add, xa_sub, xa_mul, pk_div, nm_mod, xa_shr, xa_and7, xa_and1, xa_and255, xa_by_and, nI_m1, Nat.add_sub_cancel, Nat.reducePow, Nat.zero_add, Nat.add_zero, Nat.reduceAdd, Nat.reduceMul, Nat.reduceSub, xf_same, xq_ff, xq_fo, xf_1, xf_2, xs_1, xs_2, xs_same, xq_so, xj_1, xj_2, xj_same, xq_jo, xq_sa1, xq_same, xq_other, upd_s, oI_n, oI_s, xv_0, xv_1, xv_2, xv_3, xm_p1, xm_p2, xq_fp, xq_fn, List.filter_nil, Nat.reduceBEq, Bool.not_true, Bool.not_false, Bool.and_true, Bool.and_false, Bool.false_and, Bool.true_and, if_true, if_false, Bool.false_eq_true, reduceIte, xc_i, xc_j, xc_r, xc_n, List.nil_append, List.cons_append, Option.toList_some, Option.toList_none, nI_ltJ, nI_leJ, nI_eqJ, nI_ltz, nI_gez, nI_gtz, nI_lez, nI_eqz, m1_ltz, m1_gez, true_imp_iff, false_imp_iff, true_and, and_true, ne_eq, not_false_eq_true, not_true_eq_false, Nat.reduceEqDiff, Nat.reduceLT, Nat.reduceLeDiff]
    obtain _ | ⟨bl, ps, a, S, T⟩ := o
    · exact absurd hlt (Nat.not_lt_zero _)
    have hlt' : n < ps.length := hlt
    have hps : ps.length ≤ 400 := hP.1.1.2.2.1
    obtain ⟨t11, cn, tr, K, L, R, hcn, hT, tne⟩ := xPg_ty (tb := tb) hP.1.1 htb hlt'
    refine xx_go ?_
    have hend : ∀ h2 (x : Int32), XF h2 → (∀ h', Fr [] [(1, 1), (1, 2), (1, 3)] h2 h' → rowIs h' 1 2 [] → post (some (.int x)) h') → xm_go (XE sc) (xm_T (XE sc) (d + 7)) 195 post 31 [(0, .ref 0), (1, .int (nI n)), (2, .int (nI tb))] [.int x] h2 := by
      intro h2 x F2 hk
      with_reducible refine xm_go_blk b_X11_value_31 k_X11_value_31 ?_
      refine by_istore_n (by rw [ml_195]; decide) ?_
      refine by_aload_n rfl ?_
      refine by_getf cn_195 fl_11_10 (by first | exact rfl | assumption) (by decide) ?_
      simp (disch := first | exact Nat.ne_of_beq_eq_false rfl | exact rfl | omega) only [nI_add, xa_sub, xa_mul, pk_div, nm_mod, xa_shr, xa_and7, xa_and1, xa_and255, xa_by_and, nI_m1, Nat.add_sub_cancel, Nat.reducePow, Nat.zero_add, Nat.add_zero, Nat.reduceAdd, Nat.reduceMul, Nat.reduceSub, xf_same, xq_ff, xq_fo, xf_1, xf_2, xs_1, xs_2, xs_same, xq_so, xj_1, xj_2, xj_same, xq_jo, xq_sa1, xq_same, xq_other, upd_s, oI_n, oI_s, xv_0, xv_1, xv_2, xv_3, xm_p1, xm_p2, xq_fp, xq_fn, List.filter_nil, Nat.reduceBEq, Bool.not_true, Bool.not_false, Bool.and_true, Bool.and_false, Bool.false_and, Bool.true_and, if_true, if_false, Bool.false_eq_true, reduceIte, xc_i, xc_j, xc_r, xc_n, List.nil_append, List.cons_append, Option.toList_some, Option.toList_none, xf_0_0 F2]
      refine by_inv0 cn_195 lk_11_98 (by rw [xe_cnt]; decide) is_128 np_128 cn_128 (by first | exact rfl | assumption | exact ps_12 hpp) (Nat.le_of_ble_eq_true rfl) ?_
      refine sp_clear sh_1 ?_
      with_reducible refine xm_go_blk b_X11_value_39 k_X11_value_39 ?_
      refine by_iload_n rfl ?_
      refine by_iret ry_195 (by first | rfl | assumption) ?_
      exact hk _ (Fr_sf (Fr_sf (Fr_sf Fr_rf (by simp)) (by simp)) (by simp)) (rowIs_0 (xf_1_0 F2))
    have hw : pC ps n ≠ 11 → ty_w (tyOf (bl, ps, a, S, T) tb n) ≤ 2048 := fun z => PG_w hP.1.2.1 hlt' z
    with_reducible refine xm_go_blk b_X11_value_18 k_X11_value_18 ?_
    refine by_aload_n rfl ?_
    refine by_aload_n rfl ?_
    refine by_getf cn_195 fl_11_71 (by first | exact rfl | assumption) (by decide) ?_
    refine by_iload_n rfl ?_
    refine by_iload_n rfl ?_
    simp (disch := first | exact Nat.ne_of_beq_eq_false rfl | exact rfl | omega) only [nI_add, xa_sub, xa_mul, pk_div, nm_mod, xa_shr, xa_and7, xa_and1, xa_and255, xa_by_and, nI_m1, Nat.add_sub_cancel, Nat.reducePow, Nat.zero_add, Nat.add_zero, Nat.reduceAdd, Nat.reduceMul, Nat.reduceSub, xf_same, xq_ff, xq_fo, xf_1, xf_2, xs_1, xs_2, xs_same, xq_so, xj_1, xj_2, xj_same, xq_jo, xq_sa1, xq_same, xq_other, upd_s, oI_n, oI_s, xv_0, xv_1, xv_2, xv_3, xm_p1, xm_p2, xq_fp, xq_fn, List.filter_nil, Nat.reduceBEq, Bool.not_true, Bool.not_false, Bool.and_true, Bool.and_false, Bool.false_and, Bool.true_and, if_true, if_false, Bool.false_eq_true, reduceIte, xc_i, xc_j, xc_r, xc_n, List.nil_append, List.cons_append, Option.toList_some, Option.toList_none, h9]
    refine by_inv2 cn_195 lk_11_231 (by rw [xe_cnt]; decide) is_112 np_112 cn_112 (by first | exact rfl | assumption | exact ps_0 hpp) (Nat.le_of_ble_eq_true rfl) ?_
    refine sp_typeOf hF hpp (by omega) htb ?_
    by_cases e11 : pC ps n = 11
    · rw [t11 e11]
      with_reducible refine xm_go_blk b_X11_value_28 k_X11_value_28 ?_
      refine by_inv1 cn_195 lk_11_262 (by rw [xe_cnt]; decide) is_191 np_191 cn_191 (by first | exact rfl | assumption) (Nat.le_of_ble_eq_true rfl) ?_
      refine xq_in rfl ?_
      simp only [xq_a0, xq_aI, xq_aJ, xq_aR, Nat.reduceAdd]
      with_reducible refine xm_go_blk b_X11_tellValue_0 k_X11_tellValue_0 ?_
      refine by_iload_n rfl ?_
      refine by_if_ge 7 rfl ?_
      simp (disch := first | exact Nat.ne_of_beq_eq_false rfl | exact rfl | omega) only [nI_add, xa_sub, xa_mul, pk_div, nm_mod, xa_shr, xa_and7, xa_and1, xa_and255, xa_by_and, nI_m1, Nat.add_sub_cancel, Nat.reducePow, Nat.zero_add, Nat.add_zero, Nat.reduceAdd, Nat.reduceMul, Nat.reduceSub, xf_same, xq_ff, xq_fo, xf_1, xf_2, xs_1, xs_2, xs_same, xq_so, xj_1, xj_2, xj_same, xq_jo, xq_sa1, xq_same, xq_other, upd_s, oI_n, oI_s, xv_0, xv_1, xv_2, xv_3, xm_p1, xm_p2, xq_fp, xq_fn, List.filter_nil, Nat.reduceBEq, Bool.not_true, Bool.not_false, Bool.and_true, Bool.and_false, Bool.false_and, Bool.true_and, if_true, if_false, Bool.false_eq_true, reduceIte, xc_i, xc_j, xc_r, xc_n, List.nil_append, List.cons_append, Option.toList_some, Option.toList_none, nI_ltJ, nI_leJ, nI_eqJ, nI_ltz, nI_gez, nI_gtz, nI_lez, nI_eqz, m1_ltz, m1_gez, true_imp_iff, false_imp_iff, true_and, and_true, ne_eq, not_false_eq_true, not_true_eq_false, Nat.reduceEqDiff, Nat.reduceLT, Nat.reduceLeDiff]
      with_reducible refine xm_go_blk b_X11_tellValue_4 k_X11_tellValue_4 ?_
      refine by_bipush cb_m2 ?_
      refine by_iret ry_191 (by first | rfl | assumption) ?_
      refine hend h _ hF (fun h' f r => hH n _ h' rfl ⟨rfl, hlt⟩ e11 (Fr_mo f (by simp) (by simp [vbT])) r)
    · obtain ⟨t, ht, et, er⟩ := tne e11
      rw [et]
      with_reducible refine xm_go_blk b_X11_value_28 k_X11_value_28 ?_
      refine by_inv1 cn_195 lk_11_262 (by rw [xe_cnt]; decide) is_191 np_191 cn_191 (by first | exact rfl | assumption) (Nat.le_of_ble_eq_true rfl) ?_
      refine xq_in rfl ?_
      simp only [xq_a0, xq_aI, xq_aJ, xq_aR, Nat.reduceAdd]
      with_reducible refine xm_go_blk b_X11_tellValue_0 k_X11_tellValue_0 ?_
      refine by_iload_n rfl ?_
      refine by_if_ge 7 rfl ?_
      simp (disch := first | exact Nat.ne_of_beq_eq_false rfl | exact rfl | omega) only [nI_add, xa_sub, xa_mul, pk_div, nm_mod, xa_shr, xa_and7, xa_and1, xa_and255, xa_by_and, nI_m1, Nat.add_sub_cancel, Nat.reducePow, Nat.zero_add, Nat.add_zero, Nat.reduceAdd, Nat.reduceMul, Nat.reduceSub, xf_same, xq_ff, xq_fo, xf_1, xf_2, xs_1, xs_2, xs_same, xq_so, xj_1, xj_2, xj_same, xq_jo, xq_sa1, xq_same, xq_other, upd_s, oI_n, oI_s, xv_0, xv_1, xv_2, xv_3, xm_p1, xm_p2, xq_fp, xq_fn, List.filter_nil, Nat.reduceBEq, Bool.not_true, Bool.not_false, Bool.and_true, Bool.and_false, Bool.false_and, Bool.true_and, if_true, if_false, Bool.false_eq_true, reduceIte, xc_i, xc_j, xc_r, xc_n, List.nil_append, List.cons_append, Option.toList_some, Option.toList_none, nI_ltJ, nI_leJ, nI_eqJ, nI_ltz, nI_gez, nI_gtz, nI_lez, nI_eqz, m1_ltz, m1_gez, true_imp_iff, false_imp_iff, true_and, and_true, ne_eq, not_false_eq_true, not_true_eq_false, Nat.reduceEqDiff, Nat.reduceLT, Nat.reduceLeDiff, h9, pf_13 hF hpp, xf_0_0 hF]
      with_reducible refine xm_go_blk b_X11_tellValue_7 k_X11_tellValue_7 ?_
      refine by_aload_n rfl ?_
      refine by_getf cn_191 fl_11_71 (by first | exact rfl | assumption) (by decide) ?_
      simp (disch := first | exact Nat.ne_of_beq_eq_false rfl | exact rfl | omega) only [nI_add, xa_sub, xa_mul, pk_div, nm_mod, xa_shr, xa_and7, xa_and1, xa_and255, xa_by_and, nI_m1, Nat.add_sub_cancel, Nat.reducePow, Nat.zero_add, Nat.add_zero, Nat.reduceAdd, Nat.reduceMul, Nat.reduceSub, xf_same, xq_ff, xq_fo, xf_1, xf_2, xs_1, xs_2, xs_same, xq_so, xj_1, xj_2, xj_same, xq_jo, xq_sa1, xq_same, xq_other, upd_s, oI_n, oI_s, h9, pf_13 hF hpp, xf_0_0 hF]
      refine by_getf cn_191 fl_11_128 (by first | exact rfl | assumption | exact ps_0 hpp) (by decide) ?_
      refine by_aload_n rfl ?_
      refine by_getf cn_191 fl_11_10 (by first | exact rfl | assumption) (by decide) ?_
      refine by_iload_n rfl ?_
      simp (disch := first | exact Nat.ne_of_beq_eq_false rfl | exact rfl | omega) only [nI_add, xa_sub, xa_mul, pk_div, nm_mod, xa_shr, xa_and7, xa_and1, xa_and255, xa_by_and, nI_m1, Nat.add_sub_cancel, Nat.reducePow, Nat.zero_add, Nat.add_zero, Nat.reduceAdd, Nat.reduceMul, Nat.reduceSub, xf_same, xq_ff, xq_fo, xf_1, xf_2, xs_1, xs_2, xs_same, xq_so, xj_1, xj_2, xj_same, xq_jo, xq_sa1, xq_same, xq_other, upd_s, oI_n, oI_s, xv_0, xv_1, xv_2, xv_3, xm_p1, xm_p2, xq_fp, xq_fn, List.filter_nil, Nat.reduceBEq, Bool.not_true, Bool.not_false, Bool.and_true, Bool.and_false, Bool.false_and, Bool.true_and, if_true, if_false, Bool.false_eq_true, reduceIte, xc_i, xc_j, xc_r, xc_n, List.nil_append, List.cons_append, Option.toList_some, Option.toList_none, h9, pf_13 hF hpp, xf_0_0 hF]
      refine by_inv2 cn_191 lk_11_136 (by rw [xe_cnt]; decide) is_168 np_168 cn_168 (by first | exact rfl | assumption | exact ps_14 hpp) (Nat.le_of_ble_eq_true rfl) ?_
      refine sp_fitsWhole (d := d + 1) hF hpp hT hcn ht hrow (by rw [er]; exact hw e11) (fun h1 hv f1 => ?_) (fun h1 hv f1 => ?_)
      · have F1 := Fr_XF hF f1 (sy_fin hpp)
        have hT1 : tyT h1 pp cn tr K L R := tyT_fr hT f1 (by simp <;> omega) (by simp [taR] <;> omega)
        with_reducible refine xm_go_blk b_X11_tellValue_22 k_X11_tellValue_22 ?_
        refine by_if_ne 28 rfl ?_
        simp (disch := first | exact Nat.ne_of_beq_eq_false rfl | exact rfl | omega) only [nI_add, xa_sub, xa_mul, pk_div, nm_mod, xa_shr, xa_and7, xa_and1, xa_and255, xa_by_and, nI_m1, Nat.add_sub_cancel, Nat.reducePow, Nat.zero_add, Nat.add_zero, Nat.reduceAdd, Nat.reduceMul, Nat.reduceSub, xf_same, xq_ff, xq_fo, xf_1, xf_2, xs_1, xs_2, xs_same, xq_so, xj_1, xj_2, xj_same, xq_jo, xq_sa1, xq_same, xq_other, upd_s, oI_n, oI_s, xv_0, xv_1, xv_2, xv_3, xm_p1, xm_p2, xq_fp, xq_fn, List.filter_nil, Nat.reduceBEq, Bool.not_true, Bool.not_false, Bool.and_true, Bool.and_false, Bool.false_and, Bool.true_and, if_true, if_false, Bool.false_eq_true, reduceIte, xc_i, xc_j, xc_r, xc_n, List.nil_append, List.cons_append, Option.toList_some, Option.toList_none, nI_ltJ, nI_leJ, nI_eqJ, nI_ltz, nI_gez, nI_gtz, nI_lez, nI_eqz, m1_ltz, m1_gez, true_imp_iff, false_imp_iff, true_and, and_true, ne_eq, not_false_eq_true, not_true_eq_false, Nat.reduceEqDiff, Nat.reduceLT, Nat.reduceLeDiff, xf_0_2 F1]
        with_reducible refine xm_go_blk b_X11_tellValue_28 k_X11_tellValue_28 ?_
        refine by_aload_n rfl ?_
        refine by_getf cn_191 fl_11_19 (by first | exact rfl | assumption) (by decide) ?_
        simp (disch := first | exact Nat.ne_of_beq_eq_false rfl | exact rfl | omega) only [nI_add, xa_sub, xa_mul, pk_div, nm_mod, xa_shr, xa_and7, xa_and1, xa_and255, xa_by_and, nI_m1, Nat.add_sub_cancel, Nat.reducePow, Nat.zero_add, Nat.add_zero, Nat.reduceAdd, Nat.reduceMul, Nat.reduceSub, xf_same, xq_ff, xq_fo, xf_1, xf_2, xs_1, xs_2, xs_same, xq_so, xj_1, xj_2, xj_same, xq_jo, xq_sa1, xq_same, xq_other, upd_s, oI_n, oI_s, xv_0, xv_1, xv_2, xv_3, xm_p1, xm_p2, xq_fp, xq_fn, List.filter_nil, Nat.reduceBEq, Bool.not_true, Bool.not_false, Bool.and_true, Bool.and_false, Bool.false_and, Bool.true_and, if_true, if_false, Bool.false_eq_true, reduceIte, xc_i, xc_j, xc_r, xc_n, List.nil_append, List.cons_append, Option.toList_some, Option.toList_none, xf_0_2 F1]
        refine by_inv0 cn_191 lk_11_98 (by rw [xe_cnt]; decide) is_128 np_128 cn_128 (by first | exact rfl | assumption | exact ps_12 hpp) (Nat.le_of_ble_eq_true rfl) ?_
        refine sp_penclr F1 (fun h2 f2 p2 _ => ?_)
        have F2 := Fr_XF F1 f2 (by decide +kernel)
        have f02 : Fr [6, pp + 24] (vbT pp) h h2 := Fr_tr (Fr_mo f1 (by simp) (by simp [vbT])) f2 (by simp) (by simp [vbT])
        have e9 : h2.2.2 0 9 = .ref pp := by rw [f02.2.2 _ _ (by simp [vbT] <;> omega)]; exact h9
        have hT2 : tyT h2 pp cn tr K L R := tyT_fr hT f02 (by simp [vbT] <;> omega) (by simp [taR] <;> omega)
        have f02b : Fr [pp + 24] (twT pp ++ [(5, 3)]) h h2 := Fr_tr (Fr_mo f1 (by simp) (by simp [twT])) f2 (by simp) (by simp [twT])
        have row2 : rowIs h2 1 2 l := rowIs_fr hrow f02b (by simp <;> omega) (by simp [twT] <;> omega) (by simp [twT] <;> omega)
        with_reducible refine xm_go_blk b_X11_tellValue_35 k_X11_tellValue_35 ?_
        refine by_aload_n rfl ?_
        refine by_getf cn_191 fl_11_71 (by first | exact rfl | assumption) (by decide) ?_
        simp (disch := first | exact Nat.ne_of_beq_eq_false rfl | exact rfl | omega) only [nI_add, xa_sub, xa_mul, pk_div, nm_mod, xa_shr, xa_and7, xa_and1, xa_and255, xa_by_and, nI_m1, Nat.add_sub_cancel, Nat.reducePow, Nat.zero_add, Nat.add_zero, Nat.reduceAdd, Nat.reduceMul, Nat.reduceSub, xf_same, xq_ff, xq_fo, xf_1, xf_2, xs_1, xs_2, xs_same, xq_so, xj_1, xj_2, xj_same, xq_jo, xq_sa1, xq_same, xq_other, upd_s, oI_n, oI_s, e9, pf_13 F2 hpp, xf_0_0 F2, xf_0_2 F2]
        refine by_getf cn_191 fl_11_128 (by first | exact rfl | assumption | exact ps_0 hpp) (by decide) ?_
        refine by_aload_n rfl ?_
        refine by_getf cn_191 fl_11_10 (by first | exact rfl | assumption) (by decide) ?_
        refine by_iload_n rfl ?_
        refine by_aload_n rfl ?_
        refine by_getf cn_191 fl_11_19 (by first | exact rfl | assumption) (by decide) ?_
        simp (disch := first | exact Nat.ne_of_beq_eq_false rfl | exact rfl | omega) only [nI_add, xa_sub, xa_mul, pk_div, nm_mod, xa_shr, xa_and7, xa_and1, xa_and255, xa_by_and, nI_m1, Nat.add_sub_cancel, Nat.reducePow, Nat.zero_add, Nat.add_zero, Nat.reduceAdd, Nat.reduceMul, Nat.reduceSub, xf_same, xq_ff, xq_fo, xf_1, xf_2, xs_1, xs_2, xs_same, xq_so, xj_1, xj_2, xj_same, xq_jo, xq_sa1, xq_same, xq_other, upd_s, oI_n, oI_s, xv_0, xv_1, xv_2, xv_3, xm_p1, xm_p2, xq_fp, xq_fn, List.filter_nil, Nat.reduceBEq, Bool.not_true, Bool.not_false, Bool.and_true, Bool.and_false, Bool.false_and, Bool.true_and, if_true, if_false, Bool.false_eq_true, reduceIte, xc_i, xc_j, xc_r, xc_n, List.nil_append, List.cons_append, Option.toList_some, Option.toList_none, e9, pf_13 F2 hpp, xf_0_0 F2, xf_0_2 F2]
        refine by_inv3 cn_191 lk_11_265 (by rw [xe_cnt]; decide) is_177 np_177 cn_177 (by first | exact rfl | assumption | exact ps_14 hpp) (Nat.le_of_ble_eq_true rfl) ?_
        refine sp_writeValue (d := d + 1) (l := l) F2 hpp hT2 hcn ht row2 (by rw [er]; exact hw e11) p2 (fun h3 X f3 p3 x1 x2 => ?_)
        have F3 := Fr_XF F2 f3 (wt_fin hpp)
        have f03 : Fr [6, pp + 24] (vbT pp) h h3 := Fr_tr f02 f3 (by simp) (by simp [vbT, twT])
        rw [er] at x1 x2 hv
        by_cases ov : X.length ≤ 8192
        · have eov : h3.2.2 5 2 = .int (nI 0) := by rw [p3.2.1, if_pos ov]
          have ex := x1 ov
          subst ex
          with_reducible refine xm_go_blk b_X11_tellValue_54 k_X11_tellValue_54 ?_
          refine by_aload_n rfl ?_
          refine by_getf cn_191 fl_11_19 (by first | exact rfl | assumption) (by decide) ?_
          simp (disch := first | exact Nat.ne_of_beq_eq_false rfl | exact rfl | omega) only [nI_add, xa_sub, xa_mul, pk_div, nm_mod, xa_shr, xa_and7, xa_and1, xa_and255, xa_by_and, nI_m1, Nat.add_sub_cancel, Nat.reducePow, Nat.zero_add, Nat.add_zero, Nat.reduceAdd, Nat.reduceMul, Nat.reduceSub, xf_same, xq_ff, xq_fo, xf_1, xf_2, xs_1, xs_2, xs_same, xq_so, xj_1, xj_2, xj_same, xq_jo, xq_sa1, xq_same, xq_other, upd_s, oI_n, oI_s, xf_0_2 F3, eov]
          refine by_getf cn_191 fl_11_255 (by first | exact rfl | assumption | exact ps_12 hpp) (by decide) ?_
          simp (disch := first | exact Nat.ne_of_beq_eq_false rfl | exact rfl | omega) only [nI_add, xa_sub, xa_mul, pk_div, nm_mod, xa_shr, xa_and7, xa_and1, xa_and255, xa_by_and, nI_m1, Nat.add_sub_cancel, Nat.reducePow, Nat.zero_add, Nat.add_zero, Nat.reduceAdd, Nat.reduceMul, Nat.reduceSub, xf_same, xq_ff, xq_fo, xf_1, xf_2, xs_1, xs_2, xs_same, xq_so, xj_1, xj_2, xj_same, xq_jo, xq_sa1, xq_same, xq_other, upd_s, oI_n, oI_s, xf_0_2 F3, eov]
          refine by_if_eq 68 rfl ?_
          simp (disch := first | exact Nat.ne_of_beq_eq_false rfl | exact rfl | omega) only [nI_add, xa_sub, xa_mul, pk_div, nm_mod, xa_shr, xa_and7, xa_and1, xa_and255, xa_by_and, nI_m1, Nat.add_sub_cancel, Nat.reducePow, Nat.zero_add, Nat.add_zero, Nat.reduceAdd, Nat.reduceMul, Nat.reduceSub, xf_same, xq_ff, xq_fo, xf_1, xf_2, xs_1, xs_2, xs_same, xq_so, xj_1, xj_2, xj_same, xq_jo, xq_sa1, xq_same, xq_other, upd_s, oI_n, oI_s, xv_0, xv_1, xv_2, xv_3, xm_p1, xm_p2, xq_fp, xq_fn, List.filter_nil, Nat.reduceBEq, Bool.not_true, Bool.not_false, Bool.and_true, Bool.and_false, Bool.false_and, Bool.true_and, if_true, if_false, Bool.false_eq_true, reduceIte, xc_i, xc_j, xc_r, xc_n, List.nil_append, List.cons_append, Option.toList_some, Option.toList_none, nI_ltJ, nI_leJ, nI_eqJ, nI_ltz, nI_gez, nI_gtz, nI_lez, nI_eqz, m1_ltz, m1_gez, true_imp_iff, false_imp_iff, true_and, and_true, ne_eq, not_false_eq_true, not_true_eq_false, Nat.reduceEqDiff, Nat.reduceLT, Nat.reduceLeDiff, xf_0_2 F3, eov]
          with_reducible refine xm_go_blk b_X11_tellValue_68 k_X11_tellValue_68 ?_
          refine by_aload_n rfl ?_
          refine by_inv0 cn_191 lk_11_194 (by rw [xe_cnt]; decide) is_186 np_186 cn_186 (by first | exact rfl | assumption) (Nat.le_of_ble_eq_true rfl) ?_
          refine sp_publishL F3 p3 ov (fun h4 f4 r4 => ?_)
          with_reducible refine xm_go_blk b_X11_tellValue_72 k_X11_tellValue_72 ?_
          refine by_iret ry_191 (by first | rfl | assumption) ?_
          refine hend h4 _ (Fr_XF F3 f4 (by decide +kernel)) (fun h' f r => ?_)
          exact hC n _ h' rfl ⟨rfl, hlt⟩ e11 hv ov (Fr_tr (Fr_tr (Fr_mo f03 (by simp) (by simp [vaT, vbT])) f4 (by simp) (by simp [vaT])) f (by simp) (by simp [vaT])) (rowIs_fr r4 f (by simp) (by simp) (by simp)) r
        · have eov : h3.2.2 5 2 = .int (nI 1) := by rw [p3.2.1, if_neg ov]
          with_reducible refine xm_go_blk b_X11_tellValue_54 k_X11_tellValue_54 ?_
          refine by_aload_n rfl ?_
          refine by_getf cn_191 fl_11_19 (by first | exact rfl | assumption) (by decide) ?_
          simp (disch := first | exact Nat.ne_of_beq_eq_false rfl | exact rfl | omega) only [nI_add, xa_sub, xa_mul, pk_div, nm_mod, xa_shr, xa_and7, xa_and1, xa_and255, xa_by_and, nI_m1, Nat.add_sub_cancel, Nat.reducePow, Nat.zero_add, Nat.add_zero, Nat.reduceAdd, Nat.reduceMul, Nat.reduceSub, xf_same, xq_ff, xq_fo, xf_1, xf_2, xs_1, xs_2, xs_same, xq_so, xj_1, xj_2, xj_same, xq_jo, xq_sa1, xq_same, xq_other, upd_s, oI_n, oI_s, xf_0_2 F3, eov]
          refine by_getf cn_191 fl_11_255 (by first | exact rfl | assumption | exact ps_12 hpp) (by decide) ?_
          simp (disch := first | exact Nat.ne_of_beq_eq_false rfl | exact rfl | omega) only [nI_add, xa_sub, xa_mul, pk_div, nm_mod, xa_shr, xa_and7, xa_and1, xa_and255, xa_by_and, nI_m1, Nat.add_sub_cancel, Nat.reducePow, Nat.zero_add, Nat.add_zero, Nat.reduceAdd, Nat.reduceMul, Nat.reduceSub, xf_same, xq_ff, xq_fo, xf_1, xf_2, xs_1, xs_2, xs_same, xq_so, xj_1, xj_2, xj_same, xq_jo, xq_sa1, xq_same, xq_other, upd_s, oI_n, oI_s, xf_0_2 F3, eov]
          refine by_if_eq 68 rfl ?_
          simp (disch := first | exact Nat.ne_of_beq_eq_false rfl | exact rfl | omega) only [nI_add, xa_sub, xa_mul, pk_div, nm_mod, xa_shr, xa_and7, xa_and1, xa_and255, xa_by_and, nI_m1, Nat.add_sub_cancel, Nat.reducePow, Nat.zero_add, Nat.add_zero, Nat.reduceAdd, Nat.reduceMul, Nat.reduceSub, xf_same, xq_ff, xq_fo, xf_1, xf_2, xs_1, xs_2, xs_same, xq_so, xj_1, xj_2, xj_same, xq_jo, xq_sa1, xq_same, xq_other, upd_s, oI_n, oI_s, xv_0, xv_1, xv_2, xv_3, xm_p1, xm_p2, xq_fp, xq_fn, List.filter_nil, Nat.reduceBEq, Bool.not_true, Bool.not_false, Bool.and_true, Bool.and_false, Bool.false_and, Bool.true_and, if_true, if_false, Bool.false_eq_true, reduceIte, xc_i, xc_j, xc_r, xc_n, List.nil_append, List.cons_append, Option.toList_some, Option.toList_none, nI_ltJ, nI_leJ, nI_eqJ, nI_ltz, nI_gez, nI_gtz, nI_lez, nI_eqz, m1_ltz, m1_gez, true_imp_iff, false_imp_iff, true_and, and_true, ne_eq, not_false_eq_true, not_true_eq_false, Nat.reduceEqDiff, Nat.reduceLT, Nat.reduceLeDiff, xf_0_2 F3, eov]
          with_reducible refine xm_go_blk b_X11_tellValue_64 k_X11_tellValue_64 ?_
          refine by_iconst ci_m1 ?_
          refine by_goto 72 rfl ?_
          with_reducible refine xm_go_blk b_X11_tellValue_72 k_X11_tellValue_72 ?_
          refine by_iret ry_191 (by first | rfl | assumption) ?_
          refine hend h3 _ F3 (fun h' f r => ?_)
          exact hL n _ h' rfl ⟨rfl, hlt⟩ e11 hv (x2 (by omega)) (Fr_tr f03 f (by simp) (by simp [vbT])) r
      · rw [er] at hv
        with_reducible refine xm_go_blk b_X11_tellValue_22 k_X11_tellValue_22 ?_
        refine by_if_ne 28 rfl ?_
        simp (disch := first | exact Nat.ne_of_beq_eq_false rfl | exact rfl | omega) only [nI_add, xa_sub, xa_mul, pk_div, nm_mod, xa_shr, xa_and7, xa_and1, xa_and255, xa_by_and, nI_m1, Nat.add_sub_cancel, Nat.reducePow, Nat.zero_add, Nat.add_zero, Nat.reduceAdd, Nat.reduceMul, Nat.reduceSub, xf_same, xq_ff, xq_fo, xf_1, xf_2, xs_1, xs_2, xs_same, xq_so, xj_1, xj_2, xj_same, xq_jo, xq_sa1, xq_same, xq_other, upd_s, oI_n, oI_s, xv_0, xv_1, xv_2, xv_3, xm_p1, xm_p2, xq_fp, xq_fn, List.filter_nil, Nat.reduceBEq, Bool.not_true, Bool.not_false, Bool.and_true, Bool.and_false, Bool.false_and, Bool.true_and, if_true, if_false, Bool.false_eq_true, reduceIte, xc_i, xc_j, xc_r, xc_n, List.nil_append, List.cons_append, Option.toList_some, Option.toList_none, nI_ltJ, nI_leJ, nI_eqJ, nI_ltz, nI_gez, nI_gtz, nI_lez, nI_eqz, m1_ltz, m1_gez, true_imp_iff, false_imp_iff, true_and, and_true, ne_eq, not_false_eq_true, not_true_eq_false, Nat.reduceEqDiff, Nat.reduceLT, Nat.reduceLeDiff]
        with_reducible refine xm_go_blk b_X11_tellValue_25 k_X11_tellValue_25 ?_
        refine by_bipush cb_m4 ?_
        refine by_iret ry_191 (by first | rfl | assumption) ?_
        refine hend h1 _ (Fr_XF hF f1 (sy_fin hpp)) (fun h' f r => ?_)
        exact hB n _ h' rfl ⟨rfl, hlt⟩ e11 hv (Fr_tr (Fr_mo f1 (by simp) (by simp [vbT])) f (by simp) (by simp [vbT])) r
  · with_reducible refine xx_blk b_X11_value_5 k_X11_value_5 ?_
    refine by_if_ne 18 rfl ?_
    simp (disch := first | exact Nat.ne_of_beq_eq_false rfl | exact rfl | omega) only [nI_add, xa_sub, xa_mul, pk_div, nm_mod, xa_shr, xa_and7, xa_and1, xa_and255, xa_by_and, nI_m1, Nat.add_sub_cancel, Nat.reducePow, Nat.zero_add, Nat.add_zero, Nat.reduceAdd, Nat.reduceMul, Nat.reduceSub, xf_same, xq_ff, xq_fo, xf_1, xf_2, xs_1, xs_2, xs_same, xq_so, xj_1, xj_2, xj_same, xq_jo, xq_sa1, xq_same, xq_other, upd_s, oI_n, oI_s, xv_0, xv_1, xv_2, xv_3, xm_p1, xm_p2, xq_fp, xq_fn, List.filter_nil, Nat.reduceBEq, Bool.not_true, Bool.not_false, Bool.and_true, Bool.and_false, Bool.false_and, Bool.true_and, if_true, if_false, Bool.false_eq_true, reduceIte, xc_i, xc_j, xc_r, xc_n, List.nil_append, List.cons_append, Option.toList_some, Option.toList_none, nI_ltJ, nI_leJ, nI_eqJ, nI_ltz, nI_gez, nI_gtz, nI_lez, nI_eqz, m1_ltz, m1_gez, true_imp_iff, false_imp_iff, true_and, and_true, ne_eq, not_false_eq_true, not_true_eq_false, Nat.reduceEqDiff, Nat.reduceLT, Nat.reduceLeDiff]
    exact xx_thr rfl (hA (fun n z => hno n z.2 z.1))
end XV
