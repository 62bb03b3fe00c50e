/-! ===== the class: Roots: findType ===== -/
section RT
variable {sc : xm_Sc} {d pp cn : Nat} {tr : Nat → Ty} {K L R : Nat → Nat} {h : xm_H} {post : xm_Po}
theorem sp_findType {t : Nat} (hF : XF h) (hpp : pp = 52 ∨ pp = 77) (hT : tyT h pp cn tr K L R) (ht : t < cn) (ht2 : t < 2832) (hx : xlv h 16) (hkd : ∀ y, y < t → ∀ k, k < 8 → h.1 42 (8 * y + k) = tyRt (tr y) k)
    (hp : ∀ h', Fr [42, 44] [] h h' → (∀ k, k < 8 → h'.1 42 (8 * t + k) = tyRt (tr t) k) → (∀ m, (m < 8 * t ∨ 8 * t + 8 ≤ m) → h'.1 42 m = h.1 42 m) → post none h') : xm_T (XE sc) (d + 3) 120 [.ref 40, .ref (pp + 14), .int (nI t)] h post := by
  obtain ⟨⟨x1, x1b, x1c⟩, x2, x3, x4, x5, x6, _⟩ := hT.2.1 t ht
  refine xq_in rfl ?_
  simp only [xq_a0, xq_aI, xq_aJ, xq_aR, Nat.reduceAdd]
  by_cases e : K t = 0
  · have x4' : h.1 (pp + 15) t = nI 0 := by rw [x4, e]
    have et : tr t = tO := by rw [x2, e]; rfl
    with_reducible refine xm_go_blk b_X7_findType_0 k_X7_findType_0 ?_
    refine by_bipush cb_13 ?_
    refine by_aload_n rfl ?_
    refine by_getf cn_120 fl_7_89 (by first | exact rfl | assumption | exact ps_14 hpp) (by decide) ?_
    refine by_iload_n rfl ?_
    simp (disch := first | exact Nat.ne_of_beq_eq_false rfl | exact rfl | omega) only [nI_add, xa_sub, xa_mul, pk_div, nm_mod, xa_shr, xa_and7, xa_and1, xa_and255, xa_by_and, nI_m1, Nat.add_sub_cancel, Nat.reducePow, Nat.zero_add, Nat.add_zero, Nat.reduceAdd, Nat.reduceMul, Nat.reduceSub, xf_same, xq_ff, xq_fo, xf_1, xf_2, xs_1, xs_2, xs_same, xq_so, xj_1, xj_2, xj_same, xq_jo, xq_sa1, xq_same, xq_other, upd_s, oI_n, oI_s, pt_1 hF hpp, xf_40_2 hF, xf_40_1 hF, x4']
    first | refine by_iald (by first | exact rfl | assumption | exact ps_1 hpp | exact ps_2 hpp | exact ps_3 hpp | exact ps_4 hpp | exact ps_5 hpp | exact ps_6 hpp | exact ps_7 hpp | exact ps_8 hpp | exact ps_9 hpp | exact ps_10 hpp | exact ps_11 hpp | exact ps_15 hpp | exact ps_16 hpp | exact ps_17 hpp | exact ps_18 hpp | exact ps_19 hpp | exact ps_21 hpp | exact ps_22 hpp | exact ps_23 hpp | exact ps_24 hpp) ⟨by omega, by omega⟩ ?_ | refine by_tald rfl rfl ⟨by omega, by omega⟩ ?_
    refine by_iadd ?_
    refine by_istore_n (by rw [ml_120]; decide) ?_
    refine by_aload_n rfl ?_
    refine by_getf cn_120 fl_7_89 (by first | exact rfl | assumption | exact ps_14 hpp) (by decide) ?_
    refine by_iload_n rfl ?_
    simp (disch := first | exact Nat.ne_of_beq_eq_false rfl | exact rfl | omega) only [nI_add, xa_sub, xa_mul, pk_div, nm_mod, xa_shr, xa_and7, xa_and1, xa_and255, xa_by_and, nI_m1, Nat.add_sub_cancel, Nat.reducePow, Nat.zero_add, Nat.add_zero, Nat.reduceAdd, Nat.reduceMul, Nat.reduceSub, xf_same, xq_ff, xq_fo, xf_1, xf_2, xs_1, xs_2, xs_same, xq_so, xj_1, xj_2, xj_same, xq_jo, xq_sa1, xq_same, xq_other, upd_s, oI_n, oI_s, pt_1 hF hpp, xf_40_2 hF, xf_40_1 hF, x4']
    first | refine by_iald (by first | exact rfl | assumption | exact ps_1 hpp | exact ps_2 hpp | exact ps_3 hpp | exact ps_4 hpp | exact ps_5 hpp | exact ps_6 hpp | exact ps_7 hpp | exact ps_8 hpp | exact ps_9 hpp | exact ps_10 hpp | exact ps_11 hpp | exact ps_15 hpp | exact ps_16 hpp | exact ps_17 hpp | exact ps_18 hpp | exact ps_19 hpp | exact ps_21 hpp | exact ps_22 hpp | exact ps_23 hpp | exact ps_24 hpp) ⟨by omega, by omega⟩ ?_ | refine by_tald rfl rfl ⟨by omega, by omega⟩ ?_
    refine by_if_ne 43 rfl ?_
    simp (disch := first | exact Nat.ne_of_beq_eq_false rfl | exact rfl | omega) only [nI_add, xa_sub, xa_mul, pk_div, nm_mod, xa_shr, xa_and7, xa_and1, xa_and255, xa_by_and, nI_m1, Nat.add_sub_cancel, Nat.reducePow, Nat.zero_add, Nat.add_zero, Nat.reduceAdd, Nat.reduceMul, Nat.reduceSub, xf_same, xq_ff, xq_fo, xf_1, xf_2, xs_1, xs_2, xs_same, xq_so, xj_1, xj_2, xj_same, xq_jo, xq_sa1, xq_same, xq_other, upd_s, oI_n, oI_s, xv_0, xv_1, xv_2, xv_3, xm_p1, xm_p2, xq_fp, xq_fn, List.filter_nil, Nat.reduceBEq, Bool.not_true, Bool.not_false, Bool.and_true, Bool.and_false, Bool.false_and, Bool.true_and, if_true, if_false, Bool.false_eq_true, reduceIte, xc_i, xc_j, xc_r, xc_n, List.nil_append, List.cons_append, Option.toList_some, Option.toList_none, nI_ltJ, nI_leJ, nI_eqJ, nI_ltz, nI_gez, nI_gtz, nI_lez, nI_eqz, m1_ltz, m1_gez, true_imp_iff, false_imp_iff, true_and, and_true, ne_eq, not_false_eq_true, not_true_eq_false, Nat.reduceEqDiff, Nat.reduceLT, Nat.reduceLeDiff, pt_1 hF hpp, xf_40_2 hF, xf_40_1 hF, x4']
    with_reducible refine xm_go_blk b_X7_findType_19 k_X7_findType_19 ?_
    refine by_aload_n rfl ?_
    refine by_getf cn_120 fl_7_18 (by first | exact rfl | assumption) (by decide) ?_
    refine by_bipush cb_8 ?_
    refine by_iload_n rfl ?_
    refine by_imul ?_
    refine by_aload_n rfl ?_
    refine by_getf cn_120 fl_7_15 (by first | exact rfl | assumption) (by decide) ?_
    refine by_bipush cb_8 ?_
    refine by_iload_n rfl ?_
    refine by_imul ?_
    refine by_bipush cb_8 ?_
    simp (disch := first | exact Nat.ne_of_beq_eq_false rfl | exact rfl | omega) only [nI_add, xa_sub, xa_mul, pk_div, nm_mod, xa_shr, xa_and7, xa_and1, xa_and255, xa_by_and, nI_m1, Nat.add_sub_cancel, Nat.reducePow, Nat.zero_add, Nat.add_zero, Nat.reduceAdd, Nat.reduceMul, Nat.reduceSub, xf_same, xq_ff, xq_fo, xf_1, xf_2, xs_1, xs_2, xs_same, xq_so, xj_1, xj_2, xj_same, xq_jo, xq_sa1, xq_same, xq_other, upd_s, oI_n, oI_s, xv_0, xv_1, xv_2, xv_3, xm_p1, xm_p2, xq_fp, xq_fn, List.filter_nil, Nat.reduceBEq, Bool.not_true, Bool.not_false, Bool.and_true, Bool.and_false, Bool.false_and, Bool.true_and, if_true, if_false, Bool.false_eq_true, reduceIte, xc_i, xc_j, xc_r, xc_n, List.nil_append, List.cons_append, Option.toList_some, Option.toList_none, pt_1 hF hpp, xf_40_2 hF, xf_40_1 hF, x4']
    refine by_acp cn_120 lk_7_73 xe_cnt.symm (by first | exact rfl | assumption) (by first | exact rfl | assumption) ⟨by decide, rfl⟩ ?_ ?_ (Nat.le_of_ble_eq_true rfl) ?_
    · omega
    · intro i hi; rfl
    · with_reducible refine xm_go_blk b_X7_findType_40 k_X7_findType_40 ?_
      refine by_goto 104 rfl ?_
      with_reducible refine xm_go_blk b_X7_findType_104 k_X7_findType_104 ?_
      refine by_ret ry_120 ?_
      refine hp _ (Fr_sa Fr_rf (by simp)) (fun k hk => ?_) (fun m hm => ?_)
      · rw [xq_same, cpy_in (by omega) (by omega), et, show 8 * 13 + (8 * t + k - 8 * t) = 8 * 13 + k by omega]
        exact hx 13 (by decide) k hk
      · rw [xq_same, cpy_out (by omega)]
  · have k1 : 1 ≤ K t := by omega
    obtain ⟨l1, l2⟩ := x1c k1
    have e0 : (K t = 0) = False := eq_false e
    have et : ∀ k, tyRt (tr t) k = rtC (rt0 (nI (208 + K t))) (tyRt (tr (L t))) (tyRt (tr (R t))) k := by
      intro k
      rw [x2]
      rcases ts_cs x1 with z | z | z
      · exact absurd z e
      · rw [z]; rfl
      · rw [z]; rfl
    with_reducible refine xm_go_blk b_X7_findType_0 k_X7_findType_0 ?_
    refine by_bipush cb_13 ?_
    refine by_aload_n rfl ?_
    refine by_getf cn_120 fl_7_89 (by first | exact rfl | assumption | exact ps_14 hpp) (by decide) ?_
    refine by_iload_n rfl ?_
    simp (disch := first | exact Nat.ne_of_beq_eq_false rfl | exact rfl | omega) only [nI_add, xa_sub, xa_mul, pk_div, nm_mod, xa_shr, xa_and7, xa_and1, xa_and255, xa_by_and, nI_m1, Nat.add_sub_cancel, Nat.reducePow, Nat.zero_add, Nat.add_zero, Nat.reduceAdd, Nat.reduceMul, Nat.reduceSub, xf_same, xq_ff, xq_fo, xf_1, xf_2, xs_1, xs_2, xs_same, xq_so, xj_1, xj_2, xj_same, xq_jo, xq_sa1, xq_same, xq_other, upd_s, oI_n, oI_s, pt_1 hF hpp, pt_2 hF hpp, xf_40_1 hF, xf_40_3 hF, x4, x5, e0]
    first | refine by_iald (by first | exact rfl | assumption | exact ps_1 hpp | exact ps_2 hpp | exact ps_3 hpp | exact ps_4 hpp | exact ps_5 hpp | exact ps_6 hpp | exact ps_7 hpp | exact ps_8 hpp | exact ps_9 hpp | exact ps_10 hpp | exact ps_11 hpp | exact ps_15 hpp | exact ps_16 hpp | exact ps_17 hpp | exact ps_18 hpp | exact ps_19 hpp | exact ps_21 hpp | exact ps_22 hpp | exact ps_23 hpp | exact ps_24 hpp) ⟨by omega, by omega⟩ ?_ | refine by_tald rfl rfl ⟨by omega, by omega⟩ ?_
    refine by_iadd ?_
    refine by_istore_n (by rw [ml_120]; decide) ?_
    refine by_aload_n rfl ?_
    refine by_getf cn_120 fl_7_89 (by first | exact rfl | assumption | exact ps_14 hpp) (by decide) ?_
    refine by_iload_n rfl ?_
    simp (disch := first | exact Nat.ne_of_beq_eq_false rfl | exact rfl | omega) only [nI_add, xa_sub, xa_mul, pk_div, nm_mod, xa_shr, xa_and7, xa_and1, xa_and255, xa_by_and, nI_m1, Nat.add_sub_cancel, Nat.reducePow, Nat.zero_add, Nat.add_zero, Nat.reduceAdd, Nat.reduceMul, Nat.reduceSub, xf_same, xq_ff, xq_fo, xf_1, xf_2, xs_1, xs_2, xs_same, xq_so, xj_1, xj_2, xj_same, xq_jo, xq_sa1, xq_same, xq_other, upd_s, oI_n, oI_s, pt_1 hF hpp, pt_2 hF hpp, xf_40_1 hF, xf_40_3 hF, x4, x5, e0]
    first | refine by_iald (by first | exact rfl | assumption | exact ps_1 hpp | exact ps_2 hpp | exact ps_3 hpp | exact ps_4 hpp | exact ps_5 hpp | exact ps_6 hpp | exact ps_7 hpp | exact ps_8 hpp | exact ps_9 hpp | exact ps_10 hpp | exact ps_11 hpp | exact ps_15 hpp | exact ps_16 hpp | exact ps_17 hpp | exact ps_18 hpp | exact ps_19 hpp | exact ps_21 hpp | exact ps_22 hpp | exact ps_23 hpp | exact ps_24 hpp) ⟨by omega, by omega⟩ ?_ | refine by_tald rfl rfl ⟨by omega, by omega⟩ ?_
    refine by_if_ne 43 rfl ?_
    simp (disch := first | exact Nat.ne_of_beq_eq_false rfl | exact rfl | omega) only [nI_add, xa_sub, xa_mul, pk_div, nm_mod, xa_shr, xa_and7, xa_and1, xa_and255, xa_by_and, nI_m1, Nat.add_sub_cancel, Nat.reducePow, Nat.zero_add, Nat.add_zero, Nat.reduceAdd, Nat.reduceMul, Nat.reduceSub, xf_same, xq_ff, xq_fo, xf_1, xf_2, xs_1, xs_2, xs_same, xq_so, xj_1, xj_2, xj_same, xq_jo, xq_sa1, xq_same, xq_other, upd_s, oI_n, oI_s, xv_0, xv_1, xv_2, xv_3, xm_p1, xm_p2, xq_fp, xq_fn, List.filter_nil, Nat.reduceBEq, Bool.not_true, Bool.not_false, Bool.and_true, Bool.and_false, Bool.false_and, Bool.true_and, if_true, if_false, Bool.false_eq_true, reduceIte, xc_i, xc_j, xc_r, xc_n, List.nil_append, List.cons_append, Option.toList_some, Option.toList_none, nI_ltJ, nI_leJ, nI_eqJ, nI_ltz, nI_gez, nI_gtz, nI_lez, nI_eqz, m1_ltz, m1_gez, true_imp_iff, false_imp_iff, true_and, and_true, ne_eq, not_false_eq_true, not_true_eq_false, Nat.reduceEqDiff, Nat.reduceLT, Nat.reduceLeDiff, pt_1 hF hpp, pt_2 hF hpp, xf_40_1 hF, xf_40_3 hF, x4, x5, e0]
    with_reducible refine xm_go_blk b_X7_findType_43 k_X7_findType_43 ?_
    refine by_aload_n rfl ?_
    refine by_getf cn_120 fl_7_15 (by first | exact rfl | assumption) (by decide) ?_
    refine by_bipush cb_8 ?_
    refine by_aload_n rfl ?_
    refine by_getf cn_120 fl_7_92 (by first | exact rfl | assumption | exact ps_14 hpp) (by decide) ?_
    refine by_iload_n rfl ?_
    simp (disch := first | exact Nat.ne_of_beq_eq_false rfl | exact rfl | omega) only [nI_add, xa_sub, xa_mul, pk_div, nm_mod, xa_shr, xa_and7, xa_and1, xa_and255, xa_by_and, nI_m1, Nat.add_sub_cancel, Nat.reducePow, Nat.zero_add, Nat.add_zero, Nat.reduceAdd, Nat.reduceMul, Nat.reduceSub, xf_same, xq_ff, xq_fo, xf_1, xf_2, xs_1, xs_2, xs_same, xq_so, xj_1, xj_2, xj_same, xq_jo, xq_sa1, xq_same, xq_other, upd_s, oI_n, oI_s, pt_1 hF hpp, pt_2 hF hpp, xf_40_1 hF, xf_40_3 hF, x4, x5, e0]
    first | refine by_iald (by first | exact rfl | assumption | exact ps_1 hpp | exact ps_2 hpp | exact ps_3 hpp | exact ps_4 hpp | exact ps_5 hpp | exact ps_6 hpp | exact ps_7 hpp | exact ps_8 hpp | exact ps_9 hpp | exact ps_10 hpp | exact ps_11 hpp | exact ps_15 hpp | exact ps_16 hpp | exact ps_17 hpp | exact ps_18 hpp | exact ps_19 hpp | exact ps_21 hpp | exact ps_22 hpp | exact ps_23 hpp | exact ps_24 hpp) ⟨by omega, by omega⟩ ?_ | refine by_tald rfl rfl ⟨by omega, by omega⟩ ?_
    refine by_imul ?_
    refine by_aload_n rfl ?_
    refine by_getf cn_120 fl_7_21 (by first | exact rfl | assumption) (by decide) ?_
    refine by_iconst ci_0 ?_
    refine by_bipush cb_8 ?_
    simp (disch := first | exact Nat.ne_of_beq_eq_false rfl | exact rfl | omega) only [nI_add, xa_sub, xa_mul, pk_div, nm_mod, xa_shr, xa_and7, xa_and1, xa_and255, xa_by_and, nI_m1, Nat.add_sub_cancel, Nat.reducePow, Nat.zero_add, Nat.add_zero, Nat.reduceAdd, Nat.reduceMul, Nat.reduceSub, xf_same, xq_ff, xq_fo, xf_1, xf_2, xs_1, xs_2, xs_same, xq_so, xj_1, xj_2, xj_same, xq_jo, xq_sa1, xq_same, xq_other, upd_s, oI_n, oI_s, xv_0, xv_1, xv_2, xv_3, xm_p1, xm_p2, xq_fp, xq_fn, List.filter_nil, Nat.reduceBEq, Bool.not_true, Bool.not_false, Bool.and_true, Bool.and_false, Bool.false_and, Bool.true_and, if_true, if_false, Bool.false_eq_true, reduceIte, xc_i, xc_j, xc_r, xc_n, List.nil_append, List.cons_append, Option.toList_some, Option.toList_none, pt_1 hF hpp, pt_2 hF hpp, xf_40_1 hF, xf_40_3 hF, x4, x5, e0]
    refine by_acp cn_120 lk_7_73 xe_cnt.symm (by first | exact rfl | assumption) (by first | exact rfl | assumption) ⟨by decide, rfl⟩ ?_ ?_ (Nat.le_of_ble_eq_true rfl) ?_
    · omega
    · intro i hi; rfl
    · have F1 : XF (xm_sa h 44 (va_cpy (h.1 42) (h.1 44) (8 * L t) 0 8)) := Fr_XF hF (Fr_sa (S := [44]) (T := []) Fr_rf (by simp)) (by decide +kernel)
      with_reducible refine xm_go_blk b_X7_findType_66 k_X7_findType_66 ?_
      refine by_aload_n rfl ?_
      refine by_getf cn_120 fl_7_15 (by first | exact rfl | assumption) (by decide) ?_
      refine by_bipush cb_8 ?_
      refine by_aload_n rfl ?_
      refine by_getf cn_120 fl_7_95 (by first | exact rfl | assumption | exact ps_14 hpp) (by decide) ?_
      refine by_iload_n rfl ?_
      simp (disch := first | exact Nat.ne_of_beq_eq_false rfl | exact rfl | omega) only [nI_add, xa_sub, xa_mul, pk_div, nm_mod, xa_shr, xa_and7, xa_and1, xa_and255, xa_by_and, nI_m1, Nat.add_sub_cancel, Nat.reducePow, Nat.zero_add, Nat.add_zero, Nat.reduceAdd, Nat.reduceMul, Nat.reduceSub, xf_same, xq_ff, xq_fo, xf_1, xf_2, xs_1, xs_2, xs_same, xq_so, xj_1, xj_2, xj_same, xq_jo, xq_sa1, xq_same, xq_other, upd_s, oI_n, oI_s, pt_3 hF hpp, xf_40_1 hF, xf_40_3 hF, x6]
      first | refine by_iald (by first | exact rfl | assumption | exact ps_1 hpp | exact ps_2 hpp | exact ps_3 hpp | exact ps_4 hpp | exact ps_5 hpp | exact ps_6 hpp | exact ps_7 hpp | exact ps_8 hpp | exact ps_9 hpp | exact ps_10 hpp | exact ps_11 hpp | exact ps_15 hpp | exact ps_16 hpp | exact ps_17 hpp | exact ps_18 hpp | exact ps_19 hpp | exact ps_21 hpp | exact ps_22 hpp | exact ps_23 hpp | exact ps_24 hpp) ⟨by omega, by omega⟩ ?_ | refine by_tald rfl rfl ⟨by omega, by omega⟩ ?_
      refine by_imul ?_
      refine by_aload_n rfl ?_
      refine by_getf cn_120 fl_7_21 (by first | exact rfl | assumption) (by decide) ?_
      refine by_bipush cb_8 ?_
      refine by_bipush cb_8 ?_
      simp (disch := first | exact Nat.ne_of_beq_eq_false rfl | exact rfl | omega) only [nI_add, xa_sub, xa_mul, pk_div, nm_mod, xa_shr, xa_and7, xa_and1, xa_and255, xa_by_and, nI_m1, Nat.add_sub_cancel, Nat.reducePow, Nat.zero_add, Nat.add_zero, Nat.reduceAdd, Nat.reduceMul, Nat.reduceSub, xf_same, xq_ff, xq_fo, xf_1, xf_2, xs_1, xs_2, xs_same, xq_so, xj_1, xj_2, xj_same, xq_jo, xq_sa1, xq_same, xq_other, upd_s, oI_n, oI_s, xv_0, xv_1, xv_2, xv_3, xm_p1, xm_p2, xq_fp, xq_fn, List.filter_nil, Nat.reduceBEq, Bool.not_true, Bool.not_false, Bool.and_true, Bool.and_false, Bool.false_and, Bool.true_and, if_true, if_false, Bool.false_eq_true, reduceIte, xc_i, xc_j, xc_r, xc_n, List.nil_append, List.cons_append, Option.toList_some, Option.toList_none, pt_3 hF hpp, xf_40_1 hF, xf_40_3 hF, x6]
      refine by_acp cn_120 lk_7_73 xe_cnt.symm (by first | exact rfl | assumption) (by first | exact rfl | assumption) ⟨by decide, rfl⟩ ?_ ?_ (Nat.le_of_ble_eq_true rfl) ?_
      · omega
      · intro i hi; rfl
      · with_reducible refine xm_go_blk b_X7_findType_90 k_X7_findType_90 ?_
        refine by_aload_n rfl ?_
        refine by_aload_n rfl ?_
        refine by_getf cn_120 fl_7_18 (by first | exact rfl | assumption) (by decide) ?_
        refine by_iload_n rfl ?_
        refine by_aload_n rfl ?_
        refine by_getf cn_120 fl_7_15 (by first | exact rfl | assumption) (by decide) ?_
        refine by_iload_n rfl ?_
        simp (disch := first | exact Nat.ne_of_beq_eq_false rfl | exact rfl | omega) only [nI_add, xa_sub, xa_mul, pk_div, nm_mod, xa_shr, xa_and7, xa_and1, xa_and255, xa_by_and, nI_m1, Nat.add_sub_cancel, Nat.reducePow, Nat.zero_add, Nat.add_zero, Nat.reduceAdd, Nat.reduceMul, Nat.reduceSub, xf_same, xq_ff, xq_fo, xf_1, xf_2, xs_1, xs_2, xs_same, xq_so, xj_1, xj_2, xj_same, xq_jo, xq_sa1, xq_same, xq_other, upd_s, oI_n, oI_s, xv_0, xv_1, xv_2, xv_3, xm_p1, xm_p2, xq_fp, xq_fn, List.filter_nil, Nat.reduceBEq, Bool.not_true, Bool.not_false, Bool.and_true, Bool.and_false, Bool.false_and, Bool.true_and, if_true, if_false, Bool.false_eq_true, reduceIte, xc_i, xc_j, xc_r, xc_n, List.nil_append, List.cons_append, Option.toList_some, Option.toList_none, xf_40_1 hF, xf_40_2 hF]
        refine by_inv4 cn_120 lk_7_82 (by rw [xe_cnt]; decide) is_117 np_117 cn_117 (by first | exact rfl | assumption) (Nat.le_of_ble_eq_true rfl) ?_
        refine sp_cmpH (A := 43) (s := 13 + K t) (B := 42) (q := t) rfl (by decide) (by decide) (show 8 * (13 + K t) + 8 ≤ 128 by omega) (by decide) (Fr_XF F1 (Fr_sa (S := [44]) (T := []) Fr_rf (by simp)) (by decide +kernel)) rfl (by decide) (show 8 * t + 8 ≤ 22656 by omega) (by decide) (fun h2 f2 q1 q2 => ?_)
        with_reducible refine xm_go_blk b_X7_findType_104 k_X7_findType_104 ?_
        refine by_ret ry_120 ?_
        refine hp h2 (Fr_tr (Fr_sa (Fr_sa Fr_rf (by simp)) (by simp)) f2 (by simp) (by simp)) (fun k hk => ?_) (fun m hm => ?_)
        · rw [q1 k hk, et]
          unfold rtC
          refine shC_cg (fun m hm => ?_) (fun m hm => ?_) k hk
          · rw [xq_other (by decide), xq_other (by decide), hx (13 + K t) (by omega) m hm]
            unfold lvX
            rw [if_neg (by omega), show 208 + (13 + K t) - 13 = 208 + K t by omega]
          · rw [xq_same]
            by_cases z : m < 8
            · rw [if_pos z, cpy_out (by omega)]
              rw [cpy_in (by omega) (by omega), Nat.sub_zero]
              exact hkd (L t) l1 m z
            · rw [if_neg z, cpy_in (by omega) (by omega)]
              exact hkd (R t) l2 (m - 8) (by omega)
        · rw [q2 m hm, xq_other (by decide), xq_other (by decide)]
end RT
