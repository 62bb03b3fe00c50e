/-! ===== the reference's jet whole ===== -/
section R9
variable {sc : xm_Sc} {d w i t : Nat} {u : Nat → Bool} {h : xm_H} {post : xm_Po}
theorem rj_all {k : Nat} (hF : XF h) (hw : jw w) (hk : k < 42) (hB : rBt h i (jWs (jt_S k) w) u) (hi : i + jWs (jt_S k) w ≤ 824000) (ht : t + jWt (jt_T k) w ≤ 824000) : rjP sc d w i t u h post k := by
  match k, hk with
  | 0, _ => exact rj_0 hF hw hB hi ht
  | 1, _ => exact rj_1 hF hw hB hi ht
  | 2, _ => exact rj_2 hF hw hB hi ht
  | 3, _ => exact rj_3 hF hw hB hi ht
  | 4, _ => exact rj_4 hF hw hB hi ht
  | 5, _ => exact rj_5 hF hw hB hi ht
  | 6, _ => exact rj_6 hF hw hB hi ht
  | 7, _ => exact rj_7 hF hw hB hi ht
  | 8, _ => exact rj_8 hF hw hB hi ht
  | 9, _ => exact rj_9 hF hw hB hi ht
  | 10, _ => exact rj_10 hF hw hB hi ht
  | 11, _ => exact rj_11 hF hw hB hi ht
  | 12, _ => exact rj_12 hF hw hB hi ht
  | 13, _ => exact rj_13 hF hw hB hi ht
  | 14, _ => exact rj_14 hF hw hB hi ht
  | 15, _ => exact rj_15 hF hw hB hi ht
  | 16, _ => exact rj_16 hF hw hB hi ht
  | 17, _ => exact rj_17 hF hw hB hi ht
  | 18, _ => exact rj_18 hF hw hB hi ht
  | 19, _ => exact rj_19 hF hw hB hi ht
  | 20, _ => exact rj_20 hF hw hB hi ht
  | 21, _ => exact rj_21 hF hw hB hi ht
  | 22, _ => exact rj_22 hF hw hB hi ht
  | 23, _ => exact rj_23 hF hw hB hi ht
  | 24, _ => exact rj_24 hF hw hB hi ht
  | 25, _ => exact rj_25 hF hw hB hi ht
  | 26, _ => exact rj_26 hF hw hB hi ht
  | 27, _ => exact rj_27 hF hw hB hi ht
  | 28, _ => exact rj_28 hF hw hB hi ht
  | 29, _ => exact rj_29 hF hw hB hi ht
  | 30, _ => exact rj_30 hF hw hB hi ht
  | 31, _ => exact rj_31 hF hw hB hi ht
  | 32, _ => exact rj_32 hF hw hB hi ht
  | 33, _ => exact rj_33 hF hw hB hi ht
  | 34, _ => exact rj_34 hF hw hB hi ht
  | 35, _ => exact rj_35 hF hw hB hi ht
  | 36, _ => exact rj_36 hF hw hB hi ht
  | 37, _ => exact rj_37 hF hw hB hi ht
  | 38, _ => exact rj_38 hF hw hB hi ht
  | 39, _ => exact rj_39 hF hw hB hi ht
  | 40, _ => exact rj_40 hF hw hB hi ht
  | 41, _ => exact rj_41 hF hw hB hi ht
  | k + 42, hk => exact absurd hk (by omega)
theorem sp_rjet {n num : Nat} (hF : XF h) (hn : n < 400) (hk : h.1 120 n = nI num) (hnum : num < 168) (hB : rBt h i (ty_w (ty_js num)) u) (hi : i + ty_w (ty_js num) ≤ 824000) (ht : t + ty_w (ty_jt num) ≤ 824000) (hp : ∀ h', rWr h h' t (jtL num u) → post none h') : xm_T (XE sc) (d + 5) 239 [.ref 102, .int (nI n), .int (nI i), .int (nI t)] h post := by
  rw [← jW_js hnum] at hB hi
  rw [← jW_jt hnum] at ht
  have hsh := jsh_8 (num % 4) (by omega)
  have key := rj_all (sc := sc) (d := d) (w := 8 * 2 ^ (num % 4)) (post := post) hF (jw_8 (num % 4) (by omega)) (show num / 4 < 42 by omega) hB hi ht hp
  refine xq_in rfl ?_
  simp only [xq_a0, xq_aI, xq_aJ, xq_aR, Nat.reduceAdd]
  with_reducible refine xm_go_blk b_X12_jet_0 k_X12_jet_0 ?_
  refine by_aload_n rfl ?_
  refine by_iload_n rfl ?_
  refine by_inv1 cn_239 lk_12_468 (by rw [xe_cnt]; decide) is_269 np_269 cn_269 (by first | exact rfl | assumption) (Nat.le_of_ble_eq_true rfl) ?_
  refine xq_in rfl ?_
  simp only [xq_a0, xq_aI, xq_aJ, xq_aR, Nat.reduceAdd]
  with_reducible refine xm_go_blk b_X12_number0_0 k_X12_number0_0 ?_
  refine by_aload_n rfl ?_
  refine by_getf cn_269 fl_12_63 (by first | exact rfl | assumption) (by decide) ?_
  refine by_iload_n rfl ?_
  simp (disch := first | exact Nat.ne_of_beq_eq_false rfl | exact rfl | omega) only [nI_add, xa_sub, xa_mul, pk_div, nm_mod, xa_shr, xa_and7, xa_and1, xa_and255, xa_by_and, nI_m1, Nat.add_sub_cancel, Nat.reducePow, Nat.zero_add, Nat.add_zero, Nat.reduceAdd, Nat.reduceMul, Nat.reduceSub, xf_same, xq_ff, xq_fo, xf_1, xf_2, xs_1, xs_2, xs_same, xq_so, xj_1, xj_2, xj_same, xq_jo, xq_sa1, xq_same, xq_other, upd_s, oI_n, oI_s, xf_102_23 hF, hk]
  first | refine by_iald (by first | exact rfl | assumption | exact ps_1 hpp | exact ps_2 hpp | exact ps_3 hpp | exact ps_4 hpp | exact ps_5 hpp | exact ps_6 hpp | exact ps_7 hpp | exact ps_8 hpp | exact ps_9 hpp | exact ps_10 hpp | exact ps_11 hpp | exact ps_15 hpp | exact ps_16 hpp | exact ps_17 hpp | exact ps_18 hpp | exact ps_19 hpp | exact ps_21 hpp | exact ps_22 hpp | exact ps_23 hpp | exact ps_24 hpp) ⟨by omega, by omega⟩ ?_ | refine by_tald rfl rfl ⟨by omega, by omega⟩ ?_
  simp (disch := first | exact Nat.ne_of_beq_eq_false rfl | exact rfl | omega) only [nI_add, xa_sub, xa_mul, pk_div, nm_mod, xa_shr, xa_and7, xa_and1, xa_and255, xa_by_and, nI_m1, Nat.add_sub_cancel, Nat.reducePow, Nat.zero_add, Nat.add_zero, Nat.reduceAdd, Nat.reduceMul, Nat.reduceSub, xf_same, xq_ff, xq_fo, xf_1, xf_2, xs_1, xs_2, xs_same, xq_so, xj_1, xj_2, xj_same, xq_jo, xq_sa1, xq_same, xq_other, upd_s, oI_n, oI_s, xf_102_23 hF, hk]
  refine by_iret ry_269 (by first | rfl | assumption) ?_
  with_reducible refine xm_go_blk b_X12_jet_5 k_X12_jet_5 ?_
  refine by_iconst ci_4 ?_
  refine by_idiv (by first | decide | assumption) ?_
  refine by_istore (by rw [ml_239]; decide) ?_
  refine by_bipush cb_8 ?_
  refine by_aload_n rfl ?_
  refine by_iload_n rfl ?_
  simp (disch := first | exact Nat.ne_of_beq_eq_false rfl | exact rfl | omega) only [nI_add, xa_sub, xa_mul, pk_div, nm_mod, xa_shr, xa_and7, xa_and1, xa_and255, xa_by_and, nI_m1, Nat.add_sub_cancel, Nat.reducePow, Nat.zero_add, Nat.add_zero, Nat.reduceAdd, Nat.reduceMul, Nat.reduceSub, xf_same, xq_ff, xq_fo, xf_1, xf_2, xs_1, xs_2, xs_same, xq_so, xj_1, xj_2, xj_same, xq_jo, xq_sa1, xq_same, xq_other, upd_s, oI_n, oI_s, xv_0, xv_1, xv_2, xv_3, xm_p1, xm_p2, xq_fp, xq_fn, List.filter_nil, Nat.reduceBEq, Bool.not_true, Bool.not_false, Bool.and_true, Bool.and_false, Bool.false_and, Bool.true_and, if_true, if_false, Bool.false_eq_true, reduceIte, xc_i, xc_j, xc_r, xc_n, List.nil_append, List.cons_append, Option.toList_some, Option.toList_none, xf_102_23 hF, hk]
  refine by_inv1 cn_239 lk_12_468 (by rw [xe_cnt]; decide) is_269 np_269 cn_269 (by first | exact rfl | assumption) (Nat.le_of_ble_eq_true rfl) ?_
  refine xq_in rfl ?_
  simp only [xq_a0, xq_aI, xq_aJ, xq_aR, Nat.reduceAdd]
  with_reducible refine xm_go_blk b_X12_number0_0 k_X12_number0_0 ?_
  refine by_aload_n rfl ?_
  refine by_getf cn_269 fl_12_63 (by first | exact rfl | assumption) (by decide) ?_
  refine by_iload_n rfl ?_
  simp (disch := first | exact Nat.ne_of_beq_eq_false rfl | exact rfl | omega) only [nI_add, xa_sub, xa_mul, pk_div, nm_mod, xa_shr, xa_and7, xa_and1, xa_and255, xa_by_and, nI_m1, Nat.add_sub_cancel, Nat.reducePow, Nat.zero_add, Nat.add_zero, Nat.reduceAdd, Nat.reduceMul, Nat.reduceSub, xf_same, xq_ff, xq_fo, xf_1, xf_2, xs_1, xs_2, xs_same, xq_so, xj_1, xj_2, xj_same, xq_jo, xq_sa1, xq_same, xq_other, upd_s, oI_n, oI_s, xf_102_23 hF, hk]
  first | refine by_iald (by first | exact rfl | assumption | exact ps_1 hpp | exact ps_2 hpp | exact ps_3 hpp | exact ps_4 hpp | exact ps_5 hpp | exact ps_6 hpp | exact ps_7 hpp | exact ps_8 hpp | exact ps_9 hpp | exact ps_10 hpp | exact ps_11 hpp | exact ps_15 hpp | exact ps_16 hpp | exact ps_17 hpp | exact ps_18 hpp | exact ps_19 hpp | exact ps_21 hpp | exact ps_22 hpp | exact ps_23 hpp | exact ps_24 hpp) ⟨by omega, by omega⟩ ?_ | refine by_tald rfl rfl ⟨by omega, by omega⟩ ?_
  simp (disch := first | exact Nat.ne_of_beq_eq_false rfl | exact rfl | omega) only [nI_add, xa_sub, xa_mul, pk_div, nm_mod, xa_shr, xa_and7, xa_and1, xa_and255, xa_by_and, nI_m1, Nat.add_sub_cancel, Nat.reducePow, Nat.zero_add, Nat.add_zero, Nat.reduceAdd, Nat.reduceMul, Nat.reduceSub, xf_same, xq_ff, xq_fo, xf_1, xf_2, xs_1, xs_2, xs_same, xq_so, xj_1, xj_2, xj_same, xq_jo, xq_sa1, xq_same, xq_other, upd_s, oI_n, oI_s, xf_102_23 hF, hk]
  refine by_iret ry_269 (by first | rfl | assumption) ?_
  have hk42 : num / 4 < 42 := by omega
  generalize num / 4 = k at *
  by_cases e1 : k = 1
  · subst e1
    rw [if_pos (Or.inl rfl)] at key
    with_reducible refine xm_go_blk b_X12_jet_16 k_X12_jet_16 ?_
    refine by_iconst ci_4 ?_
    refine by_irem (by first | decide | assumption) ?_
    refine by_ishl ?_
    refine by_istore (by rw [ml_239]; decide) ?_
    refine by_iload rfl ?_
    refine by_iconst ci_1 ?_
    refine by_ic_eq 33 rfl ?_
    simp (disch := first | exact Nat.ne_of_beq_eq_false rfl | exact rfl | omega) only [nI_add, xa_sub, xa_mul, pk_div, nm_mod, xa_shr, xa_and7, xa_and1, xa_and255, xa_by_and, nI_m1, Nat.add_sub_cancel, Nat.reducePow, Nat.zero_add, Nat.add_zero, Nat.reduceAdd, Nat.reduceMul, Nat.reduceSub, xf_same, xq_ff, xq_fo, xf_1, xf_2, xs_1, xs_2, xs_same, xq_so, xj_1, xj_2, xj_same, xq_jo, xq_sa1, xq_same, xq_other, upd_s, oI_n, oI_s, xv_0, xv_1, xv_2, xv_3, xm_p1, xm_p2, xq_fp, xq_fn, List.filter_nil, Nat.reduceBEq, Bool.not_true, Bool.not_false, Bool.and_true, Bool.and_false, Bool.false_and, Bool.true_and, if_true, if_false, Bool.false_eq_true, reduceIte, xc_i, xc_j, xc_r, xc_n, List.nil_append, List.cons_append, Option.toList_some, Option.toList_none, nI_ltJ, nI_leJ, nI_eqJ, nI_ltz, nI_gez, nI_gtz, nI_lez, nI_eqz, m1_ltz, m1_gez, true_imp_iff, false_imp_iff, true_and, and_true, ne_eq, not_false_eq_true, not_true_eq_false, Nat.reduceEqDiff, Nat.reduceLT, Nat.reduceLeDiff, hsh]
    with_reducible refine xm_go_blk b_X12_jet_33 k_X12_jet_33 ?_
    refine by_iload_n rfl ?_
    refine by_iconst ci_1 ?_
    refine by_iadd ?_
    refine by_goto 40 rfl ?_
    try simp (disch := first | exact Nat.ne_of_beq_eq_false rfl | exact rfl | omega) only [nI_add, xa_sub, xa_mul, pk_div, nm_mod, xa_shr, xa_and7, xa_and1, xa_and255, xa_by_and, nI_m1, Nat.add_sub_cancel, Nat.reducePow, Nat.zero_add, Nat.add_zero, Nat.reduceAdd, Nat.reduceMul, Nat.reduceSub, xf_same, xq_ff, xq_fo, xf_1, xf_2, xs_1, xs_2, xs_same, xq_so, xj_1, xj_2, xj_same, xq_jo, xq_sa1, xq_same, xq_other, upd_s, oI_n, oI_s, xv_0, xv_1, xv_2, xv_3, xm_p1, xm_p2, xq_fp, xq_fn, List.filter_nil, Nat.reduceBEq, Bool.not_true, Bool.not_false, Bool.and_true, Bool.and_false, Bool.false_and, Bool.true_and, if_true, if_false, Bool.false_eq_true, reduceIte, xc_i, xc_j, xc_r, xc_n, List.nil_append, List.cons_append, Option.toList_some, Option.toList_none, hsh]
    exact xm_go_wk (by simp [Value.category]) key
  · by_cases e3 : k = 3
    · subst e3
      rw [if_pos (Or.inr rfl)] at key
      with_reducible refine xm_go_blk b_X12_jet_16 k_X12_jet_16 ?_
      refine by_iconst ci_4 ?_
      refine by_irem (by first | decide | assumption) ?_
      refine by_ishl ?_
      refine by_istore (by rw [ml_239]; decide) ?_
      refine by_iload rfl ?_
      refine by_iconst ci_1 ?_
      refine by_ic_eq 33 rfl ?_
      simp (disch := first | exact Nat.ne_of_beq_eq_false rfl | exact rfl | omega) only [nI_add, xa_sub, xa_mul, pk_div, nm_mod, xa_shr, xa_and7, xa_and1, xa_and255, xa_by_and, nI_m1, Nat.add_sub_cancel, Nat.reducePow, Nat.zero_add, Nat.add_zero, Nat.reduceAdd, Nat.reduceMul, Nat.reduceSub, xf_same, xq_ff, xq_fo, xf_1, xf_2, xs_1, xs_2, xs_same, xq_so, xj_1, xj_2, xj_same, xq_jo, xq_sa1, xq_same, xq_other, upd_s, oI_n, oI_s, xv_0, xv_1, xv_2, xv_3, xm_p1, xm_p2, xq_fp, xq_fn, List.filter_nil, Nat.reduceBEq, Bool.not_true, Bool.not_false, Bool.and_true, Bool.and_false, Bool.false_and, Bool.true_and, if_true, if_false, Bool.false_eq_true, reduceIte, xc_i, xc_j, xc_r, xc_n, List.nil_append, List.cons_append, Option.toList_some, Option.toList_none, nI_ltJ, nI_leJ, nI_eqJ, nI_ltz, nI_gez, nI_gtz, nI_lez, nI_eqz, m1_ltz, m1_gez, true_imp_iff, false_imp_iff, true_and, and_true, ne_eq, not_false_eq_true, not_true_eq_false, Nat.reduceEqDiff, Nat.reduceLT, Nat.reduceLeDiff, hsh]
      with_reducible refine xm_go_blk b_X12_jet_27 k_X12_jet_27 ?_
      refine by_iload rfl ?_
      refine by_iconst ci_3 ?_
      refine by_ic_ne 39 rfl ?_
      simp (disch := first | exact Nat.ne_of_beq_eq_false rfl | exact rfl | omega) only [nI_add, xa_sub, xa_mul, pk_div, nm_mod, xa_shr, xa_and7, xa_and1, xa_and255, xa_by_and, nI_m1, Nat.add_sub_cancel, Nat.reducePow, Nat.zero_add, Nat.add_zero, Nat.reduceAdd, Nat.reduceMul, Nat.reduceSub, xf_same, xq_ff, xq_fo, xf_1, xf_2, xs_1, xs_2, xs_same, xq_so, xj_1, xj_2, xj_same, xq_jo, xq_sa1, xq_same, xq_other, upd_s, oI_n, oI_s, xv_0, xv_1, xv_2, xv_3, xm_p1, xm_p2, xq_fp, xq_fn, List.filter_nil, Nat.reduceBEq, Bool.not_true, Bool.not_false, Bool.and_true, Bool.and_false, Bool.false_and, Bool.true_and, if_true, if_false, Bool.false_eq_true, reduceIte, xc_i, xc_j, xc_r, xc_n, List.nil_append, List.cons_append, Option.toList_some, Option.toList_none, nI_ltJ, nI_leJ, nI_eqJ, nI_ltz, nI_gez, nI_gtz, nI_lez, nI_eqz, m1_ltz, m1_gez, true_imp_iff, false_imp_iff, true_and, and_true, ne_eq, not_false_eq_true, not_true_eq_false, Nat.reduceEqDiff, Nat.reduceLT, Nat.reduceLeDiff, hsh]
      with_reducible refine xm_go_blk b_X12_jet_33 k_X12_jet_33 ?_
      refine by_iload_n rfl ?_
      refine by_iconst ci_1 ?_
      refine by_iadd ?_
      refine by_goto 40 rfl ?_
      try simp (disch := first | exact Nat.ne_of_beq_eq_false rfl | exact rfl | omega) only [nI_add, xa_sub, xa_mul, pk_div, nm_mod, xa_shr, xa_and7, xa_and1, xa_and255, xa_by_and, nI_m1, Nat.add_sub_cancel, Nat.reducePow, Nat.zero_add, Nat.add_zero, Nat.reduceAdd, Nat.reduceMul, Nat.reduceSub, xf_same, xq_ff, xq_fo, xf_1, xf_2, xs_1, xs_2, xs_same, xq_so, xj_1, xj_2, xj_same, xq_jo, xq_sa1, xq_same, xq_other, upd_s, oI_n, oI_s, xv_0, xv_1, xv_2, xv_3, xm_p1, xm_p2, xq_fp, xq_fn, List.filter_nil, Nat.reduceBEq, Bool.not_true, Bool.not_false, Bool.and_true, Bool.and_false, Bool.false_and, Bool.true_and, if_true, if_false, Bool.false_eq_true, reduceIte, xc_i, xc_j, xc_r, xc_n, List.nil_append, List.cons_append, Option.toList_some, Option.toList_none, hsh]
      exact xm_go_wk (by simp [Value.category]) key
    · rw [if_neg (by omega)] at key
      with_reducible refine xm_go_blk b_X12_jet_16 k_X12_jet_16 ?_
      refine by_iconst ci_4 ?_
      refine by_irem (by first | decide | assumption) ?_
      refine by_ishl ?_
      refine by_istore (by rw [ml_239]; decide) ?_
      refine by_iload rfl ?_
      refine by_iconst ci_1 ?_
      refine by_ic_eq 33 rfl ?_
      simp (disch := first | exact Nat.ne_of_beq_eq_false rfl | exact rfl | omega) only [nI_add, xa_sub, xa_mul, pk_div, nm_mod, xa_shr, xa_and7, xa_and1, xa_and255, xa_by_and, nI_m1, Nat.add_sub_cancel, Nat.reducePow, Nat.zero_add, Nat.add_zero, Nat.reduceAdd, Nat.reduceMul, Nat.reduceSub, xf_same, xq_ff, xq_fo, xf_1, xf_2, xs_1, xs_2, xs_same, xq_so, xj_1, xj_2, xj_same, xq_jo, xq_sa1, xq_same, xq_other, upd_s, oI_n, oI_s, xv_0, xv_1, xv_2, xv_3, xm_p1, xm_p2, xq_fp, xq_fn, List.filter_nil, Nat.reduceBEq, Bool.not_true, Bool.not_false, Bool.and_true, Bool.and_false, Bool.false_and, Bool.true_and, if_true, if_false, Bool.false_eq_true, reduceIte, xc_i, xc_j, xc_r, xc_n, List.nil_append, List.cons_append, Option.toList_some, Option.toList_none, nI_ltJ, nI_leJ, nI_eqJ, nI_ltz, nI_gez, nI_gtz, nI_lez, nI_eqz, m1_ltz, m1_gez, true_imp_iff, false_imp_iff, true_and, and_true, ne_eq, not_false_eq_true, not_true_eq_false, Nat.reduceEqDiff, Nat.reduceLT, Nat.reduceLeDiff, hsh]
      refine ⟨fun c => absurd c (by omega), fun c16 => ?_⟩
      with_reducible refine xm_go_blk b_X12_jet_27 k_X12_jet_27 ?_
      refine by_iload rfl ?_
      refine by_iconst ci_3 ?_
      refine by_ic_ne 39 rfl ?_
      simp (disch := first | exact Nat.ne_of_beq_eq_false rfl | exact rfl | omega) only [nI_add, xa_sub, xa_mul, pk_div, nm_mod, xa_shr, xa_and7, xa_and1, xa_and255, xa_by_and, nI_m1, Nat.add_sub_cancel, Nat.reducePow, Nat.zero_add, Nat.add_zero, Nat.reduceAdd, Nat.reduceMul, Nat.reduceSub, xf_same, xq_ff, xq_fo, xf_1, xf_2, xs_1, xs_2, xs_same, xq_so, xj_1, xj_2, xj_same, xq_jo, xq_sa1, xq_same, xq_other, upd_s, oI_n, oI_s, xv_0, xv_1, xv_2, xv_3, xm_p1, xm_p2, xq_fp, xq_fn, List.filter_nil, Nat.reduceBEq, Bool.not_true, Bool.not_false, Bool.and_true, Bool.and_false, Bool.false_and, Bool.true_and, if_true, if_false, Bool.false_eq_true, reduceIte, xc_i, xc_j, xc_r, xc_n, List.nil_append, List.cons_append, Option.toList_some, Option.toList_none, nI_ltJ, nI_leJ, nI_eqJ, nI_ltz, nI_gez, nI_gtz, nI_lez, nI_eqz, m1_ltz, m1_gez, true_imp_iff, false_imp_iff, true_and, and_true, ne_eq, not_false_eq_true, not_true_eq_false, Nat.reduceEqDiff, Nat.reduceLT, Nat.reduceLeDiff, hsh]
      refine ⟨fun c27 => ?_, fun c => absurd (by omega) c⟩
      with_reducible refine xm_go_blk b_X12_jet_39 k_X12_jet_39 ?_
      refine by_iload_n rfl ?_
      refine by_nil ?_
      exact xm_go_wk (by simp [Value.category]) key
end R9
section RB
variable {sc : xm_Sc} {d df s0 t0 : Nat} {q : PgD} {H0 : xm_H} {post : xm_Po} {dp cb : Nat → Nat}
theorem rb_jet {n num : Nat} (hP : mPg H0 (some q)) (hn : n < q.2.1.length) (he : pC q.2.1 n = 12) (hnu : pNu q.2.1 n = num) (h168 : num < 168) (hs : rws q n = ty_w (ty_js num)) (ht : rwt q n = ty_w (ty_jt num)) (hd1 : ∀ m, 1 ≤ dp m) : RBg sc d df s0 t0 q dp cb H0 post n (fun u => some (jtL num u, ownQ q n, 0, 0)) := by
  have hps : q.2.1.length ≤ 400 := (mPg_cd hP hn).2.2.2.2.2.2
  refine rb_leaf (rl := jtL num) hP hn he (by decide) hd1 (fun u => by rw [jtL_len h168, ht]) (fun h i t fr cn cm fn fm st E u hF hf hS hB q1 q2 q3 q4 hk => ?_)
  have k1 : h.1 117 n = nI 12 := by rw [← he]; exact (mPg_cd (mPg_fr hP hf) hn).1
  have k4 : h.1 120 n = nI num := by rw [← hnu]; exact (mPg_cd (mPg_fr hP hf) hn).2.2.2.1
  rw [hs] at hB q1
  have q2' := q2
  rw [ht] at q2'
  refine xq_in rfl ?_
  simp only [xq_a0, xq_aI, xq_aJ, xq_aR, Nat.reduceAdd]
  with_reducible refine xm_go_blk b_X12_leafOf_0 k_X12_leafOf_0 ?_
  refine by_aload_n rfl ?_
  refine by_getf cn_249 fl_12_54 (by first | exact rfl | assumption) (by decide) ?_
  refine by_iload_n rfl ?_
  simp (disch := first | exact Nat.ne_of_beq_eq_false rfl | exact rfl | omega) only [nI_add, xa_sub, xa_mul, pk_div, nm_mod, xa_shr, xa_and7, xa_and1, xa_and255, xa_by_and, nI_m1, Nat.add_sub_cancel, Nat.reducePow, Nat.zero_add, Nat.add_zero, Nat.reduceAdd, Nat.reduceMul, Nat.reduceSub, xf_same, xq_ff, xq_fo, xf_1, xf_2, xs_1, xs_2, xs_same, xq_so, xj_1, xj_2, xj_same, xq_jo, xq_sa1, xq_same, xq_other, upd_s, oI_n, oI_s, xf_102_20 hF, k1]
  first | refine by_iald (by first | exact rfl | assumption | exact ps_1 hpp | exact ps_2 hpp | exact ps_3 hpp | exact ps_4 hpp | exact ps_5 hpp | exact ps_6 hpp | exact ps_7 hpp | exact ps_8 hpp | exact ps_9 hpp | exact ps_10 hpp | exact ps_11 hpp | exact ps_15 hpp | exact ps_16 hpp | exact ps_17 hpp | exact ps_18 hpp | exact ps_19 hpp | exact ps_21 hpp | exact ps_22 hpp | exact ps_23 hpp | exact ps_24 hpp) ⟨by omega, by omega⟩ ?_ | refine by_tald rfl rfl ⟨by omega, by omega⟩ ?_
  simp (disch := first | exact Nat.ne_of_beq_eq_false rfl | exact rfl | omega) only [nI_add, xa_sub, xa_mul, pk_div, nm_mod, xa_shr, xa_and7, xa_and1, xa_and255, xa_by_and, nI_m1, Nat.add_sub_cancel, Nat.reducePow, Nat.zero_add, Nat.add_zero, Nat.reduceAdd, Nat.reduceMul, Nat.reduceSub, xf_same, xq_ff, xq_fo, xf_1, xf_2, xs_1, xs_2, xs_same, xq_so, xj_1, xj_2, xj_same, xq_jo, xq_sa1, xq_same, xq_other, upd_s, oI_n, oI_s, xf_102_20 hF, k1]
  refine by_lsw ?_
  refine ⟨by decide, by_to 145 (by decide) ?_⟩
  with_reducible refine xm_go_blk b_X12_leafOf_145 k_X12_leafOf_145 ?_
  refine by_aload_n rfl ?_
  refine by_iload_n rfl ?_
  refine by_iload_n rfl ?_
  refine by_iload_n rfl ?_
  refine by_inv3 cn_249 lk_12_529 (by rw [xe_cnt]; decide) is_239 np_239 cn_239 (by first | exact rfl | assumption) (Nat.le_of_ble_eq_true rfl) ?_
  refine sp_rjet hF (by omega) k4 h168 hB (by omega) (by omega) (fun h1 r1 => ?_)
  with_reducible refine xm_go_blk b_X12_leafOf_152 k_X12_leafOf_152 ?_
  refine by_iconst ci_1 ?_
  refine by_iret ry_249 (by first | rfl | assumption) ?_
  with_reducible refine xm_go_blk b_X12_goesOn_352 k_X12_goesOn_352 ?_
  refine by_iret ry_226 (by first | rfl | assumption) ?_
  have hl : (jtL num u).length = rwt q n := by rw [jtL_len h168, ht]
  refine Lp_1 (hk h1 (Fr_XF hF r1.1 (by decide +kernel)) r1.1 (by rw [← hl]; exact r1.2.1) (fun j _ hj => r1.2.2 j (by rw [hl]; exact hj)))
end RB
/-- what a jet gives in both machines, undefined -/
def jf0 (A : mc_A) (n : Nat) (u : Nat → Bool) : Option mc_V := some (jtL (mc_sk A n) u, mc_ot A n, 0, 0)
section RA
variable {sc : xm_Sc} {d df s0 t0 : Nat} {H0 : xm_H} {post : xm_Po} {l : List Nat} {ps : List pr_D} {a : Nat} {S T : Nat → Ty}
theorem rb_whole (hP : mPg H0 (some (l, ps, a, S, T))) (hl : mrow H0 128 l) (hw8 : ∀ n, n < ps.length → pC ps n = 10 → wtB (l, ps, a, S, T) + wsum (pC ps) T n + ty_w (T n) ≤ 8 * l.length) (f n : Nat) (hn : n < ps.length) (hf : n < f) (h11 : pC ps n ≠ 11) :
    RBg sc d df s0 t0 (l, ps, a, S, T) rDp rCb H0 post n (mc_ev (mcQ (l, ps, a, S, T)) (jf0 (mcQ (l, ps, a, S, T))) (byB l) f n) ∧ Lr (rW (l, ps, a, S, T)) n (mc_ev (mcQ (l, ps, a, S, T)) (jf0 (mcQ (l, ps, a, S, T))) (byB l) f n) := by
  refine rb_all hP hl hw8 (fun n hn he => ?_) f n hn hf h11
  obtain ⟨t1, t2, t3, t4⟩ := (mqW_of hP.1 hP.2.2.2.1 hn).2.2.2.2.2.2.2.2.2.2.2.2.1 he
  have h6 : pNu ps n < 168 := Nat.lt_succ_of_le (hP.1 n hn).2.2.2.2.2.1
  have es : rws (l, ps, a, S, T) n = ty_w (ty_js (pNu ps n)) := congrArg ty_w t3
  have et : rwt (l, ps, a, S, T) n = ty_w (ty_jt (pNu ps n)) := congrArg ty_w t4
  have eo : ownQ (l, ps, a, S, T) n = 1 + mc_ot (mcQ (l, ps, a, S, T)) n := by
    rw [t2]
    show 1 + ownS ps S T n = _
    unfold ownS
    rw [if_neg (by omega), if_neg (by omega), if_pos he]
  have b := rb_jet (sc := sc) (d := d) (df := df) (s0 := s0) (t0 := t0) (post := post) (dp := rDp) (cb := rCb) hP hn he rfl h6 es et (fun m => by unfold rDp; omega)
  rw [eo] at b
  simp only [jf0, t1]
  refine ⟨b, fun u u' hu => ?_, fun u a' s c g h => ?_⟩
  · simp only [jtL_cg h6 (fun i hi => hu i (by show i < rws _ n; rw [es]; exact hi))]
  · simp only [Option.some.injEq, Prod.mk.injEq] at h
    obtain ⟨rfl, _, rfl, rfl⟩ := h
    exact ⟨by rw [jtL_len h6]; exact et.symm, Nat.zero_le _, Nat.zero_le _⟩
end RA
