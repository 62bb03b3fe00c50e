/-! ===== Roots.compress ===== -/
section SH
variable {sc : xm_Sc} {d : Nat} {h : xm_H} {post : xm_Po}
def cpL (A B s q : Nat) : xm_L := [(0, .ref 40), (1, .ref A), (2, .int (nI s)), (3, .ref B), (4, .int (nI q))]
theorem cp_4 {A B s q : Nat} {w : Nat → Int32} (hF : XF h) (hgo : ∀ h', Fr [44] [] h h' → h'.1 44 = shX w 48 → xm_go (XE sc) (xm_T (XE sc) (d + 1)) 117 post 111 (cpL A B s q) [] h') :
    ∀ (j i : Nat) (h' : xm_H), i + j = 48 → Fr [44] [] h h' → h'.1 44 = shX w i → xm_go (XE sc) (xm_T (XE sc) (d + 1)) 117 post 4 ((5, .int (nI (16 + i))) :: cpL A B s q) [] h' := by
  unfold cpL at *
  intro j
  induction j with
  | zero =>
    intro i h' hi hf hw
    have : i = 48 := by omega
    subst this
    with_reducible refine xm_go_blk b_X7_compress_4 k_X7_compress_4 ?_
    refine by_iload rfl ?_
    refine by_bipush cb_64 ?_
    refine by_ic_ge 111 rfl ?_
    simp (disch := first | exact Nat.ne_of_beq_eq_false rfl | exact rfl | omega) only [nI_add, xa_sub, xa_mul, pk_div, nm_mod, xa_shr, xa_and7, xa_and1, xa_and255, xa_by_and, nI_m1, Nat.add_sub_cancel, Nat.reducePow, Nat.zero_add, Nat.add_zero, Nat.reduceAdd, Nat.reduceMul, Nat.reduceSub, xf_same, xq_ff, xq_fo, xf_1, xf_2, xs_1, xs_2, xs_same, xq_so, xj_1, xj_2, xj_same, xq_jo, xq_sa1, xq_same, xq_other, upd_s, oI_n, oI_s, xv_0, xv_1, xv_2, xv_3, xm_p1, xm_p2, xq_fp, xq_fn, List.filter_nil, Nat.reduceBEq, Bool.not_true, Bool.not_false, Bool.and_true, Bool.and_false, Bool.false_and, Bool.true_and, if_true, if_false, Bool.false_eq_true, reduceIte, xc_i, xc_j, xc_r, xc_n, List.nil_append, List.cons_append, Option.toList_some, Option.toList_none, nI_ltJ, nI_leJ, nI_eqJ, nI_ltz, nI_gez, nI_gtz, nI_lez, nI_eqz, m1_ltz, m1_gez, true_imp_iff, false_imp_iff, true_and, and_true, ne_eq, not_false_eq_true, not_true_eq_false, Nat.reduceEqDiff, Nat.reduceLT, Nat.reduceLeDiff]
    exact xm_go_wk (by simp [Value.category]) (hgo h' hf hw)
  | succ j ih =>
    intro i h' hi hf hw
    have F1 : XF h' := Fr_XF hF hf (by decide +kernel)
    have hg := ih (i + 1) (xm_si h' 44 (16 + i) (shS (shX w i) (16 + i))) (by omega) (Fr_si hf (by simp)) (by rw [xs_same, hw]; rfl)
    unfold shS at hg
    rw [← hw] at hg
    unfold ush at hg
    generalize ht : 16 + i = t at *
    with_reducible refine xm_go_blk b_X7_compress_4 k_X7_compress_4 ?_
    refine by_iload rfl ?_
    refine by_bipush cb_64 ?_
    refine by_ic_ge 111 rfl ?_
    simp (disch := first | exact Nat.ne_of_beq_eq_false rfl | exact rfl | omega) only [nI_add, xa_sub, xa_mul, pk_div, nm_mod, xa_shr, xa_and7, xa_and1, xa_and255, xa_by_and, nI_m1, Nat.add_sub_cancel, Nat.reducePow, Nat.zero_add, Nat.add_zero, Nat.reduceAdd, Nat.reduceMul, Nat.reduceSub, xf_same, xq_ff, xq_fo, xf_1, xf_2, xs_1, xs_2, xs_same, xq_so, xj_1, xj_2, xj_same, xq_jo, xq_sa1, xq_same, xq_other, upd_s, oI_n, oI_s, xv_0, xv_1, xv_2, xv_3, xm_p1, xm_p2, xq_fp, xq_fn, List.filter_nil, Nat.reduceBEq, Bool.not_true, Bool.not_false, Bool.and_true, Bool.and_false, Bool.false_and, Bool.true_and, if_true, if_false, Bool.false_eq_true, reduceIte, xc_i, xc_j, xc_r, xc_n, List.nil_append, List.cons_append, Option.toList_some, Option.toList_none, nI_ltJ, nI_leJ, nI_eqJ, nI_ltz, nI_gez, nI_gtz, nI_lez, nI_eqz, m1_ltz, m1_gez, true_imp_iff, false_imp_iff, true_and, and_true, ne_eq, not_false_eq_true, not_true_eq_false, Nat.reduceEqDiff, Nat.reduceLT, Nat.reduceLeDiff, xf_40_3 F1]
    refine ⟨fun c => absurd c (by omega), fun c4 => ?_⟩
    with_reducible refine xm_go_blk b_X7_compress_11 k_X7_compress_11 ?_
    refine by_aload_n rfl ?_
    refine by_getf cn_117 fl_7_21 (by first | exact rfl | assumption) (by decide) ?_
    refine by_iload rfl ?_
    refine by_bipush cb_15 ?_
    refine by_isub ?_
    simp (disch := first | exact Nat.ne_of_beq_eq_false rfl | exact rfl | omega) only [nI_add, xa_sub, xa_mul, pk_div, nm_mod, xa_shr, xa_and7, xa_and1, xa_and255, xa_by_and, nI_m1, Nat.add_sub_cancel, Nat.reducePow, Nat.zero_add, Nat.add_zero, Nat.reduceAdd, Nat.reduceMul, Nat.reduceSub, xf_same, xq_ff, xq_fo, xf_1, xf_2, xs_1, xs_2, xs_same, xq_so, xj_1, xj_2, xj_same, xq_jo, xq_sa1, xq_same, xq_other, upd_s, oI_n, oI_s, xf_40_3 F1]
    first | refine by_iald (by first | exact rfl | assumption | exact ps_1 hpp | exact ps_2 hpp | exact ps_3 hpp | exact ps_4 hpp | exact ps_5 hpp | exact ps_6 hpp | exact ps_7 hpp | exact ps_8 hpp | exact ps_9 hpp | exact ps_10 hpp | exact ps_11 hpp | exact ps_15 hpp | exact ps_16 hpp | exact ps_17 hpp | exact ps_18 hpp | exact ps_19 hpp | exact ps_21 hpp | exact ps_22 hpp | exact ps_23 hpp | exact ps_24 hpp) ⟨by omega, by omega⟩ ?_ | refine by_tald rfl rfl ⟨by omega, by omega⟩ ?_
    refine by_istore (by rw [ml_117]; decide) ?_
    refine by_aload_n rfl ?_
    refine by_getf cn_117 fl_7_21 (by first | exact rfl | assumption) (by decide) ?_
    refine by_iload rfl ?_
    refine by_iconst ci_2 ?_
    refine by_isub ?_
    simp (disch := first | exact Nat.ne_of_beq_eq_false rfl | exact rfl | omega) only [nI_add, xa_sub, xa_mul, pk_div, nm_mod, xa_shr, xa_and7, xa_and1, xa_and255, xa_by_and, nI_m1, Nat.add_sub_cancel, Nat.reducePow, Nat.zero_add, Nat.add_zero, Nat.reduceAdd, Nat.reduceMul, Nat.reduceSub, xf_same, xq_ff, xq_fo, xf_1, xf_2, xs_1, xs_2, xs_same, xq_so, xj_1, xj_2, xj_same, xq_jo, xq_sa1, xq_same, xq_other, upd_s, oI_n, oI_s, xf_40_3 F1]
    first | refine by_iald (by first | exact rfl | assumption | exact ps_1 hpp | exact ps_2 hpp | exact ps_3 hpp | exact ps_4 hpp | exact ps_5 hpp | exact ps_6 hpp | exact ps_7 hpp | exact ps_8 hpp | exact ps_9 hpp | exact ps_10 hpp | exact ps_11 hpp | exact ps_15 hpp | exact ps_16 hpp | exact ps_17 hpp | exact ps_18 hpp | exact ps_19 hpp | exact ps_21 hpp | exact ps_22 hpp | exact ps_23 hpp | exact ps_24 hpp) ⟨by omega, by omega⟩ ?_ | refine by_tald rfl rfl ⟨by omega, by omega⟩ ?_
    refine by_istore (by rw [ml_117]; decide) ?_
    refine by_aload_n rfl ?_
    refine by_getf cn_117 fl_7_21 (by first | exact rfl | assumption) (by decide) ?_
    refine by_iload rfl ?_
    refine by_iload rfl ?_
    refine by_bipush cb_17 ?_
    simp (disch := first | exact Nat.ne_of_beq_eq_false rfl | exact rfl | omega) only [nI_add, xa_sub, xa_mul, pk_div, nm_mod, xa_shr, xa_and7, xa_and1, xa_and255, xa_by_and, nI_m1, Nat.add_sub_cancel, Nat.reducePow, Nat.zero_add, Nat.add_zero, Nat.reduceAdd, Nat.reduceMul, Nat.reduceSub, xf_same, xq_ff, xq_fo, xf_1, xf_2, xs_1, xs_2, xs_same, xq_so, xj_1, xj_2, xj_same, xq_jo, xq_sa1, xq_same, xq_other, upd_s, oI_n, oI_s, xv_0, xv_1, xv_2, xv_3, xm_p1, xm_p2, xq_fp, xq_fn, List.filter_nil, Nat.reduceBEq, Bool.not_true, Bool.not_false, Bool.and_true, Bool.and_false, Bool.false_and, Bool.true_and, if_true, if_false, Bool.false_eq_true, reduceIte, xc_i, xc_j, xc_r, xc_n, List.nil_append, List.cons_append, Option.toList_some, Option.toList_none, xf_40_3 F1]
    refine by_ins2 cn_117 lk_7_101 (by rw [xe_cnt]; decide) is_124 np_124 (Nat.le_of_ble_eq_true rfl) ?_
    refine sp_turn (by decide) ?_
    with_reducible refine xm_go_blk b_X7_compress_47 k_X7_compress_47 ?_
    refine by_iload rfl ?_
    refine by_bipush cb_19 ?_
    refine by_ins2 cn_117 lk_7_101 (by rw [xe_cnt]; decide) is_124 np_124 (Nat.le_of_ble_eq_true rfl) ?_
    refine sp_turn (by decide) ?_
    with_reducible refine xm_go_blk b_X7_compress_54 k_X7_compress_54 ?_
    refine by_ixor ?_
    refine by_iload rfl ?_
    refine by_bipush cb_10 ?_
    refine by_iushr ?_
    refine by_ixor ?_
    refine by_aload_n rfl ?_
    refine by_getf cn_117 fl_7_21 (by first | exact rfl | assumption) (by decide) ?_
    refine by_iload rfl ?_
    refine by_bipush cb_7 ?_
    refine by_isub ?_
    simp (disch := first | exact Nat.ne_of_beq_eq_false rfl | exact rfl | omega) only [nI_add, xa_sub, xa_mul, pk_div, nm_mod, xa_shr, xa_and7, xa_and1, xa_and255, xa_by_and, nI_m1, Nat.add_sub_cancel, Nat.reducePow, Nat.zero_add, Nat.add_zero, Nat.reduceAdd, Nat.reduceMul, Nat.reduceSub, xf_same, xq_ff, xq_fo, xf_1, xf_2, xs_1, xs_2, xs_same, xq_so, xj_1, xj_2, xj_same, xq_jo, xq_sa1, xq_same, xq_other, upd_s, oI_n, oI_s, xf_40_3 F1]
    first | refine by_iald (by first | exact rfl | assumption | exact ps_1 hpp | exact ps_2 hpp | exact ps_3 hpp | exact ps_4 hpp | exact ps_5 hpp | exact ps_6 hpp | exact ps_7 hpp | exact ps_8 hpp | exact ps_9 hpp | exact ps_10 hpp | exact ps_11 hpp | exact ps_15 hpp | exact ps_16 hpp | exact ps_17 hpp | exact ps_18 hpp | exact ps_19 hpp | exact ps_21 hpp | exact ps_22 hpp | exact ps_23 hpp | exact ps_24 hpp) ⟨by omega, by omega⟩ ?_ | refine by_tald rfl rfl ⟨by omega, by omega⟩ ?_
    refine by_iadd ?_
    refine by_iload rfl ?_
    refine by_bipush cb_7 ?_
    simp (disch := first | exact Nat.ne_of_beq_eq_false rfl | exact rfl | omega) only [nI_add, xa_sub, xa_mul, pk_div, nm_mod, xa_shr, xa_and7, xa_and1, xa_and255, xa_by_and, nI_m1, Nat.add_sub_cancel, Nat.reducePow, Nat.zero_add, Nat.add_zero, Nat.reduceAdd, Nat.reduceMul, Nat.reduceSub, xf_same, xq_ff, xq_fo, xf_1, xf_2, xs_1, xs_2, xs_same, xq_so, xj_1, xj_2, xj_same, xq_jo, xq_sa1, xq_same, xq_other, upd_s, oI_n, oI_s, xv_0, xv_1, xv_2, xv_3, xm_p1, xm_p2, xq_fp, xq_fn, List.filter_nil, Nat.reduceBEq, Bool.not_true, Bool.not_false, Bool.and_true, Bool.and_false, Bool.false_and, Bool.true_and, if_true, if_false, Bool.false_eq_true, reduceIte, xc_i, xc_j, xc_r, xc_n, List.nil_append, List.cons_append, Option.toList_some, Option.toList_none, xf_40_3 F1]
    refine by_ins2 cn_117 lk_7_101 (by rw [xe_cnt]; decide) is_124 np_124 (Nat.le_of_ble_eq_true rfl) ?_
    refine sp_turn (by decide) ?_
    with_reducible refine xm_go_blk b_X7_compress_79 k_X7_compress_79 ?_
    refine by_iload rfl ?_
    refine by_bipush cb_18 ?_
    refine by_ins2 cn_117 lk_7_101 (by rw [xe_cnt]; decide) is_124 np_124 (Nat.le_of_ble_eq_true rfl) ?_
    refine sp_turn (by decide) ?_
    with_reducible refine xm_go_blk b_X7_compress_86 k_X7_compress_86 ?_
    refine by_ixor ?_
    refine by_iload rfl ?_
    refine by_iconst ci_3 ?_
    refine by_iushr ?_
    refine by_ixor ?_
    refine by_iadd ?_
    refine by_aload_n rfl ?_
    refine by_getf cn_117 fl_7_21 (by first | exact rfl | assumption) (by decide) ?_
    refine by_iload rfl ?_
    refine by_bipush cb_16 ?_
    refine by_isub ?_
    simp (disch := first | exact Nat.ne_of_beq_eq_false rfl | exact rfl | omega) only [nI_add, xa_sub, xa_mul, pk_div, nm_mod, xa_shr, xa_and7, xa_and1, xa_and255, xa_by_and, nI_m1, Nat.add_sub_cancel, Nat.reducePow, Nat.zero_add, Nat.add_zero, Nat.reduceAdd, Nat.reduceMul, Nat.reduceSub, xf_same, xq_ff, xq_fo, xf_1, xf_2, xs_1, xs_2, xs_same, xq_so, xj_1, xj_2, xj_same, xq_jo, xq_sa1, xq_same, xq_other, upd_s, oI_n, oI_s, xf_40_3 F1]
    first | refine by_iald (by first | exact rfl | assumption | exact ps_1 hpp | exact ps_2 hpp | exact ps_3 hpp | exact ps_4 hpp | exact ps_5 hpp | exact ps_6 hpp | exact ps_7 hpp | exact ps_8 hpp | exact ps_9 hpp | exact ps_10 hpp | exact ps_11 hpp | exact ps_15 hpp | exact ps_16 hpp | exact ps_17 hpp | exact ps_18 hpp | exact ps_19 hpp | exact ps_21 hpp | exact ps_22 hpp | exact ps_23 hpp | exact ps_24 hpp) ⟨by omega, by omega⟩ ?_ | refine by_tald rfl rfl ⟨by omega, by omega⟩ ?_
    refine by_iadd ?_
    refine by_iast (by first | exact rfl | assumption | exact ps_1 hpp | exact ps_2 hpp | exact ps_3 hpp | exact ps_4 hpp | exact ps_5 hpp | exact ps_6 hpp | exact ps_7 hpp | exact ps_8 hpp | exact ps_9 hpp | exact ps_10 hpp | exact ps_11 hpp | exact ps_15 hpp | exact ps_16 hpp | exact ps_17 hpp | exact ps_18 hpp | exact ps_19 hpp | exact ps_21 hpp | exact ps_22 hpp | exact ps_23 hpp | exact ps_24 hpp) ⟨by omega, by omega⟩ ?_
    refine by_iinc (by rw [ml_117]; decide) rfl ci_1 ?_
    refine by_goto 4 rfl ?_
    simp (disch := first | exact Nat.ne_of_beq_eq_false rfl | exact rfl | omega) only [nI_add, xa_sub, xa_mul, pk_div, nm_mod, xa_shr, xa_and7, xa_and1, xa_and255, xa_by_and, nI_m1, Nat.add_sub_cancel, Nat.reducePow, Nat.zero_add, Nat.add_zero, Nat.reduceAdd, Nat.reduceMul, Nat.reduceSub, xf_same, xq_ff, xq_fo, xf_1, xf_2, xs_1, xs_2, xs_same, xq_so, xj_1, xj_2, xj_same, xq_jo, xq_sa1, xq_same, xq_other, upd_s, oI_n, oI_s, xv_0, xv_1, xv_2, xv_3, xm_p1, xm_p2, xq_fp, xq_fn, List.filter_nil, Nat.reduceBEq, Bool.not_true, Bool.not_false, Bool.and_true, Bool.and_false, Bool.false_and, Bool.true_and, if_true, if_false, Bool.false_eq_true, reduceIte, xc_i, xc_j, xc_r, xc_n, List.nil_append, List.cons_append, Option.toList_some, Option.toList_none, xf_40_3 F1]
    rw [show 16 + (i + 1) = t + 1 by omega] at hg
    exact xm_go_wk (by simp [Value.category]) hg
def cpR (A B q f : Nat) (L : Nat → Int32) : xm_L := [(0, .ref 40), (1, .ref A), (3, .ref B), (4, .int (nI q)), (5, .int (nI f)), (6, .int (L 0)), (7, .int (L 1)), (8, .int (L 2)), (9, .int (L 3)), (10, .int (L 4)), (11, .int (L 5)), (12, .int (L 6)), (13, .int (L 7))]
theorem cp_184 {A B q f : Nat} {w st : Nat → Int32} (hF : XF h) (hw : h.1 44 = w) (hgo : xm_go (XE sc) (xm_T (XE sc) (d + 1)) 117 post 334 (cpR A B q f (shR xt_X7_K w st 64)) [] h) :
    ∀ (j i : Nat), i + j = 64 → xm_go (XE sc) (xm_T (XE sc) (d + 1)) 117 post 184 ((14, .int (nI i)) :: cpR A B q f (shR xt_X7_K w st i)) [] h := by
  intro j
  induction j with
  | zero =>
    intro i hi
    have : i = 64 := by omega
    subst this
    unfold cpR at *
    with_reducible refine xm_go_blk b_X7_compress_184 k_X7_compress_184 ?_
    refine by_iload rfl ?_
    refine by_bipush cb_64 ?_
    refine by_ic_ge 334 rfl ?_
    simp (disch := first | exact Nat.ne_of_beq_eq_false rfl | exact rfl | omega) only [nI_add, xa_sub, xa_mul, pk_div, nm_mod, xa_shr, xa_and7, xa_and1, xa_and255, xa_by_and, nI_m1, Nat.add_sub_cancel, Nat.reducePow, Nat.zero_add, Nat.add_zero, Nat.reduceAdd, Nat.reduceMul, Nat.reduceSub, xf_same, xq_ff, xq_fo, xf_1, xf_2, xs_1, xs_2, xs_same, xq_so, xj_1, xj_2, xj_same, xq_jo, xq_sa1, xq_same, xq_other, upd_s, oI_n, oI_s, xv_0, xv_1, xv_2, xv_3, xm_p1, xm_p2, xq_fp, xq_fn, List.filter_nil, Nat.reduceBEq, Bool.not_true, Bool.not_false, Bool.and_true, Bool.and_false, Bool.false_and, Bool.true_and, if_true, if_false, Bool.false_eq_true, reduceIte, xc_i, xc_j, xc_r, xc_n, List.nil_append, List.cons_append, Option.toList_some, Option.toList_none, nI_ltJ, nI_leJ, nI_eqJ, nI_ltz, nI_gez, nI_gtz, nI_lez, nI_eqz, m1_ltz, m1_gez, true_imp_iff, false_imp_iff, true_and, and_true, ne_eq, not_false_eq_true, not_true_eq_false, Nat.reduceEqDiff, Nat.reduceLT, Nat.reduceLeDiff]
    exact xm_go_wk (by simp [Value.category]) hgo
  | succ j ih =>
    intro i hi
    have hg := ih (i + 1) (by omega)
    have e : shR xt_X7_K w st (i + 1) = shN (shR xt_X7_K w st i) (xt_X7_K i) (w i) := rfl
    rw [e] at hg
    generalize shR xt_X7_K w st i = L at *
    have wi : h.1 44 i = w i := by rw [hw]
    unfold cpR at hg ⊢
    simp only [shN, if_true, if_false, Nat.reduceEqDiff, Nat.reduceSub] at hg
    unfold sh1 sh2 at hg
    with_reducible refine xm_go_blk b_X7_compress_184 k_X7_compress_184 ?_
    refine by_iload rfl ?_
    refine by_bipush cb_64 ?_
    refine by_ic_ge 334 rfl ?_
    simp (disch := first | exact Nat.ne_of_beq_eq_false rfl | exact rfl | omega) only [nI_add, xa_sub, xa_mul, pk_div, nm_mod, xa_shr, xa_and7, xa_and1, xa_and255, xa_by_and, nI_m1, Nat.add_sub_cancel, Nat.reducePow, Nat.zero_add, Nat.add_zero, Nat.reduceAdd, Nat.reduceMul, Nat.reduceSub, xf_same, xq_ff, xq_fo, xf_1, xf_2, xs_1, xs_2, xs_same, xq_so, xj_1, xj_2, xj_same, xq_jo, xq_sa1, xq_same, xq_other, upd_s, oI_n, oI_s, xv_0, xv_1, xv_2, xv_3, xm_p1, xm_p2, xq_fp, xq_fn, List.filter_nil, Nat.reduceBEq, Bool.not_true, Bool.not_false, Bool.and_true, Bool.and_false, Bool.false_and, Bool.true_and, if_true, if_false, Bool.false_eq_true, reduceIte, xc_i, xc_j, xc_r, xc_n, List.nil_append, List.cons_append, Option.toList_some, Option.toList_none, nI_ltJ, nI_leJ, nI_eqJ, nI_ltz, nI_gez, nI_gtz, nI_lez, nI_eqz, m1_ltz, m1_gez, true_imp_iff, false_imp_iff, true_and, and_true, ne_eq, not_false_eq_true, not_true_eq_false, Nat.reduceEqDiff, Nat.reduceLT, Nat.reduceLeDiff]
    refine ⟨fun c => absurd c (by omega), fun c184 => ?_⟩
    with_reducible refine xm_go_blk b_X7_compress_191 k_X7_compress_191 ?_
    refine by_iload rfl ?_
    refine by_iload rfl ?_
    refine by_bipush cb_6 ?_
    refine by_ins2 cn_117 lk_7_101 (by rw [xe_cnt]; decide) is_124 np_124 (Nat.le_of_ble_eq_true rfl) ?_
    refine sp_turn (by decide) ?_
    with_reducible refine xm_go_blk b_X7_compress_200 k_X7_compress_200 ?_
    refine by_iload rfl ?_
    refine by_bipush cb_11 ?_
    refine by_ins2 cn_117 lk_7_101 (by rw [xe_cnt]; decide) is_124 np_124 (Nat.le_of_ble_eq_true rfl) ?_
    refine sp_turn (by decide) ?_
    with_reducible refine xm_go_blk b_X7_compress_207 k_X7_compress_207 ?_
    refine by_ixor ?_
    refine by_iload rfl ?_
    refine by_bipush cb_25 ?_
    simp (disch := first | exact Nat.ne_of_beq_eq_false rfl | exact rfl | omega) only [nI_add, xa_sub, xa_mul, pk_div, nm_mod, xa_shr, xa_and7, xa_and1, xa_and255, xa_by_and, nI_m1, Nat.add_sub_cancel, Nat.reducePow, Nat.zero_add, Nat.add_zero, Nat.reduceAdd, Nat.reduceMul, Nat.reduceSub, xf_same, xq_ff, xq_fo, xf_1, xf_2, xs_1, xs_2, xs_same, xq_so, xj_1, xj_2, xj_same, xq_jo, xq_sa1, xq_same, xq_other, upd_s, oI_n, oI_s, xv_0, xv_1, xv_2, xv_3, xm_p1, xm_p2, xq_fp, xq_fn, List.filter_nil, Nat.reduceBEq, Bool.not_true, Bool.not_false, Bool.and_true, Bool.and_false, Bool.false_and, Bool.true_and, if_true, if_false, Bool.false_eq_true, reduceIte, xc_i, xc_j, xc_r, xc_n, List.nil_append, List.cons_append, Option.toList_some, Option.toList_none]
    refine by_ins2 cn_117 lk_7_101 (by rw [xe_cnt]; decide) is_124 np_124 (Nat.le_of_ble_eq_true rfl) ?_
    refine sp_turn (by decide) ?_
    with_reducible refine xm_go_blk b_X7_compress_215 k_X7_compress_215 ?_
    refine by_ixor ?_
    refine by_iadd ?_
    refine by_iload rfl ?_
    refine by_iload rfl ?_
    refine by_iand ?_
    refine by_iload rfl ?_
    refine by_iconst ci_m1 ?_
    refine by_ixor ?_
    refine by_iload rfl ?_
    refine by_iand ?_
    refine by_ixor ?_
    refine by_iadd ?_
    refine by_gets cn_117 gs_7_105 ?_
    refine by_iload rfl ?_
    first | refine by_iald (by first | exact rfl | assumption | exact ps_1 hpp | exact ps_2 hpp | exact ps_3 hpp | exact ps_4 hpp | exact ps_5 hpp | exact ps_6 hpp | exact ps_7 hpp | exact ps_8 hpp | exact ps_9 hpp | exact ps_10 hpp | exact ps_11 hpp | exact ps_15 hpp | exact ps_16 hpp | exact ps_17 hpp | exact ps_18 hpp | exact ps_19 hpp | exact ps_21 hpp | exact ps_22 hpp | exact ps_23 hpp | exact ps_24 hpp) ⟨by omega, by omega⟩ ?_ | refine by_tald rfl rfl ⟨by omega, by omega⟩ ?_
    refine by_iadd ?_
    refine by_aload_n rfl ?_
    refine by_getf cn_117 fl_7_21 (by first | exact rfl | assumption) (by decide) ?_
    refine by_iload rfl ?_
    simp (disch := first | exact Nat.ne_of_beq_eq_false rfl | exact rfl | omega) only [nI_add, xa_sub, xa_mul, pk_div, nm_mod, xa_shr, xa_and7, xa_and1, xa_and255, xa_by_and, nI_m1, Nat.add_sub_cancel, Nat.reducePow, Nat.zero_add, Nat.add_zero, Nat.reduceAdd, Nat.reduceMul, Nat.reduceSub, xf_same, xq_ff, xq_fo, xf_1, xf_2, xs_1, xs_2, xs_same, xq_so, xj_1, xj_2, xj_same, xq_jo, xq_sa1, xq_same, xq_other, upd_s, oI_n, oI_s, xf_40_3 hF, wi]
    first | refine by_iald (by first | exact rfl | assumption | exact ps_1 hpp | exact ps_2 hpp | exact ps_3 hpp | exact ps_4 hpp | exact ps_5 hpp | exact ps_6 hpp | exact ps_7 hpp | exact ps_8 hpp | exact ps_9 hpp | exact ps_10 hpp | exact ps_11 hpp | exact ps_15 hpp | exact ps_16 hpp | exact ps_17 hpp | exact ps_18 hpp | exact ps_19 hpp | exact ps_21 hpp | exact ps_22 hpp | exact ps_23 hpp | exact ps_24 hpp) ⟨by omega, by omega⟩ ?_ | refine by_tald rfl rfl ⟨by omega, by omega⟩ ?_
    refine by_iadd ?_
    refine by_istore (by rw [ml_117]; decide) ?_
    refine by_iload rfl ?_
    refine by_iconst ci_2 ?_
    simp (disch := first | exact Nat.ne_of_beq_eq_false rfl | exact rfl | omega) only [nI_add, xa_sub, xa_mul, pk_div, nm_mod, xa_shr, xa_and7, xa_and1, xa_and255, xa_by_and, nI_m1, Nat.add_sub_cancel, Nat.reducePow, Nat.zero_add, Nat.add_zero, Nat.reduceAdd, Nat.reduceMul, Nat.reduceSub, xf_same, xq_ff, xq_fo, xf_1, xf_2, xs_1, xs_2, xs_same, xq_so, xj_1, xj_2, xj_same, xq_jo, xq_sa1, xq_same, xq_other, upd_s, oI_n, oI_s, xv_0, xv_1, xv_2, xv_3, xm_p1, xm_p2, xq_fp, xq_fn, List.filter_nil, Nat.reduceBEq, Bool.not_true, Bool.not_false, Bool.and_true, Bool.and_false, Bool.false_and, Bool.true_and, if_true, if_false, Bool.false_eq_true, reduceIte, xc_i, xc_j, xc_r, xc_n, List.nil_append, List.cons_append, Option.toList_some, Option.toList_none, xf_40_3 hF, wi]
    refine by_ins2 cn_117 lk_7_101 (by rw [xe_cnt]; decide) is_124 np_124 (Nat.le_of_ble_eq_true rfl) ?_
    refine sp_turn (by decide) ?_
    with_reducible refine xm_go_blk b_X7_compress_254 k_X7_compress_254 ?_
    refine by_iload rfl ?_
    refine by_bipush cb_13 ?_
    refine by_ins2 cn_117 lk_7_101 (by rw [xe_cnt]; decide) is_124 np_124 (Nat.le_of_ble_eq_true rfl) ?_
    refine sp_turn (by decide) ?_
    with_reducible refine xm_go_blk b_X7_compress_261 k_X7_compress_261 ?_
    refine by_ixor ?_
    refine by_iload rfl ?_
    refine by_bipush cb_22 ?_
    simp (disch := first | exact Nat.ne_of_beq_eq_false rfl | exact rfl | omega) only [nI_add, xa_sub, xa_mul, pk_div, nm_mod, xa_shr, xa_and7, xa_and1, xa_and255, xa_by_and, nI_m1, Nat.add_sub_cancel, Nat.reducePow, Nat.zero_add, Nat.add_zero, Nat.reduceAdd, Nat.reduceMul, Nat.reduceSub, xf_same, xq_ff, xq_fo, xf_1, xf_2, xs_1, xs_2, xs_same, xq_so, xj_1, xj_2, xj_same, xq_jo, xq_sa1, xq_same, xq_other, upd_s, oI_n, oI_s, xv_0, xv_1, xv_2, xv_3, xm_p1, xm_p2, xq_fp, xq_fn, List.filter_nil, Nat.reduceBEq, Bool.not_true, Bool.not_false, Bool.and_true, Bool.and_false, Bool.false_and, Bool.true_and, if_true, if_false, Bool.false_eq_true, reduceIte, xc_i, xc_j, xc_r, xc_n, List.nil_append, List.cons_append, Option.toList_some, Option.toList_none]
    refine by_ins2 cn_117 lk_7_101 (by rw [xe_cnt]; decide) is_124 np_124 (Nat.le_of_ble_eq_true rfl) ?_
    refine sp_turn (by decide) ?_
    with_reducible refine xm_go_blk b_X7_compress_269 k_X7_compress_269 ?_
    refine by_ixor ?_
    refine by_iload rfl ?_
    refine by_iload rfl ?_
    refine by_iand ?_
    refine by_iload rfl ?_
    refine by_iload rfl ?_
    refine by_iand ?_
    refine by_ixor ?_
    refine by_iload rfl ?_
    refine by_iload rfl ?_
    refine by_iand ?_
    refine by_ixor ?_
    refine by_iadd ?_
    refine by_istore (by rw [ml_117]; decide) ?_
    refine by_iload rfl ?_
    refine by_istore (by rw [ml_117]; decide) ?_
    refine by_iload rfl ?_
    refine by_istore (by rw [ml_117]; decide) ?_
    refine by_iload rfl ?_
    refine by_istore (by rw [ml_117]; decide) ?_
    refine by_iload rfl ?_
    refine by_iload rfl ?_
    refine by_iadd ?_
    refine by_istore (by rw [ml_117]; decide) ?_
    refine by_iload rfl ?_
    refine by_istore (by rw [ml_117]; decide) ?_
    refine by_iload rfl ?_
    refine by_istore (by rw [ml_117]; decide) ?_
    refine by_iload rfl ?_
    refine by_istore (by rw [ml_117]; decide) ?_
    refine by_iload rfl ?_
    refine by_iload rfl ?_
    refine by_iadd ?_
    refine by_istore (by rw [ml_117]; decide) ?_
    refine by_iinc (by rw [ml_117]; decide) rfl ci_1 ?_
    refine by_goto 184 rfl ?_
    simp (disch := first | exact Nat.ne_of_beq_eq_false rfl | exact rfl | omega) only [nI_add, xa_sub, xa_mul, pk_div, nm_mod, xa_shr, xa_and7, xa_and1, xa_and255, xa_by_and, nI_m1, Nat.add_sub_cancel, Nat.reducePow, Nat.zero_add, Nat.add_zero, Nat.reduceAdd, Nat.reduceMul, Nat.reduceSub, xf_same, xq_ff, xq_fo, xf_1, xf_2, xs_1, xs_2, xs_same, xq_so, xj_1, xj_2, xj_same, xq_jo, xq_sa1, xq_same, xq_other, upd_s, oI_n, oI_s, xv_0, xv_1, xv_2, xv_3, xm_p1, xm_p2, xq_fp, xq_fn, List.filter_nil, Nat.reduceBEq, Bool.not_true, Bool.not_false, Bool.and_true, Bool.and_false, Bool.false_and, Bool.true_and, if_true, if_false, Bool.false_eq_true, reduceIte, xc_i, xc_j, xc_r, xc_n, List.nil_append, List.cons_append, Option.toList_some, Option.toList_none]
    exact xm_go_wk (by simp [Value.category]) hg
end SH
