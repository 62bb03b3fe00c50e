/-! ===== the reference: bound, whole ===== -/
section MB
variable {sc : xm_Sc} {d n : Nat} {ps : List pr_D} {S T : Nat → Ty} {C F G : Nat → Nat} {h : xm_H} {post : xm_Po}
def mbE (n c ca fa g : Nat) : xm_L := [(0, .ref 102), (1, .int (nI n)), (2, .int (nI c)), (5, .long (lN ca)), (7, .long (lN fa)), (13, .long (lN g))]
theorem mb_293 {c ca fa g : Nat} (hF : XF h) (hn : n < 400) (b1 : ca < 2 ^ 61) (b2 : fa < 2 ^ 61) (b3 : g < 2 ^ 61) (hp : post none (xm_sl (xm_sl (xm_sl h 125 n (lN (min 2147483647 ca))) 126 n (lN (min 2147483647 fa))) 127 n (lN (min 2147483647 g)))) : xm_go (XE sc) (xm_T (XE sc) (d + 1)) 211 post 293 (mbE n c ca fa g) [] h := by
  unfold mbE
  with_reducible refine xm_go_blk b_X12_bound_293 k_X12_bound_293 ?_
  refine by_aload_n rfl ?_
  refine by_getf cn_211 fl_12_78 (by first | exact rfl | assumption) (by decide) ?_
  refine by_iload_n rfl ?_
  refine by_lload rfl ?_
  simp (disch := first | exact Nat.ne_of_beq_eq_false rfl | exact rfl | omega) only [nI_add, xa_sub, xa_mul, pk_div, nm_mod, xa_shr, xa_and7, xa_and1, xa_and255, xa_by_and, nI_m1, Nat.add_sub_cancel, Nat.reducePow, Nat.zero_add, Nat.add_zero, Nat.reduceAdd, Nat.reduceMul, Nat.reduceSub, xf_same, xq_ff, xq_fo, xf_1, xf_2, xs_1, xs_2, xs_same, xq_so, xj_1, xj_2, xj_same, xq_jo, xq_sa1, xq_same, xq_other, upd_s, oI_n, oI_s, xv_0, xv_1, xv_2, xv_3, xm_p1, xm_p2, xq_fp, xq_fn, List.filter_nil, Nat.reduceBEq, Bool.not_true, Bool.not_false, Bool.and_true, Bool.and_false, Bool.false_and, Bool.true_and, if_true, if_false, Bool.false_eq_true, reduceIte, xc_i, xc_j, xc_r, xc_n, List.nil_append, List.cons_append, Option.toList_some, Option.toList_none, xf_102_28 hF]
  refine by_ins1 cn_211 lk_12_406 (by rw [xe_cnt]; decide) is_202 np_202 (Nat.le_of_ble_eq_true rfl) ?_
  refine sp_atMost (by omega) ?_
  with_reducible refine xm_go_blk b_X12_bound_303 k_X12_bound_303 ?_
  refine by_last (by first | exact rfl | assumption) ⟨by omega, by omega⟩ ?_
  refine by_aload_n rfl ?_
  refine by_getf cn_211 fl_12_82 (by first | exact rfl | assumption) (by decide) ?_
  refine by_iload_n rfl ?_
  refine by_lload rfl ?_
  simp (disch := first | exact Nat.ne_of_beq_eq_false rfl | exact rfl | omega) only [nI_add, xa_sub, xa_mul, pk_div, nm_mod, xa_shr, xa_and7, xa_and1, xa_and255, xa_by_and, nI_m1, Nat.add_sub_cancel, Nat.reducePow, Nat.zero_add, Nat.add_zero, Nat.reduceAdd, Nat.reduceMul, Nat.reduceSub, xf_same, xq_ff, xq_fo, xf_1, xf_2, xs_1, xs_2, xs_same, xq_so, xj_1, xj_2, xj_same, xq_jo, xq_sa1, xq_same, xq_other, upd_s, oI_n, oI_s, xv_0, xv_1, xv_2, xv_3, xm_p1, xm_p2, xq_fp, xq_fn, List.filter_nil, Nat.reduceBEq, Bool.not_true, Bool.not_false, Bool.and_true, Bool.and_false, Bool.false_and, Bool.true_and, if_true, if_false, Bool.false_eq_true, reduceIte, xc_i, xc_j, xc_r, xc_n, List.nil_append, List.cons_append, Option.toList_some, Option.toList_none, xf_102_29 hF]
  refine by_ins1 cn_211 lk_12_406 (by rw [xe_cnt]; decide) is_202 np_202 (Nat.le_of_ble_eq_true rfl) ?_
  refine sp_atMost (by omega) ?_
  with_reducible refine xm_go_blk b_X12_bound_314 k_X12_bound_314 ?_
  refine by_last (by first | exact rfl | assumption) ⟨by omega, by omega⟩ ?_
  refine by_aload_n rfl ?_
  refine by_getf cn_211 fl_12_85 (by first | exact rfl | assumption) (by decide) ?_
  refine by_iload_n rfl ?_
  refine by_lload rfl ?_
  simp (disch := first | exact Nat.ne_of_beq_eq_false rfl | exact rfl | omega) only [nI_add, xa_sub, xa_mul, pk_div, nm_mod, xa_shr, xa_and7, xa_and1, xa_and255, xa_by_and, nI_m1, Nat.add_sub_cancel, Nat.reducePow, Nat.zero_add, Nat.add_zero, Nat.reduceAdd, Nat.reduceMul, Nat.reduceSub, xf_same, xq_ff, xq_fo, xf_1, xf_2, xs_1, xs_2, xs_same, xq_so, xj_1, xj_2, xj_same, xq_jo, xq_sa1, xq_same, xq_other, upd_s, oI_n, oI_s, xv_0, xv_1, xv_2, xv_3, xm_p1, xm_p2, xq_fp, xq_fn, List.filter_nil, Nat.reduceBEq, Bool.not_true, Bool.not_false, Bool.and_true, Bool.and_false, Bool.false_and, Bool.true_and, if_true, if_false, Bool.false_eq_true, reduceIte, xc_i, xc_j, xc_r, xc_n, List.nil_append, List.cons_append, Option.toList_some, Option.toList_none, xf_102_30 hF]
  refine by_ins1 cn_211 lk_12_406 (by rw [xe_cnt]; decide) is_202 np_202 (Nat.le_of_ble_eq_true rfl) ?_
  refine sp_atMost (by omega) ?_
  with_reducible refine xm_go_blk b_X12_bound_325 k_X12_bound_325 ?_
  refine by_last (by first | exact rfl | assumption) ⟨by omega, by omega⟩ ?_
  refine by_ret ry_211 ?_
  exact hp
/-- what the node itself needs -/
theorem mb_227 {ca fa g : Nat} (hF : XF h) (hK : kbP h ps S T n) (b3 : g < 2 ^ 60) (hgo : ∀ g', (pC ps n = 11 → g' = 0) → (pC ps n ≠ 11 → g' = g + ownS ps S T n) → xm_go (XE sc) (xm_T (XE sc) (d + 1)) 211 post 293 (mbE n (pC ps n) ca fa g') [] h) : xm_go (XE sc) (xm_T (XE sc) (d + 1)) 211 post 227 (mbE n (pC ps n) ca fa g) [] h := by
  have hK0 := hK
  obtain ⟨k0, k1, k2, k3⟩ := hK0
  have h12 : pC ps n ≤ 12 := (k0 n k2).1
  unfold mbE at hgo ⊢
  by_cases q11 : pC ps n = 11
  · have hg := hgo 0 (fun _ => rfl) (fun z => absurd q11 z)
    have e1 : (pC ps n = 11) = True := eq_true q11
    have e2 : (pC ps n = 7) = False := eq_false (by omega)
    have e3 : (pC ps n = 10) = False := eq_false (by omega)
    have e4 : (pC ps n = 12) = False := eq_false (by omega)
    with_reducible refine xm_go_blk b_X12_bound_227 k_X12_bound_227 ?_
    refine by_iload_n rfl ?_
    refine by_bipush cb_11 ?_
    refine by_ic_ne 236 rfl ?_
    simp (disch := first | exact Nat.ne_of_beq_eq_false rfl | exact rfl | omega) only [nI_add, xa_sub, xa_mul, pk_div, nm_mod, xa_shr, xa_and7, xa_and1, xa_and255, xa_by_and, nI_m1, Nat.add_sub_cancel, Nat.reducePow, Nat.zero_add, Nat.add_zero, Nat.reduceAdd, Nat.reduceMul, Nat.reduceSub, xf_same, xq_ff, xq_fo, xf_1, xf_2, xs_1, xs_2, xs_same, xq_so, xj_1, xj_2, xj_same, xq_jo, xq_sa1, xq_same, xq_other, upd_s, oI_n, oI_s, xv_0, xv_1, xv_2, xv_3, xm_p1, xm_p2, xq_fp, xq_fn, List.filter_nil, Nat.reduceBEq, Bool.not_true, Bool.not_false, Bool.and_true, Bool.and_false, Bool.false_and, Bool.true_and, if_true, if_false, Bool.false_eq_true, reduceIte, xc_i, xc_j, xc_r, xc_n, List.nil_append, List.cons_append, Option.toList_some, Option.toList_none, nI_ltJ, nI_leJ, nI_eqJ, nI_ltz, nI_gez, nI_gtz, nI_lez, nI_eqz, m1_ltz, m1_gez, true_imp_iff, false_imp_iff, true_and, and_true, ne_eq, not_false_eq_true, not_true_eq_false, Nat.reduceEqDiff, Nat.reduceLT, Nat.reduceLeDiff, e1, e2, e3, e4]
    with_reducible refine xm_go_blk b_X12_bound_233 k_X12_bound_233 ?_
    refine by_lconst cl_0 ?_
    refine by_lstore (by rw [ml_211]; decide) ?_
    refine by_nil ?_
    simp (disch := first | exact Nat.ne_of_beq_eq_false rfl | exact rfl | omega) only [nI_add, xa_sub, xa_mul, pk_div, nm_mod, xa_shr, xa_and7, xa_and1, xa_and255, xa_by_and, nI_m1, Nat.add_sub_cancel, Nat.reducePow, Nat.zero_add, Nat.add_zero, Nat.reduceAdd, Nat.reduceMul, Nat.reduceSub, xf_same, xq_ff, xq_fo, xf_1, xf_2, xs_1, xs_2, xs_same, xq_so, xj_1, xj_2, xj_same, xq_jo, xq_sa1, xq_same, xq_other, upd_s, oI_n, oI_s, xv_0, xv_1, xv_2, xv_3, xm_p1, xm_p2, xq_fp, xq_fn, List.filter_nil, Nat.reduceBEq, Bool.not_true, Bool.not_false, Bool.and_true, Bool.and_false, Bool.false_and, Bool.true_and, if_true, if_false, Bool.false_eq_true, reduceIte, xc_i, xc_j, xc_r, xc_n, List.nil_append, List.cons_append, Option.toList_some, Option.toList_none, e1, e2, e3, e4]
    with_reducible refine xm_go_blk b_X12_bound_236 k_X12_bound_236 ?_
    refine by_iload_n rfl ?_
    refine by_bipush cb_7 ?_
    refine by_ic_ne 253 rfl ?_
    simp (disch := first | exact Nat.ne_of_beq_eq_false rfl | exact rfl | omega) only [nI_add, xa_sub, xa_mul, pk_div, nm_mod, xa_shr, xa_and7, xa_and1, xa_and255, xa_by_and, nI_m1, Nat.add_sub_cancel, Nat.reducePow, Nat.zero_add, Nat.add_zero, Nat.reduceAdd, Nat.reduceMul, Nat.reduceSub, xf_same, xq_ff, xq_fo, xf_1, xf_2, xs_1, xs_2, xs_same, xq_so, xj_1, xj_2, xj_same, xq_jo, xq_sa1, xq_same, xq_other, upd_s, oI_n, oI_s, xv_0, xv_1, xv_2, xv_3, xm_p1, xm_p2, xq_fp, xq_fn, List.filter_nil, Nat.reduceBEq, Bool.not_true, Bool.not_false, Bool.and_true, Bool.and_false, Bool.false_and, Bool.true_and, if_true, if_false, Bool.false_eq_true, reduceIte, xc_i, xc_j, xc_r, xc_n, List.nil_append, List.cons_append, Option.toList_some, Option.toList_none, nI_ltJ, nI_leJ, nI_eqJ, nI_ltz, nI_gez, nI_gtz, nI_lez, nI_eqz, m1_ltz, m1_gez, true_imp_iff, false_imp_iff, true_and, and_true, ne_eq, not_false_eq_true, not_true_eq_false, Nat.reduceEqDiff, Nat.reduceLT, Nat.reduceLeDiff, e1, e2, e3, e4]
    with_reducible refine xm_go_blk b_X12_bound_253 k_X12_bound_253 ?_
    refine by_iload_n rfl ?_
    refine by_bipush cb_10 ?_
    refine by_ic_ne 270 rfl ?_
    simp (disch := first | exact Nat.ne_of_beq_eq_false rfl | exact rfl | omega) only [nI_add, xa_sub, xa_mul, pk_div, nm_mod, xa_shr, xa_and7, xa_and1, xa_and255, xa_by_and, nI_m1, Nat.add_sub_cancel, Nat.reducePow, Nat.zero_add, Nat.add_zero, Nat.reduceAdd, Nat.reduceMul, Nat.reduceSub, xf_same, xq_ff, xq_fo, xf_1, xf_2, xs_1, xs_2, xs_same, xq_so, xj_1, xj_2, xj_same, xq_jo, xq_sa1, xq_same, xq_other, upd_s, oI_n, oI_s, xv_0, xv_1, xv_2, xv_3, xm_p1, xm_p2, xq_fp, xq_fn, List.filter_nil, Nat.reduceBEq, Bool.not_true, Bool.not_false, Bool.and_true, Bool.and_false, Bool.false_and, Bool.true_and, if_true, if_false, Bool.false_eq_true, reduceIte, xc_i, xc_j, xc_r, xc_n, List.nil_append, List.cons_append, Option.toList_some, Option.toList_none, nI_ltJ, nI_leJ, nI_eqJ, nI_ltz, nI_gez, nI_gtz, nI_lez, nI_eqz, m1_ltz, m1_gez, true_imp_iff, false_imp_iff, true_and, and_true, ne_eq, not_false_eq_true, not_true_eq_false, Nat.reduceEqDiff, Nat.reduceLT, Nat.reduceLeDiff, e1, e2, e3, e4]
    with_reducible refine xm_go_blk b_X12_bound_270 k_X12_bound_270 ?_
    refine by_iload_n rfl ?_
    refine by_bipush cb_12 ?_
    refine by_ic_ne 293 rfl ?_
    simp (disch := first | exact Nat.ne_of_beq_eq_false rfl | exact rfl | omega) only [nI_add, xa_sub, xa_mul, pk_div, nm_mod, xa_shr, xa_and7, xa_and1, xa_and255, xa_by_and, nI_m1, Nat.add_sub_cancel, Nat.reducePow, Nat.zero_add, Nat.add_zero, Nat.reduceAdd, Nat.reduceMul, Nat.reduceSub, xf_same, xq_ff, xq_fo, xf_1, xf_2, xs_1, xs_2, xs_same, xq_so, xj_1, xj_2, xj_same, xq_jo, xq_sa1, xq_same, xq_other, upd_s, oI_n, oI_s, xv_0, xv_1, xv_2, xv_3, xm_p1, xm_p2, xq_fp, xq_fn, List.filter_nil, Nat.reduceBEq, Bool.not_true, Bool.not_false, Bool.and_true, Bool.and_false, Bool.false_and, Bool.true_and, if_true, if_false, Bool.false_eq_true, reduceIte, xc_i, xc_j, xc_r, xc_n, List.nil_append, List.cons_append, Option.toList_some, Option.toList_none, nI_ltJ, nI_leJ, nI_eqJ, nI_ltz, nI_gez, nI_gtz, nI_lez, nI_eqz, m1_ltz, m1_gez, true_imp_iff, false_imp_iff, true_and, and_true, ne_eq, not_false_eq_true, not_true_eq_false, Nat.reduceEqDiff, Nat.reduceLT, Nat.reduceLeDiff, e1, e2, e3, e4]
    exact xm_go_wk (by simp [Value.category]) hg
  · have e1 : (pC ps n = 11) = False := eq_false q11
    obtain ⟨_, _, w1, w2⟩ := (k3 n (Nat.le_refl _)).2.2.2 q11
    have hg := hgo (g + ownS ps S T n) (fun z => absurd z q11) (fun _ => rfl)
    unfold ownS at hg
    by_cases q7 : pC ps n = 7
    · have e2 : (pC ps n = 7) = True := eq_true q7
      have e3 : (pC ps n = 10) = False := eq_false (by omega)
      have e4 : (pC ps n = 12) = False := eq_false (by omega)
      rw [if_pos q7] at hg
      with_reducible refine xm_go_blk b_X12_bound_227 k_X12_bound_227 ?_
      refine by_iload_n rfl ?_
      refine by_bipush cb_11 ?_
      refine by_ic_ne 236 rfl ?_
      simp (disch := first | exact Nat.ne_of_beq_eq_false rfl | exact rfl | omega) only [nI_add, xa_sub, xa_mul, pk_div, nm_mod, xa_shr, xa_and7, xa_and1, xa_and255, xa_by_and, nI_m1, Nat.add_sub_cancel, Nat.reducePow, Nat.zero_add, Nat.add_zero, Nat.reduceAdd, Nat.reduceMul, Nat.reduceSub, xf_same, xq_ff, xq_fo, xf_1, xf_2, xs_1, xs_2, xs_same, xq_so, xj_1, xj_2, xj_same, xq_jo, xq_sa1, xq_same, xq_other, upd_s, oI_n, oI_s, xv_0, xv_1, xv_2, xv_3, xm_p1, xm_p2, xq_fp, xq_fn, List.filter_nil, Nat.reduceBEq, Bool.not_true, Bool.not_false, Bool.and_true, Bool.and_false, Bool.false_and, Bool.true_and, if_true, if_false, Bool.false_eq_true, reduceIte, xc_i, xc_j, xc_r, xc_n, List.nil_append, List.cons_append, Option.toList_some, Option.toList_none, nI_ltJ, nI_leJ, nI_eqJ, nI_ltz, nI_gez, nI_gtz, nI_lez, nI_eqz, m1_ltz, m1_gez, true_imp_iff, false_imp_iff, true_and, and_true, ne_eq, not_false_eq_true, not_true_eq_false, Nat.reduceEqDiff, Nat.reduceLT, Nat.reduceLeDiff, e1, e2]
      with_reducible refine xm_go_blk b_X12_bound_236 k_X12_bound_236 ?_
      refine by_iload_n rfl ?_
      refine by_bipush cb_7 ?_
      refine by_ic_ne 253 rfl ?_
      simp (disch := first | exact Nat.ne_of_beq_eq_false rfl | exact rfl | omega) only [nI_add, xa_sub, xa_mul, pk_div, nm_mod, xa_shr, xa_and7, xa_and1, xa_and255, xa_by_and, nI_m1, Nat.add_sub_cancel, Nat.reducePow, Nat.zero_add, Nat.add_zero, Nat.reduceAdd, Nat.reduceMul, Nat.reduceSub, xf_same, xq_ff, xq_fo, xf_1, xf_2, xs_1, xs_2, xs_same, xq_so, xj_1, xj_2, xj_same, xq_jo, xq_sa1, xq_same, xq_other, upd_s, oI_n, oI_s, xv_0, xv_1, xv_2, xv_3, xm_p1, xm_p2, xq_fp, xq_fn, List.filter_nil, Nat.reduceBEq, Bool.not_true, Bool.not_false, Bool.and_true, Bool.and_false, Bool.false_and, Bool.true_and, if_true, if_false, Bool.false_eq_true, reduceIte, xc_i, xc_j, xc_r, xc_n, List.nil_append, List.cons_append, Option.toList_some, Option.toList_none, nI_ltJ, nI_leJ, nI_eqJ, nI_ltz, nI_gez, nI_gtz, nI_lez, nI_eqz, m1_ltz, m1_gez, true_imp_iff, false_imp_iff, true_and, and_true, ne_eq, not_false_eq_true, not_true_eq_false, Nat.reduceEqDiff, Nat.reduceLT, Nat.reduceLeDiff, e1, e2]
      with_reducible refine xm_go_blk b_X12_bound_242 k_X12_bound_242 ?_
      refine by_lload rfl ?_
      refine by_aload_n rfl ?_
      refine by_iload_n rfl ?_
      refine by_inv1 cn_211 lk_12_403 (by rw [xe_cnt]; decide) is_295 np_295 cn_295 (by first | exact rfl | assumption) (Nat.le_of_ble_eq_true rfl) ?_
      refine kb_src hF hK (Nat.le_refl _) q11 ?_
      with_reducible refine xm_go_blk b_X12_bound_249 k_X12_bound_249 ?_
      refine by_i2l ?_
      refine by_ladd ?_
      refine by_lstore (by rw [ml_211]; decide) ?_
      refine by_nil ?_
      simp (disch := first | exact Nat.ne_of_beq_eq_false rfl | exact rfl | omega) only [nI_add, xa_sub, xa_mul, pk_div, nm_mod, xa_shr, xa_and7, xa_and1, xa_and255, xa_by_and, nI_m1, Nat.add_sub_cancel, Nat.reducePow, Nat.zero_add, Nat.add_zero, Nat.reduceAdd, Nat.reduceMul, Nat.reduceSub, xf_same, xq_ff, xq_fo, xf_1, xf_2, xs_1, xs_2, xs_same, xq_so, xj_1, xj_2, xj_same, xq_jo, xq_sa1, xq_same, xq_other, upd_s, oI_n, oI_s, xv_0, xv_1, xv_2, xv_3, xm_p1, xm_p2, xq_fp, xq_fn, List.filter_nil, Nat.reduceBEq, Bool.not_true, Bool.not_false, Bool.and_true, Bool.and_false, Bool.false_and, Bool.true_and, if_true, if_false, Bool.false_eq_true, reduceIte, xc_i, xc_j, xc_r, xc_n, List.nil_append, List.cons_append, Option.toList_some, Option.toList_none, e3, e4, i2l_n (show ty_w (S n) < 2147483648 by omega), lN_pl]
      with_reducible refine xm_go_blk b_X12_bound_253 k_X12_bound_253 ?_
      refine by_iload_n rfl ?_
      refine by_bipush cb_10 ?_
      refine by_ic_ne 270 rfl ?_
      simp (disch := first | exact Nat.ne_of_beq_eq_false rfl | exact rfl | omega) only [nI_add, xa_sub, xa_mul, pk_div, nm_mod, xa_shr, xa_and7, xa_and1, xa_and255, xa_by_and, nI_m1, Nat.add_sub_cancel, Nat.reducePow, Nat.zero_add, Nat.add_zero, Nat.reduceAdd, Nat.reduceMul, Nat.reduceSub, xf_same, xq_ff, xq_fo, xf_1, xf_2, xs_1, xs_2, xs_same, xq_so, xj_1, xj_2, xj_same, xq_jo, xq_sa1, xq_same, xq_other, upd_s, oI_n, oI_s, xv_0, xv_1, xv_2, xv_3, xm_p1, xm_p2, xq_fp, xq_fn, List.filter_nil, Nat.reduceBEq, Bool.not_true, Bool.not_false, Bool.and_true, Bool.and_false, Bool.false_and, Bool.true_and, if_true, if_false, Bool.false_eq_true, reduceIte, xc_i, xc_j, xc_r, xc_n, List.nil_append, List.cons_append, Option.toList_some, Option.toList_none, nI_ltJ, nI_leJ, nI_eqJ, nI_ltz, nI_gez, nI_gtz, nI_lez, nI_eqz, m1_ltz, m1_gez, true_imp_iff, false_imp_iff, true_and, and_true, ne_eq, not_false_eq_true, not_true_eq_false, Nat.reduceEqDiff, Nat.reduceLT, Nat.reduceLeDiff, e3, e4, i2l_n (show ty_w (S n) < 2147483648 by omega), lN_pl]
      with_reducible refine xm_go_blk b_X12_bound_270 k_X12_bound_270 ?_
      refine by_iload_n rfl ?_
      refine by_bipush cb_12 ?_
      refine by_ic_ne 293 rfl ?_
      simp (disch := first | exact Nat.ne_of_beq_eq_false rfl | exact rfl | omega) only [nI_add, xa_sub, xa_mul, pk_div, nm_mod, xa_shr, xa_and7, xa_and1, xa_and255, xa_by_and, nI_m1, Nat.add_sub_cancel, Nat.reducePow, Nat.zero_add, Nat.add_zero, Nat.reduceAdd, Nat.reduceMul, Nat.reduceSub, xf_same, xq_ff, xq_fo, xf_1, xf_2, xs_1, xs_2, xs_same, xq_so, xj_1, xj_2, xj_same, xq_jo, xq_sa1, xq_same, xq_other, upd_s, oI_n, oI_s, xv_0, xv_1, xv_2, xv_3, xm_p1, xm_p2, xq_fp, xq_fn, List.filter_nil, Nat.reduceBEq, Bool.not_true, Bool.not_false, Bool.and_true, Bool.and_false, Bool.false_and, Bool.true_and, if_true, if_false, Bool.false_eq_true, reduceIte, xc_i, xc_j, xc_r, xc_n, List.nil_append, List.cons_append, Option.toList_some, Option.toList_none, nI_ltJ, nI_leJ, nI_eqJ, nI_ltz, nI_gez, nI_gtz, nI_lez, nI_eqz, m1_ltz, m1_gez, true_imp_iff, false_imp_iff, true_and, and_true, ne_eq, not_false_eq_true, not_true_eq_false, Nat.reduceEqDiff, Nat.reduceLT, Nat.reduceLeDiff, e3, e4, i2l_n (show ty_w (S n) < 2147483648 by omega), lN_pl]
      exact xm_go_wk (by simp [Value.category]) hg
    · have e2 : (pC ps n = 7) = False := eq_false q7
      by_cases q10 : pC ps n = 10
      · have e3 : (pC ps n = 10) = True := eq_true q10
        have e4 : (pC ps n = 12) = False := eq_false (by omega)
        rw [if_neg q7, if_pos q10] at hg
        with_reducible refine xm_go_blk b_X12_bound_227 k_X12_bound_227 ?_
        refine by_iload_n rfl ?_
        refine by_bipush cb_11 ?_
        refine by_ic_ne 236 rfl ?_
        simp (disch := first | exact Nat.ne_of_beq_eq_false rfl | exact rfl | omega) only [nI_add, xa_sub, xa_mul, pk_div, nm_mod, xa_shr, xa_and7, xa_and1, xa_and255, xa_by_and, nI_m1, Nat.add_sub_cancel, Nat.reducePow, Nat.zero_add, Nat.add_zero, Nat.reduceAdd, Nat.reduceMul, Nat.reduceSub, xf_same, xq_ff, xq_fo, xf_1, xf_2, xs_1, xs_2, xs_same, xq_so, xj_1, xj_2, xj_same, xq_jo, xq_sa1, xq_same, xq_other, upd_s, oI_n, oI_s, xv_0, xv_1, xv_2, xv_3, xm_p1, xm_p2, xq_fp, xq_fn, List.filter_nil, Nat.reduceBEq, Bool.not_true, Bool.not_false, Bool.and_true, Bool.and_false, Bool.false_and, Bool.true_and, if_true, if_false, Bool.false_eq_true, reduceIte, xc_i, xc_j, xc_r, xc_n, List.nil_append, List.cons_append, Option.toList_some, Option.toList_none, nI_ltJ, nI_leJ, nI_eqJ, nI_ltz, nI_gez, nI_gtz, nI_lez, nI_eqz, m1_ltz, m1_gez, true_imp_iff, false_imp_iff, true_and, and_true, ne_eq, not_false_eq_true, not_true_eq_false, Nat.reduceEqDiff, Nat.reduceLT, Nat.reduceLeDiff, e1, e2, e3]
        with_reducible refine xm_go_blk b_X12_bound_236 k_X12_bound_236 ?_
        refine by_iload_n rfl ?_
        refine by_bipush cb_7 ?_
        refine by_ic_ne 253 rfl ?_
        simp (disch := first | exact Nat.ne_of_beq_eq_false rfl | exact rfl | omega) only [nI_add, xa_sub, xa_mul, pk_div, nm_mod, xa_shr, xa_and7, xa_and1, xa_and255, xa_by_and, nI_m1, Nat.add_sub_cancel, Nat.reducePow, Nat.zero_add, Nat.add_zero, Nat.reduceAdd, Nat.reduceMul, Nat.reduceSub, xf_same, xq_ff, xq_fo, xf_1, xf_2, xs_1, xs_2, xs_same, xq_so, xj_1, xj_2, xj_same, xq_jo, xq_sa1, xq_same, xq_other, upd_s, oI_n, oI_s, xv_0, xv_1, xv_2, xv_3, xm_p1, xm_p2, xq_fp, xq_fn, List.filter_nil, Nat.reduceBEq, Bool.not_true, Bool.not_false, Bool.and_true, Bool.and_false, Bool.false_and, Bool.true_and, if_true, if_false, Bool.false_eq_true, reduceIte, xc_i, xc_j, xc_r, xc_n, List.nil_append, List.cons_append, Option.toList_some, Option.toList_none, nI_ltJ, nI_leJ, nI_eqJ, nI_ltz, nI_gez, nI_gtz, nI_lez, nI_eqz, m1_ltz, m1_gez, true_imp_iff, false_imp_iff, true_and, and_true, ne_eq, not_false_eq_true, not_true_eq_false, Nat.reduceEqDiff, Nat.reduceLT, Nat.reduceLeDiff, e1, e2, e3]
        with_reducible refine xm_go_blk b_X12_bound_253 k_X12_bound_253 ?_
        refine by_iload_n rfl ?_
        refine by_bipush cb_10 ?_
        refine by_ic_ne 270 rfl ?_
        simp (disch := first | exact Nat.ne_of_beq_eq_false rfl | exact rfl | omega) only [nI_add, xa_sub, xa_mul, pk_div, nm_mod, xa_shr, xa_and7, xa_and1, xa_and255, xa_by_and, nI_m1, Nat.add_sub_cancel, Nat.reducePow, Nat.zero_add, Nat.add_zero, Nat.reduceAdd, Nat.reduceMul, Nat.reduceSub, xf_same, xq_ff, xq_fo, xf_1, xf_2, xs_1, xs_2, xs_same, xq_so, xj_1, xj_2, xj_same, xq_jo, xq_sa1, xq_same, xq_other, upd_s, oI_n, oI_s, xv_0, xv_1, xv_2, xv_3, xm_p1, xm_p2, xq_fp, xq_fn, List.filter_nil, Nat.reduceBEq, Bool.not_true, Bool.not_false, Bool.and_true, Bool.and_false, Bool.false_and, Bool.true_and, if_true, if_false, Bool.false_eq_true, reduceIte, xc_i, xc_j, xc_r, xc_n, List.nil_append, List.cons_append, Option.toList_some, Option.toList_none, nI_ltJ, nI_leJ, nI_eqJ, nI_ltz, nI_gez, nI_gtz, nI_lez, nI_eqz, m1_ltz, m1_gez, true_imp_iff, false_imp_iff, true_and, and_true, ne_eq, not_false_eq_true, not_true_eq_false, Nat.reduceEqDiff, Nat.reduceLT, Nat.reduceLeDiff, e1, e2, e3]
        with_reducible refine xm_go_blk b_X12_bound_259 k_X12_bound_259 ?_
        refine by_lload rfl ?_
        refine by_aload_n rfl ?_
        refine by_iload_n rfl ?_
        refine by_inv1 cn_211 lk_12_400 (by rw [xe_cnt]; decide) is_306 np_306 cn_306 (by first | exact rfl | assumption) (Nat.le_of_ble_eq_true rfl) ?_
        refine kb_tgt hF hK (Nat.le_refl _) q11 ?_
        with_reducible refine xm_go_blk b_X12_bound_266 k_X12_bound_266 ?_
        refine by_i2l ?_
        refine by_ladd ?_
        refine by_lstore (by rw [ml_211]; decide) ?_
        refine by_nil ?_
        simp (disch := first | exact Nat.ne_of_beq_eq_false rfl | exact rfl | omega) only [nI_add, xa_sub, xa_mul, pk_div, nm_mod, xa_shr, xa_and7, xa_and1, xa_and255, xa_by_and, nI_m1, Nat.add_sub_cancel, Nat.reducePow, Nat.zero_add, Nat.add_zero, Nat.reduceAdd, Nat.reduceMul, Nat.reduceSub, xf_same, xq_ff, xq_fo, xf_1, xf_2, xs_1, xs_2, xs_same, xq_so, xj_1, xj_2, xj_same, xq_jo, xq_sa1, xq_same, xq_other, upd_s, oI_n, oI_s, xv_0, xv_1, xv_2, xv_3, xm_p1, xm_p2, xq_fp, xq_fn, List.filter_nil, Nat.reduceBEq, Bool.not_true, Bool.not_false, Bool.and_true, Bool.and_false, Bool.false_and, Bool.true_and, if_true, if_false, Bool.false_eq_true, reduceIte, xc_i, xc_j, xc_r, xc_n, List.nil_append, List.cons_append, Option.toList_some, Option.toList_none, e4, i2l_n (show ty_w (T n) < 2147483648 by omega), lN_pl]
        with_reducible refine xm_go_blk b_X12_bound_270 k_X12_bound_270 ?_
        refine by_iload_n rfl ?_
        refine by_bipush cb_12 ?_
        refine by_ic_ne 293 rfl ?_
        simp (disch := first | exact Nat.ne_of_beq_eq_false rfl | exact rfl | omega) only [nI_add, xa_sub, xa_mul, pk_div, nm_mod, xa_shr, xa_and7, xa_and1, xa_and255, xa_by_and, nI_m1, Nat.add_sub_cancel, Nat.reducePow, Nat.zero_add, Nat.add_zero, Nat.reduceAdd, Nat.reduceMul, Nat.reduceSub, xf_same, xq_ff, xq_fo, xf_1, xf_2, xs_1, xs_2, xs_same, xq_so, xj_1, xj_2, xj_same, xq_jo, xq_sa1, xq_same, xq_other, upd_s, oI_n, oI_s, xv_0, xv_1, xv_2, xv_3, xm_p1, xm_p2, xq_fp, xq_fn, List.filter_nil, Nat.reduceBEq, Bool.not_true, Bool.not_false, Bool.and_true, Bool.and_false, Bool.false_and, Bool.true_and, if_true, if_false, Bool.false_eq_true, reduceIte, xc_i, xc_j, xc_r, xc_n, List.nil_append, List.cons_append, Option.toList_some, Option.toList_none, nI_ltJ, nI_leJ, nI_eqJ, nI_ltz, nI_gez, nI_gtz, nI_lez, nI_eqz, m1_ltz, m1_gez, true_imp_iff, false_imp_iff, true_and, and_true, ne_eq, not_false_eq_true, not_true_eq_false, Nat.reduceEqDiff, Nat.reduceLT, Nat.reduceLeDiff, e4, i2l_n (show ty_w (T n) < 2147483648 by omega), lN_pl]
        exact xm_go_wk (by simp [Value.category]) hg
      · have e3 : (pC ps n = 10) = False := eq_false q10
        by_cases q12 : pC ps n = 12
        · have e4 : (pC ps n = 12) = True := eq_true q12
          rw [if_neg q7, if_neg q10, if_pos q12] at hg
          with_reducible refine xm_go_blk b_X12_bound_227 k_X12_bound_227 ?_
          refine by_iload_n rfl ?_
          refine by_bipush cb_11 ?_
          refine by_ic_ne 236 rfl ?_
          simp (disch := first | exact Nat.ne_of_beq_eq_false rfl | exact rfl | omega) only [nI_add, xa_sub, xa_mul, pk_div, nm_mod, xa_shr, xa_and7, xa_and1, xa_and255, xa_by_and, nI_m1, Nat.add_sub_cancel, Nat.reducePow, Nat.zero_add, Nat.add_zero, Nat.reduceAdd, Nat.reduceMul, Nat.reduceSub, xf_same, xq_ff, xq_fo, xf_1, xf_2, xs_1, xs_2, xs_same, xq_so, xj_1, xj_2, xj_same, xq_jo, xq_sa1, xq_same, xq_other, upd_s, oI_n, oI_s, xv_0, xv_1, xv_2, xv_3, xm_p1, xm_p2, xq_fp, xq_fn, List.filter_nil, Nat.reduceBEq, Bool.not_true, Bool.not_false, Bool.and_true, Bool.and_false, Bool.false_and, Bool.true_and, if_true, if_false, Bool.false_eq_true, reduceIte, xc_i, xc_j, xc_r, xc_n, List.nil_append, List.cons_append, Option.toList_some, Option.toList_none, nI_ltJ, nI_leJ, nI_eqJ, nI_ltz, nI_gez, nI_gtz, nI_lez, nI_eqz, m1_ltz, m1_gez, true_imp_iff, false_imp_iff, true_and, and_true, ne_eq, not_false_eq_true, not_true_eq_false, Nat.reduceEqDiff, Nat.reduceLT, Nat.reduceLeDiff, e1, e2, e3, e4]
          with_reducible refine xm_go_blk b_X12_bound_236 k_X12_bound_236 ?_
          refine by_iload_n rfl ?_
          refine by_bipush cb_7 ?_
          refine by_ic_ne 253 rfl ?_
          simp (disch := first | exact Nat.ne_of_beq_eq_false rfl | exact rfl | omega) only [nI_add, xa_sub, xa_mul, pk_div, nm_mod, xa_shr, xa_and7, xa_and1, xa_and255, xa_by_and, nI_m1, Nat.add_sub_cancel, Nat.reducePow, Nat.zero_add, Nat.add_zero, Nat.reduceAdd, Nat.reduceMul, Nat.reduceSub, xf_same, xq_ff, xq_fo, xf_1, xf_2, xs_1, xs_2, xs_same, xq_so, xj_1, xj_2, xj_same, xq_jo, xq_sa1, xq_same, xq_other, upd_s, oI_n, oI_s, xv_0, xv_1, xv_2, xv_3, xm_p1, xm_p2, xq_fp, xq_fn, List.filter_nil, Nat.reduceBEq, Bool.not_true, Bool.not_false, Bool.and_true, Bool.and_false, Bool.false_and, Bool.true_and, if_true, if_false, Bool.false_eq_true, reduceIte, xc_i, xc_j, xc_r, xc_n, List.nil_append, List.cons_append, Option.toList_some, Option.toList_none, nI_ltJ, nI_leJ, nI_eqJ, nI_ltz, nI_gez, nI_gtz, nI_lez, nI_eqz, m1_ltz, m1_gez, true_imp_iff, false_imp_iff, true_and, and_true, ne_eq, not_false_eq_true, not_true_eq_false, Nat.reduceEqDiff, Nat.reduceLT, Nat.reduceLeDiff, e1, e2, e3, e4]
          with_reducible refine xm_go_blk b_X12_bound_253 k_X12_bound_253 ?_
          refine by_iload_n rfl ?_
          refine by_bipush cb_10 ?_
          refine by_ic_ne 270 rfl ?_
          simp (disch := first | exact Nat.ne_of_beq_eq_false rfl | exact rfl | omega) only [nI_add, xa_sub, xa_mul, pk_div, nm_mod, xa_shr, xa_and7, xa_and1, xa_and255, xa_by_and, nI_m1, Nat.add_sub_cancel, Nat.reducePow, Nat.zero_add, Nat.add_zero, Nat.reduceAdd, Nat.reduceMul, Nat.reduceSub, xf_same, xq_ff, xq_fo, xf_1, xf_2, xs_1, xs_2, xs_same, xq_so, xj_1, xj_2, xj_same, xq_jo, xq_sa1, xq_same, xq_other, upd_s, oI_n, oI_s, xv_0, xv_1, xv_2, xv_3, xm_p1, xm_p2, xq_fp, xq_fn, List.filter_nil, Nat.reduceBEq, Bool.not_true, Bool.not_false, Bool.and_true, Bool.and_false, Bool.false_and, Bool.true_and, if_true, if_false, Bool.false_eq_true, reduceIte, xc_i, xc_j, xc_r, xc_n, List.nil_append, List.cons_append, Option.toList_some, Option.toList_none, nI_ltJ, nI_leJ, nI_eqJ, nI_ltz, nI_gez, nI_gtz, nI_lez, nI_eqz, m1_ltz, m1_gez, true_imp_iff, false_imp_iff, true_and, and_true, ne_eq, not_false_eq_true, not_true_eq_false, Nat.reduceEqDiff, Nat.reduceLT, Nat.reduceLeDiff, e1, e2, e3, e4]
          with_reducible refine xm_go_blk b_X12_bound_270 k_X12_bound_270 ?_
          refine by_iload_n rfl ?_
          refine by_bipush cb_12 ?_
          refine by_ic_ne 293 rfl ?_
          simp (disch := first | exact Nat.ne_of_beq_eq_false rfl | exact rfl | omega) only [nI_add, xa_sub, xa_mul, pk_div, nm_mod, xa_shr, xa_and7, xa_and1, xa_and255, xa_by_and, nI_m1, Nat.add_sub_cancel, Nat.reducePow, Nat.zero_add, Nat.add_zero, Nat.reduceAdd, Nat.reduceMul, Nat.reduceSub, xf_same, xq_ff, xq_fo, xf_1, xf_2, xs_1, xs_2, xs_same, xq_so, xj_1, xj_2, xj_same, xq_jo, xq_sa1, xq_same, xq_other, upd_s, oI_n, oI_s, xv_0, xv_1, xv_2, xv_3, xm_p1, xm_p2, xq_fp, xq_fn, List.filter_nil, Nat.reduceBEq, Bool.not_true, Bool.not_false, Bool.and_true, Bool.and_false, Bool.false_and, Bool.true_and, if_true, if_false, Bool.false_eq_true, reduceIte, xc_i, xc_j, xc_r, xc_n, List.nil_append, List.cons_append, Option.toList_some, Option.toList_none, nI_ltJ, nI_leJ, nI_eqJ, nI_ltz, nI_gez, nI_gtz, nI_lez, nI_eqz, m1_ltz, m1_gez, true_imp_iff, false_imp_iff, true_and, and_true, ne_eq, not_false_eq_true, not_true_eq_false, Nat.reduceEqDiff, Nat.reduceLT, Nat.reduceLeDiff, e1, e2, e3, e4]
          with_reducible refine xm_go_blk b_X12_bound_276 k_X12_bound_276 ?_
          refine by_lload rfl ?_
          refine by_aload_n rfl ?_
          refine by_iload_n rfl ?_
          refine by_inv1 cn_211 lk_12_403 (by rw [xe_cnt]; decide) is_295 np_295 cn_295 (by first | exact rfl | assumption) (Nat.le_of_ble_eq_true rfl) ?_
          refine kb_src hF hK (Nat.le_refl _) q11 ?_
          with_reducible refine xm_go_blk b_X12_bound_283 k_X12_bound_283 ?_
          refine by_aload_n rfl ?_
          refine by_iload_n rfl ?_
          refine by_inv1 cn_211 lk_12_400 (by rw [xe_cnt]; decide) is_306 np_306 cn_306 (by first | exact rfl | assumption) (Nat.le_of_ble_eq_true rfl) ?_
          refine kb_tgt hF hK (Nat.le_refl _) q11 ?_
          with_reducible refine xm_go_blk b_X12_bound_288 k_X12_bound_288 ?_
          refine by_iadd ?_
          refine by_i2l ?_
          refine by_ladd ?_
          refine by_lstore (by rw [ml_211]; decide) ?_
          refine by_nil ?_
          simp (disch := first | exact Nat.ne_of_beq_eq_false rfl | exact rfl | omega) only [nI_add, xa_sub, xa_mul, pk_div, nm_mod, xa_shr, xa_and7, xa_and1, xa_and255, xa_by_and, nI_m1, Nat.add_sub_cancel, Nat.reducePow, Nat.zero_add, Nat.add_zero, Nat.reduceAdd, Nat.reduceMul, Nat.reduceSub, xf_same, xq_ff, xq_fo, xf_1, xf_2, xs_1, xs_2, xs_same, xq_so, xj_1, xj_2, xj_same, xq_jo, xq_sa1, xq_same, xq_other, upd_s, oI_n, oI_s, xv_0, xv_1, xv_2, xv_3, xm_p1, xm_p2, xq_fp, xq_fn, List.filter_nil, Nat.reduceBEq, Bool.not_true, Bool.not_false, Bool.and_true, Bool.and_false, Bool.false_and, Bool.true_and, if_true, if_false, Bool.false_eq_true, reduceIte, xc_i, xc_j, xc_r, xc_n, List.nil_append, List.cons_append, Option.toList_some, Option.toList_none, i2l_n (show ty_w (S n) + ty_w (T n) < 2147483648 by omega), lN_pl]
          exact xm_go_wk (by simp [Value.category]) hg
        · have e4 : (pC ps n = 12) = False := eq_false q12
          rw [if_neg q7, if_neg q10, if_neg q12, Nat.add_zero] at hg
          with_reducible refine xm_go_blk b_X12_bound_227 k_X12_bound_227 ?_
          refine by_iload_n rfl ?_
          refine by_bipush cb_11 ?_
          refine by_ic_ne 236 rfl ?_
          simp (disch := first | exact Nat.ne_of_beq_eq_false rfl | exact rfl | omega) only [nI_add, xa_sub, xa_mul, pk_div, nm_mod, xa_shr, xa_and7, xa_and1, xa_and255, xa_by_and, nI_m1, Nat.add_sub_cancel, Nat.reducePow, Nat.zero_add, Nat.add_zero, Nat.reduceAdd, Nat.reduceMul, Nat.reduceSub, xf_same, xq_ff, xq_fo, xf_1, xf_2, xs_1, xs_2, xs_same, xq_so, xj_1, xj_2, xj_same, xq_jo, xq_sa1, xq_same, xq_other, upd_s, oI_n, oI_s, xv_0, xv_1, xv_2, xv_3, xm_p1, xm_p2, xq_fp, xq_fn, List.filter_nil, Nat.reduceBEq, Bool.not_true, Bool.not_false, Bool.and_true, Bool.and_false, Bool.false_and, Bool.true_and, if_true, if_false, Bool.false_eq_true, reduceIte, xc_i, xc_j, xc_r, xc_n, List.nil_append, List.cons_append, Option.toList_some, Option.toList_none, nI_ltJ, nI_leJ, nI_eqJ, nI_ltz, nI_gez, nI_gtz, nI_lez, nI_eqz, m1_ltz, m1_gez, true_imp_iff, false_imp_iff, true_and, and_true, ne_eq, not_false_eq_true, not_true_eq_false, Nat.reduceEqDiff, Nat.reduceLT, Nat.reduceLeDiff, e1, e2, e3, e4]
          with_reducible refine xm_go_blk b_X12_bound_236 k_X12_bound_236 ?_
          refine by_iload_n rfl ?_
          refine by_bipush cb_7 ?_
          refine by_ic_ne 253 rfl ?_
          simp (disch := first | exact Nat.ne_of_beq_eq_false rfl | exact rfl | omega) only [nI_add, xa_sub, xa_mul, pk_div, nm_mod, xa_shr, xa_and7, xa_and1, xa_and255, xa_by_and, nI_m1, Nat.add_sub_cancel, Nat.reducePow, Nat.zero_add, Nat.add_zero, Nat.reduceAdd, Nat.reduceMul, Nat.reduceSub, xf_same, xq_ff, xq_fo, xf_1, xf_2, xs_1, xs_2, xs_same, xq_so, xj_1, xj_2, xj_same, xq_jo, xq_sa1, xq_same, xq_other, upd_s, oI_n, oI_s, xv_0, xv_1, xv_2, xv_3, xm_p1, xm_p2, xq_fp, xq_fn, List.filter_nil, Nat.reduceBEq, Bool.not_true, Bool.not_false, Bool.and_true, Bool.and_false, Bool.false_and, Bool.true_and, if_true, if_false, Bool.false_eq_true, reduceIte, xc_i, xc_j, xc_r, xc_n, List.nil_append, List.cons_append, Option.toList_some, Option.toList_none, nI_ltJ, nI_leJ, nI_eqJ, nI_ltz, nI_gez, nI_gtz, nI_lez, nI_eqz, m1_ltz, m1_gez, true_imp_iff, false_imp_iff, true_and, and_true, ne_eq, not_false_eq_true, not_true_eq_false, Nat.reduceEqDiff, Nat.reduceLT, Nat.reduceLeDiff, e1, e2, e3, e4]
          with_reducible refine xm_go_blk b_X12_bound_253 k_X12_bound_253 ?_
          refine by_iload_n rfl ?_
          refine by_bipush cb_10 ?_
          refine by_ic_ne 270 rfl ?_
          simp (disch := first | exact Nat.ne_of_beq_eq_false rfl | exact rfl | omega) only [nI_add, xa_sub, xa_mul, pk_div, nm_mod, xa_shr, xa_and7, xa_and1, xa_and255, xa_by_and, nI_m1, Nat.add_sub_cancel, Nat.reducePow, Nat.zero_add, Nat.add_zero, Nat.reduceAdd, Nat.reduceMul, Nat.reduceSub, xf_same, xq_ff, xq_fo, xf_1, xf_2, xs_1, xs_2, xs_same, xq_so, xj_1, xj_2, xj_same, xq_jo, xq_sa1, xq_same, xq_other, upd_s, oI_n, oI_s, xv_0, xv_1, xv_2, xv_3, xm_p1, xm_p2, xq_fp, xq_fn, List.filter_nil, Nat.reduceBEq, Bool.not_true, Bool.not_false, Bool.and_true, Bool.and_false, Bool.false_and, Bool.true_and, if_true, if_false, Bool.false_eq_true, reduceIte, xc_i, xc_j, xc_r, xc_n, List.nil_append, List.cons_append, Option.toList_some, Option.toList_none, nI_ltJ, nI_leJ, nI_eqJ, nI_ltz, nI_gez, nI_gtz, nI_lez, nI_eqz, m1_ltz, m1_gez, true_imp_iff, false_imp_iff, true_and, and_true, ne_eq, not_false_eq_true, not_true_eq_false, Nat.reduceEqDiff, Nat.reduceLT, Nat.reduceLeDiff, e1, e2, e3, e4]
          with_reducible refine xm_go_blk b_X12_bound_270 k_X12_bound_270 ?_
          refine by_iload_n rfl ?_
          refine by_bipush cb_12 ?_
          refine by_ic_ne 293 rfl ?_
          simp (disch := first | exact Nat.ne_of_beq_eq_false rfl | exact rfl | omega) only [nI_add, xa_sub, xa_mul, pk_div, nm_mod, xa_shr, xa_and7, xa_and1, xa_and255, xa_by_and, nI_m1, Nat.add_sub_cancel, Nat.reducePow, Nat.zero_add, Nat.add_zero, Nat.reduceAdd, Nat.reduceMul, Nat.reduceSub, xf_same, xq_ff, xq_fo, xf_1, xf_2, xs_1, xs_2, xs_same, xq_so, xj_1, xj_2, xj_same, xq_jo, xq_sa1, xq_same, xq_other, upd_s, oI_n, oI_s, xv_0, xv_1, xv_2, xv_3, xm_p1, xm_p2, xq_fp, xq_fn, List.filter_nil, Nat.reduceBEq, Bool.not_true, Bool.not_false, Bool.and_true, Bool.and_false, Bool.false_and, Bool.true_and, if_true, if_false, Bool.false_eq_true, reduceIte, xc_i, xc_j, xc_r, xc_n, List.nil_append, List.cons_append, Option.toList_some, Option.toList_none, nI_ltJ, nI_leJ, nI_eqJ, nI_ltz, nI_gez, nI_gtz, nI_lez, nI_eqz, m1_ltz, m1_gez, true_imp_iff, false_imp_iff, true_and, and_true, ne_eq, not_false_eq_true, not_true_eq_false, Nat.reduceEqDiff, Nat.reduceLT, Nat.reduceLeDiff, e1, e2, e3, e4]
          exact xm_go_wk (by simp [Value.category]) hg
theorem mb_203 {ca fa g0 : Nat} {x3 : Int32} (hF : XF h) (hK : kbP h ps S T n) (hs : pC ps n = 0 → ∃ s, p1 ps n = some s ∧ x3 = nI s ∧ pC ps s ≠ 11) (b1 : ca ≤ 2147483647) (b2 : fa ≤ 2147483647)
    (hgo : xm_go (XE sc) (xm_T (XE sc) (d + 1)) 211 post 227 (mbE n (pC ps n) (ca + (if pC ps n = 0 then gO (fun x => ty_w (T x)) (p1 ps n) else 0)) (fa + (if pC ps n = 0 then 1 else 0)) (1 + g0)) [] h) :
    xm_go (XE sc) (xm_T (XE sc) (d + 1)) 211 post 203 [(0, .ref 102), (1, .int (nI n)), (2, .int (nI (pC ps n))), (3, .int x3), (5, .long (lN ca)), (7, .long (lN fa))] [.long (lN g0), .long (lN 1)] h := by
  have hK0 := hK
  obtain ⟨k0, k1, k2, k3⟩ := hK0
  have h12 : pC ps n ≤ 12 := (k0 n k2).1
  unfold mbE at hgo
  by_cases q : pC ps n = 0
  · obtain ⟨s, s1, s2, s3⟩ := hs q
    subst s2
    have hsn : s < n := (k0 n k2).2.2.2.1 s s1
    have q' : (pC ps n = 0) = True := eq_true q
    obtain ⟨_, _, w1, w2⟩ := (k3 s (by omega)).2.2.2 s3
    rw [if_pos q, if_pos q, s1] at hgo
    with_reducible refine xm_go_blk b_X12_bound_203 k_X12_bound_203 ?_
    refine by_ladd ?_
    refine by_lstore (by rw [ml_211]; decide) ?_
    refine by_iload_n rfl ?_
    refine by_if_ne 227 rfl ?_
    simp (disch := first | exact Nat.ne_of_beq_eq_false rfl | exact rfl | omega) only [nI_add, xa_sub, xa_mul, pk_div, nm_mod, xa_shr, xa_and7, xa_and1, xa_and255, xa_by_and, nI_m1, Nat.add_sub_cancel, Nat.reducePow, Nat.zero_add, Nat.add_zero, Nat.reduceAdd, Nat.reduceMul, Nat.reduceSub, xf_same, xq_ff, xq_fo, xf_1, xf_2, xs_1, xs_2, xs_same, xq_so, xj_1, xj_2, xj_same, xq_jo, xq_sa1, xq_same, xq_other, upd_s, oI_n, oI_s, xv_0, xv_1, xv_2, xv_3, xm_p1, xm_p2, xq_fp, xq_fn, List.filter_nil, Nat.reduceBEq, Bool.not_true, Bool.not_false, Bool.and_true, Bool.and_false, Bool.false_and, Bool.true_and, if_true, if_false, Bool.false_eq_true, reduceIte, xc_i, xc_j, xc_r, xc_n, List.nil_append, List.cons_append, Option.toList_some, Option.toList_none, nI_ltJ, nI_leJ, nI_eqJ, nI_ltz, nI_gez, nI_gtz, nI_lez, nI_eqz, m1_ltz, m1_gez, true_imp_iff, false_imp_iff, true_and, and_true, ne_eq, not_false_eq_true, not_true_eq_false, Nat.reduceEqDiff, Nat.reduceLT, Nat.reduceLeDiff, q', lN_pl]
    with_reducible refine xm_go_blk b_X12_bound_210 k_X12_bound_210 ?_
    refine by_lload rfl ?_
    refine by_aload_n rfl ?_
    refine by_iload_n rfl ?_
    refine by_inv1 cn_211 lk_12_400 (by rw [xe_cnt]; decide) is_306 np_306 cn_306 (by first | exact rfl | assumption) (Nat.le_of_ble_eq_true rfl) ?_
    refine kb_tgt hF hK (by omega) s3 ?_
    with_reducible refine xm_go_blk b_X12_bound_217 k_X12_bound_217 ?_
    refine by_i2l ?_
    refine by_ladd ?_
    refine by_lstore (by rw [ml_211]; decide) ?_
    refine by_lload rfl ?_
    refine by_lconst cl_1 ?_
    refine by_ladd ?_
    refine by_lstore (by rw [ml_211]; decide) ?_
    refine by_nil ?_
    simp (disch := first | exact Nat.ne_of_beq_eq_false rfl | exact rfl | omega) only [nI_add, xa_sub, xa_mul, pk_div, nm_mod, xa_shr, xa_and7, xa_and1, xa_and255, xa_by_and, nI_m1, Nat.add_sub_cancel, Nat.reducePow, Nat.zero_add, Nat.add_zero, Nat.reduceAdd, Nat.reduceMul, Nat.reduceSub, xf_same, xq_ff, xq_fo, xf_1, xf_2, xs_1, xs_2, xs_same, xq_so, xj_1, xj_2, xj_same, xq_jo, xq_sa1, xq_same, xq_other, upd_s, oI_n, oI_s, xv_0, xv_1, xv_2, xv_3, xm_p1, xm_p2, xq_fp, xq_fn, List.filter_nil, Nat.reduceBEq, Bool.not_true, Bool.not_false, Bool.and_true, Bool.and_false, Bool.false_and, Bool.true_and, if_true, if_false, Bool.false_eq_true, reduceIte, xc_i, xc_j, xc_r, xc_n, List.nil_append, List.cons_append, Option.toList_some, Option.toList_none, i2l_n (show ty_w (T s) < 2147483648 by omega), lN_pl]
    exact xm_go_wk (by simp [Value.category, gO]) hgo
  · have q' : (pC ps n = 0) = False := eq_false q
    rw [if_neg q, if_neg q, Nat.add_zero, Nat.add_zero] at hgo
    with_reducible refine xm_go_blk b_X12_bound_203 k_X12_bound_203 ?_
    refine by_ladd ?_
    refine by_lstore (by rw [ml_211]; decide) ?_
    refine by_iload_n rfl ?_
    refine by_if_ne 227 rfl ?_
    simp (disch := first | exact Nat.ne_of_beq_eq_false rfl | exact rfl | omega) only [nI_add, xa_sub, xa_mul, pk_div, nm_mod, xa_shr, xa_and7, xa_and1, xa_and255, xa_by_and, nI_m1, Nat.add_sub_cancel, Nat.reducePow, Nat.zero_add, Nat.add_zero, Nat.reduceAdd, Nat.reduceMul, Nat.reduceSub, xf_same, xq_ff, xq_fo, xf_1, xf_2, xs_1, xs_2, xs_same, xq_so, xj_1, xj_2, xj_same, xq_jo, xq_sa1, xq_same, xq_other, upd_s, oI_n, oI_s, xv_0, xv_1, xv_2, xv_3, xm_p1, xm_p2, xq_fp, xq_fn, List.filter_nil, Nat.reduceBEq, Bool.not_true, Bool.not_false, Bool.and_true, Bool.and_false, Bool.false_and, Bool.true_and, if_true, if_false, Bool.false_eq_true, reduceIte, xc_i, xc_j, xc_r, xc_n, List.nil_append, List.cons_append, Option.toList_some, Option.toList_none, nI_ltJ, nI_leJ, nI_eqJ, nI_ltz, nI_gez, nI_gtz, nI_lez, nI_eqz, m1_ltz, m1_gez, true_imp_iff, false_imp_iff, true_and, and_true, ne_eq, not_false_eq_true, not_true_eq_false, Nat.reduceEqDiff, Nat.reduceLT, Nat.reduceLeDiff, q', lN_pl]
    exact xm_go_wk (by simp [Value.category]) hgo
theorem sp_bound (hF : XF h) (hK : kbP h ps S T n) (hV : kbV h n C F G) (hb : bnd ps S T C F G n) (hv0 : pC ps n = 0 → ∀ x, p1 ps n = some x → pC ps x ≠ 11)
    (hp : ∀ c f g, c = min 2147483647 (max (gO C (p1 ps n)) (gO C (p2 ps n)) + (if pC ps n = 0 then gO (fun x => ty_w (T x)) (p1 ps n) else 0)) → f = min 2147483647 (max (gO F (p1 ps n)) (gO F (p2 ps n)) + (if pC ps n = 0 then 1 else 0)) → g = (if pC ps n = 11 then 0 else min 2147483647 (1 + (if pC ps n = 1 then max (gO G (p1 ps n)) (gO G (p2 ps n)) else gO G (p1 ps n) + gO G (p2 ps n)) + ownS ps S T n)) → post none (xm_sl (xm_sl (xm_sl h 125 n (lN c)) 126 n (lN f)) 127 n (lN g))) : xm_T (XE sc) (d + 2) 211 [.ref 102, .int (nI n)] h post := by
  have hK0 := hK
  obtain ⟨k0, k1, k2, k3⟩ := hK0
  obtain ⟨o1, o2, o3, o4, o5, _⟩ := k0 n k2
  have o2 : pC ps n ≤ 6 ↔ (p1 ps n).isSome = true := o2
  have o4 : ∀ x, p1 ps n = some x → x < n := o4
  have o5 : ∀ x, p2 ps n = some x → x < n := o5
  have hid : ∀ x, x < n → pC ps x = 11 → C x = 0 ∧ F x = 0 ∧ G x = 0 := by
    intro x hx hc
    obtain ⟨c1, c2, c3⟩ := hb x hx
    obtain ⟨q1, q2, q3, _⟩ := k0 x (by omega)
    have e1 : p1 ps x = none := by
      cases z : p1 ps x with
      | none => rfl
      | some y => exact absurd (q2.mpr (by show (p1 ps x).isSome = true; rw [z]; rfl)) (by show ¬ pC ps x ≤ 6; omega)
    have e2 : p2 ps x = none := by
      cases z : p2 ps x with
      | none => rfl
      | some y => exact absurd (q3.mpr (by show (p2 ps x).isSome = true; rw [z]; rfl)) (by show ¬ pC ps x ≤ 2; omega)
    rw [e1, e2, if_neg (by omega)] at c1
    rw [e1, e2, if_neg (by omega)] at c2
    rw [if_pos hc] at c3
    exact ⟨by rw [c1]; simp [gO], by rw [c2]; simp [gO], c3⟩
  have n1 : ∀ x, nHd ps (p1 ps n) = some x → x < n := by
    intro x hx
    cases e : p1 ps n with
    | none => rw [e] at hx; cases hx
    | some y =>
      rw [e] at hx
      unfold nHd at hx
      simp only at hx
      split at hx
      · cases hx
      · cases hx; exact o4 _ e
  have n2 : ∀ x, nHd ps (p2 ps n) = some x → x < n := by
    intro x hx
    cases e : p2 ps n with
    | none => rw [e] at hx; cases hx
    | some y =>
      rw [e] at hx
      unfold nHd at hx
      simp only at hx
      split at hx
      · cases hx
      · cases hx; exact o5 _ e
  have gc1 : gO C (nHd ps (p1 ps n)) = gO C (p1 ps n) := gO_nHd (fun x hx hc => (hid x (o4 x hx) hc).1)
  have gc2 : gO C (nHd ps (p2 ps n)) = gO C (p2 ps n) := gO_nHd (fun x hx hc => (hid x (o5 x hx) hc).1)
  have gf1 : gO F (nHd ps (p1 ps n)) = gO F (p1 ps n) := gO_nHd (fun x hx hc => (hid x (o4 x hx) hc).2.1)
  have gf2 : gO F (nHd ps (p2 ps n)) = gO F (p2 ps n) := gO_nHd (fun x hx hc => (hid x (o5 x hx) hc).2.1)
  have gg1 : gO G (nHd ps (p1 ps n)) = gO G (p1 ps n) := gO_nHd (fun x hx hc => (hid x (o4 x hx) hc).2.2)
  have gg2 : gO G (nHd ps (p2 ps n)) = gO G (p2 ps n) := gO_nHd (fun x hx hc => (hid x (o5 x hx) hc).2.2)
  have lC1 : gO C (p1 ps n) ≤ 2147483647 := gO_le (fun x hx => (bnd_le hb (o4 x hx)).1)
  have lC2 : gO C (p2 ps n) ≤ 2147483647 := gO_le (fun x hx => (bnd_le hb (o5 x hx)).1)
  have lF1 : gO F (p1 ps n) ≤ 2147483647 := gO_le (fun x hx => (bnd_le hb (o4 x hx)).2.1)
  have lF2 : gO F (p2 ps n) ≤ 2147483647 := gO_le (fun x hx => (bnd_le hb (o5 x hx)).2.1)
  have lG1 : gO G (p1 ps n) ≤ 2147483647 := gO_le (fun x hx => (bnd_le hb (o4 x hx)).2.2)
  have lG2 : gO G (p2 ps n) ≤ 2147483647 := gO_le (fun x hx => (bnd_le hb (o5 x hx)).2.2)
  have lw : (if pC ps n = 0 then gO (fun x => ty_w (T x)) (p1 ps n) else 0) ≤ 2048 := by
    split
    · rename_i q
      exact gO_le (fun x hx => ((k3 x (by have := o4 x hx; omega)).2.2.2 (hv0 q x hx)).2.2.2)
    · omega
  have lo : pC ps n ≠ 11 → ownS ps S T n ≤ 4096 := by
    intro q
    obtain ⟨_, _, w1, w2⟩ := (k3 n (Nat.le_refl _)).2.2.2 q
    unfold ownS
    split
    · omega
    · split
      · omega
      · split <;> omega
  have hs : pC ps n = 0 → ∃ s, p1 ps n = some s ∧ oI (nHd ps (p1 ps n)) = nI s ∧ pC ps s ≠ 11 := by
    intro q
    obtain ⟨s, hs⟩ := Option.isSome_iff_exists.mp (o2.mp (by omega))
    have hv := hv0 q s hs
    exact ⟨s, hs, by rw [hs]; unfold nHd; simp only [if_neg hv]; rfl, hv⟩
  -- from the sums on
  have tail : ∀ g0, g0 = (if pC ps n = 1 then max (gO G (p1 ps n)) (gO G (p2 ps n)) else gO G (p1 ps n) + gO G (p2 ps n)) → xm_go (XE sc) (xm_T (XE sc) (d + 1)) 211 post 203 [(0, .ref 102), (1, .int (nI n)), (2, .int (nI (pC ps n))), (3, .int (oI (nHd ps (p1 ps n)))), (5, .long (lN (max (gO C (p1 ps n)) (gO C (p2 ps n))))), (7, .long (lN (max (gO F (p1 ps n)) (gO F (p2 ps n)))))] [.long (lN g0), .long (lN 1)] h := by
    intro g0 hg0
    have hg0b : g0 ≤ 4294967294 := by rw [hg0]; split <;> omega
    refine mb_203 hF hK hs (by omega) (by omega) (mb_227 hF hK (by omega) (fun g' z1 z2 => ?_))
    have hg'b : g' ≤ 4294971391 := by
      by_cases q : pC ps n = 11
      · rw [z1 q]; omega
      · have := lo q
        rw [z2 q]; omega
    have l1 : (if pC ps n = 0 then 1 else 0) ≤ 1 := by split <;> omega
    refine mb_293 hF (by omega) (by omega) (by omega) (by omega) (hp _ _ _ rfl rfl ?_)
    by_cases q : pC ps n = 11
    · rw [z1 q, if_pos q]; rfl
    · rw [z2 q, if_neg q, hg0]
  refine mb_0 hF hK (mb_78 hF (by omega) hV (fun m hm => bnd_le hb hm) n1 n2 ?_)
  rw [gc1, gc2, gf1, gf2, gg1, gg2]
  unfold mbL
  have h12 : pC ps n ≤ 12 := o1
  by_cases q : pC ps n = 1
  · have q' : (pC ps n = 1) = True := eq_true q
    rw [if_pos q] at tail
    with_reducible refine xm_go_blk b_X12_bound_180 k_X12_bound_180 ?_
    refine by_lstore (by rw [ml_211]; decide) ?_
    refine by_lconst cl_1 ?_
    refine by_iload_n rfl ?_
    refine by_iconst ci_1 ?_
    refine by_ic_ne 198 rfl ?_
    simp (disch := first | exact Nat.ne_of_beq_eq_false rfl | exact rfl | omega) only [nI_add, xa_sub, xa_mul, pk_div, nm_mod, xa_shr, xa_and7, xa_and1, xa_and255, xa_by_and, nI_m1, Nat.add_sub_cancel, Nat.reducePow, Nat.zero_add, Nat.add_zero, Nat.reduceAdd, Nat.reduceMul, Nat.reduceSub, xf_same, xq_ff, xq_fo, xf_1, xf_2, xs_1, xs_2, xs_same, xq_so, xj_1, xj_2, xj_same, xq_jo, xq_sa1, xq_same, xq_other, upd_s, oI_n, oI_s, xv_0, xv_1, xv_2, xv_3, xm_p1, xm_p2, xq_fp, xq_fn, List.filter_nil, Nat.reduceBEq, Bool.not_true, Bool.not_false, Bool.and_true, Bool.and_false, Bool.false_and, Bool.true_and, if_true, if_false, Bool.false_eq_true, reduceIte, xc_i, xc_j, xc_r, xc_n, List.nil_append, List.cons_append, Option.toList_some, Option.toList_none, nI_ltJ, nI_leJ, nI_eqJ, nI_ltz, nI_gez, nI_gtz, nI_lez, nI_eqz, m1_ltz, m1_gez, true_imp_iff, false_imp_iff, true_and, and_true, ne_eq, not_false_eq_true, not_true_eq_false, Nat.reduceEqDiff, Nat.reduceLT, Nat.reduceLeDiff, q']
    with_reducible refine xm_go_blk b_X12_bound_188 k_X12_bound_188 ?_
    refine by_lload rfl ?_
    refine by_lload rfl ?_
    refine by_ins2 cn_211 lk_12_396 (by rw [xe_cnt]; decide) is_247 np_247 (Nat.le_of_ble_eq_true rfl) ?_
    refine sp_larger (by omega) (by omega) ?_
    with_reducible refine xm_go_blk b_X12_bound_195 k_X12_bound_195 ?_
    refine by_goto 203 rfl ?_
    exact xm_go_wk (by simp [Value.category]) (tail _ rfl)
  · have q' : (pC ps n = 1) = False := eq_false q
    rw [if_neg q] at tail
    with_reducible refine xm_go_blk b_X12_bound_180 k_X12_bound_180 ?_
    refine by_lstore (by rw [ml_211]; decide) ?_
    refine by_lconst cl_1 ?_
    refine by_iload_n rfl ?_
    refine by_iconst ci_1 ?_
    refine by_ic_ne 198 rfl ?_
    simp (disch := first | exact Nat.ne_of_beq_eq_false rfl | exact rfl | omega) only [nI_add, xa_sub, xa_mul, pk_div, nm_mod, xa_shr, xa_and7, xa_and1, xa_and255, xa_by_and, nI_m1, Nat.add_sub_cancel, Nat.reducePow, Nat.zero_add, Nat.add_zero, Nat.reduceAdd, Nat.reduceMul, Nat.reduceSub, xf_same, xq_ff, xq_fo, xf_1, xf_2, xs_1, xs_2, xs_same, xq_so, xj_1, xj_2, xj_same, xq_jo, xq_sa1, xq_same, xq_other, upd_s, oI_n, oI_s, xv_0, xv_1, xv_2, xv_3, xm_p1, xm_p2, xq_fp, xq_fn, List.filter_nil, Nat.reduceBEq, Bool.not_true, Bool.not_false, Bool.and_true, Bool.and_false, Bool.false_and, Bool.true_and, if_true, if_false, Bool.false_eq_true, reduceIte, xc_i, xc_j, xc_r, xc_n, List.nil_append, List.cons_append, Option.toList_some, Option.toList_none, nI_ltJ, nI_leJ, nI_eqJ, nI_ltz, nI_gez, nI_gtz, nI_lez, nI_eqz, m1_ltz, m1_gez, true_imp_iff, false_imp_iff, true_and, and_true, ne_eq, not_false_eq_true, not_true_eq_false, Nat.reduceEqDiff, Nat.reduceLT, Nat.reduceLeDiff, q', lN_pl]
    with_reducible refine xm_go_blk b_X12_bound_198 k_X12_bound_198 ?_
    refine by_lload rfl ?_
    refine by_lload rfl ?_
    refine by_ladd ?_
    refine by_nil ?_
    simp (disch := first | exact Nat.ne_of_beq_eq_false rfl | exact rfl | omega) only [nI_add, xa_sub, xa_mul, pk_div, nm_mod, xa_shr, xa_and7, xa_and1, xa_and255, xa_by_and, nI_m1, Nat.add_sub_cancel, Nat.reducePow, Nat.zero_add, Nat.add_zero, Nat.reduceAdd, Nat.reduceMul, Nat.reduceSub, xf_same, xq_ff, xq_fo, xf_1, xf_2, xs_1, xs_2, xs_same, xq_so, xj_1, xj_2, xj_same, xq_jo, xq_sa1, xq_same, xq_other, upd_s, oI_n, oI_s, xv_0, xv_1, xv_2, xv_3, xm_p1, xm_p2, xq_fp, xq_fn, List.filter_nil, Nat.reduceBEq, Bool.not_true, Bool.not_false, Bool.and_true, Bool.and_false, Bool.false_and, Bool.true_and, if_true, if_false, Bool.false_eq_true, reduceIte, xc_i, xc_j, xc_r, xc_n, List.nil_append, List.cons_append, Option.toList_some, Option.toList_none, q', lN_pl]
    exact xm_go_wk (by simp [Value.category]) (tail _ rfl)
end MB
