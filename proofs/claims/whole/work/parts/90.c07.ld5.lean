/-! ===== Loader: a node whole; nodes ===== -/
section RDN
variable {sc : xm_Sc} {d pp a nh c : Nat} {l : List Nat} {h h' h2 : xm_H} {post : xm_Po} {ps : List pr_D} {hx : Nat → Nat}
theorem rdn_h (hC : ndC h pp ps hx nh) (hA : ldAd h h' pp ps.length 11 (8 * nh)) (hS : ldS h' pp l a 0) (hn : ps.length < 2000) (hnb : 261 * nh + 5 ≤ a) (hp : ∀ h'', ldNd h h'' pp l ps (pr_rest (by_bit l) (8 * l.length) ps.length 11 a) → post none h'') :
    xm_go (XE sc) (xm_T (XE sc) (d + 5)) 73 post 40 [(1, .int (nI 11)), (0, .ref 45)] [.int (nI ps.length)] h' := by
  have hS0 := hS
  obtain ⟨s1, hpp, s3, s4, s5, s6, s7, s8, s9, s10⟩ := hS0
  have hlen := s8.2.2.1
  have hp2 : ∀ h'', ldNd h h'' pp l ps (if a + 256 ≤ 8 * l.length then .ok ((11, none, none, 0, fun k => pb (by_bit l) (a + 32 * k) 32), a + 256) else .error 1) → post none h'' := hp
  with_reducible refine xm_go_blk b_X3_readNode_40 k_X3_readNode_40 ?_
  refine by_istore_n (by rw [ml_73]; decide) ?_
  refine by_iload_n rfl ?_
  refine by_bipush cb_6 ?_
  refine by_ic_gt 61 rfl ?_
  simp (disch := first | exact Nat.ne_of_beq_eq_false rfl | omega) only [nI_add, xa_sub, xa_mul, pk_div, nm_mod, xa_shr, xa_and7, xa_and1, xa_and255, xa_by_and, nI_m1, Nat.add_sub_cancel, Nat.reducePow, Nat.zero_add, Nat.add_zero, Nat.reduceAdd, Nat.reduceMul, Nat.reduceSub, xf_same, xq_ff, xq_fo, xf_1, xf_2, xs_1, xs_2, xs_same, xq_so, xj_1, xj_2, xj_same, xq_jo, xq_sa1, xq_same, xq_other, upd_s, oI_n, oI_s, xv_0, xv_1, xv_2, xv_3, xm_p1, xm_p2, List.filter_cons, List.filter_nil, Nat.reduceBEq, Bool.not_true, Bool.not_false, Bool.and_true, Bool.and_false, Bool.false_and, Bool.true_and, if_true, if_false, Bool.false_eq_true, reduceIte, xc_i, xc_j, xc_r, xc_n, List.nil_append, List.cons_append, Option.toList_some, Option.toList_none, nI_ltJ, nI_leJ, nI_eqJ, nI_ltz, nI_gez, nI_gtz, nI_lez, nI_eqz, m1_ltz, m1_gez, true_imp_iff, false_imp_iff, true_and, and_true, ne_eq, not_false_eq_true, not_true_eq_false, Nat.reduceEqDiff, Nat.reduceLT, Nat.reduceLeDiff]
  with_reducible refine xm_go_blk b_X3_readNode_61 k_X3_readNode_61 ?_
  refine by_iload_n rfl ?_
  refine by_iconst ci_2 ?_
  refine by_ic_gt 87 rfl ?_
  simp (disch := first | exact Nat.ne_of_beq_eq_false rfl | omega) only [nI_add, xa_sub, xa_mul, pk_div, nm_mod, xa_shr, xa_and7, xa_and1, xa_and255, xa_by_and, nI_m1, Nat.add_sub_cancel, Nat.reducePow, Nat.zero_add, Nat.add_zero, Nat.reduceAdd, Nat.reduceMul, Nat.reduceSub, xf_same, xq_ff, xq_fo, xf_1, xf_2, xs_1, xs_2, xs_same, xq_so, xj_1, xj_2, xj_same, xq_jo, xq_sa1, xq_same, xq_other, upd_s, oI_n, oI_s, xv_0, xv_1, xv_2, xv_3, xm_p1, xm_p2, List.filter_cons, List.filter_nil, Nat.reduceBEq, Bool.not_true, Bool.not_false, Bool.and_true, Bool.and_false, Bool.false_and, Bool.true_and, if_true, if_false, Bool.false_eq_true, reduceIte, xc_i, xc_j, xc_r, xc_n, List.nil_append, List.cons_append, Option.toList_some, Option.toList_none, nI_ltJ, nI_leJ, nI_eqJ, nI_ltz, nI_gez, nI_gtz, nI_lez, nI_eqz, m1_ltz, m1_gez, true_imp_iff, false_imp_iff, true_and, and_true, ne_eq, not_false_eq_true, not_true_eq_false, Nat.reduceEqDiff, Nat.reduceLT, Nat.reduceLeDiff]
  with_reducible refine xm_go_blk b_X3_readNode_87 k_X3_readNode_87 ?_
  refine by_iload_n rfl ?_
  refine by_bipush cb_11 ?_
  refine by_ic_ne 98 rfl ?_
  simp (disch := first | exact Nat.ne_of_beq_eq_false rfl | omega) only [nI_add, xa_sub, xa_mul, pk_div, nm_mod, xa_shr, xa_and7, xa_and1, xa_and255, xa_by_and, nI_m1, Nat.add_sub_cancel, Nat.reducePow, Nat.zero_add, Nat.add_zero, Nat.reduceAdd, Nat.reduceMul, Nat.reduceSub, xf_same, xq_ff, xq_fo, xf_1, xf_2, xs_1, xs_2, xs_same, xq_so, xj_1, xj_2, xj_same, xq_jo, xq_sa1, xq_same, xq_other, upd_s, oI_n, oI_s, xv_0, xv_1, xv_2, xv_3, xm_p1, xm_p2, List.filter_cons, List.filter_nil, Nat.reduceBEq, Bool.not_true, Bool.not_false, Bool.and_true, Bool.and_false, Bool.false_and, Bool.true_and, if_true, if_false, Bool.false_eq_true, reduceIte, xc_i, xc_j, xc_r, xc_n, List.nil_append, List.cons_append, Option.toList_some, Option.toList_none, nI_ltJ, nI_leJ, nI_eqJ, nI_ltz, nI_gez, nI_gtz, nI_lez, nI_eqz, m1_ltz, m1_gez, true_imp_iff, false_imp_iff, true_and, and_true, ne_eq, not_false_eq_true, not_true_eq_false, Nat.reduceEqDiff, Nat.reduceLT, Nat.reduceLeDiff]
  with_reducible refine xm_go_blk b_X3_readNode_93 k_X3_readNode_93 ?_
  refine by_aload_n rfl ?_
  refine by_iload_n rfl ?_
  refine by_inv1 cn_73 lk_3_97 (by rw [xe_cnt]; decide) is_71 np_71 cn_71 (by first | exact rfl | assumption) (Nat.le_of_ble_eq_true rfl) ?_
  refine sp_rdH hn hS (by rw [hA.2.2.2.1, hC.2.1]) (by omega) (fun hle h3 hR hS3 => ?_) (fun hlt h3 a' hf hS3 => ?_)
  · with_reducible refine xm_go_blk b_X3_readNode_98 k_X3_readNode_98 ?_
    refine by_iload_n rfl ?_
    refine by_bipush cb_12 ?_
    refine by_ic_ne 146 rfl ?_
    simp (disch := first | exact Nat.ne_of_beq_eq_false rfl | omega) only [nI_add, xa_sub, xa_mul, pk_div, nm_mod, xa_shr, xa_and7, xa_and1, xa_and255, xa_by_and, nI_m1, Nat.add_sub_cancel, Nat.reducePow, Nat.zero_add, Nat.add_zero, Nat.reduceAdd, Nat.reduceMul, Nat.reduceSub, xf_same, xq_ff, xq_fo, xf_1, xf_2, xs_1, xs_2, xs_same, xq_so, xj_1, xj_2, xj_same, xq_jo, xq_sa1, xq_same, xq_other, upd_s, oI_n, oI_s, xv_0, xv_1, xv_2, xv_3, xm_p1, xm_p2, List.filter_cons, List.filter_nil, Nat.reduceBEq, Bool.not_true, Bool.not_false, Bool.and_true, Bool.and_false, Bool.false_and, Bool.true_and, if_true, if_false, Bool.false_eq_true, reduceIte, xc_i, xc_j, xc_r, xc_n, List.nil_append, List.cons_append, Option.toList_some, Option.toList_none, nI_ltJ, nI_leJ, nI_eqJ, nI_ltz, nI_gez, nI_gtz, nI_lez, nI_eqz, m1_ltz, m1_gez, true_imp_iff, false_imp_iff, true_and, and_true, ne_eq, not_false_eq_true, not_true_eq_false, Nat.reduceEqDiff, Nat.reduceLT, Nat.reduceLeDiff]
    with_reducible refine xm_go_blk b_X3_readNode_146 k_X3_readNode_146 ?_
    refine by_ret ry_73 ?_
    rw [if_pos hle] at hp2
    obtain ⟨a1, a2, a3, a4, a5, a6, a7, a8⟩ := hA
    obtain ⟨r1, r2, r3, r4, r5, r6, r7⟩ := hR
    refine hp2 _ ⟨Fr_tr a1 r1 (by simp) (by simp), hS3, _, nh + 1, ndC_new (hn := nh) hC ⟨fun j hj => ?_, fun k hk => by rw [r2.2 k hk, a2.2 k hk]⟩ (by rw [r4, a3]) r3 (by omega) (by omega) ⟨by rw [r5 _ (by omega) (by omega), a5], by rw [r5 _ (by omega) (by omega), a6]; rfl, by rw [r5 _ (by omega) (by omega), a7]; rfl, fun e => absurd rfl e, fun _ => ⟨r6, by omega, fun k hk => r7 k hk⟩⟩, by omega⟩
    obtain ⟨b1, b2, b3, b4⟩ := a2.1 j hj
    obtain ⟨c1, c2, c3, c4⟩ := r2.1 j hj
    exact ⟨by rw [c1, b1], by rw [c2, b2], by rw [c3, b3], by rw [c4, b4]⟩
  · with_reducible refine xm_go_blk b_X3_readNode_98 k_X3_readNode_98 ?_
    refine by_iload_n rfl ?_
    refine by_bipush cb_12 ?_
    refine by_ic_ne 146 rfl ?_
    simp (disch := first | exact Nat.ne_of_beq_eq_false rfl | omega) only [nI_add, xa_sub, xa_mul, pk_div, nm_mod, xa_shr, xa_and7, xa_and1, xa_and255, xa_by_and, nI_m1, Nat.add_sub_cancel, Nat.reducePow, Nat.zero_add, Nat.add_zero, Nat.reduceAdd, Nat.reduceMul, Nat.reduceSub, xf_same, xq_ff, xq_fo, xf_1, xf_2, xs_1, xs_2, xs_same, xq_so, xj_1, xj_2, xj_same, xq_jo, xq_sa1, xq_same, xq_other, upd_s, oI_n, oI_s, xv_0, xv_1, xv_2, xv_3, xm_p1, xm_p2, List.filter_cons, List.filter_nil, Nat.reduceBEq, Bool.not_true, Bool.not_false, Bool.and_true, Bool.and_false, Bool.false_and, Bool.true_and, if_true, if_false, Bool.false_eq_true, reduceIte, xc_i, xc_j, xc_r, xc_n, List.nil_append, List.cons_append, Option.toList_some, Option.toList_none, nI_ltJ, nI_leJ, nI_eqJ, nI_ltz, nI_gez, nI_gtz, nI_lez, nI_eqz, m1_ltz, m1_gez, true_imp_iff, false_imp_iff, true_and, and_true, ne_eq, not_false_eq_true, not_true_eq_false, Nat.reduceEqDiff, Nat.reduceLT, Nat.reduceLeDiff]
    with_reducible refine xm_go_blk b_X3_readNode_146 k_X3_readNode_146 ?_
    refine by_ret ry_73 ?_
    rw [if_neg (by omega)] at hp2
    exact hp2 _ ⟨Fr_tr hA.1 hf (by simp) (by simp), by decide, a', hS3⟩
theorem rdn_j (hC : ndC h pp ps hx nh) (hA : ldAd h h' pp ps.length 12 (8 * nh)) (hS : ldS h' pp l a 0) (hn : ps.length < 2000) (hnb : 261 * nh ≤ a) (hp : ∀ h'', ldNd h h'' pp l ps (pr_rest (by_bit l) (8 * l.length) ps.length 12 a) → post none h'') :
    xm_go (XE sc) (xm_T (XE sc) (d + 5)) 73 post 40 [(1, .int (nI 12)), (0, .ref 45)] [.int (nI ps.length)] h' := by
  have hS0 := hS
  obtain ⟨s1, hpp, s3, s4, s5, s6, s7, s8, s9, s10⟩ := hS0
  have hlen := s8.2.2.1
  have hp2 : ∀ h'', ldNd h h'' pp l ps (if a + 8 ≤ 8 * l.length then (if 167 < pb (by_bit l) a 8 then .error 2 else .ok ((12, none, none, pb (by_bit l) a 8, fun _ => 0), a + 8)) else .error 1) → post none h'' := hp
  have hb := pb_lt (by_bit_lt l) a 8
  obtain ⟨a1, a2, a3, a4, a5, a6, a7, a8⟩ := hA
  with_reducible refine xm_go_blk b_X3_readNode_40 k_X3_readNode_40 ?_
  refine by_istore_n (by rw [ml_73]; decide) ?_
  refine by_iload_n rfl ?_
  refine by_bipush cb_6 ?_
  refine by_ic_gt 61 rfl ?_
  simp (disch := first | exact Nat.ne_of_beq_eq_false rfl | omega) only [nI_add, xa_sub, xa_mul, pk_div, nm_mod, xa_shr, xa_and7, xa_and1, xa_and255, xa_by_and, nI_m1, Nat.add_sub_cancel, Nat.reducePow, Nat.zero_add, Nat.add_zero, Nat.reduceAdd, Nat.reduceMul, Nat.reduceSub, xf_same, xq_ff, xq_fo, xf_1, xf_2, xs_1, xs_2, xs_same, xq_so, xj_1, xj_2, xj_same, xq_jo, xq_sa1, xq_same, xq_other, upd_s, oI_n, oI_s, xv_0, xv_1, xv_2, xv_3, xm_p1, xm_p2, List.filter_cons, List.filter_nil, Nat.reduceBEq, Bool.not_true, Bool.not_false, Bool.and_true, Bool.and_false, Bool.false_and, Bool.true_and, if_true, if_false, Bool.false_eq_true, reduceIte, xc_i, xc_j, xc_r, xc_n, List.nil_append, List.cons_append, Option.toList_some, Option.toList_none, nI_ltJ, nI_leJ, nI_eqJ, nI_ltz, nI_gez, nI_gtz, nI_lez, nI_eqz, m1_ltz, m1_gez, true_imp_iff, false_imp_iff, true_and, and_true, ne_eq, not_false_eq_true, not_true_eq_false, Nat.reduceEqDiff, Nat.reduceLT, Nat.reduceLeDiff, s3, pf_4 s1 hpp]
  with_reducible refine xm_go_blk b_X3_readNode_61 k_X3_readNode_61 ?_
  refine by_iload_n rfl ?_
  refine by_iconst ci_2 ?_
  refine by_ic_gt 87 rfl ?_
  simp (disch := first | exact Nat.ne_of_beq_eq_false rfl | omega) only [nI_add, xa_sub, xa_mul, pk_div, nm_mod, xa_shr, xa_and7, xa_and1, xa_and255, xa_by_and, nI_m1, Nat.add_sub_cancel, Nat.reducePow, Nat.zero_add, Nat.add_zero, Nat.reduceAdd, Nat.reduceMul, Nat.reduceSub, xf_same, xq_ff, xq_fo, xf_1, xf_2, xs_1, xs_2, xs_same, xq_so, xj_1, xj_2, xj_same, xq_jo, xq_sa1, xq_same, xq_other, upd_s, oI_n, oI_s, xv_0, xv_1, xv_2, xv_3, xm_p1, xm_p2, List.filter_cons, List.filter_nil, Nat.reduceBEq, Bool.not_true, Bool.not_false, Bool.and_true, Bool.and_false, Bool.false_and, Bool.true_and, if_true, if_false, Bool.false_eq_true, reduceIte, xc_i, xc_j, xc_r, xc_n, List.nil_append, List.cons_append, Option.toList_some, Option.toList_none, nI_ltJ, nI_leJ, nI_eqJ, nI_ltz, nI_gez, nI_gtz, nI_lez, nI_eqz, m1_ltz, m1_gez, true_imp_iff, false_imp_iff, true_and, and_true, ne_eq, not_false_eq_true, not_true_eq_false, Nat.reduceEqDiff, Nat.reduceLT, Nat.reduceLeDiff, s3, pf_4 s1 hpp]
  with_reducible refine xm_go_blk b_X3_readNode_87 k_X3_readNode_87 ?_
  refine by_iload_n rfl ?_
  refine by_bipush cb_11 ?_
  refine by_ic_ne 98 rfl ?_
  simp (disch := first | exact Nat.ne_of_beq_eq_false rfl | omega) only [nI_add, xa_sub, xa_mul, pk_div, nm_mod, xa_shr, xa_and7, xa_and1, xa_and255, xa_by_and, nI_m1, Nat.add_sub_cancel, Nat.reducePow, Nat.zero_add, Nat.add_zero, Nat.reduceAdd, Nat.reduceMul, Nat.reduceSub, xf_same, xq_ff, xq_fo, xf_1, xf_2, xs_1, xs_2, xs_same, xq_so, xj_1, xj_2, xj_same, xq_jo, xq_sa1, xq_same, xq_other, upd_s, oI_n, oI_s, xv_0, xv_1, xv_2, xv_3, xm_p1, xm_p2, List.filter_cons, List.filter_nil, Nat.reduceBEq, Bool.not_true, Bool.not_false, Bool.and_true, Bool.and_false, Bool.false_and, Bool.true_and, if_true, if_false, Bool.false_eq_true, reduceIte, xc_i, xc_j, xc_r, xc_n, List.nil_append, List.cons_append, Option.toList_some, Option.toList_none, nI_ltJ, nI_leJ, nI_eqJ, nI_ltz, nI_gez, nI_gtz, nI_lez, nI_eqz, m1_ltz, m1_gez, true_imp_iff, false_imp_iff, true_and, and_true, ne_eq, not_false_eq_true, not_true_eq_false, Nat.reduceEqDiff, Nat.reduceLT, Nat.reduceLeDiff, s3, pf_4 s1 hpp]
  with_reducible refine xm_go_blk b_X3_readNode_98 k_X3_readNode_98 ?_
  refine by_iload_n rfl ?_
  refine by_bipush cb_12 ?_
  refine by_ic_ne 146 rfl ?_
  simp (disch := first | exact Nat.ne_of_beq_eq_false rfl | omega) only [nI_add, xa_sub, xa_mul, pk_div, nm_mod, xa_shr, xa_and7, xa_and1, xa_and255, xa_by_and, nI_m1, Nat.add_sub_cancel, Nat.reducePow, Nat.zero_add, Nat.add_zero, Nat.reduceAdd, Nat.reduceMul, Nat.reduceSub, xf_same, xq_ff, xq_fo, xf_1, xf_2, xs_1, xs_2, xs_same, xq_so, xj_1, xj_2, xj_same, xq_jo, xq_sa1, xq_same, xq_other, upd_s, oI_n, oI_s, xv_0, xv_1, xv_2, xv_3, xm_p1, xm_p2, List.filter_cons, List.filter_nil, Nat.reduceBEq, Bool.not_true, Bool.not_false, Bool.and_true, Bool.and_false, Bool.false_and, Bool.true_and, if_true, if_false, Bool.false_eq_true, reduceIte, xc_i, xc_j, xc_r, xc_n, List.nil_append, List.cons_append, Option.toList_some, Option.toList_none, nI_ltJ, nI_leJ, nI_eqJ, nI_ltz, nI_gez, nI_gtz, nI_lez, nI_eqz, m1_ltz, m1_gez, true_imp_iff, false_imp_iff, true_and, and_true, ne_eq, not_false_eq_true, not_true_eq_false, Nat.reduceEqDiff, Nat.reduceLT, Nat.reduceLeDiff, s3, pf_4 s1 hpp]
  with_reducible refine xm_go_blk b_X3_readNode_104 k_X3_readNode_104 ?_
  refine by_aload_n rfl ?_
  refine by_getf cn_73 fl_3_15 (by first | exact rfl | assumption) (by decide) ?_
  simp (disch := first | exact Nat.ne_of_beq_eq_false rfl | omega) only [nI_add, xa_sub, xa_mul, pk_div, nm_mod, xa_shr, xa_and7, xa_and1, xa_and255, xa_by_and, nI_m1, Nat.add_sub_cancel, Nat.reducePow, Nat.zero_add, Nat.add_zero, Nat.reduceAdd, Nat.reduceMul, Nat.reduceSub, xf_same, xq_ff, xq_fo, xf_1, xf_2, xs_1, xs_2, xs_same, xq_so, xj_1, xj_2, xj_same, xq_jo, xq_sa1, xq_same, xq_other, upd_s, oI_n, oI_s, s3, pf_4 s1 hpp]
  refine by_getf cn_73 fl_3_101 (by first | exact rfl | assumption | exact ps_0 hpp) (by decide) ?_
  refine by_iload_n rfl ?_
  refine by_aload_n rfl ?_
  refine by_bipush cb_8 ?_
  simp (disch := first | exact Nat.ne_of_beq_eq_false rfl | omega) only [nI_add, xa_sub, xa_mul, pk_div, nm_mod, xa_shr, xa_and7, xa_and1, xa_and255, xa_by_and, nI_m1, Nat.add_sub_cancel, Nat.reducePow, Nat.zero_add, Nat.add_zero, Nat.reduceAdd, Nat.reduceMul, Nat.reduceSub, xf_same, xq_ff, xq_fo, xf_1, xf_2, xs_1, xs_2, xs_same, xq_so, xj_1, xj_2, xj_same, xq_jo, xq_sa1, xq_same, xq_other, upd_s, oI_n, oI_s, xv_0, xv_1, xv_2, xv_3, xm_p1, xm_p2, List.filter_cons, List.filter_nil, Nat.reduceBEq, Bool.not_true, Bool.not_false, Bool.and_true, Bool.and_false, Bool.false_and, Bool.true_and, if_true, if_false, Bool.false_eq_true, reduceIte, xc_i, xc_j, xc_r, xc_n, List.nil_append, List.cons_append, Option.toList_some, Option.toList_none, s3, pf_4 s1 hpp]
  refine by_inv1 cn_73 lk_3_80 (by rw [xe_cnt]; decide) is_69 np_69 cn_69 (by first | exact rfl | assumption) (Nat.le_of_ble_eq_true rfl) ?_
  refine sp_rdB hS (by decide) (fun c => absurd rfl c) (fun _ hlt => ?_) (fun _ hle => ?_)
  · with_reducible refine xm_go_blk b_X3_readNode_118 k_X3_readNode_118 ?_
    refine by_iast (by first | exact rfl | assumption | exact ps_1 hpp | exact ps_2 hpp | exact ps_3 hpp | exact ps_4 hpp | exact ps_5 hpp | exact ps_6 hpp | exact ps_7 hpp | exact ps_8 hpp | exact ps_9 hpp | exact ps_10 hpp | exact ps_11 hpp | exact ps_15 hpp | exact ps_16 hpp | exact ps_17 hpp | exact ps_18 hpp | exact ps_19 hpp | exact ps_21 hpp | exact ps_22 hpp | exact ps_23 hpp | exact ps_24 hpp) ⟨by omega, by omega⟩ ?_
    refine by_aload_n rfl ?_
    refine by_getf cn_73 fl_3_47 (by first | exact rfl | assumption) (by decide) ?_
    simp (disch := first | exact Nat.ne_of_beq_eq_false rfl | omega) only [nI_add, xa_sub, xa_mul, pk_div, nm_mod, xa_shr, xa_and7, xa_and1, xa_and255, xa_by_and, nI_m1, Nat.add_sub_cancel, Nat.reducePow, Nat.zero_add, Nat.add_zero, Nat.reduceAdd, Nat.reduceMul, Nat.reduceSub, xf_same, xq_ff, xq_fo, xf_1, xf_2, xs_1, xs_2, xs_same, xq_so, xj_1, xj_2, xj_same, xq_jo, xq_sa1, xq_same, xq_other, upd_s, oI_n, oI_s]
    refine by_if_ne 146 rfl ?_
    simp (disch := first | exact Nat.ne_of_beq_eq_false rfl | omega) only [nI_add, xa_sub, xa_mul, pk_div, nm_mod, xa_shr, xa_and7, xa_and1, xa_and255, xa_by_and, nI_m1, Nat.add_sub_cancel, Nat.reducePow, Nat.zero_add, Nat.add_zero, Nat.reduceAdd, Nat.reduceMul, Nat.reduceSub, xf_same, xq_ff, xq_fo, xf_1, xf_2, xs_1, xs_2, xs_same, xq_so, xj_1, xj_2, xj_same, xq_jo, xq_sa1, xq_same, xq_other, upd_s, oI_n, oI_s, xv_0, xv_1, xv_2, xv_3, xm_p1, xm_p2, List.filter_cons, List.filter_nil, Nat.reduceBEq, Bool.not_true, Bool.not_false, Bool.and_true, Bool.and_false, Bool.false_and, Bool.true_and, if_true, if_false, Bool.false_eq_true, reduceIte, xc_i, xc_j, xc_r, xc_n, List.nil_append, List.cons_append, Option.toList_some, Option.toList_none, nI_ltJ, nI_leJ, nI_eqJ, nI_ltz, nI_gez, nI_gtz, nI_lez, nI_eqz, m1_ltz, m1_gez, true_imp_iff, false_imp_iff, true_and, and_true, ne_eq, not_false_eq_true, not_true_eq_false, Nat.reduceEqDiff, Nat.reduceLT, Nat.reduceLeDiff]
    with_reducible refine xm_go_blk b_X3_readNode_146 k_X3_readNode_146 ?_
    refine by_ret ry_73 ?_
    rw [if_neg (by omega)] at hp2
    exact hp2 _ ⟨Fr_si (Fr_sf a1 (by simp [ldT])) (by simp [ldR]), by decide, a, ldS_si (ldS_f hS (by decide)) (by omega)⟩
  · rw [if_pos hle] at hp2
    have hS1 := ldS_si (c := pp + 4) (j := ps.length) (x := nI (pb (by_bit l) a 8)) (ldS_a hS hle) (by omega)
    by_cases h167 : 167 < pb (by_bit l) a 8
    · with_reducible refine xm_go_blk b_X3_readNode_118 k_X3_readNode_118 ?_
      refine by_iast (by first | exact rfl | assumption | exact ps_1 hpp | exact ps_2 hpp | exact ps_3 hpp | exact ps_4 hpp | exact ps_5 hpp | exact ps_6 hpp | exact ps_7 hpp | exact ps_8 hpp | exact ps_9 hpp | exact ps_10 hpp | exact ps_11 hpp | exact ps_15 hpp | exact ps_16 hpp | exact ps_17 hpp | exact ps_18 hpp | exact ps_19 hpp | exact ps_21 hpp | exact ps_22 hpp | exact ps_23 hpp | exact ps_24 hpp) ⟨by omega, by omega⟩ ?_
      refine by_aload_n rfl ?_
      refine by_getf cn_73 fl_3_47 (by first | exact rfl | assumption) (by decide) ?_
      simp (disch := first | exact Nat.ne_of_beq_eq_false rfl | omega) only [nI_add, xa_sub, xa_mul, pk_div, nm_mod, xa_shr, xa_and7, xa_and1, xa_and255, xa_by_and, nI_m1, Nat.add_sub_cancel, Nat.reducePow, Nat.zero_add, Nat.add_zero, Nat.reduceAdd, Nat.reduceMul, Nat.reduceSub, xf_same, xq_ff, xq_fo, xf_1, xf_2, xs_1, xs_2, xs_same, xq_so, xj_1, xj_2, xj_same, xq_jo, xq_sa1, xq_same, xq_other, upd_s, oI_n, oI_s, s7, s3, pf_4 s1 hpp]
      refine by_if_ne 146 rfl ?_
      simp (disch := first | exact Nat.ne_of_beq_eq_false rfl | omega) only [nI_add, xa_sub, xa_mul, pk_div, nm_mod, xa_shr, xa_and7, xa_and1, xa_and255, xa_by_and, nI_m1, Nat.add_sub_cancel, Nat.reducePow, Nat.zero_add, Nat.add_zero, Nat.reduceAdd, Nat.reduceMul, Nat.reduceSub, xf_same, xq_ff, xq_fo, xf_1, xf_2, xs_1, xs_2, xs_same, xq_so, xj_1, xj_2, xj_same, xq_jo, xq_sa1, xq_same, xq_other, upd_s, oI_n, oI_s, xv_0, xv_1, xv_2, xv_3, xm_p1, xm_p2, List.filter_cons, List.filter_nil, Nat.reduceBEq, Bool.not_true, Bool.not_false, Bool.and_true, Bool.and_false, Bool.false_and, Bool.true_and, if_true, if_false, Bool.false_eq_true, reduceIte, xc_i, xc_j, xc_r, xc_n, List.nil_append, List.cons_append, Option.toList_some, Option.toList_none, nI_ltJ, nI_leJ, nI_eqJ, nI_ltz, nI_gez, nI_gtz, nI_lez, nI_eqz, m1_ltz, m1_gez, true_imp_iff, false_imp_iff, true_and, and_true, ne_eq, not_false_eq_true, not_true_eq_false, Nat.reduceEqDiff, Nat.reduceLT, Nat.reduceLeDiff, s7, s3, pf_4 s1 hpp]
      with_reducible refine xm_go_blk b_X3_readNode_126 k_X3_readNode_126 ?_
      refine by_aload_n rfl ?_
      refine by_getf cn_73 fl_3_15 (by first | exact rfl | assumption) (by decide) ?_
      simp (disch := first | exact Nat.ne_of_beq_eq_false rfl | omega) only [nI_add, xa_sub, xa_mul, pk_div, nm_mod, xa_shr, xa_and7, xa_and1, xa_and255, xa_by_and, nI_m1, Nat.add_sub_cancel, Nat.reducePow, Nat.zero_add, Nat.add_zero, Nat.reduceAdd, Nat.reduceMul, Nat.reduceSub, xf_same, xq_ff, xq_fo, xf_1, xf_2, xs_1, xs_2, xs_same, xq_so, xj_1, xj_2, xj_same, xq_jo, xq_sa1, xq_same, xq_other, upd_s, oI_n, oI_s, s7, s3, pf_4 s1 hpp]
      refine by_getf cn_73 fl_3_101 (by first | exact rfl | assumption | exact ps_0 hpp) (by decide) ?_
      refine by_iload_n rfl ?_
      simp (disch := first | exact Nat.ne_of_beq_eq_false rfl | omega) only [nI_add, xa_sub, xa_mul, pk_div, nm_mod, xa_shr, xa_and7, xa_and1, xa_and255, xa_by_and, nI_m1, Nat.add_sub_cancel, Nat.reducePow, Nat.zero_add, Nat.add_zero, Nat.reduceAdd, Nat.reduceMul, Nat.reduceSub, xf_same, xq_ff, xq_fo, xf_1, xf_2, xs_1, xs_2, xs_same, xq_so, xj_1, xj_2, xj_same, xq_jo, xq_sa1, xq_same, xq_other, upd_s, oI_n, oI_s, s7, s3, pf_4 s1 hpp]
      first | refine by_iald (by first | exact rfl | assumption | exact ps_1 hpp | exact ps_2 hpp | exact ps_3 hpp | exact ps_4 hpp | exact ps_5 hpp | exact ps_6 hpp | exact ps_7 hpp | exact ps_8 hpp | exact ps_9 hpp | exact ps_10 hpp | exact ps_11 hpp | exact ps_15 hpp | exact ps_16 hpp | exact ps_17 hpp | exact ps_18 hpp | exact ps_19 hpp | exact ps_21 hpp | exact ps_22 hpp | exact ps_23 hpp | exact ps_24 hpp) ⟨by omega, by omega⟩ ?_ | refine by_tald rfl rfl ⟨by omega, by omega⟩ ?_
      refine by_sipush cs_168 ?_
      refine by_ic_lt 146 rfl ?_
      simp (disch := first | exact Nat.ne_of_beq_eq_false rfl | omega) only [nI_add, xa_sub, xa_mul, pk_div, nm_mod, xa_shr, xa_and7, xa_and1, xa_and255, xa_by_and, nI_m1, Nat.add_sub_cancel, Nat.reducePow, Nat.zero_add, Nat.add_zero, Nat.reduceAdd, Nat.reduceMul, Nat.reduceSub, xf_same, xq_ff, xq_fo, xf_1, xf_2, xs_1, xs_2, xs_same, xq_so, xj_1, xj_2, xj_same, xq_jo, xq_sa1, xq_same, xq_other, upd_s, oI_n, oI_s, xv_0, xv_1, xv_2, xv_3, xm_p1, xm_p2, List.filter_cons, List.filter_nil, Nat.reduceBEq, Bool.not_true, Bool.not_false, Bool.and_true, Bool.and_false, Bool.false_and, Bool.true_and, if_true, if_false, Bool.false_eq_true, reduceIte, xc_i, xc_j, xc_r, xc_n, List.nil_append, List.cons_append, Option.toList_some, Option.toList_none, nI_ltJ, nI_leJ, nI_eqJ, nI_ltz, nI_gez, nI_gtz, nI_lez, nI_eqz, m1_ltz, m1_gez, true_imp_iff, false_imp_iff, true_and, and_true, ne_eq, not_false_eq_true, not_true_eq_false, Nat.reduceEqDiff, Nat.reduceLT, Nat.reduceLeDiff, s7, s3, pf_4 s1 hpp]
      refine ⟨fun c => absurd c (by omega), fun c126 => ?_⟩
      with_reducible refine xm_go_blk b_X3_readNode_141 k_X3_readNode_141 ?_
      refine by_aload_n rfl ?_
      refine by_iconst ci_2 ?_
      refine by_putf cn_73 fl_3_47 (by first | exact rfl | assumption) (by decide) nf_3_5 ft_3_5 (by first | rfl | assumption) (by first | rfl | assumption) ?_
      refine by_nil ?_
      with_reducible refine xm_go_blk b_X3_readNode_146 k_X3_readNode_146 ?_
      refine by_ret ry_73 ?_
      rw [if_pos h167] at hp2
      exact hp2 _ ⟨Fr_sf (Fr_si (Fr_sf a1 (by simp [ldT])) (by simp [ldR])) (by simp [ldT]), by decide, a + 8, ldS_f hS1 (by decide)⟩
    · with_reducible refine xm_go_blk b_X3_readNode_118 k_X3_readNode_118 ?_
      refine by_iast (by first | exact rfl | assumption | exact ps_1 hpp | exact ps_2 hpp | exact ps_3 hpp | exact ps_4 hpp | exact ps_5 hpp | exact ps_6 hpp | exact ps_7 hpp | exact ps_8 hpp | exact ps_9 hpp | exact ps_10 hpp | exact ps_11 hpp | exact ps_15 hpp | exact ps_16 hpp | exact ps_17 hpp | exact ps_18 hpp | exact ps_19 hpp | exact ps_21 hpp | exact ps_22 hpp | exact ps_23 hpp | exact ps_24 hpp) ⟨by omega, by omega⟩ ?_
      refine by_aload_n rfl ?_
      refine by_getf cn_73 fl_3_47 (by first | exact rfl | assumption) (by decide) ?_
      simp (disch := first | exact Nat.ne_of_beq_eq_false rfl | omega) only [nI_add, xa_sub, xa_mul, pk_div, nm_mod, xa_shr, xa_and7, xa_and1, xa_and255, xa_by_and, nI_m1, Nat.add_sub_cancel, Nat.reducePow, Nat.zero_add, Nat.add_zero, Nat.reduceAdd, Nat.reduceMul, Nat.reduceSub, xf_same, xq_ff, xq_fo, xf_1, xf_2, xs_1, xs_2, xs_same, xq_so, xj_1, xj_2, xj_same, xq_jo, xq_sa1, xq_same, xq_other, upd_s, oI_n, oI_s, s7, s3, pf_4 s1 hpp]
      refine by_if_ne 146 rfl ?_
      simp (disch := first | exact Nat.ne_of_beq_eq_false rfl | omega) only [nI_add, xa_sub, xa_mul, pk_div, nm_mod, xa_shr, xa_and7, xa_and1, xa_and255, xa_by_and, nI_m1, Nat.add_sub_cancel, Nat.reducePow, Nat.zero_add, Nat.add_zero, Nat.reduceAdd, Nat.reduceMul, Nat.reduceSub, xf_same, xq_ff, xq_fo, xf_1, xf_2, xs_1, xs_2, xs_same, xq_so, xj_1, xj_2, xj_same, xq_jo, xq_sa1, xq_same, xq_other, upd_s, oI_n, oI_s, xv_0, xv_1, xv_2, xv_3, xm_p1, xm_p2, List.filter_cons, List.filter_nil, Nat.reduceBEq, Bool.not_true, Bool.not_false, Bool.and_true, Bool.and_false, Bool.false_and, Bool.true_and, if_true, if_false, Bool.false_eq_true, reduceIte, xc_i, xc_j, xc_r, xc_n, List.nil_append, List.cons_append, Option.toList_some, Option.toList_none, nI_ltJ, nI_leJ, nI_eqJ, nI_ltz, nI_gez, nI_gtz, nI_lez, nI_eqz, m1_ltz, m1_gez, true_imp_iff, false_imp_iff, true_and, and_true, ne_eq, not_false_eq_true, not_true_eq_false, Nat.reduceEqDiff, Nat.reduceLT, Nat.reduceLeDiff, s7, s3, pf_4 s1 hpp]
      with_reducible refine xm_go_blk b_X3_readNode_126 k_X3_readNode_126 ?_
      refine by_aload_n rfl ?_
      refine by_getf cn_73 fl_3_15 (by first | exact rfl | assumption) (by decide) ?_
      simp (disch := first | exact Nat.ne_of_beq_eq_false rfl | omega) only [nI_add, xa_sub, xa_mul, pk_div, nm_mod, xa_shr, xa_and7, xa_and1, xa_and255, xa_by_and, nI_m1, Nat.add_sub_cancel, Nat.reducePow, Nat.zero_add, Nat.add_zero, Nat.reduceAdd, Nat.reduceMul, Nat.reduceSub, xf_same, xq_ff, xq_fo, xf_1, xf_2, xs_1, xs_2, xs_same, xq_so, xj_1, xj_2, xj_same, xq_jo, xq_sa1, xq_same, xq_other, upd_s, oI_n, oI_s, s7, s3, pf_4 s1 hpp]
      refine by_getf cn_73 fl_3_101 (by first | exact rfl | assumption | exact ps_0 hpp) (by decide) ?_
      refine by_iload_n rfl ?_
      simp (disch := first | exact Nat.ne_of_beq_eq_false rfl | omega) only [nI_add, xa_sub, xa_mul, pk_div, nm_mod, xa_shr, xa_and7, xa_and1, xa_and255, xa_by_and, nI_m1, Nat.add_sub_cancel, Nat.reducePow, Nat.zero_add, Nat.add_zero, Nat.reduceAdd, Nat.reduceMul, Nat.reduceSub, xf_same, xq_ff, xq_fo, xf_1, xf_2, xs_1, xs_2, xs_same, xq_so, xj_1, xj_2, xj_same, xq_jo, xq_sa1, xq_same, xq_other, upd_s, oI_n, oI_s, s7, s3, pf_4 s1 hpp]
      first | refine by_iald (by first | exact rfl | assumption | exact ps_1 hpp | exact ps_2 hpp | exact ps_3 hpp | exact ps_4 hpp | exact ps_5 hpp | exact ps_6 hpp | exact ps_7 hpp | exact ps_8 hpp | exact ps_9 hpp | exact ps_10 hpp | exact ps_11 hpp | exact ps_15 hpp | exact ps_16 hpp | exact ps_17 hpp | exact ps_18 hpp | exact ps_19 hpp | exact ps_21 hpp | exact ps_22 hpp | exact ps_23 hpp | exact ps_24 hpp) ⟨by omega, by omega⟩ ?_ | refine by_tald rfl rfl ⟨by omega, by omega⟩ ?_
      refine by_sipush cs_168 ?_
      refine by_ic_lt 146 rfl ?_
      simp (disch := first | exact Nat.ne_of_beq_eq_false rfl | omega) only [nI_add, xa_sub, xa_mul, pk_div, nm_mod, xa_shr, xa_and7, xa_and1, xa_and255, xa_by_and, nI_m1, Nat.add_sub_cancel, Nat.reducePow, Nat.zero_add, Nat.add_zero, Nat.reduceAdd, Nat.reduceMul, Nat.reduceSub, xf_same, xq_ff, xq_fo, xf_1, xf_2, xs_1, xs_2, xs_same, xq_so, xj_1, xj_2, xj_same, xq_jo, xq_sa1, xq_same, xq_other, upd_s, oI_n, oI_s, xv_0, xv_1, xv_2, xv_3, xm_p1, xm_p2, List.filter_cons, List.filter_nil, Nat.reduceBEq, Bool.not_true, Bool.not_false, Bool.and_true, Bool.and_false, Bool.false_and, Bool.true_and, if_true, if_false, Bool.false_eq_true, reduceIte, xc_i, xc_j, xc_r, xc_n, List.nil_append, List.cons_append, Option.toList_some, Option.toList_none, nI_ltJ, nI_leJ, nI_eqJ, nI_ltz, nI_gez, nI_gtz, nI_lez, nI_eqz, m1_ltz, m1_gez, true_imp_iff, false_imp_iff, true_and, and_true, ne_eq, not_false_eq_true, not_true_eq_false, Nat.reduceEqDiff, Nat.reduceLT, Nat.reduceLeDiff, s7, s3, pf_4 s1 hpp]
      refine ⟨fun c126 => ?_, fun c => absurd (by omega) c⟩
      with_reducible refine xm_go_blk b_X3_readNode_146 k_X3_readNode_146 ?_
      refine by_ret ry_73 ?_
      rw [if_neg h167] at hp2
      refine hp2 _ ⟨Fr_si (Fr_sf a1 (by simp [ldT])) (by simp [ldR]), hS1, _, nh, ndC_new (hn := 0) hC (SM_si (SM_sf a2) (by omega)) (by rw [xs_1, xq_fo (by omega)]; exact a3) (by rw [xs_1, xq_fo (by omega), a4, hC.2.1]) (Nat.le_refl _) hC.2.2.1 ⟨by rw [xq_so (by omega)]; exact a5, by rw [xq_so (by omega)]; exact a6, by rw [xq_so (by omega)]; exact a7, fun _ => by rw [xs_same, upd_s], fun e => absurd (show (12 : Nat) = 11 from e) (by decide)⟩, by omega⟩
theorem rdn_l (hC : ndC h pp ps hx nh) (hA : ldAd h h' pp ps.length c (8 * nh)) (hS : ldS h' pp l a 0) (hn : ps.length < 2000) (hnb : 261 * nh ≤ a) (hc : 6 < c) (hc2 : c ≤ 10) (hp : ∀ h'', ldNd h h'' pp l ps (pr_rest (by_bit l) (8 * l.length) ps.length c a) → post none h'') :
    xm_go (XE sc) (xm_T (XE sc) (d + 5)) 73 post 40 [(1, .int (nI c)), (0, .ref 45)] [.int (nI ps.length)] h' := by
  unfold pr_rest at hp
  rw [if_neg (by omega), if_neg (by omega), if_neg (by omega)] at hp
  with_reducible refine xm_go_blk b_X3_readNode_40 k_X3_readNode_40 ?_
  refine by_istore_n (by rw [ml_73]; decide) ?_
  refine by_iload_n rfl ?_
  refine by_bipush cb_6 ?_
  refine by_ic_gt 61 rfl ?_
  simp (disch := first | exact Nat.ne_of_beq_eq_false rfl | omega) only [nI_add, xa_sub, xa_mul, pk_div, nm_mod, xa_shr, xa_and7, xa_and1, xa_and255, xa_by_and, nI_m1, Nat.add_sub_cancel, Nat.reducePow, Nat.zero_add, Nat.add_zero, Nat.reduceAdd, Nat.reduceMul, Nat.reduceSub, xf_same, xq_ff, xq_fo, xf_1, xf_2, xs_1, xs_2, xs_same, xq_so, xj_1, xj_2, xj_same, xq_jo, xq_sa1, xq_same, xq_other, upd_s, oI_n, oI_s, xv_0, xv_1, xv_2, xv_3, xm_p1, xm_p2, List.filter_cons, List.filter_nil, Nat.reduceBEq, Bool.not_true, Bool.not_false, Bool.and_true, Bool.and_false, Bool.false_and, Bool.true_and, if_true, if_false, Bool.false_eq_true, reduceIte, xc_i, xc_j, xc_r, xc_n, List.nil_append, List.cons_append, Option.toList_some, Option.toList_none, nI_ltJ, nI_leJ, nI_eqJ, nI_ltz, nI_gez, nI_gtz, nI_lez, nI_eqz, m1_ltz, m1_gez, true_imp_iff, false_imp_iff, true_and, and_true, ne_eq, not_false_eq_true, not_true_eq_false, Nat.reduceEqDiff, Nat.reduceLT, Nat.reduceLeDiff]
  refine ⟨fun c40 => ?_, fun c => absurd (by omega) c⟩
  with_reducible refine xm_go_blk b_X3_readNode_61 k_X3_readNode_61 ?_
  refine by_iload_n rfl ?_
  refine by_iconst ci_2 ?_
  refine by_ic_gt 87 rfl ?_
  simp (disch := first | exact Nat.ne_of_beq_eq_false rfl | omega) only [nI_add, xa_sub, xa_mul, pk_div, nm_mod, xa_shr, xa_and7, xa_and1, xa_and255, xa_by_and, nI_m1, Nat.add_sub_cancel, Nat.reducePow, Nat.zero_add, Nat.add_zero, Nat.reduceAdd, Nat.reduceMul, Nat.reduceSub, xf_same, xq_ff, xq_fo, xf_1, xf_2, xs_1, xs_2, xs_same, xq_so, xj_1, xj_2, xj_same, xq_jo, xq_sa1, xq_same, xq_other, upd_s, oI_n, oI_s, xv_0, xv_1, xv_2, xv_3, xm_p1, xm_p2, List.filter_cons, List.filter_nil, Nat.reduceBEq, Bool.not_true, Bool.not_false, Bool.and_true, Bool.and_false, Bool.false_and, Bool.true_and, if_true, if_false, Bool.false_eq_true, reduceIte, xc_i, xc_j, xc_r, xc_n, List.nil_append, List.cons_append, Option.toList_some, Option.toList_none, nI_ltJ, nI_leJ, nI_eqJ, nI_ltz, nI_gez, nI_gtz, nI_lez, nI_eqz, m1_ltz, m1_gez, true_imp_iff, false_imp_iff, true_and, and_true, ne_eq, not_false_eq_true, not_true_eq_false, Nat.reduceEqDiff, Nat.reduceLT, Nat.reduceLeDiff]
  refine ⟨fun c61 => ?_, fun c => absurd (by omega) c⟩
  exact rdn_87 hc2 (hp _ (rdn_0 hC hA hS hnb (by omega)))
theorem sp_rdNode (hC : ndC h pp ps hx nh) (hS : ldS h pp l a 0) (hn : ps.length < 2000) (hnb : 261 * nh ≤ a) (hp : ∀ h', ldNd h h' pp l ps (pr_node (by_bit l) (8 * l.length) ps.length a) → post none h') :
    xm_T (XE sc) (d + 6) 73 [.ref 45] h post := by
  have hS0 := hS
  obtain ⟨s1, hpp, s3, s4, s5, s6, s7, s8, s9, s10⟩ := hS0
  have hlen := s8.2.2.1
  refine xq_in rfl ?_
  simp only [xq_a0, xq_aI, xq_aJ, xq_aR, Nat.reduceAdd]
  with_reducible refine xm_go_blk b_X3_readNode_0 k_X3_readNode_0 ?_
  refine by_aload_n rfl ?_
  refine by_iconst ci_5 ?_
  refine by_inv1 cn_73 lk_3_80 (by rw [xe_cnt]; decide) is_69 np_69 cn_69 (by first | exact rfl | assumption) (Nat.le_of_ble_eq_true rfl) ?_
  refine sp_rdB hS (by decide) (fun c => absurd rfl c) (fun _ hlt => ?_) (fun _ hle => ?_)
  · with_reducible refine xm_go_blk b_X3_readNode_5 k_X3_readNode_5 ?_
    refine by_istore_n (by rw [ml_73]; decide) ?_
    refine by_aload_n rfl ?_
    refine by_getf cn_73 fl_3_47 (by first | exact rfl | assumption) (by decide) ?_
    simp (disch := first | exact Nat.ne_of_beq_eq_false rfl | omega) only [nI_add, xa_sub, xa_mul, pk_div, nm_mod, xa_shr, xa_and7, xa_and1, xa_and255, xa_by_and, nI_m1, Nat.add_sub_cancel, Nat.reducePow, Nat.zero_add, Nat.add_zero, Nat.reduceAdd, Nat.reduceMul, Nat.reduceSub, xf_same, xq_ff, xq_fo, xf_1, xf_2, xs_1, xs_2, xs_same, xq_so, xj_1, xj_2, xj_same, xq_jo, xq_sa1, xq_same, xq_other, upd_s, oI_n, oI_s]
    refine by_if_ne 24 rfl ?_
    simp (disch := first | exact Nat.ne_of_beq_eq_false rfl | omega) only [nI_add, xa_sub, xa_mul, pk_div, nm_mod, xa_shr, xa_and7, xa_and1, xa_and255, xa_by_and, nI_m1, Nat.add_sub_cancel, Nat.reducePow, Nat.zero_add, Nat.add_zero, Nat.reduceAdd, Nat.reduceMul, Nat.reduceSub, xf_same, xq_ff, xq_fo, xf_1, xf_2, xs_1, xs_2, xs_same, xq_so, xj_1, xj_2, xj_same, xq_jo, xq_sa1, xq_same, xq_other, upd_s, oI_n, oI_s, xv_0, xv_1, xv_2, xv_3, xm_p1, xm_p2, List.filter_cons, List.filter_nil, Nat.reduceBEq, Bool.not_true, Bool.not_false, Bool.and_true, Bool.and_false, Bool.false_and, Bool.true_and, if_true, if_false, Bool.false_eq_true, reduceIte, xc_i, xc_j, xc_r, xc_n, List.nil_append, List.cons_append, Option.toList_some, Option.toList_none, nI_ltJ, nI_leJ, nI_eqJ, nI_ltz, nI_gez, nI_gtz, nI_lez, nI_eqz, m1_ltz, m1_gez, true_imp_iff, false_imp_iff, true_and, and_true, ne_eq, not_false_eq_true, not_true_eq_false, Nat.reduceEqDiff, Nat.reduceLT, Nat.reduceLeDiff]
    with_reducible refine xm_go_blk b_X3_readNode_24 k_X3_readNode_24 ?_
    refine by_aload_n rfl ?_
    refine by_getf cn_73 fl_3_47 (by first | exact rfl | assumption) (by decide) ?_
    simp (disch := first | exact Nat.ne_of_beq_eq_false rfl | omega) only [nI_add, xa_sub, xa_mul, pk_div, nm_mod, xa_shr, xa_and7, xa_and1, xa_and255, xa_by_and, nI_m1, Nat.add_sub_cancel, Nat.reducePow, Nat.zero_add, Nat.add_zero, Nat.reduceAdd, Nat.reduceMul, Nat.reduceSub, xf_same, xq_ff, xq_fo, xf_1, xf_2, xs_1, xs_2, xs_same, xq_so, xj_1, xj_2, xj_same, xq_jo, xq_sa1, xq_same, xq_other, upd_s, oI_n, oI_s]
    refine by_if_eq 32 rfl ?_
    simp (disch := first | exact Nat.ne_of_beq_eq_false rfl | omega) only [nI_add, xa_sub, xa_mul, pk_div, nm_mod, xa_shr, xa_and7, xa_and1, xa_and255, xa_by_and, nI_m1, Nat.add_sub_cancel, Nat.reducePow, Nat.zero_add, Nat.add_zero, Nat.reduceAdd, Nat.reduceMul, Nat.reduceSub, xf_same, xq_ff, xq_fo, xf_1, xf_2, xs_1, xs_2, xs_same, xq_so, xj_1, xj_2, xj_same, xq_jo, xq_sa1, xq_same, xq_other, upd_s, oI_n, oI_s, xv_0, xv_1, xv_2, xv_3, xm_p1, xm_p2, List.filter_cons, List.filter_nil, Nat.reduceBEq, Bool.not_true, Bool.not_false, Bool.and_true, Bool.and_false, Bool.false_and, Bool.true_and, if_true, if_false, Bool.false_eq_true, reduceIte, xc_i, xc_j, xc_r, xc_n, List.nil_append, List.cons_append, Option.toList_some, Option.toList_none, nI_ltJ, nI_leJ, nI_eqJ, nI_ltz, nI_gez, nI_gtz, nI_lez, nI_eqz, m1_ltz, m1_gez, true_imp_iff, false_imp_iff, true_and, and_true, ne_eq, not_false_eq_true, not_true_eq_false, Nat.reduceEqDiff, Nat.reduceLT, Nat.reduceLeDiff]
    with_reducible refine xm_go_blk b_X3_readNode_31 k_X3_readNode_31 ?_
    refine by_ret ry_73 ?_
    refine hp _ ⟨Fr_sf Fr_rf (by simp [ldT]), ?_⟩
    unfold pr_node
    rw [if_neg (by omega)]
    exact ⟨by decide, a, ldS_f hS (by decide)⟩
  · have hb := pb_lt (by_bit_lt l) a 5
    have hS1 := ldS_a hS hle
    by_cases h12 : pb (by_bit l) a 5 ≤ 12
    · rw [pr_node_eq hle h12] at hp
      generalize pb (by_bit l) a 5 = c at *
      have h0 := hC.1
      with_reducible refine xm_go_blk b_X3_readNode_5 k_X3_readNode_5 ?_
      refine by_istore_n (by rw [ml_73]; decide) ?_
      refine by_aload_n rfl ?_
      refine by_getf cn_73 fl_3_47 (by first | exact rfl | assumption) (by decide) ?_
      simp (disch := first | exact Nat.ne_of_beq_eq_false rfl | omega) only [nI_add, xa_sub, xa_mul, pk_div, nm_mod, xa_shr, xa_and7, xa_and1, xa_and255, xa_by_and, nI_m1, Nat.add_sub_cancel, Nat.reducePow, Nat.zero_add, Nat.add_zero, Nat.reduceAdd, Nat.reduceMul, Nat.reduceSub, xf_same, xq_ff, xq_fo, xf_1, xf_2, xs_1, xs_2, xs_same, xq_so, xj_1, xj_2, xj_same, xq_jo, xq_sa1, xq_same, xq_other, upd_s, oI_n, oI_s, s7, s3, h0, pf_1 s1 hpp, pf_2 s1 hpp, pf_3 s1 hpp, pf_4 s1 hpp, pf_5 s1 hpp]
      refine by_if_ne 24 rfl ?_
      simp (disch := first | exact Nat.ne_of_beq_eq_false rfl | omega) only [nI_add, xa_sub, xa_mul, pk_div, nm_mod, xa_shr, xa_and7, xa_and1, xa_and255, xa_by_and, nI_m1, Nat.add_sub_cancel, Nat.reducePow, Nat.zero_add, Nat.add_zero, Nat.reduceAdd, Nat.reduceMul, Nat.reduceSub, xf_same, xq_ff, xq_fo, xf_1, xf_2, xs_1, xs_2, xs_same, xq_so, xj_1, xj_2, xj_same, xq_jo, xq_sa1, xq_same, xq_other, upd_s, oI_n, oI_s, xv_0, xv_1, xv_2, xv_3, xm_p1, xm_p2, List.filter_cons, List.filter_nil, Nat.reduceBEq, Bool.not_true, Bool.not_false, Bool.and_true, Bool.and_false, Bool.false_and, Bool.true_and, if_true, if_false, Bool.false_eq_true, reduceIte, xc_i, xc_j, xc_r, xc_n, List.nil_append, List.cons_append, Option.toList_some, Option.toList_none, nI_ltJ, nI_leJ, nI_eqJ, nI_ltz, nI_gez, nI_gtz, nI_lez, nI_eqz, m1_ltz, m1_gez, true_imp_iff, false_imp_iff, true_and, and_true, ne_eq, not_false_eq_true, not_true_eq_false, Nat.reduceEqDiff, Nat.reduceLT, Nat.reduceLeDiff, s7, s3, h0, pf_1 s1 hpp, pf_2 s1 hpp, pf_3 s1 hpp, pf_4 s1 hpp, pf_5 s1 hpp]
      with_reducible refine xm_go_blk b_X3_readNode_13 k_X3_readNode_13 ?_
      refine by_iload_n rfl ?_
      refine by_bipush cb_12 ?_
      refine by_ic_le 24 rfl ?_
      simp (disch := first | exact Nat.ne_of_beq_eq_false rfl | omega) only [nI_add, xa_sub, xa_mul, pk_div, nm_mod, xa_shr, xa_and7, xa_and1, xa_and255, xa_by_and, nI_m1, Nat.add_sub_cancel, Nat.reducePow, Nat.zero_add, Nat.add_zero, Nat.reduceAdd, Nat.reduceMul, Nat.reduceSub, xf_same, xq_ff, xq_fo, xf_1, xf_2, xs_1, xs_2, xs_same, xq_so, xj_1, xj_2, xj_same, xq_jo, xq_sa1, xq_same, xq_other, upd_s, oI_n, oI_s, xv_0, xv_1, xv_2, xv_3, xm_p1, xm_p2, List.filter_cons, List.filter_nil, Nat.reduceBEq, Bool.not_true, Bool.not_false, Bool.and_true, Bool.and_false, Bool.false_and, Bool.true_and, if_true, if_false, Bool.false_eq_true, reduceIte, xc_i, xc_j, xc_r, xc_n, List.nil_append, List.cons_append, Option.toList_some, Option.toList_none, nI_ltJ, nI_leJ, nI_eqJ, nI_ltz, nI_gez, nI_gtz, nI_lez, nI_eqz, m1_ltz, m1_gez, true_imp_iff, false_imp_iff, true_and, and_true, ne_eq, not_false_eq_true, not_true_eq_false, Nat.reduceEqDiff, Nat.reduceLT, Nat.reduceLeDiff, s7, s3, h0, pf_1 s1 hpp, pf_2 s1 hpp, pf_3 s1 hpp, pf_4 s1 hpp, pf_5 s1 hpp]
      refine ⟨fun c13 => ?_, fun c => absurd (by omega) c⟩
      with_reducible refine xm_go_blk b_X3_readNode_24 k_X3_readNode_24 ?_
      refine by_aload_n rfl ?_
      refine by_getf cn_73 fl_3_47 (by first | exact rfl | assumption) (by decide) ?_
      simp (disch := first | exact Nat.ne_of_beq_eq_false rfl | omega) only [nI_add, xa_sub, xa_mul, pk_div, nm_mod, xa_shr, xa_and7, xa_and1, xa_and255, xa_by_and, nI_m1, Nat.add_sub_cancel, Nat.reducePow, Nat.zero_add, Nat.add_zero, Nat.reduceAdd, Nat.reduceMul, Nat.reduceSub, xf_same, xq_ff, xq_fo, xf_1, xf_2, xs_1, xs_2, xs_same, xq_so, xj_1, xj_2, xj_same, xq_jo, xq_sa1, xq_same, xq_other, upd_s, oI_n, oI_s, s7, s3, h0, pf_1 s1 hpp, pf_2 s1 hpp, pf_3 s1 hpp, pf_4 s1 hpp, pf_5 s1 hpp]
      refine by_if_eq 32 rfl ?_
      simp (disch := first | exact Nat.ne_of_beq_eq_false rfl | omega) only [nI_add, xa_sub, xa_mul, pk_div, nm_mod, xa_shr, xa_and7, xa_and1, xa_and255, xa_by_and, nI_m1, Nat.add_sub_cancel, Nat.reducePow, Nat.zero_add, Nat.add_zero, Nat.reduceAdd, Nat.reduceMul, Nat.reduceSub, xf_same, xq_ff, xq_fo, xf_1, xf_2, xs_1, xs_2, xs_same, xq_so, xj_1, xj_2, xj_same, xq_jo, xq_sa1, xq_same, xq_other, upd_s, oI_n, oI_s, xv_0, xv_1, xv_2, xv_3, xm_p1, xm_p2, List.filter_cons, List.filter_nil, Nat.reduceBEq, Bool.not_true, Bool.not_false, Bool.and_true, Bool.and_false, Bool.false_and, Bool.true_and, if_true, if_false, Bool.false_eq_true, reduceIte, xc_i, xc_j, xc_r, xc_n, List.nil_append, List.cons_append, Option.toList_some, Option.toList_none, nI_ltJ, nI_leJ, nI_eqJ, nI_ltz, nI_gez, nI_gtz, nI_lez, nI_eqz, m1_ltz, m1_gez, true_imp_iff, false_imp_iff, true_and, and_true, ne_eq, not_false_eq_true, not_true_eq_false, Nat.reduceEqDiff, Nat.reduceLT, Nat.reduceLeDiff, s7, s3, h0, pf_1 s1 hpp, pf_2 s1 hpp, pf_3 s1 hpp, pf_4 s1 hpp, pf_5 s1 hpp]
      with_reducible refine xm_go_blk b_X3_readNode_32 k_X3_readNode_32 ?_
      refine by_aload_n rfl ?_
      refine by_getf cn_73 fl_3_15 (by first | exact rfl | assumption) (by decide) ?_
      refine by_iload_n rfl ?_
      simp (disch := first | exact Nat.ne_of_beq_eq_false rfl | omega) only [nI_add, xa_sub, xa_mul, pk_div, nm_mod, xa_shr, xa_and7, xa_and1, xa_and255, xa_by_and, nI_m1, Nat.add_sub_cancel, Nat.reducePow, Nat.zero_add, Nat.add_zero, Nat.reduceAdd, Nat.reduceMul, Nat.reduceSub, xf_same, xq_ff, xq_fo, xf_1, xf_2, xs_1, xs_2, xs_same, xq_so, xj_1, xj_2, xj_same, xq_jo, xq_sa1, xq_same, xq_other, upd_s, oI_n, oI_s, xv_0, xv_1, xv_2, xv_3, xm_p1, xm_p2, List.filter_cons, List.filter_nil, Nat.reduceBEq, Bool.not_true, Bool.not_false, Bool.and_true, Bool.and_false, Bool.false_and, Bool.true_and, if_true, if_false, Bool.false_eq_true, reduceIte, xc_i, xc_j, xc_r, xc_n, List.nil_append, List.cons_append, Option.toList_some, Option.toList_none, s7, s3, h0, pf_1 s1 hpp, pf_2 s1 hpp, pf_3 s1 hpp, pf_4 s1 hpp, pf_5 s1 hpp]
      refine by_inv1 cn_73 lk_3_84 (by rw [xe_cnt]; decide) is_98 np_98 cn_98 (by first | exact rfl | assumption | exact ps_0 hpp) (Nat.le_of_ble_eq_true rfl) ?_
      refine xq_in rfl ?_
      simp only [xq_a0, xq_aI, xq_aJ, xq_aR, Nat.reduceAdd]
      with_reducible refine xm_go_blk b_X6_add_0 k_X6_add_0 ?_
      refine by_aload_n rfl ?_
      refine by_getf cn_98 fl_6_59 (by first | exact rfl | assumption | exact ps_0 hpp) (by decide) ?_
      simp (disch := first | exact Nat.ne_of_beq_eq_false rfl | omega) only [nI_add, xa_sub, xa_mul, pk_div, nm_mod, xa_shr, xa_and7, xa_and1, xa_and255, xa_by_and, nI_m1, Nat.add_sub_cancel, Nat.reducePow, Nat.zero_add, Nat.add_zero, Nat.reduceAdd, Nat.reduceMul, Nat.reduceSub, xf_same, xq_ff, xq_fo, xf_1, xf_2, xs_1, xs_2, xs_same, xq_so, xj_1, xj_2, xj_same, xq_jo, xq_sa1, xq_same, xq_other, upd_s, oI_n, oI_s, s7, s3, h0, pf_1 s1 hpp, pf_2 s1 hpp, pf_3 s1 hpp, pf_4 s1 hpp, pf_5 s1 hpp]
      refine by_istore_n (by rw [ml_98]; decide) ?_
      refine by_aload_n rfl ?_
      refine by_getf cn_98 fl_6_9 (by first | exact rfl | assumption | exact ps_0 hpp) (by decide) ?_
      refine by_iload_n rfl ?_
      refine by_iload_n rfl ?_
      simp (disch := first | exact Nat.ne_of_beq_eq_false rfl | omega) only [nI_add, xa_sub, xa_mul, pk_div, nm_mod, xa_shr, xa_and7, xa_and1, xa_and255, xa_by_and, nI_m1, Nat.add_sub_cancel, Nat.reducePow, Nat.zero_add, Nat.add_zero, Nat.reduceAdd, Nat.reduceMul, Nat.reduceSub, xf_same, xq_ff, xq_fo, xf_1, xf_2, xs_1, xs_2, xs_same, xq_so, xj_1, xj_2, xj_same, xq_jo, xq_sa1, xq_same, xq_other, upd_s, oI_n, oI_s, s7, s3, h0, pf_1 s1 hpp, pf_2 s1 hpp, pf_3 s1 hpp, pf_4 s1 hpp, pf_5 s1 hpp]
      refine by_iast (by first | exact rfl | assumption | exact ps_1 hpp | exact ps_2 hpp | exact ps_3 hpp | exact ps_4 hpp | exact ps_5 hpp | exact ps_6 hpp | exact ps_7 hpp | exact ps_8 hpp | exact ps_9 hpp | exact ps_10 hpp | exact ps_11 hpp | exact ps_15 hpp | exact ps_16 hpp | exact ps_17 hpp | exact ps_18 hpp | exact ps_19 hpp | exact ps_21 hpp | exact ps_22 hpp | exact ps_23 hpp | exact ps_24 hpp) ⟨by omega, by omega⟩ ?_
      refine by_aload_n rfl ?_
      refine by_getf cn_98 fl_6_15 (by first | exact rfl | assumption | exact ps_0 hpp) (by decide) ?_
      refine by_iload_n rfl ?_
      refine by_iconst ci_m1 ?_
      simp (disch := first | exact Nat.ne_of_beq_eq_false rfl | omega) only [nI_add, xa_sub, xa_mul, pk_div, nm_mod, xa_shr, xa_and7, xa_and1, xa_and255, xa_by_and, nI_m1, Nat.add_sub_cancel, Nat.reducePow, Nat.zero_add, Nat.add_zero, Nat.reduceAdd, Nat.reduceMul, Nat.reduceSub, xf_same, xq_ff, xq_fo, xf_1, xf_2, xs_1, xs_2, xs_same, xq_so, xj_1, xj_2, xj_same, xq_jo, xq_sa1, xq_same, xq_other, upd_s, oI_n, oI_s, s7, s3, h0, pf_1 s1 hpp, pf_2 s1 hpp, pf_3 s1 hpp, pf_4 s1 hpp, pf_5 s1 hpp]
      refine by_iast (by first | exact rfl | assumption | exact ps_1 hpp | exact ps_2 hpp | exact ps_3 hpp | exact ps_4 hpp | exact ps_5 hpp | exact ps_6 hpp | exact ps_7 hpp | exact ps_8 hpp | exact ps_9 hpp | exact ps_10 hpp | exact ps_11 hpp | exact ps_15 hpp | exact ps_16 hpp | exact ps_17 hpp | exact ps_18 hpp | exact ps_19 hpp | exact ps_21 hpp | exact ps_22 hpp | exact ps_23 hpp | exact ps_24 hpp) ⟨by omega, by omega⟩ ?_
      refine by_aload_n rfl ?_
      refine by_getf cn_98 fl_6_18 (by first | exact rfl | assumption | exact ps_0 hpp) (by decide) ?_
      refine by_iload_n rfl ?_
      refine by_iconst ci_m1 ?_
      simp (disch := first | exact Nat.ne_of_beq_eq_false rfl | omega) only [nI_add, xa_sub, xa_mul, pk_div, nm_mod, xa_shr, xa_and7, xa_and1, xa_and255, xa_by_and, nI_m1, Nat.add_sub_cancel, Nat.reducePow, Nat.zero_add, Nat.add_zero, Nat.reduceAdd, Nat.reduceMul, Nat.reduceSub, xf_same, xq_ff, xq_fo, xf_1, xf_2, xs_1, xs_2, xs_same, xq_so, xj_1, xj_2, xj_same, xq_jo, xq_sa1, xq_same, xq_other, upd_s, oI_n, oI_s, s7, s3, h0, pf_1 s1 hpp, pf_2 s1 hpp, pf_3 s1 hpp, pf_4 s1 hpp, pf_5 s1 hpp]
      refine by_iast (by first | exact rfl | assumption | exact ps_1 hpp | exact ps_2 hpp | exact ps_3 hpp | exact ps_4 hpp | exact ps_5 hpp | exact ps_6 hpp | exact ps_7 hpp | exact ps_8 hpp | exact ps_9 hpp | exact ps_10 hpp | exact ps_11 hpp | exact ps_15 hpp | exact ps_16 hpp | exact ps_17 hpp | exact ps_18 hpp | exact ps_19 hpp | exact ps_21 hpp | exact ps_22 hpp | exact ps_23 hpp | exact ps_24 hpp) ⟨by omega, by omega⟩ ?_
      refine by_aload_n rfl ?_
      refine by_getf cn_98 fl_6_21 (by first | exact rfl | assumption | exact ps_0 hpp) (by decide) ?_
      refine by_iload_n rfl ?_
      refine by_iconst ci_0 ?_
      simp (disch := first | exact Nat.ne_of_beq_eq_false rfl | omega) only [nI_add, xa_sub, xa_mul, pk_div, nm_mod, xa_shr, xa_and7, xa_and1, xa_and255, xa_by_and, nI_m1, Nat.add_sub_cancel, Nat.reducePow, Nat.zero_add, Nat.add_zero, Nat.reduceAdd, Nat.reduceMul, Nat.reduceSub, xf_same, xq_ff, xq_fo, xf_1, xf_2, xs_1, xs_2, xs_same, xq_so, xj_1, xj_2, xj_same, xq_jo, xq_sa1, xq_same, xq_other, upd_s, oI_n, oI_s, s7, s3, h0, pf_1 s1 hpp, pf_2 s1 hpp, pf_3 s1 hpp, pf_4 s1 hpp, pf_5 s1 hpp]
      refine by_iast (by first | exact rfl | assumption | exact ps_1 hpp | exact ps_2 hpp | exact ps_3 hpp | exact ps_4 hpp | exact ps_5 hpp | exact ps_6 hpp | exact ps_7 hpp | exact ps_8 hpp | exact ps_9 hpp | exact ps_10 hpp | exact ps_11 hpp | exact ps_15 hpp | exact ps_16 hpp | exact ps_17 hpp | exact ps_18 hpp | exact ps_19 hpp | exact ps_21 hpp | exact ps_22 hpp | exact ps_23 hpp | exact ps_24 hpp) ⟨by omega, by omega⟩ ?_
      refine by_aload_n rfl ?_
      refine by_getf cn_98 fl_6_24 (by first | exact rfl | assumption | exact ps_0 hpp) (by decide) ?_
      refine by_iload_n rfl ?_
      refine by_iconst ci_0 ?_
      simp (disch := first | exact Nat.ne_of_beq_eq_false rfl | omega) only [nI_add, xa_sub, xa_mul, pk_div, nm_mod, xa_shr, xa_and7, xa_and1, xa_and255, xa_by_and, nI_m1, Nat.add_sub_cancel, Nat.reducePow, Nat.zero_add, Nat.add_zero, Nat.reduceAdd, Nat.reduceMul, Nat.reduceSub, xf_same, xq_ff, xq_fo, xf_1, xf_2, xs_1, xs_2, xs_same, xq_so, xj_1, xj_2, xj_same, xq_jo, xq_sa1, xq_same, xq_other, upd_s, oI_n, oI_s, s7, s3, h0, pf_1 s1 hpp, pf_2 s1 hpp, pf_3 s1 hpp, pf_4 s1 hpp, pf_5 s1 hpp]
      refine by_iast (by first | exact rfl | assumption | exact ps_1 hpp | exact ps_2 hpp | exact ps_3 hpp | exact ps_4 hpp | exact ps_5 hpp | exact ps_6 hpp | exact ps_7 hpp | exact ps_8 hpp | exact ps_9 hpp | exact ps_10 hpp | exact ps_11 hpp | exact ps_15 hpp | exact ps_16 hpp | exact ps_17 hpp | exact ps_18 hpp | exact ps_19 hpp | exact ps_21 hpp | exact ps_22 hpp | exact ps_23 hpp | exact ps_24 hpp) ⟨by omega, by omega⟩ ?_
      refine by_aload_n rfl ?_
      refine by_dup rfl ?_
      refine by_getf cn_98 fl_6_59 (by first | exact rfl | assumption | exact ps_0 hpp) (by decide) ?_
      refine by_iconst ci_1 ?_
      simp (disch := first | exact Nat.ne_of_beq_eq_false rfl | omega) only [nI_add, xa_sub, xa_mul, pk_div, nm_mod, xa_shr, xa_and7, xa_and1, xa_and255, xa_by_and, nI_m1, Nat.add_sub_cancel, Nat.reducePow, Nat.zero_add, Nat.add_zero, Nat.reduceAdd, Nat.reduceMul, Nat.reduceSub, xf_same, xq_ff, xq_fo, xf_1, xf_2, xs_1, xs_2, xs_same, xq_so, xj_1, xj_2, xj_same, xq_jo, xq_sa1, xq_same, xq_other, upd_s, oI_n, oI_s, s7, s3, h0, pf_1 s1 hpp, pf_2 s1 hpp, pf_3 s1 hpp, pf_4 s1 hpp, pf_5 s1 hpp]
      refine by_iadd ?_
      refine by_putf cn_98 fl_6_59 (by first | exact rfl | assumption | exact ps_0 hpp) (by decide) nf_6_0 ft_6_0 (by first | rfl | assumption) (by first | rfl | assumption) ?_
      refine by_iload_n rfl ?_
      simp (disch := first | exact Nat.ne_of_beq_eq_false rfl | omega) only [nI_add, xa_sub, xa_mul, pk_div, nm_mod, xa_shr, xa_and7, xa_and1, xa_and255, xa_by_and, nI_m1, Nat.add_sub_cancel, Nat.reducePow, Nat.zero_add, Nat.add_zero, Nat.reduceAdd, Nat.reduceMul, Nat.reduceSub, xf_same, xq_ff, xq_fo, xf_1, xf_2, xs_1, xs_2, xs_same, xq_so, xj_1, xj_2, xj_same, xq_jo, xq_sa1, xq_same, xq_other, upd_s, oI_n, oI_s, s7, s3, h0, pf_1 s1 hpp, pf_2 s1 hpp, pf_3 s1 hpp, pf_4 s1 hpp, pf_5 s1 hpp]
      refine by_iret ry_98 (by first | rfl | assumption) ?_
      have hS2 := ldS_si (c := pp + 5) (j := ps.length) (x := nI 0) (ldS_si (c := pp + 4) (j := ps.length) (x := nI 0) (ldS_si (c := pp + 3) (j := ps.length) (x := -1) (ldS_si (c := pp + 2) (j := ps.length) (x := -1) (ldS_si (c := pp + 1) (j := ps.length) (x := nI c) hS1 (by omega)) (by omega)) (by omega)) (by omega)) (by omega)
      have hS3 : ldS (xm_sf (xm_si (xm_si (xm_si (xm_si (xm_si (xm_sf h 45 3 (.int (nI (a + 5)))) (pp + 1) ps.length (nI c)) (pp + 2) ps.length (-1)) (pp + 3) ps.length (-1)) (pp + 4) ps.length (nI 0)) (pp + 5) ps.length (nI 0)) pp 0 (.int (nI (ps.length + 1)))) pp l (a + 5) 0 := by
        have h1 := Fr_sf (v := .int (nI (ps.length + 1))) (Fr_rf (S := []) (T := [(pp, 0)]) (h := (xm_si (xm_si (xm_si (xm_si (xm_si (xm_sf h 45 3 (.int (nI (a + 5)))) (pp + 1) ps.length (nI c)) (pp + 2) ps.length (-1)) (pp + 3) ps.length (-1)) (pp + 4) ps.length (nI 0)) (pp + 5) ps.length (nI 0)))) (by simp : (pp, 0) ∈ [(pp, 0)])
        exact ldS_fr hS2 h1 (by rcases hpp with rfl | rfl <;> decide +kernel) (by simp <;> omega) (by simp <;> omega) (by simp <;> omega) (by simp) (by simp) (by simp) (by rw [h1.2.2 _ _ (by simp <;> omega)]; exact hS2.2.2.2.2.1) (by rw [h1.2.2 _ _ (by simp <;> omega)]; exact hS2.2.2.2.2.2.2.1) hle (by omega)
      have hAd : ldAd h (xm_sf (xm_si (xm_si (xm_si (xm_si (xm_si (xm_sf h 45 3 (.int (nI (a + 5)))) (pp + 1) ps.length (nI c)) (pp + 2) ps.length (-1)) (pp + 3) ps.length (-1)) (pp + 4) ps.length (nI 0)) (pp + 5) ps.length (nI 0)) pp 0 (.int (nI (ps.length + 1)))) pp ps.length c (8 * nh) := by
        refine ⟨Fr_sf (Fr_si (Fr_si (Fr_si (Fr_si (Fr_si (Fr_sf Fr_rf (by simp [ldT])) (by simp [ldR])) (by simp [ldR])) (by simp [ldR])) (by simp [ldR])) (by simp [ldR])) (by simp [ldT]), SM_sf (SM_si (SM_si (SM_si (SM_si (SM_si (SM_sf SM_rf) (by omega)) (by omega)) (by omega)) (by omega)) (by omega)), xf_same, ?_, ?_, ?_, ?_, ?_⟩
        · simp (disch := omega) only [xq_ff, xs_1, xq_fo]
        · simp (disch := omega) only [xf_1, xq_so, xs_same, upd_s]
        · simp (disch := omega) only [xf_1, xq_so, xs_same, upd_s]
        · simp (disch := omega) only [xf_1, xq_so, xs_same, upd_s]
        · simp (disch := omega) only [xf_1, xq_so, xs_same, upd_s]
      by_cases h6 : c ≤ 6
      · exact rdn_c hC hAd hS3 hn (by omega) h6 hp
      · by_cases h11 : c = 11
        · subst h11
          exact rdn_h hC hAd hS3 hn (by omega) hp
        · by_cases h12' : c = 12
          · subst h12'
            exact rdn_j hC hAd hS3 hn (by omega) hp
          · exact rdn_l hC hAd hS3 hn (by omega) (by omega) (by omega) hp
    · with_reducible refine xm_go_blk b_X3_readNode_5 k_X3_readNode_5 ?_
      refine by_istore_n (by rw [ml_73]; decide) ?_
      refine by_aload_n rfl ?_
      refine by_getf cn_73 fl_3_47 (by first | exact rfl | assumption) (by decide) ?_
      simp (disch := first | exact Nat.ne_of_beq_eq_false rfl | omega) only [nI_add, xa_sub, xa_mul, pk_div, nm_mod, xa_shr, xa_and7, xa_and1, xa_and255, xa_by_and, nI_m1, Nat.add_sub_cancel, Nat.reducePow, Nat.zero_add, Nat.add_zero, Nat.reduceAdd, Nat.reduceMul, Nat.reduceSub, xf_same, xq_ff, xq_fo, xf_1, xf_2, xs_1, xs_2, xs_same, xq_so, xj_1, xj_2, xj_same, xq_jo, xq_sa1, xq_same, xq_other, upd_s, oI_n, oI_s, s7]
      refine by_if_ne 24 rfl ?_
      simp (disch := first | exact Nat.ne_of_beq_eq_false rfl | omega) only [nI_add, xa_sub, xa_mul, pk_div, nm_mod, xa_shr, xa_and7, xa_and1, xa_and255, xa_by_and, nI_m1, Nat.add_sub_cancel, Nat.reducePow, Nat.zero_add, Nat.add_zero, Nat.reduceAdd, Nat.reduceMul, Nat.reduceSub, xf_same, xq_ff, xq_fo, xf_1, xf_2, xs_1, xs_2, xs_same, xq_so, xj_1, xj_2, xj_same, xq_jo, xq_sa1, xq_same, xq_other, upd_s, oI_n, oI_s, xv_0, xv_1, xv_2, xv_3, xm_p1, xm_p2, List.filter_cons, List.filter_nil, Nat.reduceBEq, Bool.not_true, Bool.not_false, Bool.and_true, Bool.and_false, Bool.false_and, Bool.true_and, if_true, if_false, Bool.false_eq_true, reduceIte, xc_i, xc_j, xc_r, xc_n, List.nil_append, List.cons_append, Option.toList_some, Option.toList_none, nI_ltJ, nI_leJ, nI_eqJ, nI_ltz, nI_gez, nI_gtz, nI_lez, nI_eqz, m1_ltz, m1_gez, true_imp_iff, false_imp_iff, true_and, and_true, ne_eq, not_false_eq_true, not_true_eq_false, Nat.reduceEqDiff, Nat.reduceLT, Nat.reduceLeDiff, s7]
      with_reducible refine xm_go_blk b_X3_readNode_13 k_X3_readNode_13 ?_
      refine by_iload_n rfl ?_
      refine by_bipush cb_12 ?_
      refine by_ic_le 24 rfl ?_
      simp (disch := first | exact Nat.ne_of_beq_eq_false rfl | omega) only [nI_add, xa_sub, xa_mul, pk_div, nm_mod, xa_shr, xa_and7, xa_and1, xa_and255, xa_by_and, nI_m1, Nat.add_sub_cancel, Nat.reducePow, Nat.zero_add, Nat.add_zero, Nat.reduceAdd, Nat.reduceMul, Nat.reduceSub, xf_same, xq_ff, xq_fo, xf_1, xf_2, xs_1, xs_2, xs_same, xq_so, xj_1, xj_2, xj_same, xq_jo, xq_sa1, xq_same, xq_other, upd_s, oI_n, oI_s, xv_0, xv_1, xv_2, xv_3, xm_p1, xm_p2, List.filter_cons, List.filter_nil, Nat.reduceBEq, Bool.not_true, Bool.not_false, Bool.and_true, Bool.and_false, Bool.false_and, Bool.true_and, if_true, if_false, Bool.false_eq_true, reduceIte, xc_i, xc_j, xc_r, xc_n, List.nil_append, List.cons_append, Option.toList_some, Option.toList_none, nI_ltJ, nI_leJ, nI_eqJ, nI_ltz, nI_gez, nI_gtz, nI_lez, nI_eqz, m1_ltz, m1_gez, true_imp_iff, false_imp_iff, true_and, and_true, ne_eq, not_false_eq_true, not_true_eq_false, Nat.reduceEqDiff, Nat.reduceLT, Nat.reduceLeDiff, s7]
      refine ⟨fun c => absurd c (by omega), fun c13 => ?_⟩
      with_reducible refine xm_go_blk b_X3_readNode_19 k_X3_readNode_19 ?_
      refine by_aload_n rfl ?_
      refine by_iconst ci_2 ?_
      refine by_putf cn_73 fl_3_47 (by first | exact rfl | assumption) (by decide) nf_3_5 ft_3_5 (by first | rfl | assumption) (by first | rfl | assumption) ?_
      refine by_nil ?_
      with_reducible refine xm_go_blk b_X3_readNode_24 k_X3_readNode_24 ?_
      refine by_aload_n rfl ?_
      refine by_getf cn_73 fl_3_47 (by first | exact rfl | assumption) (by decide) ?_
      simp (disch := first | exact Nat.ne_of_beq_eq_false rfl | omega) only [nI_add, xa_sub, xa_mul, pk_div, nm_mod, xa_shr, xa_and7, xa_and1, xa_and255, xa_by_and, nI_m1, Nat.add_sub_cancel, Nat.reducePow, Nat.zero_add, Nat.add_zero, Nat.reduceAdd, Nat.reduceMul, Nat.reduceSub, xf_same, xq_ff, xq_fo, xf_1, xf_2, xs_1, xs_2, xs_same, xq_so, xj_1, xj_2, xj_same, xq_jo, xq_sa1, xq_same, xq_other, upd_s, oI_n, oI_s, s7]
      refine by_if_eq 32 rfl ?_
      simp (disch := first | exact Nat.ne_of_beq_eq_false rfl | omega) only [nI_add, xa_sub, xa_mul, pk_div, nm_mod, xa_shr, xa_and7, xa_and1, xa_and255, xa_by_and, nI_m1, Nat.add_sub_cancel, Nat.reducePow, Nat.zero_add, Nat.add_zero, Nat.reduceAdd, Nat.reduceMul, Nat.reduceSub, xf_same, xq_ff, xq_fo, xf_1, xf_2, xs_1, xs_2, xs_same, xq_so, xj_1, xj_2, xj_same, xq_jo, xq_sa1, xq_same, xq_other, upd_s, oI_n, oI_s, xv_0, xv_1, xv_2, xv_3, xm_p1, xm_p2, List.filter_cons, List.filter_nil, Nat.reduceBEq, Bool.not_true, Bool.not_false, Bool.and_true, Bool.and_false, Bool.false_and, Bool.true_and, if_true, if_false, Bool.false_eq_true, reduceIte, xc_i, xc_j, xc_r, xc_n, List.nil_append, List.cons_append, Option.toList_some, Option.toList_none, nI_ltJ, nI_leJ, nI_eqJ, nI_ltz, nI_gez, nI_gtz, nI_lez, nI_eqz, m1_ltz, m1_gez, true_imp_iff, false_imp_iff, true_and, and_true, ne_eq, not_false_eq_true, not_true_eq_false, Nat.reduceEqDiff, Nat.reduceLT, Nat.reduceLeDiff, s7]
      with_reducible refine xm_go_blk b_X3_readNode_31 k_X3_readNode_31 ?_
      refine by_ret ry_73 ?_
      refine hp _ ⟨Fr_sf (Fr_sf Fr_rf (by simp [ldT])) (by simp [ldT]), ?_⟩
      unfold pr_node
      rw [if_pos hle]
      simp only [if_pos (Nat.lt_of_not_le h12)]
      exact ⟨by decide, a + 5, ldS_f hS1 (by decide)⟩
end RDN
