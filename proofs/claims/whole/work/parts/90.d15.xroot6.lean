/-! ===== roots: the words of both; isNode of both; root and typeRoot of both ===== -/
def lwd (x : Int32) : Int64 := x.toInt64 &&& lN 4294967295
section RW
variable {sc : xm_Sc} {d pp cn : Nat} {ps : List pr_D} {hx : Nat → Nat} {tr : Nat → Ty} {K L R : Nat → Nat} {h : xm_H} {post : xm_Po}
theorem sp_nodeWord {n k : Nat} (hF : XF h) (hpp : pp = 52 ∨ pp = 77) (hP : nwP h pp ps hx) (hl : lvI h) (hI : nwI h ps) (hn : n < ps.length) (hk : k < 8)
    (hp : ∀ h' Q, Fr [41, 43, 44] [(40, 4), (40, 5)] h h' → lvI h' → nwI h' ps → rtA ps Q ps.length → post (some (.long (lwd (Q n k)))) h') : xm_T (XE sc) (d + 5) 123 [.ref 40, .ref pp, .int (nI n), .int (nI k)] h post := by
  have hps : ps.length ≤ 400 := hP.2.1
  refine xq_in rfl ?_
  simp only [xq_a0, xq_aI, xq_aJ, xq_aR, Nat.reduceAdd]
  refine nw_0 (d := d) hF hpp hP hl hI (fun h1 Q f1 l1 e1 r1 v1 => ?_)
  have F1 : XF h1 := Fr_XF hF f1 (by decide +kernel)
  with_reducible refine xm_go_blk b_X7_nodeWord_41 k_X7_nodeWord_41 ?_
  refine by_aload_n rfl ?_
  refine by_getf cn_123 fl_7_9 (by first | exact rfl | assumption) (by decide) ?_
  refine by_bipush cb_8 ?_
  refine by_iload_n rfl ?_
  refine by_imul ?_
  refine by_iload_n rfl ?_
  refine by_iadd ?_
  simp (disch := first | exact Nat.ne_of_beq_eq_false rfl | exact rfl | omega) only [nI_add, xa_sub, xa_mul, pk_div, nm_mod, xa_shr, xa_and7, xa_and1, xa_and255, xa_by_and, nI_m1, Nat.add_sub_cancel, Nat.reducePow, Nat.zero_add, Nat.add_zero, Nat.reduceAdd, Nat.reduceMul, Nat.reduceSub, xf_same, xq_ff, xq_fo, xf_1, xf_2, xs_1, xs_2, xs_same, xq_so, xj_1, xj_2, xj_same, xq_jo, xq_sa1, xq_same, xq_other, upd_s, oI_n, oI_s, xf_40_0 F1, v1 n hn k hk]
  first | refine by_iald (by first | exact rfl | assumption | exact ps_1 hpp | exact ps_2 hpp | exact ps_3 hpp | exact ps_4 hpp | exact ps_5 hpp | exact ps_6 hpp | exact ps_7 hpp | exact ps_8 hpp | exact ps_9 hpp | exact ps_10 hpp | exact ps_11 hpp | exact ps_15 hpp | exact ps_16 hpp | exact ps_17 hpp | exact ps_18 hpp | exact ps_19 hpp | exact ps_21 hpp | exact ps_22 hpp | exact ps_23 hpp | exact ps_24 hpp) ⟨by omega, by omega⟩ ?_ | refine by_tald rfl rfl ⟨by omega, by omega⟩ ?_
  refine by_i2l ?_
  refine by_ldc2 (x := lN 4294967295) cn_123 kl_7_44 (by decide) ?_
  refine by_land ?_
  simp (disch := first | exact Nat.ne_of_beq_eq_false rfl | exact rfl | omega) only [nI_add, xa_sub, xa_mul, pk_div, nm_mod, xa_shr, xa_and7, xa_and1, xa_and255, xa_by_and, nI_m1, Nat.add_sub_cancel, Nat.reducePow, Nat.zero_add, Nat.add_zero, Nat.reduceAdd, Nat.reduceMul, Nat.reduceSub, xf_same, xq_ff, xq_fo, xf_1, xf_2, xs_1, xs_2, xs_same, xq_so, xj_1, xj_2, xj_same, xq_jo, xq_sa1, xq_same, xq_other, upd_s, oI_n, oI_s, xf_40_0 F1, v1 n hn k hk]
  refine by_lret ry_123 ?_
  exact hp h1 Q f1 l1 (Or.inr ⟨e1, Q, r1, v1⟩) r1
theorem sp_typeWord {n k : Nat} (hF : XF h) (hpp : pp = 52 ∨ pp = 77) (hT : tyT h pp cn tr K L R) (hcn : cn ≤ 2826) (hl : lvI h) (hI : twI h cn tr) (hn : n < cn) (hk : k < 8)
    (hp : ∀ h', Fr [42, 43, 44] [(40, 4), (40, 6)] h h' → lvI h' → twI h' cn tr → post (some (.long (lwd (tyRt (tr n) k)))) h') : xm_T (XE sc) (d + 5) 125 [.ref 40, .ref pp, .int (nI n), .int (nI k)] h post := by
  refine xq_in rfl ?_
  simp only [xq_a0, xq_aI, xq_aJ, xq_aR, Nat.reduceAdd]
  refine tw_0 (d := d) hF hpp hT hcn hl hI (fun h1 f1 l1 e1 v1 => ?_)
  have F1 : XF h1 := Fr_XF hF f1 (by decide +kernel)
  with_reducible refine xm_go_blk b_X7_typeWord_55 k_X7_typeWord_55 ?_
  refine by_iload_n rfl ?_
  refine by_sipush cs_2832 ?_
  refine by_ic_ge 81 rfl ?_
  simp (disch := first | exact Nat.ne_of_beq_eq_false rfl | exact rfl | omega) only [nI_add, xa_sub, xa_mul, pk_div, nm_mod, xa_shr, xa_and7, xa_and1, xa_and255, xa_by_and, nI_m1, Nat.add_sub_cancel, Nat.reducePow, Nat.zero_add, Nat.add_zero, Nat.reduceAdd, Nat.reduceMul, Nat.reduceSub, xf_same, xq_ff, xq_fo, xf_1, xf_2, xs_1, xs_2, xs_same, xq_so, xj_1, xj_2, xj_same, xq_jo, xq_sa1, xq_same, xq_other, upd_s, oI_n, oI_s, xv_0, xv_1, xv_2, xv_3, xm_p1, xm_p2, xq_fp, xq_fn, List.filter_nil, Nat.reduceBEq, Bool.not_true, Bool.not_false, Bool.and_true, Bool.and_false, Bool.false_and, Bool.true_and, if_true, if_false, Bool.false_eq_true, reduceIte, xc_i, xc_j, xc_r, xc_n, List.nil_append, List.cons_append, Option.toList_some, Option.toList_none, nI_ltJ, nI_leJ, nI_eqJ, nI_ltz, nI_gez, nI_gtz, nI_lez, nI_eqz, m1_ltz, m1_gez, true_imp_iff, false_imp_iff, true_and, and_true, ne_eq, not_false_eq_true, not_true_eq_false, Nat.reduceEqDiff, Nat.reduceLT, Nat.reduceLeDiff, xf_40_1 F1, v1 n hn k hk]
  refine ⟨fun c => absurd c (by omega), fun c55 => ?_⟩
  with_reducible refine xm_go_blk b_X7_typeWord_62 k_X7_typeWord_62 ?_
  refine by_aload_n rfl ?_
  refine by_getf cn_125 fl_7_15 (by first | exact rfl | assumption) (by decide) ?_
  refine by_bipush cb_8 ?_
  refine by_iload_n rfl ?_
  refine by_imul ?_
  refine by_iload_n rfl ?_
  refine by_iadd ?_
  simp (disch := first | exact Nat.ne_of_beq_eq_false rfl | exact rfl | omega) only [nI_add, xa_sub, xa_mul, pk_div, nm_mod, xa_shr, xa_and7, xa_and1, xa_and255, xa_by_and, nI_m1, Nat.add_sub_cancel, Nat.reducePow, Nat.zero_add, Nat.add_zero, Nat.reduceAdd, Nat.reduceMul, Nat.reduceSub, xf_same, xq_ff, xq_fo, xf_1, xf_2, xs_1, xs_2, xs_same, xq_so, xj_1, xj_2, xj_same, xq_jo, xq_sa1, xq_same, xq_other, upd_s, oI_n, oI_s, xf_40_1 F1, v1 n hn k hk]
  first | refine by_iald (by first | exact rfl | assumption | exact ps_1 hpp | exact ps_2 hpp | exact ps_3 hpp | exact ps_4 hpp | exact ps_5 hpp | exact ps_6 hpp | exact ps_7 hpp | exact ps_8 hpp | exact ps_9 hpp | exact ps_10 hpp | exact ps_11 hpp | exact ps_15 hpp | exact ps_16 hpp | exact ps_17 hpp | exact ps_18 hpp | exact ps_19 hpp | exact ps_21 hpp | exact ps_22 hpp | exact ps_23 hpp | exact ps_24 hpp) ⟨by omega, by omega⟩ ?_ | refine by_tald rfl rfl ⟨by omega, by omega⟩ ?_
  refine by_i2l ?_
  refine by_ldc2 (x := lN 4294967295) cn_125 kl_7_44 (by decide) ?_
  refine by_land ?_
  refine by_goto 82 rfl ?_
  simp (disch := first | exact Nat.ne_of_beq_eq_false rfl | exact rfl | omega) only [nI_add, xa_sub, xa_mul, pk_div, nm_mod, xa_shr, xa_and7, xa_and1, xa_and255, xa_by_and, nI_m1, Nat.add_sub_cancel, Nat.reducePow, Nat.zero_add, Nat.add_zero, Nat.reduceAdd, Nat.reduceMul, Nat.reduceSub, xf_same, xq_ff, xq_fo, xf_1, xf_2, xs_1, xs_2, xs_same, xq_so, xj_1, xj_2, xj_same, xq_jo, xq_sa1, xq_same, xq_other, upd_s, oI_n, oI_s, xv_0, xv_1, xv_2, xv_3, xm_p1, xm_p2, xq_fp, xq_fn, List.filter_nil, Nat.reduceBEq, Bool.not_true, Bool.not_false, Bool.and_true, Bool.and_false, Bool.false_and, Bool.true_and, if_true, if_false, Bool.false_eq_true, reduceIte, xc_i, xc_j, xc_r, xc_n, List.nil_append, List.cons_append, Option.toList_some, Option.toList_none, xf_40_1 F1, v1 n hn k hk]
  with_reducible refine xm_go_blk b_X7_typeWord_82 k_X7_typeWord_82 ?_
  refine by_lret ry_125 ?_
  exact hp h1 f1 l1 (Or.inr ⟨e1, v1⟩)
theorem sp_xisNode {c : Nat} {i : Int32} (hpp : pp = 52 ∨ pp = 77) (h9 : h.2.2 0 9 = .ref pp) (hc : h.2.2 pp 0 = .int (nI c)) (hc4 : c ≤ 2000)
    (hp : (∀ n, i = nI n → n < c → post (some (.int (nI 1))) h) ∧ ((∀ n, n < c → i ≠ nI n) → post (some (.int (nI 0))) h)) : xm_T (XE sc) (d + 1) 180 [.ref 0, .int i] h post := by
  refine xq_in rfl ?_
  simp only [xq_a0, xq_aI, xq_aJ, xq_aR, Nat.reduceAdd]
  with_reducible refine xm_go_blk b_X11_isNode_0 k_X11_isNode_0 ?_
  refine by_iload_n rfl ?_
  refine by_if_lt 19 rfl ?_
  simp (disch := first | exact Nat.ne_of_beq_eq_false rfl | exact rfl | omega) only [nI_add, xa_sub, xa_mul, pk_div, nm_mod, xa_shr, xa_and7, xa_and1, xa_and255, xa_by_and, nI_m1, Nat.add_sub_cancel, Nat.reducePow, Nat.zero_add, Nat.add_zero, Nat.reduceAdd, Nat.reduceMul, Nat.reduceSub, xf_same, xq_ff, xq_fo, xf_1, xf_2, xs_1, xs_2, xs_same, xq_so, xj_1, xj_2, xj_same, xq_jo, xq_sa1, xq_same, xq_other, upd_s, oI_n, oI_s, xv_0, xv_1, xv_2, xv_3, xm_p1, xm_p2, xq_fp, xq_fn, List.filter_nil, Nat.reduceBEq, Bool.not_true, Bool.not_false, Bool.and_true, Bool.and_false, Bool.false_and, Bool.true_and, if_true, if_false, Bool.false_eq_true, reduceIte, xc_i, xc_j, xc_r, xc_n, List.nil_append, List.cons_append, Option.toList_some, Option.toList_none, nI_ltJ, nI_leJ, nI_eqJ, nI_ltz, nI_gez, nI_gtz, nI_lez, nI_eqz, m1_ltz, m1_gez, true_imp_iff, false_imp_iff, true_and, and_true, ne_eq, not_false_eq_true, not_true_eq_false, Nat.reduceEqDiff, Nat.reduceLT, Nat.reduceLeDiff]
  refine ⟨fun q => ?_, fun q => ?_⟩
  · with_reducible refine xm_go_blk b_X11_isNode_19 k_X11_isNode_19 ?_
    refine by_iconst ci_0 ?_
    refine by_nil ?_
    with_reducible refine xm_go_blk b_X11_isNode_20 k_X11_isNode_20 ?_
    refine by_iret ry_180 (by first | rfl | assumption) ?_
    refine hp.2 (fun n hn e => ?_)
    subst e
    exact absurd q (nI_pos (by omega))
  · obtain ⟨n, hn, rfl⟩ := nI_of q
    with_reducible refine xm_go_blk b_X11_isNode_4 k_X11_isNode_4 ?_
    refine by_iload_n rfl ?_
    refine by_aload_n rfl ?_
    refine by_getf cn_180 fl_11_71 (by first | exact rfl | assumption) (by decide) ?_
    simp (disch := first | exact Nat.ne_of_beq_eq_false rfl | exact rfl | omega) only [nI_add, xa_sub, xa_mul, pk_div, nm_mod, xa_shr, xa_and7, xa_and1, xa_and255, xa_by_and, nI_m1, Nat.add_sub_cancel, Nat.reducePow, Nat.zero_add, Nat.add_zero, Nat.reduceAdd, Nat.reduceMul, Nat.reduceSub, xf_same, xq_ff, xq_fo, xf_1, xf_2, xs_1, xs_2, xs_same, xq_so, xj_1, xj_2, xj_same, xq_jo, xq_sa1, xq_same, xq_other, upd_s, oI_n, oI_s, h9, hc]
    refine by_getf cn_180 fl_11_119 (by first | exact rfl | assumption | exact ps_0 hpp) (by decide) ?_
    simp (disch := first | exact Nat.ne_of_beq_eq_false rfl | exact rfl | omega) only [nI_add, xa_sub, xa_mul, pk_div, nm_mod, xa_shr, xa_and7, xa_and1, xa_and255, xa_by_and, nI_m1, Nat.add_sub_cancel, Nat.reducePow, Nat.zero_add, Nat.add_zero, Nat.reduceAdd, Nat.reduceMul, Nat.reduceSub, xf_same, xq_ff, xq_fo, xf_1, xf_2, xs_1, xs_2, xs_same, xq_so, xj_1, xj_2, xj_same, xq_jo, xq_sa1, xq_same, xq_other, upd_s, oI_n, oI_s, h9, hc]
    refine by_ic_ge 19 rfl ?_
    simp (disch := first | exact Nat.ne_of_beq_eq_false rfl | exact rfl | omega) only [nI_add, xa_sub, xa_mul, pk_div, nm_mod, xa_shr, xa_and7, xa_and1, xa_and255, xa_by_and, nI_m1, Nat.add_sub_cancel, Nat.reducePow, Nat.zero_add, Nat.add_zero, Nat.reduceAdd, Nat.reduceMul, Nat.reduceSub, xf_same, xq_ff, xq_fo, xf_1, xf_2, xs_1, xs_2, xs_same, xq_so, xj_1, xj_2, xj_same, xq_jo, xq_sa1, xq_same, xq_other, upd_s, oI_n, oI_s, xv_0, xv_1, xv_2, xv_3, xm_p1, xm_p2, xq_fp, xq_fn, List.filter_nil, Nat.reduceBEq, Bool.not_true, Bool.not_false, Bool.and_true, Bool.and_false, Bool.false_and, Bool.true_and, if_true, if_false, Bool.false_eq_true, reduceIte, xc_i, xc_j, xc_r, xc_n, List.nil_append, List.cons_append, Option.toList_some, Option.toList_none, nI_ltJ, nI_leJ, nI_eqJ, nI_ltz, nI_gez, nI_gtz, nI_lez, nI_eqz, m1_ltz, m1_gez, true_imp_iff, false_imp_iff, true_and, and_true, ne_eq, not_false_eq_true, not_true_eq_false, Nat.reduceEqDiff, Nat.reduceLT, Nat.reduceLeDiff, h9, hc]
    refine ⟨fun q2 => ?_, fun q2 => ?_⟩
    · with_reducible refine xm_go_blk b_X11_isNode_19 k_X11_isNode_19 ?_
      refine by_iconst ci_0 ?_
      refine by_nil ?_
      with_reducible refine xm_go_blk b_X11_isNode_20 k_X11_isNode_20 ?_
      refine by_iret ry_180 (by first | rfl | assumption) ?_
      exact hp.2 (fun m hm e => by have := (nI_eq hn (by omega)).mp e; omega)
    · with_reducible refine xm_go_blk b_X11_isNode_15 k_X11_isNode_15 ?_
      refine by_iconst ci_1 ?_
      refine by_goto 20 rfl ?_
      with_reducible refine xm_go_blk b_X11_isNode_20 k_X11_isNode_20 ?_
      refine by_iret ry_180 (by first | rfl | assumption) ?_
      exact hp.1 n rfl (by omega)
theorem sp_misNode {c : Nat} {i : Int32} (hc : h.2.2 102 19 = .int (nI c)) (hc4 : c ≤ 2000)
    (hp : (∀ n, i = nI n → n < c → post (some (.int (nI 1))) h) ∧ ((∀ n, n < c → i ≠ nI n) → post (some (.int (nI 0))) h)) : xm_T (XE sc) (d + 1) 232 [.ref 102, .int i] h post := by
  refine xq_in rfl ?_
  simp only [xq_a0, xq_aI, xq_aJ, xq_aR, Nat.reduceAdd]
  with_reducible refine xm_go_blk b_X12_isNode_0 k_X12_isNode_0 ?_
  refine by_iload_n rfl ?_
  refine by_if_lt 16 rfl ?_
  simp (disch := first | exact Nat.ne_of_beq_eq_false rfl | exact rfl | omega) only [nI_add, xa_sub, xa_mul, pk_div, nm_mod, xa_shr, xa_and7, xa_and1, xa_and255, xa_by_and, nI_m1, Nat.add_sub_cancel, Nat.reducePow, Nat.zero_add, Nat.add_zero, Nat.reduceAdd, Nat.reduceMul, Nat.reduceSub, xf_same, xq_ff, xq_fo, xf_1, xf_2, xs_1, xs_2, xs_same, xq_so, xj_1, xj_2, xj_same, xq_jo, xq_sa1, xq_same, xq_other, upd_s, oI_n, oI_s, xv_0, xv_1, xv_2, xv_3, xm_p1, xm_p2, xq_fp, xq_fn, List.filter_nil, Nat.reduceBEq, Bool.not_true, Bool.not_false, Bool.and_true, Bool.and_false, Bool.false_and, Bool.true_and, if_true, if_false, Bool.false_eq_true, reduceIte, xc_i, xc_j, xc_r, xc_n, List.nil_append, List.cons_append, Option.toList_some, Option.toList_none, nI_ltJ, nI_leJ, nI_eqJ, nI_ltz, nI_gez, nI_gtz, nI_lez, nI_eqz, m1_ltz, m1_gez, true_imp_iff, false_imp_iff, true_and, and_true, ne_eq, not_false_eq_true, not_true_eq_false, Nat.reduceEqDiff, Nat.reduceLT, Nat.reduceLeDiff]
  refine ⟨fun q => ?_, fun q => ?_⟩
  · with_reducible refine xm_go_blk b_X12_isNode_16 k_X12_isNode_16 ?_
    refine by_iconst ci_0 ?_
    refine by_nil ?_
    with_reducible refine xm_go_blk b_X12_isNode_17 k_X12_isNode_17 ?_
    refine by_iret ry_232 (by first | rfl | assumption) ?_
    refine hp.2 (fun n hn e => ?_)
    subst e
    exact absurd q (nI_pos (by omega))
  · obtain ⟨n, hn, rfl⟩ := nI_of q
    with_reducible refine xm_go_blk b_X12_isNode_4 k_X12_isNode_4 ?_
    refine by_iload_n rfl ?_
    refine by_aload_n rfl ?_
    refine by_getf cn_232 fl_12_378 (by first | exact rfl | assumption) (by decide) ?_
    simp (disch := first | exact Nat.ne_of_beq_eq_false rfl | exact rfl | omega) only [nI_add, xa_sub, xa_mul, pk_div, nm_mod, xa_shr, xa_and7, xa_and1, xa_and255, xa_by_and, nI_m1, Nat.add_sub_cancel, Nat.reducePow, Nat.zero_add, Nat.add_zero, Nat.reduceAdd, Nat.reduceMul, Nat.reduceSub, xf_same, xq_ff, xq_fo, xf_1, xf_2, xs_1, xs_2, xs_same, xq_so, xj_1, xj_2, xj_same, xq_jo, xq_sa1, xq_same, xq_other, upd_s, oI_n, oI_s, hc]
    refine by_ic_ge 16 rfl ?_
    simp (disch := first | exact Nat.ne_of_beq_eq_false rfl | exact rfl | omega) only [nI_add, xa_sub, xa_mul, pk_div, nm_mod, xa_shr, xa_and7, xa_and1, xa_and255, xa_by_and, nI_m1, Nat.add_sub_cancel, Nat.reducePow, Nat.zero_add, Nat.add_zero, Nat.reduceAdd, Nat.reduceMul, Nat.reduceSub, xf_same, xq_ff, xq_fo, xf_1, xf_2, xs_1, xs_2, xs_same, xq_so, xj_1, xj_2, xj_same, xq_jo, xq_sa1, xq_same, xq_other, upd_s, oI_n, oI_s, xv_0, xv_1, xv_2, xv_3, xm_p1, xm_p2, xq_fp, xq_fn, List.filter_nil, Nat.reduceBEq, Bool.not_true, Bool.not_false, Bool.and_true, Bool.and_false, Bool.false_and, Bool.true_and, if_true, if_false, Bool.false_eq_true, reduceIte, xc_i, xc_j, xc_r, xc_n, List.nil_append, List.cons_append, Option.toList_some, Option.toList_none, nI_ltJ, nI_leJ, nI_eqJ, nI_ltz, nI_gez, nI_gtz, nI_lez, nI_eqz, m1_ltz, m1_gez, true_imp_iff, false_imp_iff, true_and, and_true, ne_eq, not_false_eq_true, not_true_eq_false, Nat.reduceEqDiff, Nat.reduceLT, Nat.reduceLeDiff, hc]
    refine ⟨fun q2 => ?_, fun q2 => ?_⟩
    · with_reducible refine xm_go_blk b_X12_isNode_16 k_X12_isNode_16 ?_
      refine by_iconst ci_0 ?_
      refine by_nil ?_
      with_reducible refine xm_go_blk b_X12_isNode_17 k_X12_isNode_17 ?_
      refine by_iret ry_232 (by first | rfl | assumption) ?_
      exact hp.2 (fun m hm e => by have := (nI_eq hn (by omega)).mp e; omega)
    · with_reducible refine xm_go_blk b_X12_isNode_12 k_X12_isNode_12 ?_
      refine by_iconst ci_1 ?_
      refine by_goto 17 rfl ?_
      with_reducible refine xm_go_blk b_X12_isNode_17 k_X12_isNode_17 ?_
      refine by_iret ry_232 (by first | rfl | assumption) ?_
      exact hp.1 n rfl (by omega)
end RW
