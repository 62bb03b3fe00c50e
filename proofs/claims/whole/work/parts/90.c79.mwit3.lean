/-! ===== the reference: readWitness, from its beginning ===== -/
section MW
variable {sc : xm_Sc} {d N cn : Nat} {cd : Nat → Nat} {T : Nat → Ty} {tr : Nat → Ty} {K Lf R : Nat → Nat} {l : List Nat} {h : xm_H} {post : xm_Po}
def mwT : List (Nat × Nat) := [(102, 65), (102, 67), (102, 33)]
theorem mw_fin : xt_fin.all (fun q => !(mwT.contains (q.1, q.2.1))) = true := by decide +kernel
theorem sp_mreadWitness {a : Nat} {kb : Int32} (hkb : h.2.2 102 33 = .int kb) (hN : N ≤ 400) (hS : mrS h l a 0) (hW : mwN h N cd T cn tr) (hT : mtT h cn tr K Lf R) (hcn : cn ≤ 17211)
    (hp : ∀ h' f, Fr mwR mwT h h' → f = wf (by_bit l) (8 * l.length) a N cd T → (f = 0 → ∃ k b, pr_nat (by_bit l) (8 * l.length) a = .ok (k, b) ∧ h'.2.2 102 33 = .int (nI (k - 1)) ∧ ∀ m, m < N → h'.1 151 m = nI (b + wsum cd T m)) → (f ≠ 0 → h'.2.2 102 33 = h.2.2 102 33) → post (some (.int (nI f))) h') : xm_T (XE sc) (d + 6) 284 [.ref 102] h post := by
  refine xq_in rfl ?_
  simp only [xq_a0, xq_aI, xq_aJ, xq_aR, Nat.reduceAdd]
  with_reducible refine xm_go_blk b_X12_readWitness_0 k_X12_readWitness_0 ?_
  refine by_aload_n rfl ?_
  refine by_inv0 cn_284 lk_12_345 (by rw [xe_cnt]; decide) is_266 np_266 cn_266 (by first | exact rfl | assumption) (Nat.le_of_ble_eq_true rfl) ?_
  refine sp_mnat hS (fun y h1 hN1 => ?_)
  obtain ⟨f1, hr⟩ := hN1
  unfold wf at hp
  cases er : pr_nat (by_bit l) (8 * l.length) a with
  | error x =>
    rw [er] at hr hp
    obtain ⟨hx1, a', hS1⟩ := hr
    obtain ⟨s1, s2, s3, s4, s5, s6, s7⟩ := hS1
    have e0 : (x = 0) = False := eq_false (by omega)
    have e1 : (x ≤ 0) = False := eq_false (by omega)
    with_reducible refine xm_go_blk b_X12_readWitness_4 k_X12_readWitness_4 ?_
    refine by_iconst ci_1 ?_
    refine by_isub ?_
    refine by_istore_n (by rw [ml_284]; decide) ?_
    refine by_aload_n rfl ?_
    refine by_getf cn_284 fl_12_330 (by first | exact rfl | assumption) (by decide) ?_
    simp (disch := first | exact Nat.ne_of_beq_eq_false rfl | exact rfl | omega) only [nI_add, xa_sub, xa_mul, pk_div, nm_mod, xa_shr, xa_and7, xa_and1, xa_and255, xa_by_and, nI_m1, Nat.add_sub_cancel, Nat.reducePow, Nat.zero_add, Nat.add_zero, Nat.reduceAdd, Nat.reduceMul, Nat.reduceSub, xf_same, xq_ff, xq_fo, xf_1, xf_2, xs_1, xs_2, xs_same, xq_so, xj_1, xj_2, xj_same, xq_jo, xq_sa1, xq_same, xq_other, upd_s, oI_n, oI_s, s5, e0, e1]
    refine by_if_ne 32 rfl ?_
    simp (disch := first | exact Nat.ne_of_beq_eq_false rfl | exact rfl | omega) only [nI_add, xa_sub, xa_mul, pk_div, nm_mod, xa_shr, xa_and7, xa_and1, xa_and255, xa_by_and, nI_m1, Nat.add_sub_cancel, Nat.reducePow, Nat.zero_add, Nat.add_zero, Nat.reduceAdd, Nat.reduceMul, Nat.reduceSub, xf_same, xq_ff, xq_fo, xf_1, xf_2, xs_1, xs_2, xs_same, xq_so, xj_1, xj_2, xj_same, xq_jo, xq_sa1, xq_same, xq_other, upd_s, oI_n, oI_s, xv_0, xv_1, xv_2, xv_3, xm_p1, xm_p2, xq_fp, xq_fn, List.filter_nil, Nat.reduceBEq, Bool.not_true, Bool.not_false, Bool.and_true, Bool.and_false, Bool.false_and, Bool.true_and, if_true, if_false, Bool.false_eq_true, reduceIte, xc_i, xc_j, xc_r, xc_n, List.nil_append, List.cons_append, Option.toList_some, Option.toList_none, nI_ltJ, nI_leJ, nI_eqJ, nI_ltz, nI_gez, nI_gtz, nI_lez, nI_eqz, m1_ltz, m1_gez, true_imp_iff, false_imp_iff, true_and, and_true, ne_eq, not_false_eq_true, not_true_eq_false, Nat.reduceEqDiff, Nat.reduceLT, Nat.reduceLeDiff, s5, e0, e1]
    with_reducible refine xm_go_blk b_X12_readWitness_32 k_X12_readWitness_32 ?_
    refine by_aload_n rfl ?_
    refine by_getf cn_284 fl_12_330 (by first | exact rfl | assumption) (by decide) ?_
    simp (disch := first | exact Nat.ne_of_beq_eq_false rfl | exact rfl | omega) only [nI_add, xa_sub, xa_mul, pk_div, nm_mod, xa_shr, xa_and7, xa_and1, xa_and255, xa_by_and, nI_m1, Nat.add_sub_cancel, Nat.reducePow, Nat.zero_add, Nat.add_zero, Nat.reduceAdd, Nat.reduceMul, Nat.reduceSub, xf_same, xq_ff, xq_fo, xf_1, xf_2, xs_1, xs_2, xs_same, xq_so, xj_1, xj_2, xj_same, xq_jo, xq_sa1, xq_same, xq_other, upd_s, oI_n, oI_s, s5, e0, e1]
    refine by_if_le 44 rfl ?_
    simp (disch := first | exact Nat.ne_of_beq_eq_false rfl | exact rfl | omega) only [nI_add, xa_sub, xa_mul, pk_div, nm_mod, xa_shr, xa_and7, xa_and1, xa_and255, xa_by_and, nI_m1, Nat.add_sub_cancel, Nat.reducePow, Nat.zero_add, Nat.add_zero, Nat.reduceAdd, Nat.reduceMul, Nat.reduceSub, xf_same, xq_ff, xq_fo, xf_1, xf_2, xs_1, xs_2, xs_same, xq_so, xj_1, xj_2, xj_same, xq_jo, xq_sa1, xq_same, xq_other, upd_s, oI_n, oI_s, xv_0, xv_1, xv_2, xv_3, xm_p1, xm_p2, xq_fp, xq_fn, List.filter_nil, Nat.reduceBEq, Bool.not_true, Bool.not_false, Bool.and_true, Bool.and_false, Bool.false_and, Bool.true_and, if_true, if_false, Bool.false_eq_true, reduceIte, xc_i, xc_j, xc_r, xc_n, List.nil_append, List.cons_append, Option.toList_some, Option.toList_none, nI_ltJ, nI_leJ, nI_eqJ, nI_ltz, nI_gez, nI_gtz, nI_lez, nI_eqz, m1_ltz, m1_gez, true_imp_iff, false_imp_iff, true_and, and_true, ne_eq, not_false_eq_true, not_true_eq_false, Nat.reduceEqDiff, Nat.reduceLT, Nat.reduceLeDiff, s5, e0, e1]
    with_reducible refine xm_go_blk b_X12_readWitness_39 k_X12_readWitness_39 ?_
    refine by_aload_n rfl ?_
    refine by_getf cn_284 fl_12_330 (by first | exact rfl | assumption) (by decide) ?_
    simp (disch := first | exact Nat.ne_of_beq_eq_false rfl | exact rfl | omega) only [nI_add, xa_sub, xa_mul, pk_div, nm_mod, xa_shr, xa_and7, xa_and1, xa_and255, xa_by_and, nI_m1, Nat.add_sub_cancel, Nat.reducePow, Nat.zero_add, Nat.add_zero, Nat.reduceAdd, Nat.reduceMul, Nat.reduceSub, xf_same, xq_ff, xq_fo, xf_1, xf_2, xs_1, xs_2, xs_same, xq_so, xj_1, xj_2, xj_same, xq_jo, xq_sa1, xq_same, xq_other, upd_s, oI_n, oI_s, s5, e0, e1]
    refine by_iret ry_284 (by first | rfl | assumption) ?_
    exact hp h1 x (Fr_mo f1 (by simp) (by simp [mwT])) rfl (fun z => by omega) (fun _ => f1.2.2 _ _ (by simp))
  | ok r =>
    obtain ⟨k, b⟩ := r
    rw [er] at hr hp
    obtain ⟨hy, hS1⟩ := hr
    subst hy
    obtain ⟨s1, s2, s3, s4, s5, s6, s7⟩ := hS1
    have hll := s2.2.2
    obtain ⟨k1, k2, k3, k4⟩ := pr_nat_le (by_bit_lt l) hS.2.2.2.2.2.1 er
    simp only at hp
    have fR : Fr mwR mwT h h1 := Fr_mo f1 (by simp) (by simp [mwT])
    have kb1 : h1.2.2 102 33 = h.2.2 102 33 := f1.2.2 _ _ (by simp)
    by_cases q : 8 * l.length < b + (k - 1)
    · rw [if_pos q] at hp
      with_reducible refine xm_go_blk b_X12_readWitness_4 k_X12_readWitness_4 ?_
      refine by_iconst ci_1 ?_
      refine by_isub ?_
      refine by_istore_n (by rw [ml_284]; decide) ?_
      refine by_aload_n rfl ?_
      refine by_getf cn_284 fl_12_330 (by first | exact rfl | assumption) (by decide) ?_
      simp (disch := first | exact Nat.ne_of_beq_eq_false rfl | exact rfl | omega) only [nI_add, xa_sub, xa_mul, pk_div, nm_mod, xa_shr, xa_and7, xa_and1, xa_and255, xa_by_and, nI_m1, Nat.add_sub_cancel, Nat.reducePow, Nat.zero_add, Nat.add_zero, Nat.reduceAdd, Nat.reduceMul, Nat.reduceSub, xf_same, xq_ff, xq_fo, xf_1, xf_2, xs_1, xs_2, xs_same, xq_so, xj_1, xj_2, xj_same, xq_jo, xq_sa1, xq_same, xq_other, upd_s, oI_n, oI_s, s5, s3, s4]
      refine by_if_ne 32 rfl ?_
      simp (disch := first | exact Nat.ne_of_beq_eq_false rfl | exact rfl | omega) only [nI_add, xa_sub, xa_mul, pk_div, nm_mod, xa_shr, xa_and7, xa_and1, xa_and255, xa_by_and, nI_m1, Nat.add_sub_cancel, Nat.reducePow, Nat.zero_add, Nat.add_zero, Nat.reduceAdd, Nat.reduceMul, Nat.reduceSub, xf_same, xq_ff, xq_fo, xf_1, xf_2, xs_1, xs_2, xs_same, xq_so, xj_1, xj_2, xj_same, xq_jo, xq_sa1, xq_same, xq_other, upd_s, oI_n, oI_s, xv_0, xv_1, xv_2, xv_3, xm_p1, xm_p2, xq_fp, xq_fn, List.filter_nil, Nat.reduceBEq, Bool.not_true, Bool.not_false, Bool.and_true, Bool.and_false, Bool.false_and, Bool.true_and, if_true, if_false, Bool.false_eq_true, reduceIte, xc_i, xc_j, xc_r, xc_n, List.nil_append, List.cons_append, Option.toList_some, Option.toList_none, nI_ltJ, nI_leJ, nI_eqJ, nI_ltz, nI_gez, nI_gtz, nI_lez, nI_eqz, m1_ltz, m1_gez, true_imp_iff, false_imp_iff, true_and, and_true, ne_eq, not_false_eq_true, not_true_eq_false, Nat.reduceEqDiff, Nat.reduceLT, Nat.reduceLeDiff, s5, s3, s4]
      with_reducible refine xm_go_blk b_X12_readWitness_14 k_X12_readWitness_14 ?_
      refine by_aload_n rfl ?_
      refine by_getf cn_284 fl_12_333 (by first | exact rfl | assumption) (by decide) ?_
      refine by_iload_n rfl ?_
      simp (disch := first | exact Nat.ne_of_beq_eq_false rfl | exact rfl | omega) only [nI_add, xa_sub, xa_mul, pk_div, nm_mod, xa_shr, xa_and7, xa_and1, xa_and255, xa_by_and, nI_m1, Nat.add_sub_cancel, Nat.reducePow, Nat.zero_add, Nat.add_zero, Nat.reduceAdd, Nat.reduceMul, Nat.reduceSub, xf_same, xq_ff, xq_fo, xf_1, xf_2, xs_1, xs_2, xs_same, xq_so, xj_1, xj_2, xj_same, xq_jo, xq_sa1, xq_same, xq_other, upd_s, oI_n, oI_s, s5, s3, s4]
      refine by_iadd ?_
      refine by_aload_n rfl ?_
      refine by_getf cn_284 fl_12_336 (by first | exact rfl | assumption) (by decide) ?_
      simp (disch := first | exact Nat.ne_of_beq_eq_false rfl | exact rfl | omega) only [nI_add, xa_sub, xa_mul, pk_div, nm_mod, xa_shr, xa_and7, xa_and1, xa_and255, xa_by_and, nI_m1, Nat.add_sub_cancel, Nat.reducePow, Nat.zero_add, Nat.add_zero, Nat.reduceAdd, Nat.reduceMul, Nat.reduceSub, xf_same, xq_ff, xq_fo, xf_1, xf_2, xs_1, xs_2, xs_same, xq_so, xj_1, xj_2, xj_same, xq_jo, xq_sa1, xq_same, xq_other, upd_s, oI_n, oI_s, s5, s3, s4]
      refine by_ic_le 32 rfl ?_
      simp (disch := first | exact Nat.ne_of_beq_eq_false rfl | exact rfl | omega) only [nI_add, xa_sub, xa_mul, pk_div, nm_mod, xa_shr, xa_and7, xa_and1, xa_and255, xa_by_and, nI_m1, Nat.add_sub_cancel, Nat.reducePow, Nat.zero_add, Nat.add_zero, Nat.reduceAdd, Nat.reduceMul, Nat.reduceSub, xf_same, xq_ff, xq_fo, xf_1, xf_2, xs_1, xs_2, xs_same, xq_so, xj_1, xj_2, xj_same, xq_jo, xq_sa1, xq_same, xq_other, upd_s, oI_n, oI_s, xv_0, xv_1, xv_2, xv_3, xm_p1, xm_p2, xq_fp, xq_fn, List.filter_nil, Nat.reduceBEq, Bool.not_true, Bool.not_false, Bool.and_true, Bool.and_false, Bool.false_and, Bool.true_and, if_true, if_false, Bool.false_eq_true, reduceIte, xc_i, xc_j, xc_r, xc_n, List.nil_append, List.cons_append, Option.toList_some, Option.toList_none, nI_ltJ, nI_leJ, nI_eqJ, nI_ltz, nI_gez, nI_gtz, nI_lez, nI_eqz, m1_ltz, m1_gez, true_imp_iff, false_imp_iff, true_and, and_true, ne_eq, not_false_eq_true, not_true_eq_false, Nat.reduceEqDiff, Nat.reduceLT, Nat.reduceLeDiff, s5, s3, s4]
      refine ⟨fun c => absurd c (by omega), fun c14 => ?_⟩
      with_reducible refine xm_go_blk b_X12_readWitness_27 k_X12_readWitness_27 ?_
      refine by_aload_n rfl ?_
      refine by_iconst ci_1 ?_
      refine by_putf cn_284 fl_12_330 (by first | exact rfl | assumption) (by decide) nf_12_67 ft_12_67 (by first | rfl | assumption) (by first | rfl | assumption) ?_
      refine by_nil ?_
      with_reducible refine xm_go_blk b_X12_readWitness_32 k_X12_readWitness_32 ?_
      refine by_aload_n rfl ?_
      refine by_getf cn_284 fl_12_330 (by first | exact rfl | assumption) (by decide) ?_
      simp (disch := first | exact Nat.ne_of_beq_eq_false rfl | exact rfl | omega) only [nI_add, xa_sub, xa_mul, pk_div, nm_mod, xa_shr, xa_and7, xa_and1, xa_and255, xa_by_and, nI_m1, Nat.add_sub_cancel, Nat.reducePow, Nat.zero_add, Nat.add_zero, Nat.reduceAdd, Nat.reduceMul, Nat.reduceSub, xf_same, xq_ff, xq_fo, xf_1, xf_2, xs_1, xs_2, xs_same, xq_so, xj_1, xj_2, xj_same, xq_jo, xq_sa1, xq_same, xq_other, upd_s, oI_n, oI_s, s5, s3, s4]
      refine by_if_le 44 rfl ?_
      simp (disch := first | exact Nat.ne_of_beq_eq_false rfl | exact rfl | omega) only [nI_add, xa_sub, xa_mul, pk_div, nm_mod, xa_shr, xa_and7, xa_and1, xa_and255, xa_by_and, nI_m1, Nat.add_sub_cancel, Nat.reducePow, Nat.zero_add, Nat.add_zero, Nat.reduceAdd, Nat.reduceMul, Nat.reduceSub, xf_same, xq_ff, xq_fo, xf_1, xf_2, xs_1, xs_2, xs_same, xq_so, xj_1, xj_2, xj_same, xq_jo, xq_sa1, xq_same, xq_other, upd_s, oI_n, oI_s, xv_0, xv_1, xv_2, xv_3, xm_p1, xm_p2, xq_fp, xq_fn, List.filter_nil, Nat.reduceBEq, Bool.not_true, Bool.not_false, Bool.and_true, Bool.and_false, Bool.false_and, Bool.true_and, if_true, if_false, Bool.false_eq_true, reduceIte, xc_i, xc_j, xc_r, xc_n, List.nil_append, List.cons_append, Option.toList_some, Option.toList_none, nI_ltJ, nI_leJ, nI_eqJ, nI_ltz, nI_gez, nI_gtz, nI_lez, nI_eqz, m1_ltz, m1_gez, true_imp_iff, false_imp_iff, true_and, and_true, ne_eq, not_false_eq_true, not_true_eq_false, Nat.reduceEqDiff, Nat.reduceLT, Nat.reduceLeDiff, s5, s3, s4]
      with_reducible refine xm_go_blk b_X12_readWitness_39 k_X12_readWitness_39 ?_
      refine by_aload_n rfl ?_
      refine by_getf cn_284 fl_12_330 (by first | exact rfl | assumption) (by decide) ?_
      simp (disch := first | exact Nat.ne_of_beq_eq_false rfl | exact rfl | omega) only [nI_add, xa_sub, xa_mul, pk_div, nm_mod, xa_shr, xa_and7, xa_and1, xa_and255, xa_by_and, nI_m1, Nat.add_sub_cancel, Nat.reducePow, Nat.zero_add, Nat.add_zero, Nat.reduceAdd, Nat.reduceMul, Nat.reduceSub, xf_same, xq_ff, xq_fo, xf_1, xf_2, xs_1, xs_2, xs_same, xq_so, xj_1, xj_2, xj_same, xq_jo, xq_sa1, xq_same, xq_other, upd_s, oI_n, oI_s, s5, s3, s4]
      refine by_iret ry_284 (by first | rfl | assumption) ?_
      exact hp _ 1 (Fr_sf fR (by simp [mwT])) rfl (fun z => absurd z (by decide)) (fun _ => by rw [xq_ff (by omega)]; exact kb1)
    · rw [if_neg q] at hp
      have hW1 : mwN h1 N cd T cn tr := mwN_fr hW f1 (by simp) (by simp) (by simp)
      have hT1 : mtT h1 cn tr K Lf R := mtT_fr hT f1 (by simp) (by simp)
      have hwb := mw_b hW N (Nat.le_refl _)
      with_reducible refine xm_go_blk b_X12_readWitness_4 k_X12_readWitness_4 ?_
      refine by_iconst ci_1 ?_
      refine by_isub ?_
      refine by_istore_n (by rw [ml_284]; decide) ?_
      refine by_aload_n rfl ?_
      refine by_getf cn_284 fl_12_330 (by first | exact rfl | assumption) (by decide) ?_
      simp (disch := first | exact Nat.ne_of_beq_eq_false rfl | exact rfl | omega) only [nI_add, xa_sub, xa_mul, pk_div, nm_mod, xa_shr, xa_and7, xa_and1, xa_and255, xa_by_and, nI_m1, Nat.add_sub_cancel, Nat.reducePow, Nat.zero_add, Nat.add_zero, Nat.reduceAdd, Nat.reduceMul, Nat.reduceSub, xf_same, xq_ff, xq_fo, xf_1, xf_2, xs_1, xs_2, xs_same, xq_so, xj_1, xj_2, xj_same, xq_jo, xq_sa1, xq_same, xq_other, upd_s, oI_n, oI_s, s5, s3, s4]
      refine by_if_ne 32 rfl ?_
      simp (disch := first | exact Nat.ne_of_beq_eq_false rfl | exact rfl | omega) only [nI_add, xa_sub, xa_mul, pk_div, nm_mod, xa_shr, xa_and7, xa_and1, xa_and255, xa_by_and, nI_m1, Nat.add_sub_cancel, Nat.reducePow, Nat.zero_add, Nat.add_zero, Nat.reduceAdd, Nat.reduceMul, Nat.reduceSub, xf_same, xq_ff, xq_fo, xf_1, xf_2, xs_1, xs_2, xs_same, xq_so, xj_1, xj_2, xj_same, xq_jo, xq_sa1, xq_same, xq_other, upd_s, oI_n, oI_s, xv_0, xv_1, xv_2, xv_3, xm_p1, xm_p2, xq_fp, xq_fn, List.filter_nil, Nat.reduceBEq, Bool.not_true, Bool.not_false, Bool.and_true, Bool.and_false, Bool.false_and, Bool.true_and, if_true, if_false, Bool.false_eq_true, reduceIte, xc_i, xc_j, xc_r, xc_n, List.nil_append, List.cons_append, Option.toList_some, Option.toList_none, nI_ltJ, nI_leJ, nI_eqJ, nI_ltz, nI_gez, nI_gtz, nI_lez, nI_eqz, m1_ltz, m1_gez, true_imp_iff, false_imp_iff, true_and, and_true, ne_eq, not_false_eq_true, not_true_eq_false, Nat.reduceEqDiff, Nat.reduceLT, Nat.reduceLeDiff, s5, s3, s4]
      with_reducible refine xm_go_blk b_X12_readWitness_14 k_X12_readWitness_14 ?_
      refine by_aload_n rfl ?_
      refine by_getf cn_284 fl_12_333 (by first | exact rfl | assumption) (by decide) ?_
      refine by_iload_n rfl ?_
      simp (disch := first | exact Nat.ne_of_beq_eq_false rfl | exact rfl | omega) only [nI_add, xa_sub, xa_mul, pk_div, nm_mod, xa_shr, xa_and7, xa_and1, xa_and255, xa_by_and, nI_m1, Nat.add_sub_cancel, Nat.reducePow, Nat.zero_add, Nat.add_zero, Nat.reduceAdd, Nat.reduceMul, Nat.reduceSub, xf_same, xq_ff, xq_fo, xf_1, xf_2, xs_1, xs_2, xs_same, xq_so, xj_1, xj_2, xj_same, xq_jo, xq_sa1, xq_same, xq_other, upd_s, oI_n, oI_s, s5, s3, s4]
      refine by_iadd ?_
      refine by_aload_n rfl ?_
      refine by_getf cn_284 fl_12_336 (by first | exact rfl | assumption) (by decide) ?_
      simp (disch := first | exact Nat.ne_of_beq_eq_false rfl | exact rfl | omega) only [nI_add, xa_sub, xa_mul, pk_div, nm_mod, xa_shr, xa_and7, xa_and1, xa_and255, xa_by_and, nI_m1, Nat.add_sub_cancel, Nat.reducePow, Nat.zero_add, Nat.add_zero, Nat.reduceAdd, Nat.reduceMul, Nat.reduceSub, xf_same, xq_ff, xq_fo, xf_1, xf_2, xs_1, xs_2, xs_same, xq_so, xj_1, xj_2, xj_same, xq_jo, xq_sa1, xq_same, xq_other, upd_s, oI_n, oI_s, s5, s3, s4]
      refine by_ic_le 32 rfl ?_
      simp (disch := first | exact Nat.ne_of_beq_eq_false rfl | exact rfl | omega) only [nI_add, xa_sub, xa_mul, pk_div, nm_mod, xa_shr, xa_and7, xa_and1, xa_and255, xa_by_and, nI_m1, Nat.add_sub_cancel, Nat.reducePow, Nat.zero_add, Nat.add_zero, Nat.reduceAdd, Nat.reduceMul, Nat.reduceSub, xf_same, xq_ff, xq_fo, xf_1, xf_2, xs_1, xs_2, xs_same, xq_so, xj_1, xj_2, xj_same, xq_jo, xq_sa1, xq_same, xq_other, upd_s, oI_n, oI_s, xv_0, xv_1, xv_2, xv_3, xm_p1, xm_p2, xq_fp, xq_fn, List.filter_nil, Nat.reduceBEq, Bool.not_true, Bool.not_false, Bool.and_true, Bool.and_false, Bool.false_and, Bool.true_and, if_true, if_false, Bool.false_eq_true, reduceIte, xc_i, xc_j, xc_r, xc_n, List.nil_append, List.cons_append, Option.toList_some, Option.toList_none, nI_ltJ, nI_leJ, nI_eqJ, nI_ltz, nI_gez, nI_gtz, nI_lez, nI_eqz, m1_ltz, m1_gez, true_imp_iff, false_imp_iff, true_and, and_true, ne_eq, not_false_eq_true, not_true_eq_false, Nat.reduceEqDiff, Nat.reduceLT, Nat.reduceLeDiff, s5, s3, s4]
      refine ⟨fun c14 => ?_, fun c => absurd (by omega) c⟩
      with_reducible refine xm_go_blk b_X12_readWitness_32 k_X12_readWitness_32 ?_
      refine by_aload_n rfl ?_
      refine by_getf cn_284 fl_12_330 (by first | exact rfl | assumption) (by decide) ?_
      simp (disch := first | exact Nat.ne_of_beq_eq_false rfl | exact rfl | omega) only [nI_add, xa_sub, xa_mul, pk_div, nm_mod, xa_shr, xa_and7, xa_and1, xa_and255, xa_by_and, nI_m1, Nat.add_sub_cancel, Nat.reducePow, Nat.zero_add, Nat.add_zero, Nat.reduceAdd, Nat.reduceMul, Nat.reduceSub, xf_same, xq_ff, xq_fo, xf_1, xf_2, xs_1, xs_2, xs_same, xq_so, xj_1, xj_2, xj_same, xq_jo, xq_sa1, xq_same, xq_other, upd_s, oI_n, oI_s, s5, s3, s4]
      refine by_if_le 44 rfl ?_
      simp (disch := first | exact Nat.ne_of_beq_eq_false rfl | exact rfl | omega) only [nI_add, xa_sub, xa_mul, pk_div, nm_mod, xa_shr, xa_and7, xa_and1, xa_and255, xa_by_and, nI_m1, Nat.add_sub_cancel, Nat.reducePow, Nat.zero_add, Nat.add_zero, Nat.reduceAdd, Nat.reduceMul, Nat.reduceSub, xf_same, xq_ff, xq_fo, xf_1, xf_2, xs_1, xs_2, xs_same, xq_so, xj_1, xj_2, xj_same, xq_jo, xq_sa1, xq_same, xq_other, upd_s, oI_n, oI_s, xv_0, xv_1, xv_2, xv_3, xm_p1, xm_p2, xq_fp, xq_fn, List.filter_nil, Nat.reduceBEq, Bool.not_true, Bool.not_false, Bool.and_true, Bool.and_false, Bool.false_and, Bool.true_and, if_true, if_false, Bool.false_eq_true, reduceIte, xc_i, xc_j, xc_r, xc_n, List.nil_append, List.cons_append, Option.toList_some, Option.toList_none, nI_ltJ, nI_leJ, nI_eqJ, nI_ltz, nI_gez, nI_gtz, nI_lez, nI_eqz, m1_ltz, m1_gez, true_imp_iff, false_imp_iff, true_and, and_true, ne_eq, not_false_eq_true, not_true_eq_false, Nat.reduceEqDiff, Nat.reduceLT, Nat.reduceLeDiff, s5, s3, s4]
      with_reducible refine xm_go_blk b_X12_readWitness_44 k_X12_readWitness_44 ?_
      refine by_lconst cl_0 ?_
      refine by_lstore_n (by rw [ml_284]; decide) ?_
      refine by_iconst ci_0 ?_
      refine by_istore (by rw [ml_284]; decide) ?_
      refine by_nil ?_
      simp (disch := first | exact Nat.ne_of_beq_eq_false rfl | exact rfl | omega) only [nI_add, xa_sub, xa_mul, pk_div, nm_mod, xa_shr, xa_and7, xa_and1, xa_and255, xa_by_and, nI_m1, Nat.add_sub_cancel, Nat.reducePow, Nat.zero_add, Nat.add_zero, Nat.reduceAdd, Nat.reduceMul, Nat.reduceSub, xf_same, xq_ff, xq_fo, xf_1, xf_2, xs_1, xs_2, xs_same, xq_so, xj_1, xj_2, xj_same, xq_jo, xq_sa1, xq_same, xq_other, upd_s, oI_n, oI_s, xv_0, xv_1, xv_2, xv_3, xm_p1, xm_p2, xq_fp, xq_fn, List.filter_nil, Nat.reduceBEq, Bool.not_true, Bool.not_false, Bool.and_true, Bool.and_false, Bool.false_and, Bool.true_and, if_true, if_false, Bool.false_eq_true, reduceIte, xc_i, xc_j, xc_r, xc_n, List.nil_append, List.cons_append, Option.toList_some, Option.toList_none, s5, s3, s4]
      refine xm_go_wk (by simp [Value.category, wsum]) (mw_49 (w := k - 1) hN s1 hW1 hT1 hcn s3 (by omega) (fun h2 f2 hrow => ?_) N 0 h1 (by omega) Fr_rf (fun m hm => absurd hm (by omega)))
      have F2 : XF h2 := Fr_XF s1 f2 (by decide +kernel)
      have fR2 : Fr mwR mwT h h2 := Fr_tr fR f2 (by simp [mwR]) (by simp)
      have kb2 : h2.2.2 102 33 = h.2.2 102 33 := by rw [f2.2.2 _ _ (by simp)]; exact kb1
      by_cases qs : wsum cd T N = k - 1
      · have qs' : (wsum cd T N = k - 1) = True := eq_true qs
        rw [if_neg (fun z => z qs)] at hp
        have hl2 : mrow h2 103 l := ⟨fun i hi => by rw [f2.1 103 (by simp)]; exact s2.1 i hi, s2.2⟩
        with_reducible refine xm_go_blk b_X12_readWitness_110 k_X12_readWitness_110 ?_
        refine by_lload_n rfl ?_
        refine by_iload_n rfl ?_
        refine by_i2l ?_
        refine by_lcmp ?_
        refine by_if_eq 120 rfl ?_
        simp (disch := first | exact Nat.ne_of_beq_eq_false rfl | exact rfl | omega) only [nI_add, xa_sub, xa_mul, pk_div, nm_mod, xa_shr, xa_and7, xa_and1, xa_and255, xa_by_and, nI_m1, Nat.add_sub_cancel, Nat.reducePow, Nat.zero_add, Nat.add_zero, Nat.reduceAdd, Nat.reduceMul, Nat.reduceSub, xf_same, xq_ff, xq_fo, xf_1, xf_2, xs_1, xs_2, xs_same, xq_so, xj_1, xj_2, xj_same, xq_jo, xq_sa1, xq_same, xq_other, upd_s, oI_n, oI_s, xv_0, xv_1, xv_2, xv_3, xm_p1, xm_p2, xq_fp, xq_fn, List.filter_nil, Nat.reduceBEq, Bool.not_true, Bool.not_false, Bool.and_true, Bool.and_false, Bool.false_and, Bool.true_and, if_true, if_false, Bool.false_eq_true, reduceIte, xc_i, xc_j, xc_r, xc_n, List.nil_append, List.cons_append, Option.toList_some, Option.toList_none, nI_ltJ, nI_leJ, nI_eqJ, nI_ltz, nI_gez, nI_gtz, nI_lez, nI_eqz, m1_ltz, m1_gez, true_imp_iff, false_imp_iff, true_and, and_true, ne_eq, not_false_eq_true, not_true_eq_false, Nat.reduceEqDiff, Nat.reduceLT, Nat.reduceLeDiff, i2l_n (show k - 1 < 2147483648 by omega), lcmp_z (show wsum cd T N < 2147483648 by omega) (show k - 1 < 2147483648 by omega), qs']
        with_reducible refine xm_go_blk b_X12_readWitness_120 k_X12_readWitness_120 ?_
        refine by_iconst ci_0 ?_
        refine by_istore (by rw [ml_284]; decide) ?_
        refine by_nil ?_
        simp (disch := first | exact Nat.ne_of_beq_eq_false rfl | exact rfl | omega) only [nI_add, xa_sub, xa_mul, pk_div, nm_mod, xa_shr, xa_and7, xa_and1, xa_and255, xa_by_and, nI_m1, Nat.add_sub_cancel, Nat.reducePow, Nat.zero_add, Nat.add_zero, Nat.reduceAdd, Nat.reduceMul, Nat.reduceSub, xf_same, xq_ff, xq_fo, xf_1, xf_2, xs_1, xs_2, xs_same, xq_so, xj_1, xj_2, xj_same, xq_jo, xq_sa1, xq_same, xq_other, upd_s, oI_n, oI_s, xv_0, xv_1, xv_2, xv_3, xm_p1, xm_p2, xq_fp, xq_fn, List.filter_nil, Nat.reduceBEq, Bool.not_true, Bool.not_false, Bool.and_true, Bool.and_false, Bool.false_and, Bool.true_and, if_true, if_false, Bool.false_eq_true, reduceIte, xc_i, xc_j, xc_r, xc_n, List.nil_append, List.cons_append, Option.toList_some, Option.toList_none, i2l_n (show k - 1 < 2147483648 by omega), lcmp_z (show wsum cd T N < 2147483648 by omega) (show k - 1 < 2147483648 by omega), qs']
        refine xm_go_wk (by simp [Value.category]) (mw_123 (w := k - 1) hN F2 hl2 (mwN_fr hW1 f2 (by simp) (by simp) (by simp)) (mtT_fr hT1 f2 (by simp) (by simp [mtR])) hcn hrow (by omega) (fun h3 f3 hw => ?_) (fun h3 f3 hw => ?_) N 0 h2 (by omega) Fr_rf rfl)
        · rw [if_neg (by rw [hw]; decide)] at hp
          have F3 : XF h3 := Fr_XF F2 f3 (by decide +kernel)
          have fR3 : Fr mwR mwT h h3 := Fr_tr fR2 f3 (by simp [mwR]) (by simp)
          have kb3 : h3.2.2 102 33 = h.2.2 102 33 := by rw [f3.2.2 _ _ (by simp)]; exact kb2
          have s3' : h3.2.2 102 65 = .int (nI b) := by rw [f3.2.2 _ _ (by simp), f2.2.2 _ _ (by simp)]; exact s3
          have s4' : h3.2.2 102 66 = .int (nI (8 * l.length)) := by rw [f3.2.2 _ _ (by simp), f2.2.2 _ _ (by simp)]; exact s4
          have fR4 : Fr mwR mwT h (xm_sf h3 102 65 (.int (nI (b + (k - 1))))) := Fr_sf fR3 (by simp [mwT])
          have F4 : XF (xm_sf h3 102 65 (.int (nI (b + (k - 1))))) := Fr_XF F3 (Fr_sf (Fr_rf (S := []) (T := mwT)) (by simp [mwT])) mw_fin
          have hl4 : mrow (xm_sf h3 102 65 (.int (nI (b + (k - 1))))) 103 l := ⟨fun i hi => by rw [xf_1, f3.1 103 (by simp)]; exact hl2.1 i hi, hl2.2⟩
          have kb4 : (xm_sf h3 102 65 (.int (nI (b + (k - 1))))).2.2 102 33 = h.2.2 102 33 := by rw [xq_ff (by omega)]; exact kb3
          have s4'' : (xm_sf h3 102 65 (.int (nI (b + (k - 1))))).2.2 102 66 = .int (nI (8 * l.length)) := by rw [xq_ff (by omega)]; exact s4'
          have row4 : ∀ m, m < N → (xm_sf h3 102 65 (.int (nI (b + (k - 1))))).1 151 m = nI (b + wsum cd T m) := fun m hm => by rw [xf_1, f3.1 151 (by simp)]; exact hrow m hm
          have tail : ∀ g0 : Bool, g0 = decide (8 * l.length - (b + (k - 1)) < 8) → xm_go (XE sc) (xm_T (XE sc) (d + 5)) 284 post 248 [(0, .ref 102), (1, .int (nI (k - 1)))] [.int (nI g0.toNat)] (xm_sf h3 102 65 (.int (nI (b + (k - 1))))) := by
            intro g0 hg0
            have hwe : wend (by_bit l) (8 * l.length) (b + (k - 1)) = (g0 && bz (by_bit l) (b + (k - 1)) (8 * l.length - (b + (k - 1)))) := by unfold wend; rw [hg0]
            have h292 : xm_go (XE sc) (xm_T (XE sc) (d + 5)) 284 post 292 [(0, .ref 102), (1, .int (nI (k - 1))), (4, .int (nI (g0 && bz (by_bit l) (b + (k - 1)) (8 * l.length - (b + (k - 1)))).toNat))] [] (xm_sf h3 102 65 (.int (nI (b + (k - 1))))) := by
              rw [hwe] at hp
              cases eg : (g0 && bz (by_bit l) (b + (k - 1)) (8 * l.length - (b + (k - 1))))
              · rw [eg, if_neg (by decide)] at hp
                have kb5 : h3.2.2 102 33 = .int kb := by rw [kb3]; exact hkb
                with_reducible refine xm_go_blk b_X12_readWitness_292 k_X12_readWitness_292 ?_
                refine by_aload_n rfl ?_
                refine by_iload rfl ?_
                refine by_if_eq 302 rfl ?_
                simp (disch := first | exact Nat.ne_of_beq_eq_false rfl | exact rfl | omega) only [nI_add, xa_sub, xa_mul, pk_div, nm_mod, xa_shr, xa_and7, xa_and1, xa_and255, xa_by_and, nI_m1, Nat.add_sub_cancel, Nat.reducePow, Nat.zero_add, Nat.add_zero, Nat.reduceAdd, Nat.reduceMul, Nat.reduceSub, xf_same, xq_ff, xq_fo, xf_1, xf_2, xs_1, xs_2, xs_same, xq_so, xj_1, xj_2, xj_same, xq_jo, xq_sa1, xq_same, xq_other, upd_s, oI_n, oI_s, xv_0, xv_1, xv_2, xv_3, xm_p1, xm_p2, xq_fp, xq_fn, List.filter_nil, Nat.reduceBEq, Bool.not_true, Bool.not_false, Bool.and_true, Bool.and_false, Bool.false_and, Bool.true_and, if_true, if_false, Bool.false_eq_true, reduceIte, xc_i, xc_j, xc_r, xc_n, List.nil_append, List.cons_append, Option.toList_some, Option.toList_none, nI_ltJ, nI_leJ, nI_eqJ, nI_ltz, nI_gez, nI_gtz, nI_lez, nI_eqz, m1_ltz, m1_gez, true_imp_iff, false_imp_iff, true_and, and_true, ne_eq, not_false_eq_true, not_true_eq_false, Nat.reduceEqDiff, Nat.reduceLT, Nat.reduceLeDiff, Bool.toNat_false, kb5]
                with_reducible refine xm_go_blk b_X12_readWitness_302 k_X12_readWitness_302 ?_
                refine by_aload_n rfl ?_
                refine by_getf cn_284 fl_12_357 (by first | exact rfl | assumption) (by decide) ?_
                refine by_nil ?_
                simp (disch := first | exact Nat.ne_of_beq_eq_false rfl | exact rfl | omega) only [nI_add, xa_sub, xa_mul, pk_div, nm_mod, xa_shr, xa_and7, xa_and1, xa_and255, xa_by_and, nI_m1, Nat.add_sub_cancel, Nat.reducePow, Nat.zero_add, Nat.add_zero, Nat.reduceAdd, Nat.reduceMul, Nat.reduceSub, xf_same, xq_ff, xq_fo, xf_1, xf_2, xs_1, xs_2, xs_same, xq_so, xj_1, xj_2, xj_same, xq_jo, xq_sa1, xq_same, xq_other, upd_s, oI_n, oI_s, xv_0, xv_1, xv_2, xv_3, xm_p1, xm_p2, xq_fp, xq_fn, List.filter_nil, Nat.reduceBEq, Bool.not_true, Bool.not_false, Bool.and_true, Bool.and_false, Bool.false_and, Bool.true_and, if_true, if_false, Bool.false_eq_true, reduceIte, xc_i, xc_j, xc_r, xc_n, List.nil_append, List.cons_append, Option.toList_some, Option.toList_none, Bool.toNat_false, kb5]
                with_reducible refine xm_go_blk b_X12_readWitness_306 k_X12_readWitness_306 ?_
                refine by_putf cn_284 fl_12_357 (by first | exact rfl | assumption) (by decide) nf_12_33 ft_12_33 (by first | rfl | assumption) (by first | rfl | assumption) ?_
                refine by_iload rfl ?_
                refine by_if_eq 318 rfl ?_
                simp (disch := first | exact Nat.ne_of_beq_eq_false rfl | exact rfl | omega) only [nI_add, xa_sub, xa_mul, pk_div, nm_mod, xa_shr, xa_and7, xa_and1, xa_and255, xa_by_and, nI_m1, Nat.add_sub_cancel, Nat.reducePow, Nat.zero_add, Nat.add_zero, Nat.reduceAdd, Nat.reduceMul, Nat.reduceSub, xf_same, xq_ff, xq_fo, xf_1, xf_2, xs_1, xs_2, xs_same, xq_so, xj_1, xj_2, xj_same, xq_jo, xq_sa1, xq_same, xq_other, upd_s, oI_n, oI_s, xv_0, xv_1, xv_2, xv_3, xm_p1, xm_p2, xq_fp, xq_fn, List.filter_nil, Nat.reduceBEq, Bool.not_true, Bool.not_false, Bool.and_true, Bool.and_false, Bool.false_and, Bool.true_and, if_true, if_false, Bool.false_eq_true, reduceIte, xc_i, xc_j, xc_r, xc_n, List.nil_append, List.cons_append, Option.toList_some, Option.toList_none, nI_ltJ, nI_leJ, nI_eqJ, nI_ltz, nI_gez, nI_gtz, nI_lez, nI_eqz, m1_ltz, m1_gez, true_imp_iff, false_imp_iff, true_and, and_true, ne_eq, not_false_eq_true, not_true_eq_false, Nat.reduceEqDiff, Nat.reduceLT, Nat.reduceLeDiff, Bool.toNat_false, kb5]
                with_reducible refine xm_go_blk b_X12_readWitness_318 k_X12_readWitness_318 ?_
                refine by_bipush cb_12 ?_
                refine by_nil ?_
                with_reducible refine xm_go_blk b_X12_readWitness_320 k_X12_readWitness_320 ?_
                refine by_iret ry_284 (by first | rfl | assumption) ?_
                exact hp _ 12 (Fr_sf fR4 (by simp [mwT])) rfl (fun z => absurd z (by decide)) (fun _ => by simp only [xf_same]; exact hkb.symm)
              · rw [eg, if_pos rfl] at hp
                with_reducible refine xm_go_blk b_X12_readWitness_292 k_X12_readWitness_292 ?_
                refine by_aload_n rfl ?_
                refine by_iload rfl ?_
                refine by_if_eq 302 rfl ?_
                simp (disch := first | exact Nat.ne_of_beq_eq_false rfl | exact rfl | omega) only [nI_add, xa_sub, xa_mul, pk_div, nm_mod, xa_shr, xa_and7, xa_and1, xa_and255, xa_by_and, nI_m1, Nat.add_sub_cancel, Nat.reducePow, Nat.zero_add, Nat.add_zero, Nat.reduceAdd, Nat.reduceMul, Nat.reduceSub, xf_same, xq_ff, xq_fo, xf_1, xf_2, xs_1, xs_2, xs_same, xq_so, xj_1, xj_2, xj_same, xq_jo, xq_sa1, xq_same, xq_other, upd_s, oI_n, oI_s, xv_0, xv_1, xv_2, xv_3, xm_p1, xm_p2, xq_fp, xq_fn, List.filter_nil, Nat.reduceBEq, Bool.not_true, Bool.not_false, Bool.and_true, Bool.and_false, Bool.false_and, Bool.true_and, if_true, if_false, Bool.false_eq_true, reduceIte, xc_i, xc_j, xc_r, xc_n, List.nil_append, List.cons_append, Option.toList_some, Option.toList_none, nI_ltJ, nI_leJ, nI_eqJ, nI_ltz, nI_gez, nI_gtz, nI_lez, nI_eqz, m1_ltz, m1_gez, true_imp_iff, false_imp_iff, true_and, and_true, ne_eq, not_false_eq_true, not_true_eq_false, Nat.reduceEqDiff, Nat.reduceLT, Nat.reduceLeDiff, Bool.toNat_true]
                with_reducible refine xm_go_blk b_X12_readWitness_298 k_X12_readWitness_298 ?_
                refine by_iload_n rfl ?_
                refine by_goto 306 rfl ?_
                with_reducible refine xm_go_blk b_X12_readWitness_306 k_X12_readWitness_306 ?_
                refine by_putf cn_284 fl_12_357 (by first | exact rfl | assumption) (by decide) nf_12_33 ft_12_33 (by first | rfl | assumption) (by first | rfl | assumption) ?_
                refine by_iload rfl ?_
                refine by_if_eq 318 rfl ?_
                simp (disch := first | exact Nat.ne_of_beq_eq_false rfl | exact rfl | omega) only [nI_add, xa_sub, xa_mul, pk_div, nm_mod, xa_shr, xa_and7, xa_and1, xa_and255, xa_by_and, nI_m1, Nat.add_sub_cancel, Nat.reducePow, Nat.zero_add, Nat.add_zero, Nat.reduceAdd, Nat.reduceMul, Nat.reduceSub, xf_same, xq_ff, xq_fo, xf_1, xf_2, xs_1, xs_2, xs_same, xq_so, xj_1, xj_2, xj_same, xq_jo, xq_sa1, xq_same, xq_other, upd_s, oI_n, oI_s, xv_0, xv_1, xv_2, xv_3, xm_p1, xm_p2, xq_fp, xq_fn, List.filter_nil, Nat.reduceBEq, Bool.not_true, Bool.not_false, Bool.and_true, Bool.and_false, Bool.false_and, Bool.true_and, if_true, if_false, Bool.false_eq_true, reduceIte, xc_i, xc_j, xc_r, xc_n, List.nil_append, List.cons_append, Option.toList_some, Option.toList_none, nI_ltJ, nI_leJ, nI_eqJ, nI_ltz, nI_gez, nI_gtz, nI_lez, nI_eqz, m1_ltz, m1_gez, true_imp_iff, false_imp_iff, true_and, and_true, ne_eq, not_false_eq_true, not_true_eq_false, Nat.reduceEqDiff, Nat.reduceLT, Nat.reduceLeDiff, Bool.toNat_true]
                with_reducible refine xm_go_blk b_X12_readWitness_314 k_X12_readWitness_314 ?_
                refine by_iconst ci_0 ?_
                refine by_goto 320 rfl ?_
                with_reducible refine xm_go_blk b_X12_readWitness_320 k_X12_readWitness_320 ?_
                refine by_iret ry_284 (by first | rfl | assumption) ?_
                exact hp _ 0 (Fr_sf fR4 (by simp [mwT])) rfl (fun _ => ⟨k, b, rfl, by simp only [xf_same], fun m hm => row4 m hm⟩) (fun z => absurd rfl z)
            have hm := mw_256 (sc := sc) (d := d + 4) (post := post) (w := nI (k - 1)) F4 hl4 s4'' (show b + (k - 1) ≤ 8 * l.length by omega) h292 (8 * l.length - (b + (k - 1))) (b + (k - 1)) (by omega) (Nat.le_refl _)
            rw [Nat.sub_self] at hm
            have hb0 : (g0 && bz (by_bit l) (b + (k - 1)) 0) = g0 := by simp [bz]
            rw [hb0] at hm
            with_reducible refine xm_go_blk b_X12_readWitness_248 k_X12_readWitness_248 ?_
            refine by_istore (by rw [ml_284]; decide) ?_
            refine by_aload_n rfl ?_
            refine by_getf cn_284 fl_12_333 (by first | exact rfl | assumption) (by decide) ?_
            simp (disch := first | exact Nat.ne_of_beq_eq_false rfl | exact rfl | omega) only [nI_add, xa_sub, xa_mul, pk_div, nm_mod, xa_shr, xa_and7, xa_and1, xa_and255, xa_by_and, nI_m1, Nat.add_sub_cancel, Nat.reducePow, Nat.zero_add, Nat.add_zero, Nat.reduceAdd, Nat.reduceMul, Nat.reduceSub, xf_same, xq_ff, xq_fo, xf_1, xf_2, xs_1, xs_2, xs_same, xq_so, xj_1, xj_2, xj_same, xq_jo, xq_sa1, xq_same, xq_other, upd_s, oI_n, oI_s]
            refine by_istore (by rw [ml_284]; decide) ?_
            refine by_nil ?_
            simp (disch := first | exact Nat.ne_of_beq_eq_false rfl | exact rfl | omega) only [nI_add, xa_sub, xa_mul, pk_div, nm_mod, xa_shr, xa_and7, xa_and1, xa_and255, xa_by_and, nI_m1, Nat.add_sub_cancel, Nat.reducePow, Nat.zero_add, Nat.add_zero, Nat.reduceAdd, Nat.reduceMul, Nat.reduceSub, xf_same, xq_ff, xq_fo, xf_1, xf_2, xs_1, xs_2, xs_same, xq_so, xj_1, xj_2, xj_same, xq_jo, xq_sa1, xq_same, xq_other, upd_s, oI_n, oI_s, xv_0, xv_1, xv_2, xv_3, xm_p1, xm_p2, xq_fp, xq_fn, List.filter_nil, Nat.reduceBEq, Bool.not_true, Bool.not_false, Bool.and_true, Bool.and_false, Bool.false_and, Bool.true_and, if_true, if_false, Bool.false_eq_true, reduceIte, xc_i, xc_j, xc_r, xc_n, List.nil_append, List.cons_append, Option.toList_some, Option.toList_none]
            exact xm_go_wk (by simp [Value.category]) hm
          by_cases q8 : 8 * l.length - (b + (k - 1)) < 8
          · have ht := tail true (by simp [q8])
            with_reducible refine xm_go_blk b_X12_readWitness_219 k_X12_readWitness_219 ?_
            refine by_aload_n rfl ?_
            refine by_dup rfl ?_
            refine by_getf cn_284 fl_12_333 (by first | exact rfl | assumption) (by decide) ?_
            refine by_iload_n rfl ?_
            simp (disch := first | exact Nat.ne_of_beq_eq_false rfl | exact rfl | omega) only [nI_add, xa_sub, xa_mul, pk_div, nm_mod, xa_shr, xa_and7, xa_and1, xa_and255, xa_by_and, nI_m1, Nat.add_sub_cancel, Nat.reducePow, Nat.zero_add, Nat.add_zero, Nat.reduceAdd, Nat.reduceMul, Nat.reduceSub, xf_same, xq_ff, xq_fo, xf_1, xf_2, xs_1, xs_2, xs_same, xq_so, xj_1, xj_2, xj_same, xq_jo, xq_sa1, xq_same, xq_other, upd_s, oI_n, oI_s, s3', s4']
            refine by_iadd ?_
            refine by_putf cn_284 fl_12_333 (by first | exact rfl | assumption) (by decide) nf_12_65 ft_12_65 (by first | rfl | assumption) (by first | rfl | assumption) ?_
            refine by_aload_n rfl ?_
            refine by_getf cn_284 fl_12_336 (by first | exact rfl | assumption) (by decide) ?_
            refine by_aload_n rfl ?_
            refine by_getf cn_284 fl_12_333 (by first | exact rfl | assumption) (by decide) ?_
            simp (disch := first | exact Nat.ne_of_beq_eq_false rfl | exact rfl | omega) only [nI_add, xa_sub, xa_mul, pk_div, nm_mod, xa_shr, xa_and7, xa_and1, xa_and255, xa_by_and, nI_m1, Nat.add_sub_cancel, Nat.reducePow, Nat.zero_add, Nat.add_zero, Nat.reduceAdd, Nat.reduceMul, Nat.reduceSub, xf_same, xq_ff, xq_fo, xf_1, xf_2, xs_1, xs_2, xs_same, xq_so, xj_1, xj_2, xj_same, xq_jo, xq_sa1, xq_same, xq_other, upd_s, oI_n, oI_s, s3', s4']
            refine by_isub ?_
            refine by_bipush cb_8 ?_
            refine by_ic_ge 247 rfl ?_
            simp (disch := first | exact Nat.ne_of_beq_eq_false rfl | exact rfl | omega) only [nI_add, xa_sub, xa_mul, pk_div, nm_mod, xa_shr, xa_and7, xa_and1, xa_and255, xa_by_and, nI_m1, Nat.add_sub_cancel, Nat.reducePow, Nat.zero_add, Nat.add_zero, Nat.reduceAdd, Nat.reduceMul, Nat.reduceSub, xf_same, xq_ff, xq_fo, xf_1, xf_2, xs_1, xs_2, xs_same, xq_so, xj_1, xj_2, xj_same, xq_jo, xq_sa1, xq_same, xq_other, upd_s, oI_n, oI_s, xv_0, xv_1, xv_2, xv_3, xm_p1, xm_p2, xq_fp, xq_fn, List.filter_nil, Nat.reduceBEq, Bool.not_true, Bool.not_false, Bool.and_true, Bool.and_false, Bool.false_and, Bool.true_and, if_true, if_false, Bool.false_eq_true, reduceIte, xc_i, xc_j, xc_r, xc_n, List.nil_append, List.cons_append, Option.toList_some, Option.toList_none, nI_ltJ, nI_leJ, nI_eqJ, nI_ltz, nI_gez, nI_gtz, nI_lez, nI_eqz, m1_ltz, m1_gez, true_imp_iff, false_imp_iff, true_and, and_true, ne_eq, not_false_eq_true, not_true_eq_false, Nat.reduceEqDiff, Nat.reduceLT, Nat.reduceLeDiff, s3', s4']
            refine ⟨fun c => absurd c (by omega), fun c219 => ?_⟩
            with_reducible refine xm_go_blk b_X12_readWitness_243 k_X12_readWitness_243 ?_
            refine by_iconst ci_1 ?_
            refine by_goto 248 rfl ?_
            exact xm_go_wk (by simp [Value.category]) ht
          · have ht := tail false (by simp [q8])
            with_reducible refine xm_go_blk b_X12_readWitness_219 k_X12_readWitness_219 ?_
            refine by_aload_n rfl ?_
            refine by_dup rfl ?_
            refine by_getf cn_284 fl_12_333 (by first | exact rfl | assumption) (by decide) ?_
            refine by_iload_n rfl ?_
            simp (disch := first | exact Nat.ne_of_beq_eq_false rfl | exact rfl | omega) only [nI_add, xa_sub, xa_mul, pk_div, nm_mod, xa_shr, xa_and7, xa_and1, xa_and255, xa_by_and, nI_m1, Nat.add_sub_cancel, Nat.reducePow, Nat.zero_add, Nat.add_zero, Nat.reduceAdd, Nat.reduceMul, Nat.reduceSub, xf_same, xq_ff, xq_fo, xf_1, xf_2, xs_1, xs_2, xs_same, xq_so, xj_1, xj_2, xj_same, xq_jo, xq_sa1, xq_same, xq_other, upd_s, oI_n, oI_s, s3', s4']
            refine by_iadd ?_
            refine by_putf cn_284 fl_12_333 (by first | exact rfl | assumption) (by decide) nf_12_65 ft_12_65 (by first | rfl | assumption) (by first | rfl | assumption) ?_
            refine by_aload_n rfl ?_
            refine by_getf cn_284 fl_12_336 (by first | exact rfl | assumption) (by decide) ?_
            refine by_aload_n rfl ?_
            refine by_getf cn_284 fl_12_333 (by first | exact rfl | assumption) (by decide) ?_
            simp (disch := first | exact Nat.ne_of_beq_eq_false rfl | exact rfl | omega) only [nI_add, xa_sub, xa_mul, pk_div, nm_mod, xa_shr, xa_and7, xa_and1, xa_and255, xa_by_and, nI_m1, Nat.add_sub_cancel, Nat.reducePow, Nat.zero_add, Nat.add_zero, Nat.reduceAdd, Nat.reduceMul, Nat.reduceSub, xf_same, xq_ff, xq_fo, xf_1, xf_2, xs_1, xs_2, xs_same, xq_so, xj_1, xj_2, xj_same, xq_jo, xq_sa1, xq_same, xq_other, upd_s, oI_n, oI_s, s3', s4']
            refine by_isub ?_
            refine by_bipush cb_8 ?_
            refine by_ic_ge 247 rfl ?_
            simp (disch := first | exact Nat.ne_of_beq_eq_false rfl | exact rfl | omega) only [nI_add, xa_sub, xa_mul, pk_div, nm_mod, xa_shr, xa_and7, xa_and1, xa_and255, xa_by_and, nI_m1, Nat.add_sub_cancel, Nat.reducePow, Nat.zero_add, Nat.add_zero, Nat.reduceAdd, Nat.reduceMul, Nat.reduceSub, xf_same, xq_ff, xq_fo, xf_1, xf_2, xs_1, xs_2, xs_same, xq_so, xj_1, xj_2, xj_same, xq_jo, xq_sa1, xq_same, xq_other, upd_s, oI_n, oI_s, xv_0, xv_1, xv_2, xv_3, xm_p1, xm_p2, xq_fp, xq_fn, List.filter_nil, Nat.reduceBEq, Bool.not_true, Bool.not_false, Bool.and_true, Bool.and_false, Bool.false_and, Bool.true_and, if_true, if_false, Bool.false_eq_true, reduceIte, xc_i, xc_j, xc_r, xc_n, List.nil_append, List.cons_append, Option.toList_some, Option.toList_none, nI_ltJ, nI_leJ, nI_eqJ, nI_ltz, nI_gez, nI_gtz, nI_lez, nI_eqz, m1_ltz, m1_gez, true_imp_iff, false_imp_iff, true_and, and_true, ne_eq, not_false_eq_true, not_true_eq_false, Nat.reduceEqDiff, Nat.reduceLT, Nat.reduceLeDiff, s3', s4']
            refine ⟨fun c219 => ?_, fun c => absurd (by omega) c⟩
            with_reducible refine xm_go_blk b_X12_readWitness_247 k_X12_readWitness_247 ?_
            refine by_iconst ci_0 ?_
            refine by_nil ?_
            exact xm_go_wk (by simp [Value.category]) ht
        · rw [if_pos hw] at hp
          exact hp h3 11 (Fr_tr fR2 f3 (by simp [mwR]) (by simp)) rfl (fun z => absurd z (by decide)) (fun _ => by rw [f3.2.2 _ _ (by simp)]; exact kb2)
      · have qs' : (wsum cd T N = k - 1) = False := eq_false qs
        rw [if_pos qs] at hp
        with_reducible refine xm_go_blk b_X12_readWitness_110 k_X12_readWitness_110 ?_
        refine by_lload_n rfl ?_
        refine by_iload_n rfl ?_
        refine by_i2l ?_
        refine by_lcmp ?_
        refine by_if_eq 120 rfl ?_
        simp (disch := first | exact Nat.ne_of_beq_eq_false rfl | exact rfl | omega) only [nI_add, xa_sub, xa_mul, pk_div, nm_mod, xa_shr, xa_and7, xa_and1, xa_and255, xa_by_and, nI_m1, Nat.add_sub_cancel, Nat.reducePow, Nat.zero_add, Nat.add_zero, Nat.reduceAdd, Nat.reduceMul, Nat.reduceSub, xf_same, xq_ff, xq_fo, xf_1, xf_2, xs_1, xs_2, xs_same, xq_so, xj_1, xj_2, xj_same, xq_jo, xq_sa1, xq_same, xq_other, upd_s, oI_n, oI_s, xv_0, xv_1, xv_2, xv_3, xm_p1, xm_p2, xq_fp, xq_fn, List.filter_nil, Nat.reduceBEq, Bool.not_true, Bool.not_false, Bool.and_true, Bool.and_false, Bool.false_and, Bool.true_and, if_true, if_false, Bool.false_eq_true, reduceIte, xc_i, xc_j, xc_r, xc_n, List.nil_append, List.cons_append, Option.toList_some, Option.toList_none, nI_ltJ, nI_leJ, nI_eqJ, nI_ltz, nI_gez, nI_gtz, nI_lez, nI_eqz, m1_ltz, m1_gez, true_imp_iff, false_imp_iff, true_and, and_true, ne_eq, not_false_eq_true, not_true_eq_false, Nat.reduceEqDiff, Nat.reduceLT, Nat.reduceLeDiff, i2l_n (show k - 1 < 2147483648 by omega), lcmp_z (show wsum cd T N < 2147483648 by omega) (show k - 1 < 2147483648 by omega), qs']
        with_reducible refine xm_go_blk b_X12_readWitness_117 k_X12_readWitness_117 ?_
        refine by_bipush cb_10 ?_
        refine by_iret ry_284 (by first | rfl | assumption) ?_
        exact hp h2 10 fR2 rfl (fun z => absurd z (by decide)) (fun _ => kb2)
end MW
