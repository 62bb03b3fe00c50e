/-! ===== the reference reads: bits, naturals ===== -/
theorem sp_mtb {sc : xm_Sc} {d p : Nat} {l : List Nat} {h : xm_H} {post : xm_Po} (hF : XF h) (hl : mrow h 103 l) (hq : p < 8 * l.length) (hp : post (some (.int (nI (by_bit l p)))) h) : xm_T (XE sc) (d + 1) 305 [.ref 102, .int (nI p)] h post := by
  have h8 := hl.2.2
  have e1 := hl.1 (p / 8) (by omega)
  have e2 := hl.2.1 (p / 8) (by omega)
  refine xq_in rfl ?_
  simp only [xq_a0, xq_aI, xq_aJ, xq_aR, Nat.reduceAdd]
  with_reducible refine xm_go_blk b_X12_tapeBit_0 k_X12_tapeBit_0 ?_
  refine by_aload_n rfl ?_
  refine by_getf cn_305 fl_12_7 (by first | exact rfl | assumption) (by decide) ?_
  refine by_iload_n rfl ?_
  refine by_bipush cb_8 ?_
  refine by_idiv (by first | decide | assumption) ?_
  simp (disch := first | exact Nat.ne_of_beq_eq_false rfl | omega) only [nI_add, xa_sub, xa_mul, pk_div, nm_mod, xa_shr, xa_and7, xa_and1, xa_and255, xa_by_and, nI_m1, Nat.add_sub_cancel, Nat.reducePow, Nat.zero_add, Nat.add_zero, Nat.reduceAdd, Nat.reduceMul, Nat.reduceSub, xf_same, xq_ff, xq_fo, xf_1, xf_2, xs_1, xs_2, xs_same, xq_so, xj_1, xj_2, xj_same, xq_jo, xq_sa1, xq_same, xq_other, upd_s, oI_n, oI_s, xf_102_1 hF, e1]
  first | refine by_iald (by first | exact rfl | assumption | exact ps_1 hpp | exact ps_2 hpp | exact ps_3 hpp | exact ps_4 hpp | exact ps_5 hpp | exact ps_6 hpp | exact ps_7 hpp | exact ps_8 hpp | exact ps_9 hpp | exact ps_10 hpp | exact ps_11 hpp | exact ps_15 hpp | exact ps_16 hpp | exact ps_17 hpp | exact ps_18 hpp | exact ps_19 hpp | exact ps_21 hpp | exact ps_22 hpp | exact ps_23 hpp | exact ps_24 hpp) ⟨by omega, by omega⟩ ?_ | refine by_tald rfl rfl ⟨by omega, by omega⟩ ?_
  refine by_bipush cb_7 ?_
  refine by_iload_n rfl ?_
  refine by_bipush cb_8 ?_
  refine by_irem (by first | decide | assumption) ?_
  refine by_isub ?_
  refine by_ishr ?_
  refine by_iconst ci_1 ?_
  refine by_iand ?_
  simp (disch := first | exact Nat.ne_of_beq_eq_false rfl | omega) only [nI_add, xa_sub, xa_mul, pk_div, nm_mod, xa_shr, xa_and7, xa_and1, xa_and255, xa_by_and, nI_m1, Nat.add_sub_cancel, Nat.reducePow, Nat.zero_add, Nat.add_zero, Nat.reduceAdd, Nat.reduceMul, Nat.reduceSub, xf_same, xq_ff, xq_fo, xf_1, xf_2, xs_1, xs_2, xs_same, xq_so, xj_1, xj_2, xj_same, xq_jo, xq_sa1, xq_same, xq_other, upd_s, oI_n, oI_s, xf_102_1 hF, e1]
  refine by_iret ry_305 (by first | rfl | assumption) ?_
  exact hp
/-- the reference reads bytes: at a, with fault f -/
def mrS (h : xm_H) (l : List Nat) (a f : Nat) : Prop := XF h ∧ mrow h 103 l ∧ h.2.2 102 65 = .int (nI a) ∧ h.2.2 102 66 = .int (nI (8 * l.length)) ∧ h.2.2 102 67 = .int (nI f) ∧ a ≤ 8 * l.length ∧ f ≤ 12
theorem mrS_fr {h h' : xm_H} {S : List Nat} {T : List (Nat × Nat)} {a f a' f' : Nat} {l : List Nat} (hS : mrS h l a f) (hf : Fr S T h h') (hT : xt_fin.all (fun q => !(T.contains (q.1, q.2.1))) = true) (h4 : (102, 66) ∉ T) (hb : 103 ∉ S) (ha : h'.2.2 102 65 = .int (nI a')) (hf5 : h'.2.2 102 67 = .int (nI f')) (ha2 : a' ≤ 8 * l.length) (hf2 : f' ≤ 12) : mrS h' l a' f' := by
  obtain ⟨s1, s2, s3, s4, s5, s6, s7⟩ := hS
  exact ⟨Fr_XF s1 hf hT, ⟨fun i hi => by rw [hf.1 _ hb]; exact s2.1 i hi, s2.2⟩, ha, by rw [hf.2.2 _ _ h4, s4], hf5, ha2, hf2⟩
theorem mrS_a {h : xm_H} {a f a' : Nat} {l : List Nat} (hS : mrS h l a f) (ha : a' ≤ 8 * l.length) : mrS (xm_sf h 102 65 (.int (nI a'))) l a' f := by
  have h1 : Fr [] [(102, 65)] h (xm_sf h 102 65 (.int (nI a'))) := Fr_sf Fr_rf (by decide)
  exact mrS_fr hS h1 (by decide +kernel) (by decide) (by decide) (by simp [xm_sf, updV]) (by rw [h1.2.2 _ _ (by decide)]; exact hS.2.2.2.2.1) ha hS.2.2.2.2.2.2
theorem mrS_f {h : xm_H} {a f f' : Nat} {l : List Nat} (hS : mrS h l a f) (hf : f' ≤ 12) : mrS (xm_sf h 102 67 (.int (nI f'))) l a f' := by
  have h1 : Fr [] [(102, 67)] h (xm_sf h 102 67 (.int (nI f'))) := Fr_sf Fr_rf (by decide)
  exact mrS_fr hS h1 (by decide +kernel) (by decide) (by decide) (by rw [h1.2.2 _ _ (by decide)]; exact hS.2.2.1) (by simp [xm_sf, updV]) hS.2.2.2.2.2.1 hf
theorem sp_mbit {sc : xm_Sc} {d a f : Nat} {l : List Nat} {h : xm_H} {post : xm_Po} (hS : mrS h l a f) (hA : f ≠ 0 → post (some (.int (nI 0))) h) (hB : f = 0 → a = 8 * l.length → post (some (.int (nI 0))) (xm_sf h 102 67 (.int (nI 1)))) (hC : f = 0 → a < 8 * l.length → post (some (.int (nI (by_bit l a)))) (xm_sf h 102 65 (.int (nI (a + 1))))) :
    xm_T (XE sc) (d + 2) 208 [.ref 102] h post := by
  have hS0 := hS
  obtain ⟨s1, s2, s3, s4, s5, s6, s7⟩ := hS0
  have h8 := s2.2.2
  refine xq_in rfl ?_
  simp only [xq_a0, xq_aI, xq_aJ, xq_aR, Nat.reduceAdd]
  by_cases hf : f = 0
  · by_cases hle : a < 8 * l.length
    · with_reducible refine xm_go_blk b_X12_bit_0 k_X12_bit_0 ?_
      refine by_aload_n rfl ?_
      refine by_getf cn_208 fl_12_330 (by first | exact rfl | assumption) (by decide) ?_
      simp (disch := first | exact Nat.ne_of_beq_eq_false rfl | omega) only [nI_add, xa_sub, xa_mul, pk_div, nm_mod, xa_shr, xa_and7, xa_and1, xa_and255, xa_by_and, nI_m1, Nat.add_sub_cancel, Nat.reducePow, Nat.zero_add, Nat.add_zero, Nat.reduceAdd, Nat.reduceMul, Nat.reduceSub, xf_same, xq_ff, xq_fo, xf_1, xf_2, xs_1, xs_2, xs_same, xq_so, xj_1, xj_2, xj_same, xq_jo, xq_sa1, xq_same, xq_other, upd_s, oI_n, oI_s, s5, hf, s3, s4]
      refine by_if_le 9 rfl ?_
      simp (disch := first | exact Nat.ne_of_beq_eq_false rfl | omega) only [nI_add, xa_sub, xa_mul, pk_div, nm_mod, xa_shr, xa_and7, xa_and1, xa_and255, xa_by_and, nI_m1, Nat.add_sub_cancel, Nat.reducePow, Nat.zero_add, Nat.add_zero, Nat.reduceAdd, Nat.reduceMul, Nat.reduceSub, xf_same, xq_ff, xq_fo, xf_1, xf_2, xs_1, xs_2, xs_same, xq_so, xj_1, xj_2, xj_same, xq_jo, xq_sa1, xq_same, xq_other, upd_s, oI_n, oI_s, xv_0, xv_1, xv_2, xv_3, xm_p1, xm_p2, List.filter_cons, List.filter_nil, Nat.reduceBEq, Bool.not_true, Bool.not_false, Bool.and_true, Bool.and_false, Bool.false_and, Bool.true_and, if_true, if_false, Bool.false_eq_true, reduceIte, xc_i, xc_j, xc_r, xc_n, List.nil_append, List.cons_append, Option.toList_some, Option.toList_none, nI_ltJ, nI_leJ, nI_eqJ, nI_ltz, nI_gez, nI_gtz, nI_lez, nI_eqz, m1_ltz, m1_gez, true_imp_iff, false_imp_iff, true_and, and_true, ne_eq, not_false_eq_true, not_true_eq_false, Nat.reduceEqDiff, Nat.reduceLT, Nat.reduceLeDiff, s5, hf, s3, s4]
      with_reducible refine xm_go_blk b_X12_bit_9 k_X12_bit_9 ?_
      refine by_aload_n rfl ?_
      refine by_getf cn_208 fl_12_333 (by first | exact rfl | assumption) (by decide) ?_
      refine by_aload_n rfl ?_
      refine by_getf cn_208 fl_12_336 (by first | exact rfl | assumption) (by decide) ?_
      simp (disch := first | exact Nat.ne_of_beq_eq_false rfl | omega) only [nI_add, xa_sub, xa_mul, pk_div, nm_mod, xa_shr, xa_and7, xa_and1, xa_and255, xa_by_and, nI_m1, Nat.add_sub_cancel, Nat.reducePow, Nat.zero_add, Nat.add_zero, Nat.reduceAdd, Nat.reduceMul, Nat.reduceSub, xf_same, xq_ff, xq_fo, xf_1, xf_2, xs_1, xs_2, xs_same, xq_so, xj_1, xj_2, xj_same, xq_jo, xq_sa1, xq_same, xq_other, upd_s, oI_n, oI_s, s5, hf, s3, s4]
      refine by_ic_lt 27 rfl ?_
      simp (disch := first | exact Nat.ne_of_beq_eq_false rfl | omega) only [nI_add, xa_sub, xa_mul, pk_div, nm_mod, xa_shr, xa_and7, xa_and1, xa_and255, xa_by_and, nI_m1, Nat.add_sub_cancel, Nat.reducePow, Nat.zero_add, Nat.add_zero, Nat.reduceAdd, Nat.reduceMul, Nat.reduceSub, xf_same, xq_ff, xq_fo, xf_1, xf_2, xs_1, xs_2, xs_same, xq_so, xj_1, xj_2, xj_same, xq_jo, xq_sa1, xq_same, xq_other, upd_s, oI_n, oI_s, xv_0, xv_1, xv_2, xv_3, xm_p1, xm_p2, List.filter_cons, List.filter_nil, Nat.reduceBEq, Bool.not_true, Bool.not_false, Bool.and_true, Bool.and_false, Bool.false_and, Bool.true_and, if_true, if_false, Bool.false_eq_true, reduceIte, xc_i, xc_j, xc_r, xc_n, List.nil_append, List.cons_append, Option.toList_some, Option.toList_none, nI_ltJ, nI_leJ, nI_eqJ, nI_ltz, nI_gez, nI_gtz, nI_lez, nI_eqz, m1_ltz, m1_gez, true_imp_iff, false_imp_iff, true_and, and_true, ne_eq, not_false_eq_true, not_true_eq_false, Nat.reduceEqDiff, Nat.reduceLT, Nat.reduceLeDiff, s5, hf, s3, s4]
      refine ⟨fun c9 => ?_, fun c => absurd (by omega) c⟩
      with_reducible refine xm_go_blk b_X12_bit_27 k_X12_bit_27 ?_
      refine by_aload_n rfl ?_
      refine by_dup rfl ?_
      refine by_getf cn_208 fl_12_333 (by first | exact rfl | assumption) (by decide) ?_
      refine by_iconst ci_1 ?_
      simp (disch := first | exact Nat.ne_of_beq_eq_false rfl | omega) only [nI_add, xa_sub, xa_mul, pk_div, nm_mod, xa_shr, xa_and7, xa_and1, xa_and255, xa_by_and, nI_m1, Nat.add_sub_cancel, Nat.reducePow, Nat.zero_add, Nat.add_zero, Nat.reduceAdd, Nat.reduceMul, Nat.reduceSub, xf_same, xq_ff, xq_fo, xf_1, xf_2, xs_1, xs_2, xs_same, xq_so, xj_1, xj_2, xj_same, xq_jo, xq_sa1, xq_same, xq_other, upd_s, oI_n, oI_s, s5, hf, s3, s4]
      refine by_iadd ?_
      refine by_putf cn_208 fl_12_333 (by first | exact rfl | assumption) (by decide) nf_12_65 ft_12_65 (by first | rfl | assumption) (by first | rfl | assumption) ?_
      refine by_aload_n rfl ?_
      refine by_aload_n rfl ?_
      refine by_getf cn_208 fl_12_333 (by first | exact rfl | assumption) (by decide) ?_
      refine by_iconst ci_1 ?_
      simp (disch := first | exact Nat.ne_of_beq_eq_false rfl | omega) only [nI_add, xa_sub, xa_mul, pk_div, nm_mod, xa_shr, xa_and7, xa_and1, xa_and255, xa_by_and, nI_m1, Nat.add_sub_cancel, Nat.reducePow, Nat.zero_add, Nat.add_zero, Nat.reduceAdd, Nat.reduceMul, Nat.reduceSub, xf_same, xq_ff, xq_fo, xf_1, xf_2, xs_1, xs_2, xs_same, xq_so, xj_1, xj_2, xj_same, xq_jo, xq_sa1, xq_same, xq_other, upd_s, oI_n, oI_s, s5, hf, s3, s4]
      refine by_isub ?_
      simp (disch := first | exact Nat.ne_of_beq_eq_false rfl | omega) only [nI_add, xa_sub, xa_mul, pk_div, nm_mod, xa_shr, xa_and7, xa_and1, xa_and255, xa_by_and, nI_m1, Nat.add_sub_cancel, Nat.reducePow, Nat.zero_add, Nat.add_zero, Nat.reduceAdd, Nat.reduceMul, Nat.reduceSub, xf_same, xq_ff, xq_fo, xf_1, xf_2, xs_1, xs_2, xs_same, xq_so, xj_1, xj_2, xj_same, xq_jo, xq_sa1, xq_same, xq_other, upd_s, oI_n, oI_s, xv_0, xv_1, xv_2, xv_3, xm_p1, xm_p2, List.filter_cons, List.filter_nil, Nat.reduceBEq, Bool.not_true, Bool.not_false, Bool.and_true, Bool.and_false, Bool.false_and, Bool.true_and, if_true, if_false, Bool.false_eq_true, reduceIte, xc_i, xc_j, xc_r, xc_n, List.nil_append, List.cons_append, Option.toList_some, Option.toList_none, s5, hf, s3, s4]
      refine by_inv1 cn_208 lk_12_283 (by rw [xe_cnt]; decide) is_305 np_305 cn_305 (by first | exact rfl | assumption) (Nat.le_of_ble_eq_true rfl) ?_
      refine sp_mtb (mrS_a hS (a' := a + 1) (by omega)).1 (mrS_a hS (a' := a + 1) (by omega)).2.1 (by omega) ?_
      with_reducible refine xm_go_blk b_X12_bit_47 k_X12_bit_47 ?_
      refine by_iret ry_208 (by first | rfl | assumption) ?_
      exact hC hf hle
    · with_reducible refine xm_go_blk b_X12_bit_0 k_X12_bit_0 ?_
      refine by_aload_n rfl ?_
      refine by_getf cn_208 fl_12_330 (by first | exact rfl | assumption) (by decide) ?_
      simp (disch := first | exact Nat.ne_of_beq_eq_false rfl | omega) only [nI_add, xa_sub, xa_mul, pk_div, nm_mod, xa_shr, xa_and7, xa_and1, xa_and255, xa_by_and, nI_m1, Nat.add_sub_cancel, Nat.reducePow, Nat.zero_add, Nat.add_zero, Nat.reduceAdd, Nat.reduceMul, Nat.reduceSub, xf_same, xq_ff, xq_fo, xf_1, xf_2, xs_1, xs_2, xs_same, xq_so, xj_1, xj_2, xj_same, xq_jo, xq_sa1, xq_same, xq_other, upd_s, oI_n, oI_s, s5, hf, s3, s4]
      refine by_if_le 9 rfl ?_
      simp (disch := first | exact Nat.ne_of_beq_eq_false rfl | omega) only [nI_add, xa_sub, xa_mul, pk_div, nm_mod, xa_shr, xa_and7, xa_and1, xa_and255, xa_by_and, nI_m1, Nat.add_sub_cancel, Nat.reducePow, Nat.zero_add, Nat.add_zero, Nat.reduceAdd, Nat.reduceMul, Nat.reduceSub, xf_same, xq_ff, xq_fo, xf_1, xf_2, xs_1, xs_2, xs_same, xq_so, xj_1, xj_2, xj_same, xq_jo, xq_sa1, xq_same, xq_other, upd_s, oI_n, oI_s, xv_0, xv_1, xv_2, xv_3, xm_p1, xm_p2, List.filter_cons, List.filter_nil, Nat.reduceBEq, Bool.not_true, Bool.not_false, Bool.and_true, Bool.and_false, Bool.false_and, Bool.true_and, if_true, if_false, Bool.false_eq_true, reduceIte, xc_i, xc_j, xc_r, xc_n, List.nil_append, List.cons_append, Option.toList_some, Option.toList_none, nI_ltJ, nI_leJ, nI_eqJ, nI_ltz, nI_gez, nI_gtz, nI_lez, nI_eqz, m1_ltz, m1_gez, true_imp_iff, false_imp_iff, true_and, and_true, ne_eq, not_false_eq_true, not_true_eq_false, Nat.reduceEqDiff, Nat.reduceLT, Nat.reduceLeDiff, s5, hf, s3, s4]
      with_reducible refine xm_go_blk b_X12_bit_9 k_X12_bit_9 ?_
      refine by_aload_n rfl ?_
      refine by_getf cn_208 fl_12_333 (by first | exact rfl | assumption) (by decide) ?_
      refine by_aload_n rfl ?_
      refine by_getf cn_208 fl_12_336 (by first | exact rfl | assumption) (by decide) ?_
      simp (disch := first | exact Nat.ne_of_beq_eq_false rfl | omega) only [nI_add, xa_sub, xa_mul, pk_div, nm_mod, xa_shr, xa_and7, xa_and1, xa_and255, xa_by_and, nI_m1, Nat.add_sub_cancel, Nat.reducePow, Nat.zero_add, Nat.add_zero, Nat.reduceAdd, Nat.reduceMul, Nat.reduceSub, xf_same, xq_ff, xq_fo, xf_1, xf_2, xs_1, xs_2, xs_same, xq_so, xj_1, xj_2, xj_same, xq_jo, xq_sa1, xq_same, xq_other, upd_s, oI_n, oI_s, s5, hf, s3, s4]
      refine by_ic_lt 27 rfl ?_
      simp (disch := first | exact Nat.ne_of_beq_eq_false rfl | omega) only [nI_add, xa_sub, xa_mul, pk_div, nm_mod, xa_shr, xa_and7, xa_and1, xa_and255, xa_by_and, nI_m1, Nat.add_sub_cancel, Nat.reducePow, Nat.zero_add, Nat.add_zero, Nat.reduceAdd, Nat.reduceMul, Nat.reduceSub, xf_same, xq_ff, xq_fo, xf_1, xf_2, xs_1, xs_2, xs_same, xq_so, xj_1, xj_2, xj_same, xq_jo, xq_sa1, xq_same, xq_other, upd_s, oI_n, oI_s, xv_0, xv_1, xv_2, xv_3, xm_p1, xm_p2, List.filter_cons, List.filter_nil, Nat.reduceBEq, Bool.not_true, Bool.not_false, Bool.and_true, Bool.and_false, Bool.false_and, Bool.true_and, if_true, if_false, Bool.false_eq_true, reduceIte, xc_i, xc_j, xc_r, xc_n, List.nil_append, List.cons_append, Option.toList_some, Option.toList_none, nI_ltJ, nI_leJ, nI_eqJ, nI_ltz, nI_gez, nI_gtz, nI_lez, nI_eqz, m1_ltz, m1_gez, true_imp_iff, false_imp_iff, true_and, and_true, ne_eq, not_false_eq_true, not_true_eq_false, Nat.reduceEqDiff, Nat.reduceLT, Nat.reduceLeDiff, s5, hf, s3, s4]
      refine ⟨fun c => absurd c (by omega), fun c9 => ?_⟩
      with_reducible refine xm_go_blk b_X12_bit_20 k_X12_bit_20 ?_
      refine by_aload_n rfl ?_
      refine by_iconst ci_1 ?_
      refine by_putf cn_208 fl_12_330 (by first | exact rfl | assumption) (by decide) nf_12_67 ft_12_67 (by first | rfl | assumption) (by first | rfl | assumption) ?_
      refine by_iconst ci_0 ?_
      refine by_iret ry_208 (by first | rfl | assumption) ?_
      exact hB hf (by omega)
  · with_reducible refine xm_go_blk b_X12_bit_0 k_X12_bit_0 ?_
    refine by_aload_n rfl ?_
    refine by_getf cn_208 fl_12_330 (by first | exact rfl | assumption) (by decide) ?_
    simp (disch := first | exact Nat.ne_of_beq_eq_false rfl | omega) only [nI_add, xa_sub, xa_mul, pk_div, nm_mod, xa_shr, xa_and7, xa_and1, xa_and255, xa_by_and, nI_m1, Nat.add_sub_cancel, Nat.reducePow, Nat.zero_add, Nat.add_zero, Nat.reduceAdd, Nat.reduceMul, Nat.reduceSub, xf_same, xq_ff, xq_fo, xf_1, xf_2, xs_1, xs_2, xs_same, xq_so, xj_1, xj_2, xj_same, xq_jo, xq_sa1, xq_same, xq_other, upd_s, oI_n, oI_s, s5]
    refine by_if_le 9 rfl ?_
    simp (disch := first | exact Nat.ne_of_beq_eq_false rfl | omega) only [nI_add, xa_sub, xa_mul, pk_div, nm_mod, xa_shr, xa_and7, xa_and1, xa_and255, xa_by_and, nI_m1, Nat.add_sub_cancel, Nat.reducePow, Nat.zero_add, Nat.add_zero, Nat.reduceAdd, Nat.reduceMul, Nat.reduceSub, xf_same, xq_ff, xq_fo, xf_1, xf_2, xs_1, xs_2, xs_same, xq_so, xj_1, xj_2, xj_same, xq_jo, xq_sa1, xq_same, xq_other, upd_s, oI_n, oI_s, xv_0, xv_1, xv_2, xv_3, xm_p1, xm_p2, List.filter_cons, List.filter_nil, Nat.reduceBEq, Bool.not_true, Bool.not_false, Bool.and_true, Bool.and_false, Bool.false_and, Bool.true_and, if_true, if_false, Bool.false_eq_true, reduceIte, xc_i, xc_j, xc_r, xc_n, List.nil_append, List.cons_append, Option.toList_some, Option.toList_none, nI_ltJ, nI_leJ, nI_eqJ, nI_ltz, nI_gez, nI_gtz, nI_lez, nI_eqz, m1_ltz, m1_gez, true_imp_iff, false_imp_iff, true_and, and_true, ne_eq, not_false_eq_true, not_true_eq_false, Nat.reduceEqDiff, Nat.reduceLT, Nat.reduceLeDiff, s5]
    refine ⟨fun c => absurd c hf, fun _ => ?_⟩
    with_reducible refine xm_go_blk b_X12_bit_7 k_X12_bit_7 ?_
    refine by_iconst ci_0 ?_
    refine by_iret ry_208 (by first | rfl | assumption) ?_
    exact hA hf
/-- n bits: their number, or a fault -/
theorem sp_mbits {sc : xm_Sc} {d a f n : Nat} {l : List Nat} {h : xm_H} {post : xm_Po} (hS : mrS h l a f) (hn : n ≤ 32) (hA : f ≠ 0 → ∀ y, post (some (.int y)) h) (hB : f = 0 → 8 * l.length < a + n → ∀ y h', Fr [] [(102, 65), (102, 67)] h h' → mrS h' l (8 * l.length) 1 → post (some (.int y)) h') (hC : f = 0 → a + n ≤ 8 * l.length → ∀ h', Fr [] [(102, 65), (102, 67)] h h' → mrS h' l (a + n) 0 → post (some (.int (nI (pb (by_bit l) a n)))) h') :
    xm_T (XE sc) (d + 3) 210 [.ref 102, .int (nI n)] h post := by
  have h8 := hS.2.1.2.2
  have kbad : ∀ m k f' a' h' y, k + m = n → f' ≠ 0 → mrS h' l a' f' → (∀ z, post (some (.int z)) h') → xm_go (XE sc) (xm_T (XE sc) (d + 2)) 210 post 4 [(3, .int (nI k)), (2, .int y), (0, .ref 102), (1, .int (nI n))] [] h' := by
    intro m
    induction m with
    | zero =>
      intro k f' a' h' y hk hf hS' hz
      with_reducible refine xm_go_blk b_X12_bitsOf_4 k_X12_bitsOf_4 ?_
      refine by_iload_n rfl ?_
      refine by_iload_n rfl ?_
      refine by_ic_ge 24 rfl ?_
      simp (disch := first | exact Nat.ne_of_beq_eq_false rfl | omega) only [nI_add, xa_sub, xa_mul, pk_div, nm_mod, xa_shr, xa_and7, xa_and1, xa_and255, xa_by_and, nI_m1, Nat.add_sub_cancel, Nat.reducePow, Nat.zero_add, Nat.add_zero, Nat.reduceAdd, Nat.reduceMul, Nat.reduceSub, xf_same, xq_ff, xq_fo, xf_1, xf_2, xs_1, xs_2, xs_same, xq_so, xj_1, xj_2, xj_same, xq_jo, xq_sa1, xq_same, xq_other, upd_s, oI_n, oI_s, xv_0, xv_1, xv_2, xv_3, xm_p1, xm_p2, List.filter_cons, List.filter_nil, Nat.reduceBEq, Bool.not_true, Bool.not_false, Bool.and_true, Bool.and_false, Bool.false_and, Bool.true_and, if_true, if_false, Bool.false_eq_true, reduceIte, xc_i, xc_j, xc_r, xc_n, List.nil_append, List.cons_append, Option.toList_some, Option.toList_none, nI_ltJ, nI_leJ, nI_eqJ, nI_ltz, nI_gez, nI_gtz, nI_lez, nI_eqz, m1_ltz, m1_gez, true_imp_iff, false_imp_iff, true_and, and_true, ne_eq, not_false_eq_true, not_true_eq_false, Nat.reduceEqDiff, Nat.reduceLT, Nat.reduceLeDiff]
      refine ⟨fun c4 => ?_, fun c => absurd (by omega) c⟩
      with_reducible refine xm_go_blk b_X12_bitsOf_24 k_X12_bitsOf_24 ?_
      refine by_iload_n rfl ?_
      refine by_iret ry_210 (by first | rfl | assumption) ?_
      exact hz _
    | succ m ih =>
      intro k f' a' h' y hk hf hS' hz
      with_reducible refine xm_go_blk b_X12_bitsOf_4 k_X12_bitsOf_4 ?_
      refine by_iload_n rfl ?_
      refine by_iload_n rfl ?_
      refine by_ic_ge 24 rfl ?_
      simp (disch := first | exact Nat.ne_of_beq_eq_false rfl | omega) only [nI_add, xa_sub, xa_mul, pk_div, nm_mod, xa_shr, xa_and7, xa_and1, xa_and255, xa_by_and, nI_m1, Nat.add_sub_cancel, Nat.reducePow, Nat.zero_add, Nat.add_zero, Nat.reduceAdd, Nat.reduceMul, Nat.reduceSub, xf_same, xq_ff, xq_fo, xf_1, xf_2, xs_1, xs_2, xs_same, xq_so, xj_1, xj_2, xj_same, xq_jo, xq_sa1, xq_same, xq_other, upd_s, oI_n, oI_s, xv_0, xv_1, xv_2, xv_3, xm_p1, xm_p2, List.filter_cons, List.filter_nil, Nat.reduceBEq, Bool.not_true, Bool.not_false, Bool.and_true, Bool.and_false, Bool.false_and, Bool.true_and, if_true, if_false, Bool.false_eq_true, reduceIte, xc_i, xc_j, xc_r, xc_n, List.nil_append, List.cons_append, Option.toList_some, Option.toList_none, nI_ltJ, nI_leJ, nI_eqJ, nI_ltz, nI_gez, nI_gtz, nI_lez, nI_eqz, m1_ltz, m1_gez, true_imp_iff, false_imp_iff, true_and, and_true, ne_eq, not_false_eq_true, not_true_eq_false, Nat.reduceEqDiff, Nat.reduceLT, Nat.reduceLeDiff]
      refine ⟨fun c => absurd c (by omega), fun c4 => ?_⟩
      with_reducible refine xm_go_blk b_X12_bitsOf_9 k_X12_bitsOf_9 ?_
      refine by_iload_n rfl ?_
      refine by_iconst ci_1 ?_
      refine by_ishl ?_
      refine by_aload_n rfl ?_
      simp (disch := first | exact Nat.ne_of_beq_eq_false rfl | omega) only [nI_add, xa_sub, xa_mul, pk_div, nm_mod, xa_shr, xa_and7, xa_and1, xa_and255, xa_by_and, nI_m1, Nat.add_sub_cancel, Nat.reducePow, Nat.zero_add, Nat.add_zero, Nat.reduceAdd, Nat.reduceMul, Nat.reduceSub, xf_same, xq_ff, xq_fo, xf_1, xf_2, xs_1, xs_2, xs_same, xq_so, xj_1, xj_2, xj_same, xq_jo, xq_sa1, xq_same, xq_other, upd_s, oI_n, oI_s, xv_0, xv_1, xv_2, xv_3, xm_p1, xm_p2, List.filter_cons, List.filter_nil, Nat.reduceBEq, Bool.not_true, Bool.not_false, Bool.and_true, Bool.and_false, Bool.false_and, Bool.true_and, if_true, if_false, Bool.false_eq_true, reduceIte, xc_i, xc_j, xc_r, xc_n, List.nil_append, List.cons_append, Option.toList_some, Option.toList_none]
      refine by_inv0 cn_210 lk_12_339 (by rw [xe_cnt]; decide) is_208 np_208 cn_208 (by first | exact rfl | assumption) (Nat.le_of_ble_eq_true rfl) ?_
      refine sp_mbit hS' (fun _ => ?_) (fun c => absurd c hf) (fun c => absurd c hf)
      with_reducible refine xm_go_blk b_X12_bitsOf_16 k_X12_bitsOf_16 ?_
      refine by_ior ?_
      refine by_istore_n (by rw [ml_210]; decide) ?_
      refine by_iinc (by rw [ml_210]; decide) rfl ci_1 ?_
      refine by_goto 4 rfl ?_
      simp (disch := first | exact Nat.ne_of_beq_eq_false rfl | omega) only [nI_add, xa_sub, xa_mul, pk_div, nm_mod, xa_shr, xa_and7, xa_and1, xa_and255, xa_by_and, nI_m1, Nat.add_sub_cancel, Nat.reducePow, Nat.zero_add, Nat.add_zero, Nat.reduceAdd, Nat.reduceMul, Nat.reduceSub, xf_same, xq_ff, xq_fo, xf_1, xf_2, xs_1, xs_2, xs_same, xq_so, xj_1, xj_2, xj_same, xq_jo, xq_sa1, xq_same, xq_other, upd_s, oI_n, oI_s, xv_0, xv_1, xv_2, xv_3, xm_p1, xm_p2, List.filter_cons, List.filter_nil, Nat.reduceBEq, Bool.not_true, Bool.not_false, Bool.and_true, Bool.and_false, Bool.false_and, Bool.true_and, if_true, if_false, Bool.false_eq_true, reduceIte, xc_i, xc_j, xc_r, xc_n, List.nil_append, List.cons_append, Option.toList_some, Option.toList_none]
      exact ih (k + 1) f' a' h' _ (by omega) hf hS' hz
  have key : ∀ m k h', k + m = n → f = 0 → a + k ≤ 8 * l.length → mrS h' l (a + k) 0 → Fr [] [(102, 65), (102, 67)] h h' → xm_go (XE sc) (xm_T (XE sc) (d + 2)) 210 post 4 [(3, .int (nI k)), (2, .int (nI (pb (by_bit l) a k))), (0, .ref 102), (1, .int (nI n))] [] h' := by
    intro m
    induction m with
    | zero =>
      intro k h' hk hf hle hS' hfr
      have hk : k = n := by omega
      subst hk
      with_reducible refine xm_go_blk b_X12_bitsOf_4 k_X12_bitsOf_4 ?_
      refine by_iload_n rfl ?_
      refine by_iload_n rfl ?_
      refine by_ic_ge 24 rfl ?_
      simp (disch := first | exact Nat.ne_of_beq_eq_false rfl | omega) only [nI_add, xa_sub, xa_mul, pk_div, nm_mod, xa_shr, xa_and7, xa_and1, xa_and255, xa_by_and, nI_m1, Nat.add_sub_cancel, Nat.reducePow, Nat.zero_add, Nat.add_zero, Nat.reduceAdd, Nat.reduceMul, Nat.reduceSub, xf_same, xq_ff, xq_fo, xf_1, xf_2, xs_1, xs_2, xs_same, xq_so, xj_1, xj_2, xj_same, xq_jo, xq_sa1, xq_same, xq_other, upd_s, oI_n, oI_s, xv_0, xv_1, xv_2, xv_3, xm_p1, xm_p2, List.filter_cons, List.filter_nil, Nat.reduceBEq, Bool.not_true, Bool.not_false, Bool.and_true, Bool.and_false, Bool.false_and, Bool.true_and, if_true, if_false, Bool.false_eq_true, reduceIte, xc_i, xc_j, xc_r, xc_n, List.nil_append, List.cons_append, Option.toList_some, Option.toList_none, nI_ltJ, nI_leJ, nI_eqJ, nI_ltz, nI_gez, nI_gtz, nI_lez, nI_eqz, m1_ltz, m1_gez, true_imp_iff, false_imp_iff, true_and, and_true, ne_eq, not_false_eq_true, not_true_eq_false, Nat.reduceEqDiff, Nat.reduceLT, Nat.reduceLeDiff]
      refine ⟨fun c4 => ?_, fun c => absurd (by omega) c⟩
      with_reducible refine xm_go_blk b_X12_bitsOf_24 k_X12_bitsOf_24 ?_
      refine by_iload_n rfl ?_
      refine by_iret ry_210 (by first | rfl | assumption) ?_
      exact hC hf hle h' hfr hS'
    | succ m ih =>
      intro k h' hk hf hle hS' hfr
      with_reducible refine xm_go_blk b_X12_bitsOf_4 k_X12_bitsOf_4 ?_
      refine by_iload_n rfl ?_
      refine by_iload_n rfl ?_
      refine by_ic_ge 24 rfl ?_
      simp (disch := first | exact Nat.ne_of_beq_eq_false rfl | omega) only [nI_add, xa_sub, xa_mul, pk_div, nm_mod, xa_shr, xa_and7, xa_and1, xa_and255, xa_by_and, nI_m1, Nat.add_sub_cancel, Nat.reducePow, Nat.zero_add, Nat.add_zero, Nat.reduceAdd, Nat.reduceMul, Nat.reduceSub, xf_same, xq_ff, xq_fo, xf_1, xf_2, xs_1, xs_2, xs_same, xq_so, xj_1, xj_2, xj_same, xq_jo, xq_sa1, xq_same, xq_other, upd_s, oI_n, oI_s, xv_0, xv_1, xv_2, xv_3, xm_p1, xm_p2, List.filter_cons, List.filter_nil, Nat.reduceBEq, Bool.not_true, Bool.not_false, Bool.and_true, Bool.and_false, Bool.false_and, Bool.true_and, if_true, if_false, Bool.false_eq_true, reduceIte, xc_i, xc_j, xc_r, xc_n, List.nil_append, List.cons_append, Option.toList_some, Option.toList_none, nI_ltJ, nI_leJ, nI_eqJ, nI_ltz, nI_gez, nI_gtz, nI_lez, nI_eqz, m1_ltz, m1_gez, true_imp_iff, false_imp_iff, true_and, and_true, ne_eq, not_false_eq_true, not_true_eq_false, Nat.reduceEqDiff, Nat.reduceLT, Nat.reduceLeDiff]
      refine ⟨fun c => absurd c (by omega), fun c4 => ?_⟩
      with_reducible refine xm_go_blk b_X12_bitsOf_9 k_X12_bitsOf_9 ?_
      refine by_iload_n rfl ?_
      refine by_iconst ci_1 ?_
      refine by_ishl ?_
      refine by_aload_n rfl ?_
      simp (disch := first | exact Nat.ne_of_beq_eq_false rfl | omega) only [nI_add, xa_sub, xa_mul, pk_div, nm_mod, xa_shr, xa_and7, xa_and1, xa_and255, xa_by_and, nI_m1, Nat.add_sub_cancel, Nat.reducePow, Nat.zero_add, Nat.add_zero, Nat.reduceAdd, Nat.reduceMul, Nat.reduceSub, xf_same, xq_ff, xq_fo, xf_1, xf_2, xs_1, xs_2, xs_same, xq_so, xj_1, xj_2, xj_same, xq_jo, xq_sa1, xq_same, xq_other, upd_s, oI_n, oI_s, xv_0, xv_1, xv_2, xv_3, xm_p1, xm_p2, List.filter_cons, List.filter_nil, Nat.reduceBEq, Bool.not_true, Bool.not_false, Bool.and_true, Bool.and_false, Bool.false_and, Bool.true_and, if_true, if_false, Bool.false_eq_true, reduceIte, xc_i, xc_j, xc_r, xc_n, List.nil_append, List.cons_append, Option.toList_some, Option.toList_none]
      refine by_inv0 cn_210 lk_12_339 (by rw [xe_cnt]; decide) is_208 np_208 cn_208 (by first | exact rfl | assumption) (Nat.le_of_ble_eq_true rfl) ?_
      refine sp_mbit hS' (fun c => absurd rfl c) (fun _ he => ?_) (fun _ hlt => ?_)
      · with_reducible refine xm_go_blk b_X12_bitsOf_16 k_X12_bitsOf_16 ?_
        refine by_ior ?_
        refine by_istore_n (by rw [ml_210]; decide) ?_
        refine by_iinc (by rw [ml_210]; decide) rfl ci_1 ?_
        refine by_goto 4 rfl ?_
        simp (disch := first | exact Nat.ne_of_beq_eq_false rfl | omega) only [nI_add, xa_sub, xa_mul, pk_div, nm_mod, xa_shr, xa_and7, xa_and1, xa_and255, xa_by_and, nI_m1, Nat.add_sub_cancel, Nat.reducePow, Nat.zero_add, Nat.add_zero, Nat.reduceAdd, Nat.reduceMul, Nat.reduceSub, xf_same, xq_ff, xq_fo, xf_1, xf_2, xs_1, xs_2, xs_same, xq_so, xj_1, xj_2, xj_same, xq_jo, xq_sa1, xq_same, xq_other, upd_s, oI_n, oI_s, xv_0, xv_1, xv_2, xv_3, xm_p1, xm_p2, List.filter_cons, List.filter_nil, Nat.reduceBEq, Bool.not_true, Bool.not_false, Bool.and_true, Bool.and_false, Bool.false_and, Bool.true_and, if_true, if_false, Bool.false_eq_true, reduceIte, xc_i, xc_j, xc_r, xc_n, List.nil_append, List.cons_append, Option.toList_some, Option.toList_none]
        have hfr2 : Fr [] [(102, 65), (102, 67)] h (xm_sf h' 102 67 (.int (nI 1))) := Fr_sf hfr (by decide)
        have hS2 := mrS_f (f' := 1) hS' (by decide)
        exact kbad m (k + 1) 1 _ _ _ (by omega) (by decide) hS2 (fun z => hB hf (by omega) z _ hfr2 (by rw [he] at hS2; exact hS2))
      · with_reducible refine xm_go_blk b_X12_bitsOf_16 k_X12_bitsOf_16 ?_
        refine by_ior ?_
        refine by_istore_n (by rw [ml_210]; decide) ?_
        refine by_iinc (by rw [ml_210]; decide) rfl ci_1 ?_
        refine by_goto 4 rfl ?_
        simp (disch := first | exact Nat.ne_of_beq_eq_false rfl | omega) only [nI_add, xa_sub, xa_mul, pk_div, nm_mod, xa_shr, xa_and7, xa_and1, xa_and255, xa_by_and, nI_m1, Nat.add_sub_cancel, Nat.reducePow, Nat.zero_add, Nat.add_zero, Nat.reduceAdd, Nat.reduceMul, Nat.reduceSub, xf_same, xq_ff, xq_fo, xf_1, xf_2, xs_1, xs_2, xs_same, xq_so, xj_1, xj_2, xj_same, xq_jo, xq_sa1, xq_same, xq_other, upd_s, oI_n, oI_s, xv_0, xv_1, xv_2, xv_3, xm_p1, xm_p2, List.filter_cons, List.filter_nil, Nat.reduceBEq, Bool.not_true, Bool.not_false, Bool.and_true, Bool.and_false, Bool.false_and, Bool.true_and, if_true, if_false, Bool.false_eq_true, reduceIte, xc_i, xc_j, xc_r, xc_n, List.nil_append, List.cons_append, Option.toList_some, Option.toList_none, nI_sh1 (by_bit_lt l (a + k))]
        exact ih (k + 1) _ (by omega) hf (by omega) (mrS_a hS' (by omega)) (Fr_sf hfr (by decide))
  refine xq_in rfl ?_
  simp only [xq_a0, xq_aI, xq_aJ, xq_aR, Nat.reduceAdd]
  with_reducible refine xm_go_blk b_X12_bitsOf_0 k_X12_bitsOf_0 ?_
  refine by_iconst ci_0 ?_
  refine by_istore_n (by rw [ml_210]; decide) ?_
  refine by_iconst ci_0 ?_
  refine by_istore_n (by rw [ml_210]; decide) ?_
  refine by_nil ?_
  simp (disch := first | exact Nat.ne_of_beq_eq_false rfl | omega) only [nI_add, xa_sub, xa_mul, pk_div, nm_mod, xa_shr, xa_and7, xa_and1, xa_and255, xa_by_and, nI_m1, Nat.add_sub_cancel, Nat.reducePow, Nat.zero_add, Nat.add_zero, Nat.reduceAdd, Nat.reduceMul, Nat.reduceSub, xf_same, xq_ff, xq_fo, xf_1, xf_2, xs_1, xs_2, xs_same, xq_so, xj_1, xj_2, xj_same, xq_jo, xq_sa1, xq_same, xq_other, upd_s, oI_n, oI_s, xv_0, xv_1, xv_2, xv_3, xm_p1, xm_p2, List.filter_cons, List.filter_nil, Nat.reduceBEq, Bool.not_true, Bool.not_false, Bool.and_true, Bool.and_false, Bool.false_and, Bool.true_and, if_true, if_false, Bool.false_eq_true, reduceIte, xc_i, xc_j, xc_r, xc_n, List.nil_append, List.cons_append, Option.toList_some, Option.toList_none]
  by_cases hf : f = 0
  · exact key n 0 h (by omega) hf hS.2.2.2.2.2.1 (by rw [hf] at hS; exact hS) Fr_rf
  · exact kbad n 0 f a h _ (by omega) hf hS (hA hf)
def mrN (h h' : xm_H) (l : List Nat) (a : Nat) (r : Except Nat (Nat × Nat)) (y : Int32) : Prop := Fr [] [(102, 65), (102, 67)] h h' ∧ match r with
  | .error x => 1 ≤ x ∧ ∃ a', mrS h' l a' x
  | .ok (k, b) => y = nI k ∧ mrS h' l b 0
theorem sp_mnat {sc : xm_Sc} {d a : Nat} {l : List Nat} {h : xm_H} {post : xm_Po} (hS : mrS h l a 0) (hp : ∀ y h', mrN h h' l a (pr_nat (by_bit l) (8 * l.length) a) y → post (some (.int y)) h') :
    xm_T (XE sc) (d + 4) 266 [.ref 102] h post := by
  have h8 := hS.2.1.2.2
  have k2 : ∀ m x a' h', m ≤ 65536 → 1 ≤ x → x ≤ 65535 → mrS h' l a' 0 → Fr [] [(102, 65), (102, 67)] h h' → pr_nat (by_bit l) (8 * l.length) a = pr_lv (by_bit l) (8 * l.length) m x a' → xm_go (XE sc) (xm_T (XE sc) (d + 3)) 266 post 18 [(2, .int (nI x)), (1, .int (nI m)), (0, .ref 102)] [] h' := by
    intro m
    induction m with
    | zero =>
      intro x a' h' hm hx hx2 hS' hfr heq
      with_reducible refine xm_go_blk b_X12_natural_18 k_X12_natural_18 ?_
      refine by_iload_n rfl ?_
      refine by_if_le 61 rfl ?_
      simp (disch := first | exact Nat.ne_of_beq_eq_false rfl | omega) only [nI_add, xa_sub, xa_mul, pk_div, nm_mod, xa_shr, xa_and7, xa_and1, xa_and255, xa_by_and, nI_m1, Nat.add_sub_cancel, Nat.reducePow, Nat.zero_add, Nat.add_zero, Nat.reduceAdd, Nat.reduceMul, Nat.reduceSub, xf_same, xq_ff, xq_fo, xf_1, xf_2, xs_1, xs_2, xs_same, xq_so, xj_1, xj_2, xj_same, xq_jo, xq_sa1, xq_same, xq_other, upd_s, oI_n, oI_s, xv_0, xv_1, xv_2, xv_3, xm_p1, xm_p2, List.filter_cons, List.filter_nil, Nat.reduceBEq, Bool.not_true, Bool.not_false, Bool.and_true, Bool.and_false, Bool.false_and, Bool.true_and, if_true, if_false, Bool.false_eq_true, reduceIte, xc_i, xc_j, xc_r, xc_n, List.nil_append, List.cons_append, Option.toList_some, Option.toList_none, nI_ltJ, nI_leJ, nI_eqJ, nI_ltz, nI_gez, nI_gtz, nI_lez, nI_eqz, m1_ltz, m1_gez, true_imp_iff, false_imp_iff, true_and, and_true, ne_eq, not_false_eq_true, not_true_eq_false, Nat.reduceEqDiff, Nat.reduceLT, Nat.reduceLeDiff]
      with_reducible refine xm_go_blk b_X12_natural_61 k_X12_natural_61 ?_
      refine by_iload_n rfl ?_
      refine by_iret ry_266 (by first | rfl | assumption) ?_
      refine hp _ _ ?_
      rw [heq]
      exact ⟨hfr, rfl, hS'⟩
    | succ m ih =>
      intro x a' h' hm hx hx2 hS' hfr heq
      have s5 := hS'.2.2.2.2.1
      have hend : ∀ f h2 (z : Int32), f ≠ 0 → f ≤ 12 → h2.2.2 102 67 = .int (nI f) → mrN h h2 l a (pr_nat (by_bit l) (8 * l.length) a) z → xm_go (XE sc) (xm_T (XE sc) (d + 3)) 266 post 55 [(2, .int z), (1, .int (nI (m + 1))), (0, .ref 102)] [] h2 := by
        intro f h2 z hf hf2 h5 hN
        with_reducible refine xm_go_blk b_X12_natural_55 k_X12_natural_55 ?_
        refine by_iinc (by rw [ml_266]; decide) rfl ci_m1 ?_
        refine by_goto 18 rfl ?_
        simp (disch := first | exact Nat.ne_of_beq_eq_false rfl | omega) only [nI_add, xa_sub, xa_mul, pk_div, nm_mod, xa_shr, xa_and7, xa_and1, xa_and255, xa_by_and, nI_m1, Nat.add_sub_cancel, Nat.reducePow, Nat.zero_add, Nat.add_zero, Nat.reduceAdd, Nat.reduceMul, Nat.reduceSub, xf_same, xq_ff, xq_fo, xf_1, xf_2, xs_1, xs_2, xs_same, xq_so, xj_1, xj_2, xj_same, xq_jo, xq_sa1, xq_same, xq_other, upd_s, oI_n, oI_s, xv_0, xv_1, xv_2, xv_3, xm_p1, xm_p2, List.filter_cons, List.filter_nil, Nat.reduceBEq, Bool.not_true, Bool.not_false, Bool.and_true, Bool.and_false, Bool.false_and, Bool.true_and, if_true, if_false, Bool.false_eq_true, reduceIte, xc_i, xc_j, xc_r, xc_n, List.nil_append, List.cons_append, Option.toList_some, Option.toList_none]
        by_cases hm0 : m = 0
        · subst hm0
          with_reducible refine xm_go_blk b_X12_natural_18 k_X12_natural_18 ?_
          refine by_iload_n rfl ?_
          refine by_if_le 61 rfl ?_
          simp (disch := first | exact Nat.ne_of_beq_eq_false rfl | omega) only [nI_add, xa_sub, xa_mul, pk_div, nm_mod, xa_shr, xa_and7, xa_and1, xa_and255, xa_by_and, nI_m1, Nat.add_sub_cancel, Nat.reducePow, Nat.zero_add, Nat.add_zero, Nat.reduceAdd, Nat.reduceMul, Nat.reduceSub, xf_same, xq_ff, xq_fo, xf_1, xf_2, xs_1, xs_2, xs_same, xq_so, xj_1, xj_2, xj_same, xq_jo, xq_sa1, xq_same, xq_other, upd_s, oI_n, oI_s, xv_0, xv_1, xv_2, xv_3, xm_p1, xm_p2, List.filter_cons, List.filter_nil, Nat.reduceBEq, Bool.not_true, Bool.not_false, Bool.and_true, Bool.and_false, Bool.false_and, Bool.true_and, if_true, if_false, Bool.false_eq_true, reduceIte, xc_i, xc_j, xc_r, xc_n, List.nil_append, List.cons_append, Option.toList_some, Option.toList_none, nI_ltJ, nI_leJ, nI_eqJ, nI_ltz, nI_gez, nI_gtz, nI_lez, nI_eqz, m1_ltz, m1_gez, true_imp_iff, false_imp_iff, true_and, and_true, ne_eq, not_false_eq_true, not_true_eq_false, Nat.reduceEqDiff, Nat.reduceLT, Nat.reduceLeDiff]
          with_reducible refine xm_go_blk b_X12_natural_61 k_X12_natural_61 ?_
          refine by_iload_n rfl ?_
          refine by_iret ry_266 (by first | rfl | assumption) ?_
          exact hp _ _ hN
        · with_reducible refine xm_go_blk b_X12_natural_18 k_X12_natural_18 ?_
          refine by_iload_n rfl ?_
          refine by_if_le 61 rfl ?_
          simp (disch := first | exact Nat.ne_of_beq_eq_false rfl | omega) only [nI_add, xa_sub, xa_mul, pk_div, nm_mod, xa_shr, xa_and7, xa_and1, xa_and255, xa_by_and, nI_m1, Nat.add_sub_cancel, Nat.reducePow, Nat.zero_add, Nat.add_zero, Nat.reduceAdd, Nat.reduceMul, Nat.reduceSub, xf_same, xq_ff, xq_fo, xf_1, xf_2, xs_1, xs_2, xs_same, xq_so, xj_1, xj_2, xj_same, xq_jo, xq_sa1, xq_same, xq_other, upd_s, oI_n, oI_s, xv_0, xv_1, xv_2, xv_3, xm_p1, xm_p2, List.filter_cons, List.filter_nil, Nat.reduceBEq, Bool.not_true, Bool.not_false, Bool.and_true, Bool.and_false, Bool.false_and, Bool.true_and, if_true, if_false, Bool.false_eq_true, reduceIte, xc_i, xc_j, xc_r, xc_n, List.nil_append, List.cons_append, Option.toList_some, Option.toList_none, nI_ltJ, nI_leJ, nI_eqJ, nI_ltz, nI_gez, nI_gtz, nI_lez, nI_eqz, m1_ltz, m1_gez, true_imp_iff, false_imp_iff, true_and, and_true, ne_eq, not_false_eq_true, not_true_eq_false, Nat.reduceEqDiff, Nat.reduceLT, Nat.reduceLeDiff, h5]
          refine ⟨fun c => absurd c (by omega), fun c18 => ?_⟩
          with_reducible refine xm_go_blk b_X12_natural_22 k_X12_natural_22 ?_
          refine by_aload_n rfl ?_
          refine by_getf cn_266 fl_12_330 (by first | exact rfl | assumption) (by decide) ?_
          simp (disch := first | exact Nat.ne_of_beq_eq_false rfl | omega) only [nI_add, xa_sub, xa_mul, pk_div, nm_mod, xa_shr, xa_and7, xa_and1, xa_and255, xa_by_and, nI_m1, Nat.add_sub_cancel, Nat.reducePow, Nat.zero_add, Nat.add_zero, Nat.reduceAdd, Nat.reduceMul, Nat.reduceSub, xf_same, xq_ff, xq_fo, xf_1, xf_2, xs_1, xs_2, xs_same, xq_so, xj_1, xj_2, xj_same, xq_jo, xq_sa1, xq_same, xq_other, upd_s, oI_n, oI_s, h5]
          refine by_if_ne 61 rfl ?_
          simp (disch := first | exact Nat.ne_of_beq_eq_false rfl | omega) only [nI_add, xa_sub, xa_mul, pk_div, nm_mod, xa_shr, xa_and7, xa_and1, xa_and255, xa_by_and, nI_m1, Nat.add_sub_cancel, Nat.reducePow, Nat.zero_add, Nat.add_zero, Nat.reduceAdd, Nat.reduceMul, Nat.reduceSub, xf_same, xq_ff, xq_fo, xf_1, xf_2, xs_1, xs_2, xs_same, xq_so, xj_1, xj_2, xj_same, xq_jo, xq_sa1, xq_same, xq_other, upd_s, oI_n, oI_s, xv_0, xv_1, xv_2, xv_3, xm_p1, xm_p2, List.filter_cons, List.filter_nil, Nat.reduceBEq, Bool.not_true, Bool.not_false, Bool.and_true, Bool.and_false, Bool.false_and, Bool.true_and, if_true, if_false, Bool.false_eq_true, reduceIte, xc_i, xc_j, xc_r, xc_n, List.nil_append, List.cons_append, Option.toList_some, Option.toList_none, nI_ltJ, nI_leJ, nI_eqJ, nI_ltz, nI_gez, nI_gtz, nI_lez, nI_eqz, m1_ltz, m1_gez, true_imp_iff, false_imp_iff, true_and, and_true, ne_eq, not_false_eq_true, not_true_eq_false, Nat.reduceEqDiff, Nat.reduceLT, Nat.reduceLeDiff, h5]
          refine ⟨fun _ => ?_, fun c => absurd hf c⟩
          with_reducible refine xm_go_blk b_X12_natural_61 k_X12_natural_61 ?_
          refine by_iload_n rfl ?_
          refine by_iret ry_266 (by first | rfl | assumption) ?_
          exact hp _ _ hN
      by_cases h15 : 15 < x
      · with_reducible refine xm_go_blk b_X12_natural_18 k_X12_natural_18 ?_
        refine by_iload_n rfl ?_
        refine by_if_le 61 rfl ?_
        simp (disch := first | exact Nat.ne_of_beq_eq_false rfl | omega) only [nI_add, xa_sub, xa_mul, pk_div, nm_mod, xa_shr, xa_and7, xa_and1, xa_and255, xa_by_and, nI_m1, Nat.add_sub_cancel, Nat.reducePow, Nat.zero_add, Nat.add_zero, Nat.reduceAdd, Nat.reduceMul, Nat.reduceSub, xf_same, xq_ff, xq_fo, xf_1, xf_2, xs_1, xs_2, xs_same, xq_so, xj_1, xj_2, xj_same, xq_jo, xq_sa1, xq_same, xq_other, upd_s, oI_n, oI_s, xv_0, xv_1, xv_2, xv_3, xm_p1, xm_p2, List.filter_cons, List.filter_nil, Nat.reduceBEq, Bool.not_true, Bool.not_false, Bool.and_true, Bool.and_false, Bool.false_and, Bool.true_and, if_true, if_false, Bool.false_eq_true, reduceIte, xc_i, xc_j, xc_r, xc_n, List.nil_append, List.cons_append, Option.toList_some, Option.toList_none, nI_ltJ, nI_leJ, nI_eqJ, nI_ltz, nI_gez, nI_gtz, nI_lez, nI_eqz, m1_ltz, m1_gez, true_imp_iff, false_imp_iff, true_and, and_true, ne_eq, not_false_eq_true, not_true_eq_false, Nat.reduceEqDiff, Nat.reduceLT, Nat.reduceLeDiff, s5]
        with_reducible refine xm_go_blk b_X12_natural_22 k_X12_natural_22 ?_
        refine by_aload_n rfl ?_
        refine by_getf cn_266 fl_12_330 (by first | exact rfl | assumption) (by decide) ?_
        simp (disch := first | exact Nat.ne_of_beq_eq_false rfl | omega) only [nI_add, xa_sub, xa_mul, pk_div, nm_mod, xa_shr, xa_and7, xa_and1, xa_and255, xa_by_and, nI_m1, Nat.add_sub_cancel, Nat.reducePow, Nat.zero_add, Nat.add_zero, Nat.reduceAdd, Nat.reduceMul, Nat.reduceSub, xf_same, xq_ff, xq_fo, xf_1, xf_2, xs_1, xs_2, xs_same, xq_so, xj_1, xj_2, xj_same, xq_jo, xq_sa1, xq_same, xq_other, upd_s, oI_n, oI_s, s5]
        refine by_if_ne 61 rfl ?_
        simp (disch := first | exact Nat.ne_of_beq_eq_false rfl | omega) only [nI_add, xa_sub, xa_mul, pk_div, nm_mod, xa_shr, xa_and7, xa_and1, xa_and255, xa_by_and, nI_m1, Nat.add_sub_cancel, Nat.reducePow, Nat.zero_add, Nat.add_zero, Nat.reduceAdd, Nat.reduceMul, Nat.reduceSub, xf_same, xq_ff, xq_fo, xf_1, xf_2, xs_1, xs_2, xs_same, xq_so, xj_1, xj_2, xj_same, xq_jo, xq_sa1, xq_same, xq_other, upd_s, oI_n, oI_s, xv_0, xv_1, xv_2, xv_3, xm_p1, xm_p2, List.filter_cons, List.filter_nil, Nat.reduceBEq, Bool.not_true, Bool.not_false, Bool.and_true, Bool.and_false, Bool.false_and, Bool.true_and, if_true, if_false, Bool.false_eq_true, reduceIte, xc_i, xc_j, xc_r, xc_n, List.nil_append, List.cons_append, Option.toList_some, Option.toList_none, nI_ltJ, nI_leJ, nI_eqJ, nI_ltz, nI_gez, nI_gtz, nI_lez, nI_eqz, m1_ltz, m1_gez, true_imp_iff, false_imp_iff, true_and, and_true, ne_eq, not_false_eq_true, not_true_eq_false, Nat.reduceEqDiff, Nat.reduceLT, Nat.reduceLeDiff, s5]
        with_reducible refine xm_go_blk b_X12_natural_29 k_X12_natural_29 ?_
        refine by_iload_n rfl ?_
        refine by_bipush cb_15 ?_
        refine by_ic_le 43 rfl ?_
        simp (disch := first | exact Nat.ne_of_beq_eq_false rfl | omega) only [nI_add, xa_sub, xa_mul, pk_div, nm_mod, xa_shr, xa_and7, xa_and1, xa_and255, xa_by_and, nI_m1, Nat.add_sub_cancel, Nat.reducePow, Nat.zero_add, Nat.add_zero, Nat.reduceAdd, Nat.reduceMul, Nat.reduceSub, xf_same, xq_ff, xq_fo, xf_1, xf_2, xs_1, xs_2, xs_same, xq_so, xj_1, xj_2, xj_same, xq_jo, xq_sa1, xq_same, xq_other, upd_s, oI_n, oI_s, xv_0, xv_1, xv_2, xv_3, xm_p1, xm_p2, List.filter_cons, List.filter_nil, Nat.reduceBEq, Bool.not_true, Bool.not_false, Bool.and_true, Bool.and_false, Bool.false_and, Bool.true_and, if_true, if_false, Bool.false_eq_true, reduceIte, xc_i, xc_j, xc_r, xc_n, List.nil_append, List.cons_append, Option.toList_some, Option.toList_none, nI_ltJ, nI_leJ, nI_eqJ, nI_ltz, nI_gez, nI_gtz, nI_lez, nI_eqz, m1_ltz, m1_gez, true_imp_iff, false_imp_iff, true_and, and_true, ne_eq, not_false_eq_true, not_true_eq_false, Nat.reduceEqDiff, Nat.reduceLT, Nat.reduceLeDiff, s5]
        refine ⟨fun c => absurd c (by omega), fun c29 => ?_⟩
        with_reducible refine xm_go_blk b_X12_natural_35 k_X12_natural_35 ?_
        refine by_aload_n rfl ?_
        refine by_iconst ci_4 ?_
        refine by_putf cn_266 fl_12_330 (by first | exact rfl | assumption) (by decide) nf_12_67 ft_12_67 (by first | rfl | assumption) (by first | rfl | assumption) ?_
        refine by_goto 55 rfl ?_
        have hfr2 : Fr [] [(102, 65), (102, 67)] h (xm_sf h' 102 67 (.int (nI 4))) := Fr_sf hfr (by decide)
        refine hend 4 _ _ (by decide) (by decide) (by simp [xm_sf, updV]) ⟨hfr2, ?_⟩
        rw [heq, pr_lv, if_pos h15]
        exact ⟨by decide, a', mrS_f hS' (by decide)⟩
      · with_reducible refine xm_go_blk b_X12_natural_18 k_X12_natural_18 ?_
        refine by_iload_n rfl ?_
        refine by_if_le 61 rfl ?_
        simp (disch := first | exact Nat.ne_of_beq_eq_false rfl | omega) only [nI_add, xa_sub, xa_mul, pk_div, nm_mod, xa_shr, xa_and7, xa_and1, xa_and255, xa_by_and, nI_m1, Nat.add_sub_cancel, Nat.reducePow, Nat.zero_add, Nat.add_zero, Nat.reduceAdd, Nat.reduceMul, Nat.reduceSub, xf_same, xq_ff, xq_fo, xf_1, xf_2, xs_1, xs_2, xs_same, xq_so, xj_1, xj_2, xj_same, xq_jo, xq_sa1, xq_same, xq_other, upd_s, oI_n, oI_s, xv_0, xv_1, xv_2, xv_3, xm_p1, xm_p2, List.filter_cons, List.filter_nil, Nat.reduceBEq, Bool.not_true, Bool.not_false, Bool.and_true, Bool.and_false, Bool.false_and, Bool.true_and, if_true, if_false, Bool.false_eq_true, reduceIte, xc_i, xc_j, xc_r, xc_n, List.nil_append, List.cons_append, Option.toList_some, Option.toList_none, nI_ltJ, nI_leJ, nI_eqJ, nI_ltz, nI_gez, nI_gtz, nI_lez, nI_eqz, m1_ltz, m1_gez, true_imp_iff, false_imp_iff, true_and, and_true, ne_eq, not_false_eq_true, not_true_eq_false, Nat.reduceEqDiff, Nat.reduceLT, Nat.reduceLeDiff, s5]
        with_reducible refine xm_go_blk b_X12_natural_22 k_X12_natural_22 ?_
        refine by_aload_n rfl ?_
        refine by_getf cn_266 fl_12_330 (by first | exact rfl | assumption) (by decide) ?_
        simp (disch := first | exact Nat.ne_of_beq_eq_false rfl | omega) only [nI_add, xa_sub, xa_mul, pk_div, nm_mod, xa_shr, xa_and7, xa_and1, xa_and255, xa_by_and, nI_m1, Nat.add_sub_cancel, Nat.reducePow, Nat.zero_add, Nat.add_zero, Nat.reduceAdd, Nat.reduceMul, Nat.reduceSub, xf_same, xq_ff, xq_fo, xf_1, xf_2, xs_1, xs_2, xs_same, xq_so, xj_1, xj_2, xj_same, xq_jo, xq_sa1, xq_same, xq_other, upd_s, oI_n, oI_s, s5]
        refine by_if_ne 61 rfl ?_
        simp (disch := first | exact Nat.ne_of_beq_eq_false rfl | omega) only [nI_add, xa_sub, xa_mul, pk_div, nm_mod, xa_shr, xa_and7, xa_and1, xa_and255, xa_by_and, nI_m1, Nat.add_sub_cancel, Nat.reducePow, Nat.zero_add, Nat.add_zero, Nat.reduceAdd, Nat.reduceMul, Nat.reduceSub, xf_same, xq_ff, xq_fo, xf_1, xf_2, xs_1, xs_2, xs_same, xq_so, xj_1, xj_2, xj_same, xq_jo, xq_sa1, xq_same, xq_other, upd_s, oI_n, oI_s, xv_0, xv_1, xv_2, xv_3, xm_p1, xm_p2, List.filter_cons, List.filter_nil, Nat.reduceBEq, Bool.not_true, Bool.not_false, Bool.and_true, Bool.and_false, Bool.false_and, Bool.true_and, if_true, if_false, Bool.false_eq_true, reduceIte, xc_i, xc_j, xc_r, xc_n, List.nil_append, List.cons_append, Option.toList_some, Option.toList_none, nI_ltJ, nI_leJ, nI_eqJ, nI_ltz, nI_gez, nI_gtz, nI_lez, nI_eqz, m1_ltz, m1_gez, true_imp_iff, false_imp_iff, true_and, and_true, ne_eq, not_false_eq_true, not_true_eq_false, Nat.reduceEqDiff, Nat.reduceLT, Nat.reduceLeDiff, s5]
        with_reducible refine xm_go_blk b_X12_natural_29 k_X12_natural_29 ?_
        refine by_iload_n rfl ?_
        refine by_bipush cb_15 ?_
        refine by_ic_le 43 rfl ?_
        simp (disch := first | exact Nat.ne_of_beq_eq_false rfl | omega) only [nI_add, xa_sub, xa_mul, pk_div, nm_mod, xa_shr, xa_and7, xa_and1, xa_and255, xa_by_and, nI_m1, Nat.add_sub_cancel, Nat.reducePow, Nat.zero_add, Nat.add_zero, Nat.reduceAdd, Nat.reduceMul, Nat.reduceSub, xf_same, xq_ff, xq_fo, xf_1, xf_2, xs_1, xs_2, xs_same, xq_so, xj_1, xj_2, xj_same, xq_jo, xq_sa1, xq_same, xq_other, upd_s, oI_n, oI_s, xv_0, xv_1, xv_2, xv_3, xm_p1, xm_p2, List.filter_cons, List.filter_nil, Nat.reduceBEq, Bool.not_true, Bool.not_false, Bool.and_true, Bool.and_false, Bool.false_and, Bool.true_and, if_true, if_false, Bool.false_eq_true, reduceIte, xc_i, xc_j, xc_r, xc_n, List.nil_append, List.cons_append, Option.toList_some, Option.toList_none, nI_ltJ, nI_leJ, nI_eqJ, nI_ltz, nI_gez, nI_gtz, nI_lez, nI_eqz, m1_ltz, m1_gez, true_imp_iff, false_imp_iff, true_and, and_true, ne_eq, not_false_eq_true, not_true_eq_false, Nat.reduceEqDiff, Nat.reduceLT, Nat.reduceLeDiff, s5]
        refine ⟨fun c29 => ?_, fun c => absurd (by omega) c⟩
        with_reducible refine xm_go_blk b_X12_natural_43 k_X12_natural_43 ?_
        refine by_aload_n rfl ?_
        refine by_iload_n rfl ?_
        refine by_inv1 cn_266 lk_12_342 (by rw [xe_cnt]; decide) is_210 np_210 cn_210 (by first | exact rfl | assumption) (Nat.le_of_ble_eq_true rfl) ?_
        by_cases hle : a' + x ≤ 8 * l.length
        · refine sp_mbits hS' (by omega) (fun c => absurd rfl c) (fun _ c => absurd hle (by omega)) (fun _ _ h2 hfr2 hS2 => ?_)
          have hpl := pb_lt (by_bit_lt l) a' x
          have hx15 : 2 ^ x ≤ 2 ^ 15 := Nat.pow_le_pow_right (by decide) (by omega)
          have hx0 := Nat.two_pow_pos x
          with_reducible refine xm_go_blk b_X12_natural_48 k_X12_natural_48 ?_
          refine by_istore_n (by rw [ml_266]; decide) ?_
          refine by_iconst ci_1 ?_
          refine by_iload_n rfl ?_
          refine by_ishl ?_
          refine by_iload_n rfl ?_
          refine by_iadd ?_
          refine by_istore_n (by rw [ml_266]; decide) ?_
          refine by_nil ?_
          simp (disch := first | exact Nat.ne_of_beq_eq_false rfl | omega) only [nI_add, xa_sub, xa_mul, pk_div, nm_mod, xa_shr, xa_and7, xa_and1, xa_and255, xa_by_and, nI_m1, Nat.add_sub_cancel, Nat.reducePow, Nat.zero_add, Nat.add_zero, Nat.reduceAdd, Nat.reduceMul, Nat.reduceSub, xf_same, xq_ff, xq_fo, xf_1, xf_2, xs_1, xs_2, xs_same, xq_so, xj_1, xj_2, xj_same, xq_jo, xq_sa1, xq_same, xq_other, upd_s, oI_n, oI_s, xv_0, xv_1, xv_2, xv_3, xm_p1, xm_p2, List.filter_cons, List.filter_nil, Nat.reduceBEq, Bool.not_true, Bool.not_false, Bool.and_true, Bool.and_false, Bool.false_and, Bool.true_and, if_true, if_false, Bool.false_eq_true, reduceIte, xc_i, xc_j, xc_r, xc_n, List.nil_append, List.cons_append, Option.toList_some, Option.toList_none, nI_shl 1 (show x < 32 by omega), Nat.one_mul]
          with_reducible refine xm_go_blk b_X12_natural_55 k_X12_natural_55 ?_
          refine by_iinc (by rw [ml_266]; decide) rfl ci_m1 ?_
          refine by_goto 18 rfl ?_
          simp (disch := first | exact Nat.ne_of_beq_eq_false rfl | omega) only [nI_add, xa_sub, xa_mul, pk_div, nm_mod, xa_shr, xa_and7, xa_and1, xa_and255, xa_by_and, nI_m1, Nat.add_sub_cancel, Nat.reducePow, Nat.zero_add, Nat.add_zero, Nat.reduceAdd, Nat.reduceMul, Nat.reduceSub, xf_same, xq_ff, xq_fo, xf_1, xf_2, xs_1, xs_2, xs_same, xq_so, xj_1, xj_2, xj_same, xq_jo, xq_sa1, xq_same, xq_other, upd_s, oI_n, oI_s, xv_0, xv_1, xv_2, xv_3, xm_p1, xm_p2, List.filter_cons, List.filter_nil, Nat.reduceBEq, Bool.not_true, Bool.not_false, Bool.and_true, Bool.and_false, Bool.false_and, Bool.true_and, if_true, if_false, Bool.false_eq_true, reduceIte, xc_i, xc_j, xc_r, xc_n, List.nil_append, List.cons_append, Option.toList_some, Option.toList_none, nI_shl 1 (show x < 32 by omega), Nat.one_mul]
          refine xm_go_wk ?_ (ih (2 ^ x + pb (by_bit l) a' x) (a' + x) h2 (by omega) (by omega) (by omega) hS2 (Fr_tr hfr hfr2 (by simp) (by simp)) ?_)
          · intro q hq
            simp only [List.mem_cons, List.not_mem_nil, or_false] at hq ⊢
            rcases hq with rfl | rfl | rfl <;> simp
          · rw [heq, pr_lv, if_neg h15, if_pos hle]
        · refine sp_mbits hS' (by omega) (fun c => absurd rfl c) (fun _ _ y h2 hfr2 hS2 => ?_) (fun _ c => absurd c hle)
          with_reducible refine xm_go_blk b_X12_natural_48 k_X12_natural_48 ?_
          refine by_istore_n (by rw [ml_266]; decide) ?_
          refine by_iconst ci_1 ?_
          refine by_iload_n rfl ?_
          refine by_ishl ?_
          refine by_iload_n rfl ?_
          refine by_iadd ?_
          refine by_istore_n (by rw [ml_266]; decide) ?_
          refine by_nil ?_
          simp (disch := first | exact Nat.ne_of_beq_eq_false rfl | omega) only [nI_add, xa_sub, xa_mul, pk_div, nm_mod, xa_shr, xa_and7, xa_and1, xa_and255, xa_by_and, nI_m1, Nat.add_sub_cancel, Nat.reducePow, Nat.zero_add, Nat.add_zero, Nat.reduceAdd, Nat.reduceMul, Nat.reduceSub, xf_same, xq_ff, xq_fo, xf_1, xf_2, xs_1, xs_2, xs_same, xq_so, xj_1, xj_2, xj_same, xq_jo, xq_sa1, xq_same, xq_other, upd_s, oI_n, oI_s, xv_0, xv_1, xv_2, xv_3, xm_p1, xm_p2, List.filter_cons, List.filter_nil, Nat.reduceBEq, Bool.not_true, Bool.not_false, Bool.and_true, Bool.and_false, Bool.false_and, Bool.true_and, if_true, if_false, Bool.false_eq_true, reduceIte, xc_i, xc_j, xc_r, xc_n, List.nil_append, List.cons_append, Option.toList_some, Option.toList_none]
          refine xm_go_wk (by simp) (hend 1 h2 (nI 1 <<< (nI x &&& 31) + y) (by decide) (by decide) hS2.2.2.2.2.1 ⟨Fr_tr hfr hfr2 (by simp) (by simp), ?_⟩)
          rw [heq, pr_lv, if_neg h15, if_neg hle]
          exact ⟨by decide, _, hS2⟩
  have k1 : ∀ m o a' h', a' + m = 8 * l.length → o ≤ 65536 → a' = a + o → mrS h' l a' 0 → Fr [] [(102, 65), (102, 67)] h h' → pr_ones (by_bit l) (8 * l.length) (8 * l.length - a) a = o + pr_ones (by_bit l) (8 * l.length) m a' → xm_go (XE sc) (xm_T (XE sc) (d + 3)) 266 post 2 [(1, .int (nI o)), (0, .ref 102)] [] h' := by
    intro m
    induction m with
    | zero =>
      intro o a' h' hm ho hao hS' hfr heq
      with_reducible refine xm_go_blk b_X12_natural_2 k_X12_natural_2 ?_
      refine by_aload_n rfl ?_
      refine by_inv0 cn_266 lk_12_339 (by rw [xe_cnt]; decide) is_208 np_208 cn_208 (by first | exact rfl | assumption) (Nat.le_of_ble_eq_true rfl) ?_
      refine sp_mbit hS' (fun c => absurd rfl c) (fun _ _ => ?_) (fun _ c => absurd c (by omega))
      have hfr2 : Fr [] [(102, 65), (102, 67)] h (xm_sf h' 102 67 (.int (nI 1))) := Fr_sf hfr (by decide)
      have hN : ∀ z, mrN h (xm_sf h' 102 67 (.int (nI 1))) l a (pr_nat (by_bit l) (8 * l.length) a) z := by
        intro z
        refine ⟨hfr2, ?_⟩
        unfold pr_nat
        rw [if_neg (by rw [heq, pr_ones]; omega)]
        exact ⟨by decide, a', mrS_f hS' (by decide)⟩
      by_cases ho0 : o = 0
      · subst ho0
        with_reducible refine xm_go_blk b_X12_natural_6 k_X12_natural_6 ?_
        refine by_iconst ci_1 ?_
        refine by_ic_ne 16 rfl ?_
        simp (disch := first | exact Nat.ne_of_beq_eq_false rfl | omega) only [nI_add, xa_sub, xa_mul, pk_div, nm_mod, xa_shr, xa_and7, xa_and1, xa_and255, xa_by_and, nI_m1, Nat.add_sub_cancel, Nat.reducePow, Nat.zero_add, Nat.add_zero, Nat.reduceAdd, Nat.reduceMul, Nat.reduceSub, xf_same, xq_ff, xq_fo, xf_1, xf_2, xs_1, xs_2, xs_same, xq_so, xj_1, xj_2, xj_same, xq_jo, xq_sa1, xq_same, xq_other, upd_s, oI_n, oI_s, xv_0, xv_1, xv_2, xv_3, xm_p1, xm_p2, List.filter_cons, List.filter_nil, Nat.reduceBEq, Bool.not_true, Bool.not_false, Bool.and_true, Bool.and_false, Bool.false_and, Bool.true_and, if_true, if_false, Bool.false_eq_true, reduceIte, xc_i, xc_j, xc_r, xc_n, List.nil_append, List.cons_append, Option.toList_some, Option.toList_none, nI_ltJ, nI_leJ, nI_eqJ, nI_ltz, nI_gez, nI_gtz, nI_lez, nI_eqz, m1_ltz, m1_gez, true_imp_iff, false_imp_iff, true_and, and_true, ne_eq, not_false_eq_true, not_true_eq_false, Nat.reduceEqDiff, Nat.reduceLT, Nat.reduceLeDiff]
        with_reducible refine xm_go_blk b_X12_natural_16 k_X12_natural_16 ?_
        refine by_iconst ci_1 ?_
        refine by_istore_n (by rw [ml_266]; decide) ?_
        refine by_nil ?_
        simp (disch := first | exact Nat.ne_of_beq_eq_false rfl | omega) only [nI_add, xa_sub, xa_mul, pk_div, nm_mod, xa_shr, xa_and7, xa_and1, xa_and255, xa_by_and, nI_m1, Nat.add_sub_cancel, Nat.reducePow, Nat.zero_add, Nat.add_zero, Nat.reduceAdd, Nat.reduceMul, Nat.reduceSub, xf_same, xq_ff, xq_fo, xf_1, xf_2, xs_1, xs_2, xs_same, xq_so, xj_1, xj_2, xj_same, xq_jo, xq_sa1, xq_same, xq_other, upd_s, oI_n, oI_s, xv_0, xv_1, xv_2, xv_3, xm_p1, xm_p2, List.filter_cons, List.filter_nil, Nat.reduceBEq, Bool.not_true, Bool.not_false, Bool.and_true, Bool.and_false, Bool.false_and, Bool.true_and, if_true, if_false, Bool.false_eq_true, reduceIte, xc_i, xc_j, xc_r, xc_n, List.nil_append, List.cons_append, Option.toList_some, Option.toList_none]
        with_reducible refine xm_go_blk b_X12_natural_18 k_X12_natural_18 ?_
        refine by_iload_n rfl ?_
        refine by_if_le 61 rfl ?_
        simp (disch := first | exact Nat.ne_of_beq_eq_false rfl | omega) only [nI_add, xa_sub, xa_mul, pk_div, nm_mod, xa_shr, xa_and7, xa_and1, xa_and255, xa_by_and, nI_m1, Nat.add_sub_cancel, Nat.reducePow, Nat.zero_add, Nat.add_zero, Nat.reduceAdd, Nat.reduceMul, Nat.reduceSub, xf_same, xq_ff, xq_fo, xf_1, xf_2, xs_1, xs_2, xs_same, xq_so, xj_1, xj_2, xj_same, xq_jo, xq_sa1, xq_same, xq_other, upd_s, oI_n, oI_s, xv_0, xv_1, xv_2, xv_3, xm_p1, xm_p2, List.filter_cons, List.filter_nil, Nat.reduceBEq, Bool.not_true, Bool.not_false, Bool.and_true, Bool.and_false, Bool.false_and, Bool.true_and, if_true, if_false, Bool.false_eq_true, reduceIte, xc_i, xc_j, xc_r, xc_n, List.nil_append, List.cons_append, Option.toList_some, Option.toList_none, nI_ltJ, nI_leJ, nI_eqJ, nI_ltz, nI_gez, nI_gtz, nI_lez, nI_eqz, m1_ltz, m1_gez, true_imp_iff, false_imp_iff, true_and, and_true, ne_eq, not_false_eq_true, not_true_eq_false, Nat.reduceEqDiff, Nat.reduceLT, Nat.reduceLeDiff]
        with_reducible refine xm_go_blk b_X12_natural_61 k_X12_natural_61 ?_
        refine by_iload_n rfl ?_
        refine by_iret ry_266 (by first | rfl | assumption) ?_
        exact hp _ _ (hN _)
      · with_reducible refine xm_go_blk b_X12_natural_6 k_X12_natural_6 ?_
        refine by_iconst ci_1 ?_
        refine by_ic_ne 16 rfl ?_
        simp (disch := first | exact Nat.ne_of_beq_eq_false rfl | omega) only [nI_add, xa_sub, xa_mul, pk_div, nm_mod, xa_shr, xa_and7, xa_and1, xa_and255, xa_by_and, nI_m1, Nat.add_sub_cancel, Nat.reducePow, Nat.zero_add, Nat.add_zero, Nat.reduceAdd, Nat.reduceMul, Nat.reduceSub, xf_same, xq_ff, xq_fo, xf_1, xf_2, xs_1, xs_2, xs_same, xq_so, xj_1, xj_2, xj_same, xq_jo, xq_sa1, xq_same, xq_other, upd_s, oI_n, oI_s, xv_0, xv_1, xv_2, xv_3, xm_p1, xm_p2, List.filter_cons, List.filter_nil, Nat.reduceBEq, Bool.not_true, Bool.not_false, Bool.and_true, Bool.and_false, Bool.false_and, Bool.true_and, if_true, if_false, Bool.false_eq_true, reduceIte, xc_i, xc_j, xc_r, xc_n, List.nil_append, List.cons_append, Option.toList_some, Option.toList_none, nI_ltJ, nI_leJ, nI_eqJ, nI_ltz, nI_gez, nI_gtz, nI_lez, nI_eqz, m1_ltz, m1_gez, true_imp_iff, false_imp_iff, true_and, and_true, ne_eq, not_false_eq_true, not_true_eq_false, Nat.reduceEqDiff, Nat.reduceLT, Nat.reduceLeDiff]
        with_reducible refine xm_go_blk b_X12_natural_16 k_X12_natural_16 ?_
        refine by_iconst ci_1 ?_
        refine by_istore_n (by rw [ml_266]; decide) ?_
        refine by_nil ?_
        simp (disch := first | exact Nat.ne_of_beq_eq_false rfl | omega) only [nI_add, xa_sub, xa_mul, pk_div, nm_mod, xa_shr, xa_and7, xa_and1, xa_and255, xa_by_and, nI_m1, Nat.add_sub_cancel, Nat.reducePow, Nat.zero_add, Nat.add_zero, Nat.reduceAdd, Nat.reduceMul, Nat.reduceSub, xf_same, xq_ff, xq_fo, xf_1, xf_2, xs_1, xs_2, xs_same, xq_so, xj_1, xj_2, xj_same, xq_jo, xq_sa1, xq_same, xq_other, upd_s, oI_n, oI_s, xv_0, xv_1, xv_2, xv_3, xm_p1, xm_p2, List.filter_cons, List.filter_nil, Nat.reduceBEq, Bool.not_true, Bool.not_false, Bool.and_true, Bool.and_false, Bool.false_and, Bool.true_and, if_true, if_false, Bool.false_eq_true, reduceIte, xc_i, xc_j, xc_r, xc_n, List.nil_append, List.cons_append, Option.toList_some, Option.toList_none]
        with_reducible refine xm_go_blk b_X12_natural_18 k_X12_natural_18 ?_
        refine by_iload_n rfl ?_
        refine by_if_le 61 rfl ?_
        simp (disch := first | exact Nat.ne_of_beq_eq_false rfl | omega) only [nI_add, xa_sub, xa_mul, pk_div, nm_mod, xa_shr, xa_and7, xa_and1, xa_and255, xa_by_and, nI_m1, Nat.add_sub_cancel, Nat.reducePow, Nat.zero_add, Nat.add_zero, Nat.reduceAdd, Nat.reduceMul, Nat.reduceSub, xf_same, xq_ff, xq_fo, xf_1, xf_2, xs_1, xs_2, xs_same, xq_so, xj_1, xj_2, xj_same, xq_jo, xq_sa1, xq_same, xq_other, upd_s, oI_n, oI_s, xv_0, xv_1, xv_2, xv_3, xm_p1, xm_p2, List.filter_cons, List.filter_nil, Nat.reduceBEq, Bool.not_true, Bool.not_false, Bool.and_true, Bool.and_false, Bool.false_and, Bool.true_and, if_true, if_false, Bool.false_eq_true, reduceIte, xc_i, xc_j, xc_r, xc_n, List.nil_append, List.cons_append, Option.toList_some, Option.toList_none, nI_ltJ, nI_leJ, nI_eqJ, nI_ltz, nI_gez, nI_gtz, nI_lez, nI_eqz, m1_ltz, m1_gez, true_imp_iff, false_imp_iff, true_and, and_true, ne_eq, not_false_eq_true, not_true_eq_false, Nat.reduceEqDiff, Nat.reduceLT, Nat.reduceLeDiff]
        refine ⟨fun c => absurd c (by omega), fun c18 => ?_⟩
        with_reducible refine xm_go_blk b_X12_natural_22 k_X12_natural_22 ?_
        refine by_aload_n rfl ?_
        refine by_getf cn_266 fl_12_330 (by first | exact rfl | assumption) (by decide) ?_
        simp (disch := first | exact Nat.ne_of_beq_eq_false rfl | omega) only [nI_add, xa_sub, xa_mul, pk_div, nm_mod, xa_shr, xa_and7, xa_and1, xa_and255, xa_by_and, nI_m1, Nat.add_sub_cancel, Nat.reducePow, Nat.zero_add, Nat.add_zero, Nat.reduceAdd, Nat.reduceMul, Nat.reduceSub, xf_same, xq_ff, xq_fo, xf_1, xf_2, xs_1, xs_2, xs_same, xq_so, xj_1, xj_2, xj_same, xq_jo, xq_sa1, xq_same, xq_other, upd_s, oI_n, oI_s]
        refine by_if_ne 61 rfl ?_
        simp (disch := first | exact Nat.ne_of_beq_eq_false rfl | omega) only [nI_add, xa_sub, xa_mul, pk_div, nm_mod, xa_shr, xa_and7, xa_and1, xa_and255, xa_by_and, nI_m1, Nat.add_sub_cancel, Nat.reducePow, Nat.zero_add, Nat.add_zero, Nat.reduceAdd, Nat.reduceMul, Nat.reduceSub, xf_same, xq_ff, xq_fo, xf_1, xf_2, xs_1, xs_2, xs_same, xq_so, xj_1, xj_2, xj_same, xq_jo, xq_sa1, xq_same, xq_other, upd_s, oI_n, oI_s, xv_0, xv_1, xv_2, xv_3, xm_p1, xm_p2, List.filter_cons, List.filter_nil, Nat.reduceBEq, Bool.not_true, Bool.not_false, Bool.and_true, Bool.and_false, Bool.false_and, Bool.true_and, if_true, if_false, Bool.false_eq_true, reduceIte, xc_i, xc_j, xc_r, xc_n, List.nil_append, List.cons_append, Option.toList_some, Option.toList_none, nI_ltJ, nI_leJ, nI_eqJ, nI_ltz, nI_gez, nI_gtz, nI_lez, nI_eqz, m1_ltz, m1_gez, true_imp_iff, false_imp_iff, true_and, and_true, ne_eq, not_false_eq_true, not_true_eq_false, Nat.reduceEqDiff, Nat.reduceLT, Nat.reduceLeDiff]
        with_reducible refine xm_go_blk b_X12_natural_61 k_X12_natural_61 ?_
        refine by_iload_n rfl ?_
        refine by_iret ry_266 (by first | rfl | assumption) ?_
        exact hp _ _ (hN _)
    | succ m ih =>
      intro o a' h' hm ho hao hS' hfr heq
      with_reducible refine xm_go_blk b_X12_natural_2 k_X12_natural_2 ?_
      refine by_aload_n rfl ?_
      refine by_inv0 cn_266 lk_12_339 (by rw [xe_cnt]; decide) is_208 np_208 cn_208 (by first | exact rfl | assumption) (Nat.le_of_ble_eq_true rfl) ?_
      refine sp_mbit hS' (fun c => absurd rfl c) (fun _ c => absurd c (by omega)) (fun _ _ => ?_)
      have hb2 := by_bit_lt l a'
      by_cases hb : by_bit l a' = 1
      · with_reducible refine xm_go_blk b_X12_natural_6 k_X12_natural_6 ?_
        refine by_iconst ci_1 ?_
        refine by_ic_ne 16 rfl ?_
        simp (disch := first | exact Nat.ne_of_beq_eq_false rfl | omega) only [nI_add, xa_sub, xa_mul, pk_div, nm_mod, xa_shr, xa_and7, xa_and1, xa_and255, xa_by_and, nI_m1, Nat.add_sub_cancel, Nat.reducePow, Nat.zero_add, Nat.add_zero, Nat.reduceAdd, Nat.reduceMul, Nat.reduceSub, xf_same, xq_ff, xq_fo, xf_1, xf_2, xs_1, xs_2, xs_same, xq_so, xj_1, xj_2, xj_same, xq_jo, xq_sa1, xq_same, xq_other, upd_s, oI_n, oI_s, xv_0, xv_1, xv_2, xv_3, xm_p1, xm_p2, List.filter_cons, List.filter_nil, Nat.reduceBEq, Bool.not_true, Bool.not_false, Bool.and_true, Bool.and_false, Bool.false_and, Bool.true_and, if_true, if_false, Bool.false_eq_true, reduceIte, xc_i, xc_j, xc_r, xc_n, List.nil_append, List.cons_append, Option.toList_some, Option.toList_none, nI_ltJ, nI_leJ, nI_eqJ, nI_ltz, nI_gez, nI_gtz, nI_lez, nI_eqz, m1_ltz, m1_gez, true_imp_iff, false_imp_iff, true_and, and_true, ne_eq, not_false_eq_true, not_true_eq_false, Nat.reduceEqDiff, Nat.reduceLT, Nat.reduceLeDiff, hb]
        with_reducible refine xm_go_blk b_X12_natural_10 k_X12_natural_10 ?_
        refine by_iinc (by rw [ml_266]; decide) rfl ci_1 ?_
        refine by_goto 2 rfl ?_
        simp (disch := first | exact Nat.ne_of_beq_eq_false rfl | omega) only [nI_add, xa_sub, xa_mul, pk_div, nm_mod, xa_shr, xa_and7, xa_and1, xa_and255, xa_by_and, nI_m1, Nat.add_sub_cancel, Nat.reducePow, Nat.zero_add, Nat.add_zero, Nat.reduceAdd, Nat.reduceMul, Nat.reduceSub, xf_same, xq_ff, xq_fo, xf_1, xf_2, xs_1, xs_2, xs_same, xq_so, xj_1, xj_2, xj_same, xq_jo, xq_sa1, xq_same, xq_other, upd_s, oI_n, oI_s, xv_0, xv_1, xv_2, xv_3, xm_p1, xm_p2, List.filter_cons, List.filter_nil, Nat.reduceBEq, Bool.not_true, Bool.not_false, Bool.and_true, Bool.and_false, Bool.false_and, Bool.true_and, if_true, if_false, Bool.false_eq_true, reduceIte, xc_i, xc_j, xc_r, xc_n, List.nil_append, List.cons_append, Option.toList_some, Option.toList_none, hb]
        refine ih (o + 1) (a' + 1) _ (by omega) (by omega) (by omega) (mrS_a hS' (by omega)) (Fr_sf hfr (by decide)) ?_
        rw [heq, pr_ones, if_pos ⟨by omega, hb⟩]
        omega
      · have hb0 : by_bit l a' = 0 := by omega
        with_reducible refine xm_go_blk b_X12_natural_6 k_X12_natural_6 ?_
        refine by_iconst ci_1 ?_
        refine by_ic_ne 16 rfl ?_
        simp (disch := first | exact Nat.ne_of_beq_eq_false rfl | omega) only [nI_add, xa_sub, xa_mul, pk_div, nm_mod, xa_shr, xa_and7, xa_and1, xa_and255, xa_by_and, nI_m1, Nat.add_sub_cancel, Nat.reducePow, Nat.zero_add, Nat.add_zero, Nat.reduceAdd, Nat.reduceMul, Nat.reduceSub, xf_same, xq_ff, xq_fo, xf_1, xf_2, xs_1, xs_2, xs_same, xq_so, xj_1, xj_2, xj_same, xq_jo, xq_sa1, xq_same, xq_other, upd_s, oI_n, oI_s, xv_0, xv_1, xv_2, xv_3, xm_p1, xm_p2, List.filter_cons, List.filter_nil, Nat.reduceBEq, Bool.not_true, Bool.not_false, Bool.and_true, Bool.and_false, Bool.false_and, Bool.true_and, if_true, if_false, Bool.false_eq_true, reduceIte, xc_i, xc_j, xc_r, xc_n, List.nil_append, List.cons_append, Option.toList_some, Option.toList_none, nI_ltJ, nI_leJ, nI_eqJ, nI_ltz, nI_gez, nI_gtz, nI_lez, nI_eqz, m1_ltz, m1_gez, true_imp_iff, false_imp_iff, true_and, and_true, ne_eq, not_false_eq_true, not_true_eq_false, Nat.reduceEqDiff, Nat.reduceLT, Nat.reduceLeDiff, hb0]
        with_reducible refine xm_go_blk b_X12_natural_16 k_X12_natural_16 ?_
        refine by_iconst ci_1 ?_
        refine by_istore_n (by rw [ml_266]; decide) ?_
        refine by_nil ?_
        simp (disch := first | exact Nat.ne_of_beq_eq_false rfl | omega) only [nI_add, xa_sub, xa_mul, pk_div, nm_mod, xa_shr, xa_and7, xa_and1, xa_and255, xa_by_and, nI_m1, Nat.add_sub_cancel, Nat.reducePow, Nat.zero_add, Nat.add_zero, Nat.reduceAdd, Nat.reduceMul, Nat.reduceSub, xf_same, xq_ff, xq_fo, xf_1, xf_2, xs_1, xs_2, xs_same, xq_so, xj_1, xj_2, xj_same, xq_jo, xq_sa1, xq_same, xq_other, upd_s, oI_n, oI_s, xv_0, xv_1, xv_2, xv_3, xm_p1, xm_p2, List.filter_cons, List.filter_nil, Nat.reduceBEq, Bool.not_true, Bool.not_false, Bool.and_true, Bool.and_false, Bool.false_and, Bool.true_and, if_true, if_false, Bool.false_eq_true, reduceIte, xc_i, xc_j, xc_r, xc_n, List.nil_append, List.cons_append, Option.toList_some, Option.toList_none, hb0]
        refine k2 o 1 (a' + 1) _ ho (by decide) (by decide) (mrS_a hS' (by omega)) (Fr_sf hfr (by decide)) ?_
        have e1 : pr_ones (by_bit l) (8 * l.length) (8 * l.length - a) a = o := by
          rw [heq, pr_ones, if_neg (by rw [hb0]; omega)]
          rfl
        unfold pr_nat
        rw [e1, if_pos (by omega), ← hao]
  refine xq_in rfl ?_
  simp only [xq_a0, xq_aI, xq_aJ, xq_aR, Nat.reduceAdd]
  with_reducible refine xm_go_blk b_X12_natural_0 k_X12_natural_0 ?_
  refine by_iconst ci_0 ?_
  refine by_istore_n (by rw [ml_266]; decide) ?_
  refine by_nil ?_
  simp (disch := first | exact Nat.ne_of_beq_eq_false rfl | omega) only [nI_add, xa_sub, xa_mul, pk_div, nm_mod, xa_shr, xa_and7, xa_and1, xa_and255, xa_by_and, nI_m1, Nat.add_sub_cancel, Nat.reducePow, Nat.zero_add, Nat.add_zero, Nat.reduceAdd, Nat.reduceMul, Nat.reduceSub, xf_same, xq_ff, xq_fo, xf_1, xf_2, xs_1, xs_2, xs_same, xq_so, xj_1, xj_2, xj_same, xq_jo, xq_sa1, xq_same, xq_other, upd_s, oI_n, oI_s, xv_0, xv_1, xv_2, xv_3, xm_p1, xm_p2, List.filter_cons, List.filter_nil, Nat.reduceBEq, Bool.not_true, Bool.not_false, Bool.and_true, Bool.and_false, Bool.false_and, Bool.true_and, if_true, if_false, Bool.false_eq_true, reduceIte, xc_i, xc_j, xc_r, xc_n, List.nil_append, List.cons_append, Option.toList_some, Option.toList_none]
  exact k1 (8 * l.length - a) 0 a h (by have := hS.2.2.2.2.2.1; omega) (by decide) rfl hS Fr_rf (by omega)
