/-! ===== the class: Roots: findNode ===== -/
section RT
variable {sc : xm_Sc} {d pp : Nat} {ps : List pr_D} {h : xm_H} {post : xm_Po}
theorem sp_findNode {n hx : Nat} {Q : Nat → Nat → Int32} (hF : XF h) (hpp : pp = 52 ∨ pp = 77) (ho : psOK ps) (hl : ps.length ≤ 400) (hn : n < ps.length) (g1 : h.1 (pp + 1) n = nI (pC ps n)) (g2 : h.1 (pp + 2) n = oI (p1 ps n)) (g3 : h.1 (pp + 3) n = oI (p2 ps n)) (g4 : pC ps n ≠ 10 → pC ps n ≠ 11 → h.1 (pp + 4) n = nI (pNu ps n)) (g5 : pC ps n = 11 → h.1 (pp + 4) n = nI (8 * hx) ∧ hx < 255 ∧ ∀ k, k < 8 → h.1 (pp + 11) (8 * hx + k) = nI (pHw ps n k)) (hv : xlv h 16) (hkd : ∀ y, y < n → ∀ k, k < 8 → h.1 41 (8 * y + k) = Q y k)
    (hp : ∀ h', Fr [41, 44] [] h h' → (∀ k, k < 8 → h'.1 41 (8 * n + k) = rtN ps Q n k) → (∀ m, (m < 8 * n ∨ 8 * n + 8 ≤ m) → h'.1 41 m = h.1 41 m) → post none h') : xm_T (XE sc) (d + 4) 119 [.ref 40, .ref pp, .int (nI n)] h post := by
  obtain ⟨o1, o2, o3, o4, o5, o6, _⟩ := ho n hn
  have o1 : pC ps n ≤ 12 := o1
  have o2 : pC ps n ≤ 6 ↔ (p1 ps n).isSome = true := o2
  have o3 : pC ps n ≤ 2 ↔ (p2 ps n).isSome = true := o3
  have o4 : ∀ x, p1 ps n = some x → x < n := o4
  have o5 : ∀ x, p2 ps n = some x → x < n := o5
  have o6 : pNu ps n ≤ 167 := o6
  have lv : ∀ k, k < 8 → h.1 43 (8 * pC ps n + k) = rt0 (nI (pC ps n)) k := by
    intro k hk
    have := hv (pC ps n) (by omega) k hk
    unfold lvX at this
    rw [if_pos (by omega)] at this
    exact this
  refine xq_in rfl ?_
  simp only [xq_a0, xq_aI, xq_aJ, xq_aR, Nat.reduceAdd]
  by_cases e11 : pC ps n = 11
  · have e' : (pC ps n = 11) = True := eq_true e11
    obtain ⟨k1, k2, k3⟩ := g5 e11
    have s11 := ps_11 (sc := sc) hpp
    with_reducible refine xm_go_blk b_X7_findNode_0 k_X7_findNode_0 ?_
    refine by_aload_n rfl ?_
    refine by_getf cn_119 fl_7_64 (by first | exact rfl | assumption | exact ps_0 hpp) (by decide) ?_
    refine by_iload_n rfl ?_
    simp (disch := first | exact Nat.ne_of_beq_eq_false rfl | exact rfl | omega) only [nI_add, xa_sub, xa_mul, pk_div, nm_mod, xa_shr, xa_and7, xa_and1, xa_and255, xa_by_and, nI_m1, Nat.add_sub_cancel, Nat.reducePow, Nat.zero_add, Nat.add_zero, Nat.reduceAdd, Nat.reduceMul, Nat.reduceSub, xf_same, xq_ff, xq_fo, xf_1, xf_2, xs_1, xs_2, xs_same, xq_so, xj_1, xj_2, xj_same, xq_jo, xq_sa1, xq_same, xq_other, upd_s, oI_n, oI_s, pf_1 hF hpp, pf_4 hF hpp, pf_11 hF hpp, xf_40_0 hF, g1, k1, e']
    first | refine by_iald (by first | exact rfl | assumption | exact ps_1 hpp | exact ps_2 hpp | exact ps_3 hpp | exact ps_4 hpp | exact ps_5 hpp | exact ps_6 hpp | exact ps_7 hpp | exact ps_8 hpp | exact ps_9 hpp | exact ps_10 hpp | exact ps_11 hpp | exact ps_15 hpp | exact ps_16 hpp | exact ps_17 hpp | exact ps_18 hpp | exact ps_19 hpp | exact ps_21 hpp | exact ps_22 hpp | exact ps_23 hpp | exact ps_24 hpp) ⟨by omega, by omega⟩ ?_ | refine by_tald rfl rfl ⟨by omega, by omega⟩ ?_
    refine by_istore_n (by rw [ml_119]; decide) ?_
    refine by_iload_n rfl ?_
    refine by_bipush cb_11 ?_
    refine by_ic_ne 39 rfl ?_
    simp (disch := first | exact Nat.ne_of_beq_eq_false rfl | exact rfl | omega) only [nI_add, xa_sub, xa_mul, pk_div, nm_mod, xa_shr, xa_and7, xa_and1, xa_and255, xa_by_and, nI_m1, Nat.add_sub_cancel, Nat.reducePow, Nat.zero_add, Nat.add_zero, Nat.reduceAdd, Nat.reduceMul, Nat.reduceSub, xf_same, xq_ff, xq_fo, xf_1, xf_2, xs_1, xs_2, xs_same, xq_so, xj_1, xj_2, xj_same, xq_jo, xq_sa1, xq_same, xq_other, upd_s, oI_n, oI_s, xv_0, xv_1, xv_2, xv_3, xm_p1, xm_p2, xq_fp, xq_fn, List.filter_nil, Nat.reduceBEq, Bool.not_true, Bool.not_false, Bool.and_true, Bool.and_false, Bool.false_and, Bool.true_and, if_true, if_false, Bool.false_eq_true, reduceIte, xc_i, xc_j, xc_r, xc_n, List.nil_append, List.cons_append, Option.toList_some, Option.toList_none, nI_ltJ, nI_leJ, nI_eqJ, nI_ltz, nI_gez, nI_gtz, nI_lez, nI_eqz, m1_ltz, m1_gez, true_imp_iff, false_imp_iff, true_and, and_true, ne_eq, not_false_eq_true, not_true_eq_false, Nat.reduceEqDiff, Nat.reduceLT, Nat.reduceLeDiff, pf_1 hF hpp, pf_4 hF hpp, pf_11 hF hpp, xf_40_0 hF, g1, k1, e']
    with_reducible refine xm_go_blk b_X7_findNode_13 k_X7_findNode_13 ?_
    refine by_aload_n rfl ?_
    refine by_getf cn_119 fl_7_67 (by first | exact rfl | assumption | exact ps_0 hpp) (by decide) ?_
    refine by_aload_n rfl ?_
    refine by_getf cn_119 fl_7_70 (by first | exact rfl | assumption | exact ps_0 hpp) (by decide) ?_
    refine by_iload_n rfl ?_
    simp (disch := first | exact Nat.ne_of_beq_eq_false rfl | exact rfl | omega) only [nI_add, xa_sub, xa_mul, pk_div, nm_mod, xa_shr, xa_and7, xa_and1, xa_and255, xa_by_and, nI_m1, Nat.add_sub_cancel, Nat.reducePow, Nat.zero_add, Nat.add_zero, Nat.reduceAdd, Nat.reduceMul, Nat.reduceSub, xf_same, xq_ff, xq_fo, xf_1, xf_2, xs_1, xs_2, xs_same, xq_so, xj_1, xj_2, xj_same, xq_jo, xq_sa1, xq_same, xq_other, upd_s, oI_n, oI_s, pf_1 hF hpp, pf_4 hF hpp, pf_11 hF hpp, xf_40_0 hF, g1, k1, e']
    first | refine by_iald (by first | exact rfl | assumption | exact ps_1 hpp | exact ps_2 hpp | exact ps_3 hpp | exact ps_4 hpp | exact ps_5 hpp | exact ps_6 hpp | exact ps_7 hpp | exact ps_8 hpp | exact ps_9 hpp | exact ps_10 hpp | exact ps_11 hpp | exact ps_15 hpp | exact ps_16 hpp | exact ps_17 hpp | exact ps_18 hpp | exact ps_19 hpp | exact ps_21 hpp | exact ps_22 hpp | exact ps_23 hpp | exact ps_24 hpp) ⟨by omega, by omega⟩ ?_ | refine by_tald rfl rfl ⟨by omega, by omega⟩ ?_
    refine by_aload_n rfl ?_
    refine by_getf cn_119 fl_7_9 (by first | exact rfl | assumption) (by decide) ?_
    refine by_bipush cb_8 ?_
    refine by_iload_n rfl ?_
    refine by_imul ?_
    refine by_bipush cb_8 ?_
    simp (disch := first | exact Nat.ne_of_beq_eq_false rfl | exact rfl | omega) only [nI_add, xa_sub, xa_mul, pk_div, nm_mod, xa_shr, xa_and7, xa_and1, xa_and255, xa_by_and, nI_m1, Nat.add_sub_cancel, Nat.reducePow, Nat.zero_add, Nat.add_zero, Nat.reduceAdd, Nat.reduceMul, Nat.reduceSub, xf_same, xq_ff, xq_fo, xf_1, xf_2, xs_1, xs_2, xs_same, xq_so, xj_1, xj_2, xj_same, xq_jo, xq_sa1, xq_same, xq_other, upd_s, oI_n, oI_s, xv_0, xv_1, xv_2, xv_3, xm_p1, xm_p2, xq_fp, xq_fn, List.filter_nil, Nat.reduceBEq, Bool.not_true, Bool.not_false, Bool.and_true, Bool.and_false, Bool.false_and, Bool.true_and, if_true, if_false, Bool.false_eq_true, reduceIte, xc_i, xc_j, xc_r, xc_n, List.nil_append, List.cons_append, Option.toList_some, Option.toList_none, pf_1 hF hpp, pf_4 hF hpp, pf_11 hF hpp, xf_40_0 hF, g1, k1, e']
    refine by_acp cn_119 lk_7_73 xe_cnt.symm (by first | exact rfl | assumption) (by first | exact rfl | assumption) ⟨by decide, rfl⟩ ?_ ?_ (Nat.le_of_ble_eq_true rfl) ?_
    · omega
    · intro i hi; rfl
    · with_reducible refine xm_go_blk b_X7_findNode_36 k_X7_findNode_36 ?_
      refine by_goto 227 rfl ?_
      with_reducible refine xm_go_blk b_X7_findNode_227 k_X7_findNode_227 ?_
      refine by_ret ry_119 ?_
      refine hp _ (Fr_sa Fr_rf (by simp)) (fun k hk => ?_) (fun m hm => ?_)
      · rw [xq_same, cpy_in (by omega) (by omega), show 8 * hx + (8 * n + k - 8 * n) = 8 * hx + k by omega, k3 k hk]
        unfold rtN
        rw [if_pos e11]
      · rw [xq_same, cpy_out (by omega)]
  have e11' : (pC ps n = 11) = False := eq_false e11
  by_cases e12 : pC ps n = 12
  · have e' : (pC ps n = 12) = True := eq_true e12
    have k1 := g4 (by omega) e11
    with_reducible refine xm_go_blk b_X7_findNode_0 k_X7_findNode_0 ?_
    refine by_aload_n rfl ?_
    refine by_getf cn_119 fl_7_64 (by first | exact rfl | assumption | exact ps_0 hpp) (by decide) ?_
    refine by_iload_n rfl ?_
    simp (disch := first | exact Nat.ne_of_beq_eq_false rfl | exact rfl | omega) only [nI_add, xa_sub, xa_mul, pk_div, nm_mod, xa_shr, xa_and7, xa_and1, xa_and255, xa_by_and, nI_m1, Nat.add_sub_cancel, Nat.reducePow, Nat.zero_add, Nat.add_zero, Nat.reduceAdd, Nat.reduceMul, Nat.reduceSub, xf_same, xq_ff, xq_fo, xf_1, xf_2, xs_1, xs_2, xs_same, xq_so, xj_1, xj_2, xj_same, xq_jo, xq_sa1, xq_same, xq_other, upd_s, oI_n, oI_s, pf_1 hF hpp, pf_4 hF hpp, xf_40_0 hF, g1, k1, e', e11']
    first | refine by_iald (by first | exact rfl | assumption | exact ps_1 hpp | exact ps_2 hpp | exact ps_3 hpp | exact ps_4 hpp | exact ps_5 hpp | exact ps_6 hpp | exact ps_7 hpp | exact ps_8 hpp | exact ps_9 hpp | exact ps_10 hpp | exact ps_11 hpp | exact ps_15 hpp | exact ps_16 hpp | exact ps_17 hpp | exact ps_18 hpp | exact ps_19 hpp | exact ps_21 hpp | exact ps_22 hpp | exact ps_23 hpp | exact ps_24 hpp) ⟨by omega, by omega⟩ ?_ | refine by_tald rfl rfl ⟨by omega, by omega⟩ ?_
    refine by_istore_n (by rw [ml_119]; decide) ?_
    refine by_iload_n rfl ?_
    refine by_bipush cb_11 ?_
    refine by_ic_ne 39 rfl ?_
    simp (disch := first | exact Nat.ne_of_beq_eq_false rfl | exact rfl | omega) only [nI_add, xa_sub, xa_mul, pk_div, nm_mod, xa_shr, xa_and7, xa_and1, xa_and255, xa_by_and, nI_m1, Nat.add_sub_cancel, Nat.reducePow, Nat.zero_add, Nat.add_zero, Nat.reduceAdd, Nat.reduceMul, Nat.reduceSub, xf_same, xq_ff, xq_fo, xf_1, xf_2, xs_1, xs_2, xs_same, xq_so, xj_1, xj_2, xj_same, xq_jo, xq_sa1, xq_same, xq_other, upd_s, oI_n, oI_s, xv_0, xv_1, xv_2, xv_3, xm_p1, xm_p2, xq_fp, xq_fn, List.filter_nil, Nat.reduceBEq, Bool.not_true, Bool.not_false, Bool.and_true, Bool.and_false, Bool.false_and, Bool.true_and, if_true, if_false, Bool.false_eq_true, reduceIte, xc_i, xc_j, xc_r, xc_n, List.nil_append, List.cons_append, Option.toList_some, Option.toList_none, nI_ltJ, nI_leJ, nI_eqJ, nI_ltz, nI_gez, nI_gtz, nI_lez, nI_eqz, m1_ltz, m1_gez, true_imp_iff, false_imp_iff, true_and, and_true, ne_eq, not_false_eq_true, not_true_eq_false, Nat.reduceEqDiff, Nat.reduceLT, Nat.reduceLeDiff, pf_1 hF hpp, pf_4 hF hpp, xf_40_0 hF, g1, k1, e', e11']
    with_reducible refine xm_go_blk b_X7_findNode_39 k_X7_findNode_39 ?_
    refine by_iload_n rfl ?_
    refine by_bipush cb_12 ?_
    refine by_ic_ne 66 rfl ?_
    simp (disch := first | exact Nat.ne_of_beq_eq_false rfl | exact rfl | omega) only [nI_add, xa_sub, xa_mul, pk_div, nm_mod, xa_shr, xa_and7, xa_and1, xa_and255, xa_by_and, nI_m1, Nat.add_sub_cancel, Nat.reducePow, Nat.zero_add, Nat.add_zero, Nat.reduceAdd, Nat.reduceMul, Nat.reduceSub, xf_same, xq_ff, xq_fo, xf_1, xf_2, xs_1, xs_2, xs_same, xq_so, xj_1, xj_2, xj_same, xq_jo, xq_sa1, xq_same, xq_other, upd_s, oI_n, oI_s, xv_0, xv_1, xv_2, xv_3, xm_p1, xm_p2, xq_fp, xq_fn, List.filter_nil, Nat.reduceBEq, Bool.not_true, Bool.not_false, Bool.and_true, Bool.and_false, Bool.false_and, Bool.true_and, if_true, if_false, Bool.false_eq_true, reduceIte, xc_i, xc_j, xc_r, xc_n, List.nil_append, List.cons_append, Option.toList_some, Option.toList_none, nI_ltJ, nI_leJ, nI_eqJ, nI_ltz, nI_gez, nI_gtz, nI_lez, nI_eqz, m1_ltz, m1_gez, true_imp_iff, false_imp_iff, true_and, and_true, ne_eq, not_false_eq_true, not_true_eq_false, Nat.reduceEqDiff, Nat.reduceLT, Nat.reduceLeDiff, pf_1 hF hpp, pf_4 hF hpp, xf_40_0 hF, g1, k1, e', e11']
    with_reducible refine xm_go_blk b_X7_findNode_45 k_X7_findNode_45 ?_
    refine by_aload_n rfl ?_
    refine by_bipush cb_32 ?_
    refine by_aload_n rfl ?_
    refine by_getf cn_119 fl_7_70 (by first | exact rfl | assumption | exact ps_0 hpp) (by decide) ?_
    refine by_iload_n rfl ?_
    simp (disch := first | exact Nat.ne_of_beq_eq_false rfl | exact rfl | omega) only [nI_add, xa_sub, xa_mul, pk_div, nm_mod, xa_shr, xa_and7, xa_and1, xa_and255, xa_by_and, nI_m1, Nat.add_sub_cancel, Nat.reducePow, Nat.zero_add, Nat.add_zero, Nat.reduceAdd, Nat.reduceMul, Nat.reduceSub, xf_same, xq_ff, xq_fo, xf_1, xf_2, xs_1, xs_2, xs_same, xq_so, xj_1, xj_2, xj_same, xq_jo, xq_sa1, xq_same, xq_other, upd_s, oI_n, oI_s, pf_1 hF hpp, pf_4 hF hpp, xf_40_0 hF, g1, k1, e', e11']
    first | refine by_iald (by first | exact rfl | assumption | exact ps_1 hpp | exact ps_2 hpp | exact ps_3 hpp | exact ps_4 hpp | exact ps_5 hpp | exact ps_6 hpp | exact ps_7 hpp | exact ps_8 hpp | exact ps_9 hpp | exact ps_10 hpp | exact ps_11 hpp | exact ps_15 hpp | exact ps_16 hpp | exact ps_17 hpp | exact ps_18 hpp | exact ps_19 hpp | exact ps_21 hpp | exact ps_22 hpp | exact ps_23 hpp | exact ps_24 hpp) ⟨by omega, by omega⟩ ?_ | refine by_tald rfl rfl ⟨by omega, by omega⟩ ?_
    refine by_iadd ?_
    refine by_aload_n rfl ?_
    refine by_getf cn_119 fl_7_9 (by first | exact rfl | assumption) (by decide) ?_
    refine by_iload_n rfl ?_
    simp (disch := first | exact Nat.ne_of_beq_eq_false rfl | exact rfl | omega) only [nI_add, xa_sub, xa_mul, pk_div, nm_mod, xa_shr, xa_and7, xa_and1, xa_and255, xa_by_and, nI_m1, Nat.add_sub_cancel, Nat.reducePow, Nat.zero_add, Nat.add_zero, Nat.reduceAdd, Nat.reduceMul, Nat.reduceSub, xf_same, xq_ff, xq_fo, xf_1, xf_2, xs_1, xs_2, xs_same, xq_so, xj_1, xj_2, xj_same, xq_jo, xq_sa1, xq_same, xq_other, upd_s, oI_n, oI_s, xv_0, xv_1, xv_2, xv_3, xm_p1, xm_p2, xq_fp, xq_fn, List.filter_nil, Nat.reduceBEq, Bool.not_true, Bool.not_false, Bool.and_true, Bool.and_false, Bool.false_and, Bool.true_and, if_true, if_false, Bool.false_eq_true, reduceIte, xc_i, xc_j, xc_r, xc_n, List.nil_append, List.cons_append, Option.toList_some, Option.toList_none, pf_1 hF hpp, pf_4 hF hpp, xf_40_0 hF, g1, k1, e', e11']
    refine by_inv3 cn_119 lk_7_60 (by rw [xe_cnt]; decide) is_122 np_122 cn_122 (by first | exact rfl | assumption) (Nat.le_of_ble_eq_true rfl) ?_
    refine sp_xleaf (B := 41) (q := n) hF rfl (by decide) (show 8 * n + 8 ≤ 3200 by omega) (by decide) (fun h2 f2 q1 q2 => ?_)
    with_reducible refine xm_go_blk b_X7_findNode_63 k_X7_findNode_63 ?_
    refine by_goto 227 rfl ?_
    with_reducible refine xm_go_blk b_X7_findNode_227 k_X7_findNode_227 ?_
    refine by_ret ry_119 ?_
    refine hp h2 (Fr_mo f2 (by simp) (by simp)) (fun k hk => ?_) q2
    rw [q1 k hk]
    unfold rtN
    rw [if_neg e11, if_pos e12]
  have e12' : (pC ps n = 12) = False := eq_false e12
  cases z1 : p1 ps n with
  | none =>
    have c6 : 6 < pC ps n := by
      have : ¬ pC ps n ≤ 6 := by rw [o2, z1]; simp
      omega
    with_reducible refine xm_go_blk b_X7_findNode_0 k_X7_findNode_0 ?_
    refine by_aload_n rfl ?_
    refine by_getf cn_119 fl_7_64 (by first | exact rfl | assumption | exact ps_0 hpp) (by decide) ?_
    refine by_iload_n rfl ?_
    simp (disch := first | exact Nat.ne_of_beq_eq_false rfl | exact rfl | omega) only [nI_add, xa_sub, xa_mul, pk_div, nm_mod, xa_shr, xa_and7, xa_and1, xa_and255, xa_by_and, nI_m1, Nat.add_sub_cancel, Nat.reducePow, Nat.zero_add, Nat.add_zero, Nat.reduceAdd, Nat.reduceMul, Nat.reduceSub, xf_same, xq_ff, xq_fo, xf_1, xf_2, xs_1, xs_2, xs_same, xq_so, xj_1, xj_2, xj_same, xq_jo, xq_sa1, xq_same, xq_other, upd_s, oI_n, oI_s, pf_1 hF hpp, xf_40_0 hF, xf_40_2 hF, g1, e12', e11']
    first | refine by_iald (by first | exact rfl | assumption | exact ps_1 hpp | exact ps_2 hpp | exact ps_3 hpp | exact ps_4 hpp | exact ps_5 hpp | exact ps_6 hpp | exact ps_7 hpp | exact ps_8 hpp | exact ps_9 hpp | exact ps_10 hpp | exact ps_11 hpp | exact ps_15 hpp | exact ps_16 hpp | exact ps_17 hpp | exact ps_18 hpp | exact ps_19 hpp | exact ps_21 hpp | exact ps_22 hpp | exact ps_23 hpp | exact ps_24 hpp) ⟨by omega, by omega⟩ ?_ | refine by_tald rfl rfl ⟨by omega, by omega⟩ ?_
    refine by_istore_n (by rw [ml_119]; decide) ?_
    refine by_iload_n rfl ?_
    refine by_bipush cb_11 ?_
    refine by_ic_ne 39 rfl ?_
    simp (disch := first | exact Nat.ne_of_beq_eq_false rfl | exact rfl | omega) only [nI_add, xa_sub, xa_mul, pk_div, nm_mod, xa_shr, xa_and7, xa_and1, xa_and255, xa_by_and, nI_m1, Nat.add_sub_cancel, Nat.reducePow, Nat.zero_add, Nat.add_zero, Nat.reduceAdd, Nat.reduceMul, Nat.reduceSub, xf_same, xq_ff, xq_fo, xf_1, xf_2, xs_1, xs_2, xs_same, xq_so, xj_1, xj_2, xj_same, xq_jo, xq_sa1, xq_same, xq_other, upd_s, oI_n, oI_s, xv_0, xv_1, xv_2, xv_3, xm_p1, xm_p2, xq_fp, xq_fn, List.filter_nil, Nat.reduceBEq, Bool.not_true, Bool.not_false, Bool.and_true, Bool.and_false, Bool.false_and, Bool.true_and, if_true, if_false, Bool.false_eq_true, reduceIte, xc_i, xc_j, xc_r, xc_n, List.nil_append, List.cons_append, Option.toList_some, Option.toList_none, nI_ltJ, nI_leJ, nI_eqJ, nI_ltz, nI_gez, nI_gtz, nI_lez, nI_eqz, m1_ltz, m1_gez, true_imp_iff, false_imp_iff, true_and, and_true, ne_eq, not_false_eq_true, not_true_eq_false, Nat.reduceEqDiff, Nat.reduceLT, Nat.reduceLeDiff, pf_1 hF hpp, xf_40_0 hF, xf_40_2 hF, g1, e12', e11']
    with_reducible refine xm_go_blk b_X7_findNode_39 k_X7_findNode_39 ?_
    refine by_iload_n rfl ?_
    refine by_bipush cb_12 ?_
    refine by_ic_ne 66 rfl ?_
    simp (disch := first | exact Nat.ne_of_beq_eq_false rfl | exact rfl | omega) only [nI_add, xa_sub, xa_mul, pk_div, nm_mod, xa_shr, xa_and7, xa_and1, xa_and255, xa_by_and, nI_m1, Nat.add_sub_cancel, Nat.reducePow, Nat.zero_add, Nat.add_zero, Nat.reduceAdd, Nat.reduceMul, Nat.reduceSub, xf_same, xq_ff, xq_fo, xf_1, xf_2, xs_1, xs_2, xs_same, xq_so, xj_1, xj_2, xj_same, xq_jo, xq_sa1, xq_same, xq_other, upd_s, oI_n, oI_s, xv_0, xv_1, xv_2, xv_3, xm_p1, xm_p2, xq_fp, xq_fn, List.filter_nil, Nat.reduceBEq, Bool.not_true, Bool.not_false, Bool.and_true, Bool.and_false, Bool.false_and, Bool.true_and, if_true, if_false, Bool.false_eq_true, reduceIte, xc_i, xc_j, xc_r, xc_n, List.nil_append, List.cons_append, Option.toList_some, Option.toList_none, nI_ltJ, nI_leJ, nI_eqJ, nI_ltz, nI_gez, nI_gtz, nI_lez, nI_eqz, m1_ltz, m1_gez, true_imp_iff, false_imp_iff, true_and, and_true, ne_eq, not_false_eq_true, not_true_eq_false, Nat.reduceEqDiff, Nat.reduceLT, Nat.reduceLeDiff, pf_1 hF hpp, xf_40_0 hF, xf_40_2 hF, g1, e12', e11']
    with_reducible refine xm_go_blk b_X7_findNode_66 k_X7_findNode_66 ?_
    refine by_iload_n rfl ?_
    refine by_bipush cb_6 ?_
    refine by_ic_le 96 rfl ?_
    simp (disch := first | exact Nat.ne_of_beq_eq_false rfl | exact rfl | omega) only [nI_add, xa_sub, xa_mul, pk_div, nm_mod, xa_shr, xa_and7, xa_and1, xa_and255, xa_by_and, nI_m1, Nat.add_sub_cancel, Nat.reducePow, Nat.zero_add, Nat.add_zero, Nat.reduceAdd, Nat.reduceMul, Nat.reduceSub, xf_same, xq_ff, xq_fo, xf_1, xf_2, xs_1, xs_2, xs_same, xq_so, xj_1, xj_2, xj_same, xq_jo, xq_sa1, xq_same, xq_other, upd_s, oI_n, oI_s, xv_0, xv_1, xv_2, xv_3, xm_p1, xm_p2, xq_fp, xq_fn, List.filter_nil, Nat.reduceBEq, Bool.not_true, Bool.not_false, Bool.and_true, Bool.and_false, Bool.false_and, Bool.true_and, if_true, if_false, Bool.false_eq_true, reduceIte, xc_i, xc_j, xc_r, xc_n, List.nil_append, List.cons_append, Option.toList_some, Option.toList_none, nI_ltJ, nI_leJ, nI_eqJ, nI_ltz, nI_gez, nI_gtz, nI_lez, nI_eqz, m1_ltz, m1_gez, true_imp_iff, false_imp_iff, true_and, and_true, ne_eq, not_false_eq_true, not_true_eq_false, Nat.reduceEqDiff, Nat.reduceLT, Nat.reduceLeDiff, pf_1 hF hpp, xf_40_0 hF, xf_40_2 hF, g1, e12', e11']
    refine ⟨fun c => absurd c (by omega), fun c66 => ?_⟩
    with_reducible refine xm_go_blk b_X7_findNode_72 k_X7_findNode_72 ?_
    refine by_aload_n rfl ?_
    refine by_getf cn_119 fl_7_18 (by first | exact rfl | assumption) (by decide) ?_
    refine by_bipush cb_8 ?_
    refine by_iload_n rfl ?_
    refine by_imul ?_
    refine by_aload_n rfl ?_
    refine by_getf cn_119 fl_7_9 (by first | exact rfl | assumption) (by decide) ?_
    refine by_bipush cb_8 ?_
    refine by_iload_n rfl ?_
    refine by_imul ?_
    refine by_bipush cb_8 ?_
    simp (disch := first | exact Nat.ne_of_beq_eq_false rfl | exact rfl | omega) only [nI_add, xa_sub, xa_mul, pk_div, nm_mod, xa_shr, xa_and7, xa_and1, xa_and255, xa_by_and, nI_m1, Nat.add_sub_cancel, Nat.reducePow, Nat.zero_add, Nat.add_zero, Nat.reduceAdd, Nat.reduceMul, Nat.reduceSub, xf_same, xq_ff, xq_fo, xf_1, xf_2, xs_1, xs_2, xs_same, xq_so, xj_1, xj_2, xj_same, xq_jo, xq_sa1, xq_same, xq_other, upd_s, oI_n, oI_s, xv_0, xv_1, xv_2, xv_3, xm_p1, xm_p2, xq_fp, xq_fn, List.filter_nil, Nat.reduceBEq, Bool.not_true, Bool.not_false, Bool.and_true, Bool.and_false, Bool.false_and, Bool.true_and, if_true, if_false, Bool.false_eq_true, reduceIte, xc_i, xc_j, xc_r, xc_n, List.nil_append, List.cons_append, Option.toList_some, Option.toList_none, pf_1 hF hpp, xf_40_0 hF, xf_40_2 hF, g1, e12', e11']
    refine by_acp cn_119 lk_7_73 xe_cnt.symm (by first | exact rfl | assumption) (by first | exact rfl | assumption) ⟨by decide, rfl⟩ ?_ ?_ (Nat.le_of_ble_eq_true rfl) ?_
    · omega
    · intro i hi; rfl
    · with_reducible refine xm_go_blk b_X7_findNode_93 k_X7_findNode_93 ?_
      refine by_goto 227 rfl ?_
      with_reducible refine xm_go_blk b_X7_findNode_227 k_X7_findNode_227 ?_
      refine by_ret ry_119 ?_
      refine hp _ (Fr_sa Fr_rf (by simp)) (fun k hk => ?_) (fun m hm => ?_)
      · rw [xq_same, cpy_in (by omega) (by omega), show 8 * pC ps n + (8 * n + k - 8 * n) = 8 * pC ps n + k by omega, lv k hk]
        unfold rtN
        rw [if_neg e11, if_neg e12, z1]
      · rw [xq_same, cpy_out (by omega)]
  | some x =>
    have c6 : pC ps n ≤ 6 := by rw [o2, z1]; rfl
    have hx1 : x < n := o4 x z1
    have g2' : h.1 (pp + 2) n = nI x := by rw [g2, z1]; rfl
    cases z2 : p2 ps n with
    | some y =>
      have c2 : pC ps n ≤ 2 := by rw [o3, z2]; rfl
      have hy : y < n := o5 y z2
      have g3' : h.1 (pp + 3) n = nI y := by rw [g3, z2]; rfl
      with_reducible refine xm_go_blk b_X7_findNode_0 k_X7_findNode_0 ?_
      refine by_aload_n rfl ?_
      refine by_getf cn_119 fl_7_64 (by first | exact rfl | assumption | exact ps_0 hpp) (by decide) ?_
      refine by_iload_n rfl ?_
      simp (disch := first | exact Nat.ne_of_beq_eq_false rfl | exact rfl | omega) only [nI_add, xa_sub, xa_mul, pk_div, nm_mod, xa_shr, xa_and7, xa_and1, xa_and255, xa_by_and, nI_m1, Nat.add_sub_cancel, Nat.reducePow, Nat.zero_add, Nat.add_zero, Nat.reduceAdd, Nat.reduceMul, Nat.reduceSub, xf_same, xq_ff, xq_fo, xf_1, xf_2, xs_1, xs_2, xs_same, xq_so, xj_1, xj_2, xj_same, xq_jo, xq_sa1, xq_same, xq_other, upd_s, oI_n, oI_s, pf_1 hF hpp, pf_2 hF hpp, xf_40_0 hF, xf_40_3 hF, g1, g2', e12', e11']
      first | refine by_iald (by first | exact rfl | assumption | exact ps_1 hpp | exact ps_2 hpp | exact ps_3 hpp | exact ps_4 hpp | exact ps_5 hpp | exact ps_6 hpp | exact ps_7 hpp | exact ps_8 hpp | exact ps_9 hpp | exact ps_10 hpp | exact ps_11 hpp | exact ps_15 hpp | exact ps_16 hpp | exact ps_17 hpp | exact ps_18 hpp | exact ps_19 hpp | exact ps_21 hpp | exact ps_22 hpp | exact ps_23 hpp | exact ps_24 hpp) ⟨by omega, by omega⟩ ?_ | refine by_tald rfl rfl ⟨by omega, by omega⟩ ?_
      refine by_istore_n (by rw [ml_119]; decide) ?_
      refine by_iload_n rfl ?_
      refine by_bipush cb_11 ?_
      refine by_ic_ne 39 rfl ?_
      simp (disch := first | exact Nat.ne_of_beq_eq_false rfl | exact rfl | omega) only [nI_add, xa_sub, xa_mul, pk_div, nm_mod, xa_shr, xa_and7, xa_and1, xa_and255, xa_by_and, nI_m1, Nat.add_sub_cancel, Nat.reducePow, Nat.zero_add, Nat.add_zero, Nat.reduceAdd, Nat.reduceMul, Nat.reduceSub, xf_same, xq_ff, xq_fo, xf_1, xf_2, xs_1, xs_2, xs_same, xq_so, xj_1, xj_2, xj_same, xq_jo, xq_sa1, xq_same, xq_other, upd_s, oI_n, oI_s, xv_0, xv_1, xv_2, xv_3, xm_p1, xm_p2, xq_fp, xq_fn, List.filter_nil, Nat.reduceBEq, Bool.not_true, Bool.not_false, Bool.and_true, Bool.and_false, Bool.false_and, Bool.true_and, if_true, if_false, Bool.false_eq_true, reduceIte, xc_i, xc_j, xc_r, xc_n, List.nil_append, List.cons_append, Option.toList_some, Option.toList_none, nI_ltJ, nI_leJ, nI_eqJ, nI_ltz, nI_gez, nI_gtz, nI_lez, nI_eqz, m1_ltz, m1_gez, true_imp_iff, false_imp_iff, true_and, and_true, ne_eq, not_false_eq_true, not_true_eq_false, Nat.reduceEqDiff, Nat.reduceLT, Nat.reduceLeDiff, pf_1 hF hpp, pf_2 hF hpp, xf_40_0 hF, xf_40_3 hF, g1, g2', e12', e11']
      with_reducible refine xm_go_blk b_X7_findNode_39 k_X7_findNode_39 ?_
      refine by_iload_n rfl ?_
      refine by_bipush cb_12 ?_
      refine by_ic_ne 66 rfl ?_
      simp (disch := first | exact Nat.ne_of_beq_eq_false rfl | exact rfl | omega) only [nI_add, xa_sub, xa_mul, pk_div, nm_mod, xa_shr, xa_and7, xa_and1, xa_and255, xa_by_and, nI_m1, Nat.add_sub_cancel, Nat.reducePow, Nat.zero_add, Nat.add_zero, Nat.reduceAdd, Nat.reduceMul, Nat.reduceSub, xf_same, xq_ff, xq_fo, xf_1, xf_2, xs_1, xs_2, xs_same, xq_so, xj_1, xj_2, xj_same, xq_jo, xq_sa1, xq_same, xq_other, upd_s, oI_n, oI_s, xv_0, xv_1, xv_2, xv_3, xm_p1, xm_p2, xq_fp, xq_fn, List.filter_nil, Nat.reduceBEq, Bool.not_true, Bool.not_false, Bool.and_true, Bool.and_false, Bool.false_and, Bool.true_and, if_true, if_false, Bool.false_eq_true, reduceIte, xc_i, xc_j, xc_r, xc_n, List.nil_append, List.cons_append, Option.toList_some, Option.toList_none, nI_ltJ, nI_leJ, nI_eqJ, nI_ltz, nI_gez, nI_gtz, nI_lez, nI_eqz, m1_ltz, m1_gez, true_imp_iff, false_imp_iff, true_and, and_true, ne_eq, not_false_eq_true, not_true_eq_false, Nat.reduceEqDiff, Nat.reduceLT, Nat.reduceLeDiff, pf_1 hF hpp, pf_2 hF hpp, xf_40_0 hF, xf_40_3 hF, g1, g2', e12', e11']
      with_reducible refine xm_go_blk b_X7_findNode_66 k_X7_findNode_66 ?_
      refine by_iload_n rfl ?_
      refine by_bipush cb_6 ?_
      refine by_ic_le 96 rfl ?_
      simp (disch := first | exact Nat.ne_of_beq_eq_false rfl | exact rfl | omega) only [nI_add, xa_sub, xa_mul, pk_div, nm_mod, xa_shr, xa_and7, xa_and1, xa_and255, xa_by_and, nI_m1, Nat.add_sub_cancel, Nat.reducePow, Nat.zero_add, Nat.add_zero, Nat.reduceAdd, Nat.reduceMul, Nat.reduceSub, xf_same, xq_ff, xq_fo, xf_1, xf_2, xs_1, xs_2, xs_same, xq_so, xj_1, xj_2, xj_same, xq_jo, xq_sa1, xq_same, xq_other, upd_s, oI_n, oI_s, xv_0, xv_1, xv_2, xv_3, xm_p1, xm_p2, xq_fp, xq_fn, List.filter_nil, Nat.reduceBEq, Bool.not_true, Bool.not_false, Bool.and_true, Bool.and_false, Bool.false_and, Bool.true_and, if_true, if_false, Bool.false_eq_true, reduceIte, xc_i, xc_j, xc_r, xc_n, List.nil_append, List.cons_append, Option.toList_some, Option.toList_none, nI_ltJ, nI_leJ, nI_eqJ, nI_ltz, nI_gez, nI_gtz, nI_lez, nI_eqz, m1_ltz, m1_gez, true_imp_iff, false_imp_iff, true_and, and_true, ne_eq, not_false_eq_true, not_true_eq_false, Nat.reduceEqDiff, Nat.reduceLT, Nat.reduceLeDiff, pf_1 hF hpp, pf_2 hF hpp, xf_40_0 hF, xf_40_3 hF, g1, g2', e12', e11']
      refine ⟨fun c66 => ?_, fun c => absurd (by omega) c⟩
      with_reducible refine xm_go_blk b_X7_findNode_96 k_X7_findNode_96 ?_
      refine by_iload_n rfl ?_
      refine by_iconst ci_2 ?_
      refine by_ic_le 166 rfl ?_
      simp (disch := first | exact Nat.ne_of_beq_eq_false rfl | exact rfl | omega) only [nI_add, xa_sub, xa_mul, pk_div, nm_mod, xa_shr, xa_and7, xa_and1, xa_and255, xa_by_and, nI_m1, Nat.add_sub_cancel, Nat.reducePow, Nat.zero_add, Nat.add_zero, Nat.reduceAdd, Nat.reduceMul, Nat.reduceSub, xf_same, xq_ff, xq_fo, xf_1, xf_2, xs_1, xs_2, xs_same, xq_so, xj_1, xj_2, xj_same, xq_jo, xq_sa1, xq_same, xq_other, upd_s, oI_n, oI_s, xv_0, xv_1, xv_2, xv_3, xm_p1, xm_p2, xq_fp, xq_fn, List.filter_nil, Nat.reduceBEq, Bool.not_true, Bool.not_false, Bool.and_true, Bool.and_false, Bool.false_and, Bool.true_and, if_true, if_false, Bool.false_eq_true, reduceIte, xc_i, xc_j, xc_r, xc_n, List.nil_append, List.cons_append, Option.toList_some, Option.toList_none, nI_ltJ, nI_leJ, nI_eqJ, nI_ltz, nI_gez, nI_gtz, nI_lez, nI_eqz, m1_ltz, m1_gez, true_imp_iff, false_imp_iff, true_and, and_true, ne_eq, not_false_eq_true, not_true_eq_false, Nat.reduceEqDiff, Nat.reduceLT, Nat.reduceLeDiff, pf_1 hF hpp, pf_2 hF hpp, xf_40_0 hF, xf_40_3 hF, g1, g2', e12', e11']
      refine ⟨fun c96 => ?_, fun c => absurd (by omega) c⟩
      with_reducible refine xm_go_blk b_X7_findNode_166 k_X7_findNode_166 ?_
      refine by_aload_n rfl ?_
      refine by_getf cn_119 fl_7_9 (by first | exact rfl | assumption) (by decide) ?_
      refine by_bipush cb_8 ?_
      refine by_aload_n rfl ?_
      refine by_getf cn_119 fl_7_79 (by first | exact rfl | assumption | exact ps_0 hpp) (by decide) ?_
      refine by_iload_n rfl ?_
      simp (disch := first | exact Nat.ne_of_beq_eq_false rfl | exact rfl | omega) only [nI_add, xa_sub, xa_mul, pk_div, nm_mod, xa_shr, xa_and7, xa_and1, xa_and255, xa_by_and, nI_m1, Nat.add_sub_cancel, Nat.reducePow, Nat.zero_add, Nat.add_zero, Nat.reduceAdd, Nat.reduceMul, Nat.reduceSub, xf_same, xq_ff, xq_fo, xf_1, xf_2, xs_1, xs_2, xs_same, xq_so, xj_1, xj_2, xj_same, xq_jo, xq_sa1, xq_same, xq_other, upd_s, oI_n, oI_s, pf_1 hF hpp, pf_2 hF hpp, xf_40_0 hF, xf_40_3 hF, g1, g2', e12', e11']
      first | refine by_iald (by first | exact rfl | assumption | exact ps_1 hpp | exact ps_2 hpp | exact ps_3 hpp | exact ps_4 hpp | exact ps_5 hpp | exact ps_6 hpp | exact ps_7 hpp | exact ps_8 hpp | exact ps_9 hpp | exact ps_10 hpp | exact ps_11 hpp | exact ps_15 hpp | exact ps_16 hpp | exact ps_17 hpp | exact ps_18 hpp | exact ps_19 hpp | exact ps_21 hpp | exact ps_22 hpp | exact ps_23 hpp | exact ps_24 hpp) ⟨by omega, by omega⟩ ?_ | refine by_tald rfl rfl ⟨by omega, by omega⟩ ?_
      refine by_imul ?_
      refine by_aload_n rfl ?_
      refine by_getf cn_119 fl_7_21 (by first | exact rfl | assumption) (by decide) ?_
      refine by_iconst ci_0 ?_
      refine by_bipush cb_8 ?_
      simp (disch := first | exact Nat.ne_of_beq_eq_false rfl | exact rfl | omega) only [nI_add, xa_sub, xa_mul, pk_div, nm_mod, xa_shr, xa_and7, xa_and1, xa_and255, xa_by_and, nI_m1, Nat.add_sub_cancel, Nat.reducePow, Nat.zero_add, Nat.add_zero, Nat.reduceAdd, Nat.reduceMul, Nat.reduceSub, xf_same, xq_ff, xq_fo, xf_1, xf_2, xs_1, xs_2, xs_same, xq_so, xj_1, xj_2, xj_same, xq_jo, xq_sa1, xq_same, xq_other, upd_s, oI_n, oI_s, xv_0, xv_1, xv_2, xv_3, xm_p1, xm_p2, xq_fp, xq_fn, List.filter_nil, Nat.reduceBEq, Bool.not_true, Bool.not_false, Bool.and_true, Bool.and_false, Bool.false_and, Bool.true_and, if_true, if_false, Bool.false_eq_true, reduceIte, xc_i, xc_j, xc_r, xc_n, List.nil_append, List.cons_append, Option.toList_some, Option.toList_none, pf_1 hF hpp, pf_2 hF hpp, xf_40_0 hF, xf_40_3 hF, g1, g2', e12', e11']
      refine by_acp cn_119 lk_7_73 xe_cnt.symm (by first | exact rfl | assumption) (by first | exact rfl | assumption) ⟨by decide, rfl⟩ ?_ ?_ (Nat.le_of_ble_eq_true rfl) ?_
      · omega
      · intro i hi; rfl
      · have F1 : XF (xm_sa h 44 (va_cpy (h.1 41) (h.1 44) (8 * x) 0 8)) := Fr_XF hF (Fr_sa (S := [44]) (T := []) Fr_rf (by simp)) (by decide +kernel)
        with_reducible refine xm_go_blk b_X7_findNode_189 k_X7_findNode_189 ?_
        refine by_aload_n rfl ?_
        refine by_getf cn_119 fl_7_9 (by first | exact rfl | assumption) (by decide) ?_
        refine by_bipush cb_8 ?_
        refine by_aload_n rfl ?_
        refine by_getf cn_119 fl_7_86 (by first | exact rfl | assumption | exact ps_0 hpp) (by decide) ?_
        refine by_iload_n rfl ?_
        simp (disch := first | exact Nat.ne_of_beq_eq_false rfl | exact rfl | omega) only [nI_add, xa_sub, xa_mul, pk_div, nm_mod, xa_shr, xa_and7, xa_and1, xa_and255, xa_by_and, nI_m1, Nat.add_sub_cancel, Nat.reducePow, Nat.zero_add, Nat.add_zero, Nat.reduceAdd, Nat.reduceMul, Nat.reduceSub, xf_same, xq_ff, xq_fo, xf_1, xf_2, xs_1, xs_2, xs_same, xq_so, xj_1, xj_2, xj_same, xq_jo, xq_sa1, xq_same, xq_other, upd_s, oI_n, oI_s, pf_3 hF hpp, xf_40_0 hF, xf_40_3 hF, g3']
        first | refine by_iald (by first | exact rfl | assumption | exact ps_1 hpp | exact ps_2 hpp | exact ps_3 hpp | exact ps_4 hpp | exact ps_5 hpp | exact ps_6 hpp | exact ps_7 hpp | exact ps_8 hpp | exact ps_9 hpp | exact ps_10 hpp | exact ps_11 hpp | exact ps_15 hpp | exact ps_16 hpp | exact ps_17 hpp | exact ps_18 hpp | exact ps_19 hpp | exact ps_21 hpp | exact ps_22 hpp | exact ps_23 hpp | exact ps_24 hpp) ⟨by omega, by omega⟩ ?_ | refine by_tald rfl rfl ⟨by omega, by omega⟩ ?_
        refine by_imul ?_
        refine by_aload_n rfl ?_
        refine by_getf cn_119 fl_7_21 (by first | exact rfl | assumption) (by decide) ?_
        refine by_bipush cb_8 ?_
        refine by_bipush cb_8 ?_
        simp (disch := first | exact Nat.ne_of_beq_eq_false rfl | exact rfl | omega) only [nI_add, xa_sub, xa_mul, pk_div, nm_mod, xa_shr, xa_and7, xa_and1, xa_and255, xa_by_and, nI_m1, Nat.add_sub_cancel, Nat.reducePow, Nat.zero_add, Nat.add_zero, Nat.reduceAdd, Nat.reduceMul, Nat.reduceSub, xf_same, xq_ff, xq_fo, xf_1, xf_2, xs_1, xs_2, xs_same, xq_so, xj_1, xj_2, xj_same, xq_jo, xq_sa1, xq_same, xq_other, upd_s, oI_n, oI_s, xv_0, xv_1, xv_2, xv_3, xm_p1, xm_p2, xq_fp, xq_fn, List.filter_nil, Nat.reduceBEq, Bool.not_true, Bool.not_false, Bool.and_true, Bool.and_false, Bool.false_and, Bool.true_and, if_true, if_false, Bool.false_eq_true, reduceIte, xc_i, xc_j, xc_r, xc_n, List.nil_append, List.cons_append, Option.toList_some, Option.toList_none, pf_3 hF hpp, xf_40_0 hF, xf_40_3 hF, g3']
        refine by_acp cn_119 lk_7_73 xe_cnt.symm (by first | exact rfl | assumption) (by first | exact rfl | assumption) ⟨by decide, rfl⟩ ?_ ?_ (Nat.le_of_ble_eq_true rfl) ?_
        · omega
        · intro i hi; rfl
        · with_reducible refine xm_go_blk b_X7_findNode_213 k_X7_findNode_213 ?_
          refine by_aload_n rfl ?_
          refine by_aload_n rfl ?_
          refine by_getf cn_119 fl_7_18 (by first | exact rfl | assumption) (by decide) ?_
          refine by_iload_n rfl ?_
          refine by_aload_n rfl ?_
          refine by_getf cn_119 fl_7_9 (by first | exact rfl | assumption) (by decide) ?_
          refine by_iload_n rfl ?_
          simp (disch := first | exact Nat.ne_of_beq_eq_false rfl | exact rfl | omega) only [nI_add, xa_sub, xa_mul, pk_div, nm_mod, xa_shr, xa_and7, xa_and1, xa_and255, xa_by_and, nI_m1, Nat.add_sub_cancel, Nat.reducePow, Nat.zero_add, Nat.add_zero, Nat.reduceAdd, Nat.reduceMul, Nat.reduceSub, xf_same, xq_ff, xq_fo, xf_1, xf_2, xs_1, xs_2, xs_same, xq_so, xj_1, xj_2, xj_same, xq_jo, xq_sa1, xq_same, xq_other, upd_s, oI_n, oI_s, xv_0, xv_1, xv_2, xv_3, xm_p1, xm_p2, xq_fp, xq_fn, List.filter_nil, Nat.reduceBEq, Bool.not_true, Bool.not_false, Bool.and_true, Bool.and_false, Bool.false_and, Bool.true_and, if_true, if_false, Bool.false_eq_true, reduceIte, xc_i, xc_j, xc_r, xc_n, List.nil_append, List.cons_append, Option.toList_some, Option.toList_none, xf_40_0 hF, xf_40_2 hF]
          refine by_inv4 cn_119 lk_7_82 (by rw [xe_cnt]; decide) is_117 np_117 cn_117 (by first | exact rfl | assumption) (Nat.le_of_ble_eq_true rfl) ?_
          refine sp_cmpH (d := d + 1) (A := 43) (s := pC ps n) (B := 41) (q := n) rfl (by decide) (by decide) (show 8 * pC ps n + 8 ≤ 128 by omega) (by decide) (Fr_XF F1 (Fr_sa (S := [44]) (T := []) Fr_rf (by simp)) (by decide +kernel)) rfl (by decide) (show 8 * n + 8 ≤ 3200 by omega) (by decide) (fun h2 f2 q1 q2 => ?_)
          with_reducible refine xm_go_blk b_X7_findNode_227 k_X7_findNode_227 ?_
          refine by_ret ry_119 ?_
          refine hp h2 (Fr_tr (Fr_sa (Fr_sa Fr_rf (by simp)) (by simp)) f2 (by simp) (by simp)) (fun k hk => ?_) (fun m hm => ?_)
          · rw [q1 k hk]
            unfold rtN
            rw [if_neg e11, if_neg e12, z1, z2]
            simp only
            unfold rtC
            refine shC_cg (fun m hm => ?_) (fun m hm => ?_) k hk
            · rw [xq_other (by decide), xq_other (by decide)]; exact lv m hm
            · rw [xq_same]
              by_cases z : m < 8
              · rw [if_pos z, cpy_out (by omega), cpy_in (by omega) (by omega), Nat.sub_zero]
                exact hkd x hx1 m z
              · rw [if_neg z, cpy_in (by omega) (by omega)]
                exact hkd y hy (m - 8) (by omega)
          · rw [q2 m hm, xq_other (by decide), xq_other (by decide)]
    | none =>
      have c2 : 2 < pC ps n := by
        have : ¬ pC ps n ≤ 2 := by rw [o3, z2]; simp
        omega
      have aft : ∀ h1, Fr [44] [] h h1 → (∀ k, k < 8 → h1.1 44 k = nI 0) → xm_go (XE sc) (xm_T (XE sc) (d + 3)) 119 post 125 [(0, .ref 40), (1, .ref pp), (2, .int (nI n)), (3, .int (nI (pC ps n)))] [] h1 := by
        intro h1 f1 hz
        have F1 : XF h1 := Fr_XF hF f1 (by decide +kernel)
        have g2'' : h1.1 (pp + 2) n = nI x := by rw [f1.1 _ (by simp; omega)]; exact g2'
        with_reducible refine xm_go_blk b_X7_findNode_125 k_X7_findNode_125 ?_
        refine by_aload_n rfl ?_
        refine by_getf cn_119 fl_7_9 (by first | exact rfl | assumption) (by decide) ?_
        refine by_bipush cb_8 ?_
        refine by_aload_n rfl ?_
        refine by_getf cn_119 fl_7_79 (by first | exact rfl | assumption | exact ps_0 hpp) (by decide) ?_
        refine by_iload_n rfl ?_
        simp (disch := first | exact Nat.ne_of_beq_eq_false rfl | exact rfl | omega) only [nI_add, xa_sub, xa_mul, pk_div, nm_mod, xa_shr, xa_and7, xa_and1, xa_and255, xa_by_and, nI_m1, Nat.add_sub_cancel, Nat.reducePow, Nat.zero_add, Nat.add_zero, Nat.reduceAdd, Nat.reduceMul, Nat.reduceSub, xf_same, xq_ff, xq_fo, xf_1, xf_2, xs_1, xs_2, xs_same, xq_so, xj_1, xj_2, xj_same, xq_jo, xq_sa1, xq_same, xq_other, upd_s, oI_n, oI_s, pf_2 F1 hpp, xf_40_0 F1, xf_40_3 F1, g2'']
        first | refine by_iald (by first | exact rfl | assumption | exact ps_1 hpp | exact ps_2 hpp | exact ps_3 hpp | exact ps_4 hpp | exact ps_5 hpp | exact ps_6 hpp | exact ps_7 hpp | exact ps_8 hpp | exact ps_9 hpp | exact ps_10 hpp | exact ps_11 hpp | exact ps_15 hpp | exact ps_16 hpp | exact ps_17 hpp | exact ps_18 hpp | exact ps_19 hpp | exact ps_21 hpp | exact ps_22 hpp | exact ps_23 hpp | exact ps_24 hpp) ⟨by omega, by omega⟩ ?_ | refine by_tald rfl rfl ⟨by omega, by omega⟩ ?_
        refine by_imul ?_
        refine by_aload_n rfl ?_
        refine by_getf cn_119 fl_7_21 (by first | exact rfl | assumption) (by decide) ?_
        refine by_bipush cb_8 ?_
        refine by_bipush cb_8 ?_
        simp (disch := first | exact Nat.ne_of_beq_eq_false rfl | exact rfl | omega) only [nI_add, xa_sub, xa_mul, pk_div, nm_mod, xa_shr, xa_and7, xa_and1, xa_and255, xa_by_and, nI_m1, Nat.add_sub_cancel, Nat.reducePow, Nat.zero_add, Nat.add_zero, Nat.reduceAdd, Nat.reduceMul, Nat.reduceSub, xf_same, xq_ff, xq_fo, xf_1, xf_2, xs_1, xs_2, xs_same, xq_so, xj_1, xj_2, xj_same, xq_jo, xq_sa1, xq_same, xq_other, upd_s, oI_n, oI_s, xv_0, xv_1, xv_2, xv_3, xm_p1, xm_p2, xq_fp, xq_fn, List.filter_nil, Nat.reduceBEq, Bool.not_true, Bool.not_false, Bool.and_true, Bool.and_false, Bool.false_and, Bool.true_and, if_true, if_false, Bool.false_eq_true, reduceIte, xc_i, xc_j, xc_r, xc_n, List.nil_append, List.cons_append, Option.toList_some, Option.toList_none, pf_2 F1 hpp, xf_40_0 F1, xf_40_3 F1, g2'']
        refine by_acp cn_119 lk_7_73 xe_cnt.symm (by first | exact rfl | assumption) (by first | exact rfl | assumption) ⟨by decide, rfl⟩ ?_ ?_ (Nat.le_of_ble_eq_true rfl) ?_
        · omega
        · intro i hi; rfl
        · with_reducible refine xm_go_blk b_X7_findNode_149 k_X7_findNode_149 ?_
          refine by_aload_n rfl ?_
          refine by_aload_n rfl ?_
          refine by_getf cn_119 fl_7_18 (by first | exact rfl | assumption) (by decide) ?_
          refine by_iload_n rfl ?_
          refine by_aload_n rfl ?_
          refine by_getf cn_119 fl_7_9 (by first | exact rfl | assumption) (by decide) ?_
          refine by_iload_n rfl ?_
          simp (disch := first | exact Nat.ne_of_beq_eq_false rfl | exact rfl | omega) only [nI_add, xa_sub, xa_mul, pk_div, nm_mod, xa_shr, xa_and7, xa_and1, xa_and255, xa_by_and, nI_m1, Nat.add_sub_cancel, Nat.reducePow, Nat.zero_add, Nat.add_zero, Nat.reduceAdd, Nat.reduceMul, Nat.reduceSub, xf_same, xq_ff, xq_fo, xf_1, xf_2, xs_1, xs_2, xs_same, xq_so, xj_1, xj_2, xj_same, xq_jo, xq_sa1, xq_same, xq_other, upd_s, oI_n, oI_s, xv_0, xv_1, xv_2, xv_3, xm_p1, xm_p2, xq_fp, xq_fn, List.filter_nil, Nat.reduceBEq, Bool.not_true, Bool.not_false, Bool.and_true, Bool.and_false, Bool.false_and, Bool.true_and, if_true, if_false, Bool.false_eq_true, reduceIte, xc_i, xc_j, xc_r, xc_n, List.nil_append, List.cons_append, Option.toList_some, Option.toList_none, xf_40_0 F1, xf_40_2 F1]
          refine by_inv4 cn_119 lk_7_82 (by rw [xe_cnt]; decide) is_117 np_117 cn_117 (by first | exact rfl | assumption) (Nat.le_of_ble_eq_true rfl) ?_
          refine sp_cmpH (d := d + 1) (A := 43) (s := pC ps n) (B := 41) (q := n) rfl (by decide) (by decide) (show 8 * pC ps n + 8 ≤ 128 by omega) (by decide) (Fr_XF F1 (Fr_sa (S := [44]) (T := []) Fr_rf (by simp)) (by decide +kernel)) rfl (by decide) (show 8 * n + 8 ≤ 3200 by omega) (by decide) (fun h2 f2 q1 q2 => ?_)
          with_reducible refine xm_go_blk b_X7_findNode_163 k_X7_findNode_163 ?_
          refine by_goto 227 rfl ?_
          with_reducible refine xm_go_blk b_X7_findNode_227 k_X7_findNode_227 ?_
          refine by_ret ry_119 ?_
          refine hp h2 (Fr_tr (Fr_sa (Fr_mo f1 (by simp) (by simp)) (by simp)) f2 (by simp) (by simp)) (fun k hk => ?_) (fun m hm => ?_)
          · rw [q1 k hk]
            unfold rtN
            rw [if_neg e11, if_neg e12, z1, z2]
            simp only
            unfold rtC
            refine shC_cg (fun m hm => ?_) (fun m hm => ?_) k hk
            · rw [xq_other (by decide), f1.1 43 (by simp)]; exact lv m hm
            · rw [xq_same]
              by_cases z : m < 8
              · rw [if_pos z, cpy_out (by omega)]; exact hz m z
              · rw [if_neg z, cpy_in (by omega) (by omega), f1.1 41 (by simp)]
                exact hkd x hx1 (m - 8) (by omega)
          · rw [q2 m hm, xq_other (by decide), f1.1 41 (by simp)]
      have key : ∀ (j i : Nat) (h1 : xm_H), i + j = 8 → Fr [44] [] h h1 → (∀ k, k < i → h1.1 44 k = nI 0) → xm_go (XE sc) (xm_T (XE sc) (d + 3)) 119 post 104 [(4, .int (nI i)), (0, .ref 40), (1, .ref pp), (2, .int (nI n)), (3, .int (nI (pC ps n)))] [] h1 := by
        intro j
        induction j with
        | zero =>
          intro i h1 hi f1 hz
          have : i = 8 := by omega
          subst this
          with_reducible refine xm_go_blk b_X7_findNode_104 k_X7_findNode_104 ?_
          refine by_iload rfl ?_
          refine by_bipush cb_8 ?_
          refine by_ic_ge 125 rfl ?_
          simp (disch := first | exact Nat.ne_of_beq_eq_false rfl | exact rfl | omega) only [nI_add, xa_sub, xa_mul, pk_div, nm_mod, xa_shr, xa_and7, xa_and1, xa_and255, xa_by_and, nI_m1, Nat.add_sub_cancel, Nat.reducePow, Nat.zero_add, Nat.add_zero, Nat.reduceAdd, Nat.reduceMul, Nat.reduceSub, xf_same, xq_ff, xq_fo, xf_1, xf_2, xs_1, xs_2, xs_same, xq_so, xj_1, xj_2, xj_same, xq_jo, xq_sa1, xq_same, xq_other, upd_s, oI_n, oI_s, xv_0, xv_1, xv_2, xv_3, xm_p1, xm_p2, xq_fp, xq_fn, List.filter_nil, Nat.reduceBEq, Bool.not_true, Bool.not_false, Bool.and_true, Bool.and_false, Bool.false_and, Bool.true_and, if_true, if_false, Bool.false_eq_true, reduceIte, xc_i, xc_j, xc_r, xc_n, List.nil_append, List.cons_append, Option.toList_some, Option.toList_none, nI_ltJ, nI_leJ, nI_eqJ, nI_ltz, nI_gez, nI_gtz, nI_lez, nI_eqz, m1_ltz, m1_gez, true_imp_iff, false_imp_iff, true_and, and_true, ne_eq, not_false_eq_true, not_true_eq_false, Nat.reduceEqDiff, Nat.reduceLT, Nat.reduceLeDiff]
          exact xm_go_wk (by simp [Value.category]) (aft h1 f1 hz)
        | succ j ih =>
          intro i h1 hi f1 hz
          have F1 : XF h1 := Fr_XF hF f1 (by decide +kernel)
          with_reducible refine xm_go_blk b_X7_findNode_104 k_X7_findNode_104 ?_
          refine by_iload rfl ?_
          refine by_bipush cb_8 ?_
          refine by_ic_ge 125 rfl ?_
          simp (disch := first | exact Nat.ne_of_beq_eq_false rfl | exact rfl | omega) only [nI_add, xa_sub, xa_mul, pk_div, nm_mod, xa_shr, xa_and7, xa_and1, xa_and255, xa_by_and, nI_m1, Nat.add_sub_cancel, Nat.reducePow, Nat.zero_add, Nat.add_zero, Nat.reduceAdd, Nat.reduceMul, Nat.reduceSub, xf_same, xq_ff, xq_fo, xf_1, xf_2, xs_1, xs_2, xs_same, xq_so, xj_1, xj_2, xj_same, xq_jo, xq_sa1, xq_same, xq_other, upd_s, oI_n, oI_s, xv_0, xv_1, xv_2, xv_3, xm_p1, xm_p2, xq_fp, xq_fn, List.filter_nil, Nat.reduceBEq, Bool.not_true, Bool.not_false, Bool.and_true, Bool.and_false, Bool.false_and, Bool.true_and, if_true, if_false, Bool.false_eq_true, reduceIte, xc_i, xc_j, xc_r, xc_n, List.nil_append, List.cons_append, Option.toList_some, Option.toList_none, nI_ltJ, nI_leJ, nI_eqJ, nI_ltz, nI_gez, nI_gtz, nI_lez, nI_eqz, m1_ltz, m1_gez, true_imp_iff, false_imp_iff, true_and, and_true, ne_eq, not_false_eq_true, not_true_eq_false, Nat.reduceEqDiff, Nat.reduceLT, Nat.reduceLeDiff, xf_40_3 F1]
          refine ⟨fun c => absurd c (by omega), fun c104 => ?_⟩
          with_reducible refine xm_go_blk b_X7_findNode_111 k_X7_findNode_111 ?_
          refine by_aload_n rfl ?_
          refine by_getf cn_119 fl_7_21 (by first | exact rfl | assumption) (by decide) ?_
          refine by_iload rfl ?_
          refine by_iconst ci_0 ?_
          simp (disch := first | exact Nat.ne_of_beq_eq_false rfl | exact rfl | omega) only [nI_add, xa_sub, xa_mul, pk_div, nm_mod, xa_shr, xa_and7, xa_and1, xa_and255, xa_by_and, nI_m1, Nat.add_sub_cancel, Nat.reducePow, Nat.zero_add, Nat.add_zero, Nat.reduceAdd, Nat.reduceMul, Nat.reduceSub, xf_same, xq_ff, xq_fo, xf_1, xf_2, xs_1, xs_2, xs_same, xq_so, xj_1, xj_2, xj_same, xq_jo, xq_sa1, xq_same, xq_other, upd_s, oI_n, oI_s, xf_40_3 F1]
          refine by_iast (by first | exact rfl | assumption | exact ps_1 hpp | exact ps_2 hpp | exact ps_3 hpp | exact ps_4 hpp | exact ps_5 hpp | exact ps_6 hpp | exact ps_7 hpp | exact ps_8 hpp | exact ps_9 hpp | exact ps_10 hpp | exact ps_11 hpp | exact ps_15 hpp | exact ps_16 hpp | exact ps_17 hpp | exact ps_18 hpp | exact ps_19 hpp | exact ps_21 hpp | exact ps_22 hpp | exact ps_23 hpp | exact ps_24 hpp) ⟨by omega, by omega⟩ ?_
          refine by_iinc (by rw [ml_119]; decide) rfl ci_1 ?_
          refine by_goto 104 rfl ?_
          simp (disch := first | exact Nat.ne_of_beq_eq_false rfl | exact rfl | omega) only [nI_add, xa_sub, xa_mul, pk_div, nm_mod, xa_shr, xa_and7, xa_and1, xa_and255, xa_by_and, nI_m1, Nat.add_sub_cancel, Nat.reducePow, Nat.zero_add, Nat.add_zero, Nat.reduceAdd, Nat.reduceMul, Nat.reduceSub, xf_same, xq_ff, xq_fo, xf_1, xf_2, xs_1, xs_2, xs_same, xq_so, xj_1, xj_2, xj_same, xq_jo, xq_sa1, xq_same, xq_other, upd_s, oI_n, oI_s, xv_0, xv_1, xv_2, xv_3, xm_p1, xm_p2, xq_fp, xq_fn, List.filter_nil, Nat.reduceBEq, Bool.not_true, Bool.not_false, Bool.and_true, Bool.and_false, Bool.false_and, Bool.true_and, if_true, if_false, Bool.false_eq_true, reduceIte, xc_i, xc_j, xc_r, xc_n, List.nil_append, List.cons_append, Option.toList_some, Option.toList_none, xf_40_3 F1]
          refine xm_go_wk (by simp [Value.category]) (ih (i + 1) _ (by omega) (Fr_si f1 (by simp)) (fun k hk => ?_))
          by_cases z : k = i
          · subst z; rw [xs_same, upd_s]
          · rw [xs_same, upd_o (by omega)]; exact hz k (by omega)
      with_reducible refine xm_go_blk b_X7_findNode_0 k_X7_findNode_0 ?_
      refine by_aload_n rfl ?_
      refine by_getf cn_119 fl_7_64 (by first | exact rfl | assumption | exact ps_0 hpp) (by decide) ?_
      refine by_iload_n rfl ?_
      simp (disch := first | exact Nat.ne_of_beq_eq_false rfl | exact rfl | omega) only [nI_add, xa_sub, xa_mul, pk_div, nm_mod, xa_shr, xa_and7, xa_and1, xa_and255, xa_by_and, nI_m1, Nat.add_sub_cancel, Nat.reducePow, Nat.zero_add, Nat.add_zero, Nat.reduceAdd, Nat.reduceMul, Nat.reduceSub, xf_same, xq_ff, xq_fo, xf_1, xf_2, xs_1, xs_2, xs_same, xq_so, xj_1, xj_2, xj_same, xq_jo, xq_sa1, xq_same, xq_other, upd_s, oI_n, oI_s, pf_1 hF hpp, g1, e12', e11']
      first | refine by_iald (by first | exact rfl | assumption | exact ps_1 hpp | exact ps_2 hpp | exact ps_3 hpp | exact ps_4 hpp | exact ps_5 hpp | exact ps_6 hpp | exact ps_7 hpp | exact ps_8 hpp | exact ps_9 hpp | exact ps_10 hpp | exact ps_11 hpp | exact ps_15 hpp | exact ps_16 hpp | exact ps_17 hpp | exact ps_18 hpp | exact ps_19 hpp | exact ps_21 hpp | exact ps_22 hpp | exact ps_23 hpp | exact ps_24 hpp) ⟨by omega, by omega⟩ ?_ | refine by_tald rfl rfl ⟨by omega, by omega⟩ ?_
      refine by_istore_n (by rw [ml_119]; decide) ?_
      refine by_iload_n rfl ?_
      refine by_bipush cb_11 ?_
      refine by_ic_ne 39 rfl ?_
      simp (disch := first | exact Nat.ne_of_beq_eq_false rfl | exact rfl | omega) only [nI_add, xa_sub, xa_mul, pk_div, nm_mod, xa_shr, xa_and7, xa_and1, xa_and255, xa_by_and, nI_m1, Nat.add_sub_cancel, Nat.reducePow, Nat.zero_add, Nat.add_zero, Nat.reduceAdd, Nat.reduceMul, Nat.reduceSub, xf_same, xq_ff, xq_fo, xf_1, xf_2, xs_1, xs_2, xs_same, xq_so, xj_1, xj_2, xj_same, xq_jo, xq_sa1, xq_same, xq_other, upd_s, oI_n, oI_s, xv_0, xv_1, xv_2, xv_3, xm_p1, xm_p2, xq_fp, xq_fn, List.filter_nil, Nat.reduceBEq, Bool.not_true, Bool.not_false, Bool.and_true, Bool.and_false, Bool.false_and, Bool.true_and, if_true, if_false, Bool.false_eq_true, reduceIte, xc_i, xc_j, xc_r, xc_n, List.nil_append, List.cons_append, Option.toList_some, Option.toList_none, nI_ltJ, nI_leJ, nI_eqJ, nI_ltz, nI_gez, nI_gtz, nI_lez, nI_eqz, m1_ltz, m1_gez, true_imp_iff, false_imp_iff, true_and, and_true, ne_eq, not_false_eq_true, not_true_eq_false, Nat.reduceEqDiff, Nat.reduceLT, Nat.reduceLeDiff, pf_1 hF hpp, g1, e12', e11']
      with_reducible refine xm_go_blk b_X7_findNode_39 k_X7_findNode_39 ?_
      refine by_iload_n rfl ?_
      refine by_bipush cb_12 ?_
      refine by_ic_ne 66 rfl ?_
      simp (disch := first | exact Nat.ne_of_beq_eq_false rfl | exact rfl | omega) only [nI_add, xa_sub, xa_mul, pk_div, nm_mod, xa_shr, xa_and7, xa_and1, xa_and255, xa_by_and, nI_m1, Nat.add_sub_cancel, Nat.reducePow, Nat.zero_add, Nat.add_zero, Nat.reduceAdd, Nat.reduceMul, Nat.reduceSub, xf_same, xq_ff, xq_fo, xf_1, xf_2, xs_1, xs_2, xs_same, xq_so, xj_1, xj_2, xj_same, xq_jo, xq_sa1, xq_same, xq_other, upd_s, oI_n, oI_s, xv_0, xv_1, xv_2, xv_3, xm_p1, xm_p2, xq_fp, xq_fn, List.filter_nil, Nat.reduceBEq, Bool.not_true, Bool.not_false, Bool.and_true, Bool.and_false, Bool.false_and, Bool.true_and, if_true, if_false, Bool.false_eq_true, reduceIte, xc_i, xc_j, xc_r, xc_n, List.nil_append, List.cons_append, Option.toList_some, Option.toList_none, nI_ltJ, nI_leJ, nI_eqJ, nI_ltz, nI_gez, nI_gtz, nI_lez, nI_eqz, m1_ltz, m1_gez, true_imp_iff, false_imp_iff, true_and, and_true, ne_eq, not_false_eq_true, not_true_eq_false, Nat.reduceEqDiff, Nat.reduceLT, Nat.reduceLeDiff, pf_1 hF hpp, g1, e12', e11']
      with_reducible refine xm_go_blk b_X7_findNode_66 k_X7_findNode_66 ?_
      refine by_iload_n rfl ?_
      refine by_bipush cb_6 ?_
      refine by_ic_le 96 rfl ?_
      simp (disch := first | exact Nat.ne_of_beq_eq_false rfl | exact rfl | omega) only [nI_add, xa_sub, xa_mul, pk_div, nm_mod, xa_shr, xa_and7, xa_and1, xa_and255, xa_by_and, nI_m1, Nat.add_sub_cancel, Nat.reducePow, Nat.zero_add, Nat.add_zero, Nat.reduceAdd, Nat.reduceMul, Nat.reduceSub, xf_same, xq_ff, xq_fo, xf_1, xf_2, xs_1, xs_2, xs_same, xq_so, xj_1, xj_2, xj_same, xq_jo, xq_sa1, xq_same, xq_other, upd_s, oI_n, oI_s, xv_0, xv_1, xv_2, xv_3, xm_p1, xm_p2, xq_fp, xq_fn, List.filter_nil, Nat.reduceBEq, Bool.not_true, Bool.not_false, Bool.and_true, Bool.and_false, Bool.false_and, Bool.true_and, if_true, if_false, Bool.false_eq_true, reduceIte, xc_i, xc_j, xc_r, xc_n, List.nil_append, List.cons_append, Option.toList_some, Option.toList_none, nI_ltJ, nI_leJ, nI_eqJ, nI_ltz, nI_gez, nI_gtz, nI_lez, nI_eqz, m1_ltz, m1_gez, true_imp_iff, false_imp_iff, true_and, and_true, ne_eq, not_false_eq_true, not_true_eq_false, Nat.reduceEqDiff, Nat.reduceLT, Nat.reduceLeDiff, pf_1 hF hpp, g1, e12', e11']
      refine ⟨fun c66 => ?_, fun c => absurd (by omega) c⟩
      with_reducible refine xm_go_blk b_X7_findNode_96 k_X7_findNode_96 ?_
      refine by_iload_n rfl ?_
      refine by_iconst ci_2 ?_
      refine by_ic_le 166 rfl ?_
      simp (disch := first | exact Nat.ne_of_beq_eq_false rfl | exact rfl | omega) only [nI_add, xa_sub, xa_mul, pk_div, nm_mod, xa_shr, xa_and7, xa_and1, xa_and255, xa_by_and, nI_m1, Nat.add_sub_cancel, Nat.reducePow, Nat.zero_add, Nat.add_zero, Nat.reduceAdd, Nat.reduceMul, Nat.reduceSub, xf_same, xq_ff, xq_fo, xf_1, xf_2, xs_1, xs_2, xs_same, xq_so, xj_1, xj_2, xj_same, xq_jo, xq_sa1, xq_same, xq_other, upd_s, oI_n, oI_s, xv_0, xv_1, xv_2, xv_3, xm_p1, xm_p2, xq_fp, xq_fn, List.filter_nil, Nat.reduceBEq, Bool.not_true, Bool.not_false, Bool.and_true, Bool.and_false, Bool.false_and, Bool.true_and, if_true, if_false, Bool.false_eq_true, reduceIte, xc_i, xc_j, xc_r, xc_n, List.nil_append, List.cons_append, Option.toList_some, Option.toList_none, nI_ltJ, nI_leJ, nI_eqJ, nI_ltz, nI_gez, nI_gtz, nI_lez, nI_eqz, m1_ltz, m1_gez, true_imp_iff, false_imp_iff, true_and, and_true, ne_eq, not_false_eq_true, not_true_eq_false, Nat.reduceEqDiff, Nat.reduceLT, Nat.reduceLeDiff, pf_1 hF hpp, g1, e12', e11']
      refine ⟨fun c => absurd c (by omega), fun c96 => ?_⟩
      with_reducible refine xm_go_blk b_X7_findNode_101 k_X7_findNode_101 ?_
      refine by_iconst ci_0 ?_
      refine by_istore (by rw [ml_119]; decide) ?_
      refine by_nil ?_
      simp (disch := first | exact Nat.ne_of_beq_eq_false rfl | exact rfl | omega) only [nI_add, xa_sub, xa_mul, pk_div, nm_mod, xa_shr, xa_and7, xa_and1, xa_and255, xa_by_and, nI_m1, Nat.add_sub_cancel, Nat.reducePow, Nat.zero_add, Nat.add_zero, Nat.reduceAdd, Nat.reduceMul, Nat.reduceSub, xf_same, xq_ff, xq_fo, xf_1, xf_2, xs_1, xs_2, xs_same, xq_so, xj_1, xj_2, xj_same, xq_jo, xq_sa1, xq_same, xq_other, upd_s, oI_n, oI_s, xv_0, xv_1, xv_2, xv_3, xm_p1, xm_p2, xq_fp, xq_fn, List.filter_nil, Nat.reduceBEq, Bool.not_true, Bool.not_false, Bool.and_true, Bool.and_false, Bool.false_and, Bool.true_and, if_true, if_false, Bool.false_eq_true, reduceIte, xc_i, xc_j, xc_r, xc_n, List.nil_append, List.cons_append, Option.toList_some, Option.toList_none, pf_1 hF hpp, g1, e12', e11']
      exact xm_go_wk (by simp [Value.category]) (key 8 0 h rfl Fr_rf (fun k hk => absurd hk (by omega)))
end RT
