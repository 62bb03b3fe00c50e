/-! ===== the class: Roots: typeWord, up to its word ===== -/
def twQ (h : xm_H) (tr : Nat → Ty) (n : Nat) : Prop := ∀ y, y < n → ∀ k, k < 8 → h.1 42 (8 * y + k) = tyRt (tr y) k
/-- the roots of types, if they are known -/
def twI (h : xm_H) (cn : Nat) (tr : Nat → Ty) : Prop := h.2.2 40 6 = .int (nI 0) ∨ (h.2.2 40 6 = .int (nI 1) ∧ twQ h tr cn)
section RT
variable {sc : xm_Sc} {d pp cn : Nat} {tr : Nat → Ty} {K L R : Nat → Nat} {h : xm_H} {post : xm_Po}
theorem tw_0 {n k : Nat} (hF : XF h) (hpp : pp = 52 ∨ pp = 77) (hT : tyT h pp cn tr K L R) (hcn : cn ≤ 2826) (hl : lvI h) (hI : twI h cn tr)
    (hgo : ∀ h', Fr [42, 43, 44] [(40, 4), (40, 6)] h h' → lvI h' → h'.2.2 40 6 = .int (nI 1) → twQ h' tr cn → xm_go (XE sc) (xm_T (XE sc) (d + 4)) 125 post 55 [(0, .ref 40), (1, .ref pp), (2, .int (nI n)), (3, .int (nI k))] [] h') : xm_go (XE sc) (xm_T (XE sc) (d + 4)) 125 post 0 [(0, .ref 40), (1, .ref pp), (2, .int (nI n)), (3, .int (nI k))] [] h := by
  rcases hI with e | ⟨e, q2⟩
  · with_reducible refine xm_go_blk b_X7_typeWord_0 k_X7_typeWord_0 ?_
    refine by_aload_n rfl ?_
    refine by_getf cn_125 fl_7_28 (by first | exact rfl | assumption) (by decide) ?_
    simp (disch := first | exact Nat.ne_of_beq_eq_false rfl | exact rfl | omega) only [nI_add, xa_sub, xa_mul, pk_div, nm_mod, xa_shr, xa_and7, xa_and1, xa_and255, xa_by_and, nI_m1, Nat.add_sub_cancel, Nat.reducePow, Nat.zero_add, Nat.add_zero, Nat.reduceAdd, Nat.reduceMul, Nat.reduceSub, xf_same, xq_ff, xq_fo, xf_1, xf_2, xs_1, xs_2, xs_same, xq_so, xj_1, xj_2, xj_same, xq_jo, xq_sa1, xq_same, xq_other, upd_s, oI_n, oI_s, e]
    refine by_if_ne 55 rfl ?_
    simp (disch := first | exact Nat.ne_of_beq_eq_false rfl | exact rfl | omega) only [nI_add, xa_sub, xa_mul, pk_div, nm_mod, xa_shr, xa_and7, xa_and1, xa_and255, xa_by_and, nI_m1, Nat.add_sub_cancel, Nat.reducePow, Nat.zero_add, Nat.add_zero, Nat.reduceAdd, Nat.reduceMul, Nat.reduceSub, xf_same, xq_ff, xq_fo, xf_1, xf_2, xs_1, xs_2, xs_same, xq_so, xj_1, xj_2, xj_same, xq_jo, xq_sa1, xq_same, xq_other, upd_s, oI_n, oI_s, xv_0, xv_1, xv_2, xv_3, xm_p1, xm_p2, xq_fp, xq_fn, List.filter_nil, Nat.reduceBEq, Bool.not_true, Bool.not_false, Bool.and_true, Bool.and_false, Bool.false_and, Bool.true_and, if_true, if_false, Bool.false_eq_true, reduceIte, xc_i, xc_j, xc_r, xc_n, List.nil_append, List.cons_append, Option.toList_some, Option.toList_none, nI_ltJ, nI_leJ, nI_eqJ, nI_ltz, nI_gez, nI_gtz, nI_lez, nI_eqz, m1_ltz, m1_gez, true_imp_iff, false_imp_iff, true_and, and_true, ne_eq, not_false_eq_true, not_true_eq_false, Nat.reduceEqDiff, Nat.reduceLT, Nat.reduceLeDiff, e]
    with_reducible refine xm_go_blk b_X7_typeWord_7 k_X7_typeWord_7 ?_
    refine by_aload_n rfl ?_
    refine by_inv0 cn_125 lk_7_31 (by rw [xe_cnt]; decide) is_118 np_118 cn_118 (by first | exact rfl | assumption) (Nat.le_of_ble_eq_true rfl) ?_
    refine sp_findLeaves (d := d) hF hl (fun h1 f1 e1 v1 => ?_)
    have key : ∀ (j i : Nat) (h2 : xm_H), i + j = cn → Fr [42, 44] [] h1 h2 → twQ h2 tr i → xm_go (XE sc) (xm_T (XE sc) (d + 4)) 125 post 14 [(4, .int (nI i)), (0, .ref 40), (1, .ref pp), (2, .int (nI n)), (3, .int (nI k))] [] h2 := by
      intro j
      induction j with
      | zero =>
        intro i h2 hi f2 r2
        have : i = cn := by omega
        subst this
        have f12 : Fr [42, 43, 44] [(40, 4)] h h2 := Fr_tr (Fr_mo f1 (by simp) (by simp)) f2 (by simp) (by simp)
        have F2 : XF h2 := Fr_XF hF f12 (by decide +kernel)
        have e0 : h2.2.2 (pp + 14) 0 = .int (nI i) := by rw [f12.2.2 _ _ (by simp <;> omega)]; exact hT.1
        have f3 : Fr [42, 43, 44] [(40, 4), (40, 6)] h (xm_sf h2 40 6 (.int (nI 1))) := Fr_sf (Fr_mo f12 (by simp) (by simp)) (by simp)
        have e4 : (xm_sf h2 40 6 (.int (nI 1))).2.2 40 4 = .int (nI 1) := by
          have : h2.2.2 40 4 = .int (nI 1) := by rw [f2.2.2 _ _ (by simp)]; exact e1
          simpa [xm_sf, updV] using this
        with_reducible refine xm_go_blk b_X7_typeWord_14 k_X7_typeWord_14 ?_
        refine by_iload rfl ?_
        refine by_aload_n rfl ?_
        refine by_getf cn_125 fl_7_46 (by first | exact rfl | assumption | exact ps_0 hpp) (by decide) ?_
        simp (disch := first | exact Nat.ne_of_beq_eq_false rfl | exact rfl | omega) only [nI_add, xa_sub, xa_mul, pk_div, nm_mod, xa_shr, xa_and7, xa_and1, xa_and255, xa_by_and, nI_m1, Nat.add_sub_cancel, Nat.reducePow, Nat.zero_add, Nat.add_zero, Nat.reduceAdd, Nat.reduceMul, Nat.reduceSub, xf_same, xq_ff, xq_fo, xf_1, xf_2, xs_1, xs_2, xs_same, xq_so, xj_1, xj_2, xj_same, xq_jo, xq_sa1, xq_same, xq_other, upd_s, oI_n, oI_s, pf_13 F2 hpp, e0]
        refine by_getf cn_125 fl_7_50 (by first | exact rfl | assumption | exact ps_14 hpp) (by decide) ?_
        simp (disch := first | exact Nat.ne_of_beq_eq_false rfl | exact rfl | omega) only [nI_add, xa_sub, xa_mul, pk_div, nm_mod, xa_shr, xa_and7, xa_and1, xa_and255, xa_by_and, nI_m1, Nat.add_sub_cancel, Nat.reducePow, Nat.zero_add, Nat.add_zero, Nat.reduceAdd, Nat.reduceMul, Nat.reduceSub, xf_same, xq_ff, xq_fo, xf_1, xf_2, xs_1, xs_2, xs_same, xq_so, xj_1, xj_2, xj_same, xq_jo, xq_sa1, xq_same, xq_other, upd_s, oI_n, oI_s, pf_13 F2 hpp, e0]
        refine by_ic_ge 50 rfl ?_
        simp (disch := first | exact Nat.ne_of_beq_eq_false rfl | exact rfl | omega) only [nI_add, xa_sub, xa_mul, pk_div, nm_mod, xa_shr, xa_and7, xa_and1, xa_and255, xa_by_and, nI_m1, Nat.add_sub_cancel, Nat.reducePow, Nat.zero_add, Nat.add_zero, Nat.reduceAdd, Nat.reduceMul, Nat.reduceSub, xf_same, xq_ff, xq_fo, xf_1, xf_2, xs_1, xs_2, xs_same, xq_so, xj_1, xj_2, xj_same, xq_jo, xq_sa1, xq_same, xq_other, upd_s, oI_n, oI_s, xv_0, xv_1, xv_2, xv_3, xm_p1, xm_p2, xq_fp, xq_fn, List.filter_nil, Nat.reduceBEq, Bool.not_true, Bool.not_false, Bool.and_true, Bool.and_false, Bool.false_and, Bool.true_and, if_true, if_false, Bool.false_eq_true, reduceIte, xc_i, xc_j, xc_r, xc_n, List.nil_append, List.cons_append, Option.toList_some, Option.toList_none, nI_ltJ, nI_leJ, nI_eqJ, nI_ltz, nI_gez, nI_gtz, nI_lez, nI_eqz, m1_ltz, m1_gez, true_imp_iff, false_imp_iff, true_and, and_true, ne_eq, not_false_eq_true, not_true_eq_false, Nat.reduceEqDiff, Nat.reduceLT, Nat.reduceLeDiff, pf_13 F2 hpp, e0]
        refine ⟨fun c14 => ?_, fun c => absurd (by omega) c⟩
        with_reducible refine xm_go_blk b_X7_typeWord_50 k_X7_typeWord_50 ?_
        refine by_aload_n rfl ?_
        refine by_iconst ci_1 ?_
        refine by_putf cn_125 fl_7_28 (by first | exact rfl | assumption) (by decide) nf_7_6 ft_7_6 (by first | rfl | assumption) (by first | rfl | assumption) ?_
        refine by_nil ?_
        refine xm_go_wk (by simp [Value.category]) (hgo _ f3 (Or.inr ⟨e4, fun i hi k hk => ?_⟩) (by simp [xm_sf, updV]) r2)
        show h2.1 43 (8 * i + k) = _
        rw [f2.1 43 (by simp)]; exact v1 i hi k hk
      | succ j ih =>
        intro i h2 hi f2 r2
        have f12 : Fr [42, 43, 44] [(40, 4)] h h2 := Fr_tr (Fr_mo f1 (by simp) (by simp)) f2 (by simp) (by simp)
        have F2 : XF h2 := Fr_XF hF f12 (by decide +kernel)
        have hT2 : tyT h2 pp cn tr K L R := tyT_fr hT f12 (by simp <;> omega) (by simp [taR] <;> omega)
        with_reducible refine xm_go_blk b_X7_typeWord_14 k_X7_typeWord_14 ?_
        refine by_iload rfl ?_
        refine by_aload_n rfl ?_
        refine by_getf cn_125 fl_7_46 (by first | exact rfl | assumption | exact ps_0 hpp) (by decide) ?_
        simp (disch := first | exact Nat.ne_of_beq_eq_false rfl | exact rfl | omega) only [nI_add, xa_sub, xa_mul, pk_div, nm_mod, xa_shr, xa_and7, xa_and1, xa_and255, xa_by_and, nI_m1, Nat.add_sub_cancel, Nat.reducePow, Nat.zero_add, Nat.add_zero, Nat.reduceAdd, Nat.reduceMul, Nat.reduceSub, xf_same, xq_ff, xq_fo, xf_1, xf_2, xs_1, xs_2, xs_same, xq_so, xj_1, xj_2, xj_same, xq_jo, xq_sa1, xq_same, xq_other, upd_s, oI_n, oI_s, pf_13 F2 hpp, hT2.1]
        refine by_getf cn_125 fl_7_50 (by first | exact rfl | assumption | exact ps_14 hpp) (by decide) ?_
        simp (disch := first | exact Nat.ne_of_beq_eq_false rfl | exact rfl | omega) only [nI_add, xa_sub, xa_mul, pk_div, nm_mod, xa_shr, xa_and7, xa_and1, xa_and255, xa_by_and, nI_m1, Nat.add_sub_cancel, Nat.reducePow, Nat.zero_add, Nat.add_zero, Nat.reduceAdd, Nat.reduceMul, Nat.reduceSub, xf_same, xq_ff, xq_fo, xf_1, xf_2, xs_1, xs_2, xs_same, xq_so, xj_1, xj_2, xj_same, xq_jo, xq_sa1, xq_same, xq_other, upd_s, oI_n, oI_s, pf_13 F2 hpp, hT2.1]
        refine by_ic_ge 50 rfl ?_
        simp (disch := first | exact Nat.ne_of_beq_eq_false rfl | exact rfl | omega) only [nI_add, xa_sub, xa_mul, pk_div, nm_mod, xa_shr, xa_and7, xa_and1, xa_and255, xa_by_and, nI_m1, Nat.add_sub_cancel, Nat.reducePow, Nat.zero_add, Nat.add_zero, Nat.reduceAdd, Nat.reduceMul, Nat.reduceSub, xf_same, xq_ff, xq_fo, xf_1, xf_2, xs_1, xs_2, xs_same, xq_so, xj_1, xj_2, xj_same, xq_jo, xq_sa1, xq_same, xq_other, upd_s, oI_n, oI_s, xv_0, xv_1, xv_2, xv_3, xm_p1, xm_p2, xq_fp, xq_fn, List.filter_nil, Nat.reduceBEq, Bool.not_true, Bool.not_false, Bool.and_true, Bool.and_false, Bool.false_and, Bool.true_and, if_true, if_false, Bool.false_eq_true, reduceIte, xc_i, xc_j, xc_r, xc_n, List.nil_append, List.cons_append, Option.toList_some, Option.toList_none, nI_ltJ, nI_leJ, nI_eqJ, nI_ltz, nI_gez, nI_gtz, nI_lez, nI_eqz, m1_ltz, m1_gez, true_imp_iff, false_imp_iff, true_and, and_true, ne_eq, not_false_eq_true, not_true_eq_false, Nat.reduceEqDiff, Nat.reduceLT, Nat.reduceLeDiff, pf_13 F2 hpp, hT2.1]
        refine ⟨fun c => absurd c (by omega), fun c14 => ?_⟩
        with_reducible refine xm_go_blk b_X7_typeWord_26 k_X7_typeWord_26 ?_
        refine by_iload rfl ?_
        refine by_sipush cs_2832 ?_
        refine by_ic_ge 50 rfl ?_
        simp (disch := first | exact Nat.ne_of_beq_eq_false rfl | exact rfl | omega) only [nI_add, xa_sub, xa_mul, pk_div, nm_mod, xa_shr, xa_and7, xa_and1, xa_and255, xa_by_and, nI_m1, Nat.add_sub_cancel, Nat.reducePow, Nat.zero_add, Nat.add_zero, Nat.reduceAdd, Nat.reduceMul, Nat.reduceSub, xf_same, xq_ff, xq_fo, xf_1, xf_2, xs_1, xs_2, xs_same, xq_so, xj_1, xj_2, xj_same, xq_jo, xq_sa1, xq_same, xq_other, upd_s, oI_n, oI_s, xv_0, xv_1, xv_2, xv_3, xm_p1, xm_p2, xq_fp, xq_fn, List.filter_nil, Nat.reduceBEq, Bool.not_true, Bool.not_false, Bool.and_true, Bool.and_false, Bool.false_and, Bool.true_and, if_true, if_false, Bool.false_eq_true, reduceIte, xc_i, xc_j, xc_r, xc_n, List.nil_append, List.cons_append, Option.toList_some, Option.toList_none, nI_ltJ, nI_leJ, nI_eqJ, nI_ltz, nI_gez, nI_gtz, nI_lez, nI_eqz, m1_ltz, m1_gez, true_imp_iff, false_imp_iff, true_and, and_true, ne_eq, not_false_eq_true, not_true_eq_false, Nat.reduceEqDiff, Nat.reduceLT, Nat.reduceLeDiff, pf_13 F2 hpp, hT2.1]
        refine ⟨fun c => absurd c (by omega), fun c26 => ?_⟩
        with_reducible refine xm_go_blk b_X7_typeWord_34 k_X7_typeWord_34 ?_
        refine by_aload_n rfl ?_
        refine by_aload_n rfl ?_
        refine by_getf cn_125 fl_7_46 (by first | exact rfl | assumption | exact ps_0 hpp) (by decide) ?_
        refine by_iload rfl ?_
        simp (disch := first | exact Nat.ne_of_beq_eq_false rfl | exact rfl | omega) only [nI_add, xa_sub, xa_mul, pk_div, nm_mod, xa_shr, xa_and7, xa_and1, xa_and255, xa_by_and, nI_m1, Nat.add_sub_cancel, Nat.reducePow, Nat.zero_add, Nat.add_zero, Nat.reduceAdd, Nat.reduceMul, Nat.reduceSub, xf_same, xq_ff, xq_fo, xf_1, xf_2, xs_1, xs_2, xs_same, xq_so, xj_1, xj_2, xj_same, xq_jo, xq_sa1, xq_same, xq_other, upd_s, oI_n, oI_s, xv_0, xv_1, xv_2, xv_3, xm_p1, xm_p2, xq_fp, xq_fn, List.filter_nil, Nat.reduceBEq, Bool.not_true, Bool.not_false, Bool.and_true, Bool.and_false, Bool.false_and, Bool.true_and, if_true, if_false, Bool.false_eq_true, reduceIte, xc_i, xc_j, xc_r, xc_n, List.nil_append, List.cons_append, Option.toList_some, Option.toList_none, pf_13 F2 hpp, hT2.1]
        refine by_inv2 cn_125 lk_7_53 (by rw [xe_cnt]; decide) is_120 np_120 cn_120 (by first | exact rfl | assumption) (Nat.le_of_ble_eq_true rfl) ?_
        refine sp_findType (d := d + 1) F2 hpp hT2 (by omega) (by omega) (fun m hm k hk => by rw [f2.1 43 (by simp)]; exact v1 m hm k hk) r2 (fun h3 f3 s1 s2 => ?_)
        have := ih (i + 1) h3 (by omega) (Fr_tr f2 f3 (fun _ z => z) (fun _ z => z)) (fun m hm k hk => by
          by_cases z : m = i
          · subst z; exact s1 k hk
          · rw [s2 _ (by omega)]; exact r2 m (by omega) k hk)
        with_reducible refine xm_go_blk b_X7_typeWord_44 k_X7_typeWord_44 ?_
        refine by_iinc (by rw [ml_125]; decide) rfl ci_1 ?_
        refine by_goto 14 rfl ?_
        simp (disch := first | exact Nat.ne_of_beq_eq_false rfl | exact rfl | omega) only [nI_add, xa_sub, xa_mul, pk_div, nm_mod, xa_shr, xa_and7, xa_and1, xa_and255, xa_by_and, nI_m1, Nat.add_sub_cancel, Nat.reducePow, Nat.zero_add, Nat.add_zero, Nat.reduceAdd, Nat.reduceMul, Nat.reduceSub, xf_same, xq_ff, xq_fo, xf_1, xf_2, xs_1, xs_2, xs_same, xq_so, xj_1, xj_2, xj_same, xq_jo, xq_sa1, xq_same, xq_other, upd_s, oI_n, oI_s, xv_0, xv_1, xv_2, xv_3, xm_p1, xm_p2, xq_fp, xq_fn, List.filter_nil, Nat.reduceBEq, Bool.not_true, Bool.not_false, Bool.and_true, Bool.and_false, Bool.false_and, Bool.true_and, if_true, if_false, Bool.false_eq_true, reduceIte, xc_i, xc_j, xc_r, xc_n, List.nil_append, List.cons_append, Option.toList_some, Option.toList_none]
        exact xm_go_wk (by simp [Value.category]) this
    with_reducible refine xm_go_blk b_X7_typeWord_11 k_X7_typeWord_11 ?_
    refine by_iconst ci_0 ?_
    refine by_istore (by rw [ml_125]; decide) ?_
    refine by_nil ?_
    simp (disch := first | exact Nat.ne_of_beq_eq_false rfl | exact rfl | omega) only [nI_add, xa_sub, xa_mul, pk_div, nm_mod, xa_shr, xa_and7, xa_and1, xa_and255, xa_by_and, nI_m1, Nat.add_sub_cancel, Nat.reducePow, Nat.zero_add, Nat.add_zero, Nat.reduceAdd, Nat.reduceMul, Nat.reduceSub, xf_same, xq_ff, xq_fo, xf_1, xf_2, xs_1, xs_2, xs_same, xq_so, xj_1, xj_2, xj_same, xq_jo, xq_sa1, xq_same, xq_other, upd_s, oI_n, oI_s, xv_0, xv_1, xv_2, xv_3, xm_p1, xm_p2, xq_fp, xq_fn, List.filter_nil, Nat.reduceBEq, Bool.not_true, Bool.not_false, Bool.and_true, Bool.and_false, Bool.false_and, Bool.true_and, if_true, if_false, Bool.false_eq_true, reduceIte, xc_i, xc_j, xc_r, xc_n, List.nil_append, List.cons_append, Option.toList_some, Option.toList_none]
    exact xm_go_wk (by simp [Value.category]) (key cn 0 h1 (by omega) Fr_rf (fun m hm => absurd hm (by omega)))
  · with_reducible refine xm_go_blk b_X7_typeWord_0 k_X7_typeWord_0 ?_
    refine by_aload_n rfl ?_
    refine by_getf cn_125 fl_7_28 (by first | exact rfl | assumption) (by decide) ?_
    simp (disch := first | exact Nat.ne_of_beq_eq_false rfl | exact rfl | omega) only [nI_add, xa_sub, xa_mul, pk_div, nm_mod, xa_shr, xa_and7, xa_and1, xa_and255, xa_by_and, nI_m1, Nat.add_sub_cancel, Nat.reducePow, Nat.zero_add, Nat.add_zero, Nat.reduceAdd, Nat.reduceMul, Nat.reduceSub, xf_same, xq_ff, xq_fo, xf_1, xf_2, xs_1, xs_2, xs_same, xq_so, xj_1, xj_2, xj_same, xq_jo, xq_sa1, xq_same, xq_other, upd_s, oI_n, oI_s, e]
    refine by_if_ne 55 rfl ?_
    simp (disch := first | exact Nat.ne_of_beq_eq_false rfl | exact rfl | omega) only [nI_add, xa_sub, xa_mul, pk_div, nm_mod, xa_shr, xa_and7, xa_and1, xa_and255, xa_by_and, nI_m1, Nat.add_sub_cancel, Nat.reducePow, Nat.zero_add, Nat.add_zero, Nat.reduceAdd, Nat.reduceMul, Nat.reduceSub, xf_same, xq_ff, xq_fo, xf_1, xf_2, xs_1, xs_2, xs_same, xq_so, xj_1, xj_2, xj_same, xq_jo, xq_sa1, xq_same, xq_other, upd_s, oI_n, oI_s, xv_0, xv_1, xv_2, xv_3, xm_p1, xm_p2, xq_fp, xq_fn, List.filter_nil, Nat.reduceBEq, Bool.not_true, Bool.not_false, Bool.and_true, Bool.and_false, Bool.false_and, Bool.true_and, if_true, if_false, Bool.false_eq_true, reduceIte, xc_i, xc_j, xc_r, xc_n, List.nil_append, List.cons_append, Option.toList_some, Option.toList_none, nI_ltJ, nI_leJ, nI_eqJ, nI_ltz, nI_gez, nI_gtz, nI_lez, nI_eqz, m1_ltz, m1_gez, true_imp_iff, false_imp_iff, true_and, and_true, ne_eq, not_false_eq_true, not_true_eq_false, Nat.reduceEqDiff, Nat.reduceLT, Nat.reduceLeDiff, e]
    exact xm_go_wk (by simp [Value.category]) (hgo h Fr_rf hl e q2)
end RT
