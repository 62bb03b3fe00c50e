/-! ===== CASE: the code behind its first terms ===== -/
section RUL
variable {sc : xm_Sc} {d pp N n : Nat} {cd fi se nu : Nat → Nat} {L : List Nat} {c : Nat} {k l r rt : Nat → Nat} {es : List (Nat × Nat)} {src tgt : Nat → Nat} {h h5 : xm_H} {post : xm_Po}
/-- the state behind CASE's first terms -/
def crS (h h5 : xm_H) (pp n c dd : Nat) (k l r rt5 : Nat → Nat) (es : List (Nat × Nat)) : Prop := Fr (rlR pp) grT h h5 ∧ XF h5 ∧ gr h5 c k l r rt5 es ∧ (h5.1 (pp + 6) n = nI dd) ∧ ∀ m, m ≠ n → h5.1 (pp + 6) m = h.1 (pp + 6) m ∧ h5.1 (pp + 7) m = h.1 (pp + 7) m
/-- the first child's product, and that it is the child's source -/
theorem cr_70 (i3 : ndF h pp N cd fi se nu) (hpp : pp = 52 ∨ pp = 77) (hf1 : fi n < N) (hN : N ≤ 2000) (hcc : c ≤ 14020) (hfv : cd (fi n) ≠ 11) (f6 : h.1 (pp + 6) (fi n) = nI (src (fi n))) (f8 : src (fi n) < c) (hne : fi n ≠ n) {rt5 : Nat → Nat} {s t dd : Nat}
    (hf : Fr (rlR pp) grT h h5) (j5 : XF h5) (hg : gr h5 (c + 5) (cK k c) (cL l c) (cR r c) rt5 es) (o6 : ∀ m, m ≠ n → h5.1 (pp + 6) m = h.1 (pp + 6) m ∧ h5.1 (pp + 7) m = h.1 (pp + 7) m) (n6 : h5.1 (pp + 6) n = nI s ∧ h5.1 (pp + 7) n = nI t)
    (hT : ∀ h7 rt', Fr (rlR pp) grT h h7 → XF h7 → gr h7 (c + 5 + 1) (updN (cK k c) (c + 5) 3) (updN (cL l c) (c + 5) c) (updN (cR r c) (c + 5) (c + 2)) rt' ((c + 5, src (fi n)) :: es) → (∀ m, m ≠ n → h7.1 (pp + 6) m = h.1 (pp + 6) m ∧ h7.1 (pp + 7) m = h.1 (pp + 7) m) → (h7.1 (pp + 6) n = nI s ∧ h7.1 (pp + 7) n = nI t) → xm_go (XE sc) (xm_T (XE sc) (d + 2)) 40 post 105 ((9, .int (nI 1)) :: crLv pp n (fi n) (se n) c dd) [] h7)
    (hB : ∀ h7, Fr (rlR pp) grT h h7 → XF h7 → fnA h7 (c + 5 + 1) (updN (cK k c) (c + 5) 3) (updN (cL l c) (c + 5) c) (updN (cR r c) (c + 5) (c + 2)) → (∀ V, ty_vok V → ty_all (c + 5 + 1) (updN (cK k c) (c + 5) 3) (updN (cL l c) (c + 5) c) (updN (cR r c) (c + 5) (c + 2)) V → ty_pd ((c + 5, src (fi n)) :: es) V → False) → xm_go (XE sc) (xm_T (XE sc) (d + 2)) 40 post 105 ((9, .int (nI 0)) :: crLv pp n (fi n) (se n) c dd) [] h7) :
    xm_go (XE sc) (xm_T (XE sc) (d + 2)) 40 post 70 (crLv pp n (fi n) (se n) c dd) [] h5 := by
  obtain ⟨x1, x2, _⟩ := i3 (fi n) hf1
  have m1 : h5.1 (pp + 1) = h.1 (pp + 1) := hf.1 _ (by simp [rlR] <;> omega)
  have e0 : (cd (fi n) = 11) = False := eq_false hfv
  unfold crLv
  with_reducible refine xm_go_blk b_X1_caseRule_70 k_X1_caseRule_70 ?_
  refine by_iconst ci_1 ?_
  refine by_istore (by rw [ml_40]; decide) ?_
  refine by_aload_n rfl ?_
  refine by_getf cn_40 fl_1_53 (by first | exact rfl | assumption | exact ps_0 hpp) (by decide) ?_
  refine by_iload_n rfl ?_
  simp (disch := first | exact Nat.ne_of_beq_eq_false rfl | exact rfl | omega) only [nI_add, xa_sub, xa_mul, pk_div, nm_mod, xa_shr, xa_and7, xa_and1, xa_and255, xa_by_and, nI_m1, Nat.add_sub_cancel, Nat.reducePow, Nat.zero_add, Nat.add_zero, Nat.reduceAdd, Nat.reduceMul, Nat.reduceSub, xf_same, xq_ff, xq_fo, xf_1, xf_2, xs_1, xs_2, xs_same, xq_so, xj_1, xj_2, xj_same, xq_jo, xq_sa1, xq_same, xq_other, upd_s, oI_n, oI_s, pf_1 j5 hpp, m1, x1, e0]
  first | refine by_iald (by first | exact rfl | assumption | exact ps_1 hpp | exact ps_2 hpp | exact ps_3 hpp | exact ps_4 hpp | exact ps_5 hpp | exact ps_6 hpp | exact ps_7 hpp | exact ps_8 hpp | exact ps_9 hpp | exact ps_10 hpp | exact ps_11 hpp | exact ps_15 hpp | exact ps_16 hpp | exact ps_17 hpp | exact ps_18 hpp | exact ps_19 hpp | exact ps_21 hpp | exact ps_22 hpp | exact ps_23 hpp | exact ps_24 hpp) ⟨by omega, by omega⟩ ?_ | refine by_tald rfl rfl ⟨by omega, by omega⟩ ?_
  refine by_bipush cb_11 ?_
  refine by_ic_eq 105 rfl ?_
  simp (disch := first | exact Nat.ne_of_beq_eq_false rfl | exact rfl | omega) only [nI_add, xa_sub, xa_mul, pk_div, nm_mod, xa_shr, xa_and7, xa_and1, xa_and255, xa_by_and, nI_m1, Nat.add_sub_cancel, Nat.reducePow, Nat.zero_add, Nat.add_zero, Nat.reduceAdd, Nat.reduceMul, Nat.reduceSub, xf_same, xq_ff, xq_fo, xf_1, xf_2, xs_1, xs_2, xs_same, xq_so, xj_1, xj_2, xj_same, xq_jo, xq_sa1, xq_same, xq_other, upd_s, oI_n, oI_s, xv_0, xv_1, xv_2, xv_3, xm_p1, xm_p2, xq_fp, xq_fn, List.filter_nil, Nat.reduceBEq, Bool.not_true, Bool.not_false, Bool.and_true, Bool.and_false, Bool.false_and, Bool.true_and, if_true, if_false, Bool.false_eq_true, reduceIte, xc_i, xc_j, xc_r, xc_n, List.nil_append, List.cons_append, Option.toList_some, Option.toList_none, nI_ltJ, nI_leJ, nI_eqJ, nI_ltz, nI_gez, nI_gtz, nI_lez, nI_eqz, m1_ltz, m1_gez, true_imp_iff, false_imp_iff, true_and, and_true, ne_eq, not_false_eq_true, not_true_eq_false, Nat.reduceEqDiff, Nat.reduceLT, Nat.reduceLeDiff, pf_1 j5 hpp, m1, x1, e0]
  with_reducible refine xm_go_blk b_X1_caseRule_84 k_X1_caseRule_84 ?_
  refine by_aload_n rfl ?_
  refine by_aload_n rfl ?_
  refine by_iconst ci_2 ?_
  refine by_iload rfl ?_
  refine by_iload rfl ?_
  refine by_inv3 cn_40 lk_1_88 (by rw [xe_cnt]; decide) is_50 np_50 cn_50 (by first | exact rfl | assumption) (Nat.le_of_ble_eq_true rfl) ?_
  refine sp_term (kk := 3) (ll := c) (rr := c + 2) j5 hg (by omega) (by decide) rfl (fun _ => ⟨by omega, by omega⟩) ⟨by omega, by omega⟩ (fun h6 g6 e6 => ?_)
  have j6 : XF h6 := Fr_XF j5 g6 rl_fin
  have q6 : h6.1 (pp + 6) (fi n) = nI (src (fi n)) := by rw [(gr_pp hpp g6).1, (o6 _ hne).1, f6]
  have hf6 : Fr (rlR pp) grT h h6 := Fr_tr hf (Fr_gr g6) (fun _ q => q) (fun _ q => q)
  have o7 : ∀ h7, Fr [19, 21] [(15, 7)] h6 h7 → h7.1 (pp + 6) = h5.1 (pp + 6) ∧ h7.1 (pp + 7) = h5.1 (pp + 7) := fun h7 g7 => ⟨(g7.1 (pp + 6) (by simp <;> omega)).trans (gr_pp hpp g6).1, (g7.1 (pp + 7) (by simp <;> omega)).trans (gr_pp hpp g6).2⟩
  have hf7 : ∀ h7, Fr [19, 21] [(15, 7)] h6 h7 → Fr (rlR pp) grT h h7 := fun h7 g7 => Fr_tr hf6 g7 (by simp [rlR]) (by simp [grT])
  with_reducible refine xm_go_blk b_X1_caseRule_94 k_X1_caseRule_94 ?_
  refine by_aload_n rfl ?_
  refine by_getf cn_40 fl_1_56 (by first | exact rfl | assumption | exact ps_0 hpp) (by decide) ?_
  refine by_iload_n rfl ?_
  simp (disch := first | exact Nat.ne_of_beq_eq_false rfl | exact rfl | omega) only [nI_add, xa_sub, xa_mul, pk_div, nm_mod, xa_shr, xa_and7, xa_and1, xa_and255, xa_by_and, nI_m1, Nat.add_sub_cancel, Nat.reducePow, Nat.zero_add, Nat.add_zero, Nat.reduceAdd, Nat.reduceMul, Nat.reduceSub, xf_same, xq_ff, xq_fo, xf_1, xf_2, xs_1, xs_2, xs_same, xq_so, xj_1, xj_2, xj_same, xq_jo, xq_sa1, xq_same, xq_other, upd_s, oI_n, oI_s, pf_6 j6 hpp, q6]
  first | refine by_iald (by first | exact rfl | assumption | exact ps_1 hpp | exact ps_2 hpp | exact ps_3 hpp | exact ps_4 hpp | exact ps_5 hpp | exact ps_6 hpp | exact ps_7 hpp | exact ps_8 hpp | exact ps_9 hpp | exact ps_10 hpp | exact ps_11 hpp | exact ps_15 hpp | exact ps_16 hpp | exact ps_17 hpp | exact ps_18 hpp | exact ps_19 hpp | exact ps_21 hpp | exact ps_22 hpp | exact ps_23 hpp | exact ps_24 hpp) ⟨by omega, by omega⟩ ?_ | refine by_tald rfl rfl ⟨by omega, by omega⟩ ?_
  simp (disch := first | exact Nat.ne_of_beq_eq_false rfl | exact rfl | omega) only [nI_add, xa_sub, xa_mul, pk_div, nm_mod, xa_shr, xa_and7, xa_and1, xa_and255, xa_by_and, nI_m1, Nat.add_sub_cancel, Nat.reducePow, Nat.zero_add, Nat.add_zero, Nat.reduceAdd, Nat.reduceMul, Nat.reduceSub, xf_same, xq_ff, xq_fo, xf_1, xf_2, xs_1, xs_2, xs_same, xq_so, xj_1, xj_2, xj_same, xq_jo, xq_sa1, xq_same, xq_other, upd_s, oI_n, oI_s, xv_0, xv_1, xv_2, xv_3, xm_p1, xm_p2, xq_fp, xq_fn, List.filter_nil, Nat.reduceBEq, Bool.not_true, Bool.not_false, Bool.and_true, Bool.and_false, Bool.false_and, Bool.true_and, if_true, if_false, Bool.false_eq_true, reduceIte, xc_i, xc_j, xc_r, xc_n, List.nil_append, List.cons_append, Option.toList_some, Option.toList_none, pf_6 j6 hpp, q6]
  refine by_inv2 cn_40 lk_1_80 (by rw [xe_cnt]; decide) is_51 np_51 cn_51 (by first | exact rfl | assumption) (Nat.le_of_ble_eq_true rfl) ?_
  refine sp_uniG j6 e6 (by omega) (by omega) (by omega) (fun h7 rt' g7 e7 => ?_) (fun h7 g7 hbad => ?_)
  · with_reducible refine xm_go_blk b_X1_caseRule_103 k_X1_caseRule_103 ?_
    refine by_istore (by rw [ml_40]; decide) ?_
    refine by_nil ?_
    simp (disch := first | exact Nat.ne_of_beq_eq_false rfl | exact rfl | omega) only [nI_add, xa_sub, xa_mul, pk_div, nm_mod, xa_shr, xa_and7, xa_and1, xa_and255, xa_by_and, nI_m1, Nat.add_sub_cancel, Nat.reducePow, Nat.zero_add, Nat.add_zero, Nat.reduceAdd, Nat.reduceMul, Nat.reduceSub, xf_same, xq_ff, xq_fo, xf_1, xf_2, xs_1, xs_2, xs_same, xq_so, xj_1, xj_2, xj_same, xq_jo, xq_sa1, xq_same, xq_other, upd_s, oI_n, oI_s, xv_0, xv_1, xv_2, xv_3, xm_p1, xm_p2, xq_fp, xq_fn, List.filter_nil, Nat.reduceBEq, Bool.not_true, Bool.not_false, Bool.and_true, Bool.and_false, Bool.false_and, Bool.true_and, if_true, if_false, Bool.false_eq_true, reduceIte, xc_i, xc_j, xc_r, xc_n, List.nil_append, List.cons_append, Option.toList_some, Option.toList_none]
    refine hT h7 rt' (hf7 h7 g7) (Fr_XF j6 g7 (by decide +kernel)) e7 (fun m hm => ?_) ?_
    · rw [(o7 h7 g7).1, (o7 h7 g7).2]; exact o6 m hm
    · rw [(o7 h7 g7).1, (o7 h7 g7).2]; exact n6
  · with_reducible refine xm_go_blk b_X1_caseRule_103 k_X1_caseRule_103 ?_
    refine by_istore (by rw [ml_40]; decide) ?_
    refine by_nil ?_
    simp (disch := first | exact Nat.ne_of_beq_eq_false rfl | exact rfl | omega) only [nI_add, xa_sub, xa_mul, pk_div, nm_mod, xa_shr, xa_and7, xa_and1, xa_and255, xa_by_and, nI_m1, Nat.add_sub_cancel, Nat.reducePow, Nat.zero_add, Nat.add_zero, Nat.reduceAdd, Nat.reduceMul, Nat.reduceSub, xf_same, xq_ff, xq_fo, xf_1, xf_2, xs_1, xs_2, xs_same, xq_so, xj_1, xj_2, xj_same, xq_jo, xq_sa1, xq_same, xq_other, upd_s, oI_n, oI_s, xv_0, xv_1, xv_2, xv_3, xm_p1, xm_p2, xq_fp, xq_fn, List.filter_nil, Nat.reduceBEq, Bool.not_true, Bool.not_false, Bool.and_true, Bool.and_false, Bool.false_and, Bool.true_and, if_true, if_false, Bool.false_eq_true, reduceIte, xc_i, xc_j, xc_r, xc_n, List.nil_append, List.cons_append, Option.toList_some, Option.toList_none]
    exact hB h7 (hf7 h7 g7) (Fr_XF j6 g7 (by decide +kernel)) (fnA_fr e6.2.1 g7 (by simp) (by simp) (by simp)) hbad
end RUL
