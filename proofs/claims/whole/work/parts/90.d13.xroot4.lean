/-! ===== the class: Roots: nodeWord, up to its word ===== -/
/-- the roots of nodes, if they are known -/
def nwI (h : xm_H) (ps : List pr_D) : Prop := h.2.2 40 5 = .int (nI 0) ∨ (h.2.2 40 5 = .int (nI 1) ∧ ∃ Q, rtA ps Q ps.length ∧ ∀ m, m < ps.length → ∀ k, k < 8 → h.1 41 (8 * m + k) = Q m k)
def nwP (h : xm_H) (pp : Nat) (ps : List pr_D) (hx : Nat → Nat) : Prop := psOK ps ∧ ps.length ≤ 400 ∧ h.2.2 pp 0 = .int (nI ps.length) ∧ ∀ n, n < ps.length → h.1 (pp + 1) n = nI (pC ps n) ∧ h.1 (pp + 2) n = oI (p1 ps n) ∧ h.1 (pp + 3) n = oI (p2 ps n) ∧ (pC ps n ≠ 10 → pC ps n ≠ 11 → h.1 (pp + 4) n = nI (pNu ps n)) ∧ (pC ps n = 11 → h.1 (pp + 4) n = nI (8 * hx n) ∧ hx n < 255 ∧ ∀ k, k < 8 → h.1 (pp + 11) (8 * hx n + k) = nI (pHw ps n k))
section RT
variable {sc : xm_Sc} {d pp : Nat} {ps : List pr_D} {hx : Nat → Nat} {h : xm_H} {post : xm_Po}
theorem nw_0 {n k : Nat} (hF : XF h) (hpp : pp = 52 ∨ pp = 77) (hP : nwP h pp ps hx) (hl : lvI h) (hI : nwI h ps)
    (hgo : ∀ h' Q, Fr [41, 43, 44] [(40, 4), (40, 5)] h h' → lvI h' → h'.2.2 40 5 = .int (nI 1) → rtA ps Q ps.length → (∀ m, m < ps.length → ∀ k, k < 8 → h'.1 41 (8 * m + k) = Q m k) → xm_go (XE sc) (xm_T (XE sc) (d + 4)) 123 post 41 [(0, .ref 40), (1, .ref pp), (2, .int (nI n)), (3, .int (nI k))] [] h') : xm_go (XE sc) (xm_T (XE sc) (d + 4)) 123 post 0 [(0, .ref 40), (1, .ref pp), (2, .int (nI n)), (3, .int (nI k))] [] h := by
  obtain ⟨a1, a2, a3, a4⟩ := hP
  rcases hI with e | ⟨e, Q, q1, q2⟩
  · with_reducible refine xm_go_blk b_X7_nodeWord_0 k_X7_nodeWord_0 ?_
    refine by_aload_n rfl ?_
    refine by_getf cn_123 fl_7_24 (by first | exact rfl | assumption) (by decide) ?_
    simp (disch := first | exact Nat.ne_of_beq_eq_false rfl | exact rfl | omega) only [nI_add, xa_sub, xa_mul, pk_div, nm_mod, xa_shr, xa_and7, xa_and1, xa_and255, xa_by_and, nI_m1, Nat.add_sub_cancel, Nat.reducePow, Nat.zero_add, Nat.add_zero, Nat.reduceAdd, Nat.reduceMul, Nat.reduceSub, xf_same, xq_ff, xq_fo, xf_1, xf_2, xs_1, xs_2, xs_same, xq_so, xj_1, xj_2, xj_same, xq_jo, xq_sa1, xq_same, xq_other, upd_s, oI_n, oI_s, e]
    refine by_if_ne 41 rfl ?_
    simp (disch := first | exact Nat.ne_of_beq_eq_false rfl | exact rfl | omega) only [nI_add, xa_sub, xa_mul, pk_div, nm_mod, xa_shr, xa_and7, xa_and1, xa_and255, xa_by_and, nI_m1, Nat.add_sub_cancel, Nat.reducePow, Nat.zero_add, Nat.add_zero, Nat.reduceAdd, Nat.reduceMul, Nat.reduceSub, xf_same, xq_ff, xq_fo, xf_1, xf_2, xs_1, xs_2, xs_same, xq_so, xj_1, xj_2, xj_same, xq_jo, xq_sa1, xq_same, xq_other, upd_s, oI_n, oI_s, xv_0, xv_1, xv_2, xv_3, xm_p1, xm_p2, xq_fp, xq_fn, List.filter_nil, Nat.reduceBEq, Bool.not_true, Bool.not_false, Bool.and_true, Bool.and_false, Bool.false_and, Bool.true_and, if_true, if_false, Bool.false_eq_true, reduceIte, xc_i, xc_j, xc_r, xc_n, List.nil_append, List.cons_append, Option.toList_some, Option.toList_none, nI_ltJ, nI_leJ, nI_eqJ, nI_ltz, nI_gez, nI_gtz, nI_lez, nI_eqz, m1_ltz, m1_gez, true_imp_iff, false_imp_iff, true_and, and_true, ne_eq, not_false_eq_true, not_true_eq_false, Nat.reduceEqDiff, Nat.reduceLT, Nat.reduceLeDiff, e]
    with_reducible refine xm_go_blk b_X7_nodeWord_7 k_X7_nodeWord_7 ?_
    refine by_aload_n rfl ?_
    refine by_inv0 cn_123 lk_7_31 (by rw [xe_cnt]; decide) is_118 np_118 cn_118 (by first | exact rfl | assumption) (Nat.le_of_ble_eq_true rfl) ?_
    refine sp_findLeaves (d := d) hF hl (fun h1 f1 e1 v1 => ?_)
    have key : ∀ (j i : Nat) (h2 : xm_H) (Q : Nat → Nat → Int32), i + j = ps.length → Fr [41, 44] [] h1 h2 → rtA ps Q i → (∀ m, m < i → ∀ k, k < 8 → h2.1 41 (8 * m + k) = Q m k) → xm_go (XE sc) (xm_T (XE sc) (d + 4)) 123 post 14 [(4, .int (nI i)), (0, .ref 40), (1, .ref pp), (2, .int (nI n)), (3, .int (nI k))] [] h2 := by
      intro j
      induction j with
      | zero =>
        intro i h2 Q hi f2 r1 r2
        have : i = ps.length := by omega
        subst this
        have e0 : h2.2.2 pp 0 = .int (nI ps.length) := by rw [f2.2.2 _ _ (by simp), f1.2.2 _ _ (by simp)]; exact a3
        have f3 : Fr [41, 43, 44] [(40, 4), (40, 5)] h (xm_sf h2 40 5 (.int (nI 1))) := Fr_sf (Fr_tr (Fr_mo f1 (by simp) (by simp)) f2 (by simp) (by simp)) (by simp)
        have e4 : (xm_sf h2 40 5 (.int (nI 1))).2.2 40 4 = .int (nI 1) := by
          have : h2.2.2 40 4 = .int (nI 1) := by rw [f2.2.2 _ _ (by simp)]; exact e1
          simpa [xm_sf, updV] using this
        with_reducible refine xm_go_blk b_X7_nodeWord_14 k_X7_nodeWord_14 ?_
        refine by_iload rfl ?_
        refine by_aload_n rfl ?_
        refine by_getf cn_123 fl_7_34 (by first | exact rfl | assumption | exact ps_0 hpp) (by decide) ?_
        simp (disch := first | exact Nat.ne_of_beq_eq_false rfl | exact rfl | omega) only [nI_add, xa_sub, xa_mul, pk_div, nm_mod, xa_shr, xa_and7, xa_and1, xa_and255, xa_by_and, nI_m1, Nat.add_sub_cancel, Nat.reducePow, Nat.zero_add, Nat.add_zero, Nat.reduceAdd, Nat.reduceMul, Nat.reduceSub, xf_same, xq_ff, xq_fo, xf_1, xf_2, xs_1, xs_2, xs_same, xq_so, xj_1, xj_2, xj_same, xq_jo, xq_sa1, xq_same, xq_other, upd_s, oI_n, oI_s, e0]
        refine by_ic_ge 36 rfl ?_
        simp (disch := first | exact Nat.ne_of_beq_eq_false rfl | exact rfl | omega) only [nI_add, xa_sub, xa_mul, pk_div, nm_mod, xa_shr, xa_and7, xa_and1, xa_and255, xa_by_and, nI_m1, Nat.add_sub_cancel, Nat.reducePow, Nat.zero_add, Nat.add_zero, Nat.reduceAdd, Nat.reduceMul, Nat.reduceSub, xf_same, xq_ff, xq_fo, xf_1, xf_2, xs_1, xs_2, xs_same, xq_so, xj_1, xj_2, xj_same, xq_jo, xq_sa1, xq_same, xq_other, upd_s, oI_n, oI_s, xv_0, xv_1, xv_2, xv_3, xm_p1, xm_p2, xq_fp, xq_fn, List.filter_nil, Nat.reduceBEq, Bool.not_true, Bool.not_false, Bool.and_true, Bool.and_false, Bool.false_and, Bool.true_and, if_true, if_false, Bool.false_eq_true, reduceIte, xc_i, xc_j, xc_r, xc_n, List.nil_append, List.cons_append, Option.toList_some, Option.toList_none, nI_ltJ, nI_leJ, nI_eqJ, nI_ltz, nI_gez, nI_gtz, nI_lez, nI_eqz, m1_ltz, m1_gez, true_imp_iff, false_imp_iff, true_and, and_true, ne_eq, not_false_eq_true, not_true_eq_false, Nat.reduceEqDiff, Nat.reduceLT, Nat.reduceLeDiff, e0]
        refine ⟨fun c14 => ?_, fun c => absurd (by omega) c⟩
        with_reducible refine xm_go_blk b_X7_nodeWord_36 k_X7_nodeWord_36 ?_
        refine by_aload_n rfl ?_
        refine by_iconst ci_1 ?_
        refine by_putf cn_123 fl_7_24 (by first | exact rfl | assumption) (by decide) nf_7_5 ft_7_5 (by first | rfl | assumption) (by first | rfl | assumption) ?_
        refine by_nil ?_
        refine xm_go_wk (by simp [Value.category]) (hgo _ Q f3 (Or.inr ⟨e4, fun i hi k hk => ?_⟩) (by simp [xm_sf, updV]) r1 r2)
        show h2.1 43 (8 * i + k) = _
        rw [f2.1 43 (by simp)]; exact v1 i hi k hk
      | succ j ih =>
        intro i h2 Q hi f2 r1 r2
        have f12 : Fr [41, 43, 44] [(40, 4)] h h2 := Fr_tr (Fr_mo f1 (by simp) (by simp)) f2 (by simp) (by simp)
        have F2 : XF h2 := Fr_XF hF f12 (by decide +kernel)
        have e0 : h2.2.2 pp 0 = .int (nI ps.length) := by rw [f12.2.2 _ _ (by simp)]; exact a3
        obtain ⟨b1, b2, b3, b4, b5⟩ := a4 i (by omega)
        have rr : ∀ q, 1 ≤ q → q ≤ 11 → h2.1 (pp + q) = h.1 (pp + q) := fun q _ _ => f12.1 _ (by simp; omega)
        with_reducible refine xm_go_blk b_X7_nodeWord_14 k_X7_nodeWord_14 ?_
        refine by_iload rfl ?_
        refine by_aload_n rfl ?_
        refine by_getf cn_123 fl_7_34 (by first | exact rfl | assumption | exact ps_0 hpp) (by decide) ?_
        simp (disch := first | exact Nat.ne_of_beq_eq_false rfl | exact rfl | omega) only [nI_add, xa_sub, xa_mul, pk_div, nm_mod, xa_shr, xa_and7, xa_and1, xa_and255, xa_by_and, nI_m1, Nat.add_sub_cancel, Nat.reducePow, Nat.zero_add, Nat.add_zero, Nat.reduceAdd, Nat.reduceMul, Nat.reduceSub, xf_same, xq_ff, xq_fo, xf_1, xf_2, xs_1, xs_2, xs_same, xq_so, xj_1, xj_2, xj_same, xq_jo, xq_sa1, xq_same, xq_other, upd_s, oI_n, oI_s, e0]
        refine by_ic_ge 36 rfl ?_
        simp (disch := first | exact Nat.ne_of_beq_eq_false rfl | exact rfl | omega) only [nI_add, xa_sub, xa_mul, pk_div, nm_mod, xa_shr, xa_and7, xa_and1, xa_and255, xa_by_and, nI_m1, Nat.add_sub_cancel, Nat.reducePow, Nat.zero_add, Nat.add_zero, Nat.reduceAdd, Nat.reduceMul, Nat.reduceSub, xf_same, xq_ff, xq_fo, xf_1, xf_2, xs_1, xs_2, xs_same, xq_so, xj_1, xj_2, xj_same, xq_jo, xq_sa1, xq_same, xq_other, upd_s, oI_n, oI_s, xv_0, xv_1, xv_2, xv_3, xm_p1, xm_p2, xq_fp, xq_fn, List.filter_nil, Nat.reduceBEq, Bool.not_true, Bool.not_false, Bool.and_true, Bool.and_false, Bool.false_and, Bool.true_and, if_true, if_false, Bool.false_eq_true, reduceIte, xc_i, xc_j, xc_r, xc_n, List.nil_append, List.cons_append, Option.toList_some, Option.toList_none, nI_ltJ, nI_leJ, nI_eqJ, nI_ltz, nI_gez, nI_gtz, nI_lez, nI_eqz, m1_ltz, m1_gez, true_imp_iff, false_imp_iff, true_and, and_true, ne_eq, not_false_eq_true, not_true_eq_false, Nat.reduceEqDiff, Nat.reduceLT, Nat.reduceLeDiff, e0]
        refine ⟨fun c => absurd c (by omega), fun c14 => ?_⟩
        with_reducible refine xm_go_blk b_X7_nodeWord_23 k_X7_nodeWord_23 ?_
        refine by_aload_n rfl ?_
        refine by_aload_n rfl ?_
        refine by_iload rfl ?_
        refine by_inv2 cn_123 lk_7_40 (by rw [xe_cnt]; decide) is_119 np_119 cn_119 (by first | exact rfl | assumption) (Nat.le_of_ble_eq_true rfl) ?_
        refine sp_findNode (d := d) (ps := ps) (hx := hx i) (Q := Q) F2 hpp a1 a2 (by omega) (by rw [rr 1 (by decide) (by decide)]; exact b1) (by rw [rr 2 (by decide) (by decide)]; exact b2) (by rw [rr 3 (by decide) (by decide)]; exact b3) (by rw [rr 4 (by decide) (by decide)]; exact b4) (by rw [rr 4 (by decide) (by decide), rr 11 (by decide) (by decide)]; exact b5) (fun m hm k hk => by rw [f2.1 43 (by simp)]; exact v1 m hm k hk) r2 (fun h3 f3 s1 s2 => ?_)
        have := ih (i + 1) h3 (fun m => if m = i then rtN ps Q i else Q m) (by omega) (Fr_tr f2 f3 (fun _ z => z) (fun _ z => z)) (rtA_upd a1 (by omega) r1) (fun m hm k hk => by
          by_cases z : m = i
          · subst z; rw [if_pos rfl]; exact s1 k hk
          · rw [if_neg z, s2 _ (by omega)]; exact r2 m (by omega) k hk)
        with_reducible refine xm_go_blk b_X7_nodeWord_30 k_X7_nodeWord_30 ?_
        refine by_iinc (by rw [ml_123]; decide) rfl ci_1 ?_
        refine by_goto 14 rfl ?_
        simp (disch := first | exact Nat.ne_of_beq_eq_false rfl | exact rfl | omega) only [nI_add, xa_sub, xa_mul, pk_div, nm_mod, xa_shr, xa_and7, xa_and1, xa_and255, xa_by_and, nI_m1, Nat.add_sub_cancel, Nat.reducePow, Nat.zero_add, Nat.add_zero, Nat.reduceAdd, Nat.reduceMul, Nat.reduceSub, xf_same, xq_ff, xq_fo, xf_1, xf_2, xs_1, xs_2, xs_same, xq_so, xj_1, xj_2, xj_same, xq_jo, xq_sa1, xq_same, xq_other, upd_s, oI_n, oI_s, xv_0, xv_1, xv_2, xv_3, xm_p1, xm_p2, xq_fp, xq_fn, List.filter_nil, Nat.reduceBEq, Bool.not_true, Bool.not_false, Bool.and_true, Bool.and_false, Bool.false_and, Bool.true_and, if_true, if_false, Bool.false_eq_true, reduceIte, xc_i, xc_j, xc_r, xc_n, List.nil_append, List.cons_append, Option.toList_some, Option.toList_none]
        exact xm_go_wk (by simp [Value.category]) this
    with_reducible refine xm_go_blk b_X7_nodeWord_11 k_X7_nodeWord_11 ?_
    refine by_iconst ci_0 ?_
    refine by_istore (by rw [ml_123]; decide) ?_
    refine by_nil ?_
    simp (disch := first | exact Nat.ne_of_beq_eq_false rfl | exact rfl | omega) only [nI_add, xa_sub, xa_mul, pk_div, nm_mod, xa_shr, xa_and7, xa_and1, xa_and255, xa_by_and, nI_m1, Nat.add_sub_cancel, Nat.reducePow, Nat.zero_add, Nat.add_zero, Nat.reduceAdd, Nat.reduceMul, Nat.reduceSub, xf_same, xq_ff, xq_fo, xf_1, xf_2, xs_1, xs_2, xs_same, xq_so, xj_1, xj_2, xj_same, xq_jo, xq_sa1, xq_same, xq_other, upd_s, oI_n, oI_s, xv_0, xv_1, xv_2, xv_3, xm_p1, xm_p2, xq_fp, xq_fn, List.filter_nil, Nat.reduceBEq, Bool.not_true, Bool.not_false, Bool.and_true, Bool.and_false, Bool.false_and, Bool.true_and, if_true, if_false, Bool.false_eq_true, reduceIte, xc_i, xc_j, xc_r, xc_n, List.nil_append, List.cons_append, Option.toList_some, Option.toList_none]
    exact xm_go_wk (by simp [Value.category]) (key ps.length 0 h1 (fun _ _ => 0) (by omega) Fr_rf (fun m hm => absurd hm (by omega)) (fun m hm => absurd hm (by omega)))
  · with_reducible refine xm_go_blk b_X7_nodeWord_0 k_X7_nodeWord_0 ?_
    refine by_aload_n rfl ?_
    refine by_getf cn_123 fl_7_24 (by first | exact rfl | assumption) (by decide) ?_
    simp (disch := first | exact Nat.ne_of_beq_eq_false rfl | exact rfl | omega) only [nI_add, xa_sub, xa_mul, pk_div, nm_mod, xa_shr, xa_and7, xa_and1, xa_and255, xa_by_and, nI_m1, Nat.add_sub_cancel, Nat.reducePow, Nat.zero_add, Nat.add_zero, Nat.reduceAdd, Nat.reduceMul, Nat.reduceSub, xf_same, xq_ff, xq_fo, xf_1, xf_2, xs_1, xs_2, xs_same, xq_so, xj_1, xj_2, xj_same, xq_jo, xq_sa1, xq_same, xq_other, upd_s, oI_n, oI_s, e]
    refine by_if_ne 41 rfl ?_
    simp (disch := first | exact Nat.ne_of_beq_eq_false rfl | exact rfl | omega) only [nI_add, xa_sub, xa_mul, pk_div, nm_mod, xa_shr, xa_and7, xa_and1, xa_and255, xa_by_and, nI_m1, Nat.add_sub_cancel, Nat.reducePow, Nat.zero_add, Nat.add_zero, Nat.reduceAdd, Nat.reduceMul, Nat.reduceSub, xf_same, xq_ff, xq_fo, xf_1, xf_2, xs_1, xs_2, xs_same, xq_so, xj_1, xj_2, xj_same, xq_jo, xq_sa1, xq_same, xq_other, upd_s, oI_n, oI_s, xv_0, xv_1, xv_2, xv_3, xm_p1, xm_p2, xq_fp, xq_fn, List.filter_nil, Nat.reduceBEq, Bool.not_true, Bool.not_false, Bool.and_true, Bool.and_false, Bool.false_and, Bool.true_and, if_true, if_false, Bool.false_eq_true, reduceIte, xc_i, xc_j, xc_r, xc_n, List.nil_append, List.cons_append, Option.toList_some, Option.toList_none, nI_ltJ, nI_leJ, nI_eqJ, nI_ltz, nI_gez, nI_gtz, nI_lez, nI_eqz, m1_ltz, m1_gez, true_imp_iff, false_imp_iff, true_and, and_true, ne_eq, not_false_eq_true, not_true_eq_false, Nat.reduceEqDiff, Nat.reduceLT, Nat.reduceLeDiff, e]
    exact xm_go_wk (by simp [Value.category]) (hgo h Q Fr_rf hl e q1 q2)
end RT
