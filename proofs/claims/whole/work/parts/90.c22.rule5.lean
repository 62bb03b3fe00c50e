/-! ===== Finder: CASE ===== -/
def cK (k : Nat → Nat) (c : Nat) : Nat → Nat := updN (updN (updN (updN (updN k c 0) (c + 1) 0) (c + 2) 0) (c + 3) 2) (c + 4) 3
def cL (l : Nat → Nat) (c : Nat) : Nat → Nat := updN (updN (updN (updN (updN l c 0) (c + 1) 0) (c + 2) 0) (c + 3) c) (c + 4) (c + 3)
def cR (r : Nat → Nat) (c : Nat) : Nat → Nat := updN (updN (updN (updN (updN r c 0) (c + 1) 0) (c + 2) 0) (c + 3) (c + 1)) (c + 4) (c + 2)
theorem cr_tx {c : Nat} {k l r : Nat → Nat} : tx c (c + 5) k l r (cK k c) (cL l c) (cR r c) := tx_tr (tx_tr (tx_tr (tx_tr updN_tx updN_tx) updN_tx) updN_tx) updN_tx
section RUL
variable {sc : xm_Sc} {d pp N n : Nat} {cd fi se nu : Nat → Nat} {L : List Nat} {c : Nat} {k l r rt : Nat → Nat} {es : List (Nat × Nat)} {src tgt : Nat → Nat} {h : xm_H} {post : xm_Po}
def crLv (pp n s t c dd : Nat) : xm_L := [(8, .int (nI dd)), (7, .int (nI (c + 2))), (6, .int (nI (c + 1))), (5, .int (nI c)), (0, .ref 15), (1, .ref pp), (2, .int (nI n)), (3, .int (nI s)), (4, .int (nI t))]
/-- opens, the sum, the product; the node's source and target are told -/
theorem cr_pre (hI : tsI h pp N cd fi se nu L c k l r rt es src tgt) (hn : n < N) (hl : L.length < 2000) (hfi : fi n ∈ L) (hse : se n ∈ L) (hvv : cd (fi n) ≠ 11 ∨ cd (se n) ≠ 11)
    (hgo : ∀ h5 rt5, Fr (rlR pp) grT h h5 → XF h5 → gr h5 (c + 5) (cK k c) (cL l c) (cR r c) rt5 es → h5.1 (pp + 6) n = nI (c + 4) ∧ h5.1 (pp + 7) n = nI (if cd (fi n) = 11 then tgt (se n) else tgt (fi n)) → (∀ m, m ≠ n → h5.1 (pp + 6) m = h.1 (pp + 6) m ∧ h5.1 (pp + 7) m = h.1 (pp + 7) m) → xm_go (XE sc) (xm_T (XE sc) (d + 2)) 40 post 70 (crLv pp n (fi n) (se n) c (if cd (fi n) = 11 then tgt (se n) else tgt (fi n))) [] h5) :
    xm_T (XE sc) (d + 3) 40 [.ref 15, .ref pp, .int (nI n), .int (nI (fi n)), .int (nI (se n))] h post := by
  obtain ⟨i1, hpp, i3, i4, i5, i6, i7, i8, i9, i10, i11⟩ := hI
  obtain ⟨f1, f2⟩ := i6 (fi n) hfi
  obtain ⟨p1, p2⟩ := i6 (se n) hse
  obtain ⟨x1, x2, _⟩ := i3 (fi n) f1
  refine xq_in rfl ?_
  simp only [xq_a0, xq_aI, xq_aJ, xq_aR, Nat.reduceAdd]
  with_reducible refine xm_go_blk b_X1_caseRule_0 k_X1_caseRule_0 ?_
  refine by_aload_n rfl ?_
  refine by_inv0 cn_40 lk_1_92 (by rw [xe_cnt]; decide) is_43 np_43 cn_43 (by first | exact rfl | assumption) (Nat.le_of_ble_eq_true rfl) ?_
  refine sp_open i1 i4 (by omega) (fun h1 g1 e1 => ?_)
  have j1 : XF h1 := Fr_XF i1 g1 rl_fin
  with_reducible refine xm_go_blk b_X1_caseRule_4 k_X1_caseRule_4 ?_
  refine by_istore (by rw [ml_40]; decide) ?_
  refine by_aload_n rfl ?_
  simp (disch := first | exact Nat.ne_of_beq_eq_false rfl | omega) only [nI_add, xa_sub, xa_mul, pk_div, nm_mod, xa_shr, xa_and7, xa_and1, xa_and255, xa_by_and, nI_m1, Nat.add_sub_cancel, Nat.reducePow, Nat.zero_add, Nat.add_zero, Nat.reduceAdd, Nat.reduceMul, Nat.reduceSub, xf_same, xq_ff, xq_fo, xf_1, xf_2, xs_1, xs_2, xs_same, xq_so, xj_1, xj_2, xj_same, xq_jo, xq_sa1, xq_same, xq_other, upd_s, oI_n, oI_s, xv_0, xv_1, xv_2, xv_3, xm_p1, xm_p2, List.filter_cons, List.filter_nil, Nat.reduceBEq, Bool.not_true, Bool.not_false, Bool.and_true, Bool.and_false, Bool.false_and, Bool.true_and, if_true, if_false, Bool.false_eq_true, reduceIte, xc_i, xc_j, xc_r, xc_n, List.nil_append, List.cons_append, Option.toList_some, Option.toList_none]
  refine by_inv0 cn_40 lk_1_92 (by rw [xe_cnt]; decide) is_43 np_43 cn_43 (by first | exact rfl | assumption) (Nat.le_of_ble_eq_true rfl) ?_
  refine sp_open j1 e1 (by omega) (fun h2 g2 e2 => ?_)
  have j2 : XF h2 := Fr_XF j1 g2 rl_fin
  with_reducible refine xm_go_blk b_X1_caseRule_10 k_X1_caseRule_10 ?_
  refine by_istore (by rw [ml_40]; decide) ?_
  refine by_aload_n rfl ?_
  simp (disch := first | exact Nat.ne_of_beq_eq_false rfl | omega) only [nI_add, xa_sub, xa_mul, pk_div, nm_mod, xa_shr, xa_and7, xa_and1, xa_and255, xa_by_and, nI_m1, Nat.add_sub_cancel, Nat.reducePow, Nat.zero_add, Nat.add_zero, Nat.reduceAdd, Nat.reduceMul, Nat.reduceSub, xf_same, xq_ff, xq_fo, xf_1, xf_2, xs_1, xs_2, xs_same, xq_so, xj_1, xj_2, xj_same, xq_jo, xq_sa1, xq_same, xq_other, upd_s, oI_n, oI_s, xv_0, xv_1, xv_2, xv_3, xm_p1, xm_p2, List.filter_cons, List.filter_nil, Nat.reduceBEq, Bool.not_true, Bool.not_false, Bool.and_true, Bool.and_false, Bool.false_and, Bool.true_and, if_true, if_false, Bool.false_eq_true, reduceIte, xc_i, xc_j, xc_r, xc_n, List.nil_append, List.cons_append, Option.toList_some, Option.toList_none]
  refine by_inv0 cn_40 lk_1_92 (by rw [xe_cnt]; decide) is_43 np_43 cn_43 (by first | exact rfl | assumption) (Nat.le_of_ble_eq_true rfl) ?_
  refine sp_open j2 e2 (by omega) (fun h3 g3 e3 => ?_)
  have j3 : XF h3 := Fr_XF j2 g3 rl_fin
  have g03 := Fr_g2 (Fr_g2 g1 g2) g3
  have m1 : h3.1 (pp + 1) = h.1 (pp + 1) := g03.1 _ (by simp [grR] <;> omega)
  have m7 := (gr_pp hpp g03).2
  have hcont : ∀ dd, dd = (if cd (fi n) = 11 then tgt (se n) else tgt (fi n)) → dd < c → xm_go (XE sc) (xm_T (XE sc) (d + 2)) 40 post 45 [(7, .int (nI (c + 2))), (6, .int (nI (c + 1))), (5, .int (nI c)), (0, .ref 15), (1, .ref pp), (2, .int (nI n)), (3, .int (nI (fi n))), (4, .int (nI (se n)))] [.int (nI dd)] h3 := by
    intro dd hdd hdc
    with_reducible refine xm_go_blk b_X1_caseRule_45 k_X1_caseRule_45 ?_
    refine by_istore (by rw [ml_40]; decide) ?_
    refine by_aload_n rfl ?_
    refine by_iload_n rfl ?_
    refine by_aload_n rfl ?_
    refine by_iconst ci_2 ?_
    refine by_aload_n rfl ?_
    refine by_iconst ci_1 ?_
    refine by_iload rfl ?_
    refine by_iload rfl ?_
    simp (disch := first | exact Nat.ne_of_beq_eq_false rfl | omega) only [nI_add, xa_sub, xa_mul, pk_div, nm_mod, xa_shr, xa_and7, xa_and1, xa_and255, xa_by_and, nI_m1, Nat.add_sub_cancel, Nat.reducePow, Nat.zero_add, Nat.add_zero, Nat.reduceAdd, Nat.reduceMul, Nat.reduceSub, xf_same, xq_ff, xq_fo, xf_1, xf_2, xs_1, xs_2, xs_same, xq_so, xj_1, xj_2, xj_same, xq_jo, xq_sa1, xq_same, xq_other, upd_s, oI_n, oI_s, xv_0, xv_1, xv_2, xv_3, xm_p1, xm_p2, List.filter_cons, List.filter_nil, Nat.reduceBEq, Bool.not_true, Bool.not_false, Bool.and_true, Bool.and_false, Bool.false_and, Bool.true_and, if_true, if_false, Bool.false_eq_true, reduceIte, xc_i, xc_j, xc_r, xc_n, List.nil_append, List.cons_append, Option.toList_some, Option.toList_none]
    refine by_inv3 cn_40 lk_1_88 (by rw [xe_cnt]; decide) is_50 np_50 cn_50 (by first | exact rfl | assumption) (Nat.le_of_ble_eq_true rfl) ?_
    refine sp_term (kk := 2) (ll := c) (rr := c + 1) j3 e3 (by omega) (by decide) rfl (fun _ => ⟨by omega, by omega⟩) ⟨by omega, by omega⟩ (fun h4 g4 e4 => ?_)
    have j4 : XF h4 := Fr_XF j3 g4 rl_fin
    with_reducible refine xm_go_blk b_X1_caseRule_60 k_X1_caseRule_60 ?_
    refine by_iload rfl ?_
    refine by_inv3 cn_40 lk_1_88 (by rw [xe_cnt]; decide) is_50 np_50 cn_50 (by first | exact rfl | assumption) (Nat.le_of_ble_eq_true rfl) ?_
    refine sp_term (kk := 3) (ll := c + 3) (rr := c + 2) j4 e4 (by omega) (by decide) rfl (fun _ => ⟨by omega, by omega⟩) ⟨by omega, by omega⟩ (fun h5 g5 e5 => ?_)
    have j5 : XF h5 := Fr_XF j4 g5 rl_fin
    have g05 := Fr_g2 (Fr_g2 g03 g4) g5
    with_reducible refine xm_go_blk b_X1_caseRule_65 k_X1_caseRule_65 ?_
    refine by_iload rfl ?_
    refine by_ins4 cn_40 lk_1_76 (by rw [xe_cnt]; decide) is_47 np_47 (Nat.le_of_ble_eq_true rfl) ?_
    refine rl_set hpp j5 (by omega) ?_
    have hf := Fr_set (n := n) (s := nI (c + 4)) (t := nI dd) (Fr_gr (pp := pp) g05)
    rw [← hdd] at hgo
    exact hgo _ _ hf (Fr_XF i1 hf rl_fin) (gr_set hpp e5) rl_sn (fun m hm => by rw [(rl_ss hm).1, (rl_ss hm).2, (gr_pp hpp g05).1, (gr_pp hpp g05).2]; exact ⟨rfl, rfl⟩)
  by_cases hv : cd (fi n) = 11
  · have hsv : cd (se n) ≠ 11 := by
      rcases hvv with z | z
      · exact absurd hv z
      · exact z
    rw [hv] at x1
    have p7 := (p2 hsv).2
    with_reducible refine xm_go_blk b_X1_caseRule_16 k_X1_caseRule_16 ?_
    refine by_istore (by rw [ml_40]; decide) ?_
    refine by_aload_n rfl ?_
    refine by_getf cn_40 fl_1_53 (by first | exact rfl | assumption | exact ps_0 hpp) (by decide) ?_
    refine by_iload_n rfl ?_
    simp (disch := first | exact Nat.ne_of_beq_eq_false rfl | omega) only [nI_add, xa_sub, xa_mul, pk_div, nm_mod, xa_shr, xa_and7, xa_and1, xa_and255, xa_by_and, nI_m1, Nat.add_sub_cancel, Nat.reducePow, Nat.zero_add, Nat.add_zero, Nat.reduceAdd, Nat.reduceMul, Nat.reduceSub, xf_same, xq_ff, xq_fo, xf_1, xf_2, xs_1, xs_2, xs_same, xq_so, xj_1, xj_2, xj_same, xq_jo, xq_sa1, xq_same, xq_other, upd_s, oI_n, oI_s, pf_1 j3 hpp, m1, x1, pf_7 j3 hpp, m7, p7]
    first | refine by_iald (by first | exact rfl | assumption | exact ps_1 hpp | exact ps_2 hpp | exact ps_3 hpp | exact ps_4 hpp | exact ps_5 hpp | exact ps_6 hpp | exact ps_7 hpp | exact ps_8 hpp | exact ps_9 hpp | exact ps_10 hpp | exact ps_11 hpp | exact ps_15 hpp | exact ps_16 hpp | exact ps_17 hpp | exact ps_18 hpp | exact ps_19 hpp | exact ps_21 hpp | exact ps_22 hpp | exact ps_23 hpp | exact ps_24 hpp) ⟨by omega, by omega⟩ ?_ | refine by_tald rfl rfl ⟨by omega, by omega⟩ ?_
    refine by_bipush cb_11 ?_
    refine by_ic_eq 38 rfl ?_
    simp (disch := first | exact Nat.ne_of_beq_eq_false rfl | omega) only [nI_add, xa_sub, xa_mul, pk_div, nm_mod, xa_shr, xa_and7, xa_and1, xa_and255, xa_by_and, nI_m1, Nat.add_sub_cancel, Nat.reducePow, Nat.zero_add, Nat.add_zero, Nat.reduceAdd, Nat.reduceMul, Nat.reduceSub, xf_same, xq_ff, xq_fo, xf_1, xf_2, xs_1, xs_2, xs_same, xq_so, xj_1, xj_2, xj_same, xq_jo, xq_sa1, xq_same, xq_other, upd_s, oI_n, oI_s, xv_0, xv_1, xv_2, xv_3, xm_p1, xm_p2, List.filter_cons, List.filter_nil, Nat.reduceBEq, Bool.not_true, Bool.not_false, Bool.and_true, Bool.and_false, Bool.false_and, Bool.true_and, if_true, if_false, Bool.false_eq_true, reduceIte, xc_i, xc_j, xc_r, xc_n, List.nil_append, List.cons_append, Option.toList_some, Option.toList_none, nI_ltJ, nI_leJ, nI_eqJ, nI_ltz, nI_gez, nI_gtz, nI_lez, nI_eqz, m1_ltz, m1_gez, true_imp_iff, false_imp_iff, true_and, and_true, ne_eq, not_false_eq_true, not_true_eq_false, Nat.reduceEqDiff, Nat.reduceLT, Nat.reduceLeDiff, pf_1 j3 hpp, m1, x1, pf_7 j3 hpp, m7, p7]
    with_reducible refine xm_go_blk b_X1_caseRule_38 k_X1_caseRule_38 ?_
    refine by_aload_n rfl ?_
    refine by_getf cn_40 fl_1_63 (by first | exact rfl | assumption | exact ps_0 hpp) (by decide) ?_
    refine by_iload rfl ?_
    simp (disch := first | exact Nat.ne_of_beq_eq_false rfl | omega) only [nI_add, xa_sub, xa_mul, pk_div, nm_mod, xa_shr, xa_and7, xa_and1, xa_and255, xa_by_and, nI_m1, Nat.add_sub_cancel, Nat.reducePow, Nat.zero_add, Nat.add_zero, Nat.reduceAdd, Nat.reduceMul, Nat.reduceSub, xf_same, xq_ff, xq_fo, xf_1, xf_2, xs_1, xs_2, xs_same, xq_so, xj_1, xj_2, xj_same, xq_jo, xq_sa1, xq_same, xq_other, upd_s, oI_n, oI_s, pf_1 j3 hpp, m1, x1, pf_7 j3 hpp, m7, p7]
    first | refine by_iald (by first | exact rfl | assumption | exact ps_1 hpp | exact ps_2 hpp | exact ps_3 hpp | exact ps_4 hpp | exact ps_5 hpp | exact ps_6 hpp | exact ps_7 hpp | exact ps_8 hpp | exact ps_9 hpp | exact ps_10 hpp | exact ps_11 hpp | exact ps_15 hpp | exact ps_16 hpp | exact ps_17 hpp | exact ps_18 hpp | exact ps_19 hpp | exact ps_21 hpp | exact ps_22 hpp | exact ps_23 hpp | exact ps_24 hpp) ⟨by omega, by omega⟩ ?_ | refine by_tald rfl rfl ⟨by omega, by omega⟩ ?_
    refine by_nil ?_
    simp (disch := first | exact Nat.ne_of_beq_eq_false rfl | omega) only [nI_add, xa_sub, xa_mul, pk_div, nm_mod, xa_shr, xa_and7, xa_and1, xa_and255, xa_by_and, nI_m1, Nat.add_sub_cancel, Nat.reducePow, Nat.zero_add, Nat.add_zero, Nat.reduceAdd, Nat.reduceMul, Nat.reduceSub, xf_same, xq_ff, xq_fo, xf_1, xf_2, xs_1, xs_2, xs_same, xq_so, xj_1, xj_2, xj_same, xq_jo, xq_sa1, xq_same, xq_other, upd_s, oI_n, oI_s, xv_0, xv_1, xv_2, xv_3, xm_p1, xm_p2, List.filter_cons, List.filter_nil, Nat.reduceBEq, Bool.not_true, Bool.not_false, Bool.and_true, Bool.and_false, Bool.false_and, Bool.true_and, if_true, if_false, Bool.false_eq_true, reduceIte, xc_i, xc_j, xc_r, xc_n, List.nil_append, List.cons_append, Option.toList_some, Option.toList_none, pf_1 j3 hpp, m1, x1, pf_7 j3 hpp, m7, p7]
    exact hcont _ (by rw [if_pos hv]) (i5.2.2.1 _ hse hsv).2
  · have e0 : (cd (fi n) = 11) = False := eq_false hv
    have f7 := (f2 hv).2
    with_reducible refine xm_go_blk b_X1_caseRule_16 k_X1_caseRule_16 ?_
    refine by_istore (by rw [ml_40]; decide) ?_
    refine by_aload_n rfl ?_
    refine by_getf cn_40 fl_1_53 (by first | exact rfl | assumption | exact ps_0 hpp) (by decide) ?_
    refine by_iload_n rfl ?_
    simp (disch := first | exact Nat.ne_of_beq_eq_false rfl | omega) only [nI_add, xa_sub, xa_mul, pk_div, nm_mod, xa_shr, xa_and7, xa_and1, xa_and255, xa_by_and, nI_m1, Nat.add_sub_cancel, Nat.reducePow, Nat.zero_add, Nat.add_zero, Nat.reduceAdd, Nat.reduceMul, Nat.reduceSub, xf_same, xq_ff, xq_fo, xf_1, xf_2, xs_1, xs_2, xs_same, xq_so, xj_1, xj_2, xj_same, xq_jo, xq_sa1, xq_same, xq_other, upd_s, oI_n, oI_s, pf_1 j3 hpp, m1, x1, e0, pf_7 j3 hpp, m7, f7]
    first | refine by_iald (by first | exact rfl | assumption | exact ps_1 hpp | exact ps_2 hpp | exact ps_3 hpp | exact ps_4 hpp | exact ps_5 hpp | exact ps_6 hpp | exact ps_7 hpp | exact ps_8 hpp | exact ps_9 hpp | exact ps_10 hpp | exact ps_11 hpp | exact ps_15 hpp | exact ps_16 hpp | exact ps_17 hpp | exact ps_18 hpp | exact ps_19 hpp | exact ps_21 hpp | exact ps_22 hpp | exact ps_23 hpp | exact ps_24 hpp) ⟨by omega, by omega⟩ ?_ | refine by_tald rfl rfl ⟨by omega, by omega⟩ ?_
    refine by_bipush cb_11 ?_
    refine by_ic_eq 38 rfl ?_
    simp (disch := first | exact Nat.ne_of_beq_eq_false rfl | omega) only [nI_add, xa_sub, xa_mul, pk_div, nm_mod, xa_shr, xa_and7, xa_and1, xa_and255, xa_by_and, nI_m1, Nat.add_sub_cancel, Nat.reducePow, Nat.zero_add, Nat.add_zero, Nat.reduceAdd, Nat.reduceMul, Nat.reduceSub, xf_same, xq_ff, xq_fo, xf_1, xf_2, xs_1, xs_2, xs_same, xq_so, xj_1, xj_2, xj_same, xq_jo, xq_sa1, xq_same, xq_other, upd_s, oI_n, oI_s, xv_0, xv_1, xv_2, xv_3, xm_p1, xm_p2, List.filter_cons, List.filter_nil, Nat.reduceBEq, Bool.not_true, Bool.not_false, Bool.and_true, Bool.and_false, Bool.false_and, Bool.true_and, if_true, if_false, Bool.false_eq_true, reduceIte, xc_i, xc_j, xc_r, xc_n, List.nil_append, List.cons_append, Option.toList_some, Option.toList_none, nI_ltJ, nI_leJ, nI_eqJ, nI_ltz, nI_gez, nI_gtz, nI_lez, nI_eqz, m1_ltz, m1_gez, true_imp_iff, false_imp_iff, true_and, and_true, ne_eq, not_false_eq_true, not_true_eq_false, Nat.reduceEqDiff, Nat.reduceLT, Nat.reduceLeDiff, pf_1 j3 hpp, m1, x1, e0, pf_7 j3 hpp, m7, f7]
    with_reducible refine xm_go_blk b_X1_caseRule_29 k_X1_caseRule_29 ?_
    refine by_aload_n rfl ?_
    refine by_getf cn_40 fl_1_63 (by first | exact rfl | assumption | exact ps_0 hpp) (by decide) ?_
    refine by_iload_n rfl ?_
    simp (disch := first | exact Nat.ne_of_beq_eq_false rfl | omega) only [nI_add, xa_sub, xa_mul, pk_div, nm_mod, xa_shr, xa_and7, xa_and1, xa_and255, xa_by_and, nI_m1, Nat.add_sub_cancel, Nat.reducePow, Nat.zero_add, Nat.add_zero, Nat.reduceAdd, Nat.reduceMul, Nat.reduceSub, xf_same, xq_ff, xq_fo, xf_1, xf_2, xs_1, xs_2, xs_same, xq_so, xj_1, xj_2, xj_same, xq_jo, xq_sa1, xq_same, xq_other, upd_s, oI_n, oI_s, pf_1 j3 hpp, m1, x1, e0, pf_7 j3 hpp, m7, f7]
    first | refine by_iald (by first | exact rfl | assumption | exact ps_1 hpp | exact ps_2 hpp | exact ps_3 hpp | exact ps_4 hpp | exact ps_5 hpp | exact ps_6 hpp | exact ps_7 hpp | exact ps_8 hpp | exact ps_9 hpp | exact ps_10 hpp | exact ps_11 hpp | exact ps_15 hpp | exact ps_16 hpp | exact ps_17 hpp | exact ps_18 hpp | exact ps_19 hpp | exact ps_21 hpp | exact ps_22 hpp | exact ps_23 hpp | exact ps_24 hpp) ⟨by omega, by omega⟩ ?_ | refine by_tald rfl rfl ⟨by omega, by omega⟩ ?_
    refine by_goto 45 rfl ?_
    simp (disch := first | exact Nat.ne_of_beq_eq_false rfl | omega) only [nI_add, xa_sub, xa_mul, pk_div, nm_mod, xa_shr, xa_and7, xa_and1, xa_and255, xa_by_and, nI_m1, Nat.add_sub_cancel, Nat.reducePow, Nat.zero_add, Nat.add_zero, Nat.reduceAdd, Nat.reduceMul, Nat.reduceSub, xf_same, xq_ff, xq_fo, xf_1, xf_2, xs_1, xs_2, xs_same, xq_so, xj_1, xj_2, xj_same, xq_jo, xq_sa1, xq_same, xq_other, upd_s, oI_n, oI_s, xv_0, xv_1, xv_2, xv_3, xm_p1, xm_p2, List.filter_cons, List.filter_nil, Nat.reduceBEq, Bool.not_true, Bool.not_false, Bool.and_true, Bool.and_false, Bool.false_and, Bool.true_and, if_true, if_false, Bool.false_eq_true, reduceIte, xc_i, xc_j, xc_r, xc_n, List.nil_append, List.cons_append, Option.toList_some, Option.toList_none, pf_1 j3 hpp, m1, x1, e0, pf_7 j3 hpp, m7, f7]
    exact hcont _ (by rw [if_neg hv]) (i5.2.2.1 _ hfi hv).2
end RUL
/-- trees of CASE's new terms -/
def cG (a b z x y : Ty) : List Ty := [a, b, z, .add a b, .mul (.add a b) z, x, y]
theorem cG_st {V : Nat → Ty} {k l r : Nat → Nat} {c t : Nat} {a b z x y : Ty} (h1 : c ≤ t) (h2 : t < c + 5) : ty_st (tvx V c (cG a b z x y)) (cK k c t) (cL l c t) (cR r c t) t := by
  have e : ∀ i, tvx V c (cG a b z x y) (c + i) = (cG a b z x y).getD i tO := fun i => tvx_n
  have e0 : tvx V c (cG a b z x y) c = a := e 0
  obtain ⟨i, rfl⟩ : ∃ i, t = c + i := ⟨t - c, by omega⟩
  match i, h2 with
  | 0, _ => simp [cK, updN, ty_st]
  | 1, _ => simp [cK, updN, ty_st]
  | 2, _ => simp [cK, updN, ty_st]
  | 3, _ =>
    simp [cK, cL, cR, updN, ty_st]
    rw [e 3, e0, e 1]
    rfl
  | 4, _ =>
    simp [cK, cL, cR, updN, ty_st]
    rw [e 4, e 3, e 2]
    rfl
  | i + 5, h => omega
theorem cG_ok {V : Nat → Ty} {c : Nat} {a b z x y : Ty} (hV : ty_vok V) (ha : ty_ok a) (hb : ty_ok b) (hz : ty_ok z) (hx : ty_ok x) (hy : ty_ok y) : ty_vok (tvx V c (cG a b z x y)) := tvx_ok hV (by
  intro q hq
  simp only [cG, List.mem_cons, List.not_mem_nil, or_false] at hq
  rcases hq with rfl | rfl | rfl | rfl | rfl | rfl | rfl
  · exact ha
  · exact hb
  · exact hz
  · exact ⟨ha, hb⟩
  · exact ⟨⟨ha, hb⟩, hz⟩
  · exact hx
  · exact hy)
theorem ty_all_tx {c c' : Nat} {k l r k' l' r' : Nat → Nat} {V : Nat → Ty} (he : tx c c' k l r k' l' r') (h : ty_all c' k' l' r' V) : ty_all c k l r V := fun t ht => by
  obtain ⟨e1, e2, e3⟩ := he.2 t ht
  have := h t (Nat.lt_of_lt_of_le ht he.1)
  rw [e1, e2, e3] at this
  exact this
/-- a solution with CASE's node, as a valuation of all its terms -/
theorem cr_sol {cd fi se nu : Nat → Nat} {L : List Nat} {c n : Nat} {k l r : Nat → Nat} {es : List (Nat × Nat)} {src tgt : Nat → Nat} {S T : Nat → Ty} {V : Nat → Ty} (i5 : tyS cd fi se nu L c k l r es src tgt) (hfi : fi n ∈ L) (hse : se n ∈ L) (hc : cd n = 1) (hs : ty_vok S) (ht : ty_vok T) (hr : ty_rule cd fi se nu S T n) (v1 : ty_vok V) (v2 : ty_all c k l r V) (v3 : ty_pd es V) (v4 : ∀ m ∈ L, cd m ≠ 11 → V (src m) = S m ∧ V (tgt m) = T m) :
    ∃ a b z, ty_ok a ∧ ty_ok b ∧ ty_ok z ∧ S n = .mul (.add a b) z ∧ (cd (fi n) ≠ 11 → V (src (fi n)) = .mul a z ∧ V (tgt (fi n)) = T n ∧ src (fi n) < c ∧ tgt (fi n) < c) ∧ (cd (se n) ≠ 11 → V (src (se n)) = .mul b z ∧ V (tgt (se n)) = T n ∧ src (se n) < c ∧ tgt (se n) < c) := by
  obtain ⟨a, b, z, r1, r2, r3⟩ := hr.2.1 hc
  have h1 := hs n
  rw [r1] at h1
  refine ⟨a, b, z, h1.1.1, h1.1.2, h1.2, r1, fun e => ?_, fun e => ?_⟩
  · obtain ⟨w1, w2⟩ := v4 _ hfi e
    obtain ⟨q1, q2⟩ := r2 e
    obtain ⟨q3, q4⟩ := i5.2.2.1 _ hfi e
    exact ⟨by rw [w1, q1], by rw [w2, q2], q3, q4⟩
  · obtain ⟨w1, w2⟩ := v4 _ hse e
    obtain ⟨q1, q2⟩ := r3 e
    obtain ⟨q3, q4⟩ := i5.2.2.1 _ hse e
    exact ⟨by rw [w1, q1], by rw [w2, q2], q3, q4⟩
