/-! ===== CASE whole; the rule of any node ===== -/
section RUL
variable {sc : xm_Sc} {d pp N n : Nat} {cd fi se nu : Nat → Nat} {L : List Nat} {c : Nat} {k l r rt : Nat → Nat} {es : List (Nat × Nat)} {src tgt : Nat → Nat} {h h5 : xm_H} {post : xm_Po}
theorem cr_all (hI : tsI h pp N cd fi se nu L c k l r rt es src tgt) (hn : n < N) (hnL : n ∉ L) (hl : L.length < 2000) (hch : ∀ m ∈ L, (cd m ≤ 6 → fi m ≠ n) ∧ (cd m ≤ 2 → se m ≠ n)) (hfi : fi n ∈ L) (hse : se n ∈ L) (hc : cd n = 1) (hvv : cd (fi n) ≠ 11 ∨ cd (se n) ≠ 11) (hP : rlP pp N n cd fi se nu L h post) : xm_T (XE sc) (d + 3) 40 [.ref 15, .ref pp, .int (nI n), .int (nI (fi n)), .int (nI (se n))] h post := by
  refine cr_pre hI hn hl hfi hse hvv (fun h5 rt5 hf j5 hg n6 o6 => ?_)
  have hI0 := hI
  obtain ⟨i1, hpp, i3, i4, i5, i6, i7, i8, i9, i10, i11⟩ := hI0
  obtain ⟨f1, f2⟩ := i6 (fi n) hfi
  obtain ⟨p1, p2⟩ := i6 (se n) hse
  have hne : fi n ≠ n := fun z => hnL (by rw [← z]; exact hfi)
  have hne2 : se n ≠ n := fun z => hnL (by rw [← z]; exact hse)
  by_cases hfv : cd (fi n) = 11
  · have hsv : cd (se n) ≠ 11 := by
      rcases hvv with z | z
      · exact absurd hfv z
      · exact z
    rw [if_pos hfv] at n6 ⊢
    obtain ⟨p6, p7⟩ := p2 hsv
    obtain ⟨p8, p9⟩ := i5.2.2.1 _ hse hsv
    obtain ⟨x1, x2, _⟩ := i3 (fi n) f1
    rw [hfv] at x1
    have m1 : h5.1 (pp + 1) = h.1 (pp + 1) := hf.1 _ (by simp [rlR] <;> omega)
    have hgo := cr_105v (sc := sc) (d := d) (fi := fi) (c := c) (dd := tgt (se n)) (post := post) i3 hpp p1 i9 (by omega) (by omega) hsv p6 p7 (by omega) (by omega) (by omega) hne2 hf j5 hg o6 n6 (fun h9 rt' hf9 e9 o9 n9 => hP.1 _ _ _ _ _ _ _ _ _ hf9 (tsI_new (s := c + 4) (t := tgt (se n)) hI hn hnL hl hf9 e9 (cr_3t i5 hnL hch hfi hse hc hfv hsv) (tx_tr cr_tx updN_tx) (by omega) (fun _ => n9) o9)) (fun h9 es' hf9 ha9 hes hbad => hP.2 _ hf9 (fx_fn ha9 (tx_tr i11.2 (tx_tr cr_tx updN_tx))) (cr_no i5 (tx_tr cr_tx updN_tx) (cr_3s i5 hfi hse hc hsv) (fun V q1 q2 q3 => hbad V q1 q2 (by
      rcases hes with rfl | rfl
      · exact (ty_pd_cons.mp q3).2
      · exact q3))))
    unfold crLv at hgo ⊢
    with_reducible refine xm_go_blk b_X1_caseRule_70 k_X1_caseRule_70 ?_
    refine by_iconst ci_1 ?_
    refine by_istore (by rw [ml_40]; decide) ?_
    refine by_aload_n rfl ?_
    refine by_getf cn_40 fl_1_53 (by first | exact rfl | assumption | exact ps_0 hpp) (by decide) ?_
    refine by_iload_n rfl ?_
    simp (disch := first | exact Nat.ne_of_beq_eq_false rfl | exact rfl | omega) only [nI_add, xa_sub, xa_mul, pk_div, nm_mod, xa_shr, xa_and7, xa_and1, xa_and255, xa_by_and, nI_m1, Nat.add_sub_cancel, Nat.reducePow, Nat.zero_add, Nat.add_zero, Nat.reduceAdd, Nat.reduceMul, Nat.reduceSub, xf_same, xq_ff, xq_fo, xf_1, xf_2, xs_1, xs_2, xs_same, xq_so, xj_1, xj_2, xj_same, xq_jo, xq_sa1, xq_same, xq_other, upd_s, oI_n, oI_s, pf_1 j5 hpp, m1, x1]
    first | refine by_iald (by first | exact rfl | assumption | exact ps_1 hpp | exact ps_2 hpp | exact ps_3 hpp | exact ps_4 hpp | exact ps_5 hpp | exact ps_6 hpp | exact ps_7 hpp | exact ps_8 hpp | exact ps_9 hpp | exact ps_10 hpp | exact ps_11 hpp | exact ps_15 hpp | exact ps_16 hpp | exact ps_17 hpp | exact ps_18 hpp | exact ps_19 hpp | exact ps_21 hpp | exact ps_22 hpp | exact ps_23 hpp | exact ps_24 hpp) ⟨by omega, by omega⟩ ?_ | refine by_tald rfl rfl ⟨by omega, by omega⟩ ?_
    refine by_bipush cb_11 ?_
    refine by_ic_eq 105 rfl ?_
    simp (disch := first | exact Nat.ne_of_beq_eq_false rfl | exact rfl | omega) only [nI_add, xa_sub, xa_mul, pk_div, nm_mod, xa_shr, xa_and7, xa_and1, xa_and255, xa_by_and, nI_m1, Nat.add_sub_cancel, Nat.reducePow, Nat.zero_add, Nat.add_zero, Nat.reduceAdd, Nat.reduceMul, Nat.reduceSub, xf_same, xq_ff, xq_fo, xf_1, xf_2, xs_1, xs_2, xs_same, xq_so, xj_1, xj_2, xj_same, xq_jo, xq_sa1, xq_same, xq_other, upd_s, oI_n, oI_s, xv_0, xv_1, xv_2, xv_3, xm_p1, xm_p2, xq_fp, xq_fn, List.filter_nil, Nat.reduceBEq, Bool.not_true, Bool.not_false, Bool.and_true, Bool.and_false, Bool.false_and, Bool.true_and, if_true, if_false, Bool.false_eq_true, reduceIte, xc_i, xc_j, xc_r, xc_n, List.nil_append, List.cons_append, Option.toList_some, Option.toList_none, nI_ltJ, nI_leJ, nI_eqJ, nI_ltz, nI_gez, nI_gtz, nI_lez, nI_eqz, m1_ltz, m1_gez, true_imp_iff, false_imp_iff, true_and, and_true, ne_eq, not_false_eq_true, not_true_eq_false, Nat.reduceEqDiff, Nat.reduceLT, Nat.reduceLeDiff, pf_1 j5 hpp, m1, x1]
    exact hgo
  · rw [if_neg hfv] at n6 ⊢
    obtain ⟨f6, f7⟩ := f2 hfv
    obtain ⟨f8, f9⟩ := i5.2.2.1 _ hfi hfv
    refine cr_70 i3 hpp f1 i9 (by omega) hfv f6 f8 hne hf j5 hg o6 n6 (fun h7 rt' hf7 j7 e7 o7 n7 => ?_) (fun h7 hf7 j7 ha7 hbad => cr_105f i3 hpp p1 i9 hf7 j7 (hP.2 _ hf7 (fx_fn ha7 (tx_tr i11.2 (tx_tr cr_tx updN_tx))) (cr_no i5 (tx_tr cr_tx updN_tx) (cr_1s i5 hfi hse hc hfv) hbad)))
    by_cases hsv : cd (se n) = 11
    · exact cr_105h i3 hpp p1 i9 hsv hf7 j7 (hP.1 _ _ _ _ _ _ _ _ _ hf7 (tsI_new (s := c + 4) (t := tgt (fi n)) hI hn hnL hl hf7 e7 (cr_1t i5 hnL hch hfi hse hc hfv hsv) (tx_tr cr_tx updN_tx) (by omega) (fun _ => n7) o7))
    · obtain ⟨p6, p7⟩ := p2 hsv
      obtain ⟨p8, p9⟩ := i5.2.2.1 _ hse hsv
      exact cr_105v i3 hpp p1 i9 (by omega) (by omega) hsv p6 p7 (by omega) (by omega) (by omega) hne2 hf7 j7 e7 o7 n7 (fun h9 rt' hf9 e9 o9 n9 => hP.1 _ _ _ _ _ _ _ _ _ hf9 (tsI_new (s := c + 4) (t := tgt (fi n)) hI hn hnL hl hf9 e9 (cr_2t i5 hnL hch hfi hse hc hfv hsv) (tx_tr (tx_tr cr_tx updN_tx) updN_tx) (by omega) (fun _ => n9) o9)) (fun h9 es' hf9 ha9 hes hbad => hP.2 _ hf9 (fx_fn ha9 (tx_tr i11.2 (tx_tr (tx_tr cr_tx updN_tx) updN_tx))) (cr_no i5 (tx_tr (tx_tr cr_tx updN_tx) updN_tx) (cr_2s i5 hfi hse hc hfv hsv) (fun V q1 q2 q3 => hbad V q1 q2 (by
        rcases hes with rfl | rfl
        · exact (ty_pd_cons.mp q3).2
        · exact q3))))
theorem rl_1 (hI : tsI h pp N cd fi se nu L c k l r rt es src tgt) (hn : n < N) (hnL : n ∉ L) (hl : L.length < 2000) (hch : ∀ m ∈ L, (cd m ≤ 6 → fi m ≠ n) ∧ (cd m ≤ 2 → se m ≠ n)) (hfi : fi n ∈ L) (hse : se n ∈ L) (hc : cd n = 1) (hvv : cd (fi n) ≠ 11 ∨ cd (se n) ≠ 11) (hP : rlP pp N n cd fi se nu L h post) : xm_T (XE sc) (d + 4) 46 [.ref 15, .ref pp, .int (nI n)] h post := by
  have hI0 := hI
  obtain ⟨i1, hpp, i3, i4, i5, i6, i7, i8, i9, i10, i11⟩ := hI0
  obtain ⟨a1, a2, a3, a4, a5, a6, a7⟩ := i3 n hn
  obtain ⟨b2, b2'⟩ := a3 (by omega)
  obtain ⟨b3, b3'⟩ := a5 (by omega)
  rw [hc] at a1
  refine xq_in rfl ?_
  simp only [xq_a0, xq_aI, xq_aJ, xq_aR, Nat.reduceAdd]
  with_reducible refine xm_go_blk b_X1_rule_0 k_X1_rule_0 ?_
  refine by_aload_n rfl ?_
  refine by_getf cn_46 fl_1_70 (by first | exact rfl | assumption | exact ps_0 hpp) (by decide) ?_
  refine by_iload_n rfl ?_
  simp (disch := first | exact Nat.ne_of_beq_eq_false rfl | exact rfl | omega) only [nI_add, xa_sub, xa_mul, pk_div, nm_mod, xa_shr, xa_and7, xa_and1, xa_and255, xa_by_and, nI_m1, Nat.add_sub_cancel, Nat.reducePow, Nat.zero_add, Nat.add_zero, Nat.reduceAdd, Nat.reduceMul, Nat.reduceSub, xf_same, xq_ff, xq_fo, xf_1, xf_2, xs_1, xs_2, xs_same, xq_so, xj_1, xj_2, xj_same, xq_jo, xq_sa1, xq_same, xq_other, upd_s, oI_n, oI_s, pf_1 i1 hpp, pf_2 i1 hpp, pf_3 i1 hpp, a1, b2, b3]
  first | refine by_iald (by first | exact rfl | assumption | exact ps_1 hpp | exact ps_2 hpp | exact ps_3 hpp | exact ps_4 hpp | exact ps_5 hpp | exact ps_6 hpp | exact ps_7 hpp | exact ps_8 hpp | exact ps_9 hpp | exact ps_10 hpp | exact ps_11 hpp | exact ps_15 hpp | exact ps_16 hpp | exact ps_17 hpp | exact ps_18 hpp | exact ps_19 hpp | exact ps_21 hpp | exact ps_22 hpp | exact ps_23 hpp | exact ps_24 hpp) ⟨by omega, by omega⟩ ?_ | refine by_tald rfl rfl ⟨by omega, by omega⟩ ?_
  refine by_istore_n (by rw [ml_46]; decide) ?_
  refine by_aload_n rfl ?_
  refine by_getf cn_46 fl_1_73 (by first | exact rfl | assumption | exact ps_0 hpp) (by decide) ?_
  refine by_iload_n rfl ?_
  simp (disch := first | exact Nat.ne_of_beq_eq_false rfl | exact rfl | omega) only [nI_add, xa_sub, xa_mul, pk_div, nm_mod, xa_shr, xa_and7, xa_and1, xa_and255, xa_by_and, nI_m1, Nat.add_sub_cancel, Nat.reducePow, Nat.zero_add, Nat.add_zero, Nat.reduceAdd, Nat.reduceMul, Nat.reduceSub, xf_same, xq_ff, xq_fo, xf_1, xf_2, xs_1, xs_2, xs_same, xq_so, xj_1, xj_2, xj_same, xq_jo, xq_sa1, xq_same, xq_other, upd_s, oI_n, oI_s, pf_1 i1 hpp, pf_2 i1 hpp, pf_3 i1 hpp, a1, b2, b3]
  first | refine by_iald (by first | exact rfl | assumption | exact ps_1 hpp | exact ps_2 hpp | exact ps_3 hpp | exact ps_4 hpp | exact ps_5 hpp | exact ps_6 hpp | exact ps_7 hpp | exact ps_8 hpp | exact ps_9 hpp | exact ps_10 hpp | exact ps_11 hpp | exact ps_15 hpp | exact ps_16 hpp | exact ps_17 hpp | exact ps_18 hpp | exact ps_19 hpp | exact ps_21 hpp | exact ps_22 hpp | exact ps_23 hpp | exact ps_24 hpp) ⟨by omega, by omega⟩ ?_ | refine by_tald rfl rfl ⟨by omega, by omega⟩ ?_
  refine by_istore (by rw [ml_46]; decide) ?_
  refine by_aload_n rfl ?_
  refine by_getf cn_46 fl_1_53 (by first | exact rfl | assumption | exact ps_0 hpp) (by decide) ?_
  refine by_iload_n rfl ?_
  simp (disch := first | exact Nat.ne_of_beq_eq_false rfl | exact rfl | omega) only [nI_add, xa_sub, xa_mul, pk_div, nm_mod, xa_shr, xa_and7, xa_and1, xa_and255, xa_by_and, nI_m1, Nat.add_sub_cancel, Nat.reducePow, Nat.zero_add, Nat.add_zero, Nat.reduceAdd, Nat.reduceMul, Nat.reduceSub, xf_same, xq_ff, xq_fo, xf_1, xf_2, xs_1, xs_2, xs_same, xq_so, xj_1, xj_2, xj_same, xq_jo, xq_sa1, xq_same, xq_other, upd_s, oI_n, oI_s, pf_1 i1 hpp, pf_2 i1 hpp, pf_3 i1 hpp, a1, b2, b3]
  first | refine by_iald (by first | exact rfl | assumption | exact ps_1 hpp | exact ps_2 hpp | exact ps_3 hpp | exact ps_4 hpp | exact ps_5 hpp | exact ps_6 hpp | exact ps_7 hpp | exact ps_8 hpp | exact ps_9 hpp | exact ps_10 hpp | exact ps_11 hpp | exact ps_15 hpp | exact ps_16 hpp | exact ps_17 hpp | exact ps_18 hpp | exact ps_19 hpp | exact ps_21 hpp | exact ps_22 hpp | exact ps_23 hpp | exact ps_24 hpp) ⟨by omega, by omega⟩ ?_ | refine by_tald rfl rfl ⟨by omega, by omega⟩ ?_
  simp (disch := first | exact Nat.ne_of_beq_eq_false rfl | exact rfl | omega) only [nI_add, xa_sub, xa_mul, pk_div, nm_mod, xa_shr, xa_and7, xa_and1, xa_and255, xa_by_and, nI_m1, Nat.add_sub_cancel, Nat.reducePow, Nat.zero_add, Nat.add_zero, Nat.reduceAdd, Nat.reduceMul, Nat.reduceSub, xf_same, xq_ff, xq_fo, xf_1, xf_2, xs_1, xs_2, xs_same, xq_so, xj_1, xj_2, xj_same, xq_jo, xq_sa1, xq_same, xq_other, upd_s, oI_n, oI_s, pf_1 i1 hpp, pf_2 i1 hpp, pf_3 i1 hpp, a1, b2, b3]
  refine by_sw ?_
  simp (disch := first | exact Nat.ne_of_beq_eq_false rfl | exact rfl | omega) only [nI_add, xa_sub, xa_mul, pk_div, nm_mod, xa_shr, xa_and7, xa_and1, xa_and255, xa_by_and, nI_m1, Nat.add_sub_cancel, Nat.reducePow, Nat.zero_add, Nat.add_zero, Nat.reduceAdd, Nat.reduceMul, Nat.reduceSub, xf_same, xq_ff, xq_fo, xf_1, xf_2, xs_1, xs_2, xs_same, xq_so, xj_1, xj_2, xj_same, xq_jo, xq_sa1, xq_same, xq_other, upd_s, oI_n, oI_s, xv_0, xv_1, xv_2, xv_3, xm_p1, xm_p2, xq_fp, xq_fn, List.filter_nil, Nat.reduceBEq, Bool.not_true, Bool.not_false, Bool.and_true, Bool.and_false, Bool.false_and, Bool.true_and, if_true, if_false, Bool.false_eq_true, reduceIte, xc_i, xc_j, xc_r, xc_n, List.nil_append, List.cons_append, Option.toList_some, Option.toList_none, pf_1 i1 hpp, pf_2 i1 hpp, pf_3 i1 hpp, a1, b2, b3]
  refine xq_sw 124 (by decide) (by decide) ?_
  with_reducible refine xm_go_blk b_X1_rule_124 k_X1_rule_124 ?_
  refine by_aload_n rfl ?_
  refine by_aload_n rfl ?_
  refine by_iload_n rfl ?_
  refine by_iload_n rfl ?_
  refine by_iload rfl ?_
  refine by_inv4 cn_46 lk_1_84 (by rw [xe_cnt]; decide) is_40 np_40 cn_40 (by first | exact rfl | assumption) (Nat.le_of_ble_eq_true rfl) ?_
  refine cr_all hI hn hnL hl hch hfi hse hc hvv ⟨fun h' c' k' l' r' rt' es' src' tgt' hf hI' => ?_, fun h' hf hfa hno => ?_⟩
  · with_reducible refine xm_go_blk b_X1_rule_133 k_X1_rule_133 ?_
    refine by_iret ry_46 (by first | rfl | assumption) ?_
    exact hP.1 _ _ _ _ _ _ _ _ _ hf hI'
  · with_reducible refine xm_go_blk b_X1_rule_133 k_X1_rule_133 ?_
    refine by_iret ry_46 (by first | rfl | assumption) ?_
    exact hP.2 _ hf hfa hno
/-- the rule of a node whose children are among those before -/
theorem sp_rule (hI : tsI h pp N cd fi se nu L c k l r rt es src tgt) (hn : n < N) (hnL : n ∉ L) (hl : L.length < 2000) (hch : ∀ m ∈ L, (cd m ≤ 6 → fi m ≠ n) ∧ (cd m ≤ 2 → se m ≠ n)) (hk1 : cd n ≤ 6 → fi n ∈ L) (hk2 : cd n ≤ 2 → se n ∈ L) (hv1 : cd n ≤ 6 → cd n ≠ 1 → cd (fi n) ≠ 11) (hv2 : cd n ≤ 2 → cd n ≠ 1 → cd (se n) ≠ 11) (hvv : cd n = 1 → cd (fi n) ≠ 11 ∨ cd (se n) ≠ 11) (hP : rlP pp N n cd fi se nu L h post) : xm_T (XE sc) (d + 4) 46 [.ref 15, .ref pp, .int (nI n)] h post := by
  have h12 := (hI.2.2.1 n hn).2.1
  rcases op_cs (Nat.lt_succ_of_le h12) with e | e | e | e | e | e | e | e | e | e | e | e | e
  · exact rl_0 hI hn hnL hl hch (hk1 (by omega)) (hv1 (by omega) (by omega)) (hk2 (by omega)) (hv2 (by omega) (by omega)) e hP
  · exact rl_1 hI hn hnL hl hch (hk1 (by omega)) (hk2 (by omega)) e (hvv e) hP
  · exact rl_2 hI hn hnL hl hch (hk1 (by omega)) (hv1 (by omega) (by omega)) (hk2 (by omega)) (hv2 (by omega) (by omega)) e hP
  · exact rl_3 hI hn hnL hl hch (hk1 (by omega)) (hv1 (by omega) (by omega)) e hP
  · exact rl_4 hI hn hnL hl hch (hk1 (by omega)) (hv1 (by omega) (by omega)) e hP
  · exact rl_5 hI hn hnL hl hch (hk1 (by omega)) (hv1 (by omega) (by omega)) e hP
  · exact rl_6 hI hn hnL hl hch (hk1 (by omega)) (hv1 (by omega) (by omega)) e hP
  · exact rl_7 hI hn hnL hl hch e hP
  · exact rl_8 hI hn hnL hl hch e hP
  · exact rl_10 hI hn hnL hl hch e hP
  · exact rl_12 hI hn hnL hl hch e hP
  · exact rl_9 hI hn hnL hl hch e hP
  · exact rl_11 hI hn hnL hl hch e hP
end RUL
