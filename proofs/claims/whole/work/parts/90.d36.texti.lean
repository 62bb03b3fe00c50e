/-! ===== the reference: takesDigits, takesText ===== -/
theorem bg_l {a b : List Nat} {i : Nat} (h : i < a.length) : bg (a ++ b) i = bg a i := gN_l h
theorem bg_r {a b : List Nat} {i : Nat} : bg (a ++ b) (a.length + i) = bg b i := by
  unfold bg
  rw [List.getD_eq_getElem?_getD, List.getD_eq_getElem?_getD, List.getElem?_append_right (Nat.le_add_right _ _), Nat.add_sub_cancel_left]
theorem hiB_g {g : Nat → Nat} : ∀ {n i : Nat}, i < n → bg (hiB g n) i = g (n - 1 - i)
  | 0, i, h => absurd h (Nat.not_lt_zero _)
  | n + 1, 0, _ => by simp [hiB, bg]
  | n + 1, i + 1, h => by
    have := hiB_g (g := g) (n := n) (i := i) (by omega)
    rw [show n + 1 - 1 - (i + 1) = n - 1 - i by omega, ← this]
    simp [hiB, bg]
/-- bits of the reference's row -/
def mBt (h : xm_H) (bl : List Nat) : Prop := ∀ i, i < bl.length → h.1 145 i = nI (bg bl i)
section TD
variable {sc : xm_Sc} {d : Nat} {l bl : List Nat} {h : xm_H} {post : xm_Po}
theorem sp_digitOf {b : Nat} (hb : b < 256) (hp : post (some (.int (match dgv b with | some x => nI x | none => -1))) h) : xm_T (XE sc) (d + 2) 218 [.int (nI b)] h post := by
  refine xq_in rfl ?_
  simp only [xq_a0, xq_aI, xq_aJ, xq_aR, Nat.reduceAdd]
  with_reducible refine xm_go_blk b_X12_digitOf_0 k_X12_digitOf_0 ?_
  refine by_iload_n rfl ?_
  refine by_bipush cb_48 ?_
  refine by_bipush cb_57 ?_
  refine by_ins3 cn_218 lk_12_211 (by rw [xe_cnt]; decide) is_319 np_319 (Nat.le_of_ble_eq_true rfl) ?_
  refine sp_within ?_
  by_cases e1 : 48 ≤ b ∧ b ≤ 57
  · rw [if_pos ⟨(nI_leI (by omega) (by omega)).mpr e1.1, (nI_leI (by omega) (by omega)).mpr e1.2⟩]
    have ed : dgv b = some (b - 48) := by rw [dgv, if_pos e1]
    rw [ed] at hp
    obtain ⟨e1a, e1b⟩ := e1
    with_reducible refine xm_go_blk b_X12_digitOf_8 k_X12_digitOf_8 ?_
    refine by_if_eq 18 rfl ?_
    simp (disch := first | exact Nat.ne_of_beq_eq_false rfl | exact rfl | omega) only [nI_add, xa_sub, xa_mul, pk_div, nm_mod, xa_shr, xa_and7, xa_and1, xa_and255, xa_by_and, nI_m1, Nat.add_sub_cancel, Nat.reducePow, Nat.zero_add, Nat.add_zero, Nat.reduceAdd, Nat.reduceMul, Nat.reduceSub, xf_same, xq_ff, xq_fo, xf_1, xf_2, xs_1, xs_2, xs_same, xq_so, xj_1, xj_2, xj_same, xq_jo, xq_sa1, xq_same, xq_other, upd_s, oI_n, oI_s, xv_0, xv_1, xv_2, xv_3, xm_p1, xm_p2, xq_fp, xq_fn, List.filter_nil, Nat.reduceBEq, Bool.not_true, Bool.not_false, Bool.and_true, Bool.and_false, Bool.false_and, Bool.true_and, if_true, if_false, Bool.false_eq_true, reduceIte, xc_i, xc_j, xc_r, xc_n, List.nil_append, List.cons_append, Option.toList_some, Option.toList_none, nI_ltJ, nI_leJ, nI_eqJ, nI_ltz, nI_gez, nI_gtz, nI_lez, nI_eqz, m1_ltz, m1_gez, true_imp_iff, false_imp_iff, true_and, and_true, ne_eq, not_false_eq_true, not_true_eq_false, Nat.reduceEqDiff, Nat.reduceLT, Nat.reduceLeDiff]
    with_reducible refine xm_go_blk b_X12_digitOf_11 k_X12_digitOf_11 ?_
    refine by_iload_n rfl ?_
    refine by_bipush cb_48 ?_
    refine by_isub ?_
    refine by_goto 37 rfl ?_
    try simp (disch := first | exact Nat.ne_of_beq_eq_false rfl | exact rfl | omega) only [nI_add, xa_sub, xa_mul, pk_div, nm_mod, xa_shr, xa_and7, xa_and1, xa_and255, xa_by_and, nI_m1, Nat.add_sub_cancel, Nat.reducePow, Nat.zero_add, Nat.add_zero, Nat.reduceAdd, Nat.reduceMul, Nat.reduceSub, xf_same, xq_ff, xq_fo, xf_1, xf_2, xs_1, xs_2, xs_same, xq_so, xj_1, xj_2, xj_same, xq_jo, xq_sa1, xq_same, xq_other, upd_s, oI_n, oI_s, xv_0, xv_1, xv_2, xv_3, xm_p1, xm_p2, xq_fp, xq_fn, List.filter_nil, Nat.reduceBEq, Bool.not_true, Bool.not_false, Bool.and_true, Bool.and_false, Bool.false_and, Bool.true_and, if_true, if_false, Bool.false_eq_true, reduceIte, xc_i, xc_j, xc_r, xc_n, List.nil_append, List.cons_append, Option.toList_some, Option.toList_none]
    with_reducible refine xm_go_blk b_X12_digitOf_37 k_X12_digitOf_37 ?_
    refine by_iret ry_218 (by first | rfl | assumption) ?_
    exact hp
  · rw [if_neg (fun z => e1 ⟨(nI_leI (by omega) (by omega)).mp z.1, (nI_leI (by omega) (by omega)).mp z.2⟩)]
    with_reducible refine xm_go_blk b_X12_digitOf_8 k_X12_digitOf_8 ?_
    refine by_if_eq 18 rfl ?_
    simp (disch := first | exact Nat.ne_of_beq_eq_false rfl | exact rfl | omega) only [nI_add, xa_sub, xa_mul, pk_div, nm_mod, xa_shr, xa_and7, xa_and1, xa_and255, xa_by_and, nI_m1, Nat.add_sub_cancel, Nat.reducePow, Nat.zero_add, Nat.add_zero, Nat.reduceAdd, Nat.reduceMul, Nat.reduceSub, xf_same, xq_ff, xq_fo, xf_1, xf_2, xs_1, xs_2, xs_same, xq_so, xj_1, xj_2, xj_same, xq_jo, xq_sa1, xq_same, xq_other, upd_s, oI_n, oI_s, xv_0, xv_1, xv_2, xv_3, xm_p1, xm_p2, xq_fp, xq_fn, List.filter_nil, Nat.reduceBEq, Bool.not_true, Bool.not_false, Bool.and_true, Bool.and_false, Bool.false_and, Bool.true_and, if_true, if_false, Bool.false_eq_true, reduceIte, xc_i, xc_j, xc_r, xc_n, List.nil_append, List.cons_append, Option.toList_some, Option.toList_none, nI_ltJ, nI_leJ, nI_eqJ, nI_ltz, nI_gez, nI_gtz, nI_lez, nI_eqz, m1_ltz, m1_gez, true_imp_iff, false_imp_iff, true_and, and_true, ne_eq, not_false_eq_true, not_true_eq_false, Nat.reduceEqDiff, Nat.reduceLT, Nat.reduceLeDiff]
    with_reducible refine xm_go_blk b_X12_digitOf_18 k_X12_digitOf_18 ?_
    refine by_iload_n rfl ?_
    refine by_bipush cb_97 ?_
    refine by_bipush cb_102 ?_
    refine by_ins3 cn_218 lk_12_211 (by rw [xe_cnt]; decide) is_319 np_319 (Nat.le_of_ble_eq_true rfl) ?_
    refine sp_within ?_
    by_cases e2 : 97 ≤ b ∧ b ≤ 102
    · rw [if_pos ⟨(nI_leI (by omega) (by omega)).mpr e2.1, (nI_leI (by omega) (by omega)).mpr e2.2⟩]
      have ed : dgv b = some (b - 87) := by rw [dgv, if_neg e1, if_pos e2]
      rw [ed] at hp
      obtain ⟨e2a, e2b⟩ := e2
      with_reducible refine xm_go_blk b_X12_digitOf_26 k_X12_digitOf_26 ?_
      refine by_if_eq 36 rfl ?_
      simp (disch := first | exact Nat.ne_of_beq_eq_false rfl | exact rfl | omega) only [nI_add, xa_sub, xa_mul, pk_div, nm_mod, xa_shr, xa_and7, xa_and1, xa_and255, xa_by_and, nI_m1, Nat.add_sub_cancel, Nat.reducePow, Nat.zero_add, Nat.add_zero, Nat.reduceAdd, Nat.reduceMul, Nat.reduceSub, xf_same, xq_ff, xq_fo, xf_1, xf_2, xs_1, xs_2, xs_same, xq_so, xj_1, xj_2, xj_same, xq_jo, xq_sa1, xq_same, xq_other, upd_s, oI_n, oI_s, xv_0, xv_1, xv_2, xv_3, xm_p1, xm_p2, xq_fp, xq_fn, List.filter_nil, Nat.reduceBEq, Bool.not_true, Bool.not_false, Bool.and_true, Bool.and_false, Bool.false_and, Bool.true_and, if_true, if_false, Bool.false_eq_true, reduceIte, xc_i, xc_j, xc_r, xc_n, List.nil_append, List.cons_append, Option.toList_some, Option.toList_none, nI_ltJ, nI_leJ, nI_eqJ, nI_ltz, nI_gez, nI_gtz, nI_lez, nI_eqz, m1_ltz, m1_gez, true_imp_iff, false_imp_iff, true_and, and_true, ne_eq, not_false_eq_true, not_true_eq_false, Nat.reduceEqDiff, Nat.reduceLT, Nat.reduceLeDiff]
      with_reducible refine xm_go_blk b_X12_digitOf_29 k_X12_digitOf_29 ?_
      refine by_iload_n rfl ?_
      refine by_bipush cb_87 ?_
      refine by_isub ?_
      refine by_goto 37 rfl ?_
      try simp (disch := first | exact Nat.ne_of_beq_eq_false rfl | exact rfl | omega) only [nI_add, xa_sub, xa_mul, pk_div, nm_mod, xa_shr, xa_and7, xa_and1, xa_and255, xa_by_and, nI_m1, Nat.add_sub_cancel, Nat.reducePow, Nat.zero_add, Nat.add_zero, Nat.reduceAdd, Nat.reduceMul, Nat.reduceSub, xf_same, xq_ff, xq_fo, xf_1, xf_2, xs_1, xs_2, xs_same, xq_so, xj_1, xj_2, xj_same, xq_jo, xq_sa1, xq_same, xq_other, upd_s, oI_n, oI_s, xv_0, xv_1, xv_2, xv_3, xm_p1, xm_p2, xq_fp, xq_fn, List.filter_nil, Nat.reduceBEq, Bool.not_true, Bool.not_false, Bool.and_true, Bool.and_false, Bool.false_and, Bool.true_and, if_true, if_false, Bool.false_eq_true, reduceIte, xc_i, xc_j, xc_r, xc_n, List.nil_append, List.cons_append, Option.toList_some, Option.toList_none]
      with_reducible refine xm_go_blk b_X12_digitOf_37 k_X12_digitOf_37 ?_
      refine by_iret ry_218 (by first | rfl | assumption) ?_
      exact hp
    · rw [if_neg (fun z => e2 ⟨(nI_leI (by omega) (by omega)).mp z.1, (nI_leI (by omega) (by omega)).mp z.2⟩)]
      have ed : dgv b = none := by rw [dgv, if_neg e1, if_neg e2]
      rw [ed] at hp
      with_reducible refine xm_go_blk b_X12_digitOf_26 k_X12_digitOf_26 ?_
      refine by_if_eq 36 rfl ?_
      simp (disch := first | exact Nat.ne_of_beq_eq_false rfl | exact rfl | omega) only [nI_add, xa_sub, xa_mul, pk_div, nm_mod, xa_shr, xa_and7, xa_and1, xa_and255, xa_by_and, nI_m1, Nat.add_sub_cancel, Nat.reducePow, Nat.zero_add, Nat.add_zero, Nat.reduceAdd, Nat.reduceMul, Nat.reduceSub, xf_same, xq_ff, xq_fo, xf_1, xf_2, xs_1, xs_2, xs_same, xq_so, xj_1, xj_2, xj_same, xq_jo, xq_sa1, xq_same, xq_other, upd_s, oI_n, oI_s, xv_0, xv_1, xv_2, xv_3, xm_p1, xm_p2, xq_fp, xq_fn, List.filter_nil, Nat.reduceBEq, Bool.not_true, Bool.not_false, Bool.and_true, Bool.and_false, Bool.false_and, Bool.true_and, if_true, if_false, Bool.false_eq_true, reduceIte, xc_i, xc_j, xc_r, xc_n, List.nil_append, List.cons_append, Option.toList_some, Option.toList_none, nI_ltJ, nI_leJ, nI_eqJ, nI_ltz, nI_gez, nI_gtz, nI_lez, nI_eqz, m1_ltz, m1_gez, true_imp_iff, false_imp_iff, true_and, and_true, ne_eq, not_false_eq_true, not_true_eq_false, Nat.reduceEqDiff, Nat.reduceLT, Nat.reduceLeDiff]
      with_reducible refine xm_go_blk b_X12_digitOf_36 k_X12_digitOf_36 ?_
      refine by_iconst ci_m1 ?_
      refine by_nil ?_
      with_reducible refine xm_go_blk b_X12_digitOf_37 k_X12_digitOf_37 ?_
      refine by_iret ry_218 (by first | rfl | assumption) ?_
      exact hp
theorem sp_takesDigits {p n : Nat} (hF : XF h) (hl : mrow h 103 l) (ht : h.2.2 102 2 = .int (nI l.length)) (hb : mBt h bl) (hbl : bl.length + 4 * n ≤ 824000) (hn : 1 ≤ n) (hpn : p + n ≤ 100000)
    (hC : ∀ h' bs, rdDs l p n = some bs → Fr [145] [] h h' → mBt h' (bl ++ bs) → post (some (.int (nI 1))) h')
    (hB : ∀ h', rdDs l p n = none → Fr [145] [] h h' → post (some (.int (nI 0))) h') : xm_T (XE sc) (d + 3) 300 [.ref 102, .int (nI p), .int (nI bl.length), .int (nI n)] h post := by
  have hl8 := hl.2.2
  refine xq_in rfl ?_
  simp only [xq_a0, xq_aI, xq_aJ, xq_aR, Nat.reduceAdd]
  by_cases e : p + n ≤ l.length
  · have key : ∀ (j k : Nat) (bs : List Nat) (h2 : xm_H), k + j = n → rdDs l p k = some bs → Fr [145] [] h h2 → mBt h2 (bl ++ bs) → xm_go (XE sc) (xm_T (XE sc) (d + 2)) 300 post 15 [(4, .int (nI k)), (0, .ref 102), (1, .int (nI p)), (2, .int (nI bl.length)), (3, .int (nI n))] [] h2 := by
      intro j
      induction j with
      | zero =>
        intro k bs h2 hk hr f2 p2
        have : k = n := by omega
        subst this
        with_reducible refine xm_go_blk b_X12_takesDigits_15 k_X12_takesDigits_15 ?_
        refine by_iload rfl ?_
        refine by_iload_n rfl ?_
        refine by_ic_ge 87 rfl ?_
        simp (disch := first | exact Nat.ne_of_beq_eq_false rfl | exact rfl | omega) only [nI_add, xa_sub, xa_mul, pk_div, nm_mod, xa_shr, xa_and7, xa_and1, xa_and255, xa_by_and, nI_m1, Nat.add_sub_cancel, Nat.reducePow, Nat.zero_add, Nat.add_zero, Nat.reduceAdd, Nat.reduceMul, Nat.reduceSub, xf_same, xq_ff, xq_fo, xf_1, xf_2, xs_1, xs_2, xs_same, xq_so, xj_1, xj_2, xj_same, xq_jo, xq_sa1, xq_same, xq_other, upd_s, oI_n, oI_s, xv_0, xv_1, xv_2, xv_3, xm_p1, xm_p2, xq_fp, xq_fn, List.filter_nil, Nat.reduceBEq, Bool.not_true, Bool.not_false, Bool.and_true, Bool.and_false, Bool.false_and, Bool.true_and, if_true, if_false, Bool.false_eq_true, reduceIte, xc_i, xc_j, xc_r, xc_n, List.nil_append, List.cons_append, Option.toList_some, Option.toList_none, nI_ltJ, nI_leJ, nI_eqJ, nI_ltz, nI_gez, nI_gtz, nI_lez, nI_eqz, m1_ltz, m1_gez, true_imp_iff, false_imp_iff, true_and, and_true, ne_eq, not_false_eq_true, not_true_eq_false, Nat.reduceEqDiff, Nat.reduceLT, Nat.reduceLeDiff]
        refine ⟨fun c15 => ?_, fun c => absurd (by omega) c⟩
        with_reducible refine xm_go_blk b_X12_takesDigits_87 k_X12_takesDigits_87 ?_
        refine by_iconst ci_1 ?_
        refine by_iret ry_300 (by first | rfl | assumption) ?_
        exact hC h2 bs hr f2 p2
      | succ j ih =>
        intro k bs h2 hk hr f2 p2
        have F2 := Fr_XF hF f2 (by decide +kernel)
        have hlen := rdDs_len hr
        have et : h2.1 103 (p + k) = nI (l.getD (p + k) 0) := by rw [f2.1 103 (by simp)]; exact hl.1 _ (by omega)
        with_reducible refine xm_go_blk b_X12_takesDigits_15 k_X12_takesDigits_15 ?_
        refine by_iload rfl ?_
        refine by_iload_n rfl ?_
        refine by_ic_ge 87 rfl ?_
        simp (disch := first | exact Nat.ne_of_beq_eq_false rfl | exact rfl | omega) only [nI_add, xa_sub, xa_mul, pk_div, nm_mod, xa_shr, xa_and7, xa_and1, xa_and255, xa_by_and, nI_m1, Nat.add_sub_cancel, Nat.reducePow, Nat.zero_add, Nat.add_zero, Nat.reduceAdd, Nat.reduceMul, Nat.reduceSub, xf_same, xq_ff, xq_fo, xf_1, xf_2, xs_1, xs_2, xs_same, xq_so, xj_1, xj_2, xj_same, xq_jo, xq_sa1, xq_same, xq_other, upd_s, oI_n, oI_s, xv_0, xv_1, xv_2, xv_3, xm_p1, xm_p2, xq_fp, xq_fn, List.filter_nil, Nat.reduceBEq, Bool.not_true, Bool.not_false, Bool.and_true, Bool.and_false, Bool.false_and, Bool.true_and, if_true, if_false, Bool.false_eq_true, reduceIte, xc_i, xc_j, xc_r, xc_n, List.nil_append, List.cons_append, Option.toList_some, Option.toList_none, nI_ltJ, nI_leJ, nI_eqJ, nI_ltz, nI_gez, nI_gtz, nI_lez, nI_eqz, m1_ltz, m1_gez, true_imp_iff, false_imp_iff, true_and, and_true, ne_eq, not_false_eq_true, not_true_eq_false, Nat.reduceEqDiff, Nat.reduceLT, Nat.reduceLeDiff, xf_102_1 F2, et]
        refine ⟨fun c => absurd c (by omega), fun c15 => ?_⟩
        with_reducible refine xm_go_blk b_X12_takesDigits_21 k_X12_takesDigits_21 ?_
        refine by_aload_n rfl ?_
        refine by_getf cn_300 fl_12_7 (by first | exact rfl | assumption) (by decide) ?_
        refine by_iload_n rfl ?_
        refine by_iload rfl ?_
        refine by_iadd ?_
        simp (disch := first | exact Nat.ne_of_beq_eq_false rfl | exact rfl | omega) only [nI_add, xa_sub, xa_mul, pk_div, nm_mod, xa_shr, xa_and7, xa_and1, xa_and255, xa_by_and, nI_m1, Nat.add_sub_cancel, Nat.reducePow, Nat.zero_add, Nat.add_zero, Nat.reduceAdd, Nat.reduceMul, Nat.reduceSub, xf_same, xq_ff, xq_fo, xf_1, xf_2, xs_1, xs_2, xs_same, xq_so, xj_1, xj_2, xj_same, xq_jo, xq_sa1, xq_same, xq_other, upd_s, oI_n, oI_s, xf_102_1 F2, et]
        first | refine by_iald (by first | exact rfl | assumption | exact ps_1 hpp | exact ps_2 hpp | exact ps_3 hpp | exact ps_4 hpp | exact ps_5 hpp | exact ps_6 hpp | exact ps_7 hpp | exact ps_8 hpp | exact ps_9 hpp | exact ps_10 hpp | exact ps_11 hpp | exact ps_15 hpp | exact ps_16 hpp | exact ps_17 hpp | exact ps_18 hpp | exact ps_19 hpp | exact ps_21 hpp | exact ps_22 hpp | exact ps_23 hpp | exact ps_24 hpp) ⟨by omega, by omega⟩ ?_ | refine by_tald rfl rfl ⟨by omega, by omega⟩ ?_
        simp (disch := first | exact Nat.ne_of_beq_eq_false rfl | exact rfl | omega) only [nI_add, xa_sub, xa_mul, pk_div, nm_mod, xa_shr, xa_and7, xa_and1, xa_and255, xa_by_and, nI_m1, Nat.add_sub_cancel, Nat.reducePow, Nat.zero_add, Nat.add_zero, Nat.reduceAdd, Nat.reduceMul, Nat.reduceSub, xf_same, xq_ff, xq_fo, xf_1, xf_2, xs_1, xs_2, xs_same, xq_so, xj_1, xj_2, xj_same, xq_jo, xq_sa1, xq_same, xq_other, upd_s, oI_n, oI_s, xv_0, xv_1, xv_2, xv_3, xm_p1, xm_p2, xq_fp, xq_fn, List.filter_nil, Nat.reduceBEq, Bool.not_true, Bool.not_false, Bool.and_true, Bool.and_false, Bool.false_and, Bool.true_and, if_true, if_false, Bool.false_eq_true, reduceIte, xc_i, xc_j, xc_r, xc_n, List.nil_append, List.cons_append, Option.toList_some, Option.toList_none, xf_102_1 F2, et]
        refine by_ins1 cn_300 lk_12_308 (by rw [xe_cnt]; decide) is_218 np_218 (Nat.le_of_ble_eq_true rfl) ?_
        refine sp_digitOf (hl.2.1 _ (by omega)) ?_
        cases ed : dgv (l.getD (p + k) 0) with
        | none =>
          with_reducible refine xm_go_blk b_X12_takesDigits_33 k_X12_takesDigits_33 ?_
          refine by_istore (by rw [ml_300]; decide) ?_
          refine by_iload rfl ?_
          refine by_if_ge 42 rfl ?_
          simp (disch := first | exact Nat.ne_of_beq_eq_false rfl | exact rfl | omega) only [nI_add, xa_sub, xa_mul, pk_div, nm_mod, xa_shr, xa_and7, xa_and1, xa_and255, xa_by_and, nI_m1, Nat.add_sub_cancel, Nat.reducePow, Nat.zero_add, Nat.add_zero, Nat.reduceAdd, Nat.reduceMul, Nat.reduceSub, xf_same, xq_ff, xq_fo, xf_1, xf_2, xs_1, xs_2, xs_same, xq_so, xj_1, xj_2, xj_same, xq_jo, xq_sa1, xq_same, xq_other, upd_s, oI_n, oI_s, xv_0, xv_1, xv_2, xv_3, xm_p1, xm_p2, xq_fp, xq_fn, List.filter_nil, Nat.reduceBEq, Bool.not_true, Bool.not_false, Bool.and_true, Bool.and_false, Bool.false_and, Bool.true_and, if_true, if_false, Bool.false_eq_true, reduceIte, xc_i, xc_j, xc_r, xc_n, List.nil_append, List.cons_append, Option.toList_some, Option.toList_none, nI_ltJ, nI_leJ, nI_eqJ, nI_ltz, nI_gez, nI_gtz, nI_lez, nI_eqz, m1_ltz, m1_gez, true_imp_iff, false_imp_iff, true_and, and_true, ne_eq, not_false_eq_true, not_true_eq_false, Nat.reduceEqDiff, Nat.reduceLT, Nat.reduceLeDiff]
          with_reducible refine xm_go_blk b_X12_takesDigits_40 k_X12_takesDigits_40 ?_
          refine by_iconst ci_0 ?_
          refine by_iret ry_300 (by first | rfl | assumption) ?_
          exact hB h2 (rdDs_bad ed (by omega)) f2
        | some x =>
          have xl := dgv_lt ed
          have inner : ∀ (b a : Nat) (h3 : xm_H), a + b = 4 → Fr [145] [] h2 h3 → (∀ i, i < (bl ++ bs).length → h3.1 145 i = nI (bg (bl ++ bs) i)) → (∀ i, i < a → h3.1 145 (bl.length + 4 * k + i) = nI (nib x (3 - i))) → xm_go (XE sc) (xm_T (XE sc) (d + 2)) 300 post 45 [(6, .int (nI a)), (5, .int (nI x)), (4, .int (nI k)), (0, .ref 102), (1, .int (nI p)), (2, .int (nI bl.length)), (3, .int (nI n))] [] h3 := by
            intro b
            induction b with
            | zero =>
              intro a h3 ha f3 r3 z3
              have : a = 4 := by omega
              subst this
              with_reducible refine xm_go_blk b_X12_takesDigits_45 k_X12_takesDigits_45 ?_
              refine by_iload rfl ?_
              refine by_iconst ci_4 ?_
              refine by_ic_ge 81 rfl ?_
              simp (disch := first | exact Nat.ne_of_beq_eq_false rfl | exact rfl | omega) only [nI_add, xa_sub, xa_mul, pk_div, nm_mod, xa_shr, xa_and7, xa_and1, xa_and255, xa_by_and, nI_m1, Nat.add_sub_cancel, Nat.reducePow, Nat.zero_add, Nat.add_zero, Nat.reduceAdd, Nat.reduceMul, Nat.reduceSub, xf_same, xq_ff, xq_fo, xf_1, xf_2, xs_1, xs_2, xs_same, xq_so, xj_1, xj_2, xj_same, xq_jo, xq_sa1, xq_same, xq_other, upd_s, oI_n, oI_s, xv_0, xv_1, xv_2, xv_3, xm_p1, xm_p2, xq_fp, xq_fn, List.filter_nil, Nat.reduceBEq, Bool.not_true, Bool.not_false, Bool.and_true, Bool.and_false, Bool.false_and, Bool.true_and, if_true, if_false, Bool.false_eq_true, reduceIte, xc_i, xc_j, xc_r, xc_n, List.nil_append, List.cons_append, Option.toList_some, Option.toList_none, nI_ltJ, nI_leJ, nI_eqJ, nI_ltz, nI_gez, nI_gtz, nI_lez, nI_eqz, m1_ltz, m1_gez, true_imp_iff, false_imp_iff, true_and, and_true, ne_eq, not_false_eq_true, not_true_eq_false, Nat.reduceEqDiff, Nat.reduceLT, Nat.reduceLeDiff]
              with_reducible refine xm_go_blk b_X12_takesDigits_81 k_X12_takesDigits_81 ?_
              refine by_iinc (by rw [ml_300]; decide) rfl ci_1 ?_
              refine by_goto 15 rfl ?_
              try simp (disch := first | exact Nat.ne_of_beq_eq_false rfl | exact rfl | omega) only [nI_add, xa_sub, xa_mul, pk_div, nm_mod, xa_shr, xa_and7, xa_and1, xa_and255, xa_by_and, nI_m1, Nat.add_sub_cancel, Nat.reducePow, Nat.zero_add, Nat.add_zero, Nat.reduceAdd, Nat.reduceMul, Nat.reduceSub, xf_same, xq_ff, xq_fo, xf_1, xf_2, xs_1, xs_2, xs_same, xq_so, xj_1, xj_2, xj_same, xq_jo, xq_sa1, xq_same, xq_other, upd_s, oI_n, oI_s, xv_0, xv_1, xv_2, xv_3, xm_p1, xm_p2, xq_fp, xq_fn, List.filter_nil, Nat.reduceBEq, Bool.not_true, Bool.not_false, Bool.and_true, Bool.and_false, Bool.false_and, Bool.true_and, if_true, if_false, Bool.false_eq_true, reduceIte, xc_i, xc_j, xc_r, xc_n, List.nil_append, List.cons_append, Option.toList_some, Option.toList_none]
              refine xm_go_wk (by simp [Value.category]) (ih (k + 1) (bs ++ hiB (nib x) 4) h3 (by omega) (by rw [rdDs, hr, ed]) (Fr_tr f2 f3 (fun _ z => z) (fun _ z => z)) ?_)
              intro i hi
              rw [← List.append_assoc] at hi ⊢
              by_cases z : i < (bl ++ bs).length
              · rw [bg_l z]; exact r3 i z
              · obtain ⟨m, rfl⟩ : ∃ m, i = (bl ++ bs).length + m := ⟨i - (bl ++ bs).length, by omega⟩
                rw [bg_r]
                have hi2 : m < 4 := by simp only [List.length_append, hiB_len] at hi; omega
                rw [hiB_g (by omega), show 4 - 1 - m = 3 - m by omega, ← z3 m (by omega), List.length_append, hlen]
            | succ b ihb =>
              intro a h3 ha f3 r3 z3
              have F3 := Fr_XF F2 f3 (by decide +kernel)
              have en : vp_nar .byte ((nI (x / 2 ^ (3 - a) % 2)).toInt8.toInt32) = nI (nib x (3 - a)) := bb_n (nib_lt x (3 - a))
              with_reducible refine xm_go_blk b_X12_takesDigits_45 k_X12_takesDigits_45 ?_
              refine by_iload rfl ?_
              refine by_iconst ci_4 ?_
              refine by_ic_ge 81 rfl ?_
              simp (disch := first | exact Nat.ne_of_beq_eq_false rfl | exact rfl | omega) only [nI_add, xa_sub, xa_mul, pk_div, nm_mod, xa_shr, xa_and7, xa_and1, xa_and255, xa_by_and, nI_m1, Nat.add_sub_cancel, Nat.reducePow, Nat.zero_add, Nat.add_zero, Nat.reduceAdd, Nat.reduceMul, Nat.reduceSub, xf_same, xq_ff, xq_fo, xf_1, xf_2, xs_1, xs_2, xs_same, xq_so, xj_1, xj_2, xj_same, xq_jo, xq_sa1, xq_same, xq_other, upd_s, oI_n, oI_s, xv_0, xv_1, xv_2, xv_3, xm_p1, xm_p2, xq_fp, xq_fn, List.filter_nil, Nat.reduceBEq, Bool.not_true, Bool.not_false, Bool.and_true, Bool.and_false, Bool.false_and, Bool.true_and, if_true, if_false, Bool.false_eq_true, reduceIte, xc_i, xc_j, xc_r, xc_n, List.nil_append, List.cons_append, Option.toList_some, Option.toList_none, nI_ltJ, nI_leJ, nI_eqJ, nI_ltz, nI_gez, nI_gtz, nI_lez, nI_eqz, m1_ltz, m1_gez, true_imp_iff, false_imp_iff, true_and, and_true, ne_eq, not_false_eq_true, not_true_eq_false, Nat.reduceEqDiff, Nat.reduceLT, Nat.reduceLeDiff, xf_102_58 F3, en]
              refine ⟨fun c => absurd c (by omega), fun c45 => ?_⟩
              with_reducible refine xm_go_blk b_X12_takesDigits_51 k_X12_takesDigits_51 ?_
              refine by_aload_n rfl ?_
              refine by_getf cn_300 fl_12_141 (by first | exact rfl | assumption) (by decide) ?_
              refine by_iload_n rfl ?_
              refine by_iconst ci_4 ?_
              refine by_iload rfl ?_
              refine by_imul ?_
              refine by_iadd ?_
              refine by_iload rfl ?_
              refine by_iadd ?_
              refine by_iload rfl ?_
              refine by_iconst ci_3 ?_
              refine by_iload rfl ?_
              refine by_isub ?_
              refine by_ishr ?_
              refine by_iconst ci_1 ?_
              refine by_iand ?_
              refine by_i2b ?_
              simp (disch := first | exact Nat.ne_of_beq_eq_false rfl | exact rfl | omega) only [nI_add, xa_sub, xa_mul, pk_div, nm_mod, xa_shr, xa_and7, xa_and1, xa_and255, xa_by_and, nI_m1, Nat.add_sub_cancel, Nat.reducePow, Nat.zero_add, Nat.add_zero, Nat.reduceAdd, Nat.reduceMul, Nat.reduceSub, xf_same, xq_ff, xq_fo, xf_1, xf_2, xs_1, xs_2, xs_same, xq_so, xj_1, xj_2, xj_same, xq_jo, xq_sa1, xq_same, xq_other, upd_s, oI_n, oI_s, xf_102_58 F3, en]
              first | refine by_bast (by first | exact rfl | assumption | exact ps_13 hpp) ⟨by omega, by omega⟩ ?_ | refine by_zast (by first | exact rfl | assumption | exact ps_20 hpp) ⟨by omega, by omega⟩ ?_
              refine by_iinc (by rw [ml_300]; decide) rfl ci_1 ?_
              refine by_goto 45 rfl ?_
              try simp (disch := first | exact Nat.ne_of_beq_eq_false rfl | exact rfl | omega) only [nI_add, xa_sub, xa_mul, pk_div, nm_mod, xa_shr, xa_and7, xa_and1, xa_and255, xa_by_and, nI_m1, Nat.add_sub_cancel, Nat.reducePow, Nat.zero_add, Nat.add_zero, Nat.reduceAdd, Nat.reduceMul, Nat.reduceSub, xf_same, xq_ff, xq_fo, xf_1, xf_2, xs_1, xs_2, xs_same, xq_so, xj_1, xj_2, xj_same, xq_jo, xq_sa1, xq_same, xq_other, upd_s, oI_n, oI_s, xv_0, xv_1, xv_2, xv_3, xm_p1, xm_p2, xq_fp, xq_fn, List.filter_nil, Nat.reduceBEq, Bool.not_true, Bool.not_false, Bool.and_true, Bool.and_false, Bool.false_and, Bool.true_and, if_true, if_false, Bool.false_eq_true, reduceIte, xc_i, xc_j, xc_r, xc_n, List.nil_append, List.cons_append, Option.toList_some, Option.toList_none, xf_102_58 F3, en]
              refine xm_go_wk (by simp [Value.category]) (ihb (a + 1) _ (by omega) (Fr_si f3 (by simp)) (fun i hi => ?_) (fun i hi => ?_))
              · rw [List.length_append, hlen] at hi
                have : i ≠ bl.length + 4 * k + a := by omega
                rw [← r3 i (by rw [List.length_append, hlen]; exact hi)]; simp [xm_si, upd, this]
              · by_cases z : i = a
                · subst z; simp only [xm_si, upd, if_true]
                · rw [← z3 i (by omega)]
                  simp [xm_si, upd, z]
          with_reducible refine xm_go_blk b_X12_takesDigits_33 k_X12_takesDigits_33 ?_
          refine by_istore (by rw [ml_300]; decide) ?_
          refine by_iload rfl ?_
          refine by_if_ge 42 rfl ?_
          simp (disch := first | exact Nat.ne_of_beq_eq_false rfl | exact rfl | omega) only [nI_add, xa_sub, xa_mul, pk_div, nm_mod, xa_shr, xa_and7, xa_and1, xa_and255, xa_by_and, nI_m1, Nat.add_sub_cancel, Nat.reducePow, Nat.zero_add, Nat.add_zero, Nat.reduceAdd, Nat.reduceMul, Nat.reduceSub, xf_same, xq_ff, xq_fo, xf_1, xf_2, xs_1, xs_2, xs_same, xq_so, xj_1, xj_2, xj_same, xq_jo, xq_sa1, xq_same, xq_other, upd_s, oI_n, oI_s, xv_0, xv_1, xv_2, xv_3, xm_p1, xm_p2, xq_fp, xq_fn, List.filter_nil, Nat.reduceBEq, Bool.not_true, Bool.not_false, Bool.and_true, Bool.and_false, Bool.false_and, Bool.true_and, if_true, if_false, Bool.false_eq_true, reduceIte, xc_i, xc_j, xc_r, xc_n, List.nil_append, List.cons_append, Option.toList_some, Option.toList_none, nI_ltJ, nI_leJ, nI_eqJ, nI_ltz, nI_gez, nI_gtz, nI_lez, nI_eqz, m1_ltz, m1_gez, true_imp_iff, false_imp_iff, true_and, and_true, ne_eq, not_false_eq_true, not_true_eq_false, Nat.reduceEqDiff, Nat.reduceLT, Nat.reduceLeDiff]
          with_reducible refine xm_go_blk b_X12_takesDigits_42 k_X12_takesDigits_42 ?_
          refine by_iconst ci_0 ?_
          refine by_istore (by rw [ml_300]; decide) ?_
          refine by_nil ?_
          try simp (disch := first | exact Nat.ne_of_beq_eq_false rfl | exact rfl | omega) only [nI_add, xa_sub, xa_mul, pk_div, nm_mod, xa_shr, xa_and7, xa_and1, xa_and255, xa_by_and, nI_m1, Nat.add_sub_cancel, Nat.reducePow, Nat.zero_add, Nat.add_zero, Nat.reduceAdd, Nat.reduceMul, Nat.reduceSub, xf_same, xq_ff, xq_fo, xf_1, xf_2, xs_1, xs_2, xs_same, xq_so, xj_1, xj_2, xj_same, xq_jo, xq_sa1, xq_same, xq_other, upd_s, oI_n, oI_s, xv_0, xv_1, xv_2, xv_3, xm_p1, xm_p2, xq_fp, xq_fn, List.filter_nil, Nat.reduceBEq, Bool.not_true, Bool.not_false, Bool.and_true, Bool.and_false, Bool.false_and, Bool.true_and, if_true, if_false, Bool.false_eq_true, reduceIte, xc_i, xc_j, xc_r, xc_n, List.nil_append, List.cons_append, Option.toList_some, Option.toList_none]
          exact xm_go_wk (by simp [Value.category]) (inner 4 0 h2 (by omega) Fr_rf p2 (fun i hi => absurd hi (Nat.not_lt_zero _)))
    with_reducible refine xm_go_blk b_X12_takesDigits_0 k_X12_takesDigits_0 ?_
    refine by_iload_n rfl ?_
    refine by_iload_n rfl ?_
    refine by_iadd ?_
    refine by_aload_n rfl ?_
    refine by_getf cn_300 fl_12_215 (by first | exact rfl | assumption) (by decide) ?_
    simp (disch := first | exact Nat.ne_of_beq_eq_false rfl | exact rfl | omega) only [nI_add, xa_sub, xa_mul, pk_div, nm_mod, xa_shr, xa_and7, xa_and1, xa_and255, xa_by_and, nI_m1, Nat.add_sub_cancel, Nat.reducePow, Nat.zero_add, Nat.add_zero, Nat.reduceAdd, Nat.reduceMul, Nat.reduceSub, xf_same, xq_ff, xq_fo, xf_1, xf_2, xs_1, xs_2, xs_same, xq_so, xj_1, xj_2, xj_same, xq_jo, xq_sa1, xq_same, xq_other, upd_s, oI_n, oI_s, ht]
    refine by_ic_le 12 rfl ?_
    simp (disch := first | exact Nat.ne_of_beq_eq_false rfl | exact rfl | omega) only [nI_add, xa_sub, xa_mul, pk_div, nm_mod, xa_shr, xa_and7, xa_and1, xa_and255, xa_by_and, nI_m1, Nat.add_sub_cancel, Nat.reducePow, Nat.zero_add, Nat.add_zero, Nat.reduceAdd, Nat.reduceMul, Nat.reduceSub, xf_same, xq_ff, xq_fo, xf_1, xf_2, xs_1, xs_2, xs_same, xq_so, xj_1, xj_2, xj_same, xq_jo, xq_sa1, xq_same, xq_other, upd_s, oI_n, oI_s, xv_0, xv_1, xv_2, xv_3, xm_p1, xm_p2, xq_fp, xq_fn, List.filter_nil, Nat.reduceBEq, Bool.not_true, Bool.not_false, Bool.and_true, Bool.and_false, Bool.false_and, Bool.true_and, if_true, if_false, Bool.false_eq_true, reduceIte, xc_i, xc_j, xc_r, xc_n, List.nil_append, List.cons_append, Option.toList_some, Option.toList_none, nI_ltJ, nI_leJ, nI_eqJ, nI_ltz, nI_gez, nI_gtz, nI_lez, nI_eqz, m1_ltz, m1_gez, true_imp_iff, false_imp_iff, true_and, and_true, ne_eq, not_false_eq_true, not_true_eq_false, Nat.reduceEqDiff, Nat.reduceLT, Nat.reduceLeDiff, ht]
    refine ⟨fun c0 => ?_, fun c => absurd (by omega) c⟩
    with_reducible refine xm_go_blk b_X12_takesDigits_12 k_X12_takesDigits_12 ?_
    refine by_iconst ci_0 ?_
    refine by_istore (by rw [ml_300]; decide) ?_
    refine by_nil ?_
    try simp (disch := first | exact Nat.ne_of_beq_eq_false rfl | exact rfl | omega) only [nI_add, xa_sub, xa_mul, pk_div, nm_mod, xa_shr, xa_and7, xa_and1, xa_and255, xa_by_and, nI_m1, Nat.add_sub_cancel, Nat.reducePow, Nat.zero_add, Nat.add_zero, Nat.reduceAdd, Nat.reduceMul, Nat.reduceSub, xf_same, xq_ff, xq_fo, xf_1, xf_2, xs_1, xs_2, xs_same, xq_so, xj_1, xj_2, xj_same, xq_jo, xq_sa1, xq_same, xq_other, upd_s, oI_n, oI_s, xv_0, xv_1, xv_2, xv_3, xm_p1, xm_p2, xq_fp, xq_fn, List.filter_nil, Nat.reduceBEq, Bool.not_true, Bool.not_false, Bool.and_true, Bool.and_false, Bool.false_and, Bool.true_and, if_true, if_false, Bool.false_eq_true, reduceIte, xc_i, xc_j, xc_r, xc_n, List.nil_append, List.cons_append, Option.toList_some, Option.toList_none, ht]
    exact xm_go_wk (by simp [Value.category]) (key n 0 [] h (by omega) rfl Fr_rf (by rw [List.append_nil]; exact hb))
  · with_reducible refine xm_go_blk b_X12_takesDigits_0 k_X12_takesDigits_0 ?_
    refine by_iload_n rfl ?_
    refine by_iload_n rfl ?_
    refine by_iadd ?_
    refine by_aload_n rfl ?_
    refine by_getf cn_300 fl_12_215 (by first | exact rfl | assumption) (by decide) ?_
    simp (disch := first | exact Nat.ne_of_beq_eq_false rfl | exact rfl | omega) only [nI_add, xa_sub, xa_mul, pk_div, nm_mod, xa_shr, xa_and7, xa_and1, xa_and255, xa_by_and, nI_m1, Nat.add_sub_cancel, Nat.reducePow, Nat.zero_add, Nat.add_zero, Nat.reduceAdd, Nat.reduceMul, Nat.reduceSub, xf_same, xq_ff, xq_fo, xf_1, xf_2, xs_1, xs_2, xs_same, xq_so, xj_1, xj_2, xj_same, xq_jo, xq_sa1, xq_same, xq_other, upd_s, oI_n, oI_s, ht]
    refine by_ic_le 12 rfl ?_
    simp (disch := first | exact Nat.ne_of_beq_eq_false rfl | exact rfl | omega) only [nI_add, xa_sub, xa_mul, pk_div, nm_mod, xa_shr, xa_and7, xa_and1, xa_and255, xa_by_and, nI_m1, Nat.add_sub_cancel, Nat.reducePow, Nat.zero_add, Nat.add_zero, Nat.reduceAdd, Nat.reduceMul, Nat.reduceSub, xf_same, xq_ff, xq_fo, xf_1, xf_2, xs_1, xs_2, xs_same, xq_so, xj_1, xj_2, xj_same, xq_jo, xq_sa1, xq_same, xq_other, upd_s, oI_n, oI_s, xv_0, xv_1, xv_2, xv_3, xm_p1, xm_p2, xq_fp, xq_fn, List.filter_nil, Nat.reduceBEq, Bool.not_true, Bool.not_false, Bool.and_true, Bool.and_false, Bool.false_and, Bool.true_and, if_true, if_false, Bool.false_eq_true, reduceIte, xc_i, xc_j, xc_r, xc_n, List.nil_append, List.cons_append, Option.toList_some, Option.toList_none, nI_ltJ, nI_leJ, nI_eqJ, nI_ltz, nI_gez, nI_gtz, nI_lez, nI_eqz, m1_ltz, m1_gez, true_imp_iff, false_imp_iff, true_and, and_true, ne_eq, not_false_eq_true, not_true_eq_false, Nat.reduceEqDiff, Nat.reduceLT, Nat.reduceLeDiff, ht]
    refine ⟨fun c => absurd c (by omega), fun c0 => ?_⟩
    with_reducible refine xm_go_blk b_X12_takesDigits_10 k_X12_takesDigits_10 ?_
    refine by_iconst ci_0 ?_
    refine by_iret ry_300 (by first | rfl | assumption) ?_
    refine hB h ?_ Fr_rf
    exact rdDs_bad (k := n - 1) (by rw [gN_out (by omega)]; rfl) (by omega)
end TD
