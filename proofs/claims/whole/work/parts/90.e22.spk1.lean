/-! ===== speak: numbers ===== -/
def nmT (n : Nat) : List Nat := (if n < 100 then [] else [48 + n / 100]) ++ ((if n < 10 then [] else [48 + n / 10 % 10]) ++ [48 + n % 10])
theorem nmT_lt {n : Nat} (hn : n < 1000) : ∀ x ∈ nmT n, x < 256 := by
  intro x hx
  unfold nmT at hx
  simp only [List.mem_append, List.mem_singleton] at hx
  rcases hx with h | h | h
  · split at h
    · cases h
    · simp at h; omega
  · split at h
    · cases h
    · simp at h; omega
  · omega
theorem xa_by_nI (a : Nat) : xa_by (nI a) = a % 256 := by
  unfold xa_by
  show (BitVec.ofNat 32 a).toNat % 256 = _
  rw [BitVec.toNat_ofNat]
  omega
section SK
variable {sc : xm_Sc} {d n : Nat} {l : List Nat} {h : xm_H} {post : xm_Po}
theorem sp_putNumber (hF : XF h) (hl : penIs h l) (hn : n < 1000) (hp : ∀ h', Fr [6] [(5, 1), (5, 2)] h h' → penIs h' (l ++ nmT n) → post none h') : xm_T (XE sc) (d + 2) 139 [.ref 5, .int (nI n)] h post := by
  refine xq_in rfl ?_
  simp only [xq_a0, xq_aI, xq_aJ, xq_aR, Nat.reduceAdd]
  have s3 : ∀ h1 l1, Fr [6] [(5, 1), (5, 2)] h h1 → penIs h1 l1 → l1 ++ [48 + n % 10] = l ++ nmT n → xm_go (XE sc) (xm_T (XE sc) (d + 1)) 139 post 40 [(0, .ref 5), (1, .int (nI n))] [] h1 := by
    intro h1 l1 f1 p1 e1
    have F1 := Fr_XF hF f1 (by decide +kernel)
    with_reducible refine xm_go_blk b_X8_putNumber_40 k_X8_putNumber_40 ?_
    refine by_aload_n rfl ?_
    refine by_bipush cb_48 ?_
    refine by_iload_n rfl ?_
    refine by_bipush cb_10 ?_
    refine by_irem (by first | decide | assumption) ?_
    refine by_iadd ?_
    simp (disch := first | exact Nat.ne_of_beq_eq_false rfl | exact rfl | omega) only [nI_add, xa_sub, xa_mul, pk_div, nm_mod, xa_shr, xa_and7, xa_and1, xa_and255, xa_by_and, nI_m1, Nat.add_sub_cancel, Nat.reducePow, Nat.zero_add, Nat.add_zero, Nat.reduceAdd, Nat.reduceMul, Nat.reduceSub, xf_same, xq_ff, xq_fo, xf_1, xf_2, xs_1, xs_2, xs_same, xq_so, xj_1, xj_2, xj_same, xq_jo, xq_sa1, xq_same, xq_other, upd_s, oI_n, oI_s, xv_0, xv_1, xv_2, xv_3, xm_p1, xm_p2, xq_fp, xq_fn, List.filter_nil, Nat.reduceBEq, Bool.not_true, Bool.not_false, Bool.and_true, Bool.and_false, Bool.false_and, Bool.true_and, if_true, if_false, Bool.false_eq_true, reduceIte, xc_i, xc_j, xc_r, xc_n, List.nil_append, List.cons_append, Option.toList_some, Option.toList_none]
    refine by_inv1 cn_139 lk_8_42 (by rw [xe_cnt]; decide) is_133 np_133 cn_133 (by first | exact rfl | assumption | exact ps_12 hpp) (Nat.le_of_ble_eq_true rfl) ?_
    refine sp_pen F1 p1 (by omega) (fun h2 f2 p2 => ?_)
    with_reducible refine xm_go_blk b_X8_putNumber_51 k_X8_putNumber_51 ?_
    refine by_ret ry_139 ?_
    rw [e1] at p2
    exact hp h2 (Fr_tr f1 f2 (fun _ z => z) (fun _ z => z)) p2
  have s2 : ∀ h1 l1, Fr [6] [(5, 1), (5, 2)] h h1 → penIs h1 l1 → l1 ++ ((if n < 10 then [] else [48 + n / 10 % 10]) ++ [48 + n % 10]) = l ++ nmT n → xm_go (XE sc) (xm_T (XE sc) (d + 1)) 139 post 20 [(0, .ref 5), (1, .int (nI n))] [] h1 := by
    intro h1 l1 f1 p1 e1
    have F1 := Fr_XF hF f1 (by decide +kernel)
    by_cases e : n < 10
    · rw [if_pos e, List.nil_append] at e1
      with_reducible refine xm_go_blk b_X8_putNumber_20 k_X8_putNumber_20 ?_
      refine by_iload_n rfl ?_
      refine by_bipush cb_10 ?_
      refine by_ic_lt 40 rfl ?_
      simp (disch := first | exact Nat.ne_of_beq_eq_false rfl | exact rfl | omega) only [nI_add, xa_sub, xa_mul, pk_div, nm_mod, xa_shr, xa_and7, xa_and1, xa_and255, xa_by_and, nI_m1, Nat.add_sub_cancel, Nat.reducePow, Nat.zero_add, Nat.add_zero, Nat.reduceAdd, Nat.reduceMul, Nat.reduceSub, xf_same, xq_ff, xq_fo, xf_1, xf_2, xs_1, xs_2, xs_same, xq_so, xj_1, xj_2, xj_same, xq_jo, xq_sa1, xq_same, xq_other, upd_s, oI_n, oI_s, xv_0, xv_1, xv_2, xv_3, xm_p1, xm_p2, xq_fp, xq_fn, List.filter_nil, Nat.reduceBEq, Bool.not_true, Bool.not_false, Bool.and_true, Bool.and_false, Bool.false_and, Bool.true_and, if_true, if_false, Bool.false_eq_true, reduceIte, xc_i, xc_j, xc_r, xc_n, List.nil_append, List.cons_append, Option.toList_some, Option.toList_none, nI_ltJ, nI_leJ, nI_eqJ, nI_ltz, nI_gez, nI_gtz, nI_lez, nI_eqz, m1_ltz, m1_gez, true_imp_iff, false_imp_iff, true_and, and_true, ne_eq, not_false_eq_true, not_true_eq_false, Nat.reduceEqDiff, Nat.reduceLT, Nat.reduceLeDiff]
      refine ⟨fun c20 => ?_, fun c => absurd (by omega) c⟩
      exact s3 h1 l1 f1 p1 e1
    · rw [if_neg e, ← List.append_assoc] at e1
      with_reducible refine xm_go_blk b_X8_putNumber_20 k_X8_putNumber_20 ?_
      refine by_iload_n rfl ?_
      refine by_bipush cb_10 ?_
      refine by_ic_lt 40 rfl ?_
      simp (disch := first | exact Nat.ne_of_beq_eq_false rfl | exact rfl | omega) only [nI_add, xa_sub, xa_mul, pk_div, nm_mod, xa_shr, xa_and7, xa_and1, xa_and255, xa_by_and, nI_m1, Nat.add_sub_cancel, Nat.reducePow, Nat.zero_add, Nat.add_zero, Nat.reduceAdd, Nat.reduceMul, Nat.reduceSub, xf_same, xq_ff, xq_fo, xf_1, xf_2, xs_1, xs_2, xs_same, xq_so, xj_1, xj_2, xj_same, xq_jo, xq_sa1, xq_same, xq_other, upd_s, oI_n, oI_s, xv_0, xv_1, xv_2, xv_3, xm_p1, xm_p2, xq_fp, xq_fn, List.filter_nil, Nat.reduceBEq, Bool.not_true, Bool.not_false, Bool.and_true, Bool.and_false, Bool.false_and, Bool.true_and, if_true, if_false, Bool.false_eq_true, reduceIte, xc_i, xc_j, xc_r, xc_n, List.nil_append, List.cons_append, Option.toList_some, Option.toList_none, nI_ltJ, nI_leJ, nI_eqJ, nI_ltz, nI_gez, nI_gtz, nI_lez, nI_eqz, m1_ltz, m1_gez, true_imp_iff, false_imp_iff, true_and, and_true, ne_eq, not_false_eq_true, not_true_eq_false, Nat.reduceEqDiff, Nat.reduceLT, Nat.reduceLeDiff]
      refine ⟨fun c => absurd c (by omega), fun c20 => ?_⟩
      with_reducible refine xm_go_blk b_X8_putNumber_26 k_X8_putNumber_26 ?_
      refine by_aload_n rfl ?_
      refine by_bipush cb_48 ?_
      refine by_iload_n rfl ?_
      refine by_bipush cb_10 ?_
      refine by_idiv (by first | decide | assumption) ?_
      refine by_bipush cb_10 ?_
      refine by_irem (by first | decide | assumption) ?_
      refine by_iadd ?_
      simp (disch := first | exact Nat.ne_of_beq_eq_false rfl | exact rfl | omega) only [nI_add, xa_sub, xa_mul, pk_div, nm_mod, xa_shr, xa_and7, xa_and1, xa_and255, xa_by_and, nI_m1, Nat.add_sub_cancel, Nat.reducePow, Nat.zero_add, Nat.add_zero, Nat.reduceAdd, Nat.reduceMul, Nat.reduceSub, xf_same, xq_ff, xq_fo, xf_1, xf_2, xs_1, xs_2, xs_same, xq_so, xj_1, xj_2, xj_same, xq_jo, xq_sa1, xq_same, xq_other, upd_s, oI_n, oI_s, xv_0, xv_1, xv_2, xv_3, xm_p1, xm_p2, xq_fp, xq_fn, List.filter_nil, Nat.reduceBEq, Bool.not_true, Bool.not_false, Bool.and_true, Bool.and_false, Bool.false_and, Bool.true_and, if_true, if_false, Bool.false_eq_true, reduceIte, xc_i, xc_j, xc_r, xc_n, List.nil_append, List.cons_append, Option.toList_some, Option.toList_none]
      refine by_inv1 cn_139 lk_8_42 (by rw [xe_cnt]; decide) is_133 np_133 cn_133 (by first | exact rfl | assumption | exact ps_12 hpp) (Nat.le_of_ble_eq_true rfl) ?_
      refine sp_pen F1 p1 (by omega) (fun h2 f2 p2 => ?_)
      exact s3 h2 _ (Fr_tr f1 f2 (fun _ z => z) (fun _ z => z)) p2 e1
  by_cases e : n < 100
  · with_reducible refine xm_go_blk b_X8_putNumber_0 k_X8_putNumber_0 ?_
    refine by_iload_n rfl ?_
    refine by_bipush cb_100 ?_
    refine by_ic_lt 20 rfl ?_
    simp (disch := first | exact Nat.ne_of_beq_eq_false rfl | exact rfl | omega) only [nI_add, xa_sub, xa_mul, pk_div, nm_mod, xa_shr, xa_and7, xa_and1, xa_and255, xa_by_and, nI_m1, Nat.add_sub_cancel, Nat.reducePow, Nat.zero_add, Nat.add_zero, Nat.reduceAdd, Nat.reduceMul, Nat.reduceSub, xf_same, xq_ff, xq_fo, xf_1, xf_2, xs_1, xs_2, xs_same, xq_so, xj_1, xj_2, xj_same, xq_jo, xq_sa1, xq_same, xq_other, upd_s, oI_n, oI_s, xv_0, xv_1, xv_2, xv_3, xm_p1, xm_p2, xq_fp, xq_fn, List.filter_nil, Nat.reduceBEq, Bool.not_true, Bool.not_false, Bool.and_true, Bool.and_false, Bool.false_and, Bool.true_and, if_true, if_false, Bool.false_eq_true, reduceIte, xc_i, xc_j, xc_r, xc_n, List.nil_append, List.cons_append, Option.toList_some, Option.toList_none, nI_ltJ, nI_leJ, nI_eqJ, nI_ltz, nI_gez, nI_gtz, nI_lez, nI_eqz, m1_ltz, m1_gez, true_imp_iff, false_imp_iff, true_and, and_true, ne_eq, not_false_eq_true, not_true_eq_false, Nat.reduceEqDiff, Nat.reduceLT, Nat.reduceLeDiff]
    refine ⟨fun c0 => ?_, fun c => absurd (by omega) c⟩
    exact s2 h l Fr_rf hl (by unfold nmT; rw [if_pos e, List.nil_append])
  · have e10 : n / 100 % 10 = n / 100 := Nat.mod_eq_of_lt (by omega)
    with_reducible refine xm_go_blk b_X8_putNumber_0 k_X8_putNumber_0 ?_
    refine by_iload_n rfl ?_
    refine by_bipush cb_100 ?_
    refine by_ic_lt 20 rfl ?_
    simp (disch := first | exact Nat.ne_of_beq_eq_false rfl | exact rfl | omega) only [nI_add, xa_sub, xa_mul, pk_div, nm_mod, xa_shr, xa_and7, xa_and1, xa_and255, xa_by_and, nI_m1, Nat.add_sub_cancel, Nat.reducePow, Nat.zero_add, Nat.add_zero, Nat.reduceAdd, Nat.reduceMul, Nat.reduceSub, xf_same, xq_ff, xq_fo, xf_1, xf_2, xs_1, xs_2, xs_same, xq_so, xj_1, xj_2, xj_same, xq_jo, xq_sa1, xq_same, xq_other, upd_s, oI_n, oI_s, xv_0, xv_1, xv_2, xv_3, xm_p1, xm_p2, xq_fp, xq_fn, List.filter_nil, Nat.reduceBEq, Bool.not_true, Bool.not_false, Bool.and_true, Bool.and_false, Bool.false_and, Bool.true_and, if_true, if_false, Bool.false_eq_true, reduceIte, xc_i, xc_j, xc_r, xc_n, List.nil_append, List.cons_append, Option.toList_some, Option.toList_none, nI_ltJ, nI_leJ, nI_eqJ, nI_ltz, nI_gez, nI_gtz, nI_lez, nI_eqz, m1_ltz, m1_gez, true_imp_iff, false_imp_iff, true_and, and_true, ne_eq, not_false_eq_true, not_true_eq_false, Nat.reduceEqDiff, Nat.reduceLT, Nat.reduceLeDiff, e10]
    refine ⟨fun c => absurd c (by omega), fun c0 => ?_⟩
    with_reducible refine xm_go_blk b_X8_putNumber_6 k_X8_putNumber_6 ?_
    refine by_aload_n rfl ?_
    refine by_bipush cb_48 ?_
    refine by_iload_n rfl ?_
    refine by_bipush cb_100 ?_
    refine by_idiv (by first | decide | assumption) ?_
    refine by_bipush cb_10 ?_
    refine by_irem (by first | decide | assumption) ?_
    refine by_iadd ?_
    simp (disch := first | exact Nat.ne_of_beq_eq_false rfl | exact rfl | omega) only [nI_add, xa_sub, xa_mul, pk_div, nm_mod, xa_shr, xa_and7, xa_and1, xa_and255, xa_by_and, nI_m1, Nat.add_sub_cancel, Nat.reducePow, Nat.zero_add, Nat.add_zero, Nat.reduceAdd, Nat.reduceMul, Nat.reduceSub, xf_same, xq_ff, xq_fo, xf_1, xf_2, xs_1, xs_2, xs_same, xq_so, xj_1, xj_2, xj_same, xq_jo, xq_sa1, xq_same, xq_other, upd_s, oI_n, oI_s, xv_0, xv_1, xv_2, xv_3, xm_p1, xm_p2, xq_fp, xq_fn, List.filter_nil, Nat.reduceBEq, Bool.not_true, Bool.not_false, Bool.and_true, Bool.and_false, Bool.false_and, Bool.true_and, if_true, if_false, Bool.false_eq_true, reduceIte, xc_i, xc_j, xc_r, xc_n, List.nil_append, List.cons_append, Option.toList_some, Option.toList_none, e10]
    refine by_inv1 cn_139 lk_8_42 (by rw [xe_cnt]; decide) is_133 np_133 cn_133 (by first | exact rfl | assumption | exact ps_12 hpp) (Nat.le_of_ble_eq_true rfl) ?_
    refine sp_pen hF hl (by omega) (fun h2 f2 p2 => ?_)
    exact s2 h2 _ f2 p2 (by unfold nmT; rw [if_neg e]; simp only [List.append_assoc])
theorem sp_makeNumber (hF : XF h) (hl : mkIs h l) (hn : n < 1000) (hp : ∀ h', Fr [147] [(102, 61)] h h' → mkIs h' (l ++ nmT n) → post none h') : xm_T (XE sc) (d + 2) 257 [.ref 102, .int (nI n)] h post := by
  refine xq_in rfl ?_
  simp only [xq_a0, xq_aI, xq_aJ, xq_aR, Nat.reduceAdd]
  have s3 : ∀ h1 l1, Fr [147] [(102, 61)] h h1 → mkIs h1 l1 → l1 ++ [48 + n % 10] = l ++ nmT n → xm_go (XE sc) (xm_T (XE sc) (d + 1)) 257 post 37 [(0, .ref 102), (1, .int (nI n))] [] h1 := by
    intro h1 l1 f1 p1 e1
    have F1 := Fr_XF hF f1 (by decide +kernel)
    with_reducible refine xm_go_blk b_X12_makeNumber_37 k_X12_makeNumber_37 ?_
    refine by_aload_n rfl ?_
    refine by_bipush cb_48 ?_
    refine by_iload_n rfl ?_
    refine by_bipush cb_10 ?_
    refine by_irem (by first | decide | assumption) ?_
    refine by_iadd ?_
    simp (disch := first | exact Nat.ne_of_beq_eq_false rfl | exact rfl | omega) only [nI_add, xa_sub, xa_mul, pk_div, nm_mod, xa_shr, xa_and7, xa_and1, xa_and255, xa_by_and, nI_m1, Nat.add_sub_cancel, Nat.reducePow, Nat.zero_add, Nat.add_zero, Nat.reduceAdd, Nat.reduceMul, Nat.reduceSub, xf_same, xq_ff, xq_fo, xf_1, xf_2, xs_1, xs_2, xs_same, xq_so, xj_1, xj_2, xj_same, xq_jo, xq_sa1, xq_same, xq_other, upd_s, oI_n, oI_s, xv_0, xv_1, xv_2, xv_3, xm_p1, xm_p2, xq_fp, xq_fn, List.filter_nil, Nat.reduceBEq, Bool.not_true, Bool.not_false, Bool.and_true, Bool.and_false, Bool.false_and, Bool.true_and, if_true, if_false, Bool.false_eq_true, reduceIte, xc_i, xc_j, xc_r, xc_n, List.nil_append, List.cons_append, Option.toList_some, Option.toList_none]
    refine by_inv1 cn_257 lk_12_296 (by rw [xe_cnt]; decide) is_254 np_254 cn_254 (by first | exact rfl | assumption) (Nat.le_of_ble_eq_true rfl) ?_
    refine sp_make F1 p1 (fun h2 f2 p2 => ?_)
    with_reducible refine xm_go_blk b_X12_makeNumber_48 k_X12_makeNumber_48 ?_
    refine by_ret ry_257 ?_
    rw [e1] at p2
    exact hp h2 (Fr_tr f1 f2 (fun _ z => z) (fun _ z => z)) p2
  have s2 : ∀ h1 l1, Fr [147] [(102, 61)] h h1 → mkIs h1 l1 → l1 ++ ((if n < 10 then [] else [48 + n / 10 % 10]) ++ [48 + n % 10]) = l ++ nmT n → xm_go (XE sc) (xm_T (XE sc) (d + 1)) 257 post 17 [(0, .ref 102), (1, .int (nI n))] [] h1 := by
    intro h1 l1 f1 p1 e1
    have F1 := Fr_XF hF f1 (by decide +kernel)
    by_cases e : n < 10
    · rw [if_pos e, List.nil_append] at e1
      with_reducible refine xm_go_blk b_X12_makeNumber_17 k_X12_makeNumber_17 ?_
      refine by_iload_n rfl ?_
      refine by_bipush cb_9 ?_
      refine by_ic_le 37 rfl ?_
      simp (disch := first | exact Nat.ne_of_beq_eq_false rfl | exact rfl | omega) only [nI_add, xa_sub, xa_mul, pk_div, nm_mod, xa_shr, xa_and7, xa_and1, xa_and255, xa_by_and, nI_m1, Nat.add_sub_cancel, Nat.reducePow, Nat.zero_add, Nat.add_zero, Nat.reduceAdd, Nat.reduceMul, Nat.reduceSub, xf_same, xq_ff, xq_fo, xf_1, xf_2, xs_1, xs_2, xs_same, xq_so, xj_1, xj_2, xj_same, xq_jo, xq_sa1, xq_same, xq_other, upd_s, oI_n, oI_s, xv_0, xv_1, xv_2, xv_3, xm_p1, xm_p2, xq_fp, xq_fn, List.filter_nil, Nat.reduceBEq, Bool.not_true, Bool.not_false, Bool.and_true, Bool.and_false, Bool.false_and, Bool.true_and, if_true, if_false, Bool.false_eq_true, reduceIte, xc_i, xc_j, xc_r, xc_n, List.nil_append, List.cons_append, Option.toList_some, Option.toList_none, nI_ltJ, nI_leJ, nI_eqJ, nI_ltz, nI_gez, nI_gtz, nI_lez, nI_eqz, m1_ltz, m1_gez, true_imp_iff, false_imp_iff, true_and, and_true, ne_eq, not_false_eq_true, not_true_eq_false, Nat.reduceEqDiff, Nat.reduceLT, Nat.reduceLeDiff]
      refine ⟨fun c17 => ?_, fun c => absurd (by omega) c⟩
      exact s3 h1 l1 f1 p1 e1
    · rw [if_neg e, ← List.append_assoc] at e1
      with_reducible refine xm_go_blk b_X12_makeNumber_17 k_X12_makeNumber_17 ?_
      refine by_iload_n rfl ?_
      refine by_bipush cb_9 ?_
      refine by_ic_le 37 rfl ?_
      simp (disch := first | exact Nat.ne_of_beq_eq_false rfl | exact rfl | omega) only [nI_add, xa_sub, xa_mul, pk_div, nm_mod, xa_shr, xa_and7, xa_and1, xa_and255, xa_by_and, nI_m1, Nat.add_sub_cancel, Nat.reducePow, Nat.zero_add, Nat.add_zero, Nat.reduceAdd, Nat.reduceMul, Nat.reduceSub, xf_same, xq_ff, xq_fo, xf_1, xf_2, xs_1, xs_2, xs_same, xq_so, xj_1, xj_2, xj_same, xq_jo, xq_sa1, xq_same, xq_other, upd_s, oI_n, oI_s, xv_0, xv_1, xv_2, xv_3, xm_p1, xm_p2, xq_fp, xq_fn, List.filter_nil, Nat.reduceBEq, Bool.not_true, Bool.not_false, Bool.and_true, Bool.and_false, Bool.false_and, Bool.true_and, if_true, if_false, Bool.false_eq_true, reduceIte, xc_i, xc_j, xc_r, xc_n, List.nil_append, List.cons_append, Option.toList_some, Option.toList_none, nI_ltJ, nI_leJ, nI_eqJ, nI_ltz, nI_gez, nI_gtz, nI_lez, nI_eqz, m1_ltz, m1_gez, true_imp_iff, false_imp_iff, true_and, and_true, ne_eq, not_false_eq_true, not_true_eq_false, Nat.reduceEqDiff, Nat.reduceLT, Nat.reduceLeDiff]
      refine ⟨fun c => absurd c (by omega), fun c17 => ?_⟩
      with_reducible refine xm_go_blk b_X12_makeNumber_23 k_X12_makeNumber_23 ?_
      refine by_aload_n rfl ?_
      refine by_bipush cb_48 ?_
      refine by_iload_n rfl ?_
      refine by_bipush cb_10 ?_
      refine by_idiv (by first | decide | assumption) ?_
      refine by_bipush cb_10 ?_
      refine by_irem (by first | decide | assumption) ?_
      refine by_iadd ?_
      simp (disch := first | exact Nat.ne_of_beq_eq_false rfl | exact rfl | omega) only [nI_add, xa_sub, xa_mul, pk_div, nm_mod, xa_shr, xa_and7, xa_and1, xa_and255, xa_by_and, nI_m1, Nat.add_sub_cancel, Nat.reducePow, Nat.zero_add, Nat.add_zero, Nat.reduceAdd, Nat.reduceMul, Nat.reduceSub, xf_same, xq_ff, xq_fo, xf_1, xf_2, xs_1, xs_2, xs_same, xq_so, xj_1, xj_2, xj_same, xq_jo, xq_sa1, xq_same, xq_other, upd_s, oI_n, oI_s, xv_0, xv_1, xv_2, xv_3, xm_p1, xm_p2, xq_fp, xq_fn, List.filter_nil, Nat.reduceBEq, Bool.not_true, Bool.not_false, Bool.and_true, Bool.and_false, Bool.false_and, Bool.true_and, if_true, if_false, Bool.false_eq_true, reduceIte, xc_i, xc_j, xc_r, xc_n, List.nil_append, List.cons_append, Option.toList_some, Option.toList_none]
      refine by_inv1 cn_257 lk_12_296 (by rw [xe_cnt]; decide) is_254 np_254 cn_254 (by first | exact rfl | assumption) (Nat.le_of_ble_eq_true rfl) ?_
      refine sp_make F1 p1 (fun h2 f2 p2 => ?_)
      exact s3 h2 _ (Fr_tr f1 f2 (fun _ z => z) (fun _ z => z)) p2 e1
  by_cases e : n < 100
  · with_reducible refine xm_go_blk b_X12_makeNumber_0 k_X12_makeNumber_0 ?_
    refine by_iload_n rfl ?_
    refine by_bipush cb_99 ?_
    refine by_ic_le 17 rfl ?_
    simp (disch := first | exact Nat.ne_of_beq_eq_false rfl | exact rfl | omega) only [nI_add, xa_sub, xa_mul, pk_div, nm_mod, xa_shr, xa_and7, xa_and1, xa_and255, xa_by_and, nI_m1, Nat.add_sub_cancel, Nat.reducePow, Nat.zero_add, Nat.add_zero, Nat.reduceAdd, Nat.reduceMul, Nat.reduceSub, xf_same, xq_ff, xq_fo, xf_1, xf_2, xs_1, xs_2, xs_same, xq_so, xj_1, xj_2, xj_same, xq_jo, xq_sa1, xq_same, xq_other, upd_s, oI_n, oI_s, xv_0, xv_1, xv_2, xv_3, xm_p1, xm_p2, xq_fp, xq_fn, List.filter_nil, Nat.reduceBEq, Bool.not_true, Bool.not_false, Bool.and_true, Bool.and_false, Bool.false_and, Bool.true_and, if_true, if_false, Bool.false_eq_true, reduceIte, xc_i, xc_j, xc_r, xc_n, List.nil_append, List.cons_append, Option.toList_some, Option.toList_none, nI_ltJ, nI_leJ, nI_eqJ, nI_ltz, nI_gez, nI_gtz, nI_lez, nI_eqz, m1_ltz, m1_gez, true_imp_iff, false_imp_iff, true_and, and_true, ne_eq, not_false_eq_true, not_true_eq_false, Nat.reduceEqDiff, Nat.reduceLT, Nat.reduceLeDiff]
    refine ⟨fun c0 => ?_, fun c => absurd (by omega) c⟩
    exact s2 h l Fr_rf hl (by unfold nmT; rw [if_pos e, List.nil_append])
  · with_reducible refine xm_go_blk b_X12_makeNumber_0 k_X12_makeNumber_0 ?_
    refine by_iload_n rfl ?_
    refine by_bipush cb_99 ?_
    refine by_ic_le 17 rfl ?_
    simp (disch := first | exact Nat.ne_of_beq_eq_false rfl | exact rfl | omega) only [nI_add, xa_sub, xa_mul, pk_div, nm_mod, xa_shr, xa_and7, xa_and1, xa_and255, xa_by_and, nI_m1, Nat.add_sub_cancel, Nat.reducePow, Nat.zero_add, Nat.add_zero, Nat.reduceAdd, Nat.reduceMul, Nat.reduceSub, xf_same, xq_ff, xq_fo, xf_1, xf_2, xs_1, xs_2, xs_same, xq_so, xj_1, xj_2, xj_same, xq_jo, xq_sa1, xq_same, xq_other, upd_s, oI_n, oI_s, xv_0, xv_1, xv_2, xv_3, xm_p1, xm_p2, xq_fp, xq_fn, List.filter_nil, Nat.reduceBEq, Bool.not_true, Bool.not_false, Bool.and_true, Bool.and_false, Bool.false_and, Bool.true_and, if_true, if_false, Bool.false_eq_true, reduceIte, xc_i, xc_j, xc_r, xc_n, List.nil_append, List.cons_append, Option.toList_some, Option.toList_none, nI_ltJ, nI_leJ, nI_eqJ, nI_ltz, nI_gez, nI_gtz, nI_lez, nI_eqz, m1_ltz, m1_gez, true_imp_iff, false_imp_iff, true_and, and_true, ne_eq, not_false_eq_true, not_true_eq_false, Nat.reduceEqDiff, Nat.reduceLT, Nat.reduceLeDiff]
    refine ⟨fun c => absurd c (by omega), fun c0 => ?_⟩
    with_reducible refine xm_go_blk b_X12_makeNumber_6 k_X12_makeNumber_6 ?_
    refine by_aload_n rfl ?_
    refine by_bipush cb_48 ?_
    refine by_iload_n rfl ?_
    refine by_bipush cb_100 ?_
    refine by_idiv (by first | decide | assumption) ?_
    refine by_iadd ?_
    simp (disch := first | exact Nat.ne_of_beq_eq_false rfl | exact rfl | omega) only [nI_add, xa_sub, xa_mul, pk_div, nm_mod, xa_shr, xa_and7, xa_and1, xa_and255, xa_by_and, nI_m1, Nat.add_sub_cancel, Nat.reducePow, Nat.zero_add, Nat.add_zero, Nat.reduceAdd, Nat.reduceMul, Nat.reduceSub, xf_same, xq_ff, xq_fo, xf_1, xf_2, xs_1, xs_2, xs_same, xq_so, xj_1, xj_2, xj_same, xq_jo, xq_sa1, xq_same, xq_other, upd_s, oI_n, oI_s, xv_0, xv_1, xv_2, xv_3, xm_p1, xm_p2, xq_fp, xq_fn, List.filter_nil, Nat.reduceBEq, Bool.not_true, Bool.not_false, Bool.and_true, Bool.and_false, Bool.false_and, Bool.true_and, if_true, if_false, Bool.false_eq_true, reduceIte, xc_i, xc_j, xc_r, xc_n, List.nil_append, List.cons_append, Option.toList_some, Option.toList_none]
    refine by_inv1 cn_257 lk_12_296 (by rw [xe_cnt]; decide) is_254 np_254 cn_254 (by first | exact rfl | assumption) (Nat.le_of_ble_eq_true rfl) ?_
    refine sp_make hF hl (fun h2 f2 p2 => ?_)
    exact s2 h2 _ f2 p2 (by unfold nmT; rw [if_neg e]; simp only [List.append_assoc])
theorem sp_makeName (hF : XF h) (hl : mkIs h l) (hn : n < 1000) (hp : ∀ h', Fr [147] [(102, 61)] h h' → mkIs h' (l ++ (110 :: nmT n)) → post none h') : xm_T (XE sc) (d + 3) 256 [.ref 102, .int (nI n)] h post := by
  refine xq_in rfl ?_
  simp only [xq_a0, xq_aI, xq_aJ, xq_aR, Nat.reduceAdd]
  with_reducible refine xm_go_blk b_X12_makeName_0 k_X12_makeName_0 ?_
  refine by_aload_n rfl ?_
  refine by_bipush cb_110 ?_
  refine by_inv1 cn_256 lk_12_296 (by rw [xe_cnt]; decide) is_254 np_254 cn_254 (by first | exact rfl | assumption) (Nat.le_of_ble_eq_true rfl) ?_
  refine sp_make hF hl (fun h2 f2 p2 => ?_)
  have F2 := Fr_XF hF f2 (by decide +kernel)
  with_reducible refine xm_go_blk b_X12_makeName_6 k_X12_makeName_6 ?_
  refine by_aload_n rfl ?_
  refine by_iload_n rfl ?_
  refine by_inv1 cn_256 lk_12_580 (by rw [xe_cnt]; decide) is_257 np_257 cn_257 (by first | exact rfl | assumption) (Nat.le_of_ble_eq_true rfl) ?_
  refine sp_makeNumber F2 p2 hn (fun h3 f3 p3 => ?_)
  with_reducible refine xm_go_blk b_X12_makeName_11 k_X12_makeName_11 ?_
  refine by_ret ry_256 ?_
  rw [List.append_assoc] at p3
  exact hp h3 (Fr_tr f2 f3 (fun _ z => z) (fun _ z => z)) p3
/-- letters of a word of eight, zeros left out -/
def ltB (v i : Nat) : List Nat := if v / 2 ^ (8 * i) % 256 = 0 then [] else [v / 2 ^ (8 * i) % 256]
def ltL (v : Nat) : Nat → List Nat
  | 0 => []
  | i + 1 => ltB v i ++ ltL v i
theorem sp_putLetters {v : Nat} (hF : XF h) (hl : penIs h l) (hv : v < 2 ^ 64) (hp : ∀ h', Fr [6] [(5, 1), (5, 2)] h h' → penIs h' (l ++ ltL v 8) → post none h') : xm_T (XE sc) (d + 2) 137 [.ref 5, .long (lN v)] h post := by
  have key : ∀ (i : Nat) (l1 : List Nat) (h1 : xm_H), i ≤ 8 → Fr [6] [(5, 1), (5, 2)] h h1 → penIs h1 l1 → l1 ++ ltL v i = l ++ ltL v 8 → xm_go (XE sc) (xm_T (XE sc) (d + 1)) 137 post 3 [(3, .int (if i = 0 then -8 else nI (8 * (i - 1)))), (0, .ref 5), (1, .long (lN v))] [] h1 := by
    intro i
    induction i with
    | zero =>
      intro l1 h1 hi f1 p1 e1
      simp only [if_true]
      with_reducible refine xm_go_blk b_X8_putLetters_3 k_X8_putLetters_3 ?_
      refine by_iload_n rfl ?_
      refine by_if_lt 34 rfl ?_
      simp (disch := first | exact Nat.ne_of_beq_eq_false rfl | exact rfl | omega) only [nI_add, xa_sub, xa_mul, pk_div, nm_mod, xa_shr, xa_and7, xa_and1, xa_and255, xa_by_and, nI_m1, Nat.add_sub_cancel, Nat.reducePow, Nat.zero_add, Nat.add_zero, Nat.reduceAdd, Nat.reduceMul, Nat.reduceSub, xf_same, xq_ff, xq_fo, xf_1, xf_2, xs_1, xs_2, xs_same, xq_so, xj_1, xj_2, xj_same, xq_jo, xq_sa1, xq_same, xq_other, upd_s, oI_n, oI_s, xv_0, xv_1, xv_2, xv_3, xm_p1, xm_p2, xq_fp, xq_fn, List.filter_nil, Nat.reduceBEq, Bool.not_true, Bool.not_false, Bool.and_true, Bool.and_false, Bool.false_and, Bool.true_and, if_true, if_false, Bool.false_eq_true, reduceIte, xc_i, xc_j, xc_r, xc_n, List.nil_append, List.cons_append, Option.toList_some, Option.toList_none, nI_ltJ, nI_leJ, nI_eqJ, nI_ltz, nI_gez, nI_gtz, nI_lez, nI_eqz, m1_ltz, m1_gez, true_imp_iff, false_imp_iff, true_and, and_true, ne_eq, not_false_eq_true, not_true_eq_false, Nat.reduceEqDiff, Nat.reduceLT, Nat.reduceLeDiff]
      refine ⟨fun _ => ?_, fun c => absurd (by decide) c⟩
      with_reducible refine xm_go_blk b_X8_putLetters_34 k_X8_putLetters_34 ?_
      refine by_ret ry_137 ?_
      have e2 : l1 = l ++ ltL v 8 := by rw [← e1]; exact (List.append_nil _).symm
      rw [e2] at p1
      exact hp h1 f1 p1
    | succ i ih =>
      intro l1 h1 hi f1 p1 e1
      rw [if_neg (by omega), Nat.add_sub_cancel]
      have wbs := wb_shr (k := 8 * i) hv (by omega)
      have m8 : nI (8 * i) + (-8) = (if i = 0 then -8 else nI (8 * (i - 1))) := (by decide : ∀ i, i < 8 → nI (8 * i) + (-8) = if i = 0 then -8 else nI (8 * (i - 1))) i (by omega)
      have hlt := Nat.mod_lt (v / 2 ^ (8 * i)) (show 0 < 256 by decide)
      obtain ⟨b, hb⟩ : ∃ b, v / 2 ^ (8 * i) % 256 = b := ⟨_, rfl⟩
      have eL : ltL v (i + 1) = (if b = 0 then [] else [b]) ++ ltL v i := by
        show ltB v i ++ ltL v i = _
        unfold ltB
        rw [hb]
      have hb2 : xa_by (nI (v / 2 ^ (8 * i))) = b := by rw [xa_by_nI]; exact hb
      rw [hb] at hlt
      rw [eL] at e1
      by_cases e : b = 0
      · rw [if_pos e, List.nil_append] at e1
        with_reducible refine xm_go_blk b_X8_putLetters_3 k_X8_putLetters_3 ?_
        refine by_iload_n rfl ?_
        refine by_if_lt 34 rfl ?_
        simp (disch := first | exact Nat.ne_of_beq_eq_false rfl | exact rfl | omega) only [nI_add, xa_sub, xa_mul, pk_div, nm_mod, xa_shr, xa_and7, xa_and1, xa_and255, xa_by_and, nI_m1, Nat.add_sub_cancel, Nat.reducePow, Nat.zero_add, Nat.add_zero, Nat.reduceAdd, Nat.reduceMul, Nat.reduceSub, xf_same, xq_ff, xq_fo, xf_1, xf_2, xs_1, xs_2, xs_same, xq_so, xj_1, xj_2, xj_same, xq_jo, xq_sa1, xq_same, xq_other, upd_s, oI_n, oI_s, xv_0, xv_1, xv_2, xv_3, xm_p1, xm_p2, xq_fp, xq_fn, List.filter_nil, Nat.reduceBEq, Bool.not_true, Bool.not_false, Bool.and_true, Bool.and_false, Bool.false_and, Bool.true_and, if_true, if_false, Bool.false_eq_true, reduceIte, xc_i, xc_j, xc_r, xc_n, List.nil_append, List.cons_append, Option.toList_some, Option.toList_none, nI_ltJ, nI_leJ, nI_eqJ, nI_ltz, nI_gez, nI_gtz, nI_lez, nI_eqz, m1_ltz, m1_gez, true_imp_iff, false_imp_iff, true_and, and_true, ne_eq, not_false_eq_true, not_true_eq_false, Nat.reduceEqDiff, Nat.reduceLT, Nat.reduceLeDiff, wbs, l2i_n, hb2, m8]
        with_reducible refine xm_go_blk b_X8_putLetters_7 k_X8_putLetters_7 ?_
        refine by_lload_n rfl ?_
        refine by_iload_n rfl ?_
        refine by_lushr ?_
        refine by_l2i ?_
        refine by_sipush cs_255 ?_
        refine by_iand ?_
        refine by_istore (by rw [ml_137]; decide) ?_
        refine by_iload rfl ?_
        refine by_if_eq 28 rfl ?_
        simp (disch := first | exact Nat.ne_of_beq_eq_false rfl | exact rfl | omega) only [nI_add, xa_sub, xa_mul, pk_div, nm_mod, xa_shr, xa_and7, xa_and1, xa_and255, xa_by_and, nI_m1, Nat.add_sub_cancel, Nat.reducePow, Nat.zero_add, Nat.add_zero, Nat.reduceAdd, Nat.reduceMul, Nat.reduceSub, xf_same, xq_ff, xq_fo, xf_1, xf_2, xs_1, xs_2, xs_same, xq_so, xj_1, xj_2, xj_same, xq_jo, xq_sa1, xq_same, xq_other, upd_s, oI_n, oI_s, xv_0, xv_1, xv_2, xv_3, xm_p1, xm_p2, xq_fp, xq_fn, List.filter_nil, Nat.reduceBEq, Bool.not_true, Bool.not_false, Bool.and_true, Bool.and_false, Bool.false_and, Bool.true_and, if_true, if_false, Bool.false_eq_true, reduceIte, xc_i, xc_j, xc_r, xc_n, List.nil_append, List.cons_append, Option.toList_some, Option.toList_none, nI_ltJ, nI_leJ, nI_eqJ, nI_ltz, nI_gez, nI_gtz, nI_lez, nI_eqz, m1_ltz, m1_gez, true_imp_iff, false_imp_iff, true_and, and_true, ne_eq, not_false_eq_true, not_true_eq_false, Nat.reduceEqDiff, Nat.reduceLT, Nat.reduceLeDiff, wbs, l2i_n, hb2, m8]
        refine ⟨fun c7 => ?_, fun c => absurd (by omega) c⟩
        with_reducible refine xm_go_blk b_X8_putLetters_28 k_X8_putLetters_28 ?_
        refine by_iinc (by rw [ml_137]; decide) rfl (by decide : Int32.ofInt (-8) = (-8 : Int32)) ?_
        refine by_goto 3 rfl ?_
        try simp (disch := first | exact Nat.ne_of_beq_eq_false rfl | exact rfl | omega) only [nI_add, xa_sub, xa_mul, pk_div, nm_mod, xa_shr, xa_and7, xa_and1, xa_and255, xa_by_and, nI_m1, Nat.add_sub_cancel, Nat.reducePow, Nat.zero_add, Nat.add_zero, Nat.reduceAdd, Nat.reduceMul, Nat.reduceSub, xf_same, xq_ff, xq_fo, xf_1, xf_2, xs_1, xs_2, xs_same, xq_so, xj_1, xj_2, xj_same, xq_jo, xq_sa1, xq_same, xq_other, upd_s, oI_n, oI_s, xv_0, xv_1, xv_2, xv_3, xm_p1, xm_p2, xq_fp, xq_fn, List.filter_nil, Nat.reduceBEq, Bool.not_true, Bool.not_false, Bool.and_true, Bool.and_false, Bool.false_and, Bool.true_and, if_true, if_false, Bool.false_eq_true, reduceIte, xc_i, xc_j, xc_r, xc_n, List.nil_append, List.cons_append, Option.toList_some, Option.toList_none, wbs, l2i_n, hb2, m8]
        exact xm_go_wk (by simp [Value.category]) (ih l1 h1 (by omega) f1 p1 e1)
      · rw [if_neg e, ← List.append_assoc] at e1
        with_reducible refine xm_go_blk b_X8_putLetters_3 k_X8_putLetters_3 ?_
        refine by_iload_n rfl ?_
        refine by_if_lt 34 rfl ?_
        simp (disch := first | exact Nat.ne_of_beq_eq_false rfl | exact rfl | omega) only [nI_add, xa_sub, xa_mul, pk_div, nm_mod, xa_shr, xa_and7, xa_and1, xa_and255, xa_by_and, nI_m1, Nat.add_sub_cancel, Nat.reducePow, Nat.zero_add, Nat.add_zero, Nat.reduceAdd, Nat.reduceMul, Nat.reduceSub, xf_same, xq_ff, xq_fo, xf_1, xf_2, xs_1, xs_2, xs_same, xq_so, xj_1, xj_2, xj_same, xq_jo, xq_sa1, xq_same, xq_other, upd_s, oI_n, oI_s, xv_0, xv_1, xv_2, xv_3, xm_p1, xm_p2, xq_fp, xq_fn, List.filter_nil, Nat.reduceBEq, Bool.not_true, Bool.not_false, Bool.and_true, Bool.and_false, Bool.false_and, Bool.true_and, if_true, if_false, Bool.false_eq_true, reduceIte, xc_i, xc_j, xc_r, xc_n, List.nil_append, List.cons_append, Option.toList_some, Option.toList_none, nI_ltJ, nI_leJ, nI_eqJ, nI_ltz, nI_gez, nI_gtz, nI_lez, nI_eqz, m1_ltz, m1_gez, true_imp_iff, false_imp_iff, true_and, and_true, ne_eq, not_false_eq_true, not_true_eq_false, Nat.reduceEqDiff, Nat.reduceLT, Nat.reduceLeDiff, wbs, l2i_n, hb2]
        with_reducible refine xm_go_blk b_X8_putLetters_7 k_X8_putLetters_7 ?_
        refine by_lload_n rfl ?_
        refine by_iload_n rfl ?_
        refine by_lushr ?_
        refine by_l2i ?_
        refine by_sipush cs_255 ?_
        refine by_iand ?_
        refine by_istore (by rw [ml_137]; decide) ?_
        refine by_iload rfl ?_
        refine by_if_eq 28 rfl ?_
        simp (disch := first | exact Nat.ne_of_beq_eq_false rfl | exact rfl | omega) only [nI_add, xa_sub, xa_mul, pk_div, nm_mod, xa_shr, xa_and7, xa_and1, xa_and255, xa_by_and, nI_m1, Nat.add_sub_cancel, Nat.reducePow, Nat.zero_add, Nat.add_zero, Nat.reduceAdd, Nat.reduceMul, Nat.reduceSub, xf_same, xq_ff, xq_fo, xf_1, xf_2, xs_1, xs_2, xs_same, xq_so, xj_1, xj_2, xj_same, xq_jo, xq_sa1, xq_same, xq_other, upd_s, oI_n, oI_s, xv_0, xv_1, xv_2, xv_3, xm_p1, xm_p2, xq_fp, xq_fn, List.filter_nil, Nat.reduceBEq, Bool.not_true, Bool.not_false, Bool.and_true, Bool.and_false, Bool.false_and, Bool.true_and, if_true, if_false, Bool.false_eq_true, reduceIte, xc_i, xc_j, xc_r, xc_n, List.nil_append, List.cons_append, Option.toList_some, Option.toList_none, nI_ltJ, nI_leJ, nI_eqJ, nI_ltz, nI_gez, nI_gtz, nI_lez, nI_eqz, m1_ltz, m1_gez, true_imp_iff, false_imp_iff, true_and, and_true, ne_eq, not_false_eq_true, not_true_eq_false, Nat.reduceEqDiff, Nat.reduceLT, Nat.reduceLeDiff, wbs, l2i_n, hb2]
        refine ⟨fun c => absurd c (by omega), fun c7 => ?_⟩
        with_reducible refine xm_go_blk b_X8_putLetters_22 k_X8_putLetters_22 ?_
        refine by_aload_n rfl ?_
        refine by_iload rfl ?_
        refine by_inv1 cn_137 lk_8_42 (by rw [xe_cnt]; decide) is_133 np_133 cn_133 (by first | exact rfl | assumption | exact ps_12 hpp) (Nat.le_of_ble_eq_true rfl) ?_
        refine sp_pen (Fr_XF hF f1 (by decide +kernel)) p1 (by omega) (fun h2 f2 p2 => ?_)
        with_reducible refine xm_go_blk b_X8_putLetters_28 k_X8_putLetters_28 ?_
        refine by_iinc (by rw [ml_137]; decide) rfl (by decide : Int32.ofInt (-8) = (-8 : Int32)) ?_
        refine by_goto 3 rfl ?_
        try simp (disch := first | exact Nat.ne_of_beq_eq_false rfl | exact rfl | omega) only [nI_add, xa_sub, xa_mul, pk_div, nm_mod, xa_shr, xa_and7, xa_and1, xa_and255, xa_by_and, nI_m1, Nat.add_sub_cancel, Nat.reducePow, Nat.zero_add, Nat.add_zero, Nat.reduceAdd, Nat.reduceMul, Nat.reduceSub, xf_same, xq_ff, xq_fo, xf_1, xf_2, xs_1, xs_2, xs_same, xq_so, xj_1, xj_2, xj_same, xq_jo, xq_sa1, xq_same, xq_other, upd_s, oI_n, oI_s, xv_0, xv_1, xv_2, xv_3, xm_p1, xm_p2, xq_fp, xq_fn, List.filter_nil, Nat.reduceBEq, Bool.not_true, Bool.not_false, Bool.and_true, Bool.and_false, Bool.false_and, Bool.true_and, if_true, if_false, Bool.false_eq_true, reduceIte, xc_i, xc_j, xc_r, xc_n, List.nil_append, List.cons_append, Option.toList_some, Option.toList_none, m8]
        exact xm_go_wk (by simp [Value.category]) (ih _ h2 (by omega) (Fr_tr f1 f2 (fun _ z => z) (fun _ z => z)) p2 e1)
  refine xq_in rfl ?_
  simp only [xq_a0, xq_aI, xq_aJ, xq_aR, Nat.reduceAdd]
  with_reducible refine xm_go_blk b_X8_putLetters_0 k_X8_putLetters_0 ?_
  refine by_bipush cb_56 ?_
  refine by_istore_n (by rw [ml_137]; decide) ?_
  refine by_nil ?_
  try simp (disch := first | exact Nat.ne_of_beq_eq_false rfl | exact rfl | omega) only [nI_add, xa_sub, xa_mul, pk_div, nm_mod, xa_shr, xa_and7, xa_and1, xa_and255, xa_by_and, nI_m1, Nat.add_sub_cancel, Nat.reducePow, Nat.zero_add, Nat.add_zero, Nat.reduceAdd, Nat.reduceMul, Nat.reduceSub, xf_same, xq_ff, xq_fo, xf_1, xf_2, xs_1, xs_2, xs_same, xq_so, xj_1, xj_2, xj_same, xq_jo, xq_sa1, xq_same, xq_other, upd_s, oI_n, oI_s, xv_0, xv_1, xv_2, xv_3, xm_p1, xm_p2, xq_fp, xq_fn, List.filter_nil, Nat.reduceBEq, Bool.not_true, Bool.not_false, Bool.and_true, Bool.and_false, Bool.false_and, Bool.true_and, if_true, if_false, Bool.false_eq_true, reduceIte, xc_i, xc_j, xc_r, xc_n, List.nil_append, List.cons_append, Option.toList_some, Option.toList_none]
  exact xm_go_wk (by simp [Value.category]) (key 8 l h (by omega) Fr_rf hl rfl)
end SK
