/-! ===== jets of the class: divide, multiply ===== -/
theorem lc_neg {b : Nat} (hb : b < 2 ^ 64) : (0 ≤ lg_cmp (lN b) (lN 0)) = (b < 2 ^ 63) := by
  rw [lg_ge]
  apply propext
  rw [Int64.le_iff_toInt_le, lN_ti hb, lN_ti (show 0 < 2 ^ 64 by decide)]
  split <;> simp only [Nat.reducePow] at * <;> omega
theorem q_even {a b : Nat} (hb : 0 < b) : a / b = if a - 2 * (a / 2 / b) * b < b then 2 * (a / 2 / b) else 2 * (a / 2 / b) + 1 := by
  have h1 := Nat.div_add_mod (a / 2) b
  have h2 := Nat.mod_lt (a / 2) hb
  have h3 : 2 * (a / 2 / b) * b = 2 * (b * (a / 2 / b)) := by rw [Nat.mul_assoc, Nat.mul_comm (a / 2 / b) b]
  rw [h3]
  split
  · rename_i q
    refine Nat.div_eq_of_lt_le ?_ ?_
    · rw [h3]; omega
    · rw [Nat.succ_mul, h3]; omega
  · rename_i q
    refine Nat.div_eq_of_lt_le ?_ ?_
    · rw [Nat.succ_mul, h3]; omega
    · rw [Nat.succ_mul, Nat.succ_mul, h3]; omega
theorem q_le {a b : Nat} : 2 * (a / 2 / b) * b ≤ a := by
  have h1 := Nat.div_mul_le_self (a / 2) b
  rw [Nat.mul_assoc]; omega
section J5
variable {sc : xm_Sc} {d w c x y z v : Nat} {h : xm_H} {post : xm_Po}
theorem sp_quotient {a b : Nat} (ha : a < 2 ^ 64) (hb : b < 2 ^ 64) (hb0 : b ≠ 0) (hp : post (some (.long (lN (a / b)))) h) : xm_T (XE sc) (d + 2) 63 [.long (lN a), .long (lN b)] h post := by
  have e1 := lc_neg hb
  have e2 := lcz hb (show 0 < 2 ^ 64 by decide)
  have e2' : (b = 0) = False := eq_false hb0
  refine xq_in rfl ?_
  simp only [xq_a0, xq_aI, xq_aJ, xq_aR, Nat.reduceAdd]
  by_cases q : b < 2 ^ 63
  · have q' : (b < 2 ^ 63) = True := eq_true q
    have es : ((lN a).toUInt64 >>> ((nI 1).toInt64.toUInt64 &&& Int64.toUInt64 63)).toInt64 = lN (a / 2) := wb_shr (k := 1) ha (by decide)
    have ed : lN (a / 2) / lN b = lN (a / 2 / b) := dv_n (by omega) q
    have el : lN (a / 2 / b) <<< ((nI 1).toInt64 &&& 63) = lN (2 * (a / 2 / b)) := by rw [wb_shl _ (by decide)]; congr 1; omega
    have hle := q_le (a := a) (b := b)
    have er : lN a - lN (2 * (a / 2 / b) * b) = lN (a - 2 * (a / 2 / b) * b) := by
      rw [lN_sb (by omega), wb_mod (a + 2 ^ 64 - 2 * (a / 2 / b) * b), show a + 2 ^ 64 - 2 * (a / 2 / b) * b = a - 2 * (a / 2 / b) * b + 2 ^ 64 by omega, Nat.add_mod_right, ← wb_mod]
    have hq := q_even (a := a) (b := b) (by omega)
    have hne : ¬ lN b = 0 := fun e => hb0 (by
      have := congrArg (fun t : Int64 => t.toBitVec.toNat) e
      simp only [wb_tn hb] at this
      exact this)
    with_reducible refine xm_go_blk b_X2_quotient_0 k_X2_quotient_0 ?_
    refine by_lload_n rfl ?_
    refine by_lconst cl_0 ?_
    refine by_lcmp ?_
    refine by_if_ge 20 rfl ?_
    simp (disch := first | exact Nat.ne_of_beq_eq_false rfl | exact rfl | omega) only [nI_add, xa_sub, xa_mul, pk_div, nm_mod, xa_shr, xa_and7, xa_and1, xa_and255, xa_by_and, nI_m1, Nat.add_sub_cancel, Nat.reducePow, Nat.zero_add, Nat.add_zero, Nat.reduceAdd, Nat.reduceMul, Nat.reduceSub, xf_same, xq_ff, xq_fo, xf_1, xf_2, xs_1, xs_2, xs_same, xq_so, xj_1, xj_2, xj_same, xq_jo, xq_sa1, xq_same, xq_other, upd_s, oI_n, oI_s, xv_0, xv_1, xv_2, xv_3, xm_p1, xm_p2, xq_fp, xq_fn, List.filter_nil, Nat.reduceBEq, Bool.not_true, Bool.not_false, Bool.and_true, Bool.and_false, Bool.false_and, Bool.true_and, if_true, if_false, Bool.false_eq_true, reduceIte, xc_i, xc_j, xc_r, xc_n, List.nil_append, List.cons_append, Option.toList_some, Option.toList_none, nI_ltJ, nI_leJ, nI_eqJ, nI_ltz, nI_gez, nI_gtz, nI_lez, nI_eqz, m1_ltz, m1_gez, true_imp_iff, false_imp_iff, true_and, and_true, ne_eq, not_false_eq_true, not_true_eq_false, Nat.reduceEqDiff, Nat.reduceLT, Nat.reduceLeDiff, e1, q', e2, e2', es, ed, el, ml_n, er]
    with_reducible refine xm_go_blk b_X2_quotient_20 k_X2_quotient_20 ?_
    refine by_lload_n rfl ?_
    refine by_lconst cl_0 ?_
    refine by_lcmp ?_
    refine by_if_ne 28 rfl ?_
    simp (disch := first | exact Nat.ne_of_beq_eq_false rfl | exact rfl | omega) only [nI_add, xa_sub, xa_mul, pk_div, nm_mod, xa_shr, xa_and7, xa_and1, xa_and255, xa_by_and, nI_m1, Nat.add_sub_cancel, Nat.reducePow, Nat.zero_add, Nat.add_zero, Nat.reduceAdd, Nat.reduceMul, Nat.reduceSub, xf_same, xq_ff, xq_fo, xf_1, xf_2, xs_1, xs_2, xs_same, xq_so, xj_1, xj_2, xj_same, xq_jo, xq_sa1, xq_same, xq_other, upd_s, oI_n, oI_s, xv_0, xv_1, xv_2, xv_3, xm_p1, xm_p2, xq_fp, xq_fn, List.filter_nil, Nat.reduceBEq, Bool.not_true, Bool.not_false, Bool.and_true, Bool.and_false, Bool.false_and, Bool.true_and, if_true, if_false, Bool.false_eq_true, reduceIte, xc_i, xc_j, xc_r, xc_n, List.nil_append, List.cons_append, Option.toList_some, Option.toList_none, nI_ltJ, nI_leJ, nI_eqJ, nI_ltz, nI_gez, nI_gtz, nI_lez, nI_eqz, m1_ltz, m1_gez, true_imp_iff, false_imp_iff, true_and, and_true, ne_eq, not_false_eq_true, not_true_eq_false, Nat.reduceEqDiff, Nat.reduceLT, Nat.reduceLeDiff, e1, q', e2, e2', es, ed, el, ml_n, er]
    with_reducible refine xm_go_blk b_X2_quotient_28 k_X2_quotient_28 ?_
    refine by_lload_n rfl ?_
    refine by_iconst ci_1 ?_
    refine by_lushr ?_
    refine by_lload_n rfl ?_
    refine by_ldiv (by first | decide | assumption) ?_
    refine by_iconst ci_1 ?_
    refine by_lshl ?_
    refine by_lstore (by rw [ml_63]; decide) ?_
    refine by_lload_n rfl ?_
    refine by_lload rfl ?_
    refine by_lload_n rfl ?_
    refine by_lmul ?_
    refine by_lsub ?_
    refine by_lload_n rfl ?_
    simp (disch := first | exact Nat.ne_of_beq_eq_false rfl | exact rfl | omega) only [nI_add, xa_sub, xa_mul, pk_div, nm_mod, xa_shr, xa_and7, xa_and1, xa_and255, xa_by_and, nI_m1, Nat.add_sub_cancel, Nat.reducePow, Nat.zero_add, Nat.add_zero, Nat.reduceAdd, Nat.reduceMul, Nat.reduceSub, xf_same, xq_ff, xq_fo, xf_1, xf_2, xs_1, xs_2, xs_same, xq_so, xj_1, xj_2, xj_same, xq_jo, xq_sa1, xq_same, xq_other, upd_s, oI_n, oI_s, xv_0, xv_1, xv_2, xv_3, xm_p1, xm_p2, xq_fp, xq_fn, List.filter_nil, Nat.reduceBEq, Bool.not_true, Bool.not_false, Bool.and_true, Bool.and_false, Bool.false_and, Bool.true_and, if_true, if_false, Bool.false_eq_true, reduceIte, xc_i, xc_j, xc_r, xc_n, List.nil_append, List.cons_append, Option.toList_some, Option.toList_none, e1, q', e2, e2', es, ed, el, ml_n, er]
    refine by_ins2 cn_63 lk_2_106 (by rw [xe_cnt]; decide) is_57 np_57 (Nat.le_of_ble_eq_true rfl) ?_
    refine sp_isBelow (by omega) hb ?_
    by_cases q2 : a - 2 * (a / 2 / b) * b < b
    · rw [if_pos q2] at hq ⊢
      rw [hq] at hp
      with_reducible refine xm_go_blk b_X2_quotient_47 k_X2_quotient_47 ?_
      refine by_if_eq 55 rfl ?_
      simp (disch := first | exact Nat.ne_of_beq_eq_false rfl | exact rfl | omega) only [nI_add, xa_sub, xa_mul, pk_div, nm_mod, xa_shr, xa_and7, xa_and1, xa_and255, xa_by_and, nI_m1, Nat.add_sub_cancel, Nat.reducePow, Nat.zero_add, Nat.add_zero, Nat.reduceAdd, Nat.reduceMul, Nat.reduceSub, xf_same, xq_ff, xq_fo, xf_1, xf_2, xs_1, xs_2, xs_same, xq_so, xj_1, xj_2, xj_same, xq_jo, xq_sa1, xq_same, xq_other, upd_s, oI_n, oI_s, xv_0, xv_1, xv_2, xv_3, xm_p1, xm_p2, xq_fp, xq_fn, List.filter_nil, Nat.reduceBEq, Bool.not_true, Bool.not_false, Bool.and_true, Bool.and_false, Bool.false_and, Bool.true_and, if_true, if_false, Bool.false_eq_true, reduceIte, xc_i, xc_j, xc_r, xc_n, List.nil_append, List.cons_append, Option.toList_some, Option.toList_none, nI_ltJ, nI_leJ, nI_eqJ, nI_ltz, nI_gez, nI_gtz, nI_lez, nI_eqz, m1_ltz, m1_gez, true_imp_iff, false_imp_iff, true_and, and_true, ne_eq, not_false_eq_true, not_true_eq_false, Nat.reduceEqDiff, Nat.reduceLT, Nat.reduceLeDiff]
      with_reducible refine xm_go_blk b_X2_quotient_50 k_X2_quotient_50 ?_
      refine by_lload rfl ?_
      refine by_goto 59 rfl ?_
      with_reducible refine xm_go_blk b_X2_quotient_59 k_X2_quotient_59 ?_
      refine by_lret ry_63 ?_
      exact hp
    · rw [if_neg q2] at hq ⊢
      rw [hq] at hp
      with_reducible refine xm_go_blk b_X2_quotient_47 k_X2_quotient_47 ?_
      refine by_if_eq 55 rfl ?_
      simp (disch := first | exact Nat.ne_of_beq_eq_false rfl | exact rfl | omega) only [nI_add, xa_sub, xa_mul, pk_div, nm_mod, xa_shr, xa_and7, xa_and1, xa_and255, xa_by_and, nI_m1, Nat.add_sub_cancel, Nat.reducePow, Nat.zero_add, Nat.add_zero, Nat.reduceAdd, Nat.reduceMul, Nat.reduceSub, xf_same, xq_ff, xq_fo, xf_1, xf_2, xs_1, xs_2, xs_same, xq_so, xj_1, xj_2, xj_same, xq_jo, xq_sa1, xq_same, xq_other, upd_s, oI_n, oI_s, xv_0, xv_1, xv_2, xv_3, xm_p1, xm_p2, xq_fp, xq_fn, List.filter_nil, Nat.reduceBEq, Bool.not_true, Bool.not_false, Bool.and_true, Bool.and_false, Bool.false_and, Bool.true_and, if_true, if_false, Bool.false_eq_true, reduceIte, xc_i, xc_j, xc_r, xc_n, List.nil_append, List.cons_append, Option.toList_some, Option.toList_none, nI_ltJ, nI_leJ, nI_eqJ, nI_ltz, nI_gez, nI_gtz, nI_lez, nI_eqz, m1_ltz, m1_gez, true_imp_iff, false_imp_iff, true_and, and_true, ne_eq, not_false_eq_true, not_true_eq_false, Nat.reduceEqDiff, Nat.reduceLT, Nat.reduceLeDiff, lN_pl]
      with_reducible refine xm_go_blk b_X2_quotient_55 k_X2_quotient_55 ?_
      refine by_lload rfl ?_
      refine by_lconst cl_1 ?_
      refine by_ladd ?_
      refine by_nil ?_
      try simp (disch := first | exact Nat.ne_of_beq_eq_false rfl | exact rfl | omega) only [nI_add, xa_sub, xa_mul, pk_div, nm_mod, xa_shr, xa_and7, xa_and1, xa_and255, xa_by_and, nI_m1, Nat.add_sub_cancel, Nat.reducePow, Nat.zero_add, Nat.add_zero, Nat.reduceAdd, Nat.reduceMul, Nat.reduceSub, xf_same, xq_ff, xq_fo, xf_1, xf_2, xs_1, xs_2, xs_same, xq_so, xj_1, xj_2, xj_same, xq_jo, xq_sa1, xq_same, xq_other, upd_s, oI_n, oI_s, xv_0, xv_1, xv_2, xv_3, xm_p1, xm_p2, xq_fp, xq_fn, List.filter_nil, Nat.reduceBEq, Bool.not_true, Bool.not_false, Bool.and_true, Bool.and_false, Bool.false_and, Bool.true_and, if_true, if_false, Bool.false_eq_true, reduceIte, xc_i, xc_j, xc_r, xc_n, List.nil_append, List.cons_append, Option.toList_some, Option.toList_none, lN_pl]
      with_reducible refine xm_go_blk b_X2_quotient_59 k_X2_quotient_59 ?_
      refine by_lret ry_63 ?_
      exact hp
  · have q' : (b < 2 ^ 63) = False := eq_false q
    with_reducible refine xm_go_blk b_X2_quotient_0 k_X2_quotient_0 ?_
    refine by_lload_n rfl ?_
    refine by_lconst cl_0 ?_
    refine by_lcmp ?_
    refine by_if_ge 20 rfl ?_
    simp (disch := first | exact Nat.ne_of_beq_eq_false rfl | exact rfl | omega) only [nI_add, xa_sub, xa_mul, pk_div, nm_mod, xa_shr, xa_and7, xa_and1, xa_and255, xa_by_and, nI_m1, Nat.add_sub_cancel, Nat.reducePow, Nat.zero_add, Nat.add_zero, Nat.reduceAdd, Nat.reduceMul, Nat.reduceSub, xf_same, xq_ff, xq_fo, xf_1, xf_2, xs_1, xs_2, xs_same, xq_so, xj_1, xj_2, xj_same, xq_jo, xq_sa1, xq_same, xq_other, upd_s, oI_n, oI_s, xv_0, xv_1, xv_2, xv_3, xm_p1, xm_p2, xq_fp, xq_fn, List.filter_nil, Nat.reduceBEq, Bool.not_true, Bool.not_false, Bool.and_true, Bool.and_false, Bool.false_and, Bool.true_and, if_true, if_false, Bool.false_eq_true, reduceIte, xc_i, xc_j, xc_r, xc_n, List.nil_append, List.cons_append, Option.toList_some, Option.toList_none, nI_ltJ, nI_leJ, nI_eqJ, nI_ltz, nI_gez, nI_gtz, nI_lez, nI_eqz, m1_ltz, m1_gez, true_imp_iff, false_imp_iff, true_and, and_true, ne_eq, not_false_eq_true, not_true_eq_false, Nat.reduceEqDiff, Nat.reduceLT, Nat.reduceLeDiff, e1, q']
    with_reducible refine xm_go_blk b_X2_quotient_6 k_X2_quotient_6 ?_
    refine by_lload_n rfl ?_
    refine by_lload_n rfl ?_
    refine by_ins2 cn_63 lk_2_106 (by rw [xe_cnt]; decide) is_57 np_57 (Nat.le_of_ble_eq_true rfl) ?_
    refine sp_isBelow ha hb ?_
    by_cases q2 : a < b
    · rw [if_pos q2]
      rw [Nat.div_eq_of_lt q2] at hp
      with_reducible refine xm_go_blk b_X2_quotient_11 k_X2_quotient_11 ?_
      refine by_if_eq 18 rfl ?_
      simp (disch := first | exact Nat.ne_of_beq_eq_false rfl | exact rfl | omega) only [nI_add, xa_sub, xa_mul, pk_div, nm_mod, xa_shr, xa_and7, xa_and1, xa_and255, xa_by_and, nI_m1, Nat.add_sub_cancel, Nat.reducePow, Nat.zero_add, Nat.add_zero, Nat.reduceAdd, Nat.reduceMul, Nat.reduceSub, xf_same, xq_ff, xq_fo, xf_1, xf_2, xs_1, xs_2, xs_same, xq_so, xj_1, xj_2, xj_same, xq_jo, xq_sa1, xq_same, xq_other, upd_s, oI_n, oI_s, xv_0, xv_1, xv_2, xv_3, xm_p1, xm_p2, xq_fp, xq_fn, List.filter_nil, Nat.reduceBEq, Bool.not_true, Bool.not_false, Bool.and_true, Bool.and_false, Bool.false_and, Bool.true_and, if_true, if_false, Bool.false_eq_true, reduceIte, xc_i, xc_j, xc_r, xc_n, List.nil_append, List.cons_append, Option.toList_some, Option.toList_none, nI_ltJ, nI_leJ, nI_eqJ, nI_ltz, nI_gez, nI_gtz, nI_lez, nI_eqz, m1_ltz, m1_gez, true_imp_iff, false_imp_iff, true_and, and_true, ne_eq, not_false_eq_true, not_true_eq_false, Nat.reduceEqDiff, Nat.reduceLT, Nat.reduceLeDiff]
      with_reducible refine xm_go_blk b_X2_quotient_14 k_X2_quotient_14 ?_
      refine by_lconst cl_0 ?_
      refine by_goto 19 rfl ?_
      with_reducible refine xm_go_blk b_X2_quotient_19 k_X2_quotient_19 ?_
      refine by_lret ry_63 ?_
      exact hp
    · rw [if_neg q2]
      rw [show a / b = 1 from Nat.div_eq_of_lt_le (by omega) (by omega)] at hp
      with_reducible refine xm_go_blk b_X2_quotient_11 k_X2_quotient_11 ?_
      refine by_if_eq 18 rfl ?_
      simp (disch := first | exact Nat.ne_of_beq_eq_false rfl | exact rfl | omega) only [nI_add, xa_sub, xa_mul, pk_div, nm_mod, xa_shr, xa_and7, xa_and1, xa_and255, xa_by_and, nI_m1, Nat.add_sub_cancel, Nat.reducePow, Nat.zero_add, Nat.add_zero, Nat.reduceAdd, Nat.reduceMul, Nat.reduceSub, xf_same, xq_ff, xq_fo, xf_1, xf_2, xs_1, xs_2, xs_same, xq_so, xj_1, xj_2, xj_same, xq_jo, xq_sa1, xq_same, xq_other, upd_s, oI_n, oI_s, xv_0, xv_1, xv_2, xv_3, xm_p1, xm_p2, xq_fp, xq_fn, List.filter_nil, Nat.reduceBEq, Bool.not_true, Bool.not_false, Bool.and_true, Bool.and_false, Bool.false_and, Bool.true_and, if_true, if_false, Bool.false_eq_true, reduceIte, xc_i, xc_j, xc_r, xc_n, List.nil_append, List.cons_append, Option.toList_some, Option.toList_none, nI_ltJ, nI_leJ, nI_eqJ, nI_ltz, nI_gez, nI_gtz, nI_lez, nI_eqz, m1_ltz, m1_gez, true_imp_iff, false_imp_iff, true_and, and_true, ne_eq, not_false_eq_true, not_true_eq_false, Nat.reduceEqDiff, Nat.reduceLT, Nat.reduceLeDiff]
      with_reducible refine xm_go_blk b_X2_quotient_18 k_X2_quotient_18 ?_
      refine by_lconst cl_1 ?_
      refine by_nil ?_
      with_reducible refine xm_go_blk b_X2_quotient_19 k_X2_quotient_19 ?_
      refine by_lret ry_63 ?_
      exact hp
theorem sp_divide {k : Nat} (hk1 : 9 ≤ k) (hk2 : k ≤ 11) (hw : jw w) (hS : jSt h w c x y z v) (h0 : jS0 h) (hx : x < 2 ^ w) (hy : y < 2 ^ w)
    (hp : ∀ h' B H L, jRs h h' B H L → jGv (jt_T k) w B H L = jL k w c x y z v → post none h') : xm_T (XE sc) (d + 3) 55 [.ref 39, .int (nI k)] h post := by
  obtain ⟨s0, s1, s2, s3, s4, s5, s6⟩ := hS
  have hpw := jw_p hw
  have hx' : x < 2 ^ 64 := by omega
  have hy' : y < 2 ^ 64 := by omega
  -- from the place behind the choice of dividend and divisor
  have go : ∀ a b : Nat, a < 2 ^ 64 → b < 2 ^ 64 → (∀ h', jRs h h' (if a % b = 0 then 1 else 0) 0 (if k = 9 then a / b else a % b) → post none h') → xm_go (XE sc) (xm_T (XE sc) (d + 2)) 55 post 35 [(2, .long (lN a)), (0, .ref 39), (1, .int (nI k))] [.long (lN b)] h := by
    intro a b ha hb hpost
    have zb := lcz hb (show 0 < 2 ^ 64 by decide)
    have hmod : a % b < 2 ^ 64 := Nat.lt_of_le_of_lt (Nat.mod_le _ _) ha
    have zr := lcz hmod (show 0 < 2 ^ 64 by decide)
    have hdm := Nat.div_add_mod a b
    have hle : a / b * b ≤ a := Nat.div_mul_le_self a b
    have er : lN a - lN (a / b * b) = lN (a % b) := by
      have e3 : a - a / b * b = a % b := by rw [Nat.mul_comm]; omega
      rw [lN_sb (by omega), wb_mod (a + 2 ^ 64 - a / b * b), show a + 2 ^ 64 - a / b * b = a % b + 2 ^ 64 by omega, Nat.add_mod_right, ← wb_mod]
    have fin : ∀ h1, h1 = h → xm_go (XE sc) (xm_T (XE sc) (d + 2)) 55 post 54 [(4, .long (lN b)), (2, .long (lN a)), (0, .ref 39), (1, .int (nI k))] [.long (lN (a / b))] h1 := by
      intro h1 e
      subst e
      have tail : ∀ L, L = (if k = 9 then a / b else a % b) → L < 2 ^ 64 → xm_go (XE sc) (xm_T (XE sc) (d + 2)) 55 post 79 [(8, .long (lN (a % b))), (0, .ref 39)] [.long (lN L), .ref 39] h1 := by
        intro L hL hlt
        by_cases q : a % b = 0
        · have q' : (a % b = 0) = True := eq_true q
          with_reducible refine xm_go_blk b_X2_divide_79 k_X2_divide_79 ?_
          refine by_putf cn_55 fl_2_33 (by first | exact rfl | assumption) (by decide) nf_2_9 ft_2_9 (by first | rfl | assumption) (by first | rfl | assumption) ?_
          refine by_aload_n rfl ?_
          refine by_lload rfl ?_
          refine by_lconst cl_0 ?_
          refine by_lcmp ?_
          refine by_if_ne 94 rfl ?_
          simp (disch := first | exact Nat.ne_of_beq_eq_false rfl | exact rfl | omega) only [nI_add, xa_sub, xa_mul, pk_div, nm_mod, xa_shr, xa_and7, xa_and1, xa_and255, xa_by_and, nI_m1, Nat.add_sub_cancel, Nat.reducePow, Nat.zero_add, Nat.add_zero, Nat.reduceAdd, Nat.reduceMul, Nat.reduceSub, xf_same, xq_ff, xq_fo, xf_1, xf_2, xs_1, xs_2, xs_same, xq_so, xj_1, xj_2, xj_same, xq_jo, xq_sa1, xq_same, xq_other, upd_s, oI_n, oI_s, xv_0, xv_1, xv_2, xv_3, xm_p1, xm_p2, xq_fp, xq_fn, List.filter_nil, Nat.reduceBEq, Bool.not_true, Bool.not_false, Bool.and_true, Bool.and_false, Bool.false_and, Bool.true_and, if_true, if_false, Bool.false_eq_true, reduceIte, xc_i, xc_j, xc_r, xc_n, List.nil_append, List.cons_append, Option.toList_some, Option.toList_none, nI_ltJ, nI_leJ, nI_eqJ, nI_ltz, nI_gez, nI_gtz, nI_lez, nI_eqz, m1_ltz, m1_gez, true_imp_iff, false_imp_iff, true_and, and_true, ne_eq, not_false_eq_true, not_true_eq_false, Nat.reduceEqDiff, Nat.reduceLT, Nat.reduceLeDiff, zr, q']
          with_reducible refine xm_go_blk b_X2_divide_90 k_X2_divide_90 ?_
          refine by_lconst cl_1 ?_
          refine by_goto 95 rfl ?_
          with_reducible refine xm_go_blk b_X2_divide_95 k_X2_divide_95 ?_
          refine by_putf cn_55 fl_2_27 (by first | exact rfl | assumption) (by decide) nf_2_7 ft_2_7 (by first | rfl | assumption) (by first | rfl | assumption) ?_
          refine by_ret ry_55 ?_
          rw [if_pos q] at hpost
          rw [← hL] at hpost
          exact hpost _ ⟨Fr_sf (Fr_sf Fr_rf (by simp)) (by simp), by simp [xm_sf, updV], by rw [← h0.2.1]; simp [xm_sf, updV], by simp [xm_sf, updV], by decide, by decide, hlt⟩
        · have q' : (a % b = 0) = False := eq_false q
          with_reducible refine xm_go_blk b_X2_divide_79 k_X2_divide_79 ?_
          refine by_putf cn_55 fl_2_33 (by first | exact rfl | assumption) (by decide) nf_2_9 ft_2_9 (by first | rfl | assumption) (by first | rfl | assumption) ?_
          refine by_aload_n rfl ?_
          refine by_lload rfl ?_
          refine by_lconst cl_0 ?_
          refine by_lcmp ?_
          refine by_if_ne 94 rfl ?_
          simp (disch := first | exact Nat.ne_of_beq_eq_false rfl | exact rfl | omega) only [nI_add, xa_sub, xa_mul, pk_div, nm_mod, xa_shr, xa_and7, xa_and1, xa_and255, xa_by_and, nI_m1, Nat.add_sub_cancel, Nat.reducePow, Nat.zero_add, Nat.add_zero, Nat.reduceAdd, Nat.reduceMul, Nat.reduceSub, xf_same, xq_ff, xq_fo, xf_1, xf_2, xs_1, xs_2, xs_same, xq_so, xj_1, xj_2, xj_same, xq_jo, xq_sa1, xq_same, xq_other, upd_s, oI_n, oI_s, xv_0, xv_1, xv_2, xv_3, xm_p1, xm_p2, xq_fp, xq_fn, List.filter_nil, Nat.reduceBEq, Bool.not_true, Bool.not_false, Bool.and_true, Bool.and_false, Bool.false_and, Bool.true_and, if_true, if_false, Bool.false_eq_true, reduceIte, xc_i, xc_j, xc_r, xc_n, List.nil_append, List.cons_append, Option.toList_some, Option.toList_none, nI_ltJ, nI_leJ, nI_eqJ, nI_ltz, nI_gez, nI_gtz, nI_lez, nI_eqz, m1_ltz, m1_gez, true_imp_iff, false_imp_iff, true_and, and_true, ne_eq, not_false_eq_true, not_true_eq_false, Nat.reduceEqDiff, Nat.reduceLT, Nat.reduceLeDiff, zr, q']
          with_reducible refine xm_go_blk b_X2_divide_94 k_X2_divide_94 ?_
          refine by_lconst cl_0 ?_
          refine by_nil ?_
          with_reducible refine xm_go_blk b_X2_divide_95 k_X2_divide_95 ?_
          refine by_putf cn_55 fl_2_27 (by first | exact rfl | assumption) (by decide) nf_2_7 ft_2_7 (by first | rfl | assumption) (by first | rfl | assumption) ?_
          refine by_ret ry_55 ?_
          rw [if_neg q] at hpost
          rw [← hL] at hpost
          exact hpost _ ⟨Fr_sf (Fr_sf Fr_rf (by simp)) (by simp), by simp [xm_sf, updV], by rw [← h0.2.1]; simp [xm_sf, updV], by simp [xm_sf, updV], by decide, by decide, hlt⟩
      by_cases q9 : k = 9
      · have q9' : (k = 9) = True := eq_true q9
        with_reducible refine xm_go_blk b_X2_divide_54 k_X2_divide_54 ?_
        refine by_lstore (by rw [ml_55]; decide) ?_
        refine by_lload_n rfl ?_
        refine by_lload rfl ?_
        refine by_lload rfl ?_
        refine by_lmul ?_
        refine by_lsub ?_
        refine by_lstore (by rw [ml_55]; decide) ?_
        refine by_aload_n rfl ?_
        refine by_iload_n rfl ?_
        refine by_bipush cb_9 ?_
        refine by_ic_ne 77 rfl ?_
        simp (disch := first | exact Nat.ne_of_beq_eq_false rfl | exact rfl | omega) only [nI_add, xa_sub, xa_mul, pk_div, nm_mod, xa_shr, xa_and7, xa_and1, xa_and255, xa_by_and, nI_m1, Nat.add_sub_cancel, Nat.reducePow, Nat.zero_add, Nat.add_zero, Nat.reduceAdd, Nat.reduceMul, Nat.reduceSub, xf_same, xq_ff, xq_fo, xf_1, xf_2, xs_1, xs_2, xs_same, xq_so, xj_1, xj_2, xj_same, xq_jo, xq_sa1, xq_same, xq_other, upd_s, oI_n, oI_s, xv_0, xv_1, xv_2, xv_3, xm_p1, xm_p2, xq_fp, xq_fn, List.filter_nil, Nat.reduceBEq, Bool.not_true, Bool.not_false, Bool.and_true, Bool.and_false, Bool.false_and, Bool.true_and, if_true, if_false, Bool.false_eq_true, reduceIte, xc_i, xc_j, xc_r, xc_n, List.nil_append, List.cons_append, Option.toList_some, Option.toList_none, nI_ltJ, nI_leJ, nI_eqJ, nI_ltz, nI_gez, nI_gtz, nI_lez, nI_eqz, m1_ltz, m1_gez, true_imp_iff, false_imp_iff, true_and, and_true, ne_eq, not_false_eq_true, not_true_eq_false, Nat.reduceEqDiff, Nat.reduceLT, Nat.reduceLeDiff, ml_n, er, q9']
        with_reducible refine xm_go_blk b_X2_divide_72 k_X2_divide_72 ?_
        refine by_lload rfl ?_
        refine by_goto 79 rfl ?_
        exact xm_go_wk (by simp [Value.category]) (tail (a / b) (by rw [if_pos q9]) (Nat.lt_of_le_of_lt (Nat.div_le_self _ _) ha))
      · have q9' : (k = 9) = False := eq_false q9
        with_reducible refine xm_go_blk b_X2_divide_54 k_X2_divide_54 ?_
        refine by_lstore (by rw [ml_55]; decide) ?_
        refine by_lload_n rfl ?_
        refine by_lload rfl ?_
        refine by_lload rfl ?_
        refine by_lmul ?_
        refine by_lsub ?_
        refine by_lstore (by rw [ml_55]; decide) ?_
        refine by_aload_n rfl ?_
        refine by_iload_n rfl ?_
        refine by_bipush cb_9 ?_
        refine by_ic_ne 77 rfl ?_
        simp (disch := first | exact Nat.ne_of_beq_eq_false rfl | exact rfl | omega) only [nI_add, xa_sub, xa_mul, pk_div, nm_mod, xa_shr, xa_and7, xa_and1, xa_and255, xa_by_and, nI_m1, Nat.add_sub_cancel, Nat.reducePow, Nat.zero_add, Nat.add_zero, Nat.reduceAdd, Nat.reduceMul, Nat.reduceSub, xf_same, xq_ff, xq_fo, xf_1, xf_2, xs_1, xs_2, xs_same, xq_so, xj_1, xj_2, xj_same, xq_jo, xq_sa1, xq_same, xq_other, upd_s, oI_n, oI_s, xv_0, xv_1, xv_2, xv_3, xm_p1, xm_p2, xq_fp, xq_fn, List.filter_nil, Nat.reduceBEq, Bool.not_true, Bool.not_false, Bool.and_true, Bool.and_false, Bool.false_and, Bool.true_and, if_true, if_false, Bool.false_eq_true, reduceIte, xc_i, xc_j, xc_r, xc_n, List.nil_append, List.cons_append, Option.toList_some, Option.toList_none, nI_ltJ, nI_leJ, nI_eqJ, nI_ltz, nI_gez, nI_gtz, nI_lez, nI_eqz, m1_ltz, m1_gez, true_imp_iff, false_imp_iff, true_and, and_true, ne_eq, not_false_eq_true, not_true_eq_false, Nat.reduceEqDiff, Nat.reduceLT, Nat.reduceLeDiff, ml_n, er, q9']
        with_reducible refine xm_go_blk b_X2_divide_77 k_X2_divide_77 ?_
        refine by_lload rfl ?_
        refine by_nil ?_
        exact xm_go_wk (by simp [Value.category]) (tail (a % b) (by rw [if_neg q9]) hmod)
    by_cases qb : b = 0
    · have qb' : (b = 0) = True := eq_true qb
      have e0 : a / b = 0 := by rw [qb]; exact Nat.div_zero a
      have f0 := fin h rfl
      rw [e0] at f0
      with_reducible refine xm_go_blk b_X2_divide_35 k_X2_divide_35 ?_
      refine by_lstore (by rw [ml_55]; decide) ?_
      refine by_lload rfl ?_
      refine by_lconst cl_0 ?_
      refine by_lcmp ?_
      refine by_if_ne 48 rfl ?_
      simp (disch := first | exact Nat.ne_of_beq_eq_false rfl | exact rfl | omega) only [nI_add, xa_sub, xa_mul, pk_div, nm_mod, xa_shr, xa_and7, xa_and1, xa_and255, xa_by_and, nI_m1, Nat.add_sub_cancel, Nat.reducePow, Nat.zero_add, Nat.add_zero, Nat.reduceAdd, Nat.reduceMul, Nat.reduceSub, xf_same, xq_ff, xq_fo, xf_1, xf_2, xs_1, xs_2, xs_same, xq_so, xj_1, xj_2, xj_same, xq_jo, xq_sa1, xq_same, xq_other, upd_s, oI_n, oI_s, xv_0, xv_1, xv_2, xv_3, xm_p1, xm_p2, xq_fp, xq_fn, List.filter_nil, Nat.reduceBEq, Bool.not_true, Bool.not_false, Bool.and_true, Bool.and_false, Bool.false_and, Bool.true_and, if_true, if_false, Bool.false_eq_true, reduceIte, xc_i, xc_j, xc_r, xc_n, List.nil_append, List.cons_append, Option.toList_some, Option.toList_none, nI_ltJ, nI_leJ, nI_eqJ, nI_ltz, nI_gez, nI_gtz, nI_lez, nI_eqz, m1_ltz, m1_gez, true_imp_iff, false_imp_iff, true_and, and_true, ne_eq, not_false_eq_true, not_true_eq_false, Nat.reduceEqDiff, Nat.reduceLT, Nat.reduceLeDiff, zb, qb']
      with_reducible refine xm_go_blk b_X2_divide_44 k_X2_divide_44 ?_
      refine by_lconst cl_0 ?_
      refine by_goto 54 rfl ?_
      exact xm_go_wk (by simp [Value.category]) f0
    · have qb' : (b = 0) = False := eq_false qb
      with_reducible refine xm_go_blk b_X2_divide_35 k_X2_divide_35 ?_
      refine by_lstore (by rw [ml_55]; decide) ?_
      refine by_lload rfl ?_
      refine by_lconst cl_0 ?_
      refine by_lcmp ?_
      refine by_if_ne 48 rfl ?_
      simp (disch := first | exact Nat.ne_of_beq_eq_false rfl | exact rfl | omega) only [nI_add, xa_sub, xa_mul, pk_div, nm_mod, xa_shr, xa_and7, xa_and1, xa_and255, xa_by_and, nI_m1, Nat.add_sub_cancel, Nat.reducePow, Nat.zero_add, Nat.add_zero, Nat.reduceAdd, Nat.reduceMul, Nat.reduceSub, xf_same, xq_ff, xq_fo, xf_1, xf_2, xs_1, xs_2, xs_same, xq_so, xj_1, xj_2, xj_same, xq_jo, xq_sa1, xq_same, xq_other, upd_s, oI_n, oI_s, xv_0, xv_1, xv_2, xv_3, xm_p1, xm_p2, xq_fp, xq_fn, List.filter_nil, Nat.reduceBEq, Bool.not_true, Bool.not_false, Bool.and_true, Bool.and_false, Bool.false_and, Bool.true_and, if_true, if_false, Bool.false_eq_true, reduceIte, xc_i, xc_j, xc_r, xc_n, List.nil_append, List.cons_append, Option.toList_some, Option.toList_none, nI_ltJ, nI_leJ, nI_eqJ, nI_ltz, nI_gez, nI_gtz, nI_lez, nI_eqz, m1_ltz, m1_gez, true_imp_iff, false_imp_iff, true_and, and_true, ne_eq, not_false_eq_true, not_true_eq_false, Nat.reduceEqDiff, Nat.reduceLT, Nat.reduceLeDiff, zb, qb']
      with_reducible refine xm_go_blk b_X2_divide_48 k_X2_divide_48 ?_
      refine by_lload_n rfl ?_
      refine by_lload rfl ?_
      refine by_ins2 cn_55 lk_2_96 (by rw [xe_cnt]; decide) is_63 np_63 (Nat.le_of_ble_eq_true rfl) ?_
      refine sp_quotient ha hb qb ?_
      exact xm_go_wk (by simp [Value.category]) (fin h rfl)
  refine xq_in rfl ?_
  simp only [xq_a0, xq_aI, xq_aJ, xq_aR, Nat.reduceAdd]
  rcases (by omega : k = 9 ∨ k = 10 ∨ k = 11) with rfl | rfl | rfl
  · with_reducible refine xm_go_blk b_X2_divide_0 k_X2_divide_0 ?_
    refine by_iload_n rfl ?_
    refine by_bipush cb_11 ?_
    refine by_ic_ne 13 rfl ?_
    simp (disch := first | exact Nat.ne_of_beq_eq_false rfl | exact rfl | omega) only [nI_add, xa_sub, xa_mul, pk_div, nm_mod, xa_shr, xa_and7, xa_and1, xa_and255, xa_by_and, nI_m1, Nat.add_sub_cancel, Nat.reducePow, Nat.zero_add, Nat.add_zero, Nat.reduceAdd, Nat.reduceMul, Nat.reduceSub, xf_same, xq_ff, xq_fo, xf_1, xf_2, xs_1, xs_2, xs_same, xq_so, xj_1, xj_2, xj_same, xq_jo, xq_sa1, xq_same, xq_other, upd_s, oI_n, oI_s, xv_0, xv_1, xv_2, xv_3, xm_p1, xm_p2, xq_fp, xq_fn, List.filter_nil, Nat.reduceBEq, Bool.not_true, Bool.not_false, Bool.and_true, Bool.and_false, Bool.false_and, Bool.true_and, if_true, if_false, Bool.false_eq_true, reduceIte, xc_i, xc_j, xc_r, xc_n, List.nil_append, List.cons_append, Option.toList_some, Option.toList_none, nI_ltJ, nI_leJ, nI_eqJ, nI_ltz, nI_gez, nI_gtz, nI_lez, nI_eqz, m1_ltz, m1_gez, true_imp_iff, false_imp_iff, true_and, and_true, ne_eq, not_false_eq_true, not_true_eq_false, Nat.reduceEqDiff, Nat.reduceLT, Nat.reduceLeDiff, s3, s4]
    with_reducible refine xm_go_blk b_X2_divide_13 k_X2_divide_13 ?_
    refine by_aload_n rfl ?_
    refine by_getf cn_55 fl_2_73 (by first | exact rfl | assumption) (by decide) ?_
    refine by_nil ?_
    try simp (disch := first | exact Nat.ne_of_beq_eq_false rfl | exact rfl | omega) only [nI_add, xa_sub, xa_mul, pk_div, nm_mod, xa_shr, xa_and7, xa_and1, xa_and255, xa_by_and, nI_m1, Nat.add_sub_cancel, Nat.reducePow, Nat.zero_add, Nat.add_zero, Nat.reduceAdd, Nat.reduceMul, Nat.reduceSub, xf_same, xq_ff, xq_fo, xf_1, xf_2, xs_1, xs_2, xs_same, xq_so, xj_1, xj_2, xj_same, xq_jo, xq_sa1, xq_same, xq_other, upd_s, oI_n, oI_s, xv_0, xv_1, xv_2, xv_3, xm_p1, xm_p2, xq_fp, xq_fn, List.filter_nil, Nat.reduceBEq, Bool.not_true, Bool.not_false, Bool.and_true, Bool.and_false, Bool.false_and, Bool.true_and, if_true, if_false, Bool.false_eq_true, reduceIte, xc_i, xc_j, xc_r, xc_n, List.nil_append, List.cons_append, Option.toList_some, Option.toList_none, s3, s4]
    with_reducible refine xm_go_blk b_X2_divide_17 k_X2_divide_17 ?_
    refine by_lstore_n (by rw [ml_55]; decide) ?_
    refine by_iload_n rfl ?_
    refine by_bipush cb_11 ?_
    refine by_ic_ne 31 rfl ?_
    simp (disch := first | exact Nat.ne_of_beq_eq_false rfl | exact rfl | omega) only [nI_add, xa_sub, xa_mul, pk_div, nm_mod, xa_shr, xa_and7, xa_and1, xa_and255, xa_by_and, nI_m1, Nat.add_sub_cancel, Nat.reducePow, Nat.zero_add, Nat.add_zero, Nat.reduceAdd, Nat.reduceMul, Nat.reduceSub, xf_same, xq_ff, xq_fo, xf_1, xf_2, xs_1, xs_2, xs_same, xq_so, xj_1, xj_2, xj_same, xq_jo, xq_sa1, xq_same, xq_other, upd_s, oI_n, oI_s, xv_0, xv_1, xv_2, xv_3, xm_p1, xm_p2, xq_fp, xq_fn, List.filter_nil, Nat.reduceBEq, Bool.not_true, Bool.not_false, Bool.and_true, Bool.and_false, Bool.false_and, Bool.true_and, if_true, if_false, Bool.false_eq_true, reduceIte, xc_i, xc_j, xc_r, xc_n, List.nil_append, List.cons_append, Option.toList_some, Option.toList_none, nI_ltJ, nI_leJ, nI_eqJ, nI_ltz, nI_gez, nI_gtz, nI_lez, nI_eqz, m1_ltz, m1_gez, true_imp_iff, false_imp_iff, true_and, and_true, ne_eq, not_false_eq_true, not_true_eq_false, Nat.reduceEqDiff, Nat.reduceLT, Nat.reduceLeDiff, s3, s4]
    with_reducible refine xm_go_blk b_X2_divide_31 k_X2_divide_31 ?_
    refine by_aload_n rfl ?_
    refine by_getf cn_55 fl_2_76 (by first | exact rfl | assumption) (by decide) ?_
    refine by_nil ?_
    try simp (disch := first | exact Nat.ne_of_beq_eq_false rfl | exact rfl | omega) only [nI_add, xa_sub, xa_mul, pk_div, nm_mod, xa_shr, xa_and7, xa_and1, xa_and255, xa_by_and, nI_m1, Nat.add_sub_cancel, Nat.reducePow, Nat.zero_add, Nat.add_zero, Nat.reduceAdd, Nat.reduceMul, Nat.reduceSub, xf_same, xq_ff, xq_fo, xf_1, xf_2, xs_1, xs_2, xs_same, xq_so, xj_1, xj_2, xj_same, xq_jo, xq_sa1, xq_same, xq_other, upd_s, oI_n, oI_s, xv_0, xv_1, xv_2, xv_3, xm_p1, xm_p2, xq_fp, xq_fn, List.filter_nil, Nat.reduceBEq, Bool.not_true, Bool.not_false, Bool.and_true, Bool.and_false, Bool.false_and, Bool.true_and, if_true, if_false, Bool.false_eq_true, reduceIte, xc_i, xc_j, xc_r, xc_n, List.nil_append, List.cons_append, Option.toList_some, Option.toList_none, s3, s4]
    exact xm_go_wk (by simp [Value.category]) (go x y hx' hy' (fun h' hr => hp h' _ _ _ hr rfl))
  · with_reducible refine xm_go_blk b_X2_divide_0 k_X2_divide_0 ?_
    refine by_iload_n rfl ?_
    refine by_bipush cb_11 ?_
    refine by_ic_ne 13 rfl ?_
    simp (disch := first | exact Nat.ne_of_beq_eq_false rfl | exact rfl | omega) only [nI_add, xa_sub, xa_mul, pk_div, nm_mod, xa_shr, xa_and7, xa_and1, xa_and255, xa_by_and, nI_m1, Nat.add_sub_cancel, Nat.reducePow, Nat.zero_add, Nat.add_zero, Nat.reduceAdd, Nat.reduceMul, Nat.reduceSub, xf_same, xq_ff, xq_fo, xf_1, xf_2, xs_1, xs_2, xs_same, xq_so, xj_1, xj_2, xj_same, xq_jo, xq_sa1, xq_same, xq_other, upd_s, oI_n, oI_s, xv_0, xv_1, xv_2, xv_3, xm_p1, xm_p2, xq_fp, xq_fn, List.filter_nil, Nat.reduceBEq, Bool.not_true, Bool.not_false, Bool.and_true, Bool.and_false, Bool.false_and, Bool.true_and, if_true, if_false, Bool.false_eq_true, reduceIte, xc_i, xc_j, xc_r, xc_n, List.nil_append, List.cons_append, Option.toList_some, Option.toList_none, nI_ltJ, nI_leJ, nI_eqJ, nI_ltz, nI_gez, nI_gtz, nI_lez, nI_eqz, m1_ltz, m1_gez, true_imp_iff, false_imp_iff, true_and, and_true, ne_eq, not_false_eq_true, not_true_eq_false, Nat.reduceEqDiff, Nat.reduceLT, Nat.reduceLeDiff, s3, s4]
    with_reducible refine xm_go_blk b_X2_divide_13 k_X2_divide_13 ?_
    refine by_aload_n rfl ?_
    refine by_getf cn_55 fl_2_73 (by first | exact rfl | assumption) (by decide) ?_
    refine by_nil ?_
    try simp (disch := first | exact Nat.ne_of_beq_eq_false rfl | exact rfl | omega) only [nI_add, xa_sub, xa_mul, pk_div, nm_mod, xa_shr, xa_and7, xa_and1, xa_and255, xa_by_and, nI_m1, Nat.add_sub_cancel, Nat.reducePow, Nat.zero_add, Nat.add_zero, Nat.reduceAdd, Nat.reduceMul, Nat.reduceSub, xf_same, xq_ff, xq_fo, xf_1, xf_2, xs_1, xs_2, xs_same, xq_so, xj_1, xj_2, xj_same, xq_jo, xq_sa1, xq_same, xq_other, upd_s, oI_n, oI_s, xv_0, xv_1, xv_2, xv_3, xm_p1, xm_p2, xq_fp, xq_fn, List.filter_nil, Nat.reduceBEq, Bool.not_true, Bool.not_false, Bool.and_true, Bool.and_false, Bool.false_and, Bool.true_and, if_true, if_false, Bool.false_eq_true, reduceIte, xc_i, xc_j, xc_r, xc_n, List.nil_append, List.cons_append, Option.toList_some, Option.toList_none, s3, s4]
    with_reducible refine xm_go_blk b_X2_divide_17 k_X2_divide_17 ?_
    refine by_lstore_n (by rw [ml_55]; decide) ?_
    refine by_iload_n rfl ?_
    refine by_bipush cb_11 ?_
    refine by_ic_ne 31 rfl ?_
    simp (disch := first | exact Nat.ne_of_beq_eq_false rfl | exact rfl | omega) only [nI_add, xa_sub, xa_mul, pk_div, nm_mod, xa_shr, xa_and7, xa_and1, xa_and255, xa_by_and, nI_m1, Nat.add_sub_cancel, Nat.reducePow, Nat.zero_add, Nat.add_zero, Nat.reduceAdd, Nat.reduceMul, Nat.reduceSub, xf_same, xq_ff, xq_fo, xf_1, xf_2, xs_1, xs_2, xs_same, xq_so, xj_1, xj_2, xj_same, xq_jo, xq_sa1, xq_same, xq_other, upd_s, oI_n, oI_s, xv_0, xv_1, xv_2, xv_3, xm_p1, xm_p2, xq_fp, xq_fn, List.filter_nil, Nat.reduceBEq, Bool.not_true, Bool.not_false, Bool.and_true, Bool.and_false, Bool.false_and, Bool.true_and, if_true, if_false, Bool.false_eq_true, reduceIte, xc_i, xc_j, xc_r, xc_n, List.nil_append, List.cons_append, Option.toList_some, Option.toList_none, nI_ltJ, nI_leJ, nI_eqJ, nI_ltz, nI_gez, nI_gtz, nI_lez, nI_eqz, m1_ltz, m1_gez, true_imp_iff, false_imp_iff, true_and, and_true, ne_eq, not_false_eq_true, not_true_eq_false, Nat.reduceEqDiff, Nat.reduceLT, Nat.reduceLeDiff, s3, s4]
    with_reducible refine xm_go_blk b_X2_divide_31 k_X2_divide_31 ?_
    refine by_aload_n rfl ?_
    refine by_getf cn_55 fl_2_76 (by first | exact rfl | assumption) (by decide) ?_
    refine by_nil ?_
    try simp (disch := first | exact Nat.ne_of_beq_eq_false rfl | exact rfl | omega) only [nI_add, xa_sub, xa_mul, pk_div, nm_mod, xa_shr, xa_and7, xa_and1, xa_and255, xa_by_and, nI_m1, Nat.add_sub_cancel, Nat.reducePow, Nat.zero_add, Nat.add_zero, Nat.reduceAdd, Nat.reduceMul, Nat.reduceSub, xf_same, xq_ff, xq_fo, xf_1, xf_2, xs_1, xs_2, xs_same, xq_so, xj_1, xj_2, xj_same, xq_jo, xq_sa1, xq_same, xq_other, upd_s, oI_n, oI_s, xv_0, xv_1, xv_2, xv_3, xm_p1, xm_p2, xq_fp, xq_fn, List.filter_nil, Nat.reduceBEq, Bool.not_true, Bool.not_false, Bool.and_true, Bool.and_false, Bool.false_and, Bool.true_and, if_true, if_false, Bool.false_eq_true, reduceIte, xc_i, xc_j, xc_r, xc_n, List.nil_append, List.cons_append, Option.toList_some, Option.toList_none, s3, s4]
    exact xm_go_wk (by simp [Value.category]) (go x y hx' hy' (fun h' hr => hp h' _ _ _ hr rfl))
  · with_reducible refine xm_go_blk b_X2_divide_0 k_X2_divide_0 ?_
    refine by_iload_n rfl ?_
    refine by_bipush cb_11 ?_
    refine by_ic_ne 13 rfl ?_
    simp (disch := first | exact Nat.ne_of_beq_eq_false rfl | exact rfl | omega) only [nI_add, xa_sub, xa_mul, pk_div, nm_mod, xa_shr, xa_and7, xa_and1, xa_and255, xa_by_and, nI_m1, Nat.add_sub_cancel, Nat.reducePow, Nat.zero_add, Nat.add_zero, Nat.reduceAdd, Nat.reduceMul, Nat.reduceSub, xf_same, xq_ff, xq_fo, xf_1, xf_2, xs_1, xs_2, xs_same, xq_so, xj_1, xj_2, xj_same, xq_jo, xq_sa1, xq_same, xq_other, upd_s, oI_n, oI_s, xv_0, xv_1, xv_2, xv_3, xm_p1, xm_p2, xq_fp, xq_fn, List.filter_nil, Nat.reduceBEq, Bool.not_true, Bool.not_false, Bool.and_true, Bool.and_false, Bool.false_and, Bool.true_and, if_true, if_false, Bool.false_eq_true, reduceIte, xc_i, xc_j, xc_r, xc_n, List.nil_append, List.cons_append, Option.toList_some, Option.toList_none, nI_ltJ, nI_leJ, nI_eqJ, nI_ltz, nI_gez, nI_gtz, nI_lez, nI_eqz, m1_ltz, m1_gez, true_imp_iff, false_imp_iff, true_and, and_true, ne_eq, not_false_eq_true, not_true_eq_false, Nat.reduceEqDiff, Nat.reduceLT, Nat.reduceLeDiff, s3, s4]
    with_reducible refine xm_go_blk b_X2_divide_6 k_X2_divide_6 ?_
    refine by_aload_n rfl ?_
    refine by_getf cn_55 fl_2_76 (by first | exact rfl | assumption) (by decide) ?_
    refine by_goto 17 rfl ?_
    try simp (disch := first | exact Nat.ne_of_beq_eq_false rfl | exact rfl | omega) only [nI_add, xa_sub, xa_mul, pk_div, nm_mod, xa_shr, xa_and7, xa_and1, xa_and255, xa_by_and, nI_m1, Nat.add_sub_cancel, Nat.reducePow, Nat.zero_add, Nat.add_zero, Nat.reduceAdd, Nat.reduceMul, Nat.reduceSub, xf_same, xq_ff, xq_fo, xf_1, xf_2, xs_1, xs_2, xs_same, xq_so, xj_1, xj_2, xj_same, xq_jo, xq_sa1, xq_same, xq_other, upd_s, oI_n, oI_s, xv_0, xv_1, xv_2, xv_3, xm_p1, xm_p2, xq_fp, xq_fn, List.filter_nil, Nat.reduceBEq, Bool.not_true, Bool.not_false, Bool.and_true, Bool.and_false, Bool.false_and, Bool.true_and, if_true, if_false, Bool.false_eq_true, reduceIte, xc_i, xc_j, xc_r, xc_n, List.nil_append, List.cons_append, Option.toList_some, Option.toList_none, s3, s4]
    with_reducible refine xm_go_blk b_X2_divide_17 k_X2_divide_17 ?_
    refine by_lstore_n (by rw [ml_55]; decide) ?_
    refine by_iload_n rfl ?_
    refine by_bipush cb_11 ?_
    refine by_ic_ne 31 rfl ?_
    simp (disch := first | exact Nat.ne_of_beq_eq_false rfl | exact rfl | omega) only [nI_add, xa_sub, xa_mul, pk_div, nm_mod, xa_shr, xa_and7, xa_and1, xa_and255, xa_by_and, nI_m1, Nat.add_sub_cancel, Nat.reducePow, Nat.zero_add, Nat.add_zero, Nat.reduceAdd, Nat.reduceMul, Nat.reduceSub, xf_same, xq_ff, xq_fo, xf_1, xf_2, xs_1, xs_2, xs_same, xq_so, xj_1, xj_2, xj_same, xq_jo, xq_sa1, xq_same, xq_other, upd_s, oI_n, oI_s, xv_0, xv_1, xv_2, xv_3, xm_p1, xm_p2, xq_fp, xq_fn, List.filter_nil, Nat.reduceBEq, Bool.not_true, Bool.not_false, Bool.and_true, Bool.and_false, Bool.false_and, Bool.true_and, if_true, if_false, Bool.false_eq_true, reduceIte, xc_i, xc_j, xc_r, xc_n, List.nil_append, List.cons_append, Option.toList_some, Option.toList_none, nI_ltJ, nI_leJ, nI_eqJ, nI_ltz, nI_gez, nI_gtz, nI_lez, nI_eqz, m1_ltz, m1_gez, true_imp_iff, false_imp_iff, true_and, and_true, ne_eq, not_false_eq_true, not_true_eq_false, Nat.reduceEqDiff, Nat.reduceLT, Nat.reduceLeDiff, s3, s4]
    with_reducible refine xm_go_blk b_X2_divide_24 k_X2_divide_24 ?_
    refine by_aload_n rfl ?_
    refine by_getf cn_55 fl_2_73 (by first | exact rfl | assumption) (by decide) ?_
    refine by_goto 35 rfl ?_
    try simp (disch := first | exact Nat.ne_of_beq_eq_false rfl | exact rfl | omega) only [nI_add, xa_sub, xa_mul, pk_div, nm_mod, xa_shr, xa_and7, xa_and1, xa_and255, xa_by_and, nI_m1, Nat.add_sub_cancel, Nat.reducePow, Nat.zero_add, Nat.add_zero, Nat.reduceAdd, Nat.reduceMul, Nat.reduceSub, xf_same, xq_ff, xq_fo, xf_1, xf_2, xs_1, xs_2, xs_same, xq_so, xj_1, xj_2, xj_same, xq_jo, xq_sa1, xq_same, xq_other, upd_s, oI_n, oI_s, xv_0, xv_1, xv_2, xv_3, xm_p1, xm_p2, xq_fp, xq_fn, List.filter_nil, Nat.reduceBEq, Bool.not_true, Bool.not_false, Bool.and_true, Bool.and_false, Bool.false_and, Bool.true_and, if_true, if_false, Bool.false_eq_true, reduceIte, xc_i, xc_j, xc_r, xc_n, List.nil_append, List.cons_append, Option.toList_some, Option.toList_none, s3, s4]
    exact xm_go_wk (by simp [Value.category]) (go y x hy' hx' (fun h' hr => hp h' _ _ _ hr rfl))
end J5
