/-! ===== the machine's cells as bits: get ===== -/
def cN (h : xm_H) (c : Nat) : Nat := (h.2.1 33 c).toBitVec.toNat
def mB (h : xm_H) : Nat → Bool := fun i => (cN h (i / 64)).testBit (63 - i % 64)
theorem cN_lt (h : xm_H) (c : Nat) : cN h c < 2 ^ 64 := (h.2.1 33 c).toBitVec.isLt
theorem cN_eq (h : xm_H) (c : Nat) : h.2.1 33 c = lN (cN h c) := wb_inj (by rw [wb_tb]; simp [cN])
theorem nm_63 {a : Nat} (h : a < 2147483648) : nI a &&& nI 63 = nI (a % 64) := by
  rw [nx_and]
  congr 1
  exact Nat.and_two_pow_sub_one_eq_mod a 6
theorem tb_mcn (B : Nat → Bool) (p n j : Nat) : (mc_n B p n).testBit j = (decide (j < n) && B (p + (n - 1 - j))) := by
  by_cases hj : j < n
  · have h1 := mc_rd_get B p (w := n) (i := n - 1 - j) (by omega)
    rw [mc_rd_n, bbits_get n _ _ (by omega), show n - 1 - (n - 1 - j) = j by omega] at h1
    rw [← h1, Nat.testBit_eq_decide_div_mod_eq]
    by_cases q : mc_n B p n / 2 ^ j % 2 = 1 <;> simp [hj, q]
  · rw [Nat.testBit_lt_two_pow (Nat.lt_of_lt_of_le (mc_n_lt B p n) (Nat.pow_le_pow_right (by decide) (by omega)))]
    simp [hj]
theorem tbd (x k j : Nat) : (x / 2 ^ k).testBit j = x.testBit (k + j) := by
  rw [Nat.testBit_div_two_pow]
  congr 1
  omega
theorem tb_big {x j : Nat} (h : x < 2 ^ 64) (hj : 64 ≤ j) : x.testBit j = false := Nat.testBit_lt_two_pow (Nat.lt_of_lt_of_le h (Nat.pow_le_pow_right (by decide) hj))
/-- the bits of one word -/
theorem get_1 {h : xm_H} {a n : Nat} (hn1 : 1 ≤ n) (h1 : a % 64 + n ≤ 64) : cN h (a / 64) * 2 ^ (a % 64) % 2 ^ 64 / 2 ^ (64 - n) = mc_n (mB h) a n := by
  apply Nat.eq_of_testBit_eq
  intro j
  rw [tb_mcn, tbd, Nat.testBit_mod_two_pow, Nat.testBit_mul_two_pow]
  by_cases hj : j < n
  · have e1 : (a + (n - 1 - j)) / 64 = a / 64 := by omega
    have e2 : 63 - (a + (n - 1 - j)) % 64 = 64 - n + j - a % 64 := by omega
    unfold mB
    rw [e1, e2]
    simp [hj, show 64 - n + j < 64 by omega, show a % 64 ≤ 64 - n + j by omega]
  · simp [hj, show ¬ 64 - n + j < 64 by omega]
/-- of two -/
theorem get_2 {h : xm_H} {a n : Nat} (hn : n ≤ 64) (h1 : 64 < a % 64 + n) : (cN h (a / 64) * 2 ^ (a % 64) % 2 ^ 64 ||| cN h (a / 64 + 1) / 2 ^ (64 - a % 64)) / 2 ^ (64 - n) = mc_n (mB h) a n := by
  apply Nat.eq_of_testBit_eq
  intro j
  rw [tb_mcn, tbd, Nat.testBit_or, Nat.testBit_mod_two_pow, Nat.testBit_mul_two_pow, tbd]
  by_cases hj : j < n
  · unfold mB
    by_cases hf : a % 64 ≤ 64 - n + j
    · have e1 : (a + (n - 1 - j)) / 64 = a / 64 := by omega
      have e2 : 63 - (a + (n - 1 - j)) % 64 = 64 - n + j - a % 64 := by omega
      rw [e1, e2, tb_big (cN_lt h _) (show 64 ≤ 64 - a % 64 + (64 - n + j) by omega)]
      simp [hj, show 64 - n + j < 64 by omega, hf]
    · have e1 : (a + (n - 1 - j)) / 64 = a / 64 + 1 := by omega
      have e2 : 63 - (a + (n - 1 - j)) % 64 = 64 - a % 64 + (64 - n + j) := by omega
      rw [e1, e2]
      simp [hj, hf]
  · rw [tb_big (cN_lt h _) (show 64 ≤ 64 - a % 64 + (64 - n + j) by omega)]
    simp [hj, show ¬ 64 - n + j < 64 by omega]
section MG
variable {sc : xm_Sc} {d a n : Nat} {h : xm_H} {post : xm_Po}
theorem sp_get (hF : XF h) (hn1 : 1 ≤ n) (hn : n ≤ 64) (ha : a + n ≤ 839680) (hp : post (some (.long (lN (mc_n (mB h) a n)))) h) : xm_T (XE sc) (d + 1) 83 [.ref 32, .int (nI a), .int (nI n)] h post := by
  have hw := cN_lt h (a / 64)
  have hw2 := cN_lt h (a / 64 + 1)
  refine xq_in rfl ?_
  simp only [xq_a0, xq_aI, xq_aJ, xq_aR, Nat.reduceAdd]
  by_cases e : a % 64 + n ≤ 64
  · rw [← get_1 hn1 e] at hp
    have er : ((lN (cN h (a / 64) * 2 ^ (a % 64))).toUInt64 >>> ((nI (64 - n)).toInt64.toUInt64 &&& Int64.toUInt64 63)).toInt64 = lN (cN h (a / 64) * 2 ^ (a % 64) % 2 ^ 64 / 2 ^ (64 - n)) := by
      rw [wb_mod, wb_shr (Nat.mod_lt _ (by decide)) (by omega)]
    with_reducible refine xm_go_blk b_X4_get_0 k_X4_get_0 ?_
    refine by_iload_n rfl ?_
    refine by_iconst ci_1 ?_
    refine by_ic_lt 23 rfl ?_
    simp (disch := first | exact Nat.ne_of_beq_eq_false rfl | exact rfl | omega) only [nI_add, xa_sub, xa_mul, pk_div, nm_mod, xa_shr, xa_and7, xa_and1, xa_and255, xa_by_and, nI_m1, Nat.add_sub_cancel, Nat.reducePow, Nat.zero_add, Nat.add_zero, Nat.reduceAdd, Nat.reduceMul, Nat.reduceSub, xf_same, xq_ff, xq_fo, xf_1, xf_2, xs_1, xs_2, xs_same, xq_so, xj_1, xj_2, xj_same, xq_jo, xq_sa1, xq_same, xq_other, upd_s, oI_n, oI_s, xv_0, xv_1, xv_2, xv_3, xm_p1, xm_p2, xq_fp, xq_fn, List.filter_nil, Nat.reduceBEq, Bool.not_true, Bool.not_false, Bool.and_true, Bool.and_false, Bool.false_and, Bool.true_and, if_true, if_false, Bool.false_eq_true, reduceIte, xc_i, xc_j, xc_r, xc_n, List.nil_append, List.cons_append, Option.toList_some, Option.toList_none, nI_ltJ, nI_leJ, nI_eqJ, nI_ltz, nI_gez, nI_gtz, nI_lez, nI_eqz, m1_ltz, m1_gez, true_imp_iff, false_imp_iff, true_and, and_true, ne_eq, not_false_eq_true, not_true_eq_false, Nat.reduceEqDiff, Nat.reduceLT, Nat.reduceLeDiff, nm_63, xf_32_4 hF, cN_eq h (a / 64), wb_shl, er]
    refine ⟨fun c => absurd c (by omega), fun c0 => ?_⟩
    with_reducible refine xm_go_blk b_X4_get_5 k_X4_get_5 ?_
    refine by_iload_n rfl ?_
    refine by_bipush cb_64 ?_
    refine by_ic_gt 23 rfl ?_
    simp (disch := first | exact Nat.ne_of_beq_eq_false rfl | exact rfl | omega) only [nI_add, xa_sub, xa_mul, pk_div, nm_mod, xa_shr, xa_and7, xa_and1, xa_and255, xa_by_and, nI_m1, Nat.add_sub_cancel, Nat.reducePow, Nat.zero_add, Nat.add_zero, Nat.reduceAdd, Nat.reduceMul, Nat.reduceSub, xf_same, xq_ff, xq_fo, xf_1, xf_2, xs_1, xs_2, xs_same, xq_so, xj_1, xj_2, xj_same, xq_jo, xq_sa1, xq_same, xq_other, upd_s, oI_n, oI_s, xv_0, xv_1, xv_2, xv_3, xm_p1, xm_p2, xq_fp, xq_fn, List.filter_nil, Nat.reduceBEq, Bool.not_true, Bool.not_false, Bool.and_true, Bool.and_false, Bool.false_and, Bool.true_and, if_true, if_false, Bool.false_eq_true, reduceIte, xc_i, xc_j, xc_r, xc_n, List.nil_append, List.cons_append, Option.toList_some, Option.toList_none, nI_ltJ, nI_leJ, nI_eqJ, nI_ltz, nI_gez, nI_gtz, nI_lez, nI_eqz, m1_ltz, m1_gez, true_imp_iff, false_imp_iff, true_and, and_true, ne_eq, not_false_eq_true, not_true_eq_false, Nat.reduceEqDiff, Nat.reduceLT, Nat.reduceLeDiff, nm_63, xf_32_4 hF, cN_eq h (a / 64), wb_shl, er]
    refine ⟨fun c => absurd c (by omega), fun c5 => ?_⟩
    with_reducible refine xm_go_blk b_X4_get_11 k_X4_get_11 ?_
    refine by_iload_n rfl ?_
    refine by_if_lt 23 rfl ?_
    simp (disch := first | exact Nat.ne_of_beq_eq_false rfl | exact rfl | omega) only [nI_add, xa_sub, xa_mul, pk_div, nm_mod, xa_shr, xa_and7, xa_and1, xa_and255, xa_by_and, nI_m1, Nat.add_sub_cancel, Nat.reducePow, Nat.zero_add, Nat.add_zero, Nat.reduceAdd, Nat.reduceMul, Nat.reduceSub, xf_same, xq_ff, xq_fo, xf_1, xf_2, xs_1, xs_2, xs_same, xq_so, xj_1, xj_2, xj_same, xq_jo, xq_sa1, xq_same, xq_other, upd_s, oI_n, oI_s, xv_0, xv_1, xv_2, xv_3, xm_p1, xm_p2, xq_fp, xq_fn, List.filter_nil, Nat.reduceBEq, Bool.not_true, Bool.not_false, Bool.and_true, Bool.and_false, Bool.false_and, Bool.true_and, if_true, if_false, Bool.false_eq_true, reduceIte, xc_i, xc_j, xc_r, xc_n, List.nil_append, List.cons_append, Option.toList_some, Option.toList_none, nI_ltJ, nI_leJ, nI_eqJ, nI_ltz, nI_gez, nI_gtz, nI_lez, nI_eqz, m1_ltz, m1_gez, true_imp_iff, false_imp_iff, true_and, and_true, ne_eq, not_false_eq_true, not_true_eq_false, Nat.reduceEqDiff, Nat.reduceLT, Nat.reduceLeDiff, nm_63, xf_32_4 hF, cN_eq h (a / 64), wb_shl, er]
    with_reducible refine xm_go_blk b_X4_get_15 k_X4_get_15 ?_
    refine by_iload_n rfl ?_
    refine by_ldc (x := nI 839680) cn_83 ki_4_52 (by decide) ?_
    refine by_iload_n rfl ?_
    refine by_isub ?_
    refine by_ic_le 25 rfl ?_
    simp (disch := first | exact Nat.ne_of_beq_eq_false rfl | exact rfl | omega) only [nI_add, xa_sub, xa_mul, pk_div, nm_mod, xa_shr, xa_and7, xa_and1, xa_and255, xa_by_and, nI_m1, Nat.add_sub_cancel, Nat.reducePow, Nat.zero_add, Nat.add_zero, Nat.reduceAdd, Nat.reduceMul, Nat.reduceSub, xf_same, xq_ff, xq_fo, xf_1, xf_2, xs_1, xs_2, xs_same, xq_so, xj_1, xj_2, xj_same, xq_jo, xq_sa1, xq_same, xq_other, upd_s, oI_n, oI_s, xv_0, xv_1, xv_2, xv_3, xm_p1, xm_p2, xq_fp, xq_fn, List.filter_nil, Nat.reduceBEq, Bool.not_true, Bool.not_false, Bool.and_true, Bool.and_false, Bool.false_and, Bool.true_and, if_true, if_false, Bool.false_eq_true, reduceIte, xc_i, xc_j, xc_r, xc_n, List.nil_append, List.cons_append, Option.toList_some, Option.toList_none, nI_ltJ, nI_leJ, nI_eqJ, nI_ltz, nI_gez, nI_gtz, nI_lez, nI_eqz, m1_ltz, m1_gez, true_imp_iff, false_imp_iff, true_and, and_true, ne_eq, not_false_eq_true, not_true_eq_false, Nat.reduceEqDiff, Nat.reduceLT, Nat.reduceLeDiff, nm_63, xf_32_4 hF, cN_eq h (a / 64), wb_shl, er]
    refine ⟨fun c15 => ?_, fun c => absurd (by omega) c⟩
    with_reducible refine xm_go_blk b_X4_get_25 k_X4_get_25 ?_
    refine by_iload_n rfl ?_
    refine by_bipush cb_63 ?_
    refine by_iand ?_
    refine by_istore_n (by rw [ml_83]; decide) ?_
    refine by_aload_n rfl ?_
    refine by_getf cn_83 fl_4_18 (by first | exact rfl | assumption) (by decide) ?_
    refine by_iload_n rfl ?_
    refine by_bipush cb_6 ?_
    refine by_ishr ?_
    simp (disch := first | exact Nat.ne_of_beq_eq_false rfl | exact rfl | omega) only [nI_add, xa_sub, xa_mul, pk_div, nm_mod, xa_shr, xa_and7, xa_and1, xa_and255, xa_by_and, nI_m1, Nat.add_sub_cancel, Nat.reducePow, Nat.zero_add, Nat.add_zero, Nat.reduceAdd, Nat.reduceMul, Nat.reduceSub, xf_same, xq_ff, xq_fo, xf_1, xf_2, xs_1, xs_2, xs_same, xq_so, xj_1, xj_2, xj_same, xq_jo, xq_sa1, xq_same, xq_other, upd_s, oI_n, oI_s, nm_63, xf_32_4 hF, cN_eq h (a / 64), wb_shl, er]
    first | refine by_lald (by first | exact rfl | assumption) ⟨by omega, by omega⟩ ?_ | refine by_tlald rfl rfl ⟨by omega, by omega⟩ ?_
    refine by_iload_n rfl ?_
    refine by_lshl ?_
    refine by_lstore (by rw [ml_83]; decide) ?_
    refine by_iload_n rfl ?_
    refine by_iload_n rfl ?_
    refine by_iadd ?_
    refine by_bipush cb_64 ?_
    refine by_ic_le 72 rfl ?_
    simp (disch := first | exact Nat.ne_of_beq_eq_false rfl | exact rfl | omega) only [nI_add, xa_sub, xa_mul, pk_div, nm_mod, xa_shr, xa_and7, xa_and1, xa_and255, xa_by_and, nI_m1, Nat.add_sub_cancel, Nat.reducePow, Nat.zero_add, Nat.add_zero, Nat.reduceAdd, Nat.reduceMul, Nat.reduceSub, xf_same, xq_ff, xq_fo, xf_1, xf_2, xs_1, xs_2, xs_same, xq_so, xj_1, xj_2, xj_same, xq_jo, xq_sa1, xq_same, xq_other, upd_s, oI_n, oI_s, xv_0, xv_1, xv_2, xv_3, xm_p1, xm_p2, xq_fp, xq_fn, List.filter_nil, Nat.reduceBEq, Bool.not_true, Bool.not_false, Bool.and_true, Bool.and_false, Bool.false_and, Bool.true_and, if_true, if_false, Bool.false_eq_true, reduceIte, xc_i, xc_j, xc_r, xc_n, List.nil_append, List.cons_append, Option.toList_some, Option.toList_none, nI_ltJ, nI_leJ, nI_eqJ, nI_ltz, nI_gez, nI_gtz, nI_lez, nI_eqz, m1_ltz, m1_gez, true_imp_iff, false_imp_iff, true_and, and_true, ne_eq, not_false_eq_true, not_true_eq_false, Nat.reduceEqDiff, Nat.reduceLT, Nat.reduceLeDiff, nm_63, xf_32_4 hF, cN_eq h (a / 64), wb_shl, er]
    refine ⟨fun c25 => ?_, fun c => absurd (by omega) c⟩
    with_reducible refine xm_go_blk b_X4_get_72 k_X4_get_72 ?_
    refine by_lload rfl ?_
    refine by_bipush cb_64 ?_
    refine by_iload_n rfl ?_
    refine by_isub ?_
    refine by_lushr ?_
    simp (disch := first | exact Nat.ne_of_beq_eq_false rfl | exact rfl | omega) only [nI_add, xa_sub, xa_mul, pk_div, nm_mod, xa_shr, xa_and7, xa_and1, xa_and255, xa_by_and, nI_m1, Nat.add_sub_cancel, Nat.reducePow, Nat.zero_add, Nat.add_zero, Nat.reduceAdd, Nat.reduceMul, Nat.reduceSub, xf_same, xq_ff, xq_fo, xf_1, xf_2, xs_1, xs_2, xs_same, xq_so, xj_1, xj_2, xj_same, xq_jo, xq_sa1, xq_same, xq_other, upd_s, oI_n, oI_s, nm_63, xf_32_4 hF, cN_eq h (a / 64), wb_shl, er]
    refine by_lret ry_83 ?_
    exact hp
  · rw [← get_2 hn (by omega)] at hp
    have es : ((lN (cN h (a / 64 + 1))).toUInt64 >>> ((nI (64 - a % 64)).toInt64.toUInt64 &&& Int64.toUInt64 63)).toInt64 = lN (cN h (a / 64 + 1) / 2 ^ (64 - a % 64)) := wb_shr hw2 (by omega)
    have hq : cN h (a / 64) * 2 ^ (a % 64) % 2 ^ 64 ||| cN h (a / 64 + 1) / 2 ^ (64 - a % 64) < 2 ^ 64 := Nat.or_lt_two_pow (Nat.mod_lt _ (by decide)) (Nat.lt_of_le_of_lt (Nat.div_le_self _ _) hw2)
    have eo : lN (cN h (a / 64) * 2 ^ (a % 64)) ||| lN (cN h (a / 64 + 1) / 2 ^ (64 - a % 64)) = lN (cN h (a / 64) * 2 ^ (a % 64) % 2 ^ 64 ||| cN h (a / 64 + 1) / 2 ^ (64 - a % 64)) := by
      rw [wb_mod (cN h (a / 64) * 2 ^ (a % 64)), wb_or (Nat.mod_lt _ (by decide)) (Nat.lt_of_le_of_lt (Nat.div_le_self _ _) hw2)]
    have er : ((lN (cN h (a / 64) * 2 ^ (a % 64) % 2 ^ 64 ||| cN h (a / 64 + 1) / 2 ^ (64 - a % 64))).toUInt64 >>> ((nI (64 - n)).toInt64.toUInt64 &&& Int64.toUInt64 63)).toInt64 = lN ((cN h (a / 64) * 2 ^ (a % 64) % 2 ^ 64 ||| cN h (a / 64 + 1) / 2 ^ (64 - a % 64)) / 2 ^ (64 - n)) := wb_shr hq (by omega)
    with_reducible refine xm_go_blk b_X4_get_0 k_X4_get_0 ?_
    refine by_iload_n rfl ?_
    refine by_iconst ci_1 ?_
    refine by_ic_lt 23 rfl ?_
    simp (disch := first | exact Nat.ne_of_beq_eq_false rfl | exact rfl | omega) only [nI_add, xa_sub, xa_mul, pk_div, nm_mod, xa_shr, xa_and7, xa_and1, xa_and255, xa_by_and, nI_m1, Nat.add_sub_cancel, Nat.reducePow, Nat.zero_add, Nat.add_zero, Nat.reduceAdd, Nat.reduceMul, Nat.reduceSub, xf_same, xq_ff, xq_fo, xf_1, xf_2, xs_1, xs_2, xs_same, xq_so, xj_1, xj_2, xj_same, xq_jo, xq_sa1, xq_same, xq_other, upd_s, oI_n, oI_s, xv_0, xv_1, xv_2, xv_3, xm_p1, xm_p2, xq_fp, xq_fn, List.filter_nil, Nat.reduceBEq, Bool.not_true, Bool.not_false, Bool.and_true, Bool.and_false, Bool.false_and, Bool.true_and, if_true, if_false, Bool.false_eq_true, reduceIte, xc_i, xc_j, xc_r, xc_n, List.nil_append, List.cons_append, Option.toList_some, Option.toList_none, nI_ltJ, nI_leJ, nI_eqJ, nI_ltz, nI_gez, nI_gtz, nI_lez, nI_eqz, m1_ltz, m1_gez, true_imp_iff, false_imp_iff, true_and, and_true, ne_eq, not_false_eq_true, not_true_eq_false, Nat.reduceEqDiff, Nat.reduceLT, Nat.reduceLeDiff, nm_63, xf_32_4 hF, cN_eq h (a / 64), cN_eq h (a / 64 + 1), wb_shl, es, eo, er]
    refine ⟨fun c => absurd c (by omega), fun c0 => ?_⟩
    with_reducible refine xm_go_blk b_X4_get_5 k_X4_get_5 ?_
    refine by_iload_n rfl ?_
    refine by_bipush cb_64 ?_
    refine by_ic_gt 23 rfl ?_
    simp (disch := first | exact Nat.ne_of_beq_eq_false rfl | exact rfl | omega) only [nI_add, xa_sub, xa_mul, pk_div, nm_mod, xa_shr, xa_and7, xa_and1, xa_and255, xa_by_and, nI_m1, Nat.add_sub_cancel, Nat.reducePow, Nat.zero_add, Nat.add_zero, Nat.reduceAdd, Nat.reduceMul, Nat.reduceSub, xf_same, xq_ff, xq_fo, xf_1, xf_2, xs_1, xs_2, xs_same, xq_so, xj_1, xj_2, xj_same, xq_jo, xq_sa1, xq_same, xq_other, upd_s, oI_n, oI_s, xv_0, xv_1, xv_2, xv_3, xm_p1, xm_p2, xq_fp, xq_fn, List.filter_nil, Nat.reduceBEq, Bool.not_true, Bool.not_false, Bool.and_true, Bool.and_false, Bool.false_and, Bool.true_and, if_true, if_false, Bool.false_eq_true, reduceIte, xc_i, xc_j, xc_r, xc_n, List.nil_append, List.cons_append, Option.toList_some, Option.toList_none, nI_ltJ, nI_leJ, nI_eqJ, nI_ltz, nI_gez, nI_gtz, nI_lez, nI_eqz, m1_ltz, m1_gez, true_imp_iff, false_imp_iff, true_and, and_true, ne_eq, not_false_eq_true, not_true_eq_false, Nat.reduceEqDiff, Nat.reduceLT, Nat.reduceLeDiff, nm_63, xf_32_4 hF, cN_eq h (a / 64), cN_eq h (a / 64 + 1), wb_shl, es, eo, er]
    refine ⟨fun c => absurd c (by omega), fun c5 => ?_⟩
    with_reducible refine xm_go_blk b_X4_get_11 k_X4_get_11 ?_
    refine by_iload_n rfl ?_
    refine by_if_lt 23 rfl ?_
    simp (disch := first | exact Nat.ne_of_beq_eq_false rfl | exact rfl | omega) only [nI_add, xa_sub, xa_mul, pk_div, nm_mod, xa_shr, xa_and7, xa_and1, xa_and255, xa_by_and, nI_m1, Nat.add_sub_cancel, Nat.reducePow, Nat.zero_add, Nat.add_zero, Nat.reduceAdd, Nat.reduceMul, Nat.reduceSub, xf_same, xq_ff, xq_fo, xf_1, xf_2, xs_1, xs_2, xs_same, xq_so, xj_1, xj_2, xj_same, xq_jo, xq_sa1, xq_same, xq_other, upd_s, oI_n, oI_s, xv_0, xv_1, xv_2, xv_3, xm_p1, xm_p2, xq_fp, xq_fn, List.filter_nil, Nat.reduceBEq, Bool.not_true, Bool.not_false, Bool.and_true, Bool.and_false, Bool.false_and, Bool.true_and, if_true, if_false, Bool.false_eq_true, reduceIte, xc_i, xc_j, xc_r, xc_n, List.nil_append, List.cons_append, Option.toList_some, Option.toList_none, nI_ltJ, nI_leJ, nI_eqJ, nI_ltz, nI_gez, nI_gtz, nI_lez, nI_eqz, m1_ltz, m1_gez, true_imp_iff, false_imp_iff, true_and, and_true, ne_eq, not_false_eq_true, not_true_eq_false, Nat.reduceEqDiff, Nat.reduceLT, Nat.reduceLeDiff, nm_63, xf_32_4 hF, cN_eq h (a / 64), cN_eq h (a / 64 + 1), wb_shl, es, eo, er]
    with_reducible refine xm_go_blk b_X4_get_15 k_X4_get_15 ?_
    refine by_iload_n rfl ?_
    refine by_ldc (x := nI 839680) cn_83 ki_4_52 (by decide) ?_
    refine by_iload_n rfl ?_
    refine by_isub ?_
    refine by_ic_le 25 rfl ?_
    simp (disch := first | exact Nat.ne_of_beq_eq_false rfl | exact rfl | omega) only [nI_add, xa_sub, xa_mul, pk_div, nm_mod, xa_shr, xa_and7, xa_and1, xa_and255, xa_by_and, nI_m1, Nat.add_sub_cancel, Nat.reducePow, Nat.zero_add, Nat.add_zero, Nat.reduceAdd, Nat.reduceMul, Nat.reduceSub, xf_same, xq_ff, xq_fo, xf_1, xf_2, xs_1, xs_2, xs_same, xq_so, xj_1, xj_2, xj_same, xq_jo, xq_sa1, xq_same, xq_other, upd_s, oI_n, oI_s, xv_0, xv_1, xv_2, xv_3, xm_p1, xm_p2, xq_fp, xq_fn, List.filter_nil, Nat.reduceBEq, Bool.not_true, Bool.not_false, Bool.and_true, Bool.and_false, Bool.false_and, Bool.true_and, if_true, if_false, Bool.false_eq_true, reduceIte, xc_i, xc_j, xc_r, xc_n, List.nil_append, List.cons_append, Option.toList_some, Option.toList_none, nI_ltJ, nI_leJ, nI_eqJ, nI_ltz, nI_gez, nI_gtz, nI_lez, nI_eqz, m1_ltz, m1_gez, true_imp_iff, false_imp_iff, true_and, and_true, ne_eq, not_false_eq_true, not_true_eq_false, Nat.reduceEqDiff, Nat.reduceLT, Nat.reduceLeDiff, nm_63, xf_32_4 hF, cN_eq h (a / 64), cN_eq h (a / 64 + 1), wb_shl, es, eo, er]
    refine ⟨fun c15 => ?_, fun c => absurd (by omega) c⟩
    with_reducible refine xm_go_blk b_X4_get_25 k_X4_get_25 ?_
    refine by_iload_n rfl ?_
    refine by_bipush cb_63 ?_
    refine by_iand ?_
    refine by_istore_n (by rw [ml_83]; decide) ?_
    refine by_aload_n rfl ?_
    refine by_getf cn_83 fl_4_18 (by first | exact rfl | assumption) (by decide) ?_
    refine by_iload_n rfl ?_
    refine by_bipush cb_6 ?_
    refine by_ishr ?_
    simp (disch := first | exact Nat.ne_of_beq_eq_false rfl | exact rfl | omega) only [nI_add, xa_sub, xa_mul, pk_div, nm_mod, xa_shr, xa_and7, xa_and1, xa_and255, xa_by_and, nI_m1, Nat.add_sub_cancel, Nat.reducePow, Nat.zero_add, Nat.add_zero, Nat.reduceAdd, Nat.reduceMul, Nat.reduceSub, xf_same, xq_ff, xq_fo, xf_1, xf_2, xs_1, xs_2, xs_same, xq_so, xj_1, xj_2, xj_same, xq_jo, xq_sa1, xq_same, xq_other, upd_s, oI_n, oI_s, nm_63, xf_32_4 hF, cN_eq h (a / 64), cN_eq h (a / 64 + 1), wb_shl, es, eo, er]
    first | refine by_lald (by first | exact rfl | assumption) ⟨by omega, by omega⟩ ?_ | refine by_tlald rfl rfl ⟨by omega, by omega⟩ ?_
    refine by_iload_n rfl ?_
    refine by_lshl ?_
    refine by_lstore (by rw [ml_83]; decide) ?_
    refine by_iload_n rfl ?_
    refine by_iload_n rfl ?_
    refine by_iadd ?_
    refine by_bipush cb_64 ?_
    refine by_ic_le 72 rfl ?_
    simp (disch := first | exact Nat.ne_of_beq_eq_false rfl | exact rfl | omega) only [nI_add, xa_sub, xa_mul, pk_div, nm_mod, xa_shr, xa_and7, xa_and1, xa_and255, xa_by_and, nI_m1, Nat.add_sub_cancel, Nat.reducePow, Nat.zero_add, Nat.add_zero, Nat.reduceAdd, Nat.reduceMul, Nat.reduceSub, xf_same, xq_ff, xq_fo, xf_1, xf_2, xs_1, xs_2, xs_same, xq_so, xj_1, xj_2, xj_same, xq_jo, xq_sa1, xq_same, xq_other, upd_s, oI_n, oI_s, xv_0, xv_1, xv_2, xv_3, xm_p1, xm_p2, xq_fp, xq_fn, List.filter_nil, Nat.reduceBEq, Bool.not_true, Bool.not_false, Bool.and_true, Bool.and_false, Bool.false_and, Bool.true_and, if_true, if_false, Bool.false_eq_true, reduceIte, xc_i, xc_j, xc_r, xc_n, List.nil_append, List.cons_append, Option.toList_some, Option.toList_none, nI_ltJ, nI_leJ, nI_eqJ, nI_ltz, nI_gez, nI_gtz, nI_lez, nI_eqz, m1_ltz, m1_gez, true_imp_iff, false_imp_iff, true_and, and_true, ne_eq, not_false_eq_true, not_true_eq_false, Nat.reduceEqDiff, Nat.reduceLT, Nat.reduceLeDiff, nm_63, xf_32_4 hF, cN_eq h (a / 64), cN_eq h (a / 64 + 1), wb_shl, es, eo, er]
    refine ⟨fun c => absurd c (by omega), fun c25 => ?_⟩
    with_reducible refine xm_go_blk b_X4_get_51 k_X4_get_51 ?_
    refine by_lload rfl ?_
    refine by_aload_n rfl ?_
    refine by_getf cn_83 fl_4_18 (by first | exact rfl | assumption) (by decide) ?_
    refine by_iload_n rfl ?_
    refine by_bipush cb_6 ?_
    refine by_ishr ?_
    refine by_iconst ci_1 ?_
    refine by_iadd ?_
    simp (disch := first | exact Nat.ne_of_beq_eq_false rfl | exact rfl | omega) only [nI_add, xa_sub, xa_mul, pk_div, nm_mod, xa_shr, xa_and7, xa_and1, xa_and255, xa_by_and, nI_m1, Nat.add_sub_cancel, Nat.reducePow, Nat.zero_add, Nat.add_zero, Nat.reduceAdd, Nat.reduceMul, Nat.reduceSub, xf_same, xq_ff, xq_fo, xf_1, xf_2, xs_1, xs_2, xs_same, xq_so, xj_1, xj_2, xj_same, xq_jo, xq_sa1, xq_same, xq_other, upd_s, oI_n, oI_s, nm_63, xf_32_4 hF, cN_eq h (a / 64), cN_eq h (a / 64 + 1), wb_shl, es, eo, er]
    first | refine by_lald (by first | exact rfl | assumption) ⟨by omega, by omega⟩ ?_ | refine by_tlald rfl rfl ⟨by omega, by omega⟩ ?_
    refine by_bipush cb_64 ?_
    refine by_iload_n rfl ?_
    refine by_isub ?_
    refine by_lushr ?_
    refine by_lor ?_
    refine by_lstore (by rw [ml_83]; decide) ?_
    refine by_nil ?_
    try simp (disch := first | exact Nat.ne_of_beq_eq_false rfl | exact rfl | omega) only [nI_add, xa_sub, xa_mul, pk_div, nm_mod, xa_shr, xa_and7, xa_and1, xa_and255, xa_by_and, nI_m1, Nat.add_sub_cancel, Nat.reducePow, Nat.zero_add, Nat.add_zero, Nat.reduceAdd, Nat.reduceMul, Nat.reduceSub, xf_same, xq_ff, xq_fo, xf_1, xf_2, xs_1, xs_2, xs_same, xq_so, xj_1, xj_2, xj_same, xq_jo, xq_sa1, xq_same, xq_other, upd_s, oI_n, oI_s, xv_0, xv_1, xv_2, xv_3, xm_p1, xm_p2, xq_fp, xq_fn, List.filter_nil, Nat.reduceBEq, Bool.not_true, Bool.not_false, Bool.and_true, Bool.and_false, Bool.false_and, Bool.true_and, if_true, if_false, Bool.false_eq_true, reduceIte, xc_i, xc_j, xc_r, xc_n, List.nil_append, List.cons_append, Option.toList_some, Option.toList_none, nm_63, xf_32_4 hF, cN_eq h (a / 64), cN_eq h (a / 64 + 1), wb_shl, es, eo, er]
    with_reducible refine xm_go_blk b_X4_get_72 k_X4_get_72 ?_
    refine by_lload rfl ?_
    refine by_bipush cb_64 ?_
    refine by_iload_n rfl ?_
    refine by_isub ?_
    refine by_lushr ?_
    simp (disch := first | exact Nat.ne_of_beq_eq_false rfl | exact rfl | omega) only [nI_add, xa_sub, xa_mul, pk_div, nm_mod, xa_shr, xa_and7, xa_and1, xa_and255, xa_by_and, nI_m1, Nat.add_sub_cancel, Nat.reducePow, Nat.zero_add, Nat.add_zero, Nat.reduceAdd, Nat.reduceMul, Nat.reduceSub, xf_same, xq_ff, xq_fo, xf_1, xf_2, xs_1, xs_2, xs_same, xq_so, xj_1, xj_2, xj_same, xq_jo, xq_sa1, xq_same, xq_other, upd_s, oI_n, oI_s, nm_63, xf_32_4 hF, cN_eq h (a / 64), cN_eq h (a / 64 + 1), wb_shl, es, eo, er]
    refine by_lret ry_83 ?_
    exact hp
end MG
