/-! ===== jets of the reference: quotient, rest, higher, middle ===== -/
theorem rq_ar {a c k : Nat} (hc : 0 < c) : (c ≤ 2 * (a / 2 ^ (k + 1) % c) + a / 2 ^ k % 2 → a / 2 ^ k / c = 2 * (a / 2 ^ (k + 1) / c) + 1 ∧ a / 2 ^ k % c = 2 * (a / 2 ^ (k + 1) % c) + a / 2 ^ k % 2 - c) ∧ (2 * (a / 2 ^ (k + 1) % c) + a / 2 ^ k % 2 < c → a / 2 ^ k / c = 2 * (a / 2 ^ (k + 1) / c) ∧ a / 2 ^ k % c = 2 * (a / 2 ^ (k + 1) % c) + a / 2 ^ k % 2) := by
  have e : a / 2 ^ (k + 1) = a / 2 ^ k / 2 := by rw [Nat.pow_succ, Nat.div_div_eq_div_mul]
  rw [e]
  generalize a / 2 ^ k = B
  have h1 := Nat.div_add_mod (B / 2) c
  have h2 := Nat.mod_lt (B / 2) hc
  have h3 := Nat.div_add_mod B 2
  generalize B / 2 / c = Q at *
  generalize B / 2 % c = r at *
  refine ⟨fun h => (Nat.div_mod_unique hc).mpr ⟨?_, by omega⟩, fun h => (Nat.div_mod_unique hc).mpr ⟨?_, h⟩⟩
  · rw [Nat.mul_add, Nat.mul_one, Nat.mul_left_comm]; omega
  · rw [Nat.mul_left_comm]; omega
theorem lN_or0 (a : Nat) : lN a ||| lN 0 = lN a := by
  rw [wb_mod a, wb_or (Nat.mod_lt _ (by decide)) (by decide), Nat.or_zero]
theorem lN_s0 (a : Nat) : lN a - lN 0 = lN a := by
  rw [lN_sb (by decide), wb_mod, Nat.sub_zero, Nat.add_mod_right, ← wb_mod]
theorem rq_or {r b : Nat} (hb : b < 2) : lN r <<< ((nI 1).toInt64 &&& 63) ||| lN b = lN ((2 * r + b) % 2 ^ 64) := by
  rw [wb_shl _ (by decide), wb_mod (r * 2 ^ 1), show r * 2 ^ 1 % 2 ^ 64 = r % 2 ^ 63 * 2 ^ 1 by omega, g_or (k := 1) rfl (by omega) (by omega)]
  congr 1; omega
section RQ
variable {sc : xm_Sc} {d : Nat} {h : xm_H} {post : xm_Po}
theorem rq_step {a c k : Nat} {V : Int32} (ha : a < 2 ^ 64) (hc : c < 2 ^ 64) (hc0 : 0 < c) (hk : k < 64) (hV : nI k + (-1) = V)
    (hn : xm_go (XE sc) (xm_T (XE sc) (d + 1)) 280 post 10 [(4, .long (lN (a / 2 ^ k / c * 2 ^ k))), (8, .int V), (6, .long (lN (a / 2 ^ k % c))), (0, .long (lN a)), (2, .long (lN c))] [] h) :
    xm_go (XE sc) (xm_T (XE sc) (d + 1)) 280 post 10 [(4, .long (lN (a / 2 ^ (k + 1) / c * 2 ^ (k + 1)))), (8, .int (nI k)), (6, .long (lN (a / 2 ^ (k + 1) % c))), (0, .long (lN a)), (2, .long (lN c))] [] h := by
  have hA := rq_ar (a := a) (k := k) hc0
  have hr := Nat.mod_lt (a / 2 ^ (k + 1)) hc0
  have hb : a / 2 ^ k % 2 < 2 := Nat.mod_lt _ (by decide)
  have as1 := asr1 (v := a) hk
  have hq : a / 2 ^ k / c * 2 ^ k ≤ a := Nat.le_trans (Nat.mul_le_mul_right _ (Nat.div_le_self _ _)) (Nat.div_mul_le_self _ _)
  generalize a / 2 ^ (k + 1) % c = r at *
  generalize a / 2 ^ (k + 1) / c = Q at *
  generalize a / 2 ^ k % 2 = b at *
  generalize a / 2 ^ k / c = Q2 at *
  generalize a / 2 ^ k % c = r2 at *
  have eo := rq_or (r := r) hb
  have e2 : lN 1 <<< ((nI k).toInt64 &&& 63) = lN (2 ^ k) := by rw [wb_shl 1 hk, Nat.one_mul]
  have hpk : (2 : Nat) ^ (k + 1) = 2 * 2 ^ k := by rw [Nat.pow_succ, Nat.mul_comm]
  have fin : ∀ t : Nat, (t = 1 ∧ c ≤ 2 * r + b) ∨ (t = 0 ∧ 2 * r + b < c) → xm_go (XE sc) (xm_T (XE sc) (d + 1)) 280 post 61 [(4, .long (lN (Q * 2 ^ (k + 1)))), (8, .int (nI k)), (6, .long (lN ((2 * r + b) % 2 ^ 64))), (0, .long (lN a)), (2, .long (lN c))] [.int (nI t)] h := by
    intro t ht
    rcases ht with ⟨rfl, ht⟩ | ⟨rfl, ht⟩
    · obtain ⟨g1, g2⟩ := hA.1 ht
      have e1 : lN ((2 * r + b) % 2 ^ 64) - lN c = lN r2 := by
        rw [lN_sb (by omega), g2, wb_mod, wb_mod (2 * r + b - c)]
        congr 1; omega
      have hQ : Q2 * 2 ^ k = Q * 2 ^ (k + 1) + 2 ^ k := by rw [g1, hpk, Nat.add_mul, Nat.one_mul, Nat.mul_left_comm, Nat.mul_assoc]
      have e3 : lN (Q * 2 ^ (k + 1)) ||| lN (2 ^ k) = lN (Q2 * 2 ^ k) := by
        rw [g_or (k := k + 1) rfl (by have := Nat.two_pow_pos k; omega) (by omega), hQ]
      with_reducible refine xm_go_blk b_X12_quotient_61 k_X12_quotient_61 ?_
      refine by_istore (by rw [ml_280]; decide) ?_
      refine by_lload rfl ?_
      refine by_iload rfl ?_
      refine by_if_eq 74 rfl ?_
      simp (disch := first | exact Nat.ne_of_beq_eq_false rfl | exact rfl | omega) only [nI_add, xa_sub, xa_mul, pk_div, nm_mod, xa_shr, xa_and7, xa_and1, xa_and255, xa_by_and, nI_m1, Nat.add_sub_cancel, Nat.reducePow, Nat.zero_add, Nat.add_zero, Nat.reduceAdd, Nat.reduceMul, Nat.reduceSub, xf_same, xq_ff, xq_fo, xf_1, xf_2, xs_1, xs_2, xs_same, xq_so, xj_1, xj_2, xj_same, xq_jo, xq_sa1, xq_same, xq_other, upd_s, oI_n, oI_s, xv_0, xv_1, xv_2, xv_3, xm_p1, xm_p2, xq_fp, xq_fn, List.filter_nil, Nat.reduceBEq, Bool.not_true, Bool.not_false, Bool.and_true, Bool.and_false, Bool.false_and, Bool.true_and, if_true, if_false, Bool.false_eq_true, reduceIte, xc_i, xc_j, xc_r, xc_n, List.nil_append, List.cons_append, Option.toList_some, Option.toList_none, nI_ltJ, nI_leJ, nI_eqJ, nI_ltz, nI_gez, nI_gtz, nI_lez, nI_eqz, m1_ltz, m1_gez, true_imp_iff, false_imp_iff, true_and, and_true, ne_eq, not_false_eq_true, not_true_eq_false, Nat.reduceEqDiff, Nat.reduceLT, Nat.reduceLeDiff, e1, e2, e3, hV]
      with_reducible refine xm_go_blk b_X12_quotient_70 k_X12_quotient_70 ?_
      refine by_lload_n rfl ?_
      refine by_goto 75 rfl ?_
      with_reducible refine xm_go_blk b_X12_quotient_75 k_X12_quotient_75 ?_
      refine by_lsub ?_
      refine by_lstore (by rw [ml_280]; decide) ?_
      refine by_lload rfl ?_
      refine by_iload rfl ?_
      refine by_if_eq 92 rfl ?_
      simp (disch := first | exact Nat.ne_of_beq_eq_false rfl | exact rfl | omega) only [nI_add, xa_sub, xa_mul, pk_div, nm_mod, xa_shr, xa_and7, xa_and1, xa_and255, xa_by_and, nI_m1, Nat.add_sub_cancel, Nat.reducePow, Nat.zero_add, Nat.add_zero, Nat.reduceAdd, Nat.reduceMul, Nat.reduceSub, xf_same, xq_ff, xq_fo, xf_1, xf_2, xs_1, xs_2, xs_same, xq_so, xj_1, xj_2, xj_same, xq_jo, xq_sa1, xq_same, xq_other, upd_s, oI_n, oI_s, xv_0, xv_1, xv_2, xv_3, xm_p1, xm_p2, xq_fp, xq_fn, List.filter_nil, Nat.reduceBEq, Bool.not_true, Bool.not_false, Bool.and_true, Bool.and_false, Bool.false_and, Bool.true_and, if_true, if_false, Bool.false_eq_true, reduceIte, xc_i, xc_j, xc_r, xc_n, List.nil_append, List.cons_append, Option.toList_some, Option.toList_none, nI_ltJ, nI_leJ, nI_eqJ, nI_ltz, nI_gez, nI_gtz, nI_lez, nI_eqz, m1_ltz, m1_gez, true_imp_iff, false_imp_iff, true_and, and_true, ne_eq, not_false_eq_true, not_true_eq_false, Nat.reduceEqDiff, Nat.reduceLT, Nat.reduceLeDiff, e1, e2, e3, hV]
      with_reducible refine xm_go_blk b_X12_quotient_85 k_X12_quotient_85 ?_
      refine by_lconst cl_1 ?_
      refine by_iload rfl ?_
      refine by_lshl ?_
      refine by_goto 93 rfl ?_
      try simp (disch := first | exact Nat.ne_of_beq_eq_false rfl | exact rfl | omega) only [nI_add, xa_sub, xa_mul, pk_div, nm_mod, xa_shr, xa_and7, xa_and1, xa_and255, xa_by_and, nI_m1, Nat.add_sub_cancel, Nat.reducePow, Nat.zero_add, Nat.add_zero, Nat.reduceAdd, Nat.reduceMul, Nat.reduceSub, xf_same, xq_ff, xq_fo, xf_1, xf_2, xs_1, xs_2, xs_same, xq_so, xj_1, xj_2, xj_same, xq_jo, xq_sa1, xq_same, xq_other, upd_s, oI_n, oI_s, xv_0, xv_1, xv_2, xv_3, xm_p1, xm_p2, xq_fp, xq_fn, List.filter_nil, Nat.reduceBEq, Bool.not_true, Bool.not_false, Bool.and_true, Bool.and_false, Bool.false_and, Bool.true_and, if_true, if_false, Bool.false_eq_true, reduceIte, xc_i, xc_j, xc_r, xc_n, List.nil_append, List.cons_append, Option.toList_some, Option.toList_none, e1, e2, e3, hV]
      with_reducible refine xm_go_blk b_X12_quotient_93 k_X12_quotient_93 ?_
      refine by_lor ?_
      refine by_lstore (by rw [ml_280]; decide) ?_
      refine by_iinc (by rw [ml_280]; decide) rfl ci_m1 ?_
      refine by_goto 10 rfl ?_
      try simp (disch := first | exact Nat.ne_of_beq_eq_false rfl | exact rfl | omega) only [nI_add, xa_sub, xa_mul, pk_div, nm_mod, xa_shr, xa_and7, xa_and1, xa_and255, xa_by_and, nI_m1, Nat.add_sub_cancel, Nat.reducePow, Nat.zero_add, Nat.add_zero, Nat.reduceAdd, Nat.reduceMul, Nat.reduceSub, xf_same, xq_ff, xq_fo, xf_1, xf_2, xs_1, xs_2, xs_same, xq_so, xj_1, xj_2, xj_same, xq_jo, xq_sa1, xq_same, xq_other, upd_s, oI_n, oI_s, xv_0, xv_1, xv_2, xv_3, xm_p1, xm_p2, xq_fp, xq_fn, List.filter_nil, Nat.reduceBEq, Bool.not_true, Bool.not_false, Bool.and_true, Bool.and_false, Bool.false_and, Bool.true_and, if_true, if_false, Bool.false_eq_true, reduceIte, xc_i, xc_j, xc_r, xc_n, List.nil_append, List.cons_append, Option.toList_some, Option.toList_none, e1, e2, e3, hV]
      exact xm_go_wk (by simp [Value.category]) hn
    · obtain ⟨g1, g2⟩ := hA.2 ht
      have e1 : lN ((2 * r + b) % 2 ^ 64) - lN 0 = lN r2 := by rw [lN_s0, g2, Nat.mod_eq_of_lt (by omega)]
      have e3 : lN (Q * 2 ^ (k + 1)) ||| lN 0 = lN (Q2 * 2 ^ k) := by rw [lN_or0, g1, hpk, Nat.mul_left_comm, Nat.mul_assoc]
      with_reducible refine xm_go_blk b_X12_quotient_61 k_X12_quotient_61 ?_
      refine by_istore (by rw [ml_280]; decide) ?_
      refine by_lload rfl ?_
      refine by_iload rfl ?_
      refine by_if_eq 74 rfl ?_
      simp (disch := first | exact Nat.ne_of_beq_eq_false rfl | exact rfl | omega) only [nI_add, xa_sub, xa_mul, pk_div, nm_mod, xa_shr, xa_and7, xa_and1, xa_and255, xa_by_and, nI_m1, Nat.add_sub_cancel, Nat.reducePow, Nat.zero_add, Nat.add_zero, Nat.reduceAdd, Nat.reduceMul, Nat.reduceSub, xf_same, xq_ff, xq_fo, xf_1, xf_2, xs_1, xs_2, xs_same, xq_so, xj_1, xj_2, xj_same, xq_jo, xq_sa1, xq_same, xq_other, upd_s, oI_n, oI_s, xv_0, xv_1, xv_2, xv_3, xm_p1, xm_p2, xq_fp, xq_fn, List.filter_nil, Nat.reduceBEq, Bool.not_true, Bool.not_false, Bool.and_true, Bool.and_false, Bool.false_and, Bool.true_and, if_true, if_false, Bool.false_eq_true, reduceIte, xc_i, xc_j, xc_r, xc_n, List.nil_append, List.cons_append, Option.toList_some, Option.toList_none, nI_ltJ, nI_leJ, nI_eqJ, nI_ltz, nI_gez, nI_gtz, nI_lez, nI_eqz, m1_ltz, m1_gez, true_imp_iff, false_imp_iff, true_and, and_true, ne_eq, not_false_eq_true, not_true_eq_false, Nat.reduceEqDiff, Nat.reduceLT, Nat.reduceLeDiff, e1, e3, hV]
      with_reducible refine xm_go_blk b_X12_quotient_74 k_X12_quotient_74 ?_
      refine by_lconst cl_0 ?_
      refine by_nil ?_
      with_reducible refine xm_go_blk b_X12_quotient_75 k_X12_quotient_75 ?_
      refine by_lsub ?_
      refine by_lstore (by rw [ml_280]; decide) ?_
      refine by_lload rfl ?_
      refine by_iload rfl ?_
      refine by_if_eq 92 rfl ?_
      simp (disch := first | exact Nat.ne_of_beq_eq_false rfl | exact rfl | omega) only [nI_add, xa_sub, xa_mul, pk_div, nm_mod, xa_shr, xa_and7, xa_and1, xa_and255, xa_by_and, nI_m1, Nat.add_sub_cancel, Nat.reducePow, Nat.zero_add, Nat.add_zero, Nat.reduceAdd, Nat.reduceMul, Nat.reduceSub, xf_same, xq_ff, xq_fo, xf_1, xf_2, xs_1, xs_2, xs_same, xq_so, xj_1, xj_2, xj_same, xq_jo, xq_sa1, xq_same, xq_other, upd_s, oI_n, oI_s, xv_0, xv_1, xv_2, xv_3, xm_p1, xm_p2, xq_fp, xq_fn, List.filter_nil, Nat.reduceBEq, Bool.not_true, Bool.not_false, Bool.and_true, Bool.and_false, Bool.false_and, Bool.true_and, if_true, if_false, Bool.false_eq_true, reduceIte, xc_i, xc_j, xc_r, xc_n, List.nil_append, List.cons_append, Option.toList_some, Option.toList_none, nI_ltJ, nI_leJ, nI_eqJ, nI_ltz, nI_gez, nI_gtz, nI_lez, nI_eqz, m1_ltz, m1_gez, true_imp_iff, false_imp_iff, true_and, and_true, ne_eq, not_false_eq_true, not_true_eq_false, Nat.reduceEqDiff, Nat.reduceLT, Nat.reduceLeDiff, e1, e3, hV]
      with_reducible refine xm_go_blk b_X12_quotient_92 k_X12_quotient_92 ?_
      refine by_lconst cl_0 ?_
      refine by_nil ?_
      with_reducible refine xm_go_blk b_X12_quotient_93 k_X12_quotient_93 ?_
      refine by_lor ?_
      refine by_lstore (by rw [ml_280]; decide) ?_
      refine by_iinc (by rw [ml_280]; decide) rfl ci_m1 ?_
      refine by_goto 10 rfl ?_
      try simp (disch := first | exact Nat.ne_of_beq_eq_false rfl | exact rfl | omega) only [nI_add, xa_sub, xa_mul, pk_div, nm_mod, xa_shr, xa_and7, xa_and1, xa_and255, xa_by_and, nI_m1, Nat.add_sub_cancel, Nat.reducePow, Nat.zero_add, Nat.add_zero, Nat.reduceAdd, Nat.reduceMul, Nat.reduceSub, xf_same, xq_ff, xq_fo, xf_1, xf_2, xs_1, xs_2, xs_same, xq_so, xj_1, xj_2, xj_same, xq_jo, xq_sa1, xq_same, xq_other, upd_s, oI_n, oI_s, xv_0, xv_1, xv_2, xv_3, xm_p1, xm_p2, xq_fp, xq_fn, List.filter_nil, Nat.reduceBEq, Bool.not_true, Bool.not_false, Bool.and_true, Bool.and_false, Bool.false_and, Bool.true_and, if_true, if_false, Bool.false_eq_true, reduceIte, xc_i, xc_j, xc_r, xc_n, List.nil_append, List.cons_append, Option.toList_some, Option.toList_none, e1, e3, hV]
      exact xm_go_wk (by simp [Value.category]) hn
  have en := lc_neg (show r < 2 ^ 64 by omega)
  by_cases q : r < 2 ^ 63
  · have q' : (r < 2 ^ 63) = True := eq_true q
    with_reducible refine xm_go_blk b_X12_quotient_10 k_X12_quotient_10 ?_
    refine by_iload rfl ?_
    refine by_if_lt 102 rfl ?_
    simp (disch := first | exact Nat.ne_of_beq_eq_false rfl | exact rfl | omega) only [nI_add, xa_sub, xa_mul, pk_div, nm_mod, xa_shr, xa_and7, xa_and1, xa_and255, xa_by_and, nI_m1, Nat.add_sub_cancel, Nat.reducePow, Nat.zero_add, Nat.add_zero, Nat.reduceAdd, Nat.reduceMul, Nat.reduceSub, xf_same, xq_ff, xq_fo, xf_1, xf_2, xs_1, xs_2, xs_same, xq_so, xj_1, xj_2, xj_same, xq_jo, xq_sa1, xq_same, xq_other, upd_s, oI_n, oI_s, xv_0, xv_1, xv_2, xv_3, xm_p1, xm_p2, xq_fp, xq_fn, List.filter_nil, Nat.reduceBEq, Bool.not_true, Bool.not_false, Bool.and_true, Bool.and_false, Bool.false_and, Bool.true_and, if_true, if_false, Bool.false_eq_true, reduceIte, xc_i, xc_j, xc_r, xc_n, List.nil_append, List.cons_append, Option.toList_some, Option.toList_none, nI_ltJ, nI_leJ, nI_eqJ, nI_ltz, nI_gez, nI_gtz, nI_lez, nI_eqz, m1_ltz, m1_gez, true_imp_iff, false_imp_iff, true_and, and_true, ne_eq, not_false_eq_true, not_true_eq_false, Nat.reduceEqDiff, Nat.reduceLT, Nat.reduceLeDiff, en, q', as1, eo]
    with_reducible refine xm_go_blk b_X12_quotient_15 k_X12_quotient_15 ?_
    refine by_lload rfl ?_
    refine by_lconst cl_0 ?_
    refine by_lcmp ?_
    refine by_if_ge 26 rfl ?_
    simp (disch := first | exact Nat.ne_of_beq_eq_false rfl | exact rfl | omega) only [nI_add, xa_sub, xa_mul, pk_div, nm_mod, xa_shr, xa_and7, xa_and1, xa_and255, xa_by_and, nI_m1, Nat.add_sub_cancel, Nat.reducePow, Nat.zero_add, Nat.add_zero, Nat.reduceAdd, Nat.reduceMul, Nat.reduceSub, xf_same, xq_ff, xq_fo, xf_1, xf_2, xs_1, xs_2, xs_same, xq_so, xj_1, xj_2, xj_same, xq_jo, xq_sa1, xq_same, xq_other, upd_s, oI_n, oI_s, xv_0, xv_1, xv_2, xv_3, xm_p1, xm_p2, xq_fp, xq_fn, List.filter_nil, Nat.reduceBEq, Bool.not_true, Bool.not_false, Bool.and_true, Bool.and_false, Bool.false_and, Bool.true_and, if_true, if_false, Bool.false_eq_true, reduceIte, xc_i, xc_j, xc_r, xc_n, List.nil_append, List.cons_append, Option.toList_some, Option.toList_none, nI_ltJ, nI_leJ, nI_eqJ, nI_ltz, nI_gez, nI_gtz, nI_lez, nI_eqz, m1_ltz, m1_gez, true_imp_iff, false_imp_iff, true_and, and_true, ne_eq, not_false_eq_true, not_true_eq_false, Nat.reduceEqDiff, Nat.reduceLT, Nat.reduceLeDiff, en, q', as1, eo]
    with_reducible refine xm_go_blk b_X12_quotient_26 k_X12_quotient_26 ?_
    refine by_iconst ci_0 ?_
    refine by_nil ?_
    with_reducible refine xm_go_blk b_X12_quotient_27 k_X12_quotient_27 ?_
    refine by_istore (by rw [ml_280]; decide) ?_
    refine by_lload rfl ?_
    refine by_iconst ci_1 ?_
    refine by_lshl ?_
    refine by_lload_n rfl ?_
    refine by_iload rfl ?_
    refine by_lshr ?_
    refine by_lconst cl_1 ?_
    refine by_land ?_
    refine by_lor ?_
    refine by_lstore (by rw [ml_280]; decide) ?_
    refine by_iload rfl ?_
    refine by_if_ne 56 rfl ?_
    simp (disch := first | exact Nat.ne_of_beq_eq_false rfl | exact rfl | omega) only [nI_add, xa_sub, xa_mul, pk_div, nm_mod, xa_shr, xa_and7, xa_and1, xa_and255, xa_by_and, nI_m1, Nat.add_sub_cancel, Nat.reducePow, Nat.zero_add, Nat.add_zero, Nat.reduceAdd, Nat.reduceMul, Nat.reduceSub, xf_same, xq_ff, xq_fo, xf_1, xf_2, xs_1, xs_2, xs_same, xq_so, xj_1, xj_2, xj_same, xq_jo, xq_sa1, xq_same, xq_other, upd_s, oI_n, oI_s, xv_0, xv_1, xv_2, xv_3, xm_p1, xm_p2, xq_fp, xq_fn, List.filter_nil, Nat.reduceBEq, Bool.not_true, Bool.not_false, Bool.and_true, Bool.and_false, Bool.false_and, Bool.true_and, if_true, if_false, Bool.false_eq_true, reduceIte, xc_i, xc_j, xc_r, xc_n, List.nil_append, List.cons_append, Option.toList_some, Option.toList_none, nI_ltJ, nI_leJ, nI_eqJ, nI_ltz, nI_gez, nI_gtz, nI_lez, nI_eqz, m1_ltz, m1_gez, true_imp_iff, false_imp_iff, true_and, and_true, ne_eq, not_false_eq_true, not_true_eq_false, Nat.reduceEqDiff, Nat.reduceLT, Nat.reduceLeDiff, en, q', as1, eo]
    with_reducible refine xm_go_blk b_X12_quotient_47 k_X12_quotient_47 ?_
    refine by_lload rfl ?_
    refine by_lload_n rfl ?_
    refine by_ins2 cn_280 lk_12_421 (by rw [xe_cnt]; decide) is_207 np_207 (Nat.le_of_ble_eq_true rfl) ?_
    refine sp_below (Nat.mod_lt _ (by decide)) hc ?_
    rw [Nat.mod_eq_of_lt (show 2 * r + b < 2 ^ 64 by omega)] at fin ⊢
    by_cases q2 : 2 * r + b < c
    · rw [if_pos q2]
      with_reducible refine xm_go_blk b_X12_quotient_53 k_X12_quotient_53 ?_
      refine by_if_ne 60 rfl ?_
      simp (disch := first | exact Nat.ne_of_beq_eq_false rfl | exact rfl | omega) only [nI_add, xa_sub, xa_mul, pk_div, nm_mod, xa_shr, xa_and7, xa_and1, xa_and255, xa_by_and, nI_m1, Nat.add_sub_cancel, Nat.reducePow, Nat.zero_add, Nat.add_zero, Nat.reduceAdd, Nat.reduceMul, Nat.reduceSub, xf_same, xq_ff, xq_fo, xf_1, xf_2, xs_1, xs_2, xs_same, xq_so, xj_1, xj_2, xj_same, xq_jo, xq_sa1, xq_same, xq_other, upd_s, oI_n, oI_s, xv_0, xv_1, xv_2, xv_3, xm_p1, xm_p2, xq_fp, xq_fn, List.filter_nil, Nat.reduceBEq, Bool.not_true, Bool.not_false, Bool.and_true, Bool.and_false, Bool.false_and, Bool.true_and, if_true, if_false, Bool.false_eq_true, reduceIte, xc_i, xc_j, xc_r, xc_n, List.nil_append, List.cons_append, Option.toList_some, Option.toList_none, nI_ltJ, nI_leJ, nI_eqJ, nI_ltz, nI_gez, nI_gtz, nI_lez, nI_eqz, m1_ltz, m1_gez, true_imp_iff, false_imp_iff, true_and, and_true, ne_eq, not_false_eq_true, not_true_eq_false, Nat.reduceEqDiff, Nat.reduceLT, Nat.reduceLeDiff]
      with_reducible refine xm_go_blk b_X12_quotient_60 k_X12_quotient_60 ?_
      refine by_iconst ci_0 ?_
      refine by_nil ?_
      exact xm_go_wk (by simp [Value.category]) (fin 0 (Or.inr ⟨rfl, q2⟩))
    · rw [if_neg q2]
      with_reducible refine xm_go_blk b_X12_quotient_53 k_X12_quotient_53 ?_
      refine by_if_ne 60 rfl ?_
      simp (disch := first | exact Nat.ne_of_beq_eq_false rfl | exact rfl | omega) only [nI_add, xa_sub, xa_mul, pk_div, nm_mod, xa_shr, xa_and7, xa_and1, xa_and255, xa_by_and, nI_m1, Nat.add_sub_cancel, Nat.reducePow, Nat.zero_add, Nat.add_zero, Nat.reduceAdd, Nat.reduceMul, Nat.reduceSub, xf_same, xq_ff, xq_fo, xf_1, xf_2, xs_1, xs_2, xs_same, xq_so, xj_1, xj_2, xj_same, xq_jo, xq_sa1, xq_same, xq_other, upd_s, oI_n, oI_s, xv_0, xv_1, xv_2, xv_3, xm_p1, xm_p2, xq_fp, xq_fn, List.filter_nil, Nat.reduceBEq, Bool.not_true, Bool.not_false, Bool.and_true, Bool.and_false, Bool.false_and, Bool.true_and, if_true, if_false, Bool.false_eq_true, reduceIte, xc_i, xc_j, xc_r, xc_n, List.nil_append, List.cons_append, Option.toList_some, Option.toList_none, nI_ltJ, nI_leJ, nI_eqJ, nI_ltz, nI_gez, nI_gtz, nI_lez, nI_eqz, m1_ltz, m1_gez, true_imp_iff, false_imp_iff, true_and, and_true, ne_eq, not_false_eq_true, not_true_eq_false, Nat.reduceEqDiff, Nat.reduceLT, Nat.reduceLeDiff]
      with_reducible refine xm_go_blk b_X12_quotient_56 k_X12_quotient_56 ?_
      refine by_iconst ci_1 ?_
      refine by_goto 61 rfl ?_
      exact xm_go_wk (by simp [Value.category]) (fin 1 (Or.inl ⟨rfl, by omega⟩))
  · have q' : (r < 2 ^ 63) = False := eq_false q
    with_reducible refine xm_go_blk b_X12_quotient_10 k_X12_quotient_10 ?_
    refine by_iload rfl ?_
    refine by_if_lt 102 rfl ?_
    simp (disch := first | exact Nat.ne_of_beq_eq_false rfl | exact rfl | omega) only [nI_add, xa_sub, xa_mul, pk_div, nm_mod, xa_shr, xa_and7, xa_and1, xa_and255, xa_by_and, nI_m1, Nat.add_sub_cancel, Nat.reducePow, Nat.zero_add, Nat.add_zero, Nat.reduceAdd, Nat.reduceMul, Nat.reduceSub, xf_same, xq_ff, xq_fo, xf_1, xf_2, xs_1, xs_2, xs_same, xq_so, xj_1, xj_2, xj_same, xq_jo, xq_sa1, xq_same, xq_other, upd_s, oI_n, oI_s, xv_0, xv_1, xv_2, xv_3, xm_p1, xm_p2, xq_fp, xq_fn, List.filter_nil, Nat.reduceBEq, Bool.not_true, Bool.not_false, Bool.and_true, Bool.and_false, Bool.false_and, Bool.true_and, if_true, if_false, Bool.false_eq_true, reduceIte, xc_i, xc_j, xc_r, xc_n, List.nil_append, List.cons_append, Option.toList_some, Option.toList_none, nI_ltJ, nI_leJ, nI_eqJ, nI_ltz, nI_gez, nI_gtz, nI_lez, nI_eqz, m1_ltz, m1_gez, true_imp_iff, false_imp_iff, true_and, and_true, ne_eq, not_false_eq_true, not_true_eq_false, Nat.reduceEqDiff, Nat.reduceLT, Nat.reduceLeDiff, en, q', as1, eo]
    with_reducible refine xm_go_blk b_X12_quotient_15 k_X12_quotient_15 ?_
    refine by_lload rfl ?_
    refine by_lconst cl_0 ?_
    refine by_lcmp ?_
    refine by_if_ge 26 rfl ?_
    simp (disch := first | exact Nat.ne_of_beq_eq_false rfl | exact rfl | omega) only [nI_add, xa_sub, xa_mul, pk_div, nm_mod, xa_shr, xa_and7, xa_and1, xa_and255, xa_by_and, nI_m1, Nat.add_sub_cancel, Nat.reducePow, Nat.zero_add, Nat.add_zero, Nat.reduceAdd, Nat.reduceMul, Nat.reduceSub, xf_same, xq_ff, xq_fo, xf_1, xf_2, xs_1, xs_2, xs_same, xq_so, xj_1, xj_2, xj_same, xq_jo, xq_sa1, xq_same, xq_other, upd_s, oI_n, oI_s, xv_0, xv_1, xv_2, xv_3, xm_p1, xm_p2, xq_fp, xq_fn, List.filter_nil, Nat.reduceBEq, Bool.not_true, Bool.not_false, Bool.and_true, Bool.and_false, Bool.false_and, Bool.true_and, if_true, if_false, Bool.false_eq_true, reduceIte, xc_i, xc_j, xc_r, xc_n, List.nil_append, List.cons_append, Option.toList_some, Option.toList_none, nI_ltJ, nI_leJ, nI_eqJ, nI_ltz, nI_gez, nI_gtz, nI_lez, nI_eqz, m1_ltz, m1_gez, true_imp_iff, false_imp_iff, true_and, and_true, ne_eq, not_false_eq_true, not_true_eq_false, Nat.reduceEqDiff, Nat.reduceLT, Nat.reduceLeDiff, en, q', as1, eo]
    with_reducible refine xm_go_blk b_X12_quotient_22 k_X12_quotient_22 ?_
    refine by_iconst ci_1 ?_
    refine by_goto 27 rfl ?_
    with_reducible refine xm_go_blk b_X12_quotient_27 k_X12_quotient_27 ?_
    refine by_istore (by rw [ml_280]; decide) ?_
    refine by_lload rfl ?_
    refine by_iconst ci_1 ?_
    refine by_lshl ?_
    refine by_lload_n rfl ?_
    refine by_iload rfl ?_
    refine by_lshr ?_
    refine by_lconst cl_1 ?_
    refine by_land ?_
    refine by_lor ?_
    refine by_lstore (by rw [ml_280]; decide) ?_
    refine by_iload rfl ?_
    refine by_if_ne 56 rfl ?_
    simp (disch := first | exact Nat.ne_of_beq_eq_false rfl | exact rfl | omega) only [nI_add, xa_sub, xa_mul, pk_div, nm_mod, xa_shr, xa_and7, xa_and1, xa_and255, xa_by_and, nI_m1, Nat.add_sub_cancel, Nat.reducePow, Nat.zero_add, Nat.add_zero, Nat.reduceAdd, Nat.reduceMul, Nat.reduceSub, xf_same, xq_ff, xq_fo, xf_1, xf_2, xs_1, xs_2, xs_same, xq_so, xj_1, xj_2, xj_same, xq_jo, xq_sa1, xq_same, xq_other, upd_s, oI_n, oI_s, xv_0, xv_1, xv_2, xv_3, xm_p1, xm_p2, xq_fp, xq_fn, List.filter_nil, Nat.reduceBEq, Bool.not_true, Bool.not_false, Bool.and_true, Bool.and_false, Bool.false_and, Bool.true_and, if_true, if_false, Bool.false_eq_true, reduceIte, xc_i, xc_j, xc_r, xc_n, List.nil_append, List.cons_append, Option.toList_some, Option.toList_none, nI_ltJ, nI_leJ, nI_eqJ, nI_ltz, nI_gez, nI_gtz, nI_lez, nI_eqz, m1_ltz, m1_gez, true_imp_iff, false_imp_iff, true_and, and_true, ne_eq, not_false_eq_true, not_true_eq_false, Nat.reduceEqDiff, Nat.reduceLT, Nat.reduceLeDiff, en, q', as1, eo]
    with_reducible refine xm_go_blk b_X12_quotient_56 k_X12_quotient_56 ?_
    refine by_iconst ci_1 ?_
    refine by_goto 61 rfl ?_
    exact xm_go_wk (by simp [Value.category]) (fin 1 (Or.inl ⟨rfl, by omega⟩))
theorem sp_rquo {a c : Nat} (ha : a < 2 ^ 64) (hc : c < 2 ^ 64) (hc0 : c ≠ 0) (hp : post (some (.long (lN (a / c)))) h) : xm_T (XE sc) (d + 2) 280 [.long (lN a), .long (lN c)] h post := by
  have key : ∀ k : Nat, k < 64 → xm_go (XE sc) (xm_T (XE sc) (d + 1)) 280 post 10 [(4, .long (lN (a / 2 ^ (k + 1) / c * 2 ^ (k + 1)))), (8, .int (nI k)), (6, .long (lN (a / 2 ^ (k + 1) % c))), (0, .long (lN a)), (2, .long (lN c))] [] h := by
    intro k
    induction k with
    | zero =>
      intro hk
      refine rq_step ha hc (by omega) hk (V := -1) (by decide) ?_
      rw [Nat.pow_zero, Nat.div_one, Nat.mul_one]
      with_reducible refine xm_go_blk b_X12_quotient_10 k_X12_quotient_10 ?_
      refine by_iload rfl ?_
      refine by_if_lt 102 rfl ?_
      simp (disch := first | exact Nat.ne_of_beq_eq_false rfl | exact rfl | omega) only [nI_add, xa_sub, xa_mul, pk_div, nm_mod, xa_shr, xa_and7, xa_and1, xa_and255, xa_by_and, nI_m1, Nat.add_sub_cancel, Nat.reducePow, Nat.zero_add, Nat.add_zero, Nat.reduceAdd, Nat.reduceMul, Nat.reduceSub, xf_same, xq_ff, xq_fo, xf_1, xf_2, xs_1, xs_2, xs_same, xq_so, xj_1, xj_2, xj_same, xq_jo, xq_sa1, xq_same, xq_other, upd_s, oI_n, oI_s, xv_0, xv_1, xv_2, xv_3, xm_p1, xm_p2, xq_fp, xq_fn, List.filter_nil, Nat.reduceBEq, Bool.not_true, Bool.not_false, Bool.and_true, Bool.and_false, Bool.false_and, Bool.true_and, if_true, if_false, Bool.false_eq_true, reduceIte, xc_i, xc_j, xc_r, xc_n, List.nil_append, List.cons_append, Option.toList_some, Option.toList_none, nI_ltJ, nI_leJ, nI_eqJ, nI_ltz, nI_gez, nI_gtz, nI_lez, nI_eqz, m1_ltz, m1_gez, true_imp_iff, false_imp_iff, true_and, and_true, ne_eq, not_false_eq_true, not_true_eq_false, Nat.reduceEqDiff, Nat.reduceLT, Nat.reduceLeDiff]
      with_reducible refine xm_go_blk b_X12_quotient_102 k_X12_quotient_102 ?_
      refine by_lload rfl ?_
      refine by_lret ry_280 ?_
      exact hp
    | succ k ih =>
      intro hk
      exact rq_step ha hc (by omega) hk (V := nI k) (by rw [nI_m1 (by omega)]; rfl) (ih (by omega))
  have k0 := key 63 (by decide)
  rw [show a / 2 ^ (63 + 1) = 0 from Nat.div_eq_of_lt ha, Nat.zero_div, Nat.zero_mod, Nat.zero_mul] at k0
  refine xq_in rfl ?_
  simp only [xq_a0, xq_aI, xq_aJ, xq_aR, Nat.reduceAdd]
  with_reducible refine xm_go_blk b_X12_quotient_0 k_X12_quotient_0 ?_
  refine by_lconst cl_0 ?_
  refine by_lstore (by rw [ml_280]; decide) ?_
  refine by_lconst cl_0 ?_
  refine by_lstore (by rw [ml_280]; decide) ?_
  refine by_bipush cb_63 ?_
  refine by_istore (by rw [ml_280]; decide) ?_
  refine by_nil ?_
  try simp (disch := first | exact Nat.ne_of_beq_eq_false rfl | exact rfl | omega) only [nI_add, xa_sub, xa_mul, pk_div, nm_mod, xa_shr, xa_and7, xa_and1, xa_and255, xa_by_and, nI_m1, Nat.add_sub_cancel, Nat.reducePow, Nat.zero_add, Nat.add_zero, Nat.reduceAdd, Nat.reduceMul, Nat.reduceSub, xf_same, xq_ff, xq_fo, xf_1, xf_2, xs_1, xs_2, xs_same, xq_so, xj_1, xj_2, xj_same, xq_jo, xq_sa1, xq_same, xq_other, upd_s, oI_n, oI_s, xv_0, xv_1, xv_2, xv_3, xm_p1, xm_p2, xq_fp, xq_fn, List.filter_nil, Nat.reduceBEq, Bool.not_true, Bool.not_false, Bool.and_true, Bool.and_false, Bool.false_and, Bool.true_and, if_true, if_false, Bool.false_eq_true, reduceIte, xc_i, xc_j, xc_r, xc_n, List.nil_append, List.cons_append, Option.toList_some, Option.toList_none]
  exact xm_go_wk (by simp [Value.category]) k0
theorem sp_rest {a c : Nat} (ha : a < 2 ^ 64) (hc : c < 2 ^ 64) (hp : post (some (.long (lN (a % c)))) h) : xm_T (XE sc) (d + 3) 286 [.long (lN a), .long (lN c)] h post := by
  have zz := lcz hc (show 0 < 2 ^ 64 by decide)
  refine xq_in rfl ?_
  simp only [xq_a0, xq_aI, xq_aJ, xq_aR, Nat.reduceAdd]
  by_cases q : c = 0
  · have q' : (c = 0) = True := eq_true q
    with_reducible refine xm_go_blk b_X12_rest_0 k_X12_rest_0 ?_
    refine by_lload_n rfl ?_
    refine by_lconst cl_0 ?_
    refine by_lcmp ?_
    refine by_if_ne 10 rfl ?_
    simp (disch := first | exact Nat.ne_of_beq_eq_false rfl | exact rfl | omega) only [nI_add, xa_sub, xa_mul, pk_div, nm_mod, xa_shr, xa_and7, xa_and1, xa_and255, xa_by_and, nI_m1, Nat.add_sub_cancel, Nat.reducePow, Nat.zero_add, Nat.add_zero, Nat.reduceAdd, Nat.reduceMul, Nat.reduceSub, xf_same, xq_ff, xq_fo, xf_1, xf_2, xs_1, xs_2, xs_same, xq_so, xj_1, xj_2, xj_same, xq_jo, xq_sa1, xq_same, xq_other, upd_s, oI_n, oI_s, xv_0, xv_1, xv_2, xv_3, xm_p1, xm_p2, xq_fp, xq_fn, List.filter_nil, Nat.reduceBEq, Bool.not_true, Bool.not_false, Bool.and_true, Bool.and_false, Bool.false_and, Bool.true_and, if_true, if_false, Bool.false_eq_true, reduceIte, xc_i, xc_j, xc_r, xc_n, List.nil_append, List.cons_append, Option.toList_some, Option.toList_none, nI_ltJ, nI_leJ, nI_eqJ, nI_ltz, nI_gez, nI_gtz, nI_lez, nI_eqz, m1_ltz, m1_gez, true_imp_iff, false_imp_iff, true_and, and_true, ne_eq, not_false_eq_true, not_true_eq_false, Nat.reduceEqDiff, Nat.reduceLT, Nat.reduceLeDiff, zz, q']
    with_reducible refine xm_go_blk b_X12_rest_6 k_X12_rest_6 ?_
    refine by_lload_n rfl ?_
    refine by_goto 19 rfl ?_
    with_reducible refine xm_go_blk b_X12_rest_19 k_X12_rest_19 ?_
    refine by_lret ry_286 ?_
    rw [q, Nat.mod_zero] at hp
    exact hp
  · have q' : (c = 0) = False := eq_false q
    with_reducible refine xm_go_blk b_X12_rest_0 k_X12_rest_0 ?_
    refine by_lload_n rfl ?_
    refine by_lconst cl_0 ?_
    refine by_lcmp ?_
    refine by_if_ne 10 rfl ?_
    simp (disch := first | exact Nat.ne_of_beq_eq_false rfl | exact rfl | omega) only [nI_add, xa_sub, xa_mul, pk_div, nm_mod, xa_shr, xa_and7, xa_and1, xa_and255, xa_by_and, nI_m1, Nat.add_sub_cancel, Nat.reducePow, Nat.zero_add, Nat.add_zero, Nat.reduceAdd, Nat.reduceMul, Nat.reduceSub, xf_same, xq_ff, xq_fo, xf_1, xf_2, xs_1, xs_2, xs_same, xq_so, xj_1, xj_2, xj_same, xq_jo, xq_sa1, xq_same, xq_other, upd_s, oI_n, oI_s, xv_0, xv_1, xv_2, xv_3, xm_p1, xm_p2, xq_fp, xq_fn, List.filter_nil, Nat.reduceBEq, Bool.not_true, Bool.not_false, Bool.and_true, Bool.and_false, Bool.false_and, Bool.true_and, if_true, if_false, Bool.false_eq_true, reduceIte, xc_i, xc_j, xc_r, xc_n, List.nil_append, List.cons_append, Option.toList_some, Option.toList_none, nI_ltJ, nI_leJ, nI_eqJ, nI_ltz, nI_gez, nI_gtz, nI_lez, nI_eqz, m1_ltz, m1_gez, true_imp_iff, false_imp_iff, true_and, and_true, ne_eq, not_false_eq_true, not_true_eq_false, Nat.reduceEqDiff, Nat.reduceLT, Nat.reduceLeDiff, zz, q']
    with_reducible refine xm_go_blk b_X12_rest_10 k_X12_rest_10 ?_
    refine by_lload_n rfl ?_
    refine by_lload_n rfl ?_
    refine by_lload_n rfl ?_
    refine by_lload_n rfl ?_
    refine by_ins2 cn_286 lk_12_425 (by rw [xe_cnt]; decide) is_280 np_280 (Nat.le_of_ble_eq_true rfl) ?_
    refine sp_rquo ha hc q ?_
    have h1 := Nat.div_add_mod a c
    have e1 : lN a - lN (c * (a / c)) = lN (a % c) := by
      rw [lN_sb (by omega), wb_mod, show a + 2 ^ 64 - c * (a / c) = a % c + 2 ^ 64 by omega, Nat.add_mod_right, ← wb_mod]
    with_reducible refine xm_go_blk b_X12_rest_17 k_X12_rest_17 ?_
    refine by_lmul ?_
    refine by_lsub ?_
    refine by_nil ?_
    try simp (disch := first | exact Nat.ne_of_beq_eq_false rfl | exact rfl | omega) only [nI_add, xa_sub, xa_mul, pk_div, nm_mod, xa_shr, xa_and7, xa_and1, xa_and255, xa_by_and, nI_m1, Nat.add_sub_cancel, Nat.reducePow, Nat.zero_add, Nat.add_zero, Nat.reduceAdd, Nat.reduceMul, Nat.reduceSub, xf_same, xq_ff, xq_fo, xf_1, xf_2, xs_1, xs_2, xs_same, xq_so, xj_1, xj_2, xj_same, xq_jo, xq_sa1, xq_same, xq_other, upd_s, oI_n, oI_s, xv_0, xv_1, xv_2, xv_3, xm_p1, xm_p2, xq_fp, xq_fn, List.filter_nil, Nat.reduceBEq, Bool.not_true, Bool.not_false, Bool.and_true, Bool.and_false, Bool.false_and, Bool.true_and, if_true, if_false, Bool.false_eq_true, reduceIte, xc_i, xc_j, xc_r, xc_n, List.nil_append, List.cons_append, Option.toList_some, Option.toList_none, ml_n, e1]
    with_reducible refine xm_go_blk b_X12_rest_19 k_X12_rest_19 ?_
    refine by_lret ry_286 ?_
    exact hp
theorem sp_higher {x y : Nat} (hx : x < 2 ^ 64) (hy : y < 2 ^ 64) (hp : post (some (.long (lN (x * y / 2 ^ 64)))) h) : xm_T (XE sc) (d + 1) 229 [.long (lN x), .long (lN y)] h post := by
  have s32 : ∀ a, a < 2 ^ 64 → ((lN a).toUInt64 >>> ((nI 32).toInt64.toUInt64 &&& Int64.toUInt64 63)).toInt64 = lN (a / 2 ^ 32) := fun a h => wb_shr h (by decide)
  have m32 : ∀ a, a < 2 ^ 64 → lN a &&& lN 4294967295 = lN (a % 2 ^ 32) := fun a h => wb_mask (k := 32) h (by decide)
  have hx1 : x / 2 ^ 32 < 2 ^ 32 := by omega
  have hy1 : y / 2 ^ 32 < 2 ^ 32 := by omega
  have hx0 : x % 2 ^ 32 < 2 ^ 32 := by omega
  have hy0 : y % 2 ^ 32 < 2 ^ 32 := by omega
  have ex : x / 2 ^ 32 * 2 ^ 32 + x % 2 ^ 32 = x := Nat.div_add_mod' _ _
  have ey : y / 2 ^ 32 * 2 ^ 32 + y % 2 ^ 32 = y := Nat.div_add_mod' _ _
  obtain ⟨b1, b2, b3, b4, b5⟩ := mulH hx0 hx1 hy0 hy1
  rw [ex, ey] at b5
  have g1 := s32 x hx
  have g2 := m32 x hx
  have g3 := s32 y hy
  have g4 := m32 y hy
  generalize x / 2 ^ 32 = x1 at *
  generalize x % 2 ^ 32 = x0 at *
  generalize y / 2 ^ 32 = y1 at *
  generalize y % 2 ^ 32 = y0 at *
  have g5 := s32 _ b1
  have g6 := s32 _ b2
  have g7 := m32 _ b2
  have g8 := s32 _ b3
  have e : x * y / 2 ^ 64 = x1 * y1 + (x1 * y0 + x0 * y0 / 2 ^ 32) / 2 ^ 32 + (x0 * y1 + (x1 * y0 + x0 * y0 / 2 ^ 32) % 2 ^ 32) / 2 ^ 32 := by
    rw [← b5]
    clear b5 hp g1 g2 g3 g4 g5 g6 g7 g8
    omega
  rw [e] at hp
  refine xq_in rfl ?_
  simp only [xq_a0, xq_aI, xq_aJ, xq_aR, Nat.reduceAdd]
  with_reducible refine xm_go_blk b_X12_higher_0 k_X12_higher_0 ?_
  refine by_ldc2 (x := lN 4294967295) cn_229 kl_12_430 (by decide) ?_
  refine by_lstore (by rw [ml_229]; decide) ?_
  refine by_lload_n rfl ?_
  refine by_bipush cb_32 ?_
  refine by_lushr ?_
  refine by_lstore (by rw [ml_229]; decide) ?_
  refine by_lload_n rfl ?_
  refine by_lload rfl ?_
  refine by_land ?_
  refine by_lstore (by rw [ml_229]; decide) ?_
  refine by_lload_n rfl ?_
  refine by_bipush cb_32 ?_
  refine by_lushr ?_
  refine by_lstore (by rw [ml_229]; decide) ?_
  refine by_lload_n rfl ?_
  refine by_lload rfl ?_
  refine by_land ?_
  refine by_lstore (by rw [ml_229]; decide) ?_
  refine by_lload rfl ?_
  refine by_lload rfl ?_
  refine by_lmul ?_
  refine by_lstore (by rw [ml_229]; decide) ?_
  refine by_lload rfl ?_
  refine by_lload rfl ?_
  refine by_lmul ?_
  refine by_lload rfl ?_
  refine by_bipush cb_32 ?_
  refine by_lushr ?_
  refine by_ladd ?_
  refine by_lstore (by rw [ml_229]; decide) ?_
  refine by_lload rfl ?_
  refine by_lload rfl ?_
  refine by_lmul ?_
  refine by_lload rfl ?_
  refine by_lload rfl ?_
  refine by_land ?_
  refine by_ladd ?_
  refine by_lstore (by rw [ml_229]; decide) ?_
  refine by_lload rfl ?_
  refine by_lload rfl ?_
  refine by_lmul ?_
  refine by_lload rfl ?_
  refine by_bipush cb_32 ?_
  refine by_lushr ?_
  refine by_ladd ?_
  refine by_lload rfl ?_
  refine by_bipush cb_32 ?_
  refine by_lushr ?_
  refine by_ladd ?_
  simp (disch := first | exact Nat.ne_of_beq_eq_false rfl | exact rfl | omega) only [nI_add, xa_sub, xa_mul, pk_div, nm_mod, xa_shr, xa_and7, xa_and1, xa_and255, xa_by_and, nI_m1, Nat.add_sub_cancel, Nat.reducePow, Nat.zero_add, Nat.add_zero, Nat.reduceAdd, Nat.reduceMul, Nat.reduceSub, xf_same, xq_ff, xq_fo, xf_1, xf_2, xs_1, xs_2, xs_same, xq_so, xj_1, xj_2, xj_same, xq_jo, xq_sa1, xq_same, xq_other, upd_s, oI_n, oI_s, g1, g2, g3, g4, ml_n, g5, lN_pl, g6, g7, g8]
  refine by_lret ry_229 ?_
  exact hp
theorem sp_rmiddle {x y z : Nat} (hx : x < 2 ^ 64) (hy : y < 2 ^ 64) (hz : z < 2 ^ 64) (hp : post (some (.long (lN (max (min x y) (min (max x y) z))))) h) : xm_T (XE sc) (d + 2) 262 [.long (lN x), .long (lN y), .long (lN z)] h post := by
  have fin : ∀ lo hi : Nat, lo = min x y → hi = max x y → xm_go (XE sc) (xm_T (XE sc) (d + 1)) 262 post 28 [(6, .long (lN lo)), (0, .long (lN x)), (2, .long (lN y)), (4, .long (lN z))] [.long (lN hi)] h := by
    intro lo hi hl hh
    with_reducible refine xm_go_blk b_X12_middle_28 k_X12_middle_28 ?_
    refine by_lstore (by rw [ml_262]; decide) ?_
    refine by_lload rfl ?_
    refine by_lload rfl ?_
    simp (disch := first | exact Nat.ne_of_beq_eq_false rfl | exact rfl | omega) only [nI_add, xa_sub, xa_mul, pk_div, nm_mod, xa_shr, xa_and7, xa_and1, xa_and255, xa_by_and, nI_m1, Nat.add_sub_cancel, Nat.reducePow, Nat.zero_add, Nat.add_zero, Nat.reduceAdd, Nat.reduceMul, Nat.reduceSub, xf_same, xq_ff, xq_fo, xf_1, xf_2, xs_1, xs_2, xs_same, xq_so, xj_1, xj_2, xj_same, xq_jo, xq_sa1, xq_same, xq_other, upd_s, oI_n, oI_s, xv_0, xv_1, xv_2, xv_3, xm_p1, xm_p2, xq_fp, xq_fn, List.filter_nil, Nat.reduceBEq, Bool.not_true, Bool.not_false, Bool.and_true, Bool.and_false, Bool.false_and, Bool.true_and, if_true, if_false, Bool.false_eq_true, reduceIte, xc_i, xc_j, xc_r, xc_n, List.nil_append, List.cons_append, Option.toList_some, Option.toList_none]
    refine by_ins2 cn_262 lk_12_421 (by rw [xe_cnt]; decide) is_207 np_207 (Nat.le_of_ble_eq_true rfl) ?_
    refine sp_below hz (by omega) ?_
    by_cases q : z < lo
    · rw [if_pos q]
      with_reducible refine xm_go_blk b_X12_middle_37 k_X12_middle_37 ?_
      refine by_if_eq 45 rfl ?_
      simp (disch := first | exact Nat.ne_of_beq_eq_false rfl | exact rfl | omega) only [nI_add, xa_sub, xa_mul, pk_div, nm_mod, xa_shr, xa_and7, xa_and1, xa_and255, xa_by_and, nI_m1, Nat.add_sub_cancel, Nat.reducePow, Nat.zero_add, Nat.add_zero, Nat.reduceAdd, Nat.reduceMul, Nat.reduceSub, xf_same, xq_ff, xq_fo, xf_1, xf_2, xs_1, xs_2, xs_same, xq_so, xj_1, xj_2, xj_same, xq_jo, xq_sa1, xq_same, xq_other, upd_s, oI_n, oI_s, xv_0, xv_1, xv_2, xv_3, xm_p1, xm_p2, xq_fp, xq_fn, List.filter_nil, Nat.reduceBEq, Bool.not_true, Bool.not_false, Bool.and_true, Bool.and_false, Bool.false_and, Bool.true_and, if_true, if_false, Bool.false_eq_true, reduceIte, xc_i, xc_j, xc_r, xc_n, List.nil_append, List.cons_append, Option.toList_some, Option.toList_none, nI_ltJ, nI_leJ, nI_eqJ, nI_ltz, nI_gez, nI_gtz, nI_lez, nI_eqz, m1_ltz, m1_gez, true_imp_iff, false_imp_iff, true_and, and_true, ne_eq, not_false_eq_true, not_true_eq_false, Nat.reduceEqDiff, Nat.reduceLT, Nat.reduceLeDiff]
      with_reducible refine xm_go_blk b_X12_middle_40 k_X12_middle_40 ?_
      refine by_lload rfl ?_
      refine by_goto 62 rfl ?_
      with_reducible refine xm_go_blk b_X12_middle_62 k_X12_middle_62 ?_
      refine by_lret ry_262 ?_
      rw [show max (min x y) (min (max x y) z) = lo by omega] at hp
      exact hp
    · rw [if_neg q]
      with_reducible refine xm_go_blk b_X12_middle_37 k_X12_middle_37 ?_
      refine by_if_eq 45 rfl ?_
      simp (disch := first | exact Nat.ne_of_beq_eq_false rfl | exact rfl | omega) only [nI_add, xa_sub, xa_mul, pk_div, nm_mod, xa_shr, xa_and7, xa_and1, xa_and255, xa_by_and, nI_m1, Nat.add_sub_cancel, Nat.reducePow, Nat.zero_add, Nat.add_zero, Nat.reduceAdd, Nat.reduceMul, Nat.reduceSub, xf_same, xq_ff, xq_fo, xf_1, xf_2, xs_1, xs_2, xs_same, xq_so, xj_1, xj_2, xj_same, xq_jo, xq_sa1, xq_same, xq_other, upd_s, oI_n, oI_s, xv_0, xv_1, xv_2, xv_3, xm_p1, xm_p2, xq_fp, xq_fn, List.filter_nil, Nat.reduceBEq, Bool.not_true, Bool.not_false, Bool.and_true, Bool.and_false, Bool.false_and, Bool.true_and, if_true, if_false, Bool.false_eq_true, reduceIte, xc_i, xc_j, xc_r, xc_n, List.nil_append, List.cons_append, Option.toList_some, Option.toList_none, nI_ltJ, nI_leJ, nI_eqJ, nI_ltz, nI_gez, nI_gtz, nI_lez, nI_eqz, m1_ltz, m1_gez, true_imp_iff, false_imp_iff, true_and, and_true, ne_eq, not_false_eq_true, not_true_eq_false, Nat.reduceEqDiff, Nat.reduceLT, Nat.reduceLeDiff]
      with_reducible refine xm_go_blk b_X12_middle_45 k_X12_middle_45 ?_
      refine by_lload rfl ?_
      refine by_lload rfl ?_
      refine by_ins2 cn_262 lk_12_421 (by rw [xe_cnt]; decide) is_207 np_207 (Nat.le_of_ble_eq_true rfl) ?_
      refine sp_below (by omega) hz ?_
      by_cases q2 : hi < z
      · rw [if_pos q2]
        with_reducible refine xm_go_blk b_X12_middle_52 k_X12_middle_52 ?_
        refine by_if_eq 60 rfl ?_
        simp (disch := first | exact Nat.ne_of_beq_eq_false rfl | exact rfl | omega) only [nI_add, xa_sub, xa_mul, pk_div, nm_mod, xa_shr, xa_and7, xa_and1, xa_and255, xa_by_and, nI_m1, Nat.add_sub_cancel, Nat.reducePow, Nat.zero_add, Nat.add_zero, Nat.reduceAdd, Nat.reduceMul, Nat.reduceSub, xf_same, xq_ff, xq_fo, xf_1, xf_2, xs_1, xs_2, xs_same, xq_so, xj_1, xj_2, xj_same, xq_jo, xq_sa1, xq_same, xq_other, upd_s, oI_n, oI_s, xv_0, xv_1, xv_2, xv_3, xm_p1, xm_p2, xq_fp, xq_fn, List.filter_nil, Nat.reduceBEq, Bool.not_true, Bool.not_false, Bool.and_true, Bool.and_false, Bool.false_and, Bool.true_and, if_true, if_false, Bool.false_eq_true, reduceIte, xc_i, xc_j, xc_r, xc_n, List.nil_append, List.cons_append, Option.toList_some, Option.toList_none, nI_ltJ, nI_leJ, nI_eqJ, nI_ltz, nI_gez, nI_gtz, nI_lez, nI_eqz, m1_ltz, m1_gez, true_imp_iff, false_imp_iff, true_and, and_true, ne_eq, not_false_eq_true, not_true_eq_false, Nat.reduceEqDiff, Nat.reduceLT, Nat.reduceLeDiff]
        with_reducible refine xm_go_blk b_X12_middle_55 k_X12_middle_55 ?_
        refine by_lload rfl ?_
        refine by_goto 62 rfl ?_
        with_reducible refine xm_go_blk b_X12_middle_62 k_X12_middle_62 ?_
        refine by_lret ry_262 ?_
        rw [show max (min x y) (min (max x y) z) = hi by omega] at hp
        exact hp
      · rw [if_neg q2]
        with_reducible refine xm_go_blk b_X12_middle_52 k_X12_middle_52 ?_
        refine by_if_eq 60 rfl ?_
        simp (disch := first | exact Nat.ne_of_beq_eq_false rfl | exact rfl | omega) only [nI_add, xa_sub, xa_mul, pk_div, nm_mod, xa_shr, xa_and7, xa_and1, xa_and255, xa_by_and, nI_m1, Nat.add_sub_cancel, Nat.reducePow, Nat.zero_add, Nat.add_zero, Nat.reduceAdd, Nat.reduceMul, Nat.reduceSub, xf_same, xq_ff, xq_fo, xf_1, xf_2, xs_1, xs_2, xs_same, xq_so, xj_1, xj_2, xj_same, xq_jo, xq_sa1, xq_same, xq_other, upd_s, oI_n, oI_s, xv_0, xv_1, xv_2, xv_3, xm_p1, xm_p2, xq_fp, xq_fn, List.filter_nil, Nat.reduceBEq, Bool.not_true, Bool.not_false, Bool.and_true, Bool.and_false, Bool.false_and, Bool.true_and, if_true, if_false, Bool.false_eq_true, reduceIte, xc_i, xc_j, xc_r, xc_n, List.nil_append, List.cons_append, Option.toList_some, Option.toList_none, nI_ltJ, nI_leJ, nI_eqJ, nI_ltz, nI_gez, nI_gtz, nI_lez, nI_eqz, m1_ltz, m1_gez, true_imp_iff, false_imp_iff, true_and, and_true, ne_eq, not_false_eq_true, not_true_eq_false, Nat.reduceEqDiff, Nat.reduceLT, Nat.reduceLeDiff]
        with_reducible refine xm_go_blk b_X12_middle_60 k_X12_middle_60 ?_
        refine by_lload rfl ?_
        refine by_nil ?_
        with_reducible refine xm_go_blk b_X12_middle_62 k_X12_middle_62 ?_
        refine by_lret ry_262 ?_
        rw [show max (min x y) (min (max x y) z) = z by omega] at hp
        exact hp
  refine xq_in rfl ?_
  simp only [xq_a0, xq_aI, xq_aJ, xq_aR, Nat.reduceAdd]
  with_reducible refine xm_go_blk b_X12_middle_0 k_X12_middle_0 ?_
  refine by_lload_n rfl ?_
  refine by_lload_n rfl ?_
  refine by_ins2 cn_262 lk_12_421 (by rw [xe_cnt]; decide) is_207 np_207 (Nat.le_of_ble_eq_true rfl) ?_
  refine sp_below hx hy ?_
  by_cases q : x < y
  · rw [if_pos q]
    with_reducible refine xm_go_blk b_X12_middle_5 k_X12_middle_5 ?_
    refine by_if_eq 12 rfl ?_
    simp (disch := first | exact Nat.ne_of_beq_eq_false rfl | exact rfl | omega) only [nI_add, xa_sub, xa_mul, pk_div, nm_mod, xa_shr, xa_and7, xa_and1, xa_and255, xa_by_and, nI_m1, Nat.add_sub_cancel, Nat.reducePow, Nat.zero_add, Nat.add_zero, Nat.reduceAdd, Nat.reduceMul, Nat.reduceSub, xf_same, xq_ff, xq_fo, xf_1, xf_2, xs_1, xs_2, xs_same, xq_so, xj_1, xj_2, xj_same, xq_jo, xq_sa1, xq_same, xq_other, upd_s, oI_n, oI_s, xv_0, xv_1, xv_2, xv_3, xm_p1, xm_p2, xq_fp, xq_fn, List.filter_nil, Nat.reduceBEq, Bool.not_true, Bool.not_false, Bool.and_true, Bool.and_false, Bool.false_and, Bool.true_and, if_true, if_false, Bool.false_eq_true, reduceIte, xc_i, xc_j, xc_r, xc_n, List.nil_append, List.cons_append, Option.toList_some, Option.toList_none, nI_ltJ, nI_leJ, nI_eqJ, nI_ltz, nI_gez, nI_gtz, nI_lez, nI_eqz, m1_ltz, m1_gez, true_imp_iff, false_imp_iff, true_and, and_true, ne_eq, not_false_eq_true, not_true_eq_false, Nat.reduceEqDiff, Nat.reduceLT, Nat.reduceLeDiff]
    with_reducible refine xm_go_blk b_X12_middle_8 k_X12_middle_8 ?_
    refine by_lload_n rfl ?_
    refine by_goto 13 rfl ?_
    with_reducible refine xm_go_blk b_X12_middle_13 k_X12_middle_13 ?_
    refine by_lstore (by rw [ml_262]; decide) ?_
    refine by_lload_n rfl ?_
    refine by_lload_n rfl ?_
    simp (disch := first | exact Nat.ne_of_beq_eq_false rfl | exact rfl | omega) only [nI_add, xa_sub, xa_mul, pk_div, nm_mod, xa_shr, xa_and7, xa_and1, xa_and255, xa_by_and, nI_m1, Nat.add_sub_cancel, Nat.reducePow, Nat.zero_add, Nat.add_zero, Nat.reduceAdd, Nat.reduceMul, Nat.reduceSub, xf_same, xq_ff, xq_fo, xf_1, xf_2, xs_1, xs_2, xs_same, xq_so, xj_1, xj_2, xj_same, xq_jo, xq_sa1, xq_same, xq_other, upd_s, oI_n, oI_s, xv_0, xv_1, xv_2, xv_3, xm_p1, xm_p2, xq_fp, xq_fn, List.filter_nil, Nat.reduceBEq, Bool.not_true, Bool.not_false, Bool.and_true, Bool.and_false, Bool.false_and, Bool.true_and, if_true, if_false, Bool.false_eq_true, reduceIte, xc_i, xc_j, xc_r, xc_n, List.nil_append, List.cons_append, Option.toList_some, Option.toList_none]
    refine by_ins2 cn_262 lk_12_421 (by rw [xe_cnt]; decide) is_207 np_207 (Nat.le_of_ble_eq_true rfl) ?_
    refine sp_below hx hy ?_
    rw [if_pos q]
    with_reducible refine xm_go_blk b_X12_middle_20 k_X12_middle_20 ?_
    refine by_if_eq 27 rfl ?_
    simp (disch := first | exact Nat.ne_of_beq_eq_false rfl | exact rfl | omega) only [nI_add, xa_sub, xa_mul, pk_div, nm_mod, xa_shr, xa_and7, xa_and1, xa_and255, xa_by_and, nI_m1, Nat.add_sub_cancel, Nat.reducePow, Nat.zero_add, Nat.add_zero, Nat.reduceAdd, Nat.reduceMul, Nat.reduceSub, xf_same, xq_ff, xq_fo, xf_1, xf_2, xs_1, xs_2, xs_same, xq_so, xj_1, xj_2, xj_same, xq_jo, xq_sa1, xq_same, xq_other, upd_s, oI_n, oI_s, xv_0, xv_1, xv_2, xv_3, xm_p1, xm_p2, xq_fp, xq_fn, List.filter_nil, Nat.reduceBEq, Bool.not_true, Bool.not_false, Bool.and_true, Bool.and_false, Bool.false_and, Bool.true_and, if_true, if_false, Bool.false_eq_true, reduceIte, xc_i, xc_j, xc_r, xc_n, List.nil_append, List.cons_append, Option.toList_some, Option.toList_none, nI_ltJ, nI_leJ, nI_eqJ, nI_ltz, nI_gez, nI_gtz, nI_lez, nI_eqz, m1_ltz, m1_gez, true_imp_iff, false_imp_iff, true_and, and_true, ne_eq, not_false_eq_true, not_true_eq_false, Nat.reduceEqDiff, Nat.reduceLT, Nat.reduceLeDiff]
    with_reducible refine xm_go_blk b_X12_middle_23 k_X12_middle_23 ?_
    refine by_lload_n rfl ?_
    refine by_goto 28 rfl ?_
    exact xm_go_wk (by simp [Value.category]) (fin x y (by omega) (by omega))
  · rw [if_neg q]
    with_reducible refine xm_go_blk b_X12_middle_5 k_X12_middle_5 ?_
    refine by_if_eq 12 rfl ?_
    simp (disch := first | exact Nat.ne_of_beq_eq_false rfl | exact rfl | omega) only [nI_add, xa_sub, xa_mul, pk_div, nm_mod, xa_shr, xa_and7, xa_and1, xa_and255, xa_by_and, nI_m1, Nat.add_sub_cancel, Nat.reducePow, Nat.zero_add, Nat.add_zero, Nat.reduceAdd, Nat.reduceMul, Nat.reduceSub, xf_same, xq_ff, xq_fo, xf_1, xf_2, xs_1, xs_2, xs_same, xq_so, xj_1, xj_2, xj_same, xq_jo, xq_sa1, xq_same, xq_other, upd_s, oI_n, oI_s, xv_0, xv_1, xv_2, xv_3, xm_p1, xm_p2, xq_fp, xq_fn, List.filter_nil, Nat.reduceBEq, Bool.not_true, Bool.not_false, Bool.and_true, Bool.and_false, Bool.false_and, Bool.true_and, if_true, if_false, Bool.false_eq_true, reduceIte, xc_i, xc_j, xc_r, xc_n, List.nil_append, List.cons_append, Option.toList_some, Option.toList_none, nI_ltJ, nI_leJ, nI_eqJ, nI_ltz, nI_gez, nI_gtz, nI_lez, nI_eqz, m1_ltz, m1_gez, true_imp_iff, false_imp_iff, true_and, and_true, ne_eq, not_false_eq_true, not_true_eq_false, Nat.reduceEqDiff, Nat.reduceLT, Nat.reduceLeDiff]
    with_reducible refine xm_go_blk b_X12_middle_12 k_X12_middle_12 ?_
    refine by_lload_n rfl ?_
    refine by_nil ?_
    with_reducible refine xm_go_blk b_X12_middle_13 k_X12_middle_13 ?_
    refine by_lstore (by rw [ml_262]; decide) ?_
    refine by_lload_n rfl ?_
    refine by_lload_n rfl ?_
    simp (disch := first | exact Nat.ne_of_beq_eq_false rfl | exact rfl | omega) only [nI_add, xa_sub, xa_mul, pk_div, nm_mod, xa_shr, xa_and7, xa_and1, xa_and255, xa_by_and, nI_m1, Nat.add_sub_cancel, Nat.reducePow, Nat.zero_add, Nat.add_zero, Nat.reduceAdd, Nat.reduceMul, Nat.reduceSub, xf_same, xq_ff, xq_fo, xf_1, xf_2, xs_1, xs_2, xs_same, xq_so, xj_1, xj_2, xj_same, xq_jo, xq_sa1, xq_same, xq_other, upd_s, oI_n, oI_s, xv_0, xv_1, xv_2, xv_3, xm_p1, xm_p2, xq_fp, xq_fn, List.filter_nil, Nat.reduceBEq, Bool.not_true, Bool.not_false, Bool.and_true, Bool.and_false, Bool.false_and, Bool.true_and, if_true, if_false, Bool.false_eq_true, reduceIte, xc_i, xc_j, xc_r, xc_n, List.nil_append, List.cons_append, Option.toList_some, Option.toList_none]
    refine by_ins2 cn_262 lk_12_421 (by rw [xe_cnt]; decide) is_207 np_207 (Nat.le_of_ble_eq_true rfl) ?_
    refine sp_below hx hy ?_
    rw [if_neg q]
    with_reducible refine xm_go_blk b_X12_middle_20 k_X12_middle_20 ?_
    refine by_if_eq 27 rfl ?_
    simp (disch := first | exact Nat.ne_of_beq_eq_false rfl | exact rfl | omega) only [nI_add, xa_sub, xa_mul, pk_div, nm_mod, xa_shr, xa_and7, xa_and1, xa_and255, xa_by_and, nI_m1, Nat.add_sub_cancel, Nat.reducePow, Nat.zero_add, Nat.add_zero, Nat.reduceAdd, Nat.reduceMul, Nat.reduceSub, xf_same, xq_ff, xq_fo, xf_1, xf_2, xs_1, xs_2, xs_same, xq_so, xj_1, xj_2, xj_same, xq_jo, xq_sa1, xq_same, xq_other, upd_s, oI_n, oI_s, xv_0, xv_1, xv_2, xv_3, xm_p1, xm_p2, xq_fp, xq_fn, List.filter_nil, Nat.reduceBEq, Bool.not_true, Bool.not_false, Bool.and_true, Bool.and_false, Bool.false_and, Bool.true_and, if_true, if_false, Bool.false_eq_true, reduceIte, xc_i, xc_j, xc_r, xc_n, List.nil_append, List.cons_append, Option.toList_some, Option.toList_none, nI_ltJ, nI_leJ, nI_eqJ, nI_ltz, nI_gez, nI_gtz, nI_lez, nI_eqz, m1_ltz, m1_gez, true_imp_iff, false_imp_iff, true_and, and_true, ne_eq, not_false_eq_true, not_true_eq_false, Nat.reduceEqDiff, Nat.reduceLT, Nat.reduceLeDiff]
    with_reducible refine xm_go_blk b_X12_middle_27 k_X12_middle_27 ?_
    refine by_lload_n rfl ?_
    refine by_nil ?_
    exact xm_go_wk (by simp [Value.category]) (fin y x (by omega) (by omega))
end RQ
