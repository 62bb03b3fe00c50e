/-! ===== jets of the reference: ofTwo, isSo, ofThree ===== -/
theorem jx_m {x w : Nat} (hw : jw w) (hx : x < 2 ^ w) : (x ^^^ (2 ^ 64 - 1)) % 2 ^ w = x ^^^ (2 ^ w - 1) := by
  apply Nat.eq_of_testBit_eq
  intro i
  rw [Nat.testBit_mod_two_pow, Nat.testBit_xor, Nat.testBit_xor, Nat.testBit_two_pow_sub_one, Nat.testBit_two_pow_sub_one]
  by_cases hi : i < w
  · have : i < 64 := by have := (jw_le hw).2; omega
    simp [hi, this]
  · rw [Nat.testBit_lt_two_pow (Nat.lt_of_lt_of_le hx (Nat.pow_le_pow_right (by decide) (by omega)))]
    simp [hi]
theorem jz_m {x z w : Nat} (hw : jw w) (hz : z < 2 ^ w) : (x ^^^ (2 ^ 64 - 1)) &&& z = (x ^^^ (2 ^ w - 1)) &&& z := by
  apply Nat.eq_of_testBit_eq
  intro i
  rw [Nat.testBit_and, Nat.testBit_and, Nat.testBit_xor, Nat.testBit_xor, Nat.testBit_two_pow_sub_one, Nat.testBit_two_pow_sub_one]
  by_cases hi : i < w
  · have : i < 64 := by have := (jw_le hw).2; omega
    simp [hi, this]
  · rw [Nat.testBit_lt_two_pow (Nat.lt_of_lt_of_le hz (Nat.pow_le_pow_right (by decide) (by omega)))]
    simp
section RL
variable {sc : xm_Sc} {d w x c y z v : Nat} {h : xm_H} {post : xm_Po}
theorem sp_rtk {p i o n m : Nat} {u : Nat → Bool} (hF : XF h) (hn : n ≤ 64) (hB : rBt h i m u) (hpo : p = i + o) (ho : o + n ≤ m) (hpn : p + n ≤ 824000) (hp : post (some (.long (lN (mc_n u o n)))) h) : xm_T (XE sc) (d + 1) 299 [.ref 102, .int (nI p), .int (nI n)] h post := by
  subst hpo
  refine sp_rtake hF hn hpn (rBt_sh hB ho) ?_
  rw [mc_n_sh]
  exact hp
theorem sp_ofTwo {k : Nat} (hk : k = 9 ∨ k = 10 ∨ k = 16 ∨ k = 17 ∨ k = 24 ∨ k = 25 ∨ k = 26) (hw : jw w) (hx : x < 2 ^ w) (hy : y < 2 ^ w)
    (hp : ∀ L, bbits w L = jL k w c x y z v → post (some (.long (lN L))) h) : xm_T (XE sc) (d + 4) 271 [.int (nI k), .long (lN x), .long (lN y)] h post := by
  have hpw := jw_p hw
  have hx' : x < 2 ^ 64 := by omega
  have hy' : y < 2 ^ 64 := by omega
  have zz := lcz hy' (show 0 < 2 ^ 64 by decide)
  refine xq_in rfl ?_
  simp only [xq_a0, xq_aI, xq_aJ, xq_aR, Nat.reduceAdd]
  rcases hk with rfl | rfl | rfl | rfl | rfl | rfl | rfl
  · by_cases q : y = 0
    · have q' : (y = 0) = True := eq_true q
      with_reducible refine xm_go_blk b_X12_ofTwo_0 k_X12_ofTwo_0 ?_
      refine by_iload_n rfl ?_
      refine by_sw ?_
      refine xq_sw 84 (by decide) (by decide) ?_
      with_reducible refine xm_go_blk b_X12_ofTwo_84 k_X12_ofTwo_84 ?_
      refine by_lload_n rfl ?_
      refine by_lconst cl_0 ?_
      refine by_lcmp ?_
      refine by_if_ne 94 rfl ?_
      simp (disch := first | exact Nat.ne_of_beq_eq_false rfl | exact rfl | omega) only [nI_add, xa_sub, xa_mul, pk_div, nm_mod, xa_shr, xa_and7, xa_and1, xa_and255, xa_by_and, nI_m1, Nat.add_sub_cancel, Nat.reducePow, Nat.zero_add, Nat.add_zero, Nat.reduceAdd, Nat.reduceMul, Nat.reduceSub, xf_same, xq_ff, xq_fo, xf_1, xf_2, xs_1, xs_2, xs_same, xq_so, xj_1, xj_2, xj_same, xq_jo, xq_sa1, xq_same, xq_other, upd_s, oI_n, oI_s, xv_0, xv_1, xv_2, xv_3, xm_p1, xm_p2, xq_fp, xq_fn, List.filter_nil, Nat.reduceBEq, Bool.not_true, Bool.not_false, Bool.and_true, Bool.and_false, Bool.false_and, Bool.true_and, if_true, if_false, Bool.false_eq_true, reduceIte, xc_i, xc_j, xc_r, xc_n, List.nil_append, List.cons_append, Option.toList_some, Option.toList_none, nI_ltJ, nI_leJ, nI_eqJ, nI_ltz, nI_gez, nI_gtz, nI_lez, nI_eqz, m1_ltz, m1_gez, true_imp_iff, false_imp_iff, true_and, and_true, ne_eq, not_false_eq_true, not_true_eq_false, Nat.reduceEqDiff, Nat.reduceLT, Nat.reduceLeDiff, zz, q']
      with_reducible refine xm_go_blk b_X12_ofTwo_90 k_X12_ofTwo_90 ?_
      refine by_lconst cl_0 ?_
      refine by_goto 99 rfl ?_
      with_reducible refine xm_go_blk b_X12_ofTwo_99 k_X12_ofTwo_99 ?_
      refine by_lret ry_271 ?_
      exact hp 0 (by show _ = bbits w (x / y); rw [q, Nat.div_zero])
    · have q' : (y = 0) = False := eq_false q
      with_reducible refine xm_go_blk b_X12_ofTwo_0 k_X12_ofTwo_0 ?_
      refine by_iload_n rfl ?_
      refine by_sw ?_
      refine xq_sw 84 (by decide) (by decide) ?_
      with_reducible refine xm_go_blk b_X12_ofTwo_84 k_X12_ofTwo_84 ?_
      refine by_lload_n rfl ?_
      refine by_lconst cl_0 ?_
      refine by_lcmp ?_
      refine by_if_ne 94 rfl ?_
      simp (disch := first | exact Nat.ne_of_beq_eq_false rfl | exact rfl | omega) only [nI_add, xa_sub, xa_mul, pk_div, nm_mod, xa_shr, xa_and7, xa_and1, xa_and255, xa_by_and, nI_m1, Nat.add_sub_cancel, Nat.reducePow, Nat.zero_add, Nat.add_zero, Nat.reduceAdd, Nat.reduceMul, Nat.reduceSub, xf_same, xq_ff, xq_fo, xf_1, xf_2, xs_1, xs_2, xs_same, xq_so, xj_1, xj_2, xj_same, xq_jo, xq_sa1, xq_same, xq_other, upd_s, oI_n, oI_s, xv_0, xv_1, xv_2, xv_3, xm_p1, xm_p2, xq_fp, xq_fn, List.filter_nil, Nat.reduceBEq, Bool.not_true, Bool.not_false, Bool.and_true, Bool.and_false, Bool.false_and, Bool.true_and, if_true, if_false, Bool.false_eq_true, reduceIte, xc_i, xc_j, xc_r, xc_n, List.nil_append, List.cons_append, Option.toList_some, Option.toList_none, nI_ltJ, nI_leJ, nI_eqJ, nI_ltz, nI_gez, nI_gtz, nI_lez, nI_eqz, m1_ltz, m1_gez, true_imp_iff, false_imp_iff, true_and, and_true, ne_eq, not_false_eq_true, not_true_eq_false, Nat.reduceEqDiff, Nat.reduceLT, Nat.reduceLeDiff, zz, q']
      with_reducible refine xm_go_blk b_X12_ofTwo_94 k_X12_ofTwo_94 ?_
      refine by_lload_n rfl ?_
      refine by_lload_n rfl ?_
      refine by_ins2 cn_271 lk_12_425 (by rw [xe_cnt]; decide) is_280 np_280 (Nat.le_of_ble_eq_true rfl) ?_
      refine sp_rquo hx' hy' q ?_
      with_reducible refine xm_go_blk b_X12_ofTwo_99 k_X12_ofTwo_99 ?_
      refine by_lret ry_271 ?_
      exact hp _ rfl
  · with_reducible refine xm_go_blk b_X12_ofTwo_0 k_X12_ofTwo_0 ?_
    refine by_iload_n rfl ?_
    refine by_sw ?_
    refine xq_sw 100 (by decide) (by decide) ?_
    with_reducible refine xm_go_blk b_X12_ofTwo_100 k_X12_ofTwo_100 ?_
    refine by_lload_n rfl ?_
    refine by_lload_n rfl ?_
    refine by_ins2 cn_271 lk_12_443 (by rw [xe_cnt]; decide) is_286 np_286 (Nat.le_of_ble_eq_true rfl) ?_
    refine sp_rest hx' hy' ?_
    with_reducible refine xm_go_blk b_X12_ofTwo_105 k_X12_ofTwo_105 ?_
    refine by_lret ry_271 ?_
    exact hp _ rfl
  · with_reducible refine xm_go_blk b_X12_ofTwo_0 k_X12_ofTwo_0 ?_
    refine by_iload_n rfl ?_
    refine by_sw ?_
    refine xq_sw 106 (by decide) (by decide) ?_
    with_reducible refine xm_go_blk b_X12_ofTwo_106 k_X12_ofTwo_106 ?_
    refine by_lload_n rfl ?_
    refine by_lload_n rfl ?_
    refine by_ins2 cn_271 lk_12_421 (by rw [xe_cnt]; decide) is_207 np_207 (Nat.le_of_ble_eq_true rfl) ?_
    refine sp_below hx' hy' ?_
    by_cases q : x < y
    · rw [if_pos q]
      with_reducible refine xm_go_blk b_X12_ofTwo_111 k_X12_ofTwo_111 ?_
      refine by_if_eq 118 rfl ?_
      simp (disch := first | exact Nat.ne_of_beq_eq_false rfl | exact rfl | omega) only [nI_add, xa_sub, xa_mul, pk_div, nm_mod, xa_shr, xa_and7, xa_and1, xa_and255, xa_by_and, nI_m1, Nat.add_sub_cancel, Nat.reducePow, Nat.zero_add, Nat.add_zero, Nat.reduceAdd, Nat.reduceMul, Nat.reduceSub, xf_same, xq_ff, xq_fo, xf_1, xf_2, xs_1, xs_2, xs_same, xq_so, xj_1, xj_2, xj_same, xq_jo, xq_sa1, xq_same, xq_other, upd_s, oI_n, oI_s, xv_0, xv_1, xv_2, xv_3, xm_p1, xm_p2, xq_fp, xq_fn, List.filter_nil, Nat.reduceBEq, Bool.not_true, Bool.not_false, Bool.and_true, Bool.and_false, Bool.false_and, Bool.true_and, if_true, if_false, Bool.false_eq_true, reduceIte, xc_i, xc_j, xc_r, xc_n, List.nil_append, List.cons_append, Option.toList_some, Option.toList_none, nI_ltJ, nI_leJ, nI_eqJ, nI_ltz, nI_gez, nI_gtz, nI_lez, nI_eqz, m1_ltz, m1_gez, true_imp_iff, false_imp_iff, true_and, and_true, ne_eq, not_false_eq_true, not_true_eq_false, Nat.reduceEqDiff, Nat.reduceLT, Nat.reduceLeDiff]
      with_reducible refine xm_go_blk b_X12_ofTwo_114 k_X12_ofTwo_114 ?_
      refine by_lload_n rfl ?_
      refine by_goto 119 rfl ?_
      with_reducible refine xm_go_blk b_X12_ofTwo_119 k_X12_ofTwo_119 ?_
      refine by_lret ry_271 ?_
      exact hp x (by show _ = bbits w (min x y); rw [Nat.min_eq_left (by omega)])
    · rw [if_neg q]
      with_reducible refine xm_go_blk b_X12_ofTwo_111 k_X12_ofTwo_111 ?_
      refine by_if_eq 118 rfl ?_
      simp (disch := first | exact Nat.ne_of_beq_eq_false rfl | exact rfl | omega) only [nI_add, xa_sub, xa_mul, pk_div, nm_mod, xa_shr, xa_and7, xa_and1, xa_and255, xa_by_and, nI_m1, Nat.add_sub_cancel, Nat.reducePow, Nat.zero_add, Nat.add_zero, Nat.reduceAdd, Nat.reduceMul, Nat.reduceSub, xf_same, xq_ff, xq_fo, xf_1, xf_2, xs_1, xs_2, xs_same, xq_so, xj_1, xj_2, xj_same, xq_jo, xq_sa1, xq_same, xq_other, upd_s, oI_n, oI_s, xv_0, xv_1, xv_2, xv_3, xm_p1, xm_p2, xq_fp, xq_fn, List.filter_nil, Nat.reduceBEq, Bool.not_true, Bool.not_false, Bool.and_true, Bool.and_false, Bool.false_and, Bool.true_and, if_true, if_false, Bool.false_eq_true, reduceIte, xc_i, xc_j, xc_r, xc_n, List.nil_append, List.cons_append, Option.toList_some, Option.toList_none, nI_ltJ, nI_leJ, nI_eqJ, nI_ltz, nI_gez, nI_gtz, nI_lez, nI_eqz, m1_ltz, m1_gez, true_imp_iff, false_imp_iff, true_and, and_true, ne_eq, not_false_eq_true, not_true_eq_false, Nat.reduceEqDiff, Nat.reduceLT, Nat.reduceLeDiff]
      with_reducible refine xm_go_blk b_X12_ofTwo_118 k_X12_ofTwo_118 ?_
      refine by_lload_n rfl ?_
      refine by_nil ?_
      with_reducible refine xm_go_blk b_X12_ofTwo_119 k_X12_ofTwo_119 ?_
      refine by_lret ry_271 ?_
      exact hp y (by show _ = bbits w (min x y); rw [Nat.min_eq_right (by omega)])
  · with_reducible refine xm_go_blk b_X12_ofTwo_0 k_X12_ofTwo_0 ?_
    refine by_iload_n rfl ?_
    refine by_sw ?_
    refine xq_sw 120 (by decide) (by decide) ?_
    with_reducible refine xm_go_blk b_X12_ofTwo_120 k_X12_ofTwo_120 ?_
    refine by_lload_n rfl ?_
    refine by_lload_n rfl ?_
    refine by_ins2 cn_271 lk_12_421 (by rw [xe_cnt]; decide) is_207 np_207 (Nat.le_of_ble_eq_true rfl) ?_
    refine sp_below hx' hy' ?_
    by_cases q : x < y
    · rw [if_pos q]
      with_reducible refine xm_go_blk b_X12_ofTwo_125 k_X12_ofTwo_125 ?_
      refine by_if_eq 132 rfl ?_
      simp (disch := first | exact Nat.ne_of_beq_eq_false rfl | exact rfl | omega) only [nI_add, xa_sub, xa_mul, pk_div, nm_mod, xa_shr, xa_and7, xa_and1, xa_and255, xa_by_and, nI_m1, Nat.add_sub_cancel, Nat.reducePow, Nat.zero_add, Nat.add_zero, Nat.reduceAdd, Nat.reduceMul, Nat.reduceSub, xf_same, xq_ff, xq_fo, xf_1, xf_2, xs_1, xs_2, xs_same, xq_so, xj_1, xj_2, xj_same, xq_jo, xq_sa1, xq_same, xq_other, upd_s, oI_n, oI_s, xv_0, xv_1, xv_2, xv_3, xm_p1, xm_p2, xq_fp, xq_fn, List.filter_nil, Nat.reduceBEq, Bool.not_true, Bool.not_false, Bool.and_true, Bool.and_false, Bool.false_and, Bool.true_and, if_true, if_false, Bool.false_eq_true, reduceIte, xc_i, xc_j, xc_r, xc_n, List.nil_append, List.cons_append, Option.toList_some, Option.toList_none, nI_ltJ, nI_leJ, nI_eqJ, nI_ltz, nI_gez, nI_gtz, nI_lez, nI_eqz, m1_ltz, m1_gez, true_imp_iff, false_imp_iff, true_and, and_true, ne_eq, not_false_eq_true, not_true_eq_false, Nat.reduceEqDiff, Nat.reduceLT, Nat.reduceLeDiff]
      with_reducible refine xm_go_blk b_X12_ofTwo_128 k_X12_ofTwo_128 ?_
      refine by_lload_n rfl ?_
      refine by_goto 133 rfl ?_
      with_reducible refine xm_go_blk b_X12_ofTwo_133 k_X12_ofTwo_133 ?_
      refine by_lret ry_271 ?_
      exact hp y (by show _ = bbits w (max x y); rw [Nat.max_eq_right (by omega)])
    · rw [if_neg q]
      with_reducible refine xm_go_blk b_X12_ofTwo_125 k_X12_ofTwo_125 ?_
      refine by_if_eq 132 rfl ?_
      simp (disch := first | exact Nat.ne_of_beq_eq_false rfl | exact rfl | omega) only [nI_add, xa_sub, xa_mul, pk_div, nm_mod, xa_shr, xa_and7, xa_and1, xa_and255, xa_by_and, nI_m1, Nat.add_sub_cancel, Nat.reducePow, Nat.zero_add, Nat.add_zero, Nat.reduceAdd, Nat.reduceMul, Nat.reduceSub, xf_same, xq_ff, xq_fo, xf_1, xf_2, xs_1, xs_2, xs_same, xq_so, xj_1, xj_2, xj_same, xq_jo, xq_sa1, xq_same, xq_other, upd_s, oI_n, oI_s, xv_0, xv_1, xv_2, xv_3, xm_p1, xm_p2, xq_fp, xq_fn, List.filter_nil, Nat.reduceBEq, Bool.not_true, Bool.not_false, Bool.and_true, Bool.and_false, Bool.false_and, Bool.true_and, if_true, if_false, Bool.false_eq_true, reduceIte, xc_i, xc_j, xc_r, xc_n, List.nil_append, List.cons_append, Option.toList_some, Option.toList_none, nI_ltJ, nI_leJ, nI_eqJ, nI_ltz, nI_gez, nI_gtz, nI_lez, nI_eqz, m1_ltz, m1_gez, true_imp_iff, false_imp_iff, true_and, and_true, ne_eq, not_false_eq_true, not_true_eq_false, Nat.reduceEqDiff, Nat.reduceLT, Nat.reduceLeDiff]
      with_reducible refine xm_go_blk b_X12_ofTwo_132 k_X12_ofTwo_132 ?_
      refine by_lload_n rfl ?_
      refine by_nil ?_
      with_reducible refine xm_go_blk b_X12_ofTwo_133 k_X12_ofTwo_133 ?_
      refine by_lret ry_271 ?_
      exact hp x (by show _ = bbits w (max x y); rw [Nat.max_eq_left (by omega)])
  · have e := wb_and hx' hy'
    with_reducible refine xm_go_blk b_X12_ofTwo_0 k_X12_ofTwo_0 ?_
    refine by_iload_n rfl ?_
    refine by_sw ?_
    refine xq_sw 134 (by decide) (by decide) ?_
    with_reducible refine xm_go_blk b_X12_ofTwo_134 k_X12_ofTwo_134 ?_
    refine by_lload_n rfl ?_
    refine by_lload_n rfl ?_
    refine by_land ?_
    simp (disch := first | exact Nat.ne_of_beq_eq_false rfl | exact rfl | omega) only [nI_add, xa_sub, xa_mul, pk_div, nm_mod, xa_shr, xa_and7, xa_and1, xa_and255, xa_by_and, nI_m1, Nat.add_sub_cancel, Nat.reducePow, Nat.zero_add, Nat.add_zero, Nat.reduceAdd, Nat.reduceMul, Nat.reduceSub, xf_same, xq_ff, xq_fo, xf_1, xf_2, xs_1, xs_2, xs_same, xq_so, xj_1, xj_2, xj_same, xq_jo, xq_sa1, xq_same, xq_other, upd_s, oI_n, oI_s, e]
    refine by_lret ry_271 ?_
    exact hp _ rfl
  · have e := wb_or hx' hy'
    with_reducible refine xm_go_blk b_X12_ofTwo_0 k_X12_ofTwo_0 ?_
    refine by_iload_n rfl ?_
    refine by_sw ?_
    refine xq_sw 138 (by decide) (by decide) ?_
    with_reducible refine xm_go_blk b_X12_ofTwo_138 k_X12_ofTwo_138 ?_
    refine by_lload_n rfl ?_
    refine by_lload_n rfl ?_
    refine by_lor ?_
    simp (disch := first | exact Nat.ne_of_beq_eq_false rfl | exact rfl | omega) only [nI_add, xa_sub, xa_mul, pk_div, nm_mod, xa_shr, xa_and7, xa_and1, xa_and255, xa_by_and, nI_m1, Nat.add_sub_cancel, Nat.reducePow, Nat.zero_add, Nat.add_zero, Nat.reduceAdd, Nat.reduceMul, Nat.reduceSub, xf_same, xq_ff, xq_fo, xf_1, xf_2, xs_1, xs_2, xs_same, xq_so, xj_1, xj_2, xj_same, xq_jo, xq_sa1, xq_same, xq_other, upd_s, oI_n, oI_s, e]
    refine by_lret ry_271 ?_
    exact hp _ rfl
  · with_reducible refine xm_go_blk b_X12_ofTwo_0 k_X12_ofTwo_0 ?_
    refine by_iload_n rfl ?_
    refine by_sw ?_
    refine xq_sw 142 (by decide) (by decide) ?_
    with_reducible refine xm_go_blk b_X12_ofTwo_142 k_X12_ofTwo_142 ?_
    refine by_lload_n rfl ?_
    refine by_lload_n rfl ?_
    refine by_lxor ?_
    simp (disch := first | exact Nat.ne_of_beq_eq_false rfl | exact rfl | omega) only [nI_add, xa_sub, xa_mul, pk_div, nm_mod, xa_shr, xa_and7, xa_and1, xa_and255, xa_by_and, nI_m1, Nat.add_sub_cancel, Nat.reducePow, Nat.zero_add, Nat.add_zero, Nat.reduceAdd, Nat.reduceMul, Nat.reduceSub, xf_same, xq_ff, xq_fo, xf_1, xf_2, xs_1, xs_2, xs_same, xq_so, xj_1, xj_2, xj_same, xq_jo, xq_sa1, xq_same, xq_other, upd_s, oI_n, oI_s, lN_xor]
    refine by_lret ry_271 ?_
    exact hp _ rfl
theorem sp_isSo {k : Nat} (hk : (11 ≤ k ∧ k ≤ 15) ∨ (19 ≤ k ∧ k ≤ 22)) (hw : jw w) (hx : x < 2 ^ w) (hy : y < 2 ^ w)
    (hp : ∀ B, B < 2 → bbits 1 B = jL k w c x y z v → post (some (.int (nI B))) h) : xm_T (XE sc) (d + 4) 235 [.int (nI k), .long (lN x), .long (lN y), .int (nI w)] h post := by
  have hpw := jw_p hw
  have hle := jw_le hw
  have hx' : x < 2 ^ 64 := by omega
  have hy' : y < 2 ^ 64 := by omega
  have zx := lcz hx' (show 0 < 2 ^ 64 by decide)
  have zy := lcz hy' (show 0 < 2 ^ 64 by decide)
  have z1 := lcz hx' (show 1 < 2 ^ 64 by decide)
  have zxy := lcz hx' hy'
  have p1 : ∀ {P : Prop} [Decidable P], P → 1 = (if P then 1 else 0) := fun h => (if_pos h).symm
  have p0 : ∀ {P : Prop} [Decidable P], ¬ P → 0 = (if P then 1 else 0) := fun h => (if_neg h).symm
  refine xq_in rfl ?_
  simp only [xq_a0, xq_aI, xq_aJ, xq_aR, Nat.reduceAdd]
  rcases (by omega : k = 11 ∨ k = 12 ∨ k = 13 ∨ k = 14 ∨ k = 15 ∨ k = 19 ∨ k = 20 ∨ k = 21 ∨ k = 22) with rfl | rfl | rfl | rfl | rfl | rfl | rfl | rfl | rfl
  · by_cases q : x = 0
    · have q' : (x = 0) = True := eq_true q
      by_cases q2 : y = 0
      · have q2' : (y = 0) = True := eq_true q2
        with_reducible refine xm_go_blk b_X12_isSo_0 k_X12_isSo_0 ?_
        refine by_iload_n rfl ?_
        refine by_sw ?_
        refine xq_sw 60 (by decide) (by decide) ?_
        with_reducible refine xm_go_blk b_X12_isSo_60 k_X12_isSo_60 ?_
        refine by_lload_n rfl ?_
        refine by_lconst cl_0 ?_
        refine by_lcmp ?_
        refine by_if_ne 80 rfl ?_
        simp (disch := first | exact Nat.ne_of_beq_eq_false rfl | exact rfl | omega) only [nI_add, xa_sub, xa_mul, pk_div, nm_mod, xa_shr, xa_and7, xa_and1, xa_and255, xa_by_and, nI_m1, Nat.add_sub_cancel, Nat.reducePow, Nat.zero_add, Nat.add_zero, Nat.reduceAdd, Nat.reduceMul, Nat.reduceSub, xf_same, xq_ff, xq_fo, xf_1, xf_2, xs_1, xs_2, xs_same, xq_so, xj_1, xj_2, xj_same, xq_jo, xq_sa1, xq_same, xq_other, upd_s, oI_n, oI_s, xv_0, xv_1, xv_2, xv_3, xm_p1, xm_p2, xq_fp, xq_fn, List.filter_nil, Nat.reduceBEq, Bool.not_true, Bool.not_false, Bool.and_true, Bool.and_false, Bool.false_and, Bool.true_and, if_true, if_false, Bool.false_eq_true, reduceIte, xc_i, xc_j, xc_r, xc_n, List.nil_append, List.cons_append, Option.toList_some, Option.toList_none, nI_ltJ, nI_leJ, nI_eqJ, nI_ltz, nI_gez, nI_gtz, nI_lez, nI_eqz, m1_ltz, m1_gez, true_imp_iff, false_imp_iff, true_and, and_true, ne_eq, not_false_eq_true, not_true_eq_false, Nat.reduceEqDiff, Nat.reduceLT, Nat.reduceLeDiff, zx, q', zy, q2']
        with_reducible refine xm_go_blk b_X12_isSo_66 k_X12_isSo_66 ?_
        refine by_lload_n rfl ?_
        refine by_lconst cl_0 ?_
        refine by_lcmp ?_
        refine by_if_ne 76 rfl ?_
        simp (disch := first | exact Nat.ne_of_beq_eq_false rfl | exact rfl | omega) only [nI_add, xa_sub, xa_mul, pk_div, nm_mod, xa_shr, xa_and7, xa_and1, xa_and255, xa_by_and, nI_m1, Nat.add_sub_cancel, Nat.reducePow, Nat.zero_add, Nat.add_zero, Nat.reduceAdd, Nat.reduceMul, Nat.reduceSub, xf_same, xq_ff, xq_fo, xf_1, xf_2, xs_1, xs_2, xs_same, xq_so, xj_1, xj_2, xj_same, xq_jo, xq_sa1, xq_same, xq_other, upd_s, oI_n, oI_s, xv_0, xv_1, xv_2, xv_3, xm_p1, xm_p2, xq_fp, xq_fn, List.filter_nil, Nat.reduceBEq, Bool.not_true, Bool.not_false, Bool.and_true, Bool.and_false, Bool.false_and, Bool.true_and, if_true, if_false, Bool.false_eq_true, reduceIte, xc_i, xc_j, xc_r, xc_n, List.nil_append, List.cons_append, Option.toList_some, Option.toList_none, nI_ltJ, nI_leJ, nI_eqJ, nI_ltz, nI_gez, nI_gtz, nI_lez, nI_eqz, m1_ltz, m1_gez, true_imp_iff, false_imp_iff, true_and, and_true, ne_eq, not_false_eq_true, not_true_eq_false, Nat.reduceEqDiff, Nat.reduceLT, Nat.reduceLeDiff, zx, q', zy, q2']
        with_reducible refine xm_go_blk b_X12_isSo_72 k_X12_isSo_72 ?_
        refine by_iconst ci_1 ?_
        refine by_goto 95 rfl ?_
        with_reducible refine xm_go_blk b_X12_isSo_95 k_X12_isSo_95 ?_
        refine by_iret ry_235 (by first | rfl | assumption) ?_
        exact hp 1 (by decide) (congrArg (bbits 1) (p1 (by rw [q, Nat.mod_zero]; exact q2)))
      · have q2' : (y = 0) = False := eq_false q2
        with_reducible refine xm_go_blk b_X12_isSo_0 k_X12_isSo_0 ?_
        refine by_iload_n rfl ?_
        refine by_sw ?_
        refine xq_sw 60 (by decide) (by decide) ?_
        with_reducible refine xm_go_blk b_X12_isSo_60 k_X12_isSo_60 ?_
        refine by_lload_n rfl ?_
        refine by_lconst cl_0 ?_
        refine by_lcmp ?_
        refine by_if_ne 80 rfl ?_
        simp (disch := first | exact Nat.ne_of_beq_eq_false rfl | exact rfl | omega) only [nI_add, xa_sub, xa_mul, pk_div, nm_mod, xa_shr, xa_and7, xa_and1, xa_and255, xa_by_and, nI_m1, Nat.add_sub_cancel, Nat.reducePow, Nat.zero_add, Nat.add_zero, Nat.reduceAdd, Nat.reduceMul, Nat.reduceSub, xf_same, xq_ff, xq_fo, xf_1, xf_2, xs_1, xs_2, xs_same, xq_so, xj_1, xj_2, xj_same, xq_jo, xq_sa1, xq_same, xq_other, upd_s, oI_n, oI_s, xv_0, xv_1, xv_2, xv_3, xm_p1, xm_p2, xq_fp, xq_fn, List.filter_nil, Nat.reduceBEq, Bool.not_true, Bool.not_false, Bool.and_true, Bool.and_false, Bool.false_and, Bool.true_and, if_true, if_false, Bool.false_eq_true, reduceIte, xc_i, xc_j, xc_r, xc_n, List.nil_append, List.cons_append, Option.toList_some, Option.toList_none, nI_ltJ, nI_leJ, nI_eqJ, nI_ltz, nI_gez, nI_gtz, nI_lez, nI_eqz, m1_ltz, m1_gez, true_imp_iff, false_imp_iff, true_and, and_true, ne_eq, not_false_eq_true, not_true_eq_false, Nat.reduceEqDiff, Nat.reduceLT, Nat.reduceLeDiff, zx, q', zy, q2']
        with_reducible refine xm_go_blk b_X12_isSo_66 k_X12_isSo_66 ?_
        refine by_lload_n rfl ?_
        refine by_lconst cl_0 ?_
        refine by_lcmp ?_
        refine by_if_ne 76 rfl ?_
        simp (disch := first | exact Nat.ne_of_beq_eq_false rfl | exact rfl | omega) only [nI_add, xa_sub, xa_mul, pk_div, nm_mod, xa_shr, xa_and7, xa_and1, xa_and255, xa_by_and, nI_m1, Nat.add_sub_cancel, Nat.reducePow, Nat.zero_add, Nat.add_zero, Nat.reduceAdd, Nat.reduceMul, Nat.reduceSub, xf_same, xq_ff, xq_fo, xf_1, xf_2, xs_1, xs_2, xs_same, xq_so, xj_1, xj_2, xj_same, xq_jo, xq_sa1, xq_same, xq_other, upd_s, oI_n, oI_s, xv_0, xv_1, xv_2, xv_3, xm_p1, xm_p2, xq_fp, xq_fn, List.filter_nil, Nat.reduceBEq, Bool.not_true, Bool.not_false, Bool.and_true, Bool.and_false, Bool.false_and, Bool.true_and, if_true, if_false, Bool.false_eq_true, reduceIte, xc_i, xc_j, xc_r, xc_n, List.nil_append, List.cons_append, Option.toList_some, Option.toList_none, nI_ltJ, nI_leJ, nI_eqJ, nI_ltz, nI_gez, nI_gtz, nI_lez, nI_eqz, m1_ltz, m1_gez, true_imp_iff, false_imp_iff, true_and, and_true, ne_eq, not_false_eq_true, not_true_eq_false, Nat.reduceEqDiff, Nat.reduceLT, Nat.reduceLeDiff, zx, q', zy, q2']
        with_reducible refine xm_go_blk b_X12_isSo_76 k_X12_isSo_76 ?_
        refine by_iconst ci_0 ?_
        refine by_goto 95 rfl ?_
        with_reducible refine xm_go_blk b_X12_isSo_95 k_X12_isSo_95 ?_
        refine by_iret ry_235 (by first | rfl | assumption) ?_
        exact hp 0 (by decide) (congrArg (bbits 1) (p0 (by rw [q, Nat.mod_zero]; exact q2)))
    · have q' : (x = 0) = False := eq_false q
      have hm : y % x < 2 ^ 64 := Nat.lt_of_le_of_lt (Nat.mod_le _ _) hy'
      have zm := lcz hm (show 0 < 2 ^ 64 by decide)
      with_reducible refine xm_go_blk b_X12_isSo_0 k_X12_isSo_0 ?_
      refine by_iload_n rfl ?_
      refine by_sw ?_
      refine xq_sw 60 (by decide) (by decide) ?_
      with_reducible refine xm_go_blk b_X12_isSo_60 k_X12_isSo_60 ?_
      refine by_lload_n rfl ?_
      refine by_lconst cl_0 ?_
      refine by_lcmp ?_
      refine by_if_ne 80 rfl ?_
      simp (disch := first | exact Nat.ne_of_beq_eq_false rfl | exact rfl | omega) only [nI_add, xa_sub, xa_mul, pk_div, nm_mod, xa_shr, xa_and7, xa_and1, xa_and255, xa_by_and, nI_m1, Nat.add_sub_cancel, Nat.reducePow, Nat.zero_add, Nat.add_zero, Nat.reduceAdd, Nat.reduceMul, Nat.reduceSub, xf_same, xq_ff, xq_fo, xf_1, xf_2, xs_1, xs_2, xs_same, xq_so, xj_1, xj_2, xj_same, xq_jo, xq_sa1, xq_same, xq_other, upd_s, oI_n, oI_s, xv_0, xv_1, xv_2, xv_3, xm_p1, xm_p2, xq_fp, xq_fn, List.filter_nil, Nat.reduceBEq, Bool.not_true, Bool.not_false, Bool.and_true, Bool.and_false, Bool.false_and, Bool.true_and, if_true, if_false, Bool.false_eq_true, reduceIte, xc_i, xc_j, xc_r, xc_n, List.nil_append, List.cons_append, Option.toList_some, Option.toList_none, nI_ltJ, nI_leJ, nI_eqJ, nI_ltz, nI_gez, nI_gtz, nI_lez, nI_eqz, m1_ltz, m1_gez, true_imp_iff, false_imp_iff, true_and, and_true, ne_eq, not_false_eq_true, not_true_eq_false, Nat.reduceEqDiff, Nat.reduceLT, Nat.reduceLeDiff, zx, q']
      with_reducible refine xm_go_blk b_X12_isSo_80 k_X12_isSo_80 ?_
      refine by_lload_n rfl ?_
      refine by_lload_n rfl ?_
      refine by_ins2 cn_235 lk_12_443 (by rw [xe_cnt]; decide) is_286 np_286 (Nat.le_of_ble_eq_true rfl) ?_
      refine sp_rest hy' hx' ?_
      by_cases q2 : y % x = 0
      · have q2' : (y % x = 0) = True := eq_true q2
        with_reducible refine xm_go_blk b_X12_isSo_85 k_X12_isSo_85 ?_
        refine by_lconst cl_0 ?_
        refine by_lcmp ?_
        refine by_if_ne 94 rfl ?_
        simp (disch := first | exact Nat.ne_of_beq_eq_false rfl | exact rfl | omega) only [nI_add, xa_sub, xa_mul, pk_div, nm_mod, xa_shr, xa_and7, xa_and1, xa_and255, xa_by_and, nI_m1, Nat.add_sub_cancel, Nat.reducePow, Nat.zero_add, Nat.add_zero, Nat.reduceAdd, Nat.reduceMul, Nat.reduceSub, xf_same, xq_ff, xq_fo, xf_1, xf_2, xs_1, xs_2, xs_same, xq_so, xj_1, xj_2, xj_same, xq_jo, xq_sa1, xq_same, xq_other, upd_s, oI_n, oI_s, xv_0, xv_1, xv_2, xv_3, xm_p1, xm_p2, xq_fp, xq_fn, List.filter_nil, Nat.reduceBEq, Bool.not_true, Bool.not_false, Bool.and_true, Bool.and_false, Bool.false_and, Bool.true_and, if_true, if_false, Bool.false_eq_true, reduceIte, xc_i, xc_j, xc_r, xc_n, List.nil_append, List.cons_append, Option.toList_some, Option.toList_none, nI_ltJ, nI_leJ, nI_eqJ, nI_ltz, nI_gez, nI_gtz, nI_lez, nI_eqz, m1_ltz, m1_gez, true_imp_iff, false_imp_iff, true_and, and_true, ne_eq, not_false_eq_true, not_true_eq_false, Nat.reduceEqDiff, Nat.reduceLT, Nat.reduceLeDiff, zm, q2']
        with_reducible refine xm_go_blk b_X12_isSo_90 k_X12_isSo_90 ?_
        refine by_iconst ci_1 ?_
        refine by_goto 95 rfl ?_
        with_reducible refine xm_go_blk b_X12_isSo_95 k_X12_isSo_95 ?_
        refine by_iret ry_235 (by first | rfl | assumption) ?_
        exact hp 1 (by decide) (congrArg (bbits 1) (p1 q2))
      · have q2' : (y % x = 0) = False := eq_false q2
        with_reducible refine xm_go_blk b_X12_isSo_85 k_X12_isSo_85 ?_
        refine by_lconst cl_0 ?_
        refine by_lcmp ?_
        refine by_if_ne 94 rfl ?_
        simp (disch := first | exact Nat.ne_of_beq_eq_false rfl | exact rfl | omega) only [nI_add, xa_sub, xa_mul, pk_div, nm_mod, xa_shr, xa_and7, xa_and1, xa_and255, xa_by_and, nI_m1, Nat.add_sub_cancel, Nat.reducePow, Nat.zero_add, Nat.add_zero, Nat.reduceAdd, Nat.reduceMul, Nat.reduceSub, xf_same, xq_ff, xq_fo, xf_1, xf_2, xs_1, xs_2, xs_same, xq_so, xj_1, xj_2, xj_same, xq_jo, xq_sa1, xq_same, xq_other, upd_s, oI_n, oI_s, xv_0, xv_1, xv_2, xv_3, xm_p1, xm_p2, xq_fp, xq_fn, List.filter_nil, Nat.reduceBEq, Bool.not_true, Bool.not_false, Bool.and_true, Bool.and_false, Bool.false_and, Bool.true_and, if_true, if_false, Bool.false_eq_true, reduceIte, xc_i, xc_j, xc_r, xc_n, List.nil_append, List.cons_append, Option.toList_some, Option.toList_none, nI_ltJ, nI_leJ, nI_eqJ, nI_ltz, nI_gez, nI_gtz, nI_lez, nI_eqz, m1_ltz, m1_gez, true_imp_iff, false_imp_iff, true_and, and_true, ne_eq, not_false_eq_true, not_true_eq_false, Nat.reduceEqDiff, Nat.reduceLT, Nat.reduceLeDiff, zm, q2']
        with_reducible refine xm_go_blk b_X12_isSo_94 k_X12_isSo_94 ?_
        refine by_iconst ci_0 ?_
        refine by_nil ?_
        with_reducible refine xm_go_blk b_X12_isSo_95 k_X12_isSo_95 ?_
        refine by_iret ry_235 (by first | rfl | assumption) ?_
        exact hp 0 (by decide) (congrArg (bbits 1) (p0 q2))
  · by_cases q : x = y
    · have q' : (x = y) = True := eq_true q
      with_reducible refine xm_go_blk b_X12_isSo_0 k_X12_isSo_0 ?_
      refine by_iload_n rfl ?_
      refine by_sw ?_
      refine xq_sw 96 (by decide) (by decide) ?_
      with_reducible refine xm_go_blk b_X12_isSo_96 k_X12_isSo_96 ?_
      refine by_lload_n rfl ?_
      refine by_lload_n rfl ?_
      refine by_lcmp ?_
      refine by_if_ne 106 rfl ?_
      simp (disch := first | exact Nat.ne_of_beq_eq_false rfl | exact rfl | omega) only [nI_add, xa_sub, xa_mul, pk_div, nm_mod, xa_shr, xa_and7, xa_and1, xa_and255, xa_by_and, nI_m1, Nat.add_sub_cancel, Nat.reducePow, Nat.zero_add, Nat.add_zero, Nat.reduceAdd, Nat.reduceMul, Nat.reduceSub, xf_same, xq_ff, xq_fo, xf_1, xf_2, xs_1, xs_2, xs_same, xq_so, xj_1, xj_2, xj_same, xq_jo, xq_sa1, xq_same, xq_other, upd_s, oI_n, oI_s, xv_0, xv_1, xv_2, xv_3, xm_p1, xm_p2, xq_fp, xq_fn, List.filter_nil, Nat.reduceBEq, Bool.not_true, Bool.not_false, Bool.and_true, Bool.and_false, Bool.false_and, Bool.true_and, if_true, if_false, Bool.false_eq_true, reduceIte, xc_i, xc_j, xc_r, xc_n, List.nil_append, List.cons_append, Option.toList_some, Option.toList_none, nI_ltJ, nI_leJ, nI_eqJ, nI_ltz, nI_gez, nI_gtz, nI_lez, nI_eqz, m1_ltz, m1_gez, true_imp_iff, false_imp_iff, true_and, and_true, ne_eq, not_false_eq_true, not_true_eq_false, Nat.reduceEqDiff, Nat.reduceLT, Nat.reduceLeDiff, zxy, q']
      with_reducible refine xm_go_blk b_X12_isSo_102 k_X12_isSo_102 ?_
      refine by_iconst ci_1 ?_
      refine by_goto 107 rfl ?_
      with_reducible refine xm_go_blk b_X12_isSo_107 k_X12_isSo_107 ?_
      refine by_iret ry_235 (by first | rfl | assumption) ?_
      exact hp 1 (by decide) (congrArg (bbits 1) (p1 q))
    · have q' : (x = y) = False := eq_false q
      with_reducible refine xm_go_blk b_X12_isSo_0 k_X12_isSo_0 ?_
      refine by_iload_n rfl ?_
      refine by_sw ?_
      refine xq_sw 96 (by decide) (by decide) ?_
      with_reducible refine xm_go_blk b_X12_isSo_96 k_X12_isSo_96 ?_
      refine by_lload_n rfl ?_
      refine by_lload_n rfl ?_
      refine by_lcmp ?_
      refine by_if_ne 106 rfl ?_
      simp (disch := first | exact Nat.ne_of_beq_eq_false rfl | exact rfl | omega) only [nI_add, xa_sub, xa_mul, pk_div, nm_mod, xa_shr, xa_and7, xa_and1, xa_and255, xa_by_and, nI_m1, Nat.add_sub_cancel, Nat.reducePow, Nat.zero_add, Nat.add_zero, Nat.reduceAdd, Nat.reduceMul, Nat.reduceSub, xf_same, xq_ff, xq_fo, xf_1, xf_2, xs_1, xs_2, xs_same, xq_so, xj_1, xj_2, xj_same, xq_jo, xq_sa1, xq_same, xq_other, upd_s, oI_n, oI_s, xv_0, xv_1, xv_2, xv_3, xm_p1, xm_p2, xq_fp, xq_fn, List.filter_nil, Nat.reduceBEq, Bool.not_true, Bool.not_false, Bool.and_true, Bool.and_false, Bool.false_and, Bool.true_and, if_true, if_false, Bool.false_eq_true, reduceIte, xc_i, xc_j, xc_r, xc_n, List.nil_append, List.cons_append, Option.toList_some, Option.toList_none, nI_ltJ, nI_leJ, nI_eqJ, nI_ltz, nI_gez, nI_gtz, nI_lez, nI_eqz, m1_ltz, m1_gez, true_imp_iff, false_imp_iff, true_and, and_true, ne_eq, not_false_eq_true, not_true_eq_false, Nat.reduceEqDiff, Nat.reduceLT, Nat.reduceLeDiff, zxy, q']
      with_reducible refine xm_go_blk b_X12_isSo_106 k_X12_isSo_106 ?_
      refine by_iconst ci_0 ?_
      refine by_nil ?_
      with_reducible refine xm_go_blk b_X12_isSo_107 k_X12_isSo_107 ?_
      refine by_iret ry_235 (by first | rfl | assumption) ?_
      exact hp 0 (by decide) (congrArg (bbits 1) (p0 q))
  · with_reducible refine xm_go_blk b_X12_isSo_0 k_X12_isSo_0 ?_
    refine by_iload_n rfl ?_
    refine by_sw ?_
    refine xq_sw 108 (by decide) (by decide) ?_
    with_reducible refine xm_go_blk b_X12_isSo_108 k_X12_isSo_108 ?_
    refine by_lload_n rfl ?_
    refine by_lload_n rfl ?_
    refine by_ins2 cn_235 lk_12_421 (by rw [xe_cnt]; decide) is_207 np_207 (Nat.le_of_ble_eq_true rfl) ?_
    refine sp_below hx' hy' ?_
    by_cases q : x < y
    · rw [if_pos q]
      with_reducible refine xm_go_blk b_X12_isSo_113 k_X12_isSo_113 ?_
      refine by_iret ry_235 (by first | rfl | assumption) ?_
      exact hp 1 (by decide) (congrArg (bbits 1) (p1 q))
    · rw [if_neg q]
      with_reducible refine xm_go_blk b_X12_isSo_113 k_X12_isSo_113 ?_
      refine by_iret ry_235 (by first | rfl | assumption) ?_
      exact hp 0 (by decide) (congrArg (bbits 1) (p0 q))
  · with_reducible refine xm_go_blk b_X12_isSo_0 k_X12_isSo_0 ?_
    refine by_iload_n rfl ?_
    refine by_sw ?_
    refine xq_sw 114 (by decide) (by decide) ?_
    with_reducible refine xm_go_blk b_X12_isSo_114 k_X12_isSo_114 ?_
    refine by_lload_n rfl ?_
    refine by_lload_n rfl ?_
    refine by_ins2 cn_235 lk_12_421 (by rw [xe_cnt]; decide) is_207 np_207 (Nat.le_of_ble_eq_true rfl) ?_
    refine sp_below hy' hx' ?_
    by_cases q : y < x
    · rw [if_pos q]
      with_reducible refine xm_go_blk b_X12_isSo_119 k_X12_isSo_119 ?_
      refine by_if_ne 126 rfl ?_
      simp (disch := first | exact Nat.ne_of_beq_eq_false rfl | exact rfl | omega) only [nI_add, xa_sub, xa_mul, pk_div, nm_mod, xa_shr, xa_and7, xa_and1, xa_and255, xa_by_and, nI_m1, Nat.add_sub_cancel, Nat.reducePow, Nat.zero_add, Nat.add_zero, Nat.reduceAdd, Nat.reduceMul, Nat.reduceSub, xf_same, xq_ff, xq_fo, xf_1, xf_2, xs_1, xs_2, xs_same, xq_so, xj_1, xj_2, xj_same, xq_jo, xq_sa1, xq_same, xq_other, upd_s, oI_n, oI_s, xv_0, xv_1, xv_2, xv_3, xm_p1, xm_p2, xq_fp, xq_fn, List.filter_nil, Nat.reduceBEq, Bool.not_true, Bool.not_false, Bool.and_true, Bool.and_false, Bool.false_and, Bool.true_and, if_true, if_false, Bool.false_eq_true, reduceIte, xc_i, xc_j, xc_r, xc_n, List.nil_append, List.cons_append, Option.toList_some, Option.toList_none, nI_ltJ, nI_leJ, nI_eqJ, nI_ltz, nI_gez, nI_gtz, nI_lez, nI_eqz, m1_ltz, m1_gez, true_imp_iff, false_imp_iff, true_and, and_true, ne_eq, not_false_eq_true, not_true_eq_false, Nat.reduceEqDiff, Nat.reduceLT, Nat.reduceLeDiff]
      with_reducible refine xm_go_blk b_X12_isSo_126 k_X12_isSo_126 ?_
      refine by_iconst ci_0 ?_
      refine by_nil ?_
      with_reducible refine xm_go_blk b_X12_isSo_127 k_X12_isSo_127 ?_
      refine by_iret ry_235 (by first | rfl | assumption) ?_
      exact hp 0 (by decide) (congrArg (bbits 1) (p0 (by omega)))
    · rw [if_neg q]
      with_reducible refine xm_go_blk b_X12_isSo_119 k_X12_isSo_119 ?_
      refine by_if_ne 126 rfl ?_
      simp (disch := first | exact Nat.ne_of_beq_eq_false rfl | exact rfl | omega) only [nI_add, xa_sub, xa_mul, pk_div, nm_mod, xa_shr, xa_and7, xa_and1, xa_and255, xa_by_and, nI_m1, Nat.add_sub_cancel, Nat.reducePow, Nat.zero_add, Nat.add_zero, Nat.reduceAdd, Nat.reduceMul, Nat.reduceSub, xf_same, xq_ff, xq_fo, xf_1, xf_2, xs_1, xs_2, xs_same, xq_so, xj_1, xj_2, xj_same, xq_jo, xq_sa1, xq_same, xq_other, upd_s, oI_n, oI_s, xv_0, xv_1, xv_2, xv_3, xm_p1, xm_p2, xq_fp, xq_fn, List.filter_nil, Nat.reduceBEq, Bool.not_true, Bool.not_false, Bool.and_true, Bool.and_false, Bool.false_and, Bool.true_and, if_true, if_false, Bool.false_eq_true, reduceIte, xc_i, xc_j, xc_r, xc_n, List.nil_append, List.cons_append, Option.toList_some, Option.toList_none, nI_ltJ, nI_leJ, nI_eqJ, nI_ltz, nI_gez, nI_gtz, nI_lez, nI_eqz, m1_ltz, m1_gez, true_imp_iff, false_imp_iff, true_and, and_true, ne_eq, not_false_eq_true, not_true_eq_false, Nat.reduceEqDiff, Nat.reduceLT, Nat.reduceLeDiff]
      with_reducible refine xm_go_blk b_X12_isSo_122 k_X12_isSo_122 ?_
      refine by_iconst ci_1 ?_
      refine by_goto 127 rfl ?_
      with_reducible refine xm_go_blk b_X12_isSo_127 k_X12_isSo_127 ?_
      refine by_iret ry_235 (by first | rfl | assumption) ?_
      exact hp 1 (by decide) (congrArg (bbits 1) (p1 (by omega)))
  · with_reducible refine xm_go_blk b_X12_isSo_0 k_X12_isSo_0 ?_
    refine by_iload_n rfl ?_
    refine by_sw ?_
    refine xq_sw 128 (by decide) (by decide) ?_
    with_reducible refine xm_go_blk b_X12_isSo_128 k_X12_isSo_128 ?_
    refine by_lload_n rfl ?_
    refine by_iload rfl ?_
    refine by_ins2 cn_235 lk_12_446 (by rw [xe_cnt]; decide) is_293 np_293 (Nat.le_of_ble_eq_true rfl) ?_
    refine sp_signed hw hx (fun S hS => ?_)
    with_reducible refine xm_go_blk b_X12_isSo_134 k_X12_isSo_134 ?_
    refine by_lload_n rfl ?_
    refine by_iload rfl ?_
    refine by_ins2 cn_235 lk_12_446 (by rw [xe_cnt]; decide) is_293 np_293 (Nat.le_of_ble_eq_true rfl) ?_
    refine sp_signed hw hy (fun R hR => ?_)
    have key : (R ≤ S) = ¬ ((x + 2 ^ (w - 1)) % 2 ^ w < (y + 2 ^ (w - 1)) % 2 ^ w) := by
      apply propext
      rw [Int64.le_iff_toInt_le, hS, hR]
      clear hp zx zy z1 zxy hS hR
      rcases hw with rfl | rfl | rfl | rfl <;> simp only [Nat.reduceSub, Nat.reducePow] at hx hy ⊢ <;> split <;> split <;> omega
    by_cases q : (x + 2 ^ (w - 1)) % 2 ^ w < (y + 2 ^ (w - 1)) % 2 ^ w
    · have q' : (R ≤ S) = False := by rw [key]; exact eq_false (fun z => z q)
      with_reducible refine xm_go_blk b_X12_isSo_140 k_X12_isSo_140 ?_
      refine by_lcmp ?_
      refine by_if_ge 148 rfl ?_
      simp (disch := first | exact Nat.ne_of_beq_eq_false rfl | exact rfl | omega) only [nI_add, xa_sub, xa_mul, pk_div, nm_mod, xa_shr, xa_and7, xa_and1, xa_and255, xa_by_and, nI_m1, Nat.add_sub_cancel, Nat.reducePow, Nat.zero_add, Nat.add_zero, Nat.reduceAdd, Nat.reduceMul, Nat.reduceSub, xf_same, xq_ff, xq_fo, xf_1, xf_2, xs_1, xs_2, xs_same, xq_so, xj_1, xj_2, xj_same, xq_jo, xq_sa1, xq_same, xq_other, upd_s, oI_n, oI_s, xv_0, xv_1, xv_2, xv_3, xm_p1, xm_p2, xq_fp, xq_fn, List.filter_nil, Nat.reduceBEq, Bool.not_true, Bool.not_false, Bool.and_true, Bool.and_false, Bool.false_and, Bool.true_and, if_true, if_false, Bool.false_eq_true, reduceIte, xc_i, xc_j, xc_r, xc_n, List.nil_append, List.cons_append, Option.toList_some, Option.toList_none, nI_ltJ, nI_leJ, nI_eqJ, nI_ltz, nI_gez, nI_gtz, nI_lez, nI_eqz, m1_ltz, m1_gez, true_imp_iff, false_imp_iff, true_and, and_true, ne_eq, not_false_eq_true, not_true_eq_false, Nat.reduceEqDiff, Nat.reduceLT, Nat.reduceLeDiff, lg_ge, q']
      with_reducible refine xm_go_blk b_X12_isSo_144 k_X12_isSo_144 ?_
      refine by_iconst ci_1 ?_
      refine by_goto 149 rfl ?_
      with_reducible refine xm_go_blk b_X12_isSo_149 k_X12_isSo_149 ?_
      refine by_iret ry_235 (by first | rfl | assumption) ?_
      exact hp 1 (by decide) (congrArg (bbits 1) (p1 q))
    · have q' : (R ≤ S) = True := by rw [key]; exact eq_true q
      with_reducible refine xm_go_blk b_X12_isSo_140 k_X12_isSo_140 ?_
      refine by_lcmp ?_
      refine by_if_ge 148 rfl ?_
      simp (disch := first | exact Nat.ne_of_beq_eq_false rfl | exact rfl | omega) only [nI_add, xa_sub, xa_mul, pk_div, nm_mod, xa_shr, xa_and7, xa_and1, xa_and255, xa_by_and, nI_m1, Nat.add_sub_cancel, Nat.reducePow, Nat.zero_add, Nat.add_zero, Nat.reduceAdd, Nat.reduceMul, Nat.reduceSub, xf_same, xq_ff, xq_fo, xf_1, xf_2, xs_1, xs_2, xs_same, xq_so, xj_1, xj_2, xj_same, xq_jo, xq_sa1, xq_same, xq_other, upd_s, oI_n, oI_s, xv_0, xv_1, xv_2, xv_3, xm_p1, xm_p2, xq_fp, xq_fn, List.filter_nil, Nat.reduceBEq, Bool.not_true, Bool.not_false, Bool.and_true, Bool.and_false, Bool.false_and, Bool.true_and, if_true, if_false, Bool.false_eq_true, reduceIte, xc_i, xc_j, xc_r, xc_n, List.nil_append, List.cons_append, Option.toList_some, Option.toList_none, nI_ltJ, nI_leJ, nI_eqJ, nI_ltz, nI_gez, nI_gtz, nI_lez, nI_eqz, m1_ltz, m1_gez, true_imp_iff, false_imp_iff, true_and, and_true, ne_eq, not_false_eq_true, not_true_eq_false, Nat.reduceEqDiff, Nat.reduceLT, Nat.reduceLeDiff, lg_ge, q']
      with_reducible refine xm_go_blk b_X12_isSo_148 k_X12_isSo_148 ?_
      refine by_iconst ci_0 ?_
      refine by_nil ?_
      with_reducible refine xm_go_blk b_X12_isSo_149 k_X12_isSo_149 ?_
      refine by_iret ry_235 (by first | rfl | assumption) ?_
      exact hp 0 (by decide) (congrArg (bbits 1) (p0 q))
  · by_cases q : x = 0
    · have q' : (x = 0) = True := eq_true q
      with_reducible refine xm_go_blk b_X12_isSo_0 k_X12_isSo_0 ?_
      refine by_iload_n rfl ?_
      refine by_sw ?_
      refine xq_sw 150 (by decide) (by decide) ?_
      with_reducible refine xm_go_blk b_X12_isSo_150 k_X12_isSo_150 ?_
      refine by_lload_n rfl ?_
      refine by_lconst cl_0 ?_
      refine by_lcmp ?_
      refine by_if_ne 160 rfl ?_
      simp (disch := first | exact Nat.ne_of_beq_eq_false rfl | exact rfl | omega) only [nI_add, xa_sub, xa_mul, pk_div, nm_mod, xa_shr, xa_and7, xa_and1, xa_and255, xa_by_and, nI_m1, Nat.add_sub_cancel, Nat.reducePow, Nat.zero_add, Nat.add_zero, Nat.reduceAdd, Nat.reduceMul, Nat.reduceSub, xf_same, xq_ff, xq_fo, xf_1, xf_2, xs_1, xs_2, xs_same, xq_so, xj_1, xj_2, xj_same, xq_jo, xq_sa1, xq_same, xq_other, upd_s, oI_n, oI_s, xv_0, xv_1, xv_2, xv_3, xm_p1, xm_p2, xq_fp, xq_fn, List.filter_nil, Nat.reduceBEq, Bool.not_true, Bool.not_false, Bool.and_true, Bool.and_false, Bool.false_and, Bool.true_and, if_true, if_false, Bool.false_eq_true, reduceIte, xc_i, xc_j, xc_r, xc_n, List.nil_append, List.cons_append, Option.toList_some, Option.toList_none, nI_ltJ, nI_leJ, nI_eqJ, nI_ltz, nI_gez, nI_gtz, nI_lez, nI_eqz, m1_ltz, m1_gez, true_imp_iff, false_imp_iff, true_and, and_true, ne_eq, not_false_eq_true, not_true_eq_false, Nat.reduceEqDiff, Nat.reduceLT, Nat.reduceLeDiff, zx, q']
      with_reducible refine xm_go_blk b_X12_isSo_156 k_X12_isSo_156 ?_
      refine by_iconst ci_1 ?_
      refine by_goto 161 rfl ?_
      with_reducible refine xm_go_blk b_X12_isSo_161 k_X12_isSo_161 ?_
      refine by_iret ry_235 (by first | rfl | assumption) ?_
      exact hp 1 (by decide) (congrArg (bbits 1) (p1 q))
    · have q' : (x = 0) = False := eq_false q
      with_reducible refine xm_go_blk b_X12_isSo_0 k_X12_isSo_0 ?_
      refine by_iload_n rfl ?_
      refine by_sw ?_
      refine xq_sw 150 (by decide) (by decide) ?_
      with_reducible refine xm_go_blk b_X12_isSo_150 k_X12_isSo_150 ?_
      refine by_lload_n rfl ?_
      refine by_lconst cl_0 ?_
      refine by_lcmp ?_
      refine by_if_ne 160 rfl ?_
      simp (disch := first | exact Nat.ne_of_beq_eq_false rfl | exact rfl | omega) only [nI_add, xa_sub, xa_mul, pk_div, nm_mod, xa_shr, xa_and7, xa_and1, xa_and255, xa_by_and, nI_m1, Nat.add_sub_cancel, Nat.reducePow, Nat.zero_add, Nat.add_zero, Nat.reduceAdd, Nat.reduceMul, Nat.reduceSub, xf_same, xq_ff, xq_fo, xf_1, xf_2, xs_1, xs_2, xs_same, xq_so, xj_1, xj_2, xj_same, xq_jo, xq_sa1, xq_same, xq_other, upd_s, oI_n, oI_s, xv_0, xv_1, xv_2, xv_3, xm_p1, xm_p2, xq_fp, xq_fn, List.filter_nil, Nat.reduceBEq, Bool.not_true, Bool.not_false, Bool.and_true, Bool.and_false, Bool.false_and, Bool.true_and, if_true, if_false, Bool.false_eq_true, reduceIte, xc_i, xc_j, xc_r, xc_n, List.nil_append, List.cons_append, Option.toList_some, Option.toList_none, nI_ltJ, nI_leJ, nI_eqJ, nI_ltz, nI_gez, nI_gtz, nI_lez, nI_eqz, m1_ltz, m1_gez, true_imp_iff, false_imp_iff, true_and, and_true, ne_eq, not_false_eq_true, not_true_eq_false, Nat.reduceEqDiff, Nat.reduceLT, Nat.reduceLeDiff, zx, q']
      with_reducible refine xm_go_blk b_X12_isSo_160 k_X12_isSo_160 ?_
      refine by_iconst ci_0 ?_
      refine by_nil ?_
      with_reducible refine xm_go_blk b_X12_isSo_161 k_X12_isSo_161 ?_
      refine by_iret ry_235 (by first | rfl | assumption) ?_
      exact hp 0 (by decide) (congrArg (bbits 1) (p0 q))
  · by_cases q : x = 1
    · have q' : (x = 1) = True := eq_true q
      with_reducible refine xm_go_blk b_X12_isSo_0 k_X12_isSo_0 ?_
      refine by_iload_n rfl ?_
      refine by_sw ?_
      refine xq_sw 162 (by decide) (by decide) ?_
      with_reducible refine xm_go_blk b_X12_isSo_162 k_X12_isSo_162 ?_
      refine by_lload_n rfl ?_
      refine by_lconst cl_1 ?_
      refine by_lcmp ?_
      refine by_if_ne 172 rfl ?_
      simp (disch := first | exact Nat.ne_of_beq_eq_false rfl | exact rfl | omega) only [nI_add, xa_sub, xa_mul, pk_div, nm_mod, xa_shr, xa_and7, xa_and1, xa_and255, xa_by_and, nI_m1, Nat.add_sub_cancel, Nat.reducePow, Nat.zero_add, Nat.add_zero, Nat.reduceAdd, Nat.reduceMul, Nat.reduceSub, xf_same, xq_ff, xq_fo, xf_1, xf_2, xs_1, xs_2, xs_same, xq_so, xj_1, xj_2, xj_same, xq_jo, xq_sa1, xq_same, xq_other, upd_s, oI_n, oI_s, xv_0, xv_1, xv_2, xv_3, xm_p1, xm_p2, xq_fp, xq_fn, List.filter_nil, Nat.reduceBEq, Bool.not_true, Bool.not_false, Bool.and_true, Bool.and_false, Bool.false_and, Bool.true_and, if_true, if_false, Bool.false_eq_true, reduceIte, xc_i, xc_j, xc_r, xc_n, List.nil_append, List.cons_append, Option.toList_some, Option.toList_none, nI_ltJ, nI_leJ, nI_eqJ, nI_ltz, nI_gez, nI_gtz, nI_lez, nI_eqz, m1_ltz, m1_gez, true_imp_iff, false_imp_iff, true_and, and_true, ne_eq, not_false_eq_true, not_true_eq_false, Nat.reduceEqDiff, Nat.reduceLT, Nat.reduceLeDiff, z1, q']
      with_reducible refine xm_go_blk b_X12_isSo_168 k_X12_isSo_168 ?_
      refine by_iconst ci_1 ?_
      refine by_goto 173 rfl ?_
      with_reducible refine xm_go_blk b_X12_isSo_173 k_X12_isSo_173 ?_
      refine by_iret ry_235 (by first | rfl | assumption) ?_
      exact hp 1 (by decide) (congrArg (bbits 1) (p1 q))
    · have q' : (x = 1) = False := eq_false q
      with_reducible refine xm_go_blk b_X12_isSo_0 k_X12_isSo_0 ?_
      refine by_iload_n rfl ?_
      refine by_sw ?_
      refine xq_sw 162 (by decide) (by decide) ?_
      with_reducible refine xm_go_blk b_X12_isSo_162 k_X12_isSo_162 ?_
      refine by_lload_n rfl ?_
      refine by_lconst cl_1 ?_
      refine by_lcmp ?_
      refine by_if_ne 172 rfl ?_
      simp (disch := first | exact Nat.ne_of_beq_eq_false rfl | exact rfl | omega) only [nI_add, xa_sub, xa_mul, pk_div, nm_mod, xa_shr, xa_and7, xa_and1, xa_and255, xa_by_and, nI_m1, Nat.add_sub_cancel, Nat.reducePow, Nat.zero_add, Nat.add_zero, Nat.reduceAdd, Nat.reduceMul, Nat.reduceSub, xf_same, xq_ff, xq_fo, xf_1, xf_2, xs_1, xs_2, xs_same, xq_so, xj_1, xj_2, xj_same, xq_jo, xq_sa1, xq_same, xq_other, upd_s, oI_n, oI_s, xv_0, xv_1, xv_2, xv_3, xm_p1, xm_p2, xq_fp, xq_fn, List.filter_nil, Nat.reduceBEq, Bool.not_true, Bool.not_false, Bool.and_true, Bool.and_false, Bool.false_and, Bool.true_and, if_true, if_false, Bool.false_eq_true, reduceIte, xc_i, xc_j, xc_r, xc_n, List.nil_append, List.cons_append, Option.toList_some, Option.toList_none, nI_ltJ, nI_leJ, nI_eqJ, nI_ltz, nI_gez, nI_gtz, nI_lez, nI_eqz, m1_ltz, m1_gez, true_imp_iff, false_imp_iff, true_and, and_true, ne_eq, not_false_eq_true, not_true_eq_false, Nat.reduceEqDiff, Nat.reduceLT, Nat.reduceLeDiff, z1, q']
      with_reducible refine xm_go_blk b_X12_isSo_172 k_X12_isSo_172 ?_
      refine by_iconst ci_0 ?_
      refine by_nil ?_
      with_reducible refine xm_go_blk b_X12_isSo_173 k_X12_isSo_173 ?_
      refine by_iret ry_235 (by first | rfl | assumption) ?_
      exact hp 0 (by decide) (congrArg (bbits 1) (p0 q))
  · with_reducible refine xm_go_blk b_X12_isSo_0 k_X12_isSo_0 ?_
    refine by_iload_n rfl ?_
    refine by_sw ?_
    refine xq_sw 174 (by decide) (by decide) ?_
    with_reducible refine xm_go_blk b_X12_isSo_174 k_X12_isSo_174 ?_
    refine by_lload_n rfl ?_
    refine by_iload rfl ?_
    refine by_ins1 cn_235 lk_12_432 (by rw [xe_cnt]; decide) is_260 np_260 (Nat.le_of_ble_eq_true rfl) ?_
    refine sp_maskOf (by omega) hle.2 ?_
    have zm := lcz hx' (show 2 ^ w - 1 < 2 ^ 64 by have := Nat.two_pow_pos w; omega)
    by_cases q : x = 2 ^ w - 1
    · have q' : (x = 2 ^ w - 1) = True := eq_true q
      with_reducible refine xm_go_blk b_X12_isSo_180 k_X12_isSo_180 ?_
      refine by_lcmp ?_
      refine by_if_ne 188 rfl ?_
      simp (disch := first | exact Nat.ne_of_beq_eq_false rfl | exact rfl | omega) only [nI_add, xa_sub, xa_mul, pk_div, nm_mod, xa_shr, xa_and7, xa_and1, xa_and255, xa_by_and, nI_m1, Nat.add_sub_cancel, Nat.reducePow, Nat.zero_add, Nat.add_zero, Nat.reduceAdd, Nat.reduceMul, Nat.reduceSub, xf_same, xq_ff, xq_fo, xf_1, xf_2, xs_1, xs_2, xs_same, xq_so, xj_1, xj_2, xj_same, xq_jo, xq_sa1, xq_same, xq_other, upd_s, oI_n, oI_s, xv_0, xv_1, xv_2, xv_3, xm_p1, xm_p2, xq_fp, xq_fn, List.filter_nil, Nat.reduceBEq, Bool.not_true, Bool.not_false, Bool.and_true, Bool.and_false, Bool.false_and, Bool.true_and, if_true, if_false, Bool.false_eq_true, reduceIte, xc_i, xc_j, xc_r, xc_n, List.nil_append, List.cons_append, Option.toList_some, Option.toList_none, nI_ltJ, nI_leJ, nI_eqJ, nI_ltz, nI_gez, nI_gtz, nI_lez, nI_eqz, m1_ltz, m1_gez, true_imp_iff, false_imp_iff, true_and, and_true, ne_eq, not_false_eq_true, not_true_eq_false, Nat.reduceEqDiff, Nat.reduceLT, Nat.reduceLeDiff, zm, q']
      with_reducible refine xm_go_blk b_X12_isSo_184 k_X12_isSo_184 ?_
      refine by_iconst ci_1 ?_
      refine by_goto 189 rfl ?_
      with_reducible refine xm_go_blk b_X12_isSo_189 k_X12_isSo_189 ?_
      refine by_iret ry_235 (by first | rfl | assumption) ?_
      exact hp 1 (by decide) (congrArg (bbits 1) (p1 q))
    · have q' : (x = 2 ^ w - 1) = False := eq_false q
      with_reducible refine xm_go_blk b_X12_isSo_180 k_X12_isSo_180 ?_
      refine by_lcmp ?_
      refine by_if_ne 188 rfl ?_
      simp (disch := first | exact Nat.ne_of_beq_eq_false rfl | exact rfl | omega) only [nI_add, xa_sub, xa_mul, pk_div, nm_mod, xa_shr, xa_and7, xa_and1, xa_and255, xa_by_and, nI_m1, Nat.add_sub_cancel, Nat.reducePow, Nat.zero_add, Nat.add_zero, Nat.reduceAdd, Nat.reduceMul, Nat.reduceSub, xf_same, xq_ff, xq_fo, xf_1, xf_2, xs_1, xs_2, xs_same, xq_so, xj_1, xj_2, xj_same, xq_jo, xq_sa1, xq_same, xq_other, upd_s, oI_n, oI_s, xv_0, xv_1, xv_2, xv_3, xm_p1, xm_p2, xq_fp, xq_fn, List.filter_nil, Nat.reduceBEq, Bool.not_true, Bool.not_false, Bool.and_true, Bool.and_false, Bool.false_and, Bool.true_and, if_true, if_false, Bool.false_eq_true, reduceIte, xc_i, xc_j, xc_r, xc_n, List.nil_append, List.cons_append, Option.toList_some, Option.toList_none, nI_ltJ, nI_leJ, nI_eqJ, nI_ltz, nI_gez, nI_gtz, nI_lez, nI_eqz, m1_ltz, m1_gez, true_imp_iff, false_imp_iff, true_and, and_true, ne_eq, not_false_eq_true, not_true_eq_false, Nat.reduceEqDiff, Nat.reduceLT, Nat.reduceLeDiff, zm, q']
      with_reducible refine xm_go_blk b_X12_isSo_188 k_X12_isSo_188 ?_
      refine by_iconst ci_0 ?_
      refine by_nil ?_
      with_reducible refine xm_go_blk b_X12_isSo_189 k_X12_isSo_189 ?_
      refine by_iret ry_235 (by first | rfl | assumption) ?_
      exact hp 0 (by decide) (congrArg (bbits 1) (p0 q))
  · by_cases q : x = 0
    · have q' : (x = 0) = True := eq_true q
      with_reducible refine xm_go_blk b_X12_isSo_0 k_X12_isSo_0 ?_
      refine by_iload_n rfl ?_
      refine by_sw ?_
      refine xq_sw 190 (by decide) (by decide) ?_
      with_reducible refine xm_go_blk b_X12_isSo_190 k_X12_isSo_190 ?_
      refine by_lload_n rfl ?_
      refine by_lconst cl_0 ?_
      refine by_lcmp ?_
      refine by_if_eq 200 rfl ?_
      simp (disch := first | exact Nat.ne_of_beq_eq_false rfl | exact rfl | omega) only [nI_add, xa_sub, xa_mul, pk_div, nm_mod, xa_shr, xa_and7, xa_and1, xa_and255, xa_by_and, nI_m1, Nat.add_sub_cancel, Nat.reducePow, Nat.zero_add, Nat.add_zero, Nat.reduceAdd, Nat.reduceMul, Nat.reduceSub, xf_same, xq_ff, xq_fo, xf_1, xf_2, xs_1, xs_2, xs_same, xq_so, xj_1, xj_2, xj_same, xq_jo, xq_sa1, xq_same, xq_other, upd_s, oI_n, oI_s, xv_0, xv_1, xv_2, xv_3, xm_p1, xm_p2, xq_fp, xq_fn, List.filter_nil, Nat.reduceBEq, Bool.not_true, Bool.not_false, Bool.and_true, Bool.and_false, Bool.false_and, Bool.true_and, if_true, if_false, Bool.false_eq_true, reduceIte, xc_i, xc_j, xc_r, xc_n, List.nil_append, List.cons_append, Option.toList_some, Option.toList_none, nI_ltJ, nI_leJ, nI_eqJ, nI_ltz, nI_gez, nI_gtz, nI_lez, nI_eqz, m1_ltz, m1_gez, true_imp_iff, false_imp_iff, true_and, and_true, ne_eq, not_false_eq_true, not_true_eq_false, Nat.reduceEqDiff, Nat.reduceLT, Nat.reduceLeDiff, zx, q']
      with_reducible refine xm_go_blk b_X12_isSo_200 k_X12_isSo_200 ?_
      refine by_iconst ci_0 ?_
      refine by_nil ?_
      with_reducible refine xm_go_blk b_X12_isSo_201 k_X12_isSo_201 ?_
      refine by_iret ry_235 (by first | rfl | assumption) ?_
      exact hp 0 (by decide) (congrArg (bbits 1) (p0 (fun z => z q)))
    · have q' : (x = 0) = False := eq_false q
      with_reducible refine xm_go_blk b_X12_isSo_0 k_X12_isSo_0 ?_
      refine by_iload_n rfl ?_
      refine by_sw ?_
      refine xq_sw 190 (by decide) (by decide) ?_
      with_reducible refine xm_go_blk b_X12_isSo_190 k_X12_isSo_190 ?_
      refine by_lload_n rfl ?_
      refine by_lconst cl_0 ?_
      refine by_lcmp ?_
      refine by_if_eq 200 rfl ?_
      simp (disch := first | exact Nat.ne_of_beq_eq_false rfl | exact rfl | omega) only [nI_add, xa_sub, xa_mul, pk_div, nm_mod, xa_shr, xa_and7, xa_and1, xa_and255, xa_by_and, nI_m1, Nat.add_sub_cancel, Nat.reducePow, Nat.zero_add, Nat.add_zero, Nat.reduceAdd, Nat.reduceMul, Nat.reduceSub, xf_same, xq_ff, xq_fo, xf_1, xf_2, xs_1, xs_2, xs_same, xq_so, xj_1, xj_2, xj_same, xq_jo, xq_sa1, xq_same, xq_other, upd_s, oI_n, oI_s, xv_0, xv_1, xv_2, xv_3, xm_p1, xm_p2, xq_fp, xq_fn, List.filter_nil, Nat.reduceBEq, Bool.not_true, Bool.not_false, Bool.and_true, Bool.and_false, Bool.false_and, Bool.true_and, if_true, if_false, Bool.false_eq_true, reduceIte, xc_i, xc_j, xc_r, xc_n, List.nil_append, List.cons_append, Option.toList_some, Option.toList_none, nI_ltJ, nI_leJ, nI_eqJ, nI_ltz, nI_gez, nI_gtz, nI_lez, nI_eqz, m1_ltz, m1_gez, true_imp_iff, false_imp_iff, true_and, and_true, ne_eq, not_false_eq_true, not_true_eq_false, Nat.reduceEqDiff, Nat.reduceLT, Nat.reduceLeDiff, zx, q']
      with_reducible refine xm_go_blk b_X12_isSo_196 k_X12_isSo_196 ?_
      refine by_iconst ci_1 ?_
      refine by_goto 201 rfl ?_
      with_reducible refine xm_go_blk b_X12_isSo_201 k_X12_isSo_201 ?_
      refine by_iret ry_235 (by first | rfl | assumption) ?_
      exact hp 1 (by decide) (congrArg (bbits 1) (p1 q))
theorem sp_ofThree {k i t : Nat} {u : Nat → Bool} (hk : k = 18 ∨ k = 27 ∨ k = 28 ∨ k = 29) (hF : XF h) (hw : jw w) (hB : rBt h i (3 * w) u) (hi : i + 3 * w ≤ 824000) (ht : t + w ≤ 824000)
    (hp : ∀ h', rWr h h' t (jL k w c (mc_n u 0 w) (mc_n u w w) (mc_n u (2 * w) w) v) → post none h') : xm_T (XE sc) (d + 4) 270 [.ref 102, .int (nI k), .int (nI i), .int (nI t), .int (nI w)] h post := by
  have hpw := jw_p hw
  have hle := jw_le hw
  refine xq_in rfl ?_
  simp only [xq_a0, xq_aI, xq_aJ, xq_aR, Nat.reduceAdd]
  with_reducible refine xm_go_blk b_X12_ofThree_0 k_X12_ofThree_0 ?_
  refine by_aload_n rfl ?_
  refine by_iload_n rfl ?_
  refine by_iload rfl ?_
  refine by_inv2 cn_270 lk_12_450 (by rw [xe_cnt]; decide) is_299 np_299 cn_299 (by first | exact rfl | assumption) (Nat.le_of_ble_eq_true rfl) ?_
  refine sp_rtk (o := 0) hF hle.2 hB rfl (by omega) (by omega) ?_
  with_reducible refine xm_go_blk b_X12_ofThree_7 k_X12_ofThree_7 ?_
  refine by_lstore (by rw [ml_270]; decide) ?_
  refine by_aload_n rfl ?_
  refine by_iload_n rfl ?_
  refine by_iload rfl ?_
  refine by_iadd ?_
  refine by_iload rfl ?_
  simp (disch := first | exact Nat.ne_of_beq_eq_false rfl | exact rfl | omega) only [nI_add, xa_sub, xa_mul, pk_div, nm_mod, xa_shr, xa_and7, xa_and1, xa_and255, xa_by_and, nI_m1, Nat.add_sub_cancel, Nat.reducePow, Nat.zero_add, Nat.add_zero, Nat.reduceAdd, Nat.reduceMul, Nat.reduceSub, xf_same, xq_ff, xq_fo, xf_1, xf_2, xs_1, xs_2, xs_same, xq_so, xj_1, xj_2, xj_same, xq_jo, xq_sa1, xq_same, xq_other, upd_s, oI_n, oI_s, xv_0, xv_1, xv_2, xv_3, xm_p1, xm_p2, xq_fp, xq_fn, List.filter_nil, Nat.reduceBEq, Bool.not_true, Bool.not_false, Bool.and_true, Bool.and_false, Bool.false_and, Bool.true_and, if_true, if_false, Bool.false_eq_true, reduceIte, xc_i, xc_j, xc_r, xc_n, List.nil_append, List.cons_append, Option.toList_some, Option.toList_none]
  refine by_inv2 cn_270 lk_12_450 (by rw [xe_cnt]; decide) is_299 np_299 cn_299 (by first | exact rfl | assumption) (Nat.le_of_ble_eq_true rfl) ?_
  refine sp_rtk (o := w) hF hle.2 hB rfl (by omega) (by omega) ?_
  with_reducible refine xm_go_blk b_X12_ofThree_19 k_X12_ofThree_19 ?_
  refine by_lstore (by rw [ml_270]; decide) ?_
  refine by_aload_n rfl ?_
  refine by_iload_n rfl ?_
  refine by_iconst ci_2 ?_
  refine by_iload rfl ?_
  refine by_imul ?_
  refine by_iadd ?_
  refine by_iload rfl ?_
  simp (disch := first | exact Nat.ne_of_beq_eq_false rfl | exact rfl | omega) only [nI_add, xa_sub, xa_mul, pk_div, nm_mod, xa_shr, xa_and7, xa_and1, xa_and255, xa_by_and, nI_m1, Nat.add_sub_cancel, Nat.reducePow, Nat.zero_add, Nat.add_zero, Nat.reduceAdd, Nat.reduceMul, Nat.reduceSub, xf_same, xq_ff, xq_fo, xf_1, xf_2, xs_1, xs_2, xs_same, xq_so, xj_1, xj_2, xj_same, xq_jo, xq_sa1, xq_same, xq_other, upd_s, oI_n, oI_s, xv_0, xv_1, xv_2, xv_3, xm_p1, xm_p2, xq_fp, xq_fn, List.filter_nil, Nat.reduceBEq, Bool.not_true, Bool.not_false, Bool.and_true, Bool.and_false, Bool.false_and, Bool.true_and, if_true, if_false, Bool.false_eq_true, reduceIte, xc_i, xc_j, xc_r, xc_n, List.nil_append, List.cons_append, Option.toList_some, Option.toList_none]
  refine by_inv2 cn_270 lk_12_450 (by rw [xe_cnt]; decide) is_299 np_299 cn_299 (by first | exact rfl | assumption) (Nat.le_of_ble_eq_true rfl) ?_
  refine sp_rtk (o := 2 * w) hF hle.2 hB rfl (by omega) (by omega) ?_
  have hx := mc_n_lt u 0 w
  have hy := mc_n_lt u w w
  have hz := mc_n_lt u (2 * w) w
  generalize mc_n u 0 w = x at *
  generalize mc_n u w w = y at *
  generalize mc_n u (2 * w) w = z at *
  have hx' : x < 2 ^ 64 := by omega
  have hy' : y < 2 ^ 64 := by omega
  have hz' : z < 2 ^ 64 := by omega
  have fin : ∀ V, bbits w V = jL k w c x y z v → xm_go (XE sc) (xm_T (XE sc) (d + 3)) 270 post 111 [(0, .ref 102), (3, .int (nI t)), (4, .int (nI w))] [.long (lN V)] h := by
    intro V hV
    have e2 : lN V &&& lN (2 ^ w - 1) = lN (V % 2 ^ w) := jo_and hw
    with_reducible refine xm_go_blk b_X12_ofThree_111 k_X12_ofThree_111 ?_
    refine by_lstore (by rw [ml_270]; decide) ?_
    refine by_aload_n rfl ?_
    refine by_iload_n rfl ?_
    refine by_iload rfl ?_
    refine by_lload rfl ?_
    refine by_iload rfl ?_
    simp (disch := first | exact Nat.ne_of_beq_eq_false rfl | exact rfl | omega) only [nI_add, xa_sub, xa_mul, pk_div, nm_mod, xa_shr, xa_and7, xa_and1, xa_and255, xa_by_and, nI_m1, Nat.add_sub_cancel, Nat.reducePow, Nat.zero_add, Nat.add_zero, Nat.reduceAdd, Nat.reduceMul, Nat.reduceSub, xf_same, xq_ff, xq_fo, xf_1, xf_2, xs_1, xs_2, xs_same, xq_so, xj_1, xj_2, xj_same, xq_jo, xq_sa1, xq_same, xq_other, upd_s, oI_n, oI_s, xv_0, xv_1, xv_2, xv_3, xm_p1, xm_p2, xq_fp, xq_fn, List.filter_nil, Nat.reduceBEq, Bool.not_true, Bool.not_false, Bool.and_true, Bool.and_false, Bool.false_and, Bool.true_and, if_true, if_false, Bool.false_eq_true, reduceIte, xc_i, xc_j, xc_r, xc_n, List.nil_append, List.cons_append, Option.toList_some, Option.toList_none]
    refine by_ins1 cn_270 lk_12_432 (by rw [xe_cnt]; decide) is_260 np_260 (Nat.le_of_ble_eq_true rfl) ?_
    refine sp_maskOf (by omega) hle.2 ?_
    with_reducible refine xm_go_blk b_X12_ofThree_124 k_X12_ofThree_124 ?_
    refine by_land ?_
    simp (disch := first | exact Nat.ne_of_beq_eq_false rfl | exact rfl | omega) only [nI_add, xa_sub, xa_mul, pk_div, nm_mod, xa_shr, xa_and7, xa_and1, xa_and255, xa_by_and, nI_m1, Nat.add_sub_cancel, Nat.reducePow, Nat.zero_add, Nat.add_zero, Nat.reduceAdd, Nat.reduceMul, Nat.reduceSub, xf_same, xq_ff, xq_fo, xf_1, xf_2, xs_1, xs_2, xs_same, xq_so, xj_1, xj_2, xj_same, xq_jo, xq_sa1, xq_same, xq_other, upd_s, oI_n, oI_s, xv_0, xv_1, xv_2, xv_3, xm_p1, xm_p2, xq_fp, xq_fn, List.filter_nil, Nat.reduceBEq, Bool.not_true, Bool.not_false, Bool.and_true, Bool.and_false, Bool.false_and, Bool.true_and, if_true, if_false, Bool.false_eq_true, reduceIte, xc_i, xc_j, xc_r, xc_n, List.nil_append, List.cons_append, Option.toList_some, Option.toList_none, e2]
    refine by_inv3 cn_270 lk_12_436 (by rw [xe_cnt]; decide) is_279 np_279 cn_279 (by first | exact rfl | assumption) (Nat.le_of_ble_eq_true rfl) ?_
    refine sp_rput hF hle.2 ht (fun h' hr => ?_)
    with_reducible refine xm_go_blk b_X12_ofThree_128 k_X12_ofThree_128 ?_
    refine by_ret ry_270 ?_
    rw [bbits_mod, hV] at hr
    exact hp h' hr
  rcases hk with rfl | rfl | rfl | rfl
  · with_reducible refine xm_go_blk b_X12_ofThree_33 k_X12_ofThree_33 ?_
    refine by_lstore (by rw [ml_270]; decide) ?_
    refine by_iload_n rfl ?_
    refine by_bipush cb_18 ?_
    refine by_ic_ne 53 rfl ?_
    simp (disch := first | exact Nat.ne_of_beq_eq_false rfl | exact rfl | omega) only [nI_add, xa_sub, xa_mul, pk_div, nm_mod, xa_shr, xa_and7, xa_and1, xa_and255, xa_by_and, nI_m1, Nat.add_sub_cancel, Nat.reducePow, Nat.zero_add, Nat.add_zero, Nat.reduceAdd, Nat.reduceMul, Nat.reduceSub, xf_same, xq_ff, xq_fo, xf_1, xf_2, xs_1, xs_2, xs_same, xq_so, xj_1, xj_2, xj_same, xq_jo, xq_sa1, xq_same, xq_other, upd_s, oI_n, oI_s, xv_0, xv_1, xv_2, xv_3, xm_p1, xm_p2, xq_fp, xq_fn, List.filter_nil, Nat.reduceBEq, Bool.not_true, Bool.not_false, Bool.and_true, Bool.and_false, Bool.false_and, Bool.true_and, if_true, if_false, Bool.false_eq_true, reduceIte, xc_i, xc_j, xc_r, xc_n, List.nil_append, List.cons_append, Option.toList_some, Option.toList_none, nI_ltJ, nI_leJ, nI_eqJ, nI_ltz, nI_gez, nI_gtz, nI_lez, nI_eqz, m1_ltz, m1_gez, true_imp_iff, false_imp_iff, true_and, and_true, ne_eq, not_false_eq_true, not_true_eq_false, Nat.reduceEqDiff, Nat.reduceLT, Nat.reduceLeDiff]
    with_reducible refine xm_go_blk b_X12_ofThree_41 k_X12_ofThree_41 ?_
    refine by_lload rfl ?_
    refine by_lload rfl ?_
    refine by_lload rfl ?_
    refine by_ins3 cn_270 lk_12_454 (by rw [xe_cnt]; decide) is_262 np_262 (Nat.le_of_ble_eq_true rfl) ?_
    refine sp_rmiddle hx' hy' hz' ?_
    with_reducible refine xm_go_blk b_X12_ofThree_50 k_X12_ofThree_50 ?_
    refine by_goto 111 rfl ?_
    exact xm_go_wk (by simp [Value.category]) (fin _ rfl)
  · with_reducible refine xm_go_blk b_X12_ofThree_33 k_X12_ofThree_33 ?_
    refine by_lstore (by rw [ml_270]; decide) ?_
    refine by_iload_n rfl ?_
    refine by_bipush cb_18 ?_
    refine by_ic_ne 53 rfl ?_
    simp (disch := first | exact Nat.ne_of_beq_eq_false rfl | exact rfl | omega) only [nI_add, xa_sub, xa_mul, pk_div, nm_mod, xa_shr, xa_and7, xa_and1, xa_and255, xa_by_and, nI_m1, Nat.add_sub_cancel, Nat.reducePow, Nat.zero_add, Nat.add_zero, Nat.reduceAdd, Nat.reduceMul, Nat.reduceSub, xf_same, xq_ff, xq_fo, xf_1, xf_2, xs_1, xs_2, xs_same, xq_so, xj_1, xj_2, xj_same, xq_jo, xq_sa1, xq_same, xq_other, upd_s, oI_n, oI_s, xv_0, xv_1, xv_2, xv_3, xm_p1, xm_p2, xq_fp, xq_fn, List.filter_nil, Nat.reduceBEq, Bool.not_true, Bool.not_false, Bool.and_true, Bool.and_false, Bool.false_and, Bool.true_and, if_true, if_false, Bool.false_eq_true, reduceIte, xc_i, xc_j, xc_r, xc_n, List.nil_append, List.cons_append, Option.toList_some, Option.toList_none, nI_ltJ, nI_leJ, nI_eqJ, nI_ltz, nI_gez, nI_gtz, nI_lez, nI_eqz, m1_ltz, m1_gez, true_imp_iff, false_imp_iff, true_and, and_true, ne_eq, not_false_eq_true, not_true_eq_false, Nat.reduceEqDiff, Nat.reduceLT, Nat.reduceLeDiff, lN_xor]
    with_reducible refine xm_go_blk b_X12_ofThree_53 k_X12_ofThree_53 ?_
    refine by_iload_n rfl ?_
    refine by_bipush cb_27 ?_
    refine by_ic_ne 70 rfl ?_
    simp (disch := first | exact Nat.ne_of_beq_eq_false rfl | exact rfl | omega) only [nI_add, xa_sub, xa_mul, pk_div, nm_mod, xa_shr, xa_and7, xa_and1, xa_and255, xa_by_and, nI_m1, Nat.add_sub_cancel, Nat.reducePow, Nat.zero_add, Nat.add_zero, Nat.reduceAdd, Nat.reduceMul, Nat.reduceSub, xf_same, xq_ff, xq_fo, xf_1, xf_2, xs_1, xs_2, xs_same, xq_so, xj_1, xj_2, xj_same, xq_jo, xq_sa1, xq_same, xq_other, upd_s, oI_n, oI_s, xv_0, xv_1, xv_2, xv_3, xm_p1, xm_p2, xq_fp, xq_fn, List.filter_nil, Nat.reduceBEq, Bool.not_true, Bool.not_false, Bool.and_true, Bool.and_false, Bool.false_and, Bool.true_and, if_true, if_false, Bool.false_eq_true, reduceIte, xc_i, xc_j, xc_r, xc_n, List.nil_append, List.cons_append, Option.toList_some, Option.toList_none, nI_ltJ, nI_leJ, nI_eqJ, nI_ltz, nI_gez, nI_gtz, nI_lez, nI_eqz, m1_ltz, m1_gez, true_imp_iff, false_imp_iff, true_and, and_true, ne_eq, not_false_eq_true, not_true_eq_false, Nat.reduceEqDiff, Nat.reduceLT, Nat.reduceLeDiff, lN_xor]
    with_reducible refine xm_go_blk b_X12_ofThree_59 k_X12_ofThree_59 ?_
    refine by_lload rfl ?_
    refine by_lload rfl ?_
    refine by_lxor ?_
    refine by_lload rfl ?_
    refine by_lxor ?_
    refine by_goto 111 rfl ?_
    try simp (disch := first | exact Nat.ne_of_beq_eq_false rfl | exact rfl | omega) only [nI_add, xa_sub, xa_mul, pk_div, nm_mod, xa_shr, xa_and7, xa_and1, xa_and255, xa_by_and, nI_m1, Nat.add_sub_cancel, Nat.reducePow, Nat.zero_add, Nat.add_zero, Nat.reduceAdd, Nat.reduceMul, Nat.reduceSub, xf_same, xq_ff, xq_fo, xf_1, xf_2, xs_1, xs_2, xs_same, xq_so, xj_1, xj_2, xj_same, xq_jo, xq_sa1, xq_same, xq_other, upd_s, oI_n, oI_s, xv_0, xv_1, xv_2, xv_3, xm_p1, xm_p2, xq_fp, xq_fn, List.filter_nil, Nat.reduceBEq, Bool.not_true, Bool.not_false, Bool.and_true, Bool.and_false, Bool.false_and, Bool.true_and, if_true, if_false, Bool.false_eq_true, reduceIte, xc_i, xc_j, xc_r, xc_n, List.nil_append, List.cons_append, Option.toList_some, Option.toList_none, lN_xor]
    exact xm_go_wk (by simp [Value.category]) (fin _ rfl)
  · have a1 : lN x &&& lN y = lN (x &&& y) := wb_and hx' hy'
    have a2 : lN x &&& lN z = lN (x &&& z) := wb_and hx' hz'
    have a3 : lN y &&& lN z = lN (y &&& z) := wb_and hy' hz'
    have b1 : x &&& y < 2 ^ 64 := Nat.and_lt_two_pow _ hy'
    have b2 : x &&& z < 2 ^ 64 := Nat.and_lt_two_pow _ hz'
    have b3 : y &&& z < 2 ^ 64 := Nat.and_lt_two_pow _ hz'
    have o2 : lN (x &&& y) ||| lN (x &&& z) = lN (x &&& y ||| x &&& z) := wb_or b1 b2
    have o3 : lN (x &&& y ||| x &&& z) ||| lN (y &&& z) = lN (x &&& y ||| x &&& z ||| y &&& z) := wb_or (Nat.or_lt_two_pow b1 b2) b3
    with_reducible refine xm_go_blk b_X12_ofThree_33 k_X12_ofThree_33 ?_
    refine by_lstore (by rw [ml_270]; decide) ?_
    refine by_iload_n rfl ?_
    refine by_bipush cb_18 ?_
    refine by_ic_ne 53 rfl ?_
    simp (disch := first | exact Nat.ne_of_beq_eq_false rfl | exact rfl | omega) only [nI_add, xa_sub, xa_mul, pk_div, nm_mod, xa_shr, xa_and7, xa_and1, xa_and255, xa_by_and, nI_m1, Nat.add_sub_cancel, Nat.reducePow, Nat.zero_add, Nat.add_zero, Nat.reduceAdd, Nat.reduceMul, Nat.reduceSub, xf_same, xq_ff, xq_fo, xf_1, xf_2, xs_1, xs_2, xs_same, xq_so, xj_1, xj_2, xj_same, xq_jo, xq_sa1, xq_same, xq_other, upd_s, oI_n, oI_s, xv_0, xv_1, xv_2, xv_3, xm_p1, xm_p2, xq_fp, xq_fn, List.filter_nil, Nat.reduceBEq, Bool.not_true, Bool.not_false, Bool.and_true, Bool.and_false, Bool.false_and, Bool.true_and, if_true, if_false, Bool.false_eq_true, reduceIte, xc_i, xc_j, xc_r, xc_n, List.nil_append, List.cons_append, Option.toList_some, Option.toList_none, nI_ltJ, nI_leJ, nI_eqJ, nI_ltz, nI_gez, nI_gtz, nI_lez, nI_eqz, m1_ltz, m1_gez, true_imp_iff, false_imp_iff, true_and, and_true, ne_eq, not_false_eq_true, not_true_eq_false, Nat.reduceEqDiff, Nat.reduceLT, Nat.reduceLeDiff, a1, a2, a3, o2, o3]
    with_reducible refine xm_go_blk b_X12_ofThree_53 k_X12_ofThree_53 ?_
    refine by_iload_n rfl ?_
    refine by_bipush cb_27 ?_
    refine by_ic_ne 70 rfl ?_
    simp (disch := first | exact Nat.ne_of_beq_eq_false rfl | exact rfl | omega) only [nI_add, xa_sub, xa_mul, pk_div, nm_mod, xa_shr, xa_and7, xa_and1, xa_and255, xa_by_and, nI_m1, Nat.add_sub_cancel, Nat.reducePow, Nat.zero_add, Nat.add_zero, Nat.reduceAdd, Nat.reduceMul, Nat.reduceSub, xf_same, xq_ff, xq_fo, xf_1, xf_2, xs_1, xs_2, xs_same, xq_so, xj_1, xj_2, xj_same, xq_jo, xq_sa1, xq_same, xq_other, upd_s, oI_n, oI_s, xv_0, xv_1, xv_2, xv_3, xm_p1, xm_p2, xq_fp, xq_fn, List.filter_nil, Nat.reduceBEq, Bool.not_true, Bool.not_false, Bool.and_true, Bool.and_false, Bool.false_and, Bool.true_and, if_true, if_false, Bool.false_eq_true, reduceIte, xc_i, xc_j, xc_r, xc_n, List.nil_append, List.cons_append, Option.toList_some, Option.toList_none, nI_ltJ, nI_leJ, nI_eqJ, nI_ltz, nI_gez, nI_gtz, nI_lez, nI_eqz, m1_ltz, m1_gez, true_imp_iff, false_imp_iff, true_and, and_true, ne_eq, not_false_eq_true, not_true_eq_false, Nat.reduceEqDiff, Nat.reduceLT, Nat.reduceLeDiff, a1, a2, a3, o2, o3]
    with_reducible refine xm_go_blk b_X12_ofThree_70 k_X12_ofThree_70 ?_
    refine by_iload_n rfl ?_
    refine by_bipush cb_28 ?_
    refine by_ic_ne 96 rfl ?_
    simp (disch := first | exact Nat.ne_of_beq_eq_false rfl | exact rfl | omega) only [nI_add, xa_sub, xa_mul, pk_div, nm_mod, xa_shr, xa_and7, xa_and1, xa_and255, xa_by_and, nI_m1, Nat.add_sub_cancel, Nat.reducePow, Nat.zero_add, Nat.add_zero, Nat.reduceAdd, Nat.reduceMul, Nat.reduceSub, xf_same, xq_ff, xq_fo, xf_1, xf_2, xs_1, xs_2, xs_same, xq_so, xj_1, xj_2, xj_same, xq_jo, xq_sa1, xq_same, xq_other, upd_s, oI_n, oI_s, xv_0, xv_1, xv_2, xv_3, xm_p1, xm_p2, xq_fp, xq_fn, List.filter_nil, Nat.reduceBEq, Bool.not_true, Bool.not_false, Bool.and_true, Bool.and_false, Bool.false_and, Bool.true_and, if_true, if_false, Bool.false_eq_true, reduceIte, xc_i, xc_j, xc_r, xc_n, List.nil_append, List.cons_append, Option.toList_some, Option.toList_none, nI_ltJ, nI_leJ, nI_eqJ, nI_ltz, nI_gez, nI_gtz, nI_lez, nI_eqz, m1_ltz, m1_gez, true_imp_iff, false_imp_iff, true_and, and_true, ne_eq, not_false_eq_true, not_true_eq_false, Nat.reduceEqDiff, Nat.reduceLT, Nat.reduceLeDiff, a1, a2, a3, o2, o3]
    with_reducible refine xm_go_blk b_X12_ofThree_76 k_X12_ofThree_76 ?_
    refine by_lload rfl ?_
    refine by_lload rfl ?_
    refine by_land ?_
    refine by_lload rfl ?_
    refine by_lload rfl ?_
    refine by_land ?_
    refine by_lor ?_
    refine by_lload rfl ?_
    refine by_lload rfl ?_
    refine by_land ?_
    refine by_lor ?_
    refine by_goto 111 rfl ?_
    try simp (disch := first | exact Nat.ne_of_beq_eq_false rfl | exact rfl | omega) only [nI_add, xa_sub, xa_mul, pk_div, nm_mod, xa_shr, xa_and7, xa_and1, xa_and255, xa_by_and, nI_m1, Nat.add_sub_cancel, Nat.reducePow, Nat.zero_add, Nat.add_zero, Nat.reduceAdd, Nat.reduceMul, Nat.reduceSub, xf_same, xq_ff, xq_fo, xf_1, xf_2, xs_1, xs_2, xs_same, xq_so, xj_1, xj_2, xj_same, xq_jo, xq_sa1, xq_same, xq_other, upd_s, oI_n, oI_s, xv_0, xv_1, xv_2, xv_3, xm_p1, xm_p2, xq_fp, xq_fn, List.filter_nil, Nat.reduceBEq, Bool.not_true, Bool.not_false, Bool.and_true, Bool.and_false, Bool.false_and, Bool.true_and, if_true, if_false, Bool.false_eq_true, reduceIte, xc_i, xc_j, xc_r, xc_n, List.nil_append, List.cons_append, Option.toList_some, Option.toList_none, a1, a2, a3, o2, o3]
    exact xm_go_wk (by simp [Value.category]) (fin _ rfl)
  · have a1 : lN x &&& lN y = lN (x &&& y) := wb_and hx' hy'
    have b1 : x &&& y < 2 ^ 64 := Nat.and_lt_two_pow _ hy'
    have hm : x ^^^ (2 ^ 64 - 1) < 2 ^ 64 := xor_lt64 hx' (by decide)
    have n2 : (lN x ^^^ (-1)) &&& lN z = lN ((x ^^^ (2 ^ 64 - 1)) &&& z) := by rw [lN_m1, lN_xor]; exact wb_and hm hz'
    have o4 : lN (x &&& y) ||| lN ((x ^^^ (2 ^ 64 - 1)) &&& z) = lN (x &&& y ||| (x ^^^ (2 ^ 64 - 1)) &&& z) := wb_or b1 (Nat.and_lt_two_pow _ hz')
    with_reducible refine xm_go_blk b_X12_ofThree_33 k_X12_ofThree_33 ?_
    refine by_lstore (by rw [ml_270]; decide) ?_
    refine by_iload_n rfl ?_
    refine by_bipush cb_18 ?_
    refine by_ic_ne 53 rfl ?_
    simp (disch := first | exact Nat.ne_of_beq_eq_false rfl | exact rfl | omega) only [nI_add, xa_sub, xa_mul, pk_div, nm_mod, xa_shr, xa_and7, xa_and1, xa_and255, xa_by_and, nI_m1, Nat.add_sub_cancel, Nat.reducePow, Nat.zero_add, Nat.add_zero, Nat.reduceAdd, Nat.reduceMul, Nat.reduceSub, xf_same, xq_ff, xq_fo, xf_1, xf_2, xs_1, xs_2, xs_same, xq_so, xj_1, xj_2, xj_same, xq_jo, xq_sa1, xq_same, xq_other, upd_s, oI_n, oI_s, xv_0, xv_1, xv_2, xv_3, xm_p1, xm_p2, xq_fp, xq_fn, List.filter_nil, Nat.reduceBEq, Bool.not_true, Bool.not_false, Bool.and_true, Bool.and_false, Bool.false_and, Bool.true_and, if_true, if_false, Bool.false_eq_true, reduceIte, xc_i, xc_j, xc_r, xc_n, List.nil_append, List.cons_append, Option.toList_some, Option.toList_none, nI_ltJ, nI_leJ, nI_eqJ, nI_ltz, nI_gez, nI_gtz, nI_lez, nI_eqz, m1_ltz, m1_gez, true_imp_iff, false_imp_iff, true_and, and_true, ne_eq, not_false_eq_true, not_true_eq_false, Nat.reduceEqDiff, Nat.reduceLT, Nat.reduceLeDiff, a1, n2, o4]
    with_reducible refine xm_go_blk b_X12_ofThree_53 k_X12_ofThree_53 ?_
    refine by_iload_n rfl ?_
    refine by_bipush cb_27 ?_
    refine by_ic_ne 70 rfl ?_
    simp (disch := first | exact Nat.ne_of_beq_eq_false rfl | exact rfl | omega) only [nI_add, xa_sub, xa_mul, pk_div, nm_mod, xa_shr, xa_and7, xa_and1, xa_and255, xa_by_and, nI_m1, Nat.add_sub_cancel, Nat.reducePow, Nat.zero_add, Nat.add_zero, Nat.reduceAdd, Nat.reduceMul, Nat.reduceSub, xf_same, xq_ff, xq_fo, xf_1, xf_2, xs_1, xs_2, xs_same, xq_so, xj_1, xj_2, xj_same, xq_jo, xq_sa1, xq_same, xq_other, upd_s, oI_n, oI_s, xv_0, xv_1, xv_2, xv_3, xm_p1, xm_p2, xq_fp, xq_fn, List.filter_nil, Nat.reduceBEq, Bool.not_true, Bool.not_false, Bool.and_true, Bool.and_false, Bool.false_and, Bool.true_and, if_true, if_false, Bool.false_eq_true, reduceIte, xc_i, xc_j, xc_r, xc_n, List.nil_append, List.cons_append, Option.toList_some, Option.toList_none, nI_ltJ, nI_leJ, nI_eqJ, nI_ltz, nI_gez, nI_gtz, nI_lez, nI_eqz, m1_ltz, m1_gez, true_imp_iff, false_imp_iff, true_and, and_true, ne_eq, not_false_eq_true, not_true_eq_false, Nat.reduceEqDiff, Nat.reduceLT, Nat.reduceLeDiff, a1, n2, o4]
    with_reducible refine xm_go_blk b_X12_ofThree_70 k_X12_ofThree_70 ?_
    refine by_iload_n rfl ?_
    refine by_bipush cb_28 ?_
    refine by_ic_ne 96 rfl ?_
    simp (disch := first | exact Nat.ne_of_beq_eq_false rfl | exact rfl | omega) only [nI_add, xa_sub, xa_mul, pk_div, nm_mod, xa_shr, xa_and7, xa_and1, xa_and255, xa_by_and, nI_m1, Nat.add_sub_cancel, Nat.reducePow, Nat.zero_add, Nat.add_zero, Nat.reduceAdd, Nat.reduceMul, Nat.reduceSub, xf_same, xq_ff, xq_fo, xf_1, xf_2, xs_1, xs_2, xs_same, xq_so, xj_1, xj_2, xj_same, xq_jo, xq_sa1, xq_same, xq_other, upd_s, oI_n, oI_s, xv_0, xv_1, xv_2, xv_3, xm_p1, xm_p2, xq_fp, xq_fn, List.filter_nil, Nat.reduceBEq, Bool.not_true, Bool.not_false, Bool.and_true, Bool.and_false, Bool.false_and, Bool.true_and, if_true, if_false, Bool.false_eq_true, reduceIte, xc_i, xc_j, xc_r, xc_n, List.nil_append, List.cons_append, Option.toList_some, Option.toList_none, nI_ltJ, nI_leJ, nI_eqJ, nI_ltz, nI_gez, nI_gtz, nI_lez, nI_eqz, m1_ltz, m1_gez, true_imp_iff, false_imp_iff, true_and, and_true, ne_eq, not_false_eq_true, not_true_eq_false, Nat.reduceEqDiff, Nat.reduceLT, Nat.reduceLeDiff, a1, n2, o4]
    with_reducible refine xm_go_blk b_X12_ofThree_96 k_X12_ofThree_96 ?_
    refine by_lload rfl ?_
    refine by_lload rfl ?_
    refine by_land ?_
    refine by_lload rfl ?_
    refine by_ldc2 cn_270 kl_12_428 rfl ?_
    refine by_lxor ?_
    refine by_lload rfl ?_
    refine by_land ?_
    refine by_lor ?_
    refine by_nil ?_
    try simp (disch := first | exact Nat.ne_of_beq_eq_false rfl | exact rfl | omega) only [nI_add, xa_sub, xa_mul, pk_div, nm_mod, xa_shr, xa_and7, xa_and1, xa_and255, xa_by_and, nI_m1, Nat.add_sub_cancel, Nat.reducePow, Nat.zero_add, Nat.add_zero, Nat.reduceAdd, Nat.reduceMul, Nat.reduceSub, xf_same, xq_ff, xq_fo, xf_1, xf_2, xs_1, xs_2, xs_same, xq_so, xj_1, xj_2, xj_same, xq_jo, xq_sa1, xq_same, xq_other, upd_s, oI_n, oI_s, xv_0, xv_1, xv_2, xv_3, xm_p1, xm_p2, xq_fp, xq_fn, List.filter_nil, Nat.reduceBEq, Bool.not_true, Bool.not_false, Bool.and_true, Bool.and_false, Bool.false_and, Bool.true_and, if_true, if_false, Bool.false_eq_true, reduceIte, xc_i, xc_j, xc_r, xc_n, List.nil_append, List.cons_append, Option.toList_some, Option.toList_none, a1, n2, o4]
    exact xm_go_wk (by simp [Value.category]) (fin _ (by rw [jz_m hw hz]; rfl))
end RL
