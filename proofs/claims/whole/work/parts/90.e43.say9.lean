/-! ===== say: hidden nodes and operands of the class ===== -/
theorem nI_p32 (X b : Nat) : nI (X * 4294967296 + b) = nI b := Int32.toBitVec_inj.1 (BitVec.eq_of_toNat_eq (by
  show (BitVec.ofNat 32 (X * 4294967296 + b)).toNat = (BitVec.ofNat 32 b).toNat
  rw [BitVec.toNat_ofNat, BitVec.toNat_ofNat]
  omega))
theorem nI_all (x : Int32) : ∃ X : Nat, x = nI X := ⟨x.toBitVec.toNat, Int32.toBitVec_inj.1 (BitVec.eq_of_toNat_eq (by
  show x.toBitVec.toNat = (BitVec.ofNat 32 x.toBitVec.toNat).toNat
  rw [BitVec.toNat_ofNat, Nat.mod_eq_of_lt x.toBitVec.isLt]))⟩
theorem nI_sh4 {x b : Nat} (hb : b < 16) : nI x <<< (nI 4 &&& 31) ||| nI b = nI (16 * x + b) := by
  rw [nI_shl x (by decide), nI_orp (n := 4) (by omega)]
  congr 1
  omega
theorem hdg_lt {b x : Nat} (h : hdg b = some x) : x < 16 := by
  unfold hdg at h
  split at h
  · cases h; omega
  · split at h
    · cases h; omega
    · cases h
section SY
variable {sc : xm_Sc} {d pp n c nh p f e : Nat} {t : List Nat} {G : sG} {h : xm_H} {post : xm_Po}
theorem sp_xdigit {b : Nat} (hb : b < 256) (hp : post (some (.int (oI (hdg b)))) h) : xm_T (XE sc) (d + 1) 130 [.int (nI b)] h post := by
  refine xq_in rfl ?_
  simp only [xq_a0, xq_aI, xq_aJ, xq_aR, Nat.reduceAdd]
  unfold hdg at hp
  by_cases z1 : 48 ≤ b ∧ b ≤ 57
  · rw [if_pos z1] at hp
    with_reducible refine xm_go_blk b_X8_digit_0 k_X8_digit_0 ?_
    refine by_iload_n rfl ?_
    refine by_bipush cb_48 ?_
    refine by_ic_lt 17 rfl ?_
    simp (disch := first | exact Nat.ne_of_beq_eq_false rfl | exact rfl | omega) only [nI_add, xa_sub, xa_mul, pk_div, nm_mod, xa_shr, xa_and7, xa_and1, xa_and255, xa_by_and, nI_m1, Nat.add_sub_cancel, Nat.reducePow, Nat.zero_add, Nat.add_zero, Nat.reduceAdd, Nat.reduceMul, Nat.reduceSub, xf_same, xq_ff, xq_fo, xf_1, xf_2, xs_1, xs_2, xs_same, xq_so, xj_1, xj_2, xj_same, xq_jo, xq_sa1, xq_same, xq_other, upd_s, oI_n, oI_s, xv_0, xv_1, xv_2, xv_3, xm_p1, xm_p2, xq_fp, xq_fn, List.filter_nil, Nat.reduceBEq, Bool.not_true, Bool.not_false, Bool.and_true, Bool.and_false, Bool.false_and, Bool.true_and, if_true, if_false, Bool.false_eq_true, reduceIte, xc_i, xc_j, xc_r, xc_n, List.nil_append, List.cons_append, Option.toList_some, Option.toList_none, nI_ltJ, nI_leJ, nI_eqJ, nI_ltz, nI_gez, nI_gtz, nI_lez, nI_eqz, m1_ltz, m1_gez, true_imp_iff, false_imp_iff, true_and, and_true, ne_eq, not_false_eq_true, not_true_eq_false, Nat.reduceEqDiff, Nat.reduceLT, Nat.reduceLeDiff]
    refine ⟨fun c => absurd c (by omega), fun c0 => ?_⟩
    with_reducible refine xm_go_blk b_X8_digit_6 k_X8_digit_6 ?_
    refine by_iload_n rfl ?_
    refine by_bipush cb_57 ?_
    refine by_ic_gt 17 rfl ?_
    simp (disch := first | exact Nat.ne_of_beq_eq_false rfl | exact rfl | omega) only [nI_add, xa_sub, xa_mul, pk_div, nm_mod, xa_shr, xa_and7, xa_and1, xa_and255, xa_by_and, nI_m1, Nat.add_sub_cancel, Nat.reducePow, Nat.zero_add, Nat.add_zero, Nat.reduceAdd, Nat.reduceMul, Nat.reduceSub, xf_same, xq_ff, xq_fo, xf_1, xf_2, xs_1, xs_2, xs_same, xq_so, xj_1, xj_2, xj_same, xq_jo, xq_sa1, xq_same, xq_other, upd_s, oI_n, oI_s, xv_0, xv_1, xv_2, xv_3, xm_p1, xm_p2, xq_fp, xq_fn, List.filter_nil, Nat.reduceBEq, Bool.not_true, Bool.not_false, Bool.and_true, Bool.and_false, Bool.false_and, Bool.true_and, if_true, if_false, Bool.false_eq_true, reduceIte, xc_i, xc_j, xc_r, xc_n, List.nil_append, List.cons_append, Option.toList_some, Option.toList_none, nI_ltJ, nI_leJ, nI_eqJ, nI_ltz, nI_gez, nI_gtz, nI_lez, nI_eqz, m1_ltz, m1_gez, true_imp_iff, false_imp_iff, true_and, and_true, ne_eq, not_false_eq_true, not_true_eq_false, Nat.reduceEqDiff, Nat.reduceLT, Nat.reduceLeDiff]
    refine ⟨fun c => absurd c (by omega), fun c6 => ?_⟩
    with_reducible refine xm_go_blk b_X8_digit_12 k_X8_digit_12 ?_
    refine by_iload_n rfl ?_
    refine by_bipush cb_48 ?_
    refine by_isub ?_
    simp (disch := first | exact Nat.ne_of_beq_eq_false rfl | exact rfl | omega) only [nI_add, xa_sub, xa_mul, pk_div, nm_mod, xa_shr, xa_and7, xa_and1, xa_and255, xa_by_and, nI_m1, Nat.add_sub_cancel, Nat.reducePow, Nat.zero_add, Nat.add_zero, Nat.reduceAdd, Nat.reduceMul, Nat.reduceSub, xf_same, xq_ff, xq_fo, xf_1, xf_2, xs_1, xs_2, xs_same, xq_so, xj_1, xj_2, xj_same, xq_jo, xq_sa1, xq_same, xq_other, upd_s, oI_n, oI_s]
    refine by_iret ry_130 (by first | rfl | assumption) ?_
    exact hp
  · rw [if_neg z1] at hp
    have st : xm_go (XE sc) (xm_T (XE sc) d) 130 post 17 [(0, .int (nI b))] [] h := by
      by_cases z2 : 97 ≤ b ∧ b ≤ 102
      · rw [if_pos z2] at hp
        have e : b - 97 + 10 = b - 87 := by omega
        with_reducible refine xm_go_blk b_X8_digit_17 k_X8_digit_17 ?_
        refine by_iload_n rfl ?_
        refine by_bipush cb_97 ?_
        refine by_ic_lt 39 rfl ?_
        simp (disch := first | exact Nat.ne_of_beq_eq_false rfl | exact rfl | omega) only [nI_add, xa_sub, xa_mul, pk_div, nm_mod, xa_shr, xa_and7, xa_and1, xa_and255, xa_by_and, nI_m1, Nat.add_sub_cancel, Nat.reducePow, Nat.zero_add, Nat.add_zero, Nat.reduceAdd, Nat.reduceMul, Nat.reduceSub, xf_same, xq_ff, xq_fo, xf_1, xf_2, xs_1, xs_2, xs_same, xq_so, xj_1, xj_2, xj_same, xq_jo, xq_sa1, xq_same, xq_other, upd_s, oI_n, oI_s, xv_0, xv_1, xv_2, xv_3, xm_p1, xm_p2, xq_fp, xq_fn, List.filter_nil, Nat.reduceBEq, Bool.not_true, Bool.not_false, Bool.and_true, Bool.and_false, Bool.false_and, Bool.true_and, if_true, if_false, Bool.false_eq_true, reduceIte, xc_i, xc_j, xc_r, xc_n, List.nil_append, List.cons_append, Option.toList_some, Option.toList_none, nI_ltJ, nI_leJ, nI_eqJ, nI_ltz, nI_gez, nI_gtz, nI_lez, nI_eqz, m1_ltz, m1_gez, true_imp_iff, false_imp_iff, true_and, and_true, ne_eq, not_false_eq_true, not_true_eq_false, Nat.reduceEqDiff, Nat.reduceLT, Nat.reduceLeDiff]
        refine ⟨fun c => absurd c (by omega), fun c17 => ?_⟩
        with_reducible refine xm_go_blk b_X8_digit_23 k_X8_digit_23 ?_
        refine by_iload_n rfl ?_
        refine by_bipush cb_102 ?_
        refine by_ic_gt 39 rfl ?_
        simp (disch := first | exact Nat.ne_of_beq_eq_false rfl | exact rfl | omega) only [nI_add, xa_sub, xa_mul, pk_div, nm_mod, xa_shr, xa_and7, xa_and1, xa_and255, xa_by_and, nI_m1, Nat.add_sub_cancel, Nat.reducePow, Nat.zero_add, Nat.add_zero, Nat.reduceAdd, Nat.reduceMul, Nat.reduceSub, xf_same, xq_ff, xq_fo, xf_1, xf_2, xs_1, xs_2, xs_same, xq_so, xj_1, xj_2, xj_same, xq_jo, xq_sa1, xq_same, xq_other, upd_s, oI_n, oI_s, xv_0, xv_1, xv_2, xv_3, xm_p1, xm_p2, xq_fp, xq_fn, List.filter_nil, Nat.reduceBEq, Bool.not_true, Bool.not_false, Bool.and_true, Bool.and_false, Bool.false_and, Bool.true_and, if_true, if_false, Bool.false_eq_true, reduceIte, xc_i, xc_j, xc_r, xc_n, List.nil_append, List.cons_append, Option.toList_some, Option.toList_none, nI_ltJ, nI_leJ, nI_eqJ, nI_ltz, nI_gez, nI_gtz, nI_lez, nI_eqz, m1_ltz, m1_gez, true_imp_iff, false_imp_iff, true_and, and_true, ne_eq, not_false_eq_true, not_true_eq_false, Nat.reduceEqDiff, Nat.reduceLT, Nat.reduceLeDiff]
        refine ⟨fun c => absurd c (by omega), fun c23 => ?_⟩
        with_reducible refine xm_go_blk b_X8_digit_29 k_X8_digit_29 ?_
        refine by_iload_n rfl ?_
        refine by_bipush cb_97 ?_
        refine by_isub ?_
        refine by_bipush cb_10 ?_
        refine by_iadd ?_
        refine by_goto 40 rfl ?_
        try simp (disch := first | exact Nat.ne_of_beq_eq_false rfl | exact rfl | omega) only [nI_add, xa_sub, xa_mul, pk_div, nm_mod, xa_shr, xa_and7, xa_and1, xa_and255, xa_by_and, nI_m1, Nat.add_sub_cancel, Nat.reducePow, Nat.zero_add, Nat.add_zero, Nat.reduceAdd, Nat.reduceMul, Nat.reduceSub, xf_same, xq_ff, xq_fo, xf_1, xf_2, xs_1, xs_2, xs_same, xq_so, xj_1, xj_2, xj_same, xq_jo, xq_sa1, xq_same, xq_other, upd_s, oI_n, oI_s, xv_0, xv_1, xv_2, xv_3, xm_p1, xm_p2, xq_fp, xq_fn, List.filter_nil, Nat.reduceBEq, Bool.not_true, Bool.not_false, Bool.and_true, Bool.and_false, Bool.false_and, Bool.true_and, if_true, if_false, Bool.false_eq_true, reduceIte, xc_i, xc_j, xc_r, xc_n, List.nil_append, List.cons_append, Option.toList_some, Option.toList_none]
        with_reducible refine xm_go_blk b_X8_digit_40 k_X8_digit_40 ?_
        refine by_iret ry_130 (by first | rfl | assumption) ?_
        rw [e]
        exact hp
      · rw [if_neg z2] at hp
        by_cases z3 : b < 97
        · with_reducible refine xm_go_blk b_X8_digit_17 k_X8_digit_17 ?_
          refine by_iload_n rfl ?_
          refine by_bipush cb_97 ?_
          refine by_ic_lt 39 rfl ?_
          simp (disch := first | exact Nat.ne_of_beq_eq_false rfl | exact rfl | omega) only [nI_add, xa_sub, xa_mul, pk_div, nm_mod, xa_shr, xa_and7, xa_and1, xa_and255, xa_by_and, nI_m1, Nat.add_sub_cancel, Nat.reducePow, Nat.zero_add, Nat.add_zero, Nat.reduceAdd, Nat.reduceMul, Nat.reduceSub, xf_same, xq_ff, xq_fo, xf_1, xf_2, xs_1, xs_2, xs_same, xq_so, xj_1, xj_2, xj_same, xq_jo, xq_sa1, xq_same, xq_other, upd_s, oI_n, oI_s, xv_0, xv_1, xv_2, xv_3, xm_p1, xm_p2, xq_fp, xq_fn, List.filter_nil, Nat.reduceBEq, Bool.not_true, Bool.not_false, Bool.and_true, Bool.and_false, Bool.false_and, Bool.true_and, if_true, if_false, Bool.false_eq_true, reduceIte, xc_i, xc_j, xc_r, xc_n, List.nil_append, List.cons_append, Option.toList_some, Option.toList_none, nI_ltJ, nI_leJ, nI_eqJ, nI_ltz, nI_gez, nI_gtz, nI_lez, nI_eqz, m1_ltz, m1_gez, true_imp_iff, false_imp_iff, true_and, and_true, ne_eq, not_false_eq_true, not_true_eq_false, Nat.reduceEqDiff, Nat.reduceLT, Nat.reduceLeDiff]
          refine ⟨fun c17 => ?_, fun c => absurd (by omega) c⟩
          with_reducible refine xm_go_blk b_X8_digit_39 k_X8_digit_39 ?_
          refine by_iconst ci_m1 ?_
          refine by_nil ?_
          with_reducible refine xm_go_blk b_X8_digit_40 k_X8_digit_40 ?_
          refine by_iret ry_130 (by first | rfl | assumption) ?_
          exact hp
        · with_reducible refine xm_go_blk b_X8_digit_17 k_X8_digit_17 ?_
          refine by_iload_n rfl ?_
          refine by_bipush cb_97 ?_
          refine by_ic_lt 39 rfl ?_
          simp (disch := first | exact Nat.ne_of_beq_eq_false rfl | exact rfl | omega) only [nI_add, xa_sub, xa_mul, pk_div, nm_mod, xa_shr, xa_and7, xa_and1, xa_and255, xa_by_and, nI_m1, Nat.add_sub_cancel, Nat.reducePow, Nat.zero_add, Nat.add_zero, Nat.reduceAdd, Nat.reduceMul, Nat.reduceSub, xf_same, xq_ff, xq_fo, xf_1, xf_2, xs_1, xs_2, xs_same, xq_so, xj_1, xj_2, xj_same, xq_jo, xq_sa1, xq_same, xq_other, upd_s, oI_n, oI_s, xv_0, xv_1, xv_2, xv_3, xm_p1, xm_p2, xq_fp, xq_fn, List.filter_nil, Nat.reduceBEq, Bool.not_true, Bool.not_false, Bool.and_true, Bool.and_false, Bool.false_and, Bool.true_and, if_true, if_false, Bool.false_eq_true, reduceIte, xc_i, xc_j, xc_r, xc_n, List.nil_append, List.cons_append, Option.toList_some, Option.toList_none, nI_ltJ, nI_leJ, nI_eqJ, nI_ltz, nI_gez, nI_gtz, nI_lez, nI_eqz, m1_ltz, m1_gez, true_imp_iff, false_imp_iff, true_and, and_true, ne_eq, not_false_eq_true, not_true_eq_false, Nat.reduceEqDiff, Nat.reduceLT, Nat.reduceLeDiff]
          refine ⟨fun c => absurd c (by omega), fun c17 => ?_⟩
          with_reducible refine xm_go_blk b_X8_digit_23 k_X8_digit_23 ?_
          refine by_iload_n rfl ?_
          refine by_bipush cb_102 ?_
          refine by_ic_gt 39 rfl ?_
          simp (disch := first | exact Nat.ne_of_beq_eq_false rfl | exact rfl | omega) only [nI_add, xa_sub, xa_mul, pk_div, nm_mod, xa_shr, xa_and7, xa_and1, xa_and255, xa_by_and, nI_m1, Nat.add_sub_cancel, Nat.reducePow, Nat.zero_add, Nat.add_zero, Nat.reduceAdd, Nat.reduceMul, Nat.reduceSub, xf_same, xq_ff, xq_fo, xf_1, xf_2, xs_1, xs_2, xs_same, xq_so, xj_1, xj_2, xj_same, xq_jo, xq_sa1, xq_same, xq_other, upd_s, oI_n, oI_s, xv_0, xv_1, xv_2, xv_3, xm_p1, xm_p2, xq_fp, xq_fn, List.filter_nil, Nat.reduceBEq, Bool.not_true, Bool.not_false, Bool.and_true, Bool.and_false, Bool.false_and, Bool.true_and, if_true, if_false, Bool.false_eq_true, reduceIte, xc_i, xc_j, xc_r, xc_n, List.nil_append, List.cons_append, Option.toList_some, Option.toList_none, nI_ltJ, nI_leJ, nI_eqJ, nI_ltz, nI_gez, nI_gtz, nI_lez, nI_eqz, m1_ltz, m1_gez, true_imp_iff, false_imp_iff, true_and, and_true, ne_eq, not_false_eq_true, not_true_eq_false, Nat.reduceEqDiff, Nat.reduceLT, Nat.reduceLeDiff]
          refine ⟨fun c23 => ?_, fun c => absurd (by omega) c⟩
          with_reducible refine xm_go_blk b_X8_digit_39 k_X8_digit_39 ?_
          refine by_iconst ci_m1 ?_
          refine by_nil ?_
          with_reducible refine xm_go_blk b_X8_digit_40 k_X8_digit_40 ?_
          refine by_iret ry_130 (by first | rfl | assumption) ?_
          exact hp
    by_cases z3 : b < 48
    · with_reducible refine xm_go_blk b_X8_digit_0 k_X8_digit_0 ?_
      refine by_iload_n rfl ?_
      refine by_bipush cb_48 ?_
      refine by_ic_lt 17 rfl ?_
      simp (disch := first | exact Nat.ne_of_beq_eq_false rfl | exact rfl | omega) only [nI_add, xa_sub, xa_mul, pk_div, nm_mod, xa_shr, xa_and7, xa_and1, xa_and255, xa_by_and, nI_m1, Nat.add_sub_cancel, Nat.reducePow, Nat.zero_add, Nat.add_zero, Nat.reduceAdd, Nat.reduceMul, Nat.reduceSub, xf_same, xq_ff, xq_fo, xf_1, xf_2, xs_1, xs_2, xs_same, xq_so, xj_1, xj_2, xj_same, xq_jo, xq_sa1, xq_same, xq_other, upd_s, oI_n, oI_s, xv_0, xv_1, xv_2, xv_3, xm_p1, xm_p2, xq_fp, xq_fn, List.filter_nil, Nat.reduceBEq, Bool.not_true, Bool.not_false, Bool.and_true, Bool.and_false, Bool.false_and, Bool.true_and, if_true, if_false, Bool.false_eq_true, reduceIte, xc_i, xc_j, xc_r, xc_n, List.nil_append, List.cons_append, Option.toList_some, Option.toList_none, nI_ltJ, nI_leJ, nI_eqJ, nI_ltz, nI_gez, nI_gtz, nI_lez, nI_eqz, m1_ltz, m1_gez, true_imp_iff, false_imp_iff, true_and, and_true, ne_eq, not_false_eq_true, not_true_eq_false, Nat.reduceEqDiff, Nat.reduceLT, Nat.reduceLeDiff]
      refine ⟨fun c0 => ?_, fun c => absurd (by omega) c⟩
      exact st
    · with_reducible refine xm_go_blk b_X8_digit_0 k_X8_digit_0 ?_
      refine by_iload_n rfl ?_
      refine by_bipush cb_48 ?_
      refine by_ic_lt 17 rfl ?_
      simp (disch := first | exact Nat.ne_of_beq_eq_false rfl | exact rfl | omega) only [nI_add, xa_sub, xa_mul, pk_div, nm_mod, xa_shr, xa_and7, xa_and1, xa_and255, xa_by_and, nI_m1, Nat.add_sub_cancel, Nat.reducePow, Nat.zero_add, Nat.add_zero, Nat.reduceAdd, Nat.reduceMul, Nat.reduceSub, xf_same, xq_ff, xq_fo, xf_1, xf_2, xs_1, xs_2, xs_same, xq_so, xj_1, xj_2, xj_same, xq_jo, xq_sa1, xq_same, xq_other, upd_s, oI_n, oI_s, xv_0, xv_1, xv_2, xv_3, xm_p1, xm_p2, xq_fp, xq_fn, List.filter_nil, Nat.reduceBEq, Bool.not_true, Bool.not_false, Bool.and_true, Bool.and_false, Bool.false_and, Bool.true_and, if_true, if_false, Bool.false_eq_true, reduceIte, xc_i, xc_j, xc_r, xc_n, List.nil_append, List.cons_append, Option.toList_some, Option.toList_none, nI_ltJ, nI_leJ, nI_eqJ, nI_ltz, nI_gez, nI_gtz, nI_lez, nI_eqz, m1_ltz, m1_gez, true_imp_iff, false_imp_iff, true_and, and_true, ne_eq, not_false_eq_true, not_true_eq_false, Nat.reduceEqDiff, Nat.reduceLT, Nat.reduceLeDiff]
      refine ⟨fun c => absurd c (by omega), fun c0 => ?_⟩
      with_reducible refine xm_go_blk b_X8_digit_6 k_X8_digit_6 ?_
      refine by_iload_n rfl ?_
      refine by_bipush cb_57 ?_
      refine by_ic_gt 17 rfl ?_
      simp (disch := first | exact Nat.ne_of_beq_eq_false rfl | exact rfl | omega) only [nI_add, xa_sub, xa_mul, pk_div, nm_mod, xa_shr, xa_and7, xa_and1, xa_and255, xa_by_and, nI_m1, Nat.add_sub_cancel, Nat.reducePow, Nat.zero_add, Nat.add_zero, Nat.reduceAdd, Nat.reduceMul, Nat.reduceSub, xf_same, xq_ff, xq_fo, xf_1, xf_2, xs_1, xs_2, xs_same, xq_so, xj_1, xj_2, xj_same, xq_jo, xq_sa1, xq_same, xq_other, upd_s, oI_n, oI_s, xv_0, xv_1, xv_2, xv_3, xm_p1, xm_p2, xq_fp, xq_fn, List.filter_nil, Nat.reduceBEq, Bool.not_true, Bool.not_false, Bool.and_true, Bool.and_false, Bool.false_and, Bool.true_and, if_true, if_false, Bool.false_eq_true, reduceIte, xc_i, xc_j, xc_r, xc_n, List.nil_append, List.cons_append, Option.toList_some, Option.toList_none, nI_ltJ, nI_leJ, nI_eqJ, nI_ltz, nI_gez, nI_gtz, nI_lez, nI_eqz, m1_ltz, m1_gez, true_imp_iff, false_imp_iff, true_and, and_true, ne_eq, not_false_eq_true, not_true_eq_false, Nat.reduceEqDiff, Nat.reduceLT, Nat.reduceLeDiff]
      refine ⟨fun c6 => ?_, fun c => absurd (by omega) c⟩
      exact st
theorem sp_addHidden (hnh : h.2.2 pp 15 = .int (nI nh)) (hpp : pp = 52 ∨ pp = 77) (hn : nh < 256) (hp : post (some (.int (nI (8 * nh)))) (xm_sf h pp 15 (.int (nI (nh + 1))))) : xm_T (XE sc) (d + 1) 100 [.ref pp] h post := by
  refine xq_in rfl ?_
  simp only [xq_a0, xq_aI, xq_aJ, xq_aR, Nat.reduceAdd]
  with_reducible refine xm_go_blk b_X6_addHidden_0 k_X6_addHidden_0 ?_
  refine by_aload_n rfl ?_
  refine by_getf cn_100 fl_6_63 (by first | exact rfl | assumption | exact ps_0 hpp) (by decide) ?_
  refine by_sipush cs_256 ?_
  simp (disch := first | exact Nat.ne_of_beq_eq_false rfl | exact rfl | omega) only [nI_add, xa_sub, xa_mul, pk_div, nm_mod, xa_shr, xa_and7, xa_and1, xa_and255, xa_by_and, nI_m1, Nat.add_sub_cancel, Nat.reducePow, Nat.zero_add, Nat.add_zero, Nat.reduceAdd, Nat.reduceMul, Nat.reduceSub, xf_same, xq_ff, xq_fo, xf_1, xf_2, xs_1, xs_2, xs_same, xq_so, xj_1, xj_2, xj_same, xq_jo, xq_sa1, xq_same, xq_other, upd_s, oI_n, oI_s, hnh]
  refine by_ic_ge 17 rfl ?_
  simp (disch := first | exact Nat.ne_of_beq_eq_false rfl | exact rfl | omega) only [nI_add, xa_sub, xa_mul, pk_div, nm_mod, xa_shr, xa_and7, xa_and1, xa_and255, xa_by_and, nI_m1, Nat.add_sub_cancel, Nat.reducePow, Nat.zero_add, Nat.add_zero, Nat.reduceAdd, Nat.reduceMul, Nat.reduceSub, xf_same, xq_ff, xq_fo, xf_1, xf_2, xs_1, xs_2, xs_same, xq_so, xj_1, xj_2, xj_same, xq_jo, xq_sa1, xq_same, xq_other, upd_s, oI_n, oI_s, xv_0, xv_1, xv_2, xv_3, xm_p1, xm_p2, xq_fp, xq_fn, List.filter_nil, Nat.reduceBEq, Bool.not_true, Bool.not_false, Bool.and_true, Bool.and_false, Bool.false_and, Bool.true_and, if_true, if_false, Bool.false_eq_true, reduceIte, xc_i, xc_j, xc_r, xc_n, List.nil_append, List.cons_append, Option.toList_some, Option.toList_none, nI_ltJ, nI_leJ, nI_eqJ, nI_ltz, nI_gez, nI_gtz, nI_lez, nI_eqz, m1_ltz, m1_gez, true_imp_iff, false_imp_iff, true_and, and_true, ne_eq, not_false_eq_true, not_true_eq_false, Nat.reduceEqDiff, Nat.reduceLT, Nat.reduceLeDiff, hnh]
  refine ⟨fun c => absurd c (by omega), fun c0 => ?_⟩
  with_reducible refine xm_go_blk b_X6_addHidden_10 k_X6_addHidden_10 ?_
  refine by_aload_n rfl ?_
  refine by_getf cn_100 fl_6_63 (by first | exact rfl | assumption | exact ps_0 hpp) (by decide) ?_
  refine by_goto 20 rfl ?_
  try simp (disch := first | exact Nat.ne_of_beq_eq_false rfl | exact rfl | omega) only [nI_add, xa_sub, xa_mul, pk_div, nm_mod, xa_shr, xa_and7, xa_and1, xa_and255, xa_by_and, nI_m1, Nat.add_sub_cancel, Nat.reducePow, Nat.zero_add, Nat.add_zero, Nat.reduceAdd, Nat.reduceMul, Nat.reduceSub, xf_same, xq_ff, xq_fo, xf_1, xf_2, xs_1, xs_2, xs_same, xq_so, xj_1, xj_2, xj_same, xq_jo, xq_sa1, xq_same, xq_other, upd_s, oI_n, oI_s, xv_0, xv_1, xv_2, xv_3, xm_p1, xm_p2, xq_fp, xq_fn, List.filter_nil, Nat.reduceBEq, Bool.not_true, Bool.not_false, Bool.and_true, Bool.and_false, Bool.false_and, Bool.true_and, if_true, if_false, Bool.false_eq_true, reduceIte, xc_i, xc_j, xc_r, xc_n, List.nil_append, List.cons_append, Option.toList_some, Option.toList_none, hnh]
  with_reducible refine xm_go_blk b_X6_addHidden_20 k_X6_addHidden_20 ?_
  refine by_istore_n (by rw [ml_100]; decide) ?_
  refine by_aload_n rfl ?_
  refine by_iload_n rfl ?_
  refine by_iconst ci_1 ?_
  refine by_iadd ?_
  refine by_putf cn_100 fl_6_63 (by first | exact rfl | assumption | exact ps_0 hpp) (by decide) nf_6_15 ft_6_15 (by first | rfl | assumption) (by first | rfl | assumption) ?_
  refine by_bipush cb_8 ?_
  refine by_iload_n rfl ?_
  refine by_imul ?_
  simp (disch := first | exact Nat.ne_of_beq_eq_false rfl | exact rfl | omega) only [nI_add, xa_sub, xa_mul, pk_div, nm_mod, xa_shr, xa_and7, xa_and1, xa_and255, xa_by_and, nI_m1, Nat.add_sub_cancel, Nat.reducePow, Nat.zero_add, Nat.add_zero, Nat.reduceAdd, Nat.reduceMul, Nat.reduceSub, xf_same, xq_ff, xq_fo, xf_1, xf_2, xs_1, xs_2, xs_same, xq_so, xj_1, xj_2, xj_same, xq_jo, xq_sa1, xq_same, xq_other, upd_s, oI_n, oI_s, hnh]
  refine by_iret ry_100 (by first | rfl | assumption) ?_
  exact hp
theorem sp_readHidden (hF : XF h) (hpp : pp = 52 ∨ pp = 77) (h10 : h.2.2 46 10 = .ref pp) (h9 : h.2.2 46 9 = .ref 1) (hr : rowIs h 1 2 t) (hf : h.2.2 46 12 = .int (nI f)) (he : h.2.2 46 13 = .int (nI e)) (hfe : f < e) (het : e ≤ t.length) (hn : n < 2000) (hnh : h.2.2 pp 15 = .int (nI nh)) (hh : nh < 200)
    (h1 : e - f = 64 → hdOK t f → ∀ h', Fr [pp + 4, pp + 11] [(pp, 15)] h h' → h'.2.2 pp 15 = .int (nI (nh + 1)) → h'.1 (pp + 4) n = nI (8 * nh) → (∀ m, m ≠ n → h'.1 (pp + 4) m = h.1 (pp + 4) m) → (∀ k, k < 8 → h'.1 (pp + 11) (8 * nh + k) = nI (hdW t f k)) → (∀ j, j < 8 * nh → h'.1 (pp + 11) j = h.1 (pp + 11) j) → post (some (.int (nI 1))) h')
    (h0 : ¬ (e - f = 64 ∧ hdOK t f) → ∀ h', Fr [pp + 4, pp + 11] [(pp, 15)] h h' → post (some (.int (nI 0))) h') : xm_T (XE sc) (d + 2) 151 [.ref 46, .int (nI n)] h post := by
  have ht8 : t.length ≤ 8192 := hr.2.2.1
  have q1 : (2 : Nat) ∉ [pp + 4, pp + 11] ∧ (1, 0) ∉ [(pp, 15)] ∧ (1, 1) ∉ [(pp, 15)] ∧ (46, 9) ∉ [(pp, 15)] ∧ (46, 10) ∉ [(pp, 15)] ∧ (46, 12) ∉ [(pp, 15)] ∧ (46, 13) ∉ [(pp, 15)] ∧ pp + 4 ≠ pp + 11 := by rcases hpp with rfl | rfl <;> decide
  obtain ⟨q2, q3, q4, q5, q6, q7, q8, q9⟩ := q1
  have qfin : xt_fin.all (fun q => !([(pp, 15)].contains (q.1, q.2.1))) = true := by rcases hpp with rfl | rfl <;> decide +kernel
  refine xq_in rfl ?_
  simp only [xq_a0, xq_aI, xq_aJ, xq_aR, Nat.reduceAdd]
  by_cases e64 : e - f = 64
  · have e64' : (e - f = 64) = True := eq_true e64
    have key : ∀ (y i : Nat) (g : xm_H), i + y = 64 → (∀ j, j < i → (hdg (t.getD (f + j) 0)).isSome = true) → Fr [pp + 4, pp + 11] [(pp, 15)] h g → g.2.2 pp 15 = .int (nI (nh + 1)) → g.1 (pp + 4) n = nI (8 * nh) → (∀ m, m ≠ n → g.1 (pp + 4) m = h.1 (pp + 4) m) → (∀ j, j < 8 * nh → g.1 (pp + 11) j = h.1 (pp + 11) j) → (∀ k, k < i / 8 → g.1 (pp + 11) (8 * nh + k) = nI (hdW t f k)) → (∃ X, g.1 (pp + 11) (8 * nh + i / 8) = nI (X * 16 ^ (i % 8) + hdv t (f + 8 * (i / 8)) (i % 8))) → xm_go (XE sc) (xm_T (XE sc) (d + 1)) 151 post 36 [(3, .int (nI i)), (2, .int (nI (8 * nh))), (0, .ref 46), (1, .int (nI n))] [] g := by
      intro y
      induction y with
      | zero =>
        intro i g hi hd fg g15 g4 g4o g11o gk gx
        have : i = 64 := by omega
        subst this
        with_reducible refine xm_go_blk b_X9_readHidden_36 k_X9_readHidden_36 ?_
        refine by_iload_n rfl ?_
        refine by_bipush cb_64 ?_
        refine by_ic_ge 105 rfl ?_
        simp (disch := first | exact Nat.ne_of_beq_eq_false rfl | exact rfl | omega) only [nI_add, xa_sub, xa_mul, pk_div, nm_mod, xa_shr, xa_and7, xa_and1, xa_and255, xa_by_and, nI_m1, Nat.add_sub_cancel, Nat.reducePow, Nat.zero_add, Nat.add_zero, Nat.reduceAdd, Nat.reduceMul, Nat.reduceSub, xf_same, xq_ff, xq_fo, xf_1, xf_2, xs_1, xs_2, xs_same, xq_so, xj_1, xj_2, xj_same, xq_jo, xq_sa1, xq_same, xq_other, upd_s, oI_n, oI_s, xv_0, xv_1, xv_2, xv_3, xm_p1, xm_p2, xq_fp, xq_fn, List.filter_nil, Nat.reduceBEq, Bool.not_true, Bool.not_false, Bool.and_true, Bool.and_false, Bool.false_and, Bool.true_and, if_true, if_false, Bool.false_eq_true, reduceIte, xc_i, xc_j, xc_r, xc_n, List.nil_append, List.cons_append, Option.toList_some, Option.toList_none, nI_ltJ, nI_leJ, nI_eqJ, nI_ltz, nI_gez, nI_gtz, nI_lez, nI_eqz, m1_ltz, m1_gez, true_imp_iff, false_imp_iff, true_and, and_true, ne_eq, not_false_eq_true, not_true_eq_false, Nat.reduceEqDiff, Nat.reduceLT, Nat.reduceLeDiff]
        with_reducible refine xm_go_blk b_X9_readHidden_105 k_X9_readHidden_105 ?_
        refine by_iconst ci_1 ?_
        refine by_iret ry_151 (by first | rfl | assumption) ?_
        exact h1 e64 (fun j hj => hd j hj) g fg g15 g4 g4o (fun k hk => gk k (by omega)) g11o
      | succ y ih =>
        intro i g hi hd fg g15 g4 g4o g11o gk gx
        have Fg := Fr_XF hF fg qfin
        have rg : rowIs g 1 2 t := rowIs_fr hr fg q2 q3 q4
        have f9 : g.2.2 46 9 = .ref 1 := by rw [fg.2.2 _ _ q5]; exact h9
        have f10 : g.2.2 46 10 = .ref pp := by rw [fg.2.2 _ _ q6]; exact h10
        have f12 : g.2.2 46 12 = .int (nI f) := by rw [fg.2.2 _ _ q7]; exact hf
        have hb := rowIs_l0 hr (f + i)
        obtain ⟨X, gx⟩ := gx
        with_reducible refine xm_go_blk b_X9_readHidden_36 k_X9_readHidden_36 ?_
        refine by_iload_n rfl ?_
        refine by_bipush cb_64 ?_
        refine by_ic_ge 105 rfl ?_
        simp (disch := first | exact Nat.ne_of_beq_eq_false rfl | exact rfl | omega) only [nI_add, xa_sub, xa_mul, pk_div, nm_mod, xa_shr, xa_and7, xa_and1, xa_and255, xa_by_and, nI_m1, Nat.add_sub_cancel, Nat.reducePow, Nat.zero_add, Nat.add_zero, Nat.reduceAdd, Nat.reduceMul, Nat.reduceSub, xf_same, xq_ff, xq_fo, xf_1, xf_2, xs_1, xs_2, xs_same, xq_so, xj_1, xj_2, xj_same, xq_jo, xq_sa1, xq_same, xq_other, upd_s, oI_n, oI_s, xv_0, xv_1, xv_2, xv_3, xm_p1, xm_p2, xq_fp, xq_fn, List.filter_nil, Nat.reduceBEq, Bool.not_true, Bool.not_false, Bool.and_true, Bool.and_false, Bool.false_and, Bool.true_and, if_true, if_false, Bool.false_eq_true, reduceIte, xc_i, xc_j, xc_r, xc_n, List.nil_append, List.cons_append, Option.toList_some, Option.toList_none, nI_ltJ, nI_leJ, nI_eqJ, nI_ltz, nI_gez, nI_gtz, nI_lez, nI_eqz, m1_ltz, m1_gez, true_imp_iff, false_imp_iff, true_and, and_true, ne_eq, not_false_eq_true, not_true_eq_false, Nat.reduceEqDiff, Nat.reduceLT, Nat.reduceLeDiff, f9, f12]
        refine ⟨fun c => absurd c (by omega), fun c36 => ?_⟩
        with_reducible refine xm_go_blk b_X9_readHidden_42 k_X9_readHidden_42 ?_
        refine by_aload_n rfl ?_
        refine by_getf cn_151 fl_9_32 (by first | exact rfl | assumption) (by decide) ?_
        refine by_aload_n rfl ?_
        refine by_getf cn_151 fl_9_107 (by first | exact rfl | assumption) (by decide) ?_
        refine by_iload_n rfl ?_
        simp (disch := first | exact Nat.ne_of_beq_eq_false rfl | exact rfl | omega) only [nI_add, xa_sub, xa_mul, pk_div, nm_mod, xa_shr, xa_and7, xa_and1, xa_and255, xa_by_and, nI_m1, Nat.add_sub_cancel, Nat.reducePow, Nat.zero_add, Nat.add_zero, Nat.reduceAdd, Nat.reduceMul, Nat.reduceSub, xf_same, xq_ff, xq_fo, xf_1, xf_2, xs_1, xs_2, xs_same, xq_so, xj_1, xj_2, xj_same, xq_jo, xq_sa1, xq_same, xq_other, upd_s, oI_n, oI_s, f9, f12]
        refine by_iadd ?_
        simp (disch := first | exact Nat.ne_of_beq_eq_false rfl | exact rfl | omega) only [nI_add, xa_sub, xa_mul, pk_div, nm_mod, xa_shr, xa_and7, xa_and1, xa_and255, xa_by_and, nI_m1, Nat.add_sub_cancel, Nat.reducePow, Nat.zero_add, Nat.add_zero, Nat.reduceAdd, Nat.reduceMul, Nat.reduceSub, xf_same, xq_ff, xq_fo, xf_1, xf_2, xs_1, xs_2, xs_same, xq_so, xj_1, xj_2, xj_same, xq_jo, xq_sa1, xq_same, xq_other, upd_s, oI_n, oI_s, xv_0, xv_1, xv_2, xv_3, xm_p1, xm_p2, xq_fp, xq_fn, List.filter_nil, Nat.reduceBEq, Bool.not_true, Bool.not_false, Bool.and_true, Bool.and_false, Bool.false_and, Bool.true_and, if_true, if_false, Bool.false_eq_true, reduceIte, xc_i, xc_j, xc_r, xc_n, List.nil_append, List.cons_append, Option.toList_some, Option.toList_none, f9, f12]
        refine by_inv1 cn_151 lk_9_130 (by rw [xe_cnt]; decide) is_126 np_126 cn_126 (by first | exact rfl | assumption | exact ps_12 hpp) (Nat.le_of_ble_eq_true rfl) ?_
        refine sp_atL sh_1 sh_2 rg (by omega) ?_
        with_reducible refine xm_go_blk b_X9_readHidden_55 k_X9_readHidden_55 ?_
        refine by_ins1 cn_151 lk_9_193 (by rw [xe_cnt]; decide) is_130 np_130 (Nat.le_of_ble_eq_true rfl) ?_
        refine sp_xdigit hb ?_
        cases ed : hdg (t.getD (f + i) 0) with
        | none =>
          with_reducible refine xm_go_blk b_X9_readHidden_58 k_X9_readHidden_58 ?_
          refine by_istore (by rw [ml_151]; decide) ?_
          refine by_iload rfl ?_
          refine by_if_ge 67 rfl ?_
          simp (disch := first | exact Nat.ne_of_beq_eq_false rfl | exact rfl | omega) only [nI_add, xa_sub, xa_mul, pk_div, nm_mod, xa_shr, xa_and7, xa_and1, xa_and255, xa_by_and, nI_m1, Nat.add_sub_cancel, Nat.reducePow, Nat.zero_add, Nat.add_zero, Nat.reduceAdd, Nat.reduceMul, Nat.reduceSub, xf_same, xq_ff, xq_fo, xf_1, xf_2, xs_1, xs_2, xs_same, xq_so, xj_1, xj_2, xj_same, xq_jo, xq_sa1, xq_same, xq_other, upd_s, oI_n, oI_s, xv_0, xv_1, xv_2, xv_3, xm_p1, xm_p2, xq_fp, xq_fn, List.filter_nil, Nat.reduceBEq, Bool.not_true, Bool.not_false, Bool.and_true, Bool.and_false, Bool.false_and, Bool.true_and, if_true, if_false, Bool.false_eq_true, reduceIte, xc_i, xc_j, xc_r, xc_n, List.nil_append, List.cons_append, Option.toList_some, Option.toList_none, nI_ltJ, nI_leJ, nI_eqJ, nI_ltz, nI_gez, nI_gtz, nI_lez, nI_eqz, m1_ltz, m1_gez, true_imp_iff, false_imp_iff, true_and, and_true, ne_eq, not_false_eq_true, not_true_eq_false, Nat.reduceEqDiff, Nat.reduceLT, Nat.reduceLeDiff]
          with_reducible refine xm_go_blk b_X9_readHidden_65 k_X9_readHidden_65 ?_
          refine by_iconst ci_0 ?_
          refine by_iret ry_151 (by first | rfl | assumption) ?_
          exact h0 (fun z => by have := z.2 i (by omega); rw [ed] at this; cases this) g fg
        | some x =>
          have hx := hdg_lt ed
          with_reducible refine xm_go_blk b_X9_readHidden_58 k_X9_readHidden_58 ?_
          refine by_istore (by rw [ml_151]; decide) ?_
          refine by_iload rfl ?_
          refine by_if_ge 67 rfl ?_
          simp (disch := first | exact Nat.ne_of_beq_eq_false rfl | exact rfl | omega) only [nI_add, xa_sub, xa_mul, pk_div, nm_mod, xa_shr, xa_and7, xa_and1, xa_and255, xa_by_and, nI_m1, Nat.add_sub_cancel, Nat.reducePow, Nat.zero_add, Nat.add_zero, Nat.reduceAdd, Nat.reduceMul, Nat.reduceSub, xf_same, xq_ff, xq_fo, xf_1, xf_2, xs_1, xs_2, xs_same, xq_so, xj_1, xj_2, xj_same, xq_jo, xq_sa1, xq_same, xq_other, upd_s, oI_n, oI_s, xv_0, xv_1, xv_2, xv_3, xm_p1, xm_p2, xq_fp, xq_fn, List.filter_nil, Nat.reduceBEq, Bool.not_true, Bool.not_false, Bool.and_true, Bool.and_false, Bool.false_and, Bool.true_and, if_true, if_false, Bool.false_eq_true, reduceIte, xc_i, xc_j, xc_r, xc_n, List.nil_append, List.cons_append, Option.toList_some, Option.toList_none, nI_ltJ, nI_leJ, nI_eqJ, nI_ltz, nI_gez, nI_gtz, nI_lez, nI_eqz, m1_ltz, m1_gez, true_imp_iff, false_imp_iff, true_and, and_true, ne_eq, not_false_eq_true, not_true_eq_false, Nat.reduceEqDiff, Nat.reduceLT, Nat.reduceLeDiff, f10, pf_11 Fg hpp, gx, nI_sh4 hx]
          with_reducible refine xm_go_blk b_X9_readHidden_67 k_X9_readHidden_67 ?_
          refine by_iload_n rfl ?_
          refine by_iload_n rfl ?_
          refine by_iconst ci_3 ?_
          refine by_ishr ?_
          refine by_iadd ?_
          refine by_istore (by rw [ml_151]; decide) ?_
          refine by_aload_n rfl ?_
          refine by_getf cn_151 fl_9_36 (by first | exact rfl | assumption) (by decide) ?_
          simp (disch := first | exact Nat.ne_of_beq_eq_false rfl | exact rfl | omega) only [nI_add, xa_sub, xa_mul, pk_div, nm_mod, xa_shr, xa_and7, xa_and1, xa_and255, xa_by_and, nI_m1, Nat.add_sub_cancel, Nat.reducePow, Nat.zero_add, Nat.add_zero, Nat.reduceAdd, Nat.reduceMul, Nat.reduceSub, xf_same, xq_ff, xq_fo, xf_1, xf_2, xs_1, xs_2, xs_same, xq_so, xj_1, xj_2, xj_same, xq_jo, xq_sa1, xq_same, xq_other, upd_s, oI_n, oI_s, f10, pf_11 Fg hpp, gx, nI_sh4 hx]
          refine by_getf cn_151 fl_9_196 (by first | exact rfl | assumption | exact ps_0 hpp) (by decide) ?_
          refine by_iload rfl ?_
          refine by_aload_n rfl ?_
          refine by_getf cn_151 fl_9_36 (by first | exact rfl | assumption) (by decide) ?_
          simp (disch := first | exact Nat.ne_of_beq_eq_false rfl | exact rfl | omega) only [nI_add, xa_sub, xa_mul, pk_div, nm_mod, xa_shr, xa_and7, xa_and1, xa_and255, xa_by_and, nI_m1, Nat.add_sub_cancel, Nat.reducePow, Nat.zero_add, Nat.add_zero, Nat.reduceAdd, Nat.reduceMul, Nat.reduceSub, xf_same, xq_ff, xq_fo, xf_1, xf_2, xs_1, xs_2, xs_same, xq_so, xj_1, xj_2, xj_same, xq_jo, xq_sa1, xq_same, xq_other, upd_s, oI_n, oI_s, f10, pf_11 Fg hpp, gx, nI_sh4 hx]
          refine by_getf cn_151 fl_9_196 (by first | exact rfl | assumption | exact ps_0 hpp) (by decide) ?_
          refine by_iload rfl ?_
          simp (disch := first | exact Nat.ne_of_beq_eq_false rfl | exact rfl | omega) only [nI_add, xa_sub, xa_mul, pk_div, nm_mod, xa_shr, xa_and7, xa_and1, xa_and255, xa_by_and, nI_m1, Nat.add_sub_cancel, Nat.reducePow, Nat.zero_add, Nat.add_zero, Nat.reduceAdd, Nat.reduceMul, Nat.reduceSub, xf_same, xq_ff, xq_fo, xf_1, xf_2, xs_1, xs_2, xs_same, xq_so, xj_1, xj_2, xj_same, xq_jo, xq_sa1, xq_same, xq_other, upd_s, oI_n, oI_s, f10, pf_11 Fg hpp, gx, nI_sh4 hx]
          first | refine by_iald (by first | exact rfl | assumption | exact ps_1 hpp | exact ps_2 hpp | exact ps_3 hpp | exact ps_4 hpp | exact ps_5 hpp | exact ps_6 hpp | exact ps_7 hpp | exact ps_8 hpp | exact ps_9 hpp | exact ps_10 hpp | exact ps_11 hpp | exact ps_15 hpp | exact ps_16 hpp | exact ps_17 hpp | exact ps_18 hpp | exact ps_19 hpp | exact ps_21 hpp | exact ps_22 hpp | exact ps_23 hpp | exact ps_24 hpp) ⟨by omega, by omega⟩ ?_ | refine by_tald rfl rfl ⟨by omega, by omega⟩ ?_
          refine by_iconst ci_4 ?_
          refine by_ishl ?_
          refine by_iload rfl ?_
          refine by_ior ?_
          refine by_iast (by first | exact rfl | assumption | exact ps_1 hpp | exact ps_2 hpp | exact ps_3 hpp | exact ps_4 hpp | exact ps_5 hpp | exact ps_6 hpp | exact ps_7 hpp | exact ps_8 hpp | exact ps_9 hpp | exact ps_10 hpp | exact ps_11 hpp | exact ps_15 hpp | exact ps_16 hpp | exact ps_17 hpp | exact ps_18 hpp | exact ps_19 hpp | exact ps_21 hpp | exact ps_22 hpp | exact ps_23 hpp | exact ps_24 hpp) ⟨by omega, by omega⟩ ?_
          refine by_iinc (by rw [ml_151]; decide) rfl ci_1 ?_
          refine by_goto 36 rfl ?_
          try simp (disch := first | exact Nat.ne_of_beq_eq_false rfl | exact rfl | omega) only [nI_add, xa_sub, xa_mul, pk_div, nm_mod, xa_shr, xa_and7, xa_and1, xa_and255, xa_by_and, nI_m1, Nat.add_sub_cancel, Nat.reducePow, Nat.zero_add, Nat.add_zero, Nat.reduceAdd, Nat.reduceMul, Nat.reduceSub, xf_same, xq_ff, xq_fo, xf_1, xf_2, xs_1, xs_2, xs_same, xq_so, xj_1, xj_2, xj_same, xq_jo, xq_sa1, xq_same, xq_other, upd_s, oI_n, oI_s, xv_0, xv_1, xv_2, xv_3, xm_p1, xm_p2, xq_fp, xq_fn, List.filter_nil, Nat.reduceBEq, Bool.not_true, Bool.not_false, Bool.and_true, Bool.and_false, Bool.false_and, Bool.true_and, if_true, if_false, Bool.false_eq_true, reduceIte, xc_i, xc_j, xc_r, xc_n, List.nil_append, List.cons_append, Option.toList_some, Option.toList_none, f10, pf_11 Fg hpp, gx, nI_sh4 hx]
          have vn : 16 * (X * 16 ^ (i % 8) + hdv t (f + 8 * (i / 8)) (i % 8)) + x = X * 16 ^ (i % 8 + 1) + hdv t (f + 8 * (i / 8)) (i % 8 + 1) := by
            rw [hdv, show f + 8 * (i / 8) + i % 8 = f + i by omega, ed, Nat.pow_succ]
            show 16 * (X * 16 ^ (i % 8) + hdv t (f + 8 * (i / 8)) (i % 8)) + x = X * (16 ^ (i % 8) * 16) + (16 * hdv t (f + 8 * (i / 8)) (i % 8) + x)
            rw [← Nat.mul_assoc]
            omega
          rw [vn]
          have hw := ih (i + 1) (xm_si g (pp + 11) (8 * nh + i / 8) (nI (X * 16 ^ (i % 8 + 1) + hdv t (f + 8 * (i / 8)) (i % 8 + 1)))) (by omega) (fun j hj => by
            by_cases z : j = i
            · subst z; rw [ed]; rfl
            · exact hd j (by omega)) (Fr_si fg (by simp)) g15 (by rw [xq_so (by omega)]; exact g4) (fun m hm => by rw [xq_so (by omega)]; exact g4o m hm) (fun j hj => by
              rw [xs_same]
              unfold upd
              rw [if_neg (by omega)]
              exact g11o j hj) (fun k hk => ?_) ?_
          · exact xm_go_wk (by simp [Value.category]) hw
          · rw [xs_same]
            unfold upd
            by_cases z : k = i / 8
            · have z7 : i % 8 = 7 := by omega
              rw [if_pos (by omega), z7, show X * 16 ^ (7 + 1) = X * 4294967296 by rfl, nI_p32, z]
              rfl
            · rw [if_neg (by omega)]
              exact gk k (by omega)
          · by_cases z7 : i % 8 = 7
            · have e1 : (i + 1) % 8 = 0 := by omega
              have e2 : (i + 1) / 8 = i / 8 + 1 := by omega
              rw [e1, e2, xs_same]
              unfold upd
              rw [if_neg (by omega)]
              obtain ⟨X', hX'⟩ := nI_all (g.1 (pp + 11) (8 * nh + (i / 8 + 1)))
              exact ⟨X', by rw [hX']; congr 1; show X' = X' * 1 + 0; omega⟩
            · have e1 : (i + 1) % 8 = i % 8 + 1 := by omega
              have e2 : (i + 1) / 8 = i / 8 := by omega
              rw [e1, e2, xs_same]
              unfold upd
              rw [if_pos rfl]
              exact ⟨X, rfl⟩
    with_reducible refine xm_go_blk b_X9_readHidden_0 k_X9_readHidden_0 ?_
    refine by_aload_n rfl ?_
    refine by_getf cn_151 fl_9_52 (by first | exact rfl | assumption) (by decide) ?_
    refine by_aload_n rfl ?_
    refine by_getf cn_151 fl_9_107 (by first | exact rfl | assumption) (by decide) ?_
    simp (disch := first | exact Nat.ne_of_beq_eq_false rfl | exact rfl | omega) only [nI_add, xa_sub, xa_mul, pk_div, nm_mod, xa_shr, xa_and7, xa_and1, xa_and255, xa_by_and, nI_m1, Nat.add_sub_cancel, Nat.reducePow, Nat.zero_add, Nat.add_zero, Nat.reduceAdd, Nat.reduceMul, Nat.reduceSub, xf_same, xq_ff, xq_fo, xf_1, xf_2, xs_1, xs_2, xs_same, xq_so, xj_1, xj_2, xj_same, xq_jo, xq_sa1, xq_same, xq_other, upd_s, oI_n, oI_s, hf, he, e64', h10]
    refine by_isub ?_
    refine by_bipush cb_64 ?_
    refine by_ic_eq 16 rfl ?_
    simp (disch := first | exact Nat.ne_of_beq_eq_false rfl | exact rfl | omega) only [nI_add, xa_sub, xa_mul, pk_div, nm_mod, xa_shr, xa_and7, xa_and1, xa_and255, xa_by_and, nI_m1, Nat.add_sub_cancel, Nat.reducePow, Nat.zero_add, Nat.add_zero, Nat.reduceAdd, Nat.reduceMul, Nat.reduceSub, xf_same, xq_ff, xq_fo, xf_1, xf_2, xs_1, xs_2, xs_same, xq_so, xj_1, xj_2, xj_same, xq_jo, xq_sa1, xq_same, xq_other, upd_s, oI_n, oI_s, xv_0, xv_1, xv_2, xv_3, xm_p1, xm_p2, xq_fp, xq_fn, List.filter_nil, Nat.reduceBEq, Bool.not_true, Bool.not_false, Bool.and_true, Bool.and_false, Bool.false_and, Bool.true_and, if_true, if_false, Bool.false_eq_true, reduceIte, xc_i, xc_j, xc_r, xc_n, List.nil_append, List.cons_append, Option.toList_some, Option.toList_none, nI_ltJ, nI_leJ, nI_eqJ, nI_ltz, nI_gez, nI_gtz, nI_lez, nI_eqz, m1_ltz, m1_gez, true_imp_iff, false_imp_iff, true_and, and_true, ne_eq, not_false_eq_true, not_true_eq_false, Nat.reduceEqDiff, Nat.reduceLT, Nat.reduceLeDiff, hf, he, e64', h10]
    with_reducible refine xm_go_blk b_X9_readHidden_16 k_X9_readHidden_16 ?_
    refine by_aload_n rfl ?_
    refine by_getf cn_151 fl_9_36 (by first | exact rfl | assumption) (by decide) ?_
    simp (disch := first | exact Nat.ne_of_beq_eq_false rfl | exact rfl | omega) only [nI_add, xa_sub, xa_mul, pk_div, nm_mod, xa_shr, xa_and7, xa_and1, xa_and255, xa_by_and, nI_m1, Nat.add_sub_cancel, Nat.reducePow, Nat.zero_add, Nat.add_zero, Nat.reduceAdd, Nat.reduceMul, Nat.reduceSub, xf_same, xq_ff, xq_fo, xf_1, xf_2, xs_1, xs_2, xs_same, xq_so, xj_1, xj_2, xj_same, xq_jo, xq_sa1, xq_same, xq_other, upd_s, oI_n, oI_s, xv_0, xv_1, xv_2, xv_3, xm_p1, xm_p2, xq_fp, xq_fn, List.filter_nil, Nat.reduceBEq, Bool.not_true, Bool.not_false, Bool.and_true, Bool.and_false, Bool.false_and, Bool.true_and, if_true, if_false, Bool.false_eq_true, reduceIte, xc_i, xc_j, xc_r, xc_n, List.nil_append, List.cons_append, Option.toList_some, Option.toList_none, hf, he, e64', h10]
    refine by_inv0 cn_151 lk_9_190 (by rw [xe_cnt]; decide) is_100 np_100 cn_100 (by first | exact rfl | assumption | exact ps_0 hpp) (Nat.le_of_ble_eq_true rfl) ?_
    refine sp_addHidden hnh hpp (by omega) ?_
    with_reducible refine xm_go_blk b_X9_readHidden_23 k_X9_readHidden_23 ?_
    refine by_istore_n (by rw [ml_151]; decide) ?_
    refine by_aload_n rfl ?_
    refine by_getf cn_151 fl_9_36 (by first | exact rfl | assumption) (by decide) ?_
    simp (disch := first | exact Nat.ne_of_beq_eq_false rfl | exact rfl | omega) only [nI_add, xa_sub, xa_mul, pk_div, nm_mod, xa_shr, xa_and7, xa_and1, xa_and255, xa_by_and, nI_m1, Nat.add_sub_cancel, Nat.reducePow, Nat.zero_add, Nat.add_zero, Nat.reduceAdd, Nat.reduceMul, Nat.reduceSub, xf_same, xq_ff, xq_fo, xf_1, xf_2, xs_1, xs_2, xs_same, xq_so, xj_1, xj_2, xj_same, xq_jo, xq_sa1, xq_same, xq_other, upd_s, oI_n, oI_s, h10, pf_4 hF hpp]
    refine by_getf cn_151 fl_9_184 (by first | exact rfl | assumption | exact ps_0 hpp) (by decide) ?_
    refine by_iload_n rfl ?_
    refine by_iload_n rfl ?_
    simp (disch := first | exact Nat.ne_of_beq_eq_false rfl | exact rfl | omega) only [nI_add, xa_sub, xa_mul, pk_div, nm_mod, xa_shr, xa_and7, xa_and1, xa_and255, xa_by_and, nI_m1, Nat.add_sub_cancel, Nat.reducePow, Nat.zero_add, Nat.add_zero, Nat.reduceAdd, Nat.reduceMul, Nat.reduceSub, xf_same, xq_ff, xq_fo, xf_1, xf_2, xs_1, xs_2, xs_same, xq_so, xj_1, xj_2, xj_same, xq_jo, xq_sa1, xq_same, xq_other, upd_s, oI_n, oI_s, h10, pf_4 hF hpp]
    refine by_iast (by first | exact rfl | assumption | exact ps_1 hpp | exact ps_2 hpp | exact ps_3 hpp | exact ps_4 hpp | exact ps_5 hpp | exact ps_6 hpp | exact ps_7 hpp | exact ps_8 hpp | exact ps_9 hpp | exact ps_10 hpp | exact ps_11 hpp | exact ps_15 hpp | exact ps_16 hpp | exact ps_17 hpp | exact ps_18 hpp | exact ps_19 hpp | exact ps_21 hpp | exact ps_22 hpp | exact ps_23 hpp | exact ps_24 hpp) ⟨by omega, by omega⟩ ?_
    refine by_iconst ci_0 ?_
    refine by_istore_n (by rw [ml_151]; decide) ?_
    refine by_nil ?_
    try simp (disch := first | exact Nat.ne_of_beq_eq_false rfl | exact rfl | omega) only [nI_add, xa_sub, xa_mul, pk_div, nm_mod, xa_shr, xa_and7, xa_and1, xa_and255, xa_by_and, nI_m1, Nat.add_sub_cancel, Nat.reducePow, Nat.zero_add, Nat.add_zero, Nat.reduceAdd, Nat.reduceMul, Nat.reduceSub, xf_same, xq_ff, xq_fo, xf_1, xf_2, xs_1, xs_2, xs_same, xq_so, xj_1, xj_2, xj_same, xq_jo, xq_sa1, xq_same, xq_other, upd_s, oI_n, oI_s, xv_0, xv_1, xv_2, xv_3, xm_p1, xm_p2, xq_fp, xq_fn, List.filter_nil, Nat.reduceBEq, Bool.not_true, Bool.not_false, Bool.and_true, Bool.and_false, Bool.false_and, Bool.true_and, if_true, if_false, Bool.false_eq_true, reduceIte, xc_i, xc_j, xc_r, xc_n, List.nil_append, List.cons_append, Option.toList_some, Option.toList_none, h10, pf_4 hF hpp]
    obtain ⟨X, hX⟩ := nI_all (h.1 (pp + 11) (8 * nh))
    refine key 64 0 _ rfl (fun j hj => absurd hj (Nat.not_lt_zero _)) (Fr_si (Fr_sf Fr_rf (by simp)) (by simp)) (by simp [xm_sf, xm_si, updV]) (by simp [xm_sf, xm_si, upd]) (fun m hm => by simp [xm_sf, xm_si, upd, hm]) (fun j hj => ?_) (fun k hk => by omega) ⟨X, ?_⟩
    · rw [xq_so (by omega)]; rfl
    · rw [xq_so (by omega)]
      refine Eq.trans hX ?_
      congr 1
      show X = X * 1 + 0
      omega
  · have e64' : (e - f = 64) = False := eq_false e64
    with_reducible refine xm_go_blk b_X9_readHidden_0 k_X9_readHidden_0 ?_
    refine by_aload_n rfl ?_
    refine by_getf cn_151 fl_9_52 (by first | exact rfl | assumption) (by decide) ?_
    refine by_aload_n rfl ?_
    refine by_getf cn_151 fl_9_107 (by first | exact rfl | assumption) (by decide) ?_
    simp (disch := first | exact Nat.ne_of_beq_eq_false rfl | exact rfl | omega) only [nI_add, xa_sub, xa_mul, pk_div, nm_mod, xa_shr, xa_and7, xa_and1, xa_and255, xa_by_and, nI_m1, Nat.add_sub_cancel, Nat.reducePow, Nat.zero_add, Nat.add_zero, Nat.reduceAdd, Nat.reduceMul, Nat.reduceSub, xf_same, xq_ff, xq_fo, xf_1, xf_2, xs_1, xs_2, xs_same, xq_so, xj_1, xj_2, xj_same, xq_jo, xq_sa1, xq_same, xq_other, upd_s, oI_n, oI_s, hf, he, e64']
    refine by_isub ?_
    refine by_bipush cb_64 ?_
    refine by_ic_eq 16 rfl ?_
    simp (disch := first | exact Nat.ne_of_beq_eq_false rfl | exact rfl | omega) only [nI_add, xa_sub, xa_mul, pk_div, nm_mod, xa_shr, xa_and7, xa_and1, xa_and255, xa_by_and, nI_m1, Nat.add_sub_cancel, Nat.reducePow, Nat.zero_add, Nat.add_zero, Nat.reduceAdd, Nat.reduceMul, Nat.reduceSub, xf_same, xq_ff, xq_fo, xf_1, xf_2, xs_1, xs_2, xs_same, xq_so, xj_1, xj_2, xj_same, xq_jo, xq_sa1, xq_same, xq_other, upd_s, oI_n, oI_s, xv_0, xv_1, xv_2, xv_3, xm_p1, xm_p2, xq_fp, xq_fn, List.filter_nil, Nat.reduceBEq, Bool.not_true, Bool.not_false, Bool.and_true, Bool.and_false, Bool.false_and, Bool.true_and, if_true, if_false, Bool.false_eq_true, reduceIte, xc_i, xc_j, xc_r, xc_n, List.nil_append, List.cons_append, Option.toList_some, Option.toList_none, nI_ltJ, nI_leJ, nI_eqJ, nI_ltz, nI_gez, nI_gtz, nI_lez, nI_eqz, m1_ltz, m1_gez, true_imp_iff, false_imp_iff, true_and, and_true, ne_eq, not_false_eq_true, not_true_eq_false, Nat.reduceEqDiff, Nat.reduceLT, Nat.reduceLeDiff, hf, he, e64']
    with_reducible refine xm_go_blk b_X9_readHidden_14 k_X9_readHidden_14 ?_
    refine by_iconst ci_0 ?_
    refine by_iret ry_151 (by first | rfl | assumption) ?_
    exact h0 (fun z => e64 z.1) h Fr_rf
end SY
