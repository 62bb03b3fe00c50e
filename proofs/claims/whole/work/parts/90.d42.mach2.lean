/-! ===== the machine's cells: put ===== -/
theorem xlB (x : Int64) {k : Nat} (hk : k < 64) : (x <<< ((nI k).toInt64 &&& 63)).toBitVec = x.toBitVec <<< k := by
  obtain ⟨n, hn, rfl⟩ := wb_of x
  rw [wb_shl n hk, wb_tb, wb_tb]
  apply BitVec.eq_of_toNat_eq
  simp [BitVec.toNat_shiftLeft, Nat.shiftLeft_eq, Nat.mod_mul_mod]
theorem xrB (x : Int64) {k : Nat} (hk : k < 64) : ((x.toUInt64 >>> ((nI k).toInt64.toUInt64 &&& Int64.toUInt64 63)).toInt64).toBitVec = x.toBitVec >>> k := by
  obtain ⟨n, hn, rfl⟩ := wb_of x
  rw [wb_shr hn hk, wb_tb, wb_tb]
  apply BitVec.eq_of_toNat_eq
  have : n / 2 ^ k < 2 ^ 64 := Nat.lt_of_le_of_lt (Nat.div_le_self _ _) hn
  simp [BitVec.toNat_ushiftRight, Nat.shiftRight_eq_div_pow, Nat.mod_eq_of_lt hn, Nat.mod_eq_of_lt this]
theorem m1B : (-1 : Int64).toBitVec = BitVec.allOnes 64 := by decide
theorem cN_b (h : xm_H) (c m : Nat) : (cN h c).testBit m = (h.2.1 33 c).toBitVec.getLsbD m := rfl
/-- the first word's new bits -/
def pw1 (c v : Int64) (o n : Nat) : Int64 := (c &&& (((-1 : Int64) <<< ((nI (64 - n)).toInt64 &&& 63)).toUInt64 >>> ((nI o).toInt64.toUInt64 &&& Int64.toUInt64 63)).toInt64 ^^^ -1) ||| ((v <<< ((nI (64 - n)).toInt64 &&& 63)).toUInt64 >>> ((nI o).toInt64.toUInt64 &&& Int64.toUInt64 63)).toInt64
theorem pw1_b (c v : Int64) {o n m : Nat} (ho : o < 64) (hn1 : 1 ≤ n) (hn : n ≤ 64) (hm : m < 64) : (((c &&& ((((-1 : Int64) <<< ((nI (64 - n)).toInt64 &&& 63)).toUInt64 >>> ((nI o).toInt64.toUInt64 &&& Int64.toUInt64 63)).toInt64 ^^^ -1)) ||| ((v <<< ((nI (64 - n)).toInt64 &&& 63)).toUInt64 >>> ((nI o).toInt64.toUInt64 &&& Int64.toUInt64 63)).toInt64).toBitVec).getLsbD m = if 64 - n ≤ o + m ∧ o + m < 64 then v.toBitVec.getLsbD (o + m - (64 - n)) else c.toBitVec.getLsbD m := by
  rw [Int64.toBitVec_or, Int64.toBitVec_and, Int64.toBitVec_xor, xrB _ ho, xrB _ ho, xlB _ (by omega), xlB _ (by omega), m1B]
  simp only [BitVec.getLsbD_or, BitVec.getLsbD_and, BitVec.getLsbD_xor, BitVec.getLsbD_ushiftRight, BitVec.getLsbD_shiftLeft, BitVec.getLsbD_allOnes]
  by_cases h1 : 64 - n ≤ o + m ∧ o + m < 64
  · rw [if_pos h1]
    have : o + m - (64 - n) < 64 := by omega
    simp [h1.2, show ¬ o + m < 64 - n by omega, hm, this]
  · rw [if_neg h1]
    by_cases h2 : o + m < 64
    · simp [h2, show o + m < 64 - n by omega, hm]
    · simp [h2, hm]
theorem pw2_b (c v : Int64) {o n m : Nat} (ho : o < 64) (ho1 : 1 ≤ o) (hn : n ≤ 64) (h64 : 64 < o + n) (hm : m < 64) : (((c &&& ((((-1 : Int64) <<< ((nI (64 - n)).toInt64 &&& 63)) <<< ((nI (64 - o)).toInt64 &&& 63)) ^^^ -1)) ||| ((v <<< ((nI (64 - n)).toInt64 &&& 63)) <<< ((nI (64 - o)).toInt64 &&& 63))).toBitVec).getLsbD m = if 128 - n - o ≤ m then v.toBitVec.getLsbD (m + o + n - 128) else c.toBitVec.getLsbD m := by
  rw [Int64.toBitVec_or, Int64.toBitVec_and, Int64.toBitVec_xor, xlB _ (by omega), xlB _ (by omega), xlB _ (by omega), xlB _ (by omega), m1B]
  simp only [BitVec.getLsbD_or, BitVec.getLsbD_and, BitVec.getLsbD_xor, BitVec.getLsbD_shiftLeft, BitVec.getLsbD_allOnes]
  by_cases h1 : 128 - n - o ≤ m
  · rw [if_pos h1]
    have e : m - (64 - o) - (64 - n) = m + o + n - 128 := by omega
    rw [e]
    have a1 : ¬ m < 64 - o := by omega
    have a2 : ¬ m - (64 - o) < 64 - n := by omega
    have a3 : m - (64 - o) < 64 := by omega
    have a4 : m + o + n - 128 < 64 := by omega
    simp [hm, a1, a2, a3, a4]
  · rw [if_neg h1]
    by_cases h2 : m < 64 - o
    · simp [hm, h2]
    · have a2 : m - (64 - o) < 64 - n := by omega
      simp [hm, h2, a2]
theorem bb_tb {n x i : Nat} (hi : i < n) : (bbits n x).getD i false = x.testBit (n - 1 - i) := by
  rw [bbits_get n x i hi, Nat.testBit_eq_decide_div_mod_eq]
  by_cases q : x / 2 ^ (n - 1 - i) % 2 = 1 <;> simp [q]
section MP
variable {sc : xm_Sc} {d a n : Nat} {v : Int64} {h : xm_H} {post : xm_Po}
theorem sp_mput (hF : XF h) (hn1 : 1 ≤ n) (hn : n ≤ 64) (ha : a + n ≤ 839680) (hp : ∀ h', Fr [33] [] h h' → mB h' = mc_wr (mB h) a (bbits n v.toBitVec.toNat) → post none h') : xm_T (XE sc) (d + 1) 86 [.ref 32, .int (nI a), .int (nI n), .long v] h post := by
  refine xq_in rfl ?_
  simp only [xq_a0, xq_aI, xq_aJ, xq_aR, Nat.reduceAdd]
  by_cases e : a % 64 + n ≤ 64
  · with_reducible refine xm_go_blk b_X4_put_0 k_X4_put_0 ?_
    refine by_iload_n rfl ?_
    refine by_iconst ci_1 ?_
    refine by_ic_lt 23 rfl ?_
    simp (disch := first | exact Nat.ne_of_beq_eq_false rfl | exact rfl | omega) only [nI_add, xa_sub, xa_mul, pk_div, nm_mod, xa_shr, xa_and7, xa_and1, xa_and255, xa_by_and, nI_m1, Nat.add_sub_cancel, Nat.reducePow, Nat.zero_add, Nat.add_zero, Nat.reduceAdd, Nat.reduceMul, Nat.reduceSub, xf_same, xq_ff, xq_fo, xf_1, xf_2, xs_1, xs_2, xs_same, xq_so, xj_1, xj_2, xj_same, xq_jo, xq_sa1, xq_same, xq_other, upd_s, oI_n, oI_s, xv_0, xv_1, xv_2, xv_3, xm_p1, xm_p2, xq_fp, xq_fn, List.filter_nil, Nat.reduceBEq, Bool.not_true, Bool.not_false, Bool.and_true, Bool.and_false, Bool.false_and, Bool.true_and, if_true, if_false, Bool.false_eq_true, reduceIte, xc_i, xc_j, xc_r, xc_n, List.nil_append, List.cons_append, Option.toList_some, Option.toList_none, nI_ltJ, nI_leJ, nI_eqJ, nI_ltz, nI_gez, nI_gtz, nI_lez, nI_eqz, m1_ltz, m1_gez, true_imp_iff, false_imp_iff, true_and, and_true, ne_eq, not_false_eq_true, not_true_eq_false, Nat.reduceEqDiff, Nat.reduceLT, Nat.reduceLeDiff, nm_63, xf_32_4 hF]
    refine ⟨fun c => absurd c (by omega), fun c0 => ?_⟩
    with_reducible refine xm_go_blk b_X4_put_5 k_X4_put_5 ?_
    refine by_iload_n rfl ?_
    refine by_bipush cb_64 ?_
    refine by_ic_gt 23 rfl ?_
    simp (disch := first | exact Nat.ne_of_beq_eq_false rfl | exact rfl | omega) only [nI_add, xa_sub, xa_mul, pk_div, nm_mod, xa_shr, xa_and7, xa_and1, xa_and255, xa_by_and, nI_m1, Nat.add_sub_cancel, Nat.reducePow, Nat.zero_add, Nat.add_zero, Nat.reduceAdd, Nat.reduceMul, Nat.reduceSub, xf_same, xq_ff, xq_fo, xf_1, xf_2, xs_1, xs_2, xs_same, xq_so, xj_1, xj_2, xj_same, xq_jo, xq_sa1, xq_same, xq_other, upd_s, oI_n, oI_s, xv_0, xv_1, xv_2, xv_3, xm_p1, xm_p2, xq_fp, xq_fn, List.filter_nil, Nat.reduceBEq, Bool.not_true, Bool.not_false, Bool.and_true, Bool.and_false, Bool.false_and, Bool.true_and, if_true, if_false, Bool.false_eq_true, reduceIte, xc_i, xc_j, xc_r, xc_n, List.nil_append, List.cons_append, Option.toList_some, Option.toList_none, nI_ltJ, nI_leJ, nI_eqJ, nI_ltz, nI_gez, nI_gtz, nI_lez, nI_eqz, m1_ltz, m1_gez, true_imp_iff, false_imp_iff, true_and, and_true, ne_eq, not_false_eq_true, not_true_eq_false, Nat.reduceEqDiff, Nat.reduceLT, Nat.reduceLeDiff, nm_63, xf_32_4 hF]
    refine ⟨fun c => absurd c (by omega), fun c5 => ?_⟩
    with_reducible refine xm_go_blk b_X4_put_11 k_X4_put_11 ?_
    refine by_iload_n rfl ?_
    refine by_if_lt 23 rfl ?_
    simp (disch := first | exact Nat.ne_of_beq_eq_false rfl | exact rfl | omega) only [nI_add, xa_sub, xa_mul, pk_div, nm_mod, xa_shr, xa_and7, xa_and1, xa_and255, xa_by_and, nI_m1, Nat.add_sub_cancel, Nat.reducePow, Nat.zero_add, Nat.add_zero, Nat.reduceAdd, Nat.reduceMul, Nat.reduceSub, xf_same, xq_ff, xq_fo, xf_1, xf_2, xs_1, xs_2, xs_same, xq_so, xj_1, xj_2, xj_same, xq_jo, xq_sa1, xq_same, xq_other, upd_s, oI_n, oI_s, xv_0, xv_1, xv_2, xv_3, xm_p1, xm_p2, xq_fp, xq_fn, List.filter_nil, Nat.reduceBEq, Bool.not_true, Bool.not_false, Bool.and_true, Bool.and_false, Bool.false_and, Bool.true_and, if_true, if_false, Bool.false_eq_true, reduceIte, xc_i, xc_j, xc_r, xc_n, List.nil_append, List.cons_append, Option.toList_some, Option.toList_none, nI_ltJ, nI_leJ, nI_eqJ, nI_ltz, nI_gez, nI_gtz, nI_lez, nI_eqz, m1_ltz, m1_gez, true_imp_iff, false_imp_iff, true_and, and_true, ne_eq, not_false_eq_true, not_true_eq_false, Nat.reduceEqDiff, Nat.reduceLT, Nat.reduceLeDiff, nm_63, xf_32_4 hF]
    with_reducible refine xm_go_blk b_X4_put_15 k_X4_put_15 ?_
    refine by_iload_n rfl ?_
    refine by_ldc (x := nI 839680) cn_86 ki_4_52 (by decide) ?_
    refine by_iload_n rfl ?_
    refine by_isub ?_
    refine by_ic_le 24 rfl ?_
    simp (disch := first | exact Nat.ne_of_beq_eq_false rfl | exact rfl | omega) only [nI_add, xa_sub, xa_mul, pk_div, nm_mod, xa_shr, xa_and7, xa_and1, xa_and255, xa_by_and, nI_m1, Nat.add_sub_cancel, Nat.reducePow, Nat.zero_add, Nat.add_zero, Nat.reduceAdd, Nat.reduceMul, Nat.reduceSub, xf_same, xq_ff, xq_fo, xf_1, xf_2, xs_1, xs_2, xs_same, xq_so, xj_1, xj_2, xj_same, xq_jo, xq_sa1, xq_same, xq_other, upd_s, oI_n, oI_s, xv_0, xv_1, xv_2, xv_3, xm_p1, xm_p2, xq_fp, xq_fn, List.filter_nil, Nat.reduceBEq, Bool.not_true, Bool.not_false, Bool.and_true, Bool.and_false, Bool.false_and, Bool.true_and, if_true, if_false, Bool.false_eq_true, reduceIte, xc_i, xc_j, xc_r, xc_n, List.nil_append, List.cons_append, Option.toList_some, Option.toList_none, nI_ltJ, nI_leJ, nI_eqJ, nI_ltz, nI_gez, nI_gtz, nI_lez, nI_eqz, m1_ltz, m1_gez, true_imp_iff, false_imp_iff, true_and, and_true, ne_eq, not_false_eq_true, not_true_eq_false, Nat.reduceEqDiff, Nat.reduceLT, Nat.reduceLeDiff, nm_63, xf_32_4 hF]
    refine ⟨fun c15 => ?_, fun c => absurd (by omega) c⟩
    with_reducible refine xm_go_blk b_X4_put_24 k_X4_put_24 ?_
    refine by_iload_n rfl ?_
    refine by_bipush cb_63 ?_
    refine by_iand ?_
    refine by_istore (by rw [ml_86]; decide) ?_
    refine by_ldc2 cn_86 kl_4_53 rfl ?_
    refine by_bipush cb_64 ?_
    refine by_iload_n rfl ?_
    refine by_isub ?_
    refine by_lshl ?_
    refine by_lstore (by rw [ml_86]; decide) ?_
    refine by_lload_n rfl ?_
    refine by_bipush cb_64 ?_
    refine by_iload_n rfl ?_
    refine by_isub ?_
    refine by_lshl ?_
    refine by_lstore (by rw [ml_86]; decide) ?_
    refine by_iload_n rfl ?_
    refine by_bipush cb_6 ?_
    refine by_ishr ?_
    refine by_istore (by rw [ml_86]; decide) ?_
    refine by_aload_n rfl ?_
    refine by_getf cn_86 fl_4_18 (by first | exact rfl | assumption) (by decide) ?_
    refine by_iload rfl ?_
    refine by_aload_n rfl ?_
    refine by_getf cn_86 fl_4_18 (by first | exact rfl | assumption) (by decide) ?_
    refine by_iload rfl ?_
    simp (disch := first | exact Nat.ne_of_beq_eq_false rfl | exact rfl | omega) only [nI_add, xa_sub, xa_mul, pk_div, nm_mod, xa_shr, xa_and7, xa_and1, xa_and255, xa_by_and, nI_m1, Nat.add_sub_cancel, Nat.reducePow, Nat.zero_add, Nat.add_zero, Nat.reduceAdd, Nat.reduceMul, Nat.reduceSub, xf_same, xq_ff, xq_fo, xf_1, xf_2, xs_1, xs_2, xs_same, xq_so, xj_1, xj_2, xj_same, xq_jo, xq_sa1, xq_same, xq_other, upd_s, oI_n, oI_s, nm_63, xf_32_4 hF]
    first | refine by_lald (by first | exact rfl | assumption) ⟨by omega, by omega⟩ ?_ | refine by_tlald rfl rfl ⟨by omega, by omega⟩ ?_
    refine by_lload rfl ?_
    refine by_iload rfl ?_
    refine by_lushr ?_
    refine by_ldc2 cn_86 kl_4_53 rfl ?_
    refine by_lxor ?_
    refine by_land ?_
    refine by_lload rfl ?_
    refine by_iload rfl ?_
    refine by_lushr ?_
    refine by_lor ?_
    refine by_last (by first | exact rfl | assumption) ⟨by omega, by omega⟩ ?_
    refine by_iload rfl ?_
    refine by_iload_n rfl ?_
    refine by_iadd ?_
    refine by_bipush cb_64 ?_
    refine by_ic_le 133 rfl ?_
    simp (disch := first | exact Nat.ne_of_beq_eq_false rfl | exact rfl | omega) only [nI_add, xa_sub, xa_mul, pk_div, nm_mod, xa_shr, xa_and7, xa_and1, xa_and255, xa_by_and, nI_m1, Nat.add_sub_cancel, Nat.reducePow, Nat.zero_add, Nat.add_zero, Nat.reduceAdd, Nat.reduceMul, Nat.reduceSub, xf_same, xq_ff, xq_fo, xf_1, xf_2, xs_1, xs_2, xs_same, xq_so, xj_1, xj_2, xj_same, xq_jo, xq_sa1, xq_same, xq_other, upd_s, oI_n, oI_s, xv_0, xv_1, xv_2, xv_3, xm_p1, xm_p2, xq_fp, xq_fn, List.filter_nil, Nat.reduceBEq, Bool.not_true, Bool.not_false, Bool.and_true, Bool.and_false, Bool.false_and, Bool.true_and, if_true, if_false, Bool.false_eq_true, reduceIte, xc_i, xc_j, xc_r, xc_n, List.nil_append, List.cons_append, Option.toList_some, Option.toList_none, nI_ltJ, nI_leJ, nI_eqJ, nI_ltz, nI_gez, nI_gtz, nI_lez, nI_eqz, m1_ltz, m1_gez, true_imp_iff, false_imp_iff, true_and, and_true, ne_eq, not_false_eq_true, not_true_eq_false, Nat.reduceEqDiff, Nat.reduceLT, Nat.reduceLeDiff, nm_63, xf_32_4 hF]
    refine ⟨fun c24 => ?_, fun c => absurd (by omega) c⟩
    with_reducible refine xm_go_blk b_X4_put_133 k_X4_put_133 ?_
    refine by_ret ry_86 ?_
    refine hp _ (Fr_sl Fr_rf (by simp)) ?_
    funext I
    unfold mc_wr
    rw [bbits_len]
    have hb := fun m hm => pw1_b (h.2.1 33 (a / 64)) v (o := a % 64) (n := n) (m := m) (by omega) hn1 hn hm
    unfold mB
    rw [cN_b, cN_b]
    by_cases e1 : I / 64 = a / 64
    · simp only [xm_sl, vp_updL, e1, if_true]
      rw [hb _ (by omega)]
      by_cases e2 : a ≤ I ∧ I < a + n
      · rw [if_pos (by omega), if_pos e2, bb_tb (by omega), show n - 1 - (I - a) = a % 64 + (63 - I % 64) - (64 - n) by omega]
        rfl
      · rw [if_neg (by omega), if_neg e2]
    · rw [if_neg (by omega)]
      simp only [xm_sl, vp_updL, if_true, if_neg e1]
  · with_reducible refine xm_go_blk b_X4_put_0 k_X4_put_0 ?_
    refine by_iload_n rfl ?_
    refine by_iconst ci_1 ?_
    refine by_ic_lt 23 rfl ?_
    simp (disch := first | exact Nat.ne_of_beq_eq_false rfl | exact rfl | omega) only [nI_add, xa_sub, xa_mul, pk_div, nm_mod, xa_shr, xa_and7, xa_and1, xa_and255, xa_by_and, nI_m1, Nat.add_sub_cancel, Nat.reducePow, Nat.zero_add, Nat.add_zero, Nat.reduceAdd, Nat.reduceMul, Nat.reduceSub, xf_same, xq_ff, xq_fo, xf_1, xf_2, xs_1, xs_2, xs_same, xq_so, xj_1, xj_2, xj_same, xq_jo, xq_sa1, xq_same, xq_other, upd_s, oI_n, oI_s, xv_0, xv_1, xv_2, xv_3, xm_p1, xm_p2, xq_fp, xq_fn, List.filter_nil, Nat.reduceBEq, Bool.not_true, Bool.not_false, Bool.and_true, Bool.and_false, Bool.false_and, Bool.true_and, if_true, if_false, Bool.false_eq_true, reduceIte, xc_i, xc_j, xc_r, xc_n, List.nil_append, List.cons_append, Option.toList_some, Option.toList_none, nI_ltJ, nI_leJ, nI_eqJ, nI_ltz, nI_gez, nI_gtz, nI_lez, nI_eqz, m1_ltz, m1_gez, true_imp_iff, false_imp_iff, true_and, and_true, ne_eq, not_false_eq_true, not_true_eq_false, Nat.reduceEqDiff, Nat.reduceLT, Nat.reduceLeDiff, nm_63, xf_32_4 hF]
    refine ⟨fun c => absurd c (by omega), fun c0 => ?_⟩
    with_reducible refine xm_go_blk b_X4_put_5 k_X4_put_5 ?_
    refine by_iload_n rfl ?_
    refine by_bipush cb_64 ?_
    refine by_ic_gt 23 rfl ?_
    simp (disch := first | exact Nat.ne_of_beq_eq_false rfl | exact rfl | omega) only [nI_add, xa_sub, xa_mul, pk_div, nm_mod, xa_shr, xa_and7, xa_and1, xa_and255, xa_by_and, nI_m1, Nat.add_sub_cancel, Nat.reducePow, Nat.zero_add, Nat.add_zero, Nat.reduceAdd, Nat.reduceMul, Nat.reduceSub, xf_same, xq_ff, xq_fo, xf_1, xf_2, xs_1, xs_2, xs_same, xq_so, xj_1, xj_2, xj_same, xq_jo, xq_sa1, xq_same, xq_other, upd_s, oI_n, oI_s, xv_0, xv_1, xv_2, xv_3, xm_p1, xm_p2, xq_fp, xq_fn, List.filter_nil, Nat.reduceBEq, Bool.not_true, Bool.not_false, Bool.and_true, Bool.and_false, Bool.false_and, Bool.true_and, if_true, if_false, Bool.false_eq_true, reduceIte, xc_i, xc_j, xc_r, xc_n, List.nil_append, List.cons_append, Option.toList_some, Option.toList_none, nI_ltJ, nI_leJ, nI_eqJ, nI_ltz, nI_gez, nI_gtz, nI_lez, nI_eqz, m1_ltz, m1_gez, true_imp_iff, false_imp_iff, true_and, and_true, ne_eq, not_false_eq_true, not_true_eq_false, Nat.reduceEqDiff, Nat.reduceLT, Nat.reduceLeDiff, nm_63, xf_32_4 hF]
    refine ⟨fun c => absurd c (by omega), fun c5 => ?_⟩
    with_reducible refine xm_go_blk b_X4_put_11 k_X4_put_11 ?_
    refine by_iload_n rfl ?_
    refine by_if_lt 23 rfl ?_
    simp (disch := first | exact Nat.ne_of_beq_eq_false rfl | exact rfl | omega) only [nI_add, xa_sub, xa_mul, pk_div, nm_mod, xa_shr, xa_and7, xa_and1, xa_and255, xa_by_and, nI_m1, Nat.add_sub_cancel, Nat.reducePow, Nat.zero_add, Nat.add_zero, Nat.reduceAdd, Nat.reduceMul, Nat.reduceSub, xf_same, xq_ff, xq_fo, xf_1, xf_2, xs_1, xs_2, xs_same, xq_so, xj_1, xj_2, xj_same, xq_jo, xq_sa1, xq_same, xq_other, upd_s, oI_n, oI_s, xv_0, xv_1, xv_2, xv_3, xm_p1, xm_p2, xq_fp, xq_fn, List.filter_nil, Nat.reduceBEq, Bool.not_true, Bool.not_false, Bool.and_true, Bool.and_false, Bool.false_and, Bool.true_and, if_true, if_false, Bool.false_eq_true, reduceIte, xc_i, xc_j, xc_r, xc_n, List.nil_append, List.cons_append, Option.toList_some, Option.toList_none, nI_ltJ, nI_leJ, nI_eqJ, nI_ltz, nI_gez, nI_gtz, nI_lez, nI_eqz, m1_ltz, m1_gez, true_imp_iff, false_imp_iff, true_and, and_true, ne_eq, not_false_eq_true, not_true_eq_false, Nat.reduceEqDiff, Nat.reduceLT, Nat.reduceLeDiff, nm_63, xf_32_4 hF]
    with_reducible refine xm_go_blk b_X4_put_15 k_X4_put_15 ?_
    refine by_iload_n rfl ?_
    refine by_ldc (x := nI 839680) cn_86 ki_4_52 (by decide) ?_
    refine by_iload_n rfl ?_
    refine by_isub ?_
    refine by_ic_le 24 rfl ?_
    simp (disch := first | exact Nat.ne_of_beq_eq_false rfl | exact rfl | omega) only [nI_add, xa_sub, xa_mul, pk_div, nm_mod, xa_shr, xa_and7, xa_and1, xa_and255, xa_by_and, nI_m1, Nat.add_sub_cancel, Nat.reducePow, Nat.zero_add, Nat.add_zero, Nat.reduceAdd, Nat.reduceMul, Nat.reduceSub, xf_same, xq_ff, xq_fo, xf_1, xf_2, xs_1, xs_2, xs_same, xq_so, xj_1, xj_2, xj_same, xq_jo, xq_sa1, xq_same, xq_other, upd_s, oI_n, oI_s, xv_0, xv_1, xv_2, xv_3, xm_p1, xm_p2, xq_fp, xq_fn, List.filter_nil, Nat.reduceBEq, Bool.not_true, Bool.not_false, Bool.and_true, Bool.and_false, Bool.false_and, Bool.true_and, if_true, if_false, Bool.false_eq_true, reduceIte, xc_i, xc_j, xc_r, xc_n, List.nil_append, List.cons_append, Option.toList_some, Option.toList_none, nI_ltJ, nI_leJ, nI_eqJ, nI_ltz, nI_gez, nI_gtz, nI_lez, nI_eqz, m1_ltz, m1_gez, true_imp_iff, false_imp_iff, true_and, and_true, ne_eq, not_false_eq_true, not_true_eq_false, Nat.reduceEqDiff, Nat.reduceLT, Nat.reduceLeDiff, nm_63, xf_32_4 hF]
    refine ⟨fun c15 => ?_, fun c => absurd (by omega) c⟩
    with_reducible refine xm_go_blk b_X4_put_24 k_X4_put_24 ?_
    refine by_iload_n rfl ?_
    refine by_bipush cb_63 ?_
    refine by_iand ?_
    refine by_istore (by rw [ml_86]; decide) ?_
    refine by_ldc2 cn_86 kl_4_53 rfl ?_
    refine by_bipush cb_64 ?_
    refine by_iload_n rfl ?_
    refine by_isub ?_
    refine by_lshl ?_
    refine by_lstore (by rw [ml_86]; decide) ?_
    refine by_lload_n rfl ?_
    refine by_bipush cb_64 ?_
    refine by_iload_n rfl ?_
    refine by_isub ?_
    refine by_lshl ?_
    refine by_lstore (by rw [ml_86]; decide) ?_
    refine by_iload_n rfl ?_
    refine by_bipush cb_6 ?_
    refine by_ishr ?_
    refine by_istore (by rw [ml_86]; decide) ?_
    refine by_aload_n rfl ?_
    refine by_getf cn_86 fl_4_18 (by first | exact rfl | assumption) (by decide) ?_
    refine by_iload rfl ?_
    refine by_aload_n rfl ?_
    refine by_getf cn_86 fl_4_18 (by first | exact rfl | assumption) (by decide) ?_
    refine by_iload rfl ?_
    simp (disch := first | exact Nat.ne_of_beq_eq_false rfl | exact rfl | omega) only [nI_add, xa_sub, xa_mul, pk_div, nm_mod, xa_shr, xa_and7, xa_and1, xa_and255, xa_by_and, nI_m1, Nat.add_sub_cancel, Nat.reducePow, Nat.zero_add, Nat.add_zero, Nat.reduceAdd, Nat.reduceMul, Nat.reduceSub, xf_same, xq_ff, xq_fo, xf_1, xf_2, xs_1, xs_2, xs_same, xq_so, xj_1, xj_2, xj_same, xq_jo, xq_sa1, xq_same, xq_other, upd_s, oI_n, oI_s, nm_63, xf_32_4 hF]
    first | refine by_lald (by first | exact rfl | assumption) ⟨by omega, by omega⟩ ?_ | refine by_tlald rfl rfl ⟨by omega, by omega⟩ ?_
    refine by_lload rfl ?_
    refine by_iload rfl ?_
    refine by_lushr ?_
    refine by_ldc2 cn_86 kl_4_53 rfl ?_
    refine by_lxor ?_
    refine by_land ?_
    refine by_lload rfl ?_
    refine by_iload rfl ?_
    refine by_lushr ?_
    refine by_lor ?_
    refine by_last (by first | exact rfl | assumption) ⟨by omega, by omega⟩ ?_
    refine by_iload rfl ?_
    refine by_iload_n rfl ?_
    refine by_iadd ?_
    refine by_bipush cb_64 ?_
    refine by_ic_le 133 rfl ?_
    simp (disch := first | exact Nat.ne_of_beq_eq_false rfl | exact rfl | omega) only [nI_add, xa_sub, xa_mul, pk_div, nm_mod, xa_shr, xa_and7, xa_and1, xa_and255, xa_by_and, nI_m1, Nat.add_sub_cancel, Nat.reducePow, Nat.zero_add, Nat.add_zero, Nat.reduceAdd, Nat.reduceMul, Nat.reduceSub, xf_same, xq_ff, xq_fo, xf_1, xf_2, xs_1, xs_2, xs_same, xq_so, xj_1, xj_2, xj_same, xq_jo, xq_sa1, xq_same, xq_other, upd_s, oI_n, oI_s, xv_0, xv_1, xv_2, xv_3, xm_p1, xm_p2, xq_fp, xq_fn, List.filter_nil, Nat.reduceBEq, Bool.not_true, Bool.not_false, Bool.and_true, Bool.and_false, Bool.false_and, Bool.true_and, if_true, if_false, Bool.false_eq_true, reduceIte, xc_i, xc_j, xc_r, xc_n, List.nil_append, List.cons_append, Option.toList_some, Option.toList_none, nI_ltJ, nI_leJ, nI_eqJ, nI_ltz, nI_gez, nI_gtz, nI_lez, nI_eqz, m1_ltz, m1_gez, true_imp_iff, false_imp_iff, true_and, and_true, ne_eq, not_false_eq_true, not_true_eq_false, Nat.reduceEqDiff, Nat.reduceLT, Nat.reduceLeDiff, nm_63, xf_32_4 hF]
    refine ⟨fun c => absurd c (by omega), fun c24 => ?_⟩
    with_reducible refine xm_go_blk b_X4_put_93 k_X4_put_93 ?_
    refine by_aload_n rfl ?_
    refine by_getf cn_86 fl_4_18 (by first | exact rfl | assumption) (by decide) ?_
    refine by_iload rfl ?_
    refine by_iconst ci_1 ?_
    refine by_iadd ?_
    refine by_aload_n rfl ?_
    refine by_getf cn_86 fl_4_18 (by first | exact rfl | assumption) (by decide) ?_
    refine by_iload rfl ?_
    refine by_iconst ci_1 ?_
    refine by_iadd ?_
    simp (disch := first | exact Nat.ne_of_beq_eq_false rfl | exact rfl | omega) only [nI_add, xa_sub, xa_mul, pk_div, nm_mod, xa_shr, xa_and7, xa_and1, xa_and255, xa_by_and, nI_m1, Nat.add_sub_cancel, Nat.reducePow, Nat.zero_add, Nat.add_zero, Nat.reduceAdd, Nat.reduceMul, Nat.reduceSub, xf_same, xq_ff, xq_fo, xf_1, xf_2, xs_1, xs_2, xs_same, xq_so, xj_1, xj_2, xj_same, xq_jo, xq_sa1, xq_same, xq_other, upd_s, oI_n, oI_s, nm_63, xf_32_4 hF]
    first | refine by_lald (by first | exact rfl | assumption) ⟨by omega, by omega⟩ ?_ | refine by_tlald rfl rfl ⟨by omega, by omega⟩ ?_
    refine by_lload rfl ?_
    refine by_bipush cb_64 ?_
    refine by_iload rfl ?_
    refine by_isub ?_
    refine by_lshl ?_
    refine by_ldc2 cn_86 kl_4_53 rfl ?_
    refine by_lxor ?_
    refine by_land ?_
    refine by_lload rfl ?_
    refine by_bipush cb_64 ?_
    refine by_iload rfl ?_
    refine by_isub ?_
    refine by_lshl ?_
    refine by_lor ?_
    refine by_last (by first | exact rfl | assumption) ⟨by omega, by omega⟩ ?_
    refine by_nil ?_
    try simp (disch := first | exact Nat.ne_of_beq_eq_false rfl | exact rfl | omega) only [nI_add, xa_sub, xa_mul, pk_div, nm_mod, xa_shr, xa_and7, xa_and1, xa_and255, xa_by_and, nI_m1, Nat.add_sub_cancel, Nat.reducePow, Nat.zero_add, Nat.add_zero, Nat.reduceAdd, Nat.reduceMul, Nat.reduceSub, xf_same, xq_ff, xq_fo, xf_1, xf_2, xs_1, xs_2, xs_same, xq_so, xj_1, xj_2, xj_same, xq_jo, xq_sa1, xq_same, xq_other, upd_s, oI_n, oI_s, xv_0, xv_1, xv_2, xv_3, xm_p1, xm_p2, xq_fp, xq_fn, List.filter_nil, Nat.reduceBEq, Bool.not_true, Bool.not_false, Bool.and_true, Bool.and_false, Bool.false_and, Bool.true_and, if_true, if_false, Bool.false_eq_true, reduceIte, xc_i, xc_j, xc_r, xc_n, List.nil_append, List.cons_append, Option.toList_some, Option.toList_none, nm_63, xf_32_4 hF]
    with_reducible refine xm_go_blk b_X4_put_133 k_X4_put_133 ?_
    refine by_ret ry_86 ?_
    refine hp _ (Fr_sl (Fr_sl Fr_rf (by simp)) (by simp)) ?_
    funext I
    unfold mc_wr
    rw [bbits_len]
    have hb := fun m hm => pw1_b (h.2.1 33 (a / 64)) v (o := a % 64) (n := n) (m := m) (by omega) hn1 hn hm
    have hb2 := fun m hm => pw2_b (h.2.1 33 (a / 64 + 1)) v (o := a % 64) (n := n) (m := m) (by omega) (by omega) hn (by omega) hm
    unfold mB
    rw [cN_b, cN_b]
    by_cases e1 : I / 64 = a / 64
    · have e3 : ¬ a / 64 = a / 64 + 1 := by omega
      simp only [xm_sl, vp_updL, e1, if_true, if_neg e3]
      rw [hb _ (by omega)]
      by_cases e2 : a ≤ I ∧ I < a + n
      · rw [if_pos (by omega), if_pos e2, bb_tb (by omega), show n - 1 - (I - a) = a % 64 + (63 - I % 64) - (64 - n) by omega]
        rfl
      · rw [if_neg (by omega), if_neg e2]
    · by_cases e4 : I / 64 = a / 64 + 1
      · have e5 : ¬ a / 64 + 1 = a / 64 := by omega
        simp only [xm_sl, vp_updL, e4, if_true, if_neg e5]
        rw [hb2 _ (by omega)]
        by_cases e2 : a ≤ I ∧ I < a + n
        · rw [if_pos (by omega), if_pos e2, bb_tb (by omega), show n - 1 - (I - a) = 63 - I % 64 + a % 64 + n - 128 by omega]
          rfl
        · rw [if_neg (by omega), if_neg e2]
      · rw [if_neg (by omega)]
        simp only [xm_sl, vp_updL, if_true, if_neg e1, if_neg e4]
end MP
