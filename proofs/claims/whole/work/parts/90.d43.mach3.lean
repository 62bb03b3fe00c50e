/-! ===== the machine: copyCells, clearCells, copyWitness, await ===== -/
theorem mc_wr_app (B : Nat → Bool) (t : Nat) (a b : List Bool) : mc_wr (mc_wr B t a) (t + a.length) b = mc_wr B t (a ++ b) := by
  funext i
  unfold mc_wr
  rw [List.length_append]
  by_cases h1 : t + a.length ≤ i ∧ i < t + a.length + b.length
  · rw [if_pos h1, if_pos (by omega), gd_r (by omega), show i - t - a.length = i - (t + a.length) by omega]
  · rw [if_neg h1]
    by_cases h2 : t ≤ i ∧ i < t + a.length
    · rw [if_pos h2, if_pos (by omega), gd_l (by omega)]
    · rw [if_neg h2, if_neg (by omega)]
theorem mc_n_congr {B C : Nat → Bool} {p q w : Nat} (h : ∀ i, i < w → B (p + i) = C (q + i)) : mc_n B p w = mc_n C q w := by
  unfold mc_n; rw [mc_rd_congr h]
theorem mc_n_tn {B : Nat → Bool} {p w : Nat} (hw : w ≤ 64) : (lN (mc_n B p w)).toBitVec.toNat = mc_n B p w := wb_tn (Nat.lt_of_lt_of_le (mc_n_lt B p w) (Nat.pow_le_pow_right (by decide) hw))
section MC
variable {sc : xm_Sc} {d n f t : Nat} {h : xm_H} {post : xm_Po}
theorem sp_copyCells (hF : XF h) (h12 : h.2.2 32 12 = .int (nI f)) (h13 : h.2.2 32 13 = .int (nI t)) (hf : f + n ≤ 839680) (ht : t + n ≤ 839680) (hd : f + n ≤ t ∨ t + n ≤ f)
    (hp : ∀ h', Fr [33] [] h h' → mB h' = mc_wr (mB h) t (mc_rd (mB h) f n) → post none h') : xm_T (XE sc) (d + 2) 79 [.ref 32, .int (nI n)] h post := by
  have key : ∀ (j k : Nat) (h2 : xm_H), k + j = (n + 63) / 64 → Fr [33] [] h h2 → mB h2 = mc_wr (mB h) t (mc_rd (mB h) f (min (64 * k) n)) → xm_go (XE sc) (xm_T (XE sc) (d + 1)) 79 post 2 [(2, .int (nI (64 * k))), (0, .ref 32), (1, .int (nI n))] [] h2 := by
    intro j
    induction j with
    | zero =>
      intro k h2 hk f2 r2
      with_reducible refine xm_go_blk b_X4_copyCells_2 k_X4_copyCells_2 ?_
      refine by_iload_n rfl ?_
      refine by_iload_n rfl ?_
      refine by_ic_ge 52 rfl ?_
      simp (disch := first | exact Nat.ne_of_beq_eq_false rfl | exact rfl | omega) only [nI_add, xa_sub, xa_mul, pk_div, nm_mod, xa_shr, xa_and7, xa_and1, xa_and255, xa_by_and, nI_m1, Nat.add_sub_cancel, Nat.reducePow, Nat.zero_add, Nat.add_zero, Nat.reduceAdd, Nat.reduceMul, Nat.reduceSub, xf_same, xq_ff, xq_fo, xf_1, xf_2, xs_1, xs_2, xs_same, xq_so, xj_1, xj_2, xj_same, xq_jo, xq_sa1, xq_same, xq_other, upd_s, oI_n, oI_s, xv_0, xv_1, xv_2, xv_3, xm_p1, xm_p2, xq_fp, xq_fn, List.filter_nil, Nat.reduceBEq, Bool.not_true, Bool.not_false, Bool.and_true, Bool.and_false, Bool.false_and, Bool.true_and, if_true, if_false, Bool.false_eq_true, reduceIte, xc_i, xc_j, xc_r, xc_n, List.nil_append, List.cons_append, Option.toList_some, Option.toList_none, nI_ltJ, nI_leJ, nI_eqJ, nI_ltz, nI_gez, nI_gtz, nI_lez, nI_eqz, m1_ltz, m1_gez, true_imp_iff, false_imp_iff, true_and, and_true, ne_eq, not_false_eq_true, not_true_eq_false, Nat.reduceEqDiff, Nat.reduceLT, Nat.reduceLeDiff]
      refine ⟨fun c2 => ?_, fun c => absurd (by omega) c⟩
      with_reducible refine xm_go_blk b_X4_copyCells_52 k_X4_copyCells_52 ?_
      refine by_ret ry_79 ?_
      rw [Nat.min_eq_right (by omega)] at r2
      exact hp h2 f2 r2
    | succ j ih =>
      intro k h2 hk f2 r2
      have F2 := Fr_XF hF f2 (by decide +kernel)
      have e12 : h2.2.2 32 12 = .int (nI f) := by rw [f2.2.2 _ _ (by simp)]; exact h12
      have e13 : h2.2.2 32 13 = .int (nI t) := by rw [f2.2.2 _ _ (by simp)]; exact h13
      rw [Nat.min_eq_left (by omega)] at r2
      have step : ∀ s, s = min (n - 64 * k) 64 → xm_go (XE sc) (xm_T (XE sc) (d + 1)) 79 post 23 [(2, .int (nI (64 * k))), (0, .ref 32), (1, .int (nI n))] [.int (nI s)] h2 := by
        intro s hs
        have s1 : 1 ≤ s := by omega
        have s2 : s ≤ 64 := by omega
        with_reducible refine xm_go_blk b_X4_copyCells_23 k_X4_copyCells_23 ?_
        refine by_istore_n (by rw [ml_79]; decide) ?_
        refine by_aload_n rfl ?_
        refine by_aload_n rfl ?_
        refine by_getf cn_79 fl_4_55 (by first | exact rfl | assumption) (by decide) ?_
        refine by_iload_n rfl ?_
        simp (disch := first | exact Nat.ne_of_beq_eq_false rfl | exact rfl | omega) only [nI_add, xa_sub, xa_mul, pk_div, nm_mod, xa_shr, xa_and7, xa_and1, xa_and255, xa_by_and, nI_m1, Nat.add_sub_cancel, Nat.reducePow, Nat.zero_add, Nat.add_zero, Nat.reduceAdd, Nat.reduceMul, Nat.reduceSub, xf_same, xq_ff, xq_fo, xf_1, xf_2, xs_1, xs_2, xs_same, xq_so, xj_1, xj_2, xj_same, xq_jo, xq_sa1, xq_same, xq_other, upd_s, oI_n, oI_s, e12, e13]
        refine by_iadd ?_
        refine by_iload_n rfl ?_
        refine by_aload_n rfl ?_
        refine by_aload_n rfl ?_
        refine by_getf cn_79 fl_4_59 (by first | exact rfl | assumption) (by decide) ?_
        refine by_iload_n rfl ?_
        simp (disch := first | exact Nat.ne_of_beq_eq_false rfl | exact rfl | omega) only [nI_add, xa_sub, xa_mul, pk_div, nm_mod, xa_shr, xa_and7, xa_and1, xa_and255, xa_by_and, nI_m1, Nat.add_sub_cancel, Nat.reducePow, Nat.zero_add, Nat.add_zero, Nat.reduceAdd, Nat.reduceMul, Nat.reduceSub, xf_same, xq_ff, xq_fo, xf_1, xf_2, xs_1, xs_2, xs_same, xq_so, xj_1, xj_2, xj_same, xq_jo, xq_sa1, xq_same, xq_other, upd_s, oI_n, oI_s, e12, e13]
        refine by_iadd ?_
        refine by_iload_n rfl ?_
        simp (disch := first | exact Nat.ne_of_beq_eq_false rfl | exact rfl | omega) only [nI_add, xa_sub, xa_mul, pk_div, nm_mod, xa_shr, xa_and7, xa_and1, xa_and255, xa_by_and, nI_m1, Nat.add_sub_cancel, Nat.reducePow, Nat.zero_add, Nat.add_zero, Nat.reduceAdd, Nat.reduceMul, Nat.reduceSub, xf_same, xq_ff, xq_fo, xf_1, xf_2, xs_1, xs_2, xs_same, xq_so, xj_1, xj_2, xj_same, xq_jo, xq_sa1, xq_same, xq_other, upd_s, oI_n, oI_s, xv_0, xv_1, xv_2, xv_3, xm_p1, xm_p2, xq_fp, xq_fn, List.filter_nil, Nat.reduceBEq, Bool.not_true, Bool.not_false, Bool.and_true, Bool.and_false, Bool.false_and, Bool.true_and, if_true, if_false, Bool.false_eq_true, reduceIte, xc_i, xc_j, xc_r, xc_n, List.nil_append, List.cons_append, Option.toList_some, Option.toList_none, e12, e13]
        refine by_inv2 cn_79 lk_4_62 (by rw [xe_cnt]; decide) is_83 np_83 cn_83 (by first | exact rfl | assumption) (Nat.le_of_ble_eq_true rfl) ?_
        refine sp_get F2 s1 s2 (by omega) ?_
        have eg : mc_n (mB h2) (f + 64 * k) s = mc_n (mB h) (f + 64 * k) s := mc_n_congr (fun i hi => by rw [r2]; exact mc_wr_out (by rw [mc_rd_len]; omega))
        rw [eg]
        with_reducible refine xm_go_blk b_X4_copyCells_43 k_X4_copyCells_43 ?_
        refine by_inv3 cn_79 lk_4_66 (by rw [xe_cnt]; decide) is_86 np_86 cn_86 (by first | exact rfl | assumption) (Nat.le_of_ble_eq_true rfl) ?_
        refine sp_mput F2 s1 s2 (by omega) (fun h3 f3 b3 => ?_)
        rw [mc_n_tn s2, ← mc_rd_n, r2] at b3
        with_reducible refine xm_go_blk b_X4_copyCells_46 k_X4_copyCells_46 ?_
        refine by_iinc (by rw [ml_79]; decide) rfl (by decide : Int32.ofInt (64) = nI 64) ?_
        refine by_goto 2 rfl ?_
        try simp (disch := first | exact Nat.ne_of_beq_eq_false rfl | exact rfl | omega) only [nI_add, xa_sub, xa_mul, pk_div, nm_mod, xa_shr, xa_and7, xa_and1, xa_and255, xa_by_and, nI_m1, Nat.add_sub_cancel, Nat.reducePow, Nat.zero_add, Nat.add_zero, Nat.reduceAdd, Nat.reduceMul, Nat.reduceSub, xf_same, xq_ff, xq_fo, xf_1, xf_2, xs_1, xs_2, xs_same, xq_so, xj_1, xj_2, xj_same, xq_jo, xq_sa1, xq_same, xq_other, upd_s, oI_n, oI_s, xv_0, xv_1, xv_2, xv_3, xm_p1, xm_p2, xq_fp, xq_fn, List.filter_nil, Nat.reduceBEq, Bool.not_true, Bool.not_false, Bool.and_true, Bool.and_false, Bool.false_and, Bool.true_and, if_true, if_false, Bool.false_eq_true, reduceIte, xc_i, xc_j, xc_r, xc_n, List.nil_append, List.cons_append, Option.toList_some, Option.toList_none]
        refine xm_go_wk (by simp [Value.category, Nat.mul_add]) (ih (k + 1) h3 (by omega) (Fr_tr f2 f3 (fun _ z => z) (fun _ z => z)) ?_)
        have ea := mc_wr_app (mB h) t (mc_rd (mB h) f (64 * k)) (mc_rd (mB h) (f + 64 * k) s)
        rw [mc_rd_len] at ea
        rw [b3, ea, ← mc_rd_add, show min (64 * (k + 1)) n = 64 * k + s by omega]
      by_cases e : n - 64 * k < 64
      · with_reducible refine xm_go_blk b_X4_copyCells_2 k_X4_copyCells_2 ?_
        refine by_iload_n rfl ?_
        refine by_iload_n rfl ?_
        refine by_ic_ge 52 rfl ?_
        simp (disch := first | exact Nat.ne_of_beq_eq_false rfl | exact rfl | omega) only [nI_add, xa_sub, xa_mul, pk_div, nm_mod, xa_shr, xa_and7, xa_and1, xa_and255, xa_by_and, nI_m1, Nat.add_sub_cancel, Nat.reducePow, Nat.zero_add, Nat.add_zero, Nat.reduceAdd, Nat.reduceMul, Nat.reduceSub, xf_same, xq_ff, xq_fo, xf_1, xf_2, xs_1, xs_2, xs_same, xq_so, xj_1, xj_2, xj_same, xq_jo, xq_sa1, xq_same, xq_other, upd_s, oI_n, oI_s, xv_0, xv_1, xv_2, xv_3, xm_p1, xm_p2, xq_fp, xq_fn, List.filter_nil, Nat.reduceBEq, Bool.not_true, Bool.not_false, Bool.and_true, Bool.and_false, Bool.false_and, Bool.true_and, if_true, if_false, Bool.false_eq_true, reduceIte, xc_i, xc_j, xc_r, xc_n, List.nil_append, List.cons_append, Option.toList_some, Option.toList_none, nI_ltJ, nI_leJ, nI_eqJ, nI_ltz, nI_gez, nI_gtz, nI_lez, nI_eqz, m1_ltz, m1_gez, true_imp_iff, false_imp_iff, true_and, and_true, ne_eq, not_false_eq_true, not_true_eq_false, Nat.reduceEqDiff, Nat.reduceLT, Nat.reduceLeDiff]
        refine ⟨fun c => absurd c (by omega), fun c2 => ?_⟩
        with_reducible refine xm_go_blk b_X4_copyCells_7 k_X4_copyCells_7 ?_
        refine by_iload_n rfl ?_
        refine by_iload_n rfl ?_
        refine by_isub ?_
        refine by_bipush cb_64 ?_
        refine by_ic_ge 21 rfl ?_
        simp (disch := first | exact Nat.ne_of_beq_eq_false rfl | exact rfl | omega) only [nI_add, xa_sub, xa_mul, pk_div, nm_mod, xa_shr, xa_and7, xa_and1, xa_and255, xa_by_and, nI_m1, Nat.add_sub_cancel, Nat.reducePow, Nat.zero_add, Nat.add_zero, Nat.reduceAdd, Nat.reduceMul, Nat.reduceSub, xf_same, xq_ff, xq_fo, xf_1, xf_2, xs_1, xs_2, xs_same, xq_so, xj_1, xj_2, xj_same, xq_jo, xq_sa1, xq_same, xq_other, upd_s, oI_n, oI_s, xv_0, xv_1, xv_2, xv_3, xm_p1, xm_p2, xq_fp, xq_fn, List.filter_nil, Nat.reduceBEq, Bool.not_true, Bool.not_false, Bool.and_true, Bool.and_false, Bool.false_and, Bool.true_and, if_true, if_false, Bool.false_eq_true, reduceIte, xc_i, xc_j, xc_r, xc_n, List.nil_append, List.cons_append, Option.toList_some, Option.toList_none, nI_ltJ, nI_leJ, nI_eqJ, nI_ltz, nI_gez, nI_gtz, nI_lez, nI_eqz, m1_ltz, m1_gez, true_imp_iff, false_imp_iff, true_and, and_true, ne_eq, not_false_eq_true, not_true_eq_false, Nat.reduceEqDiff, Nat.reduceLT, Nat.reduceLeDiff]
        refine ⟨fun c => absurd c (by omega), fun c7 => ?_⟩
        with_reducible refine xm_go_blk b_X4_copyCells_15 k_X4_copyCells_15 ?_
        refine by_iload_n rfl ?_
        refine by_iload_n rfl ?_
        refine by_isub ?_
        refine by_goto 23 rfl ?_
        try simp (disch := first | exact Nat.ne_of_beq_eq_false rfl | exact rfl | omega) only [nI_add, xa_sub, xa_mul, pk_div, nm_mod, xa_shr, xa_and7, xa_and1, xa_and255, xa_by_and, nI_m1, Nat.add_sub_cancel, Nat.reducePow, Nat.zero_add, Nat.add_zero, Nat.reduceAdd, Nat.reduceMul, Nat.reduceSub, xf_same, xq_ff, xq_fo, xf_1, xf_2, xs_1, xs_2, xs_same, xq_so, xj_1, xj_2, xj_same, xq_jo, xq_sa1, xq_same, xq_other, upd_s, oI_n, oI_s, xv_0, xv_1, xv_2, xv_3, xm_p1, xm_p2, xq_fp, xq_fn, List.filter_nil, Nat.reduceBEq, Bool.not_true, Bool.not_false, Bool.and_true, Bool.and_false, Bool.false_and, Bool.true_and, if_true, if_false, Bool.false_eq_true, reduceIte, xc_i, xc_j, xc_r, xc_n, List.nil_append, List.cons_append, Option.toList_some, Option.toList_none]
        exact xm_go_wk (by simp [Value.category]) (step _ (by omega))
      · with_reducible refine xm_go_blk b_X4_copyCells_2 k_X4_copyCells_2 ?_
        refine by_iload_n rfl ?_
        refine by_iload_n rfl ?_
        refine by_ic_ge 52 rfl ?_
        simp (disch := first | exact Nat.ne_of_beq_eq_false rfl | exact rfl | omega) only [nI_add, xa_sub, xa_mul, pk_div, nm_mod, xa_shr, xa_and7, xa_and1, xa_and255, xa_by_and, nI_m1, Nat.add_sub_cancel, Nat.reducePow, Nat.zero_add, Nat.add_zero, Nat.reduceAdd, Nat.reduceMul, Nat.reduceSub, xf_same, xq_ff, xq_fo, xf_1, xf_2, xs_1, xs_2, xs_same, xq_so, xj_1, xj_2, xj_same, xq_jo, xq_sa1, xq_same, xq_other, upd_s, oI_n, oI_s, xv_0, xv_1, xv_2, xv_3, xm_p1, xm_p2, xq_fp, xq_fn, List.filter_nil, Nat.reduceBEq, Bool.not_true, Bool.not_false, Bool.and_true, Bool.and_false, Bool.false_and, Bool.true_and, if_true, if_false, Bool.false_eq_true, reduceIte, xc_i, xc_j, xc_r, xc_n, List.nil_append, List.cons_append, Option.toList_some, Option.toList_none, nI_ltJ, nI_leJ, nI_eqJ, nI_ltz, nI_gez, nI_gtz, nI_lez, nI_eqz, m1_ltz, m1_gez, true_imp_iff, false_imp_iff, true_and, and_true, ne_eq, not_false_eq_true, not_true_eq_false, Nat.reduceEqDiff, Nat.reduceLT, Nat.reduceLeDiff]
        refine ⟨fun c => absurd c (by omega), fun c2 => ?_⟩
        with_reducible refine xm_go_blk b_X4_copyCells_7 k_X4_copyCells_7 ?_
        refine by_iload_n rfl ?_
        refine by_iload_n rfl ?_
        refine by_isub ?_
        refine by_bipush cb_64 ?_
        refine by_ic_ge 21 rfl ?_
        simp (disch := first | exact Nat.ne_of_beq_eq_false rfl | exact rfl | omega) only [nI_add, xa_sub, xa_mul, pk_div, nm_mod, xa_shr, xa_and7, xa_and1, xa_and255, xa_by_and, nI_m1, Nat.add_sub_cancel, Nat.reducePow, Nat.zero_add, Nat.add_zero, Nat.reduceAdd, Nat.reduceMul, Nat.reduceSub, xf_same, xq_ff, xq_fo, xf_1, xf_2, xs_1, xs_2, xs_same, xq_so, xj_1, xj_2, xj_same, xq_jo, xq_sa1, xq_same, xq_other, upd_s, oI_n, oI_s, xv_0, xv_1, xv_2, xv_3, xm_p1, xm_p2, xq_fp, xq_fn, List.filter_nil, Nat.reduceBEq, Bool.not_true, Bool.not_false, Bool.and_true, Bool.and_false, Bool.false_and, Bool.true_and, if_true, if_false, Bool.false_eq_true, reduceIte, xc_i, xc_j, xc_r, xc_n, List.nil_append, List.cons_append, Option.toList_some, Option.toList_none, nI_ltJ, nI_leJ, nI_eqJ, nI_ltz, nI_gez, nI_gtz, nI_lez, nI_eqz, m1_ltz, m1_gez, true_imp_iff, false_imp_iff, true_and, and_true, ne_eq, not_false_eq_true, not_true_eq_false, Nat.reduceEqDiff, Nat.reduceLT, Nat.reduceLeDiff]
        refine ⟨fun c7 => ?_, fun c => absurd (by omega) c⟩
        with_reducible refine xm_go_blk b_X4_copyCells_21 k_X4_copyCells_21 ?_
        refine by_bipush cb_64 ?_
        refine by_nil ?_
        exact xm_go_wk (by simp [Value.category]) (step _ (by omega))
  refine xq_in rfl ?_
  simp only [xq_a0, xq_aI, xq_aJ, xq_aR, Nat.reduceAdd]
  with_reducible refine xm_go_blk b_X4_copyCells_0 k_X4_copyCells_0 ?_
  refine by_iconst ci_0 ?_
  refine by_istore_n (by rw [ml_79]; decide) ?_
  refine by_nil ?_
  try simp (disch := first | exact Nat.ne_of_beq_eq_false rfl | exact rfl | omega) only [nI_add, xa_sub, xa_mul, pk_div, nm_mod, xa_shr, xa_and7, xa_and1, xa_and255, xa_by_and, nI_m1, Nat.add_sub_cancel, Nat.reducePow, Nat.zero_add, Nat.add_zero, Nat.reduceAdd, Nat.reduceMul, Nat.reduceSub, xf_same, xq_ff, xq_fo, xf_1, xf_2, xs_1, xs_2, xs_same, xq_so, xj_1, xj_2, xj_same, xq_jo, xq_sa1, xq_same, xq_other, upd_s, oI_n, oI_s, xv_0, xv_1, xv_2, xv_3, xm_p1, xm_p2, xq_fp, xq_fn, List.filter_nil, Nat.reduceBEq, Bool.not_true, Bool.not_false, Bool.and_true, Bool.and_false, Bool.false_and, Bool.true_and, if_true, if_false, Bool.false_eq_true, reduceIte, xc_i, xc_j, xc_r, xc_n, List.nil_append, List.cons_append, Option.toList_some, Option.toList_none]
  exact xm_go_wk (by simp [Value.category]) (key ((n + 63) / 64) 0 h (by omega) Fr_rf (by simp [mc_rd, mc_wr_nil]))
theorem bb_0 : ∀ n, bbits n 0 = List.replicate n false
  | 0 => rfl
  | n + 1 => by
    have h1 : bbits (n + 1) 0 = bbits 1 0 ++ bbits n 0 := by
      have := bbits_app 1 n 0
      rw [Nat.add_comm 1 n, Nat.zero_div] at this
      exact this
    rw [h1, bb_0 n]; rfl
theorem sp_clearCells (hF : XF h) (ht : t + n ≤ 839680)
    (hp : ∀ h', Fr [33] [] h h' → mB h' = mc_wr (mB h) t (List.replicate n false) → post none h') : xm_T (XE sc) (d + 2) 78 [.ref 32, .int (nI t), .int (nI n)] h post := by
  have key : ∀ (j k : Nat) (h2 : xm_H), k + j = (n + 63) / 64 → Fr [33] [] h h2 → mB h2 = mc_wr (mB h) t (List.replicate (min (64 * k) n) false) → xm_go (XE sc) (xm_T (XE sc) (d + 1)) 78 post 2 [(3, .int (nI (64 * k))), (0, .ref 32), (1, .int (nI t)), (2, .int (nI n))] [] h2 := by
    intro j
    induction j with
    | zero =>
      intro k h2 hk f2 r2
      with_reducible refine xm_go_blk b_X4_clearCells_2 k_X4_clearCells_2 ?_
      refine by_iload_n rfl ?_
      refine by_iload_n rfl ?_
      refine by_ic_ge 37 rfl ?_
      simp (disch := first | exact Nat.ne_of_beq_eq_false rfl | exact rfl | omega) only [nI_add, xa_sub, xa_mul, pk_div, nm_mod, xa_shr, xa_and7, xa_and1, xa_and255, xa_by_and, nI_m1, Nat.add_sub_cancel, Nat.reducePow, Nat.zero_add, Nat.add_zero, Nat.reduceAdd, Nat.reduceMul, Nat.reduceSub, xf_same, xq_ff, xq_fo, xf_1, xf_2, xs_1, xs_2, xs_same, xq_so, xj_1, xj_2, xj_same, xq_jo, xq_sa1, xq_same, xq_other, upd_s, oI_n, oI_s, xv_0, xv_1, xv_2, xv_3, xm_p1, xm_p2, xq_fp, xq_fn, List.filter_nil, Nat.reduceBEq, Bool.not_true, Bool.not_false, Bool.and_true, Bool.and_false, Bool.false_and, Bool.true_and, if_true, if_false, Bool.false_eq_true, reduceIte, xc_i, xc_j, xc_r, xc_n, List.nil_append, List.cons_append, Option.toList_some, Option.toList_none, nI_ltJ, nI_leJ, nI_eqJ, nI_ltz, nI_gez, nI_gtz, nI_lez, nI_eqz, m1_ltz, m1_gez, true_imp_iff, false_imp_iff, true_and, and_true, ne_eq, not_false_eq_true, not_true_eq_false, Nat.reduceEqDiff, Nat.reduceLT, Nat.reduceLeDiff]
      refine ⟨fun c2 => ?_, fun c => absurd (by omega) c⟩
      with_reducible refine xm_go_blk b_X4_clearCells_37 k_X4_clearCells_37 ?_
      refine by_ret ry_78 ?_
      rw [Nat.min_eq_right (by omega)] at r2
      exact hp h2 f2 r2
    | succ j ih =>
      intro k h2 hk f2 r2
      have F2 := Fr_XF hF f2 (by decide +kernel)
      rw [Nat.min_eq_left (by omega)] at r2
      have step : ∀ s, s = min (n - 64 * k) 64 → xm_go (XE sc) (xm_T (XE sc) (d + 1)) 78 post 27 [(3, .int (nI (64 * k))), (0, .ref 32), (1, .int (nI t)), (2, .int (nI n))] [.int (nI s), .int (nI (t + 64 * k)), .ref 32] h2 := by
        intro s hs
        with_reducible refine xm_go_blk b_X4_clearCells_27 k_X4_clearCells_27 ?_
        refine by_lconst cl_0 ?_
        refine by_inv3 cn_78 lk_4_66 (by rw [xe_cnt]; decide) is_86 np_86 cn_86 (by first | exact rfl | assumption) (Nat.le_of_ble_eq_true rfl) ?_
        refine sp_mput F2 (by omega) (by omega) (by omega) (fun h3 f3 b3 => ?_)
        have z0 : (lN 0).toBitVec.toNat = 0 := by decide
        rw [z0, bb_0, r2] at b3
        with_reducible refine xm_go_blk b_X4_clearCells_31 k_X4_clearCells_31 ?_
        refine by_iinc (by rw [ml_78]; decide) rfl (by decide : Int32.ofInt (64) = nI 64) ?_
        refine by_goto 2 rfl ?_
        try simp (disch := first | exact Nat.ne_of_beq_eq_false rfl | exact rfl | omega) only [nI_add, xa_sub, xa_mul, pk_div, nm_mod, xa_shr, xa_and7, xa_and1, xa_and255, xa_by_and, nI_m1, Nat.add_sub_cancel, Nat.reducePow, Nat.zero_add, Nat.add_zero, Nat.reduceAdd, Nat.reduceMul, Nat.reduceSub, xf_same, xq_ff, xq_fo, xf_1, xf_2, xs_1, xs_2, xs_same, xq_so, xj_1, xj_2, xj_same, xq_jo, xq_sa1, xq_same, xq_other, upd_s, oI_n, oI_s, xv_0, xv_1, xv_2, xv_3, xm_p1, xm_p2, xq_fp, xq_fn, List.filter_nil, Nat.reduceBEq, Bool.not_true, Bool.not_false, Bool.and_true, Bool.and_false, Bool.false_and, Bool.true_and, if_true, if_false, Bool.false_eq_true, reduceIte, xc_i, xc_j, xc_r, xc_n, List.nil_append, List.cons_append, Option.toList_some, Option.toList_none]
        refine xm_go_wk (by simp [Value.category, Nat.mul_add]) (ih (k + 1) h3 (by omega) (Fr_tr f2 f3 (fun _ z => z) (fun _ z => z)) ?_)
        have ea := mc_wr_app (mB h) t (List.replicate (64 * k) false) (List.replicate s false)
        rw [List.length_replicate, List.replicate_append_replicate] at ea
        rw [b3, ea, show min (64 * (k + 1)) n = 64 * k + s by omega]
      by_cases e : n - 64 * k < 64
      · with_reducible refine xm_go_blk b_X4_clearCells_2 k_X4_clearCells_2 ?_
        refine by_iload_n rfl ?_
        refine by_iload_n rfl ?_
        refine by_ic_ge 37 rfl ?_
        simp (disch := first | exact Nat.ne_of_beq_eq_false rfl | exact rfl | omega) only [nI_add, xa_sub, xa_mul, pk_div, nm_mod, xa_shr, xa_and7, xa_and1, xa_and255, xa_by_and, nI_m1, Nat.add_sub_cancel, Nat.reducePow, Nat.zero_add, Nat.add_zero, Nat.reduceAdd, Nat.reduceMul, Nat.reduceSub, xf_same, xq_ff, xq_fo, xf_1, xf_2, xs_1, xs_2, xs_same, xq_so, xj_1, xj_2, xj_same, xq_jo, xq_sa1, xq_same, xq_other, upd_s, oI_n, oI_s, xv_0, xv_1, xv_2, xv_3, xm_p1, xm_p2, xq_fp, xq_fn, List.filter_nil, Nat.reduceBEq, Bool.not_true, Bool.not_false, Bool.and_true, Bool.and_false, Bool.false_and, Bool.true_and, if_true, if_false, Bool.false_eq_true, reduceIte, xc_i, xc_j, xc_r, xc_n, List.nil_append, List.cons_append, Option.toList_some, Option.toList_none, nI_ltJ, nI_leJ, nI_eqJ, nI_ltz, nI_gez, nI_gtz, nI_lez, nI_eqz, m1_ltz, m1_gez, true_imp_iff, false_imp_iff, true_and, and_true, ne_eq, not_false_eq_true, not_true_eq_false, Nat.reduceEqDiff, Nat.reduceLT, Nat.reduceLeDiff]
        refine ⟨fun c => absurd c (by omega), fun c2 => ?_⟩
        with_reducible refine xm_go_blk b_X4_clearCells_7 k_X4_clearCells_7 ?_
        refine by_aload_n rfl ?_
        refine by_iload_n rfl ?_
        refine by_iload_n rfl ?_
        refine by_iadd ?_
        refine by_iload_n rfl ?_
        refine by_iload_n rfl ?_
        refine by_isub ?_
        refine by_bipush cb_64 ?_
        refine by_ic_ge 25 rfl ?_
        simp (disch := first | exact Nat.ne_of_beq_eq_false rfl | exact rfl | omega) only [nI_add, xa_sub, xa_mul, pk_div, nm_mod, xa_shr, xa_and7, xa_and1, xa_and255, xa_by_and, nI_m1, Nat.add_sub_cancel, Nat.reducePow, Nat.zero_add, Nat.add_zero, Nat.reduceAdd, Nat.reduceMul, Nat.reduceSub, xf_same, xq_ff, xq_fo, xf_1, xf_2, xs_1, xs_2, xs_same, xq_so, xj_1, xj_2, xj_same, xq_jo, xq_sa1, xq_same, xq_other, upd_s, oI_n, oI_s, xv_0, xv_1, xv_2, xv_3, xm_p1, xm_p2, xq_fp, xq_fn, List.filter_nil, Nat.reduceBEq, Bool.not_true, Bool.not_false, Bool.and_true, Bool.and_false, Bool.false_and, Bool.true_and, if_true, if_false, Bool.false_eq_true, reduceIte, xc_i, xc_j, xc_r, xc_n, List.nil_append, List.cons_append, Option.toList_some, Option.toList_none, nI_ltJ, nI_leJ, nI_eqJ, nI_ltz, nI_gez, nI_gtz, nI_lez, nI_eqz, m1_ltz, m1_gez, true_imp_iff, false_imp_iff, true_and, and_true, ne_eq, not_false_eq_true, not_true_eq_false, Nat.reduceEqDiff, Nat.reduceLT, Nat.reduceLeDiff]
        refine ⟨fun c => absurd c (by omega), fun c7 => ?_⟩
        with_reducible refine xm_go_blk b_X4_clearCells_19 k_X4_clearCells_19 ?_
        refine by_iload_n rfl ?_
        refine by_iload_n rfl ?_
        refine by_isub ?_
        refine by_goto 27 rfl ?_
        try simp (disch := first | exact Nat.ne_of_beq_eq_false rfl | exact rfl | omega) only [nI_add, xa_sub, xa_mul, pk_div, nm_mod, xa_shr, xa_and7, xa_and1, xa_and255, xa_by_and, nI_m1, Nat.add_sub_cancel, Nat.reducePow, Nat.zero_add, Nat.add_zero, Nat.reduceAdd, Nat.reduceMul, Nat.reduceSub, xf_same, xq_ff, xq_fo, xf_1, xf_2, xs_1, xs_2, xs_same, xq_so, xj_1, xj_2, xj_same, xq_jo, xq_sa1, xq_same, xq_other, upd_s, oI_n, oI_s, xv_0, xv_1, xv_2, xv_3, xm_p1, xm_p2, xq_fp, xq_fn, List.filter_nil, Nat.reduceBEq, Bool.not_true, Bool.not_false, Bool.and_true, Bool.and_false, Bool.false_and, Bool.true_and, if_true, if_false, Bool.false_eq_true, reduceIte, xc_i, xc_j, xc_r, xc_n, List.nil_append, List.cons_append, Option.toList_some, Option.toList_none]
        exact xm_go_wk (by simp [Value.category]) (step _ (by omega))
      · with_reducible refine xm_go_blk b_X4_clearCells_2 k_X4_clearCells_2 ?_
        refine by_iload_n rfl ?_
        refine by_iload_n rfl ?_
        refine by_ic_ge 37 rfl ?_
        simp (disch := first | exact Nat.ne_of_beq_eq_false rfl | exact rfl | omega) only [nI_add, xa_sub, xa_mul, pk_div, nm_mod, xa_shr, xa_and7, xa_and1, xa_and255, xa_by_and, nI_m1, Nat.add_sub_cancel, Nat.reducePow, Nat.zero_add, Nat.add_zero, Nat.reduceAdd, Nat.reduceMul, Nat.reduceSub, xf_same, xq_ff, xq_fo, xf_1, xf_2, xs_1, xs_2, xs_same, xq_so, xj_1, xj_2, xj_same, xq_jo, xq_sa1, xq_same, xq_other, upd_s, oI_n, oI_s, xv_0, xv_1, xv_2, xv_3, xm_p1, xm_p2, xq_fp, xq_fn, List.filter_nil, Nat.reduceBEq, Bool.not_true, Bool.not_false, Bool.and_true, Bool.and_false, Bool.false_and, Bool.true_and, if_true, if_false, Bool.false_eq_true, reduceIte, xc_i, xc_j, xc_r, xc_n, List.nil_append, List.cons_append, Option.toList_some, Option.toList_none, nI_ltJ, nI_leJ, nI_eqJ, nI_ltz, nI_gez, nI_gtz, nI_lez, nI_eqz, m1_ltz, m1_gez, true_imp_iff, false_imp_iff, true_and, and_true, ne_eq, not_false_eq_true, not_true_eq_false, Nat.reduceEqDiff, Nat.reduceLT, Nat.reduceLeDiff]
        refine ⟨fun c => absurd c (by omega), fun c2 => ?_⟩
        with_reducible refine xm_go_blk b_X4_clearCells_7 k_X4_clearCells_7 ?_
        refine by_aload_n rfl ?_
        refine by_iload_n rfl ?_
        refine by_iload_n rfl ?_
        refine by_iadd ?_
        refine by_iload_n rfl ?_
        refine by_iload_n rfl ?_
        refine by_isub ?_
        refine by_bipush cb_64 ?_
        refine by_ic_ge 25 rfl ?_
        simp (disch := first | exact Nat.ne_of_beq_eq_false rfl | exact rfl | omega) only [nI_add, xa_sub, xa_mul, pk_div, nm_mod, xa_shr, xa_and7, xa_and1, xa_and255, xa_by_and, nI_m1, Nat.add_sub_cancel, Nat.reducePow, Nat.zero_add, Nat.add_zero, Nat.reduceAdd, Nat.reduceMul, Nat.reduceSub, xf_same, xq_ff, xq_fo, xf_1, xf_2, xs_1, xs_2, xs_same, xq_so, xj_1, xj_2, xj_same, xq_jo, xq_sa1, xq_same, xq_other, upd_s, oI_n, oI_s, xv_0, xv_1, xv_2, xv_3, xm_p1, xm_p2, xq_fp, xq_fn, List.filter_nil, Nat.reduceBEq, Bool.not_true, Bool.not_false, Bool.and_true, Bool.and_false, Bool.false_and, Bool.true_and, if_true, if_false, Bool.false_eq_true, reduceIte, xc_i, xc_j, xc_r, xc_n, List.nil_append, List.cons_append, Option.toList_some, Option.toList_none, nI_ltJ, nI_leJ, nI_eqJ, nI_ltz, nI_gez, nI_gtz, nI_lez, nI_eqz, m1_ltz, m1_gez, true_imp_iff, false_imp_iff, true_and, and_true, ne_eq, not_false_eq_true, not_true_eq_false, Nat.reduceEqDiff, Nat.reduceLT, Nat.reduceLeDiff]
        refine ⟨fun c7 => ?_, fun c => absurd (by omega) c⟩
        with_reducible refine xm_go_blk b_X4_clearCells_25 k_X4_clearCells_25 ?_
        refine by_bipush cb_64 ?_
        refine by_nil ?_
        exact xm_go_wk (by simp [Value.category]) (step _ (by omega))
  refine xq_in rfl ?_
  simp only [xq_a0, xq_aI, xq_aJ, xq_aR, Nat.reduceAdd]
  with_reducible refine xm_go_blk b_X4_clearCells_0 k_X4_clearCells_0 ?_
  refine by_iconst ci_0 ?_
  refine by_istore_n (by rw [ml_78]; decide) ?_
  refine by_nil ?_
  try simp (disch := first | exact Nat.ne_of_beq_eq_false rfl | exact rfl | omega) only [nI_add, xa_sub, xa_mul, pk_div, nm_mod, xa_shr, xa_and7, xa_and1, xa_and255, xa_by_and, nI_m1, Nat.add_sub_cancel, Nat.reducePow, Nat.zero_add, Nat.add_zero, Nat.reduceAdd, Nat.reduceMul, Nat.reduceSub, xf_same, xq_ff, xq_fo, xf_1, xf_2, xs_1, xs_2, xs_same, xq_so, xj_1, xj_2, xj_same, xq_jo, xq_sa1, xq_same, xq_other, upd_s, oI_n, oI_s, xv_0, xv_1, xv_2, xv_3, xm_p1, xm_p2, xq_fp, xq_fn, List.filter_nil, Nat.reduceBEq, Bool.not_true, Bool.not_false, Bool.and_true, Bool.and_false, Bool.false_and, Bool.true_and, if_true, if_false, Bool.false_eq_true, reduceIte, xc_i, xc_j, xc_r, xc_n, List.nil_append, List.cons_append, Option.toList_some, Option.toList_none]
  exact xm_go_wk (by simp [Value.category]) (key ((n + 63) / 64) 0 h (by omega) Fr_rf (by simp [mc_wr_nil]))
/-- the bits of a row of bytes -/
def byB (l : List Nat) : Nat → Bool := fun i => by_bit l i == 1
theorem cw_or {m b : Nat} (hm : m < 2 ^ 31) (hb : b < 2) : lN (m * 2 ^ 1) ||| lN b = lN (2 * m + b) := by
  rw [g_or (k := 1) (p := 2 ^ 1) rfl (by omega) (by omega)]
  congr 1; omega
theorem mc_n_s (B : Nat → Bool) (p n : Nat) : mc_n B p (n + 1) = 2 * mc_n B p n + (B (p + n)).toNat := by
  rw [mc_n_add]
  have : mc_n B (p + n) 1 = (B (p + n)).toNat := by simp [mc_n, mc_rd, bnum]
  rw [this]; omega
theorem byB_n (l : List Nat) (i : Nat) : (byB l i).toNat = by_bit l i := by
  have := by_bit_lt l i
  unfold byB
  rcases (by omega : by_bit l i = 0 ∨ by_bit l i = 1) with e | e <;> rw [e] <;> rfl
theorem sp_copyWitness {r b p : Nat} {l : List Nat} (hF : XF h) (hr : (xe_sh (XE sc))[r]? = some (.inr (8, 4))) (hb : (xe_sh (XE sc))[b]? = some (.inl (.byte, 8192))) (hl : rowIs h r b l) (hr32 : r ≠ 32) (hb33 : b ≠ 33) (h13 : h.2.2 32 13 = .int (nI t)) (hpn : p + n ≤ 70000) (ht : t + n ≤ 839680)
    (hp : ∀ h', Fr [33] [] h h' → mB h' = mc_wr (mB h) t (mc_rd (byB l) p n) → post none h') : xm_T (XE sc) (d + 3) 80 [.ref 32, .ref r, .int (nI p), .int (nI n)] h post := by
  have key : ∀ (j k : Nat) (h2 : xm_H), k + j = (n + 31) / 32 → Fr [33] [] h h2 → mB h2 = mc_wr (mB h) t (mc_rd (byB l) p (min (32 * k) n)) → xm_go (XE sc) (xm_T (XE sc) (d + 2)) 80 post 3 [(4, .int (nI (32 * k))), (0, .ref 32), (1, .ref r), (2, .int (nI p)), (3, .int (nI n))] [] h2 := by
    intro j
    induction j with
    | zero =>
      intro k h2 hk f2 r2
      with_reducible refine xm_go_blk b_X4_copyWitness_3 k_X4_copyWitness_3 ?_
      refine by_iload rfl ?_
      refine by_iload_n rfl ?_
      refine by_ic_ge 88 rfl ?_
      simp (disch := first | exact Nat.ne_of_beq_eq_false rfl | exact rfl | omega) only [nI_add, xa_sub, xa_mul, pk_div, nm_mod, xa_shr, xa_and7, xa_and1, xa_and255, xa_by_and, nI_m1, Nat.add_sub_cancel, Nat.reducePow, Nat.zero_add, Nat.add_zero, Nat.reduceAdd, Nat.reduceMul, Nat.reduceSub, xf_same, xq_ff, xq_fo, xf_1, xf_2, xs_1, xs_2, xs_same, xq_so, xj_1, xj_2, xj_same, xq_jo, xq_sa1, xq_same, xq_other, upd_s, oI_n, oI_s, xv_0, xv_1, xv_2, xv_3, xm_p1, xm_p2, xq_fp, xq_fn, List.filter_nil, Nat.reduceBEq, Bool.not_true, Bool.not_false, Bool.and_true, Bool.and_false, Bool.false_and, Bool.true_and, if_true, if_false, Bool.false_eq_true, reduceIte, xc_i, xc_j, xc_r, xc_n, List.nil_append, List.cons_append, Option.toList_some, Option.toList_none, nI_ltJ, nI_leJ, nI_eqJ, nI_ltz, nI_gez, nI_gtz, nI_lez, nI_eqz, m1_ltz, m1_gez, true_imp_iff, false_imp_iff, true_and, and_true, ne_eq, not_false_eq_true, not_true_eq_false, Nat.reduceEqDiff, Nat.reduceLT, Nat.reduceLeDiff]
      refine ⟨fun c3 => ?_, fun c => absurd (by omega) c⟩
      with_reducible refine xm_go_blk b_X4_copyWitness_88 k_X4_copyWitness_88 ?_
      refine by_ret ry_80 ?_
      rw [Nat.min_eq_right (by omega)] at r2
      exact hp h2 f2 r2
    | succ j ih =>
      intro k h2 hk f2 r2
      have F2 := Fr_XF hF f2 (by decide +kernel)
      have e13 : h2.2.2 32 13 = .int (nI t) := by rw [f2.2.2 _ _ (by simp)]; exact h13
      have l2 := rowIs_fr hl f2 (by simp [hb33]) (by simp) (by simp)
      rw [Nat.min_eq_left (by omega)] at r2
      have step : ∀ s, s = min (n - 32 * k) 32 → xm_go (XE sc) (xm_T (XE sc) (d + 2)) 80 post 27 [(4, .int (nI (32 * k))), (0, .ref 32), (1, .ref r), (2, .int (nI p)), (3, .int (nI n))] [.int (nI s)] h2 := by
        intro s hs
        have inner : ∀ (y x : Nat), x + y = s → xm_go (XE sc) (xm_T (XE sc) (d + 2)) 80 post 35 [(8, .int (nI x)), (6, .long (lN (mc_n (byB l) (p + 32 * k) x))), (5, .int (nI s)), (4, .int (nI (32 * k))), (0, .ref 32), (1, .ref r), (2, .int (nI p)), (3, .int (nI n))] [] h2 := by
          intro y
          induction y with
          | zero =>
            intro x hx
            have : x = s := by omega
            subst this
            with_reducible refine xm_go_blk b_X4_copyWitness_35 k_X4_copyWitness_35 ?_
            refine by_iload rfl ?_
            refine by_iload rfl ?_
            refine by_ic_ge 67 rfl ?_
            simp (disch := first | exact Nat.ne_of_beq_eq_false rfl | exact rfl | omega) only [nI_add, xa_sub, xa_mul, pk_div, nm_mod, xa_shr, xa_and7, xa_and1, xa_and255, xa_by_and, nI_m1, Nat.add_sub_cancel, Nat.reducePow, Nat.zero_add, Nat.add_zero, Nat.reduceAdd, Nat.reduceMul, Nat.reduceSub, xf_same, xq_ff, xq_fo, xf_1, xf_2, xs_1, xs_2, xs_same, xq_so, xj_1, xj_2, xj_same, xq_jo, xq_sa1, xq_same, xq_other, upd_s, oI_n, oI_s, xv_0, xv_1, xv_2, xv_3, xm_p1, xm_p2, xq_fp, xq_fn, List.filter_nil, Nat.reduceBEq, Bool.not_true, Bool.not_false, Bool.and_true, Bool.and_false, Bool.false_and, Bool.true_and, if_true, if_false, Bool.false_eq_true, reduceIte, xc_i, xc_j, xc_r, xc_n, List.nil_append, List.cons_append, Option.toList_some, Option.toList_none, nI_ltJ, nI_leJ, nI_eqJ, nI_ltz, nI_gez, nI_gtz, nI_lez, nI_eqz, m1_ltz, m1_gez, true_imp_iff, false_imp_iff, true_and, and_true, ne_eq, not_false_eq_true, not_true_eq_false, Nat.reduceEqDiff, Nat.reduceLT, Nat.reduceLeDiff, e13]
            refine ⟨fun c35 => ?_, fun c => absurd (by omega) c⟩
            with_reducible refine xm_go_blk b_X4_copyWitness_67 k_X4_copyWitness_67 ?_
            refine by_aload_n rfl ?_
            refine by_aload_n rfl ?_
            refine by_getf cn_80 fl_4_55 (by first | exact rfl | assumption) (by decide) ?_
            refine by_iload rfl ?_
            simp (disch := first | exact Nat.ne_of_beq_eq_false rfl | exact rfl | omega) only [nI_add, xa_sub, xa_mul, pk_div, nm_mod, xa_shr, xa_and7, xa_and1, xa_and255, xa_by_and, nI_m1, Nat.add_sub_cancel, Nat.reducePow, Nat.zero_add, Nat.add_zero, Nat.reduceAdd, Nat.reduceMul, Nat.reduceSub, xf_same, xq_ff, xq_fo, xf_1, xf_2, xs_1, xs_2, xs_same, xq_so, xj_1, xj_2, xj_same, xq_jo, xq_sa1, xq_same, xq_other, upd_s, oI_n, oI_s, e13]
            refine by_iadd ?_
            refine by_iload rfl ?_
            refine by_lload rfl ?_
            simp (disch := first | exact Nat.ne_of_beq_eq_false rfl | exact rfl | omega) only [nI_add, xa_sub, xa_mul, pk_div, nm_mod, xa_shr, xa_and7, xa_and1, xa_and255, xa_by_and, nI_m1, Nat.add_sub_cancel, Nat.reducePow, Nat.zero_add, Nat.add_zero, Nat.reduceAdd, Nat.reduceMul, Nat.reduceSub, xf_same, xq_ff, xq_fo, xf_1, xf_2, xs_1, xs_2, xs_same, xq_so, xj_1, xj_2, xj_same, xq_jo, xq_sa1, xq_same, xq_other, upd_s, oI_n, oI_s, xv_0, xv_1, xv_2, xv_3, xm_p1, xm_p2, xq_fp, xq_fn, List.filter_nil, Nat.reduceBEq, Bool.not_true, Bool.not_false, Bool.and_true, Bool.and_false, Bool.false_and, Bool.true_and, if_true, if_false, Bool.false_eq_true, reduceIte, xc_i, xc_j, xc_r, xc_n, List.nil_append, List.cons_append, Option.toList_some, Option.toList_none, e13]
            refine by_inv3 cn_80 lk_4_66 (by rw [xe_cnt]; decide) is_86 np_86 cn_86 (by first | exact rfl | assumption) (Nat.le_of_ble_eq_true rfl) ?_
            refine sp_mput F2 (by omega) (by omega) (by omega) (fun h3 f3 b3 => ?_)
            rw [mc_n_tn (by omega), ← mc_rd_n, r2] at b3
            with_reducible refine xm_go_blk b_X4_copyWitness_82 k_X4_copyWitness_82 ?_
            refine by_iinc (by rw [ml_80]; decide) rfl (by decide : Int32.ofInt (32) = nI 32) ?_
            refine by_goto 3 rfl ?_
            try simp (disch := first | exact Nat.ne_of_beq_eq_false rfl | exact rfl | omega) only [nI_add, xa_sub, xa_mul, pk_div, nm_mod, xa_shr, xa_and7, xa_and1, xa_and255, xa_by_and, nI_m1, Nat.add_sub_cancel, Nat.reducePow, Nat.zero_add, Nat.add_zero, Nat.reduceAdd, Nat.reduceMul, Nat.reduceSub, xf_same, xq_ff, xq_fo, xf_1, xf_2, xs_1, xs_2, xs_same, xq_so, xj_1, xj_2, xj_same, xq_jo, xq_sa1, xq_same, xq_other, upd_s, oI_n, oI_s, xv_0, xv_1, xv_2, xv_3, xm_p1, xm_p2, xq_fp, xq_fn, List.filter_nil, Nat.reduceBEq, Bool.not_true, Bool.not_false, Bool.and_true, Bool.and_false, Bool.false_and, Bool.true_and, if_true, if_false, Bool.false_eq_true, reduceIte, xc_i, xc_j, xc_r, xc_n, List.nil_append, List.cons_append, Option.toList_some, Option.toList_none]
            refine xm_go_wk (by simp [Value.category, Nat.mul_add]) (ih (k + 1) h3 (by omega) (Fr_tr f2 f3 (fun _ z => z) (fun _ z => z)) ?_)
            have ea := mc_wr_app (mB h) t (mc_rd (byB l) p (32 * k)) (mc_rd (byB l) (p + 32 * k) x)
            rw [mc_rd_len] at ea
            rw [b3, ea, ← mc_rd_add, show min (32 * (k + 1)) n = 32 * k + x by omega]
          | succ y ihy =>
            intro x hx
            have bl := by_bit_lt l (p + 32 * k + x)
            have hm : mc_n (byB l) (p + 32 * k) x < 2 ^ 31 := Nat.lt_of_lt_of_le (mc_n_lt _ _ _) (Nat.pow_le_pow_right (by decide) (by omega))
            have eo := cw_or hm bl
            with_reducible refine xm_go_blk b_X4_copyWitness_35 k_X4_copyWitness_35 ?_
            refine by_iload rfl ?_
            refine by_iload rfl ?_
            refine by_ic_ge 67 rfl ?_
            simp (disch := first | exact Nat.ne_of_beq_eq_false rfl | exact rfl | omega) only [nI_add, xa_sub, xa_mul, pk_div, nm_mod, xa_shr, xa_and7, xa_and1, xa_and255, xa_by_and, nI_m1, Nat.add_sub_cancel, Nat.reducePow, Nat.zero_add, Nat.add_zero, Nat.reduceAdd, Nat.reduceMul, Nat.reduceSub, xf_same, xq_ff, xq_fo, xf_1, xf_2, xs_1, xs_2, xs_same, xq_so, xj_1, xj_2, xj_same, xq_jo, xq_sa1, xq_same, xq_other, upd_s, oI_n, oI_s, xv_0, xv_1, xv_2, xv_3, xm_p1, xm_p2, xq_fp, xq_fn, List.filter_nil, Nat.reduceBEq, Bool.not_true, Bool.not_false, Bool.and_true, Bool.and_false, Bool.false_and, Bool.true_and, if_true, if_false, Bool.false_eq_true, reduceIte, xc_i, xc_j, xc_r, xc_n, List.nil_append, List.cons_append, Option.toList_some, Option.toList_none, nI_ltJ, nI_leJ, nI_eqJ, nI_ltz, nI_gez, nI_gtz, nI_lez, nI_eqz, m1_ltz, m1_gez, true_imp_iff, false_imp_iff, true_and, and_true, ne_eq, not_false_eq_true, not_true_eq_false, Nat.reduceEqDiff, Nat.reduceLT, Nat.reduceLeDiff, wb_shl]
            refine ⟨fun c => absurd c (by omega), fun c35 => ?_⟩
            with_reducible refine xm_go_blk b_X4_copyWitness_42 k_X4_copyWitness_42 ?_
            refine by_lload rfl ?_
            refine by_iconst ci_1 ?_
            refine by_lshl ?_
            refine by_aload_n rfl ?_
            refine by_iload_n rfl ?_
            refine by_iload rfl ?_
            refine by_iadd ?_
            refine by_iload rfl ?_
            refine by_iadd ?_
            simp (disch := first | exact Nat.ne_of_beq_eq_false rfl | exact rfl | omega) only [nI_add, xa_sub, xa_mul, pk_div, nm_mod, xa_shr, xa_and7, xa_and1, xa_and255, xa_by_and, nI_m1, Nat.add_sub_cancel, Nat.reducePow, Nat.zero_add, Nat.add_zero, Nat.reduceAdd, Nat.reduceMul, Nat.reduceSub, xf_same, xq_ff, xq_fo, xf_1, xf_2, xs_1, xs_2, xs_same, xq_so, xj_1, xj_2, xj_same, xq_jo, xq_sa1, xq_same, xq_other, upd_s, oI_n, oI_s, xv_0, xv_1, xv_2, xv_3, xm_p1, xm_p2, xq_fp, xq_fn, List.filter_nil, Nat.reduceBEq, Bool.not_true, Bool.not_false, Bool.and_true, Bool.and_false, Bool.false_and, Bool.true_and, if_true, if_false, Bool.false_eq_true, reduceIte, xc_i, xc_j, xc_r, xc_n, List.nil_append, List.cons_append, Option.toList_some, Option.toList_none, wb_shl]
            refine by_inv1 cn_80 lk_4_70 (by rw [xe_cnt]; decide) is_127 np_127 cn_127 (by first | exact rfl | assumption | exact ps_12 hpp) (Nat.le_of_ble_eq_true rfl) ?_
            refine sp_bitL hr hb l2 (by omega) ?_
            with_reducible refine xm_go_blk b_X4_copyWitness_57 k_X4_copyWitness_57 ?_
            refine by_i2l ?_
            refine by_lor ?_
            refine by_lstore (by rw [ml_80]; decide) ?_
            refine by_iinc (by rw [ml_80]; decide) rfl ci_1 ?_
            refine by_goto 35 rfl ?_
            try simp (disch := first | exact Nat.ne_of_beq_eq_false rfl | exact rfl | omega) only [nI_add, xa_sub, xa_mul, pk_div, nm_mod, xa_shr, xa_and7, xa_and1, xa_and255, xa_by_and, nI_m1, Nat.add_sub_cancel, Nat.reducePow, Nat.zero_add, Nat.add_zero, Nat.reduceAdd, Nat.reduceMul, Nat.reduceSub, xf_same, xq_ff, xq_fo, xf_1, xf_2, xs_1, xs_2, xs_same, xq_so, xj_1, xj_2, xj_same, xq_jo, xq_sa1, xq_same, xq_other, upd_s, oI_n, oI_s, xv_0, xv_1, xv_2, xv_3, xm_p1, xm_p2, xq_fp, xq_fn, List.filter_nil, Nat.reduceBEq, Bool.not_true, Bool.not_false, Bool.and_true, Bool.and_false, Bool.false_and, Bool.true_and, if_true, if_false, Bool.false_eq_true, reduceIte, xc_i, xc_j, xc_r, xc_n, List.nil_append, List.cons_append, Option.toList_some, Option.toList_none, i2l_n, eo]
            refine xm_go_wk ?_ (ihy (x + 1) (by omega))
            rw [mc_n_s, byB_n]
            simp [Value.category]
        with_reducible refine xm_go_blk b_X4_copyWitness_27 k_X4_copyWitness_27 ?_
        refine by_istore (by rw [ml_80]; decide) ?_
        refine by_lconst cl_0 ?_
        refine by_lstore (by rw [ml_80]; decide) ?_
        refine by_iconst ci_0 ?_
        refine by_istore (by rw [ml_80]; decide) ?_
        refine by_nil ?_
        try simp (disch := first | exact Nat.ne_of_beq_eq_false rfl | exact rfl | omega) only [nI_add, xa_sub, xa_mul, pk_div, nm_mod, xa_shr, xa_and7, xa_and1, xa_and255, xa_by_and, nI_m1, Nat.add_sub_cancel, Nat.reducePow, Nat.zero_add, Nat.add_zero, Nat.reduceAdd, Nat.reduceMul, Nat.reduceSub, xf_same, xq_ff, xq_fo, xf_1, xf_2, xs_1, xs_2, xs_same, xq_so, xj_1, xj_2, xj_same, xq_jo, xq_sa1, xq_same, xq_other, upd_s, oI_n, oI_s, xv_0, xv_1, xv_2, xv_3, xm_p1, xm_p2, xq_fp, xq_fn, List.filter_nil, Nat.reduceBEq, Bool.not_true, Bool.not_false, Bool.and_true, Bool.and_false, Bool.false_and, Bool.true_and, if_true, if_false, Bool.false_eq_true, reduceIte, xc_i, xc_j, xc_r, xc_n, List.nil_append, List.cons_append, Option.toList_some, Option.toList_none]
        exact xm_go_wk (by simp [Value.category, mc_n, mc_rd, bnum_nil]) (inner s 0 (by omega))
      by_cases e : n - 32 * k < 32
      · with_reducible refine xm_go_blk b_X4_copyWitness_3 k_X4_copyWitness_3 ?_
        refine by_iload rfl ?_
        refine by_iload_n rfl ?_
        refine by_ic_ge 88 rfl ?_
        simp (disch := first | exact Nat.ne_of_beq_eq_false rfl | exact rfl | omega) only [nI_add, xa_sub, xa_mul, pk_div, nm_mod, xa_shr, xa_and7, xa_and1, xa_and255, xa_by_and, nI_m1, Nat.add_sub_cancel, Nat.reducePow, Nat.zero_add, Nat.add_zero, Nat.reduceAdd, Nat.reduceMul, Nat.reduceSub, xf_same, xq_ff, xq_fo, xf_1, xf_2, xs_1, xs_2, xs_same, xq_so, xj_1, xj_2, xj_same, xq_jo, xq_sa1, xq_same, xq_other, upd_s, oI_n, oI_s, xv_0, xv_1, xv_2, xv_3, xm_p1, xm_p2, xq_fp, xq_fn, List.filter_nil, Nat.reduceBEq, Bool.not_true, Bool.not_false, Bool.and_true, Bool.and_false, Bool.false_and, Bool.true_and, if_true, if_false, Bool.false_eq_true, reduceIte, xc_i, xc_j, xc_r, xc_n, List.nil_append, List.cons_append, Option.toList_some, Option.toList_none, nI_ltJ, nI_leJ, nI_eqJ, nI_ltz, nI_gez, nI_gtz, nI_lez, nI_eqz, m1_ltz, m1_gez, true_imp_iff, false_imp_iff, true_and, and_true, ne_eq, not_false_eq_true, not_true_eq_false, Nat.reduceEqDiff, Nat.reduceLT, Nat.reduceLeDiff]
        refine ⟨fun c => absurd c (by omega), fun c3 => ?_⟩
        with_reducible refine xm_go_blk b_X4_copyWitness_9 k_X4_copyWitness_9 ?_
        refine by_iload_n rfl ?_
        refine by_iload rfl ?_
        refine by_isub ?_
        refine by_bipush cb_32 ?_
        refine by_ic_ge 25 rfl ?_
        simp (disch := first | exact Nat.ne_of_beq_eq_false rfl | exact rfl | omega) only [nI_add, xa_sub, xa_mul, pk_div, nm_mod, xa_shr, xa_and7, xa_and1, xa_and255, xa_by_and, nI_m1, Nat.add_sub_cancel, Nat.reducePow, Nat.zero_add, Nat.add_zero, Nat.reduceAdd, Nat.reduceMul, Nat.reduceSub, xf_same, xq_ff, xq_fo, xf_1, xf_2, xs_1, xs_2, xs_same, xq_so, xj_1, xj_2, xj_same, xq_jo, xq_sa1, xq_same, xq_other, upd_s, oI_n, oI_s, xv_0, xv_1, xv_2, xv_3, xm_p1, xm_p2, xq_fp, xq_fn, List.filter_nil, Nat.reduceBEq, Bool.not_true, Bool.not_false, Bool.and_true, Bool.and_false, Bool.false_and, Bool.true_and, if_true, if_false, Bool.false_eq_true, reduceIte, xc_i, xc_j, xc_r, xc_n, List.nil_append, List.cons_append, Option.toList_some, Option.toList_none, nI_ltJ, nI_leJ, nI_eqJ, nI_ltz, nI_gez, nI_gtz, nI_lez, nI_eqz, m1_ltz, m1_gez, true_imp_iff, false_imp_iff, true_and, and_true, ne_eq, not_false_eq_true, not_true_eq_false, Nat.reduceEqDiff, Nat.reduceLT, Nat.reduceLeDiff]
        refine ⟨fun c => absurd c (by omega), fun c9 => ?_⟩
        with_reducible refine xm_go_blk b_X4_copyWitness_18 k_X4_copyWitness_18 ?_
        refine by_iload_n rfl ?_
        refine by_iload rfl ?_
        refine by_isub ?_
        refine by_goto 27 rfl ?_
        try simp (disch := first | exact Nat.ne_of_beq_eq_false rfl | exact rfl | omega) only [nI_add, xa_sub, xa_mul, pk_div, nm_mod, xa_shr, xa_and7, xa_and1, xa_and255, xa_by_and, nI_m1, Nat.add_sub_cancel, Nat.reducePow, Nat.zero_add, Nat.add_zero, Nat.reduceAdd, Nat.reduceMul, Nat.reduceSub, xf_same, xq_ff, xq_fo, xf_1, xf_2, xs_1, xs_2, xs_same, xq_so, xj_1, xj_2, xj_same, xq_jo, xq_sa1, xq_same, xq_other, upd_s, oI_n, oI_s, xv_0, xv_1, xv_2, xv_3, xm_p1, xm_p2, xq_fp, xq_fn, List.filter_nil, Nat.reduceBEq, Bool.not_true, Bool.not_false, Bool.and_true, Bool.and_false, Bool.false_and, Bool.true_and, if_true, if_false, Bool.false_eq_true, reduceIte, xc_i, xc_j, xc_r, xc_n, List.nil_append, List.cons_append, Option.toList_some, Option.toList_none]
        exact xm_go_wk (by simp [Value.category]) (step _ (by omega))
      · with_reducible refine xm_go_blk b_X4_copyWitness_3 k_X4_copyWitness_3 ?_
        refine by_iload rfl ?_
        refine by_iload_n rfl ?_
        refine by_ic_ge 88 rfl ?_
        simp (disch := first | exact Nat.ne_of_beq_eq_false rfl | exact rfl | omega) only [nI_add, xa_sub, xa_mul, pk_div, nm_mod, xa_shr, xa_and7, xa_and1, xa_and255, xa_by_and, nI_m1, Nat.add_sub_cancel, Nat.reducePow, Nat.zero_add, Nat.add_zero, Nat.reduceAdd, Nat.reduceMul, Nat.reduceSub, xf_same, xq_ff, xq_fo, xf_1, xf_2, xs_1, xs_2, xs_same, xq_so, xj_1, xj_2, xj_same, xq_jo, xq_sa1, xq_same, xq_other, upd_s, oI_n, oI_s, xv_0, xv_1, xv_2, xv_3, xm_p1, xm_p2, xq_fp, xq_fn, List.filter_nil, Nat.reduceBEq, Bool.not_true, Bool.not_false, Bool.and_true, Bool.and_false, Bool.false_and, Bool.true_and, if_true, if_false, Bool.false_eq_true, reduceIte, xc_i, xc_j, xc_r, xc_n, List.nil_append, List.cons_append, Option.toList_some, Option.toList_none, nI_ltJ, nI_leJ, nI_eqJ, nI_ltz, nI_gez, nI_gtz, nI_lez, nI_eqz, m1_ltz, m1_gez, true_imp_iff, false_imp_iff, true_and, and_true, ne_eq, not_false_eq_true, not_true_eq_false, Nat.reduceEqDiff, Nat.reduceLT, Nat.reduceLeDiff]
        refine ⟨fun c => absurd c (by omega), fun c3 => ?_⟩
        with_reducible refine xm_go_blk b_X4_copyWitness_9 k_X4_copyWitness_9 ?_
        refine by_iload_n rfl ?_
        refine by_iload rfl ?_
        refine by_isub ?_
        refine by_bipush cb_32 ?_
        refine by_ic_ge 25 rfl ?_
        simp (disch := first | exact Nat.ne_of_beq_eq_false rfl | exact rfl | omega) only [nI_add, xa_sub, xa_mul, pk_div, nm_mod, xa_shr, xa_and7, xa_and1, xa_and255, xa_by_and, nI_m1, Nat.add_sub_cancel, Nat.reducePow, Nat.zero_add, Nat.add_zero, Nat.reduceAdd, Nat.reduceMul, Nat.reduceSub, xf_same, xq_ff, xq_fo, xf_1, xf_2, xs_1, xs_2, xs_same, xq_so, xj_1, xj_2, xj_same, xq_jo, xq_sa1, xq_same, xq_other, upd_s, oI_n, oI_s, xv_0, xv_1, xv_2, xv_3, xm_p1, xm_p2, xq_fp, xq_fn, List.filter_nil, Nat.reduceBEq, Bool.not_true, Bool.not_false, Bool.and_true, Bool.and_false, Bool.false_and, Bool.true_and, if_true, if_false, Bool.false_eq_true, reduceIte, xc_i, xc_j, xc_r, xc_n, List.nil_append, List.cons_append, Option.toList_some, Option.toList_none, nI_ltJ, nI_leJ, nI_eqJ, nI_ltz, nI_gez, nI_gtz, nI_lez, nI_eqz, m1_ltz, m1_gez, true_imp_iff, false_imp_iff, true_and, and_true, ne_eq, not_false_eq_true, not_true_eq_false, Nat.reduceEqDiff, Nat.reduceLT, Nat.reduceLeDiff]
        refine ⟨fun c9 => ?_, fun c => absurd (by omega) c⟩
        with_reducible refine xm_go_blk b_X4_copyWitness_25 k_X4_copyWitness_25 ?_
        refine by_bipush cb_32 ?_
        refine by_nil ?_
        exact xm_go_wk (by simp [Value.category]) (step _ (by omega))
  refine xq_in rfl ?_
  simp only [xq_a0, xq_aI, xq_aJ, xq_aR, Nat.reduceAdd]
  with_reducible refine xm_go_blk b_X4_copyWitness_0 k_X4_copyWitness_0 ?_
  refine by_iconst ci_0 ?_
  refine by_istore (by rw [ml_80]; decide) ?_
  refine by_nil ?_
  try simp (disch := first | exact Nat.ne_of_beq_eq_false rfl | exact rfl | omega) only [nI_add, xa_sub, xa_mul, pk_div, nm_mod, xa_shr, xa_and7, xa_and1, xa_and255, xa_by_and, nI_m1, Nat.add_sub_cancel, Nat.reducePow, Nat.zero_add, Nat.add_zero, Nat.reduceAdd, Nat.reduceMul, Nat.reduceSub, xf_same, xq_ff, xq_fo, xf_1, xf_2, xs_1, xs_2, xs_same, xq_so, xj_1, xj_2, xj_same, xq_jo, xq_sa1, xq_same, xq_other, upd_s, oI_n, oI_s, xv_0, xv_1, xv_2, xv_3, xm_p1, xm_p2, xq_fp, xq_fn, List.filter_nil, Nat.reduceBEq, Bool.not_true, Bool.not_false, Bool.and_true, Bool.and_false, Bool.false_and, Bool.true_and, if_true, if_false, Bool.false_eq_true, reduceIte, xc_i, xc_j, xc_r, xc_n, List.nil_append, List.cons_append, Option.toList_some, Option.toList_none]
  exact xm_go_wk (by simp [Value.category]) (key ((n + 31) / 32) 0 h (by omega) Fr_rf (by simp [mc_rd, mc_wr_nil]))
end MC
