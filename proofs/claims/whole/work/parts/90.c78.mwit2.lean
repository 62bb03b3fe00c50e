/-! ===== the reference: readWitness, whole ===== -/
theorem bz_upd {v : Nat → Nat} {p n : Nat} : bz v p (n + 1) = (bz v p n && (v (p + n) == 0)) := rfl
section MW
variable {sc : xm_Sc} {d N cn : Nat} {cd : Nat → Nat} {T : Nat → Ty} {tr : Nat → Ty} {K Lf R : Nat → Nat} {l : List Nat} {h : xm_H} {post : xm_Po}
def mwR : List Nat := [115, 116, 145, 151]
theorem mw_123 {b w : Nat} (hN : N ≤ 400) (hF : XF h) (hl : mrow h 103 l) (hW : mwN h N cd T cn tr) (hT : mtT h cn tr K Lf R) (hcn : cn ≤ 17211) (ha : ∀ m, m < N → h.1 151 m = nI (b + wsum cd T m)) (hbe : b + wsum cd T N ≤ 8 * l.length)
    (hgo : ∀ h', Fr [115, 116, 145] [] h h' → wall (by_bit l) cd T b N = true → xm_go (XE sc) (xm_T (XE sc) (d + 1)) 284 post 219 [(0, .ref 102), (1, .int (nI w))] [] h')
    (h11 : ∀ h', Fr [115, 116, 145] [] h h' → wall (by_bit l) cd T b N = false → post (some (.int (nI 11))) h') :
    ∀ (j n : Nat) (h' : xm_H), n + j = N → Fr [115, 116, 145] [] h h' → wall (by_bit l) cd T b n = true → xm_go (XE sc) (xm_T (XE sc) (d + 1)) 284 post 123 [(4, .int (nI n)), (0, .ref 102), (1, .int (nI w))] [] h' := by
  intro j
  induction j with
  | zero =>
    intro n h' hj hf hw
    have : n = N := by omega
    subst this
    have e5 : h'.2.2 102 5 = .int (nI n) := by rw [hf.2.2 _ _ (by simp)]; exact hW.1
    with_reducible refine xm_go_blk b_X12_readWitness_123 k_X12_readWitness_123 ?_
    refine by_iload rfl ?_
    refine by_aload_n rfl ?_
    refine by_getf cn_284 fl_12_223 (by first | exact rfl | assumption) (by decide) ?_
    simp (disch := first | exact Nat.ne_of_beq_eq_false rfl | exact rfl | omega) only [nI_add, xa_sub, xa_mul, pk_div, nm_mod, xa_shr, xa_and7, xa_and1, xa_and255, xa_by_and, nI_m1, Nat.add_sub_cancel, Nat.reducePow, Nat.zero_add, Nat.add_zero, Nat.reduceAdd, Nat.reduceMul, Nat.reduceSub, xf_same, xq_ff, xq_fo, xf_1, xf_2, xs_1, xs_2, xs_same, xq_so, xj_1, xj_2, xj_same, xq_jo, xq_sa1, xq_same, xq_other, upd_s, oI_n, oI_s, e5]
    refine by_ic_ge 219 rfl ?_
    simp (disch := first | exact Nat.ne_of_beq_eq_false rfl | exact rfl | omega) only [nI_add, xa_sub, xa_mul, pk_div, nm_mod, xa_shr, xa_and7, xa_and1, xa_and255, xa_by_and, nI_m1, Nat.add_sub_cancel, Nat.reducePow, Nat.zero_add, Nat.add_zero, Nat.reduceAdd, Nat.reduceMul, Nat.reduceSub, xf_same, xq_ff, xq_fo, xf_1, xf_2, xs_1, xs_2, xs_same, xq_so, xj_1, xj_2, xj_same, xq_jo, xq_sa1, xq_same, xq_other, upd_s, oI_n, oI_s, xv_0, xv_1, xv_2, xv_3, xm_p1, xm_p2, xq_fp, xq_fn, List.filter_nil, Nat.reduceBEq, Bool.not_true, Bool.not_false, Bool.and_true, Bool.and_false, Bool.false_and, Bool.true_and, if_true, if_false, Bool.false_eq_true, reduceIte, xc_i, xc_j, xc_r, xc_n, List.nil_append, List.cons_append, Option.toList_some, Option.toList_none, nI_ltJ, nI_leJ, nI_eqJ, nI_ltz, nI_gez, nI_gtz, nI_lez, nI_eqz, m1_ltz, m1_gez, true_imp_iff, false_imp_iff, true_and, and_true, ne_eq, not_false_eq_true, not_true_eq_false, Nat.reduceEqDiff, Nat.reduceLT, Nat.reduceLeDiff, e5]
    refine ⟨fun c123 => ?_, fun c => absurd (by omega) c⟩
    exact xm_go_wk (by simp [Value.category]) (hgo h' hf hw)
  | succ j ih =>
    intro n h' hj hf hw
    have hnN : n < N := by omega
    have e5 : h'.2.2 102 5 = .int (nI N) := by rw [hf.2.2 _ _ (by simp)]; exact hW.1
    have F1 : XF h' := Fr_XF hF hf (by decide +kernel)
    obtain ⟨a1, a2, a3⟩ := hW.2 n hnN
    have e1 : h'.1 105 n = nI (cd n) := by rw [hf.1 105 (by simp)]; exact a1
    have hsl := wsum_le (cd := cd) (T := T) (n := n + 1) N (by omega)
    by_cases hc : cd n = 10
    · have hc' : (cd n = 10) = True := eq_true hc
      obtain ⟨jj, j0, j1, j2, j3, j4⟩ := a3 hc
      have hwt : wsum cd T (n + 1) = wsum cd T n + ty_w (T n) := by simp only [wsum, wtF, hc, if_true]
      have e12 : h'.1 112 n = nI jj := by rw [hf.1 112 (by simp)]; exact j2
      have ew : h'.1 132 jj = nI (ty_w (T n)) := by rw [hf.1 132 (by simp)]; exact mw_w hT j0 j1 j3 j4
      have ea : h'.1 151 n = nI (b + wsum cd T n) := by rw [hf.1 151 (by simp)]; exact ha n hnN
      have hl' : mrow h' 103 l := ⟨fun i hi => by rw [hf.1 103 (by simp)]; exact hl.1 i hi, hl.2⟩
      with_reducible refine xm_go_blk b_X12_readWitness_123 k_X12_readWitness_123 ?_
      refine by_iload rfl ?_
      refine by_aload_n rfl ?_
      refine by_getf cn_284 fl_12_223 (by first | exact rfl | assumption) (by decide) ?_
      simp (disch := first | exact Nat.ne_of_beq_eq_false rfl | exact rfl | omega) only [nI_add, xa_sub, xa_mul, pk_div, nm_mod, xa_shr, xa_and7, xa_and1, xa_and255, xa_by_and, nI_m1, Nat.add_sub_cancel, Nat.reducePow, Nat.zero_add, Nat.add_zero, Nat.reduceAdd, Nat.reduceMul, Nat.reduceSub, xf_same, xq_ff, xq_fo, xf_1, xf_2, xs_1, xs_2, xs_same, xq_so, xj_1, xj_2, xj_same, xq_jo, xq_sa1, xq_same, xq_other, upd_s, oI_n, oI_s, e5, xf_102_6 F1, e1, hc']
      refine by_ic_ge 219 rfl ?_
      simp (disch := first | exact Nat.ne_of_beq_eq_false rfl | exact rfl | omega) only [nI_add, xa_sub, xa_mul, pk_div, nm_mod, xa_shr, xa_and7, xa_and1, xa_and255, xa_by_and, nI_m1, Nat.add_sub_cancel, Nat.reducePow, Nat.zero_add, Nat.add_zero, Nat.reduceAdd, Nat.reduceMul, Nat.reduceSub, xf_same, xq_ff, xq_fo, xf_1, xf_2, xs_1, xs_2, xs_same, xq_so, xj_1, xj_2, xj_same, xq_jo, xq_sa1, xq_same, xq_other, upd_s, oI_n, oI_s, xv_0, xv_1, xv_2, xv_3, xm_p1, xm_p2, xq_fp, xq_fn, List.filter_nil, Nat.reduceBEq, Bool.not_true, Bool.not_false, Bool.and_true, Bool.and_false, Bool.false_and, Bool.true_and, if_true, if_false, Bool.false_eq_true, reduceIte, xc_i, xc_j, xc_r, xc_n, List.nil_append, List.cons_append, Option.toList_some, Option.toList_none, nI_ltJ, nI_leJ, nI_eqJ, nI_ltz, nI_gez, nI_gtz, nI_lez, nI_eqz, m1_ltz, m1_gez, true_imp_iff, false_imp_iff, true_and, and_true, ne_eq, not_false_eq_true, not_true_eq_false, Nat.reduceEqDiff, Nat.reduceLT, Nat.reduceLeDiff, e5, xf_102_6 F1, e1, hc']
      refine ⟨fun c => absurd c (by omega), fun c123 => ?_⟩
      with_reducible refine xm_go_blk b_X12_readWitness_132 k_X12_readWitness_132 ?_
      refine by_aload_n rfl ?_
      refine by_getf cn_284 fl_12_16 (by first | exact rfl | assumption) (by decide) ?_
      refine by_iload rfl ?_
      simp (disch := first | exact Nat.ne_of_beq_eq_false rfl | exact rfl | omega) only [nI_add, xa_sub, xa_mul, pk_div, nm_mod, xa_shr, xa_and7, xa_and1, xa_and255, xa_by_and, nI_m1, Nat.add_sub_cancel, Nat.reducePow, Nat.zero_add, Nat.add_zero, Nat.reduceAdd, Nat.reduceMul, Nat.reduceSub, xf_same, xq_ff, xq_fo, xf_1, xf_2, xs_1, xs_2, xs_same, xq_so, xj_1, xj_2, xj_same, xq_jo, xq_sa1, xq_same, xq_other, upd_s, oI_n, oI_s, e5, xf_102_6 F1, e1, hc']
      first | refine by_iald (by first | exact rfl | assumption | exact ps_1 hpp | exact ps_2 hpp | exact ps_3 hpp | exact ps_4 hpp | exact ps_5 hpp | exact ps_6 hpp | exact ps_7 hpp | exact ps_8 hpp | exact ps_9 hpp | exact ps_10 hpp | exact ps_11 hpp | exact ps_15 hpp | exact ps_16 hpp | exact ps_17 hpp | exact ps_18 hpp | exact ps_19 hpp | exact ps_21 hpp | exact ps_22 hpp | exact ps_23 hpp | exact ps_24 hpp) ⟨by omega, by omega⟩ ?_ | refine by_tald rfl rfl ⟨by omega, by omega⟩ ?_
      refine by_bipush cb_10 ?_
      refine by_ic_eq 147 rfl ?_
      simp (disch := first | exact Nat.ne_of_beq_eq_false rfl | exact rfl | omega) only [nI_add, xa_sub, xa_mul, pk_div, nm_mod, xa_shr, xa_and7, xa_and1, xa_and255, xa_by_and, nI_m1, Nat.add_sub_cancel, Nat.reducePow, Nat.zero_add, Nat.add_zero, Nat.reduceAdd, Nat.reduceMul, Nat.reduceSub, xf_same, xq_ff, xq_fo, xf_1, xf_2, xs_1, xs_2, xs_same, xq_so, xj_1, xj_2, xj_same, xq_jo, xq_sa1, xq_same, xq_other, upd_s, oI_n, oI_s, xv_0, xv_1, xv_2, xv_3, xm_p1, xm_p2, xq_fp, xq_fn, List.filter_nil, Nat.reduceBEq, Bool.not_true, Bool.not_false, Bool.and_true, Bool.and_false, Bool.false_and, Bool.true_and, if_true, if_false, Bool.false_eq_true, reduceIte, xc_i, xc_j, xc_r, xc_n, List.nil_append, List.cons_append, Option.toList_some, Option.toList_none, nI_ltJ, nI_leJ, nI_eqJ, nI_ltz, nI_gez, nI_gtz, nI_lez, nI_eqz, m1_ltz, m1_gez, true_imp_iff, false_imp_iff, true_and, and_true, ne_eq, not_false_eq_true, not_true_eq_false, Nat.reduceEqDiff, Nat.reduceLT, Nat.reduceLeDiff, e5, xf_102_6 F1, e1, hc']
      with_reducible refine xm_go_blk b_X12_readWitness_147 k_X12_readWitness_147 ?_
      refine by_iconst ci_0 ?_
      refine by_istore (by rw [ml_284]; decide) ?_
      refine by_nil ?_
      simp (disch := first | exact Nat.ne_of_beq_eq_false rfl | exact rfl | omega) only [nI_add, xa_sub, xa_mul, pk_div, nm_mod, xa_shr, xa_and7, xa_and1, xa_and255, xa_by_and, nI_m1, Nat.add_sub_cancel, Nat.reducePow, Nat.zero_add, Nat.add_zero, Nat.reduceAdd, Nat.reduceMul, Nat.reduceSub, xf_same, xq_ff, xq_fo, xf_1, xf_2, xs_1, xs_2, xs_same, xq_so, xj_1, xj_2, xj_same, xq_jo, xq_sa1, xq_same, xq_other, upd_s, oI_n, oI_s, xv_0, xv_1, xv_2, xv_3, xm_p1, xm_p2, xq_fp, xq_fn, List.filter_nil, Nat.reduceBEq, Bool.not_true, Bool.not_false, Bool.and_true, Bool.and_false, Bool.false_and, Bool.true_and, if_true, if_false, Bool.false_eq_true, reduceIte, xc_i, xc_j, xc_r, xc_n, List.nil_append, List.cons_append, Option.toList_some, Option.toList_none, e5, xf_102_6 F1, e1, hc']
      refine xm_go_wk (by simp [Value.category]) (mw_150 (w := nI w) (n := n) F1 (by omega) hl' e12 (by omega) ew j4 ea (by omega) (fun h2 f2 hbits => ?_) (ty_w (T n)) 0 h' (by omega) Fr_rf (fun i hi => absurd hi (by omega)))
      have F2 : XF h2 := Fr_XF F1 f2 (by decide +kernel)
      have e12' : h2.1 112 n = nI jj := by rw [f2.1 112 (by simp)]; exact e12
      have f12 : Fr [115, 116, 145] [] h h2 := Fr_tr hf f2 (by simp) (by simp)
      have hT2 : mtT h2 cn tr K Lf R := mtT_fr hT f12 (by simp) (by simp [mtR])
      have hval : ty_val (fun i => by_bit l (b + wsum cd T n + i)) (tr jj) 0 = ty_val (by_bit l) (T n) (b + wsum cd T n) := by
        rw [j3]
        exact ty_val_congr _ _ _ (fun i hi => by simp only [Nat.zero_add])
      with_reducible refine xm_go_blk b_X12_readWitness_195 k_X12_readWitness_195 ?_
      refine by_aload_n rfl ?_
      refine by_aload_n rfl ?_
      refine by_getf cn_284 fl_12_37 (by first | exact rfl | assumption) (by decide) ?_
      refine by_iload rfl ?_
      simp (disch := first | exact Nat.ne_of_beq_eq_false rfl | exact rfl | omega) only [nI_add, xa_sub, xa_mul, pk_div, nm_mod, xa_shr, xa_and7, xa_and1, xa_and255, xa_by_and, nI_m1, Nat.add_sub_cancel, Nat.reducePow, Nat.zero_add, Nat.add_zero, Nat.reduceAdd, Nat.reduceMul, Nat.reduceSub, xf_same, xq_ff, xq_fo, xf_1, xf_2, xs_1, xs_2, xs_same, xq_so, xj_1, xj_2, xj_same, xq_jo, xq_sa1, xq_same, xq_other, upd_s, oI_n, oI_s, xf_102_13 F2, e12']
      first | refine by_iald (by first | exact rfl | assumption | exact ps_1 hpp | exact ps_2 hpp | exact ps_3 hpp | exact ps_4 hpp | exact ps_5 hpp | exact ps_6 hpp | exact ps_7 hpp | exact ps_8 hpp | exact ps_9 hpp | exact ps_10 hpp | exact ps_11 hpp | exact ps_15 hpp | exact ps_16 hpp | exact ps_17 hpp | exact ps_18 hpp | exact ps_19 hpp | exact ps_21 hpp | exact ps_22 hpp | exact ps_23 hpp | exact ps_24 hpp) ⟨by omega, by omega⟩ ?_ | refine by_tald rfl rfl ⟨by omega, by omega⟩ ?_
      refine by_iconst ci_0 ?_
      simp (disch := first | exact Nat.ne_of_beq_eq_false rfl | exact rfl | omega) only [nI_add, xa_sub, xa_mul, pk_div, nm_mod, xa_shr, xa_and7, xa_and1, xa_and255, xa_by_and, nI_m1, Nat.add_sub_cancel, Nat.reducePow, Nat.zero_add, Nat.add_zero, Nat.reduceAdd, Nat.reduceMul, Nat.reduceSub, xf_same, xq_ff, xq_fo, xf_1, xf_2, xs_1, xs_2, xs_same, xq_so, xj_1, xj_2, xj_same, xq_jo, xq_sa1, xq_same, xq_other, upd_s, oI_n, oI_s, xv_0, xv_1, xv_2, xv_3, xm_p1, xm_p2, xq_fp, xq_fn, List.filter_nil, Nat.reduceBEq, Bool.not_true, Bool.not_false, Bool.and_true, Bool.and_false, Bool.false_and, Bool.true_and, if_true, if_false, Bool.false_eq_true, reduceIte, xc_i, xc_j, xc_r, xc_n, List.nil_append, List.cons_append, Option.toList_some, Option.toList_none, xf_102_13 F2, e12']
      refine by_inv2 cn_284 lk_12_286 (by rw [xe_cnt]; decide) is_237 np_237 cn_237 (by first | exact rfl | assumption) (Nat.le_of_ble_eq_true rfl) ?_
      refine sp_isValue (v := fun i => by_bit l (b + wsum cd T n + i)) F2 (vT_mt hT2 (by omega)) j0 j1 (by rw [j3]; exact j4) (by rw [j3]; omega) (fun i _ hi => ⟨hbits i (by rw [j3] at hi; omega), by_bit_lt l _⟩) (fun h3 hv f3 => ?_) (fun h3 hv f3 => ?_)
      · rw [hval] at hv
        with_reducible refine xm_go_blk b_X12_readWitness_207 k_X12_readWitness_207 ?_
        refine by_if_ne 213 rfl ?_
        simp (disch := first | exact Nat.ne_of_beq_eq_false rfl | exact rfl | omega) only [nI_add, xa_sub, xa_mul, pk_div, nm_mod, xa_shr, xa_and7, xa_and1, xa_and255, xa_by_and, nI_m1, Nat.add_sub_cancel, Nat.reducePow, Nat.zero_add, Nat.add_zero, Nat.reduceAdd, Nat.reduceMul, Nat.reduceSub, xf_same, xq_ff, xq_fo, xf_1, xf_2, xs_1, xs_2, xs_same, xq_so, xj_1, xj_2, xj_same, xq_jo, xq_sa1, xq_same, xq_other, upd_s, oI_n, oI_s, xv_0, xv_1, xv_2, xv_3, xm_p1, xm_p2, xq_fp, xq_fn, List.filter_nil, Nat.reduceBEq, Bool.not_true, Bool.not_false, Bool.and_true, Bool.and_false, Bool.false_and, Bool.true_and, if_true, if_false, Bool.false_eq_true, reduceIte, xc_i, xc_j, xc_r, xc_n, List.nil_append, List.cons_append, Option.toList_some, Option.toList_none, nI_ltJ, nI_leJ, nI_eqJ, nI_ltz, nI_gez, nI_gtz, nI_lez, nI_eqz, m1_ltz, m1_gez, true_imp_iff, false_imp_iff, true_and, and_true, ne_eq, not_false_eq_true, not_true_eq_false, Nat.reduceEqDiff, Nat.reduceLT, Nat.reduceLeDiff]
        with_reducible refine xm_go_blk b_X12_readWitness_213 k_X12_readWitness_213 ?_
        refine by_iinc (by rw [ml_284]; decide) rfl ci_1 ?_
        refine by_goto 123 rfl ?_
        simp (disch := first | exact Nat.ne_of_beq_eq_false rfl | exact rfl | omega) only [nI_add, xa_sub, xa_mul, pk_div, nm_mod, xa_shr, xa_and7, xa_and1, xa_and255, xa_by_and, nI_m1, Nat.add_sub_cancel, Nat.reducePow, Nat.zero_add, Nat.add_zero, Nat.reduceAdd, Nat.reduceMul, Nat.reduceSub, xf_same, xq_ff, xq_fo, xf_1, xf_2, xs_1, xs_2, xs_same, xq_so, xj_1, xj_2, xj_same, xq_jo, xq_sa1, xq_same, xq_other, upd_s, oI_n, oI_s, xv_0, xv_1, xv_2, xv_3, xm_p1, xm_p2, xq_fp, xq_fn, List.filter_nil, Nat.reduceBEq, Bool.not_true, Bool.not_false, Bool.and_true, Bool.and_false, Bool.false_and, Bool.true_and, if_true, if_false, Bool.false_eq_true, reduceIte, xc_i, xc_j, xc_r, xc_n, List.nil_append, List.cons_append, Option.toList_some, Option.toList_none]
        exact xm_go_wk (by simp [Value.category]) (ih (n + 1) h3 (by omega) (Fr_tr f12 f3 (by simp) (by simp)) (by rw [wall, hw, if_pos hc, hv]; rfl))
      · rw [hval] at hv
        with_reducible refine xm_go_blk b_X12_readWitness_207 k_X12_readWitness_207 ?_
        refine by_if_ne 213 rfl ?_
        simp (disch := first | exact Nat.ne_of_beq_eq_false rfl | exact rfl | omega) only [nI_add, xa_sub, xa_mul, pk_div, nm_mod, xa_shr, xa_and7, xa_and1, xa_and255, xa_by_and, nI_m1, Nat.add_sub_cancel, Nat.reducePow, Nat.zero_add, Nat.add_zero, Nat.reduceAdd, Nat.reduceMul, Nat.reduceSub, xf_same, xq_ff, xq_fo, xf_1, xf_2, xs_1, xs_2, xs_same, xq_so, xj_1, xj_2, xj_same, xq_jo, xq_sa1, xq_same, xq_other, upd_s, oI_n, oI_s, xv_0, xv_1, xv_2, xv_3, xm_p1, xm_p2, xq_fp, xq_fn, List.filter_nil, Nat.reduceBEq, Bool.not_true, Bool.not_false, Bool.and_true, Bool.and_false, Bool.false_and, Bool.true_and, if_true, if_false, Bool.false_eq_true, reduceIte, xc_i, xc_j, xc_r, xc_n, List.nil_append, List.cons_append, Option.toList_some, Option.toList_none, nI_ltJ, nI_leJ, nI_eqJ, nI_ltz, nI_gez, nI_gtz, nI_lez, nI_eqz, m1_ltz, m1_gez, true_imp_iff, false_imp_iff, true_and, and_true, ne_eq, not_false_eq_true, not_true_eq_false, Nat.reduceEqDiff, Nat.reduceLT, Nat.reduceLeDiff]
        with_reducible refine xm_go_blk b_X12_readWitness_210 k_X12_readWitness_210 ?_
        refine by_bipush cb_11 ?_
        refine by_iret ry_284 (by first | rfl | assumption) ?_
        refine h11 h3 (Fr_tr f12 f3 (by simp) (by simp)) (wall_f (n := n + 1) ?_ N (by omega))
        rw [wall, if_pos hc, hv, Bool.and_false]
    · have hc' : (cd n = 10) = False := eq_false hc
      with_reducible refine xm_go_blk b_X12_readWitness_123 k_X12_readWitness_123 ?_
      refine by_iload rfl ?_
      refine by_aload_n rfl ?_
      refine by_getf cn_284 fl_12_223 (by first | exact rfl | assumption) (by decide) ?_
      simp (disch := first | exact Nat.ne_of_beq_eq_false rfl | exact rfl | omega) only [nI_add, xa_sub, xa_mul, pk_div, nm_mod, xa_shr, xa_and7, xa_and1, xa_and255, xa_by_and, nI_m1, Nat.add_sub_cancel, Nat.reducePow, Nat.zero_add, Nat.add_zero, Nat.reduceAdd, Nat.reduceMul, Nat.reduceSub, xf_same, xq_ff, xq_fo, xf_1, xf_2, xs_1, xs_2, xs_same, xq_so, xj_1, xj_2, xj_same, xq_jo, xq_sa1, xq_same, xq_other, upd_s, oI_n, oI_s, e5, xf_102_6 F1, e1, hc']
      refine by_ic_ge 219 rfl ?_
      simp (disch := first | exact Nat.ne_of_beq_eq_false rfl | exact rfl | omega) only [nI_add, xa_sub, xa_mul, pk_div, nm_mod, xa_shr, xa_and7, xa_and1, xa_and255, xa_by_and, nI_m1, Nat.add_sub_cancel, Nat.reducePow, Nat.zero_add, Nat.add_zero, Nat.reduceAdd, Nat.reduceMul, Nat.reduceSub, xf_same, xq_ff, xq_fo, xf_1, xf_2, xs_1, xs_2, xs_same, xq_so, xj_1, xj_2, xj_same, xq_jo, xq_sa1, xq_same, xq_other, upd_s, oI_n, oI_s, xv_0, xv_1, xv_2, xv_3, xm_p1, xm_p2, xq_fp, xq_fn, List.filter_nil, Nat.reduceBEq, Bool.not_true, Bool.not_false, Bool.and_true, Bool.and_false, Bool.false_and, Bool.true_and, if_true, if_false, Bool.false_eq_true, reduceIte, xc_i, xc_j, xc_r, xc_n, List.nil_append, List.cons_append, Option.toList_some, Option.toList_none, nI_ltJ, nI_leJ, nI_eqJ, nI_ltz, nI_gez, nI_gtz, nI_lez, nI_eqz, m1_ltz, m1_gez, true_imp_iff, false_imp_iff, true_and, and_true, ne_eq, not_false_eq_true, not_true_eq_false, Nat.reduceEqDiff, Nat.reduceLT, Nat.reduceLeDiff, e5, xf_102_6 F1, e1, hc']
      refine ⟨fun c => absurd c (by omega), fun c123 => ?_⟩
      with_reducible refine xm_go_blk b_X12_readWitness_132 k_X12_readWitness_132 ?_
      refine by_aload_n rfl ?_
      refine by_getf cn_284 fl_12_16 (by first | exact rfl | assumption) (by decide) ?_
      refine by_iload rfl ?_
      simp (disch := first | exact Nat.ne_of_beq_eq_false rfl | exact rfl | omega) only [nI_add, xa_sub, xa_mul, pk_div, nm_mod, xa_shr, xa_and7, xa_and1, xa_and255, xa_by_and, nI_m1, Nat.add_sub_cancel, Nat.reducePow, Nat.zero_add, Nat.add_zero, Nat.reduceAdd, Nat.reduceMul, Nat.reduceSub, xf_same, xq_ff, xq_fo, xf_1, xf_2, xs_1, xs_2, xs_same, xq_so, xj_1, xj_2, xj_same, xq_jo, xq_sa1, xq_same, xq_other, upd_s, oI_n, oI_s, e5, xf_102_6 F1, e1, hc']
      first | refine by_iald (by first | exact rfl | assumption | exact ps_1 hpp | exact ps_2 hpp | exact ps_3 hpp | exact ps_4 hpp | exact ps_5 hpp | exact ps_6 hpp | exact ps_7 hpp | exact ps_8 hpp | exact ps_9 hpp | exact ps_10 hpp | exact ps_11 hpp | exact ps_15 hpp | exact ps_16 hpp | exact ps_17 hpp | exact ps_18 hpp | exact ps_19 hpp | exact ps_21 hpp | exact ps_22 hpp | exact ps_23 hpp | exact ps_24 hpp) ⟨by omega, by omega⟩ ?_ | refine by_tald rfl rfl ⟨by omega, by omega⟩ ?_
      refine by_bipush cb_10 ?_
      refine by_ic_eq 147 rfl ?_
      simp (disch := first | exact Nat.ne_of_beq_eq_false rfl | exact rfl | omega) only [nI_add, xa_sub, xa_mul, pk_div, nm_mod, xa_shr, xa_and7, xa_and1, xa_and255, xa_by_and, nI_m1, Nat.add_sub_cancel, Nat.reducePow, Nat.zero_add, Nat.add_zero, Nat.reduceAdd, Nat.reduceMul, Nat.reduceSub, xf_same, xq_ff, xq_fo, xf_1, xf_2, xs_1, xs_2, xs_same, xq_so, xj_1, xj_2, xj_same, xq_jo, xq_sa1, xq_same, xq_other, upd_s, oI_n, oI_s, xv_0, xv_1, xv_2, xv_3, xm_p1, xm_p2, xq_fp, xq_fn, List.filter_nil, Nat.reduceBEq, Bool.not_true, Bool.not_false, Bool.and_true, Bool.and_false, Bool.false_and, Bool.true_and, if_true, if_false, Bool.false_eq_true, reduceIte, xc_i, xc_j, xc_r, xc_n, List.nil_append, List.cons_append, Option.toList_some, Option.toList_none, nI_ltJ, nI_leJ, nI_eqJ, nI_ltz, nI_gez, nI_gtz, nI_lez, nI_eqz, m1_ltz, m1_gez, true_imp_iff, false_imp_iff, true_and, and_true, ne_eq, not_false_eq_true, not_true_eq_false, Nat.reduceEqDiff, Nat.reduceLT, Nat.reduceLeDiff, e5, xf_102_6 F1, e1, hc']
      with_reducible refine xm_go_blk b_X12_readWitness_144 k_X12_readWitness_144 ?_
      refine by_goto 213 rfl ?_
      with_reducible refine xm_go_blk b_X12_readWitness_213 k_X12_readWitness_213 ?_
      refine by_iinc (by rw [ml_284]; decide) rfl ci_1 ?_
      refine by_goto 123 rfl ?_
      simp (disch := first | exact Nat.ne_of_beq_eq_false rfl | exact rfl | omega) only [nI_add, xa_sub, xa_mul, pk_div, nm_mod, xa_shr, xa_and7, xa_and1, xa_and255, xa_by_and, nI_m1, Nat.add_sub_cancel, Nat.reducePow, Nat.zero_add, Nat.add_zero, Nat.reduceAdd, Nat.reduceMul, Nat.reduceSub, xf_same, xq_ff, xq_fo, xf_1, xf_2, xs_1, xs_2, xs_same, xq_so, xj_1, xj_2, xj_same, xq_jo, xq_sa1, xq_same, xq_other, upd_s, oI_n, oI_s, xv_0, xv_1, xv_2, xv_3, xm_p1, xm_p2, xq_fp, xq_fn, List.filter_nil, Nat.reduceBEq, Bool.not_true, Bool.not_false, Bool.and_true, Bool.and_false, Bool.false_and, Bool.true_and, if_true, if_false, Bool.false_eq_true, reduceIte, xc_i, xc_j, xc_r, xc_n, List.nil_append, List.cons_append, Option.toList_some, Option.toList_none, e5, xf_102_6 F1, e1, hc']
      exact xm_go_wk (by simp [Value.category]) (ih (n + 1) h' (by omega) hf (by rw [wall, hw, if_neg hc]; rfl))
/-- zeros behind -/
theorem mw_256 {a : Nat} {w : Int32} (hF : XF h) (hl : mrow h 103 l) (he : h.2.2 102 66 = .int (nI (8 * l.length))) (ha : a ≤ 8 * l.length) {g0 : Bool}
    (hgo : xm_go (XE sc) (xm_T (XE sc) (d + 1)) 284 post 292 [(0, .ref 102), (1, .int w), (4, .int (nI (g0 && bz (by_bit l) a (8 * l.length - a)).toNat))] [] h) :
    ∀ (j p : Nat), p + j = 8 * l.length → a ≤ p → xm_go (XE sc) (xm_T (XE sc) (d + 1)) 284 post 256 [(5, .int (nI p)), (4, .int (nI (g0 && bz (by_bit l) a (p - a)).toNat)), (0, .ref 102), (1, .int w)] [] h := by
  have hll := hl.2.2
  intro j
  induction j with
  | zero =>
    intro p hj hp
    have : p = 8 * l.length := by omega
    subst this
    with_reducible refine xm_go_blk b_X12_readWitness_256 k_X12_readWitness_256 ?_
    refine by_iload rfl ?_
    refine by_aload_n rfl ?_
    refine by_getf cn_284 fl_12_336 (by first | exact rfl | assumption) (by decide) ?_
    simp (disch := first | exact Nat.ne_of_beq_eq_false rfl | exact rfl | omega) only [nI_add, xa_sub, xa_mul, pk_div, nm_mod, xa_shr, xa_and7, xa_and1, xa_and255, xa_by_and, nI_m1, Nat.add_sub_cancel, Nat.reducePow, Nat.zero_add, Nat.add_zero, Nat.reduceAdd, Nat.reduceMul, Nat.reduceSub, xf_same, xq_ff, xq_fo, xf_1, xf_2, xs_1, xs_2, xs_same, xq_so, xj_1, xj_2, xj_same, xq_jo, xq_sa1, xq_same, xq_other, upd_s, oI_n, oI_s, he]
    refine by_ic_ge 292 rfl ?_
    simp (disch := first | exact Nat.ne_of_beq_eq_false rfl | exact rfl | omega) only [nI_add, xa_sub, xa_mul, pk_div, nm_mod, xa_shr, xa_and7, xa_and1, xa_and255, xa_by_and, nI_m1, Nat.add_sub_cancel, Nat.reducePow, Nat.zero_add, Nat.add_zero, Nat.reduceAdd, Nat.reduceMul, Nat.reduceSub, xf_same, xq_ff, xq_fo, xf_1, xf_2, xs_1, xs_2, xs_same, xq_so, xj_1, xj_2, xj_same, xq_jo, xq_sa1, xq_same, xq_other, upd_s, oI_n, oI_s, xv_0, xv_1, xv_2, xv_3, xm_p1, xm_p2, xq_fp, xq_fn, List.filter_nil, Nat.reduceBEq, Bool.not_true, Bool.not_false, Bool.and_true, Bool.and_false, Bool.false_and, Bool.true_and, if_true, if_false, Bool.false_eq_true, reduceIte, xc_i, xc_j, xc_r, xc_n, List.nil_append, List.cons_append, Option.toList_some, Option.toList_none, nI_ltJ, nI_leJ, nI_eqJ, nI_ltz, nI_gez, nI_gtz, nI_lez, nI_eqz, m1_ltz, m1_gez, true_imp_iff, false_imp_iff, true_and, and_true, ne_eq, not_false_eq_true, not_true_eq_false, Nat.reduceEqDiff, Nat.reduceLT, Nat.reduceLeDiff, he]
    refine ⟨fun c256 => ?_, fun c => absurd (by omega) c⟩
    exact xm_go_wk (by simp [Value.category]) hgo
  | succ j ih =>
    intro p hj hp
    have hg := ih (p + 1) (by omega) (by omega)
    rw [show p + 1 - a = (p - a) + 1 by omega, bz_upd, show a + (p - a) = p by omega] at hg
    cases eg : (g0 && bz (by_bit l) a (p - a))
    · have hz : (g0 && bz (by_bit l) a (8 * l.length - a)) = false := by
        cases g0 with
        | false => rfl
        | true =>
          rw [Bool.true_and] at eg ⊢
          cases hq : bz (by_bit l) a (8 * l.length - a)
          · rfl
          · have : bz (by_bit l) a (p - a) = true := bz_iff.mpr (fun i hi => bz_iff.mp hq i (by omega))
            rw [this] at eg; cases eg
      rw [hz] at hgo
      with_reducible refine xm_go_blk b_X12_readWitness_256 k_X12_readWitness_256 ?_
      refine by_iload rfl ?_
      refine by_aload_n rfl ?_
      refine by_getf cn_284 fl_12_336 (by first | exact rfl | assumption) (by decide) ?_
      simp (disch := first | exact Nat.ne_of_beq_eq_false rfl | exact rfl | omega) only [nI_add, xa_sub, xa_mul, pk_div, nm_mod, xa_shr, xa_and7, xa_and1, xa_and255, xa_by_and, nI_m1, Nat.add_sub_cancel, Nat.reducePow, Nat.zero_add, Nat.add_zero, Nat.reduceAdd, Nat.reduceMul, Nat.reduceSub, xf_same, xq_ff, xq_fo, xf_1, xf_2, xs_1, xs_2, xs_same, xq_so, xj_1, xj_2, xj_same, xq_jo, xq_sa1, xq_same, xq_other, upd_s, oI_n, oI_s, he, Bool.toNat_false]
      refine by_ic_ge 292 rfl ?_
      simp (disch := first | exact Nat.ne_of_beq_eq_false rfl | exact rfl | omega) only [nI_add, xa_sub, xa_mul, pk_div, nm_mod, xa_shr, xa_and7, xa_and1, xa_and255, xa_by_and, nI_m1, Nat.add_sub_cancel, Nat.reducePow, Nat.zero_add, Nat.add_zero, Nat.reduceAdd, Nat.reduceMul, Nat.reduceSub, xf_same, xq_ff, xq_fo, xf_1, xf_2, xs_1, xs_2, xs_same, xq_so, xj_1, xj_2, xj_same, xq_jo, xq_sa1, xq_same, xq_other, upd_s, oI_n, oI_s, xv_0, xv_1, xv_2, xv_3, xm_p1, xm_p2, xq_fp, xq_fn, List.filter_nil, Nat.reduceBEq, Bool.not_true, Bool.not_false, Bool.and_true, Bool.and_false, Bool.false_and, Bool.true_and, if_true, if_false, Bool.false_eq_true, reduceIte, xc_i, xc_j, xc_r, xc_n, List.nil_append, List.cons_append, Option.toList_some, Option.toList_none, nI_ltJ, nI_leJ, nI_eqJ, nI_ltz, nI_gez, nI_gtz, nI_lez, nI_eqz, m1_ltz, m1_gez, true_imp_iff, false_imp_iff, true_and, and_true, ne_eq, not_false_eq_true, not_true_eq_false, Nat.reduceEqDiff, Nat.reduceLT, Nat.reduceLeDiff, he, Bool.toNat_false]
      refine ⟨fun c => absurd c (by omega), fun c256 => ?_⟩
      with_reducible refine xm_go_blk b_X12_readWitness_265 k_X12_readWitness_265 ?_
      refine by_iload rfl ?_
      refine by_if_eq 292 rfl ?_
      simp (disch := first | exact Nat.ne_of_beq_eq_false rfl | exact rfl | omega) only [nI_add, xa_sub, xa_mul, pk_div, nm_mod, xa_shr, xa_and7, xa_and1, xa_and255, xa_by_and, nI_m1, Nat.add_sub_cancel, Nat.reducePow, Nat.zero_add, Nat.add_zero, Nat.reduceAdd, Nat.reduceMul, Nat.reduceSub, xf_same, xq_ff, xq_fo, xf_1, xf_2, xs_1, xs_2, xs_same, xq_so, xj_1, xj_2, xj_same, xq_jo, xq_sa1, xq_same, xq_other, upd_s, oI_n, oI_s, xv_0, xv_1, xv_2, xv_3, xm_p1, xm_p2, xq_fp, xq_fn, List.filter_nil, Nat.reduceBEq, Bool.not_true, Bool.not_false, Bool.and_true, Bool.and_false, Bool.false_and, Bool.true_and, if_true, if_false, Bool.false_eq_true, reduceIte, xc_i, xc_j, xc_r, xc_n, List.nil_append, List.cons_append, Option.toList_some, Option.toList_none, nI_ltJ, nI_leJ, nI_eqJ, nI_ltz, nI_gez, nI_gtz, nI_lez, nI_eqz, m1_ltz, m1_gez, true_imp_iff, false_imp_iff, true_and, and_true, ne_eq, not_false_eq_true, not_true_eq_false, Nat.reduceEqDiff, Nat.reduceLT, Nat.reduceLeDiff, he, Bool.toNat_false]
      exact xm_go_wk (by simp [Value.category]) hgo
    · obtain ⟨g1, g2⟩ := (Bool.and_eq_true _ _).mp eg
      with_reducible refine xm_go_blk b_X12_readWitness_256 k_X12_readWitness_256 ?_
      refine by_iload rfl ?_
      refine by_aload_n rfl ?_
      refine by_getf cn_284 fl_12_336 (by first | exact rfl | assumption) (by decide) ?_
      simp (disch := first | exact Nat.ne_of_beq_eq_false rfl | exact rfl | omega) only [nI_add, xa_sub, xa_mul, pk_div, nm_mod, xa_shr, xa_and7, xa_and1, xa_and255, xa_by_and, nI_m1, Nat.add_sub_cancel, Nat.reducePow, Nat.zero_add, Nat.add_zero, Nat.reduceAdd, Nat.reduceMul, Nat.reduceSub, xf_same, xq_ff, xq_fo, xf_1, xf_2, xs_1, xs_2, xs_same, xq_so, xj_1, xj_2, xj_same, xq_jo, xq_sa1, xq_same, xq_other, upd_s, oI_n, oI_s, he, Bool.toNat_true]
      refine by_ic_ge 292 rfl ?_
      simp (disch := first | exact Nat.ne_of_beq_eq_false rfl | exact rfl | omega) only [nI_add, xa_sub, xa_mul, pk_div, nm_mod, xa_shr, xa_and7, xa_and1, xa_and255, xa_by_and, nI_m1, Nat.add_sub_cancel, Nat.reducePow, Nat.zero_add, Nat.add_zero, Nat.reduceAdd, Nat.reduceMul, Nat.reduceSub, xf_same, xq_ff, xq_fo, xf_1, xf_2, xs_1, xs_2, xs_same, xq_so, xj_1, xj_2, xj_same, xq_jo, xq_sa1, xq_same, xq_other, upd_s, oI_n, oI_s, xv_0, xv_1, xv_2, xv_3, xm_p1, xm_p2, xq_fp, xq_fn, List.filter_nil, Nat.reduceBEq, Bool.not_true, Bool.not_false, Bool.and_true, Bool.and_false, Bool.false_and, Bool.true_and, if_true, if_false, Bool.false_eq_true, reduceIte, xc_i, xc_j, xc_r, xc_n, List.nil_append, List.cons_append, Option.toList_some, Option.toList_none, nI_ltJ, nI_leJ, nI_eqJ, nI_ltz, nI_gez, nI_gtz, nI_lez, nI_eqz, m1_ltz, m1_gez, true_imp_iff, false_imp_iff, true_and, and_true, ne_eq, not_false_eq_true, not_true_eq_false, Nat.reduceEqDiff, Nat.reduceLT, Nat.reduceLeDiff, he, Bool.toNat_true]
      refine ⟨fun c => absurd c (by omega), fun c256 => ?_⟩
      with_reducible refine xm_go_blk b_X12_readWitness_265 k_X12_readWitness_265 ?_
      refine by_iload rfl ?_
      refine by_if_eq 292 rfl ?_
      simp (disch := first | exact Nat.ne_of_beq_eq_false rfl | exact rfl | omega) only [nI_add, xa_sub, xa_mul, pk_div, nm_mod, xa_shr, xa_and7, xa_and1, xa_and255, xa_by_and, nI_m1, Nat.add_sub_cancel, Nat.reducePow, Nat.zero_add, Nat.add_zero, Nat.reduceAdd, Nat.reduceMul, Nat.reduceSub, xf_same, xq_ff, xq_fo, xf_1, xf_2, xs_1, xs_2, xs_same, xq_so, xj_1, xj_2, xj_same, xq_jo, xq_sa1, xq_same, xq_other, upd_s, oI_n, oI_s, xv_0, xv_1, xv_2, xv_3, xm_p1, xm_p2, xq_fp, xq_fn, List.filter_nil, Nat.reduceBEq, Bool.not_true, Bool.not_false, Bool.and_true, Bool.and_false, Bool.false_and, Bool.true_and, if_true, if_false, Bool.false_eq_true, reduceIte, xc_i, xc_j, xc_r, xc_n, List.nil_append, List.cons_append, Option.toList_some, Option.toList_none, nI_ltJ, nI_leJ, nI_eqJ, nI_ltz, nI_gez, nI_gtz, nI_lez, nI_eqz, m1_ltz, m1_gez, true_imp_iff, false_imp_iff, true_and, and_true, ne_eq, not_false_eq_true, not_true_eq_false, Nat.reduceEqDiff, Nat.reduceLT, Nat.reduceLeDiff, he, Bool.toNat_true]
      with_reducible refine xm_go_blk b_X12_readWitness_270 k_X12_readWitness_270 ?_
      refine by_aload_n rfl ?_
      refine by_iload rfl ?_
      refine by_inv1 cn_284 lk_12_283 (by rw [xe_cnt]; decide) is_305 np_305 cn_305 (by first | exact rfl | assumption) (Nat.le_of_ble_eq_true rfl) ?_
      refine sp_mtb hF hl (by omega) ?_
      have hb2 := by_bit_lt l p
      by_cases e0 : by_bit l p = 0
      · rw [e0, g1, g2] at hg
        rw [e0]
        with_reducible refine xm_go_blk b_X12_readWitness_276 k_X12_readWitness_276 ?_
        refine by_if_ne 283 rfl ?_
        simp (disch := first | exact Nat.ne_of_beq_eq_false rfl | exact rfl | omega) only [nI_add, xa_sub, xa_mul, pk_div, nm_mod, xa_shr, xa_and7, xa_and1, xa_and255, xa_by_and, nI_m1, Nat.add_sub_cancel, Nat.reducePow, Nat.zero_add, Nat.add_zero, Nat.reduceAdd, Nat.reduceMul, Nat.reduceSub, xf_same, xq_ff, xq_fo, xf_1, xf_2, xs_1, xs_2, xs_same, xq_so, xj_1, xj_2, xj_same, xq_jo, xq_sa1, xq_same, xq_other, upd_s, oI_n, oI_s, xv_0, xv_1, xv_2, xv_3, xm_p1, xm_p2, xq_fp, xq_fn, List.filter_nil, Nat.reduceBEq, Bool.not_true, Bool.not_false, Bool.and_true, Bool.and_false, Bool.false_and, Bool.true_and, if_true, if_false, Bool.false_eq_true, reduceIte, xc_i, xc_j, xc_r, xc_n, List.nil_append, List.cons_append, Option.toList_some, Option.toList_none, nI_ltJ, nI_leJ, nI_eqJ, nI_ltz, nI_gez, nI_gtz, nI_lez, nI_eqz, m1_ltz, m1_gez, true_imp_iff, false_imp_iff, true_and, and_true, ne_eq, not_false_eq_true, not_true_eq_false, Nat.reduceEqDiff, Nat.reduceLT, Nat.reduceLeDiff]
        with_reducible refine xm_go_blk b_X12_readWitness_279 k_X12_readWitness_279 ?_
        refine by_iconst ci_1 ?_
        refine by_goto 284 rfl ?_
        with_reducible refine xm_go_blk b_X12_readWitness_284 k_X12_readWitness_284 ?_
        refine by_istore (by rw [ml_284]; decide) ?_
        refine by_iinc (by rw [ml_284]; decide) rfl ci_1 ?_
        refine by_goto 256 rfl ?_
        simp (disch := first | exact Nat.ne_of_beq_eq_false rfl | exact rfl | omega) only [nI_add, xa_sub, xa_mul, pk_div, nm_mod, xa_shr, xa_and7, xa_and1, xa_and255, xa_by_and, nI_m1, Nat.add_sub_cancel, Nat.reducePow, Nat.zero_add, Nat.add_zero, Nat.reduceAdd, Nat.reduceMul, Nat.reduceSub, xf_same, xq_ff, xq_fo, xf_1, xf_2, xs_1, xs_2, xs_same, xq_so, xj_1, xj_2, xj_same, xq_jo, xq_sa1, xq_same, xq_other, upd_s, oI_n, oI_s, xv_0, xv_1, xv_2, xv_3, xm_p1, xm_p2, xq_fp, xq_fn, List.filter_nil, Nat.reduceBEq, Bool.not_true, Bool.not_false, Bool.and_true, Bool.and_false, Bool.false_and, Bool.true_and, if_true, if_false, Bool.false_eq_true, reduceIte, xc_i, xc_j, xc_r, xc_n, List.nil_append, List.cons_append, Option.toList_some, Option.toList_none]
        exact xm_go_wk (by simp [Value.category]) hg
      · have e1 : by_bit l p = 1 := by omega
        rw [e1, g1, g2] at hg
        rw [e1]
        with_reducible refine xm_go_blk b_X12_readWitness_276 k_X12_readWitness_276 ?_
        refine by_if_ne 283 rfl ?_
        simp (disch := first | exact Nat.ne_of_beq_eq_false rfl | exact rfl | omega) only [nI_add, xa_sub, xa_mul, pk_div, nm_mod, xa_shr, xa_and7, xa_and1, xa_and255, xa_by_and, nI_m1, Nat.add_sub_cancel, Nat.reducePow, Nat.zero_add, Nat.add_zero, Nat.reduceAdd, Nat.reduceMul, Nat.reduceSub, xf_same, xq_ff, xq_fo, xf_1, xf_2, xs_1, xs_2, xs_same, xq_so, xj_1, xj_2, xj_same, xq_jo, xq_sa1, xq_same, xq_other, upd_s, oI_n, oI_s, xv_0, xv_1, xv_2, xv_3, xm_p1, xm_p2, xq_fp, xq_fn, List.filter_nil, Nat.reduceBEq, Bool.not_true, Bool.not_false, Bool.and_true, Bool.and_false, Bool.false_and, Bool.true_and, if_true, if_false, Bool.false_eq_true, reduceIte, xc_i, xc_j, xc_r, xc_n, List.nil_append, List.cons_append, Option.toList_some, Option.toList_none, nI_ltJ, nI_leJ, nI_eqJ, nI_ltz, nI_gez, nI_gtz, nI_lez, nI_eqz, m1_ltz, m1_gez, true_imp_iff, false_imp_iff, true_and, and_true, ne_eq, not_false_eq_true, not_true_eq_false, Nat.reduceEqDiff, Nat.reduceLT, Nat.reduceLeDiff]
        with_reducible refine xm_go_blk b_X12_readWitness_283 k_X12_readWitness_283 ?_
        refine by_iconst ci_0 ?_
        refine by_nil ?_
        with_reducible refine xm_go_blk b_X12_readWitness_284 k_X12_readWitness_284 ?_
        refine by_istore (by rw [ml_284]; decide) ?_
        refine by_iinc (by rw [ml_284]; decide) rfl ci_1 ?_
        refine by_goto 256 rfl ?_
        simp (disch := first | exact Nat.ne_of_beq_eq_false rfl | exact rfl | omega) only [nI_add, xa_sub, xa_mul, pk_div, nm_mod, xa_shr, xa_and7, xa_and1, xa_and255, xa_by_and, nI_m1, Nat.add_sub_cancel, Nat.reducePow, Nat.zero_add, Nat.add_zero, Nat.reduceAdd, Nat.reduceMul, Nat.reduceSub, xf_same, xq_ff, xq_fo, xf_1, xf_2, xs_1, xs_2, xs_same, xq_so, xj_1, xj_2, xj_same, xq_jo, xq_sa1, xq_same, xq_other, upd_s, oI_n, oI_s, xv_0, xv_1, xv_2, xv_3, xm_p1, xm_p2, xq_fp, xq_fn, List.filter_nil, Nat.reduceBEq, Bool.not_true, Bool.not_false, Bool.and_true, Bool.and_false, Bool.false_and, Bool.true_and, if_true, if_false, Bool.false_eq_true, reduceIte, xc_i, xc_j, xc_r, xc_n, List.nil_append, List.cons_append, Option.toList_some, Option.toList_none]
        exact xm_go_wk (by simp [Value.category]) hg
end MW
