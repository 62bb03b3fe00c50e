/-! ===== the reference: readWitness ===== -/
theorem bb_n {b : Nat} (hb : b < 2) : vp_nar .byte ((nI b).toInt8.toInt32) = nI b := by
  rcases (by omega : b = 0 ∨ b = 1) with rfl | rfl <;> decide
section MW
variable {sc : xm_Sc} {d N cn : Nat} {cd : Nat → Nat} {T : Nat → Ty} {tr : Nat → Ty} {K Lf R : Nat → Nat} {l : List Nat} {h : xm_H} {post : xm_Po}
/-- what readWitness needs of the program -/
def mwN (h : xm_H) (N : Nat) (cd : Nat → Nat) (T : Nat → Ty) (cn : Nat) (tr : Nat → Ty) : Prop := h.2.2 102 5 = .int (nI N) ∧ ∀ n, n < N → h.1 105 n = nI (cd n) ∧ cd n ≤ 12 ∧ (cd n = 10 → ∃ j, 3200 ≤ j ∧ j < cn ∧ h.1 112 n = nI j ∧ tr j = T n ∧ ty_w (T n) ≤ 2048)
theorem mwN_fr {S : List Nat} {TT : List (Nat × Nat)} {h' : xm_H} (hW : mwN h N cd T cn tr) (hf : Fr S TT h h') (h1 : (102, 5) ∉ TT) (h5 : 105 ∉ S) (h12 : 112 ∉ S) : mwN h' N cd T cn tr := by
  refine ⟨by rw [hf.2.2 _ _ h1]; exact hW.1, fun n hn => ?_⟩
  rw [hf.1 _ h5, hf.1 _ h12]
  exact hW.2 n hn
theorem mw_b (hW : mwN h N cd T cn tr) : ∀ n, n ≤ N → wsum cd T n ≤ 2048 * n := by
  intro n
  induction n with
  | zero => intro _; exact Nat.le_refl _
  | succ n ih =>
    intro hn
    have := ih (by omega)
    simp only [wsum, wtF]
    split
    · rename_i hc
      obtain ⟨jj, j0, j1, j2, j3, j4⟩ := (hW.2 n (by omega)).2.2 hc
      omega
    · omega
theorem mw_w {jj : Nat} {X : Ty} (hT : mtT h cn tr K Lf R) (j0 : 3200 ≤ jj) (j1 : jj < cn) (j3 : tr jj = X) (j4 : ty_w X ≤ 2048) : h.1 132 jj = nI (ty_w X) := by
  have := ft_w hT j0 j1
  rw [j3, Nat.min_eq_right (by omega)] at this
  exact this
/-- where the witnesses' bits begin, and how many they are -/
theorem mw_49 {b w : Nat} (hN : N ≤ 400) (hF : XF h) (hW : mwN h N cd T cn tr) (hT : mtT h cn tr K Lf R) (hcn : cn ≤ 17211) (hb : h.2.2 102 65 = .int (nI b)) (hb2 : b ≤ 70000)
    (hgo : ∀ h', Fr [151] [] h h' → (∀ m, m < N → h'.1 151 m = nI (b + wsum cd T m)) → xm_go (XE sc) (xm_T (XE sc) (d + 1)) 284 post 110 [(0, .ref 102), (1, .int (nI w)), (2, .long (lN (wsum cd T N)))] [] h') :
    ∀ (j n : Nat) (h' : xm_H), n + j = N → Fr [151] [] h h' → (∀ m, m < n → h'.1 151 m = nI (b + wsum cd T m)) → xm_go (XE sc) (xm_T (XE sc) (d + 1)) 284 post 49 [(4, .int (nI n)), (2, .long (lN (wsum cd T n))), (0, .ref 102), (1, .int (nI w))] [] h' := by
  intro j
  induction j with
  | zero =>
    intro n h' hj hf hrow
    have : n = N := by omega
    subst this
    have e5 : h'.2.2 102 5 = .int (nI n) := by rw [hf.2.2 _ _ (by simp)]; exact hW.1
    with_reducible refine xm_go_blk b_X12_readWitness_49 k_X12_readWitness_49 ?_
    refine by_iload rfl ?_
    refine by_aload_n rfl ?_
    refine by_getf cn_284 fl_12_223 (by first | exact rfl | assumption) (by decide) ?_
    simp (disch := first | exact Nat.ne_of_beq_eq_false rfl | exact rfl | omega) only [nI_add, xa_sub, xa_mul, pk_div, nm_mod, xa_shr, xa_and7, xa_and1, xa_and255, xa_by_and, nI_m1, Nat.add_sub_cancel, Nat.reducePow, Nat.zero_add, Nat.add_zero, Nat.reduceAdd, Nat.reduceMul, Nat.reduceSub, xf_same, xq_ff, xq_fo, xf_1, xf_2, xs_1, xs_2, xs_same, xq_so, xj_1, xj_2, xj_same, xq_jo, xq_sa1, xq_same, xq_other, upd_s, oI_n, oI_s, e5]
    refine by_ic_ge 110 rfl ?_
    simp (disch := first | exact Nat.ne_of_beq_eq_false rfl | exact rfl | omega) only [nI_add, xa_sub, xa_mul, pk_div, nm_mod, xa_shr, xa_and7, xa_and1, xa_and255, xa_by_and, nI_m1, Nat.add_sub_cancel, Nat.reducePow, Nat.zero_add, Nat.add_zero, Nat.reduceAdd, Nat.reduceMul, Nat.reduceSub, xf_same, xq_ff, xq_fo, xf_1, xf_2, xs_1, xs_2, xs_same, xq_so, xj_1, xj_2, xj_same, xq_jo, xq_sa1, xq_same, xq_other, upd_s, oI_n, oI_s, xv_0, xv_1, xv_2, xv_3, xm_p1, xm_p2, xq_fp, xq_fn, List.filter_nil, Nat.reduceBEq, Bool.not_true, Bool.not_false, Bool.and_true, Bool.and_false, Bool.false_and, Bool.true_and, if_true, if_false, Bool.false_eq_true, reduceIte, xc_i, xc_j, xc_r, xc_n, List.nil_append, List.cons_append, Option.toList_some, Option.toList_none, nI_ltJ, nI_leJ, nI_eqJ, nI_ltz, nI_gez, nI_gtz, nI_lez, nI_eqz, m1_ltz, m1_gez, true_imp_iff, false_imp_iff, true_and, and_true, ne_eq, not_false_eq_true, not_true_eq_false, Nat.reduceEqDiff, Nat.reduceLT, Nat.reduceLeDiff, e5]
    refine ⟨fun c49 => ?_, fun c => absurd (by omega) c⟩
    exact xm_go_wk (by simp [Value.category]) (hgo h' hf hrow)
  | succ j ih =>
    intro n h' hj hf hrow
    have hnN : n < N := by omega
    have e5 : h'.2.2 102 5 = .int (nI N) := by rw [hf.2.2 _ _ (by simp)]; exact hW.1
    have e65 : h'.2.2 102 65 = .int (nI b) := by rw [hf.2.2 _ _ (by simp)]; exact hb
    have F1 : XF h' := Fr_XF hF hf (by decide +kernel)
    obtain ⟨a1, a2, a3⟩ := hW.2 n hnN
    have e1 : h'.1 105 n = nI (cd n) := by rw [hf.1 105 (by simp)]; exact a1
    have hb1 := mw_b hW n (by omega)
    have hg := ih (n + 1) (xm_si h' 151 n (nI (b + wsum cd T n))) (by omega) (Fr_si hf (by simp)) (fun m hm => by
      by_cases e : m = n
      · subst e; rw [xs_same, upd_s]
      · rw [xs_same, upd_o e]; exact hrow m (by omega))
    by_cases hc : cd n = 10
    · have hc' : (cd n = 10) = True := eq_true hc
      obtain ⟨jj, j0, j1, j2, j3, j4⟩ := a3 hc
      have e12 : h'.1 112 n = nI jj := by rw [hf.1 112 (by simp)]; exact j2
      have ew : h'.1 132 jj = nI (ty_w (T n)) := by rw [hf.1 132 (by simp)]; exact mw_w hT j0 j1 j3 j4
      have hwt : wsum cd T (n + 1) = wsum cd T n + ty_w (T n) := by simp only [wsum, wtF, hc, if_true]
      rw [hwt] at hg
      with_reducible refine xm_go_blk b_X12_readWitness_49 k_X12_readWitness_49 ?_
      refine by_iload rfl ?_
      refine by_aload_n rfl ?_
      refine by_getf cn_284 fl_12_223 (by first | exact rfl | assumption) (by decide) ?_
      simp (disch := first | exact Nat.ne_of_beq_eq_false rfl | exact rfl | omega) only [nI_add, xa_sub, xa_mul, pk_div, nm_mod, xa_shr, xa_and7, xa_and1, xa_and255, xa_by_and, nI_m1, Nat.add_sub_cancel, Nat.reducePow, Nat.zero_add, Nat.add_zero, Nat.reduceAdd, Nat.reduceMul, Nat.reduceSub, xf_same, xq_ff, xq_fo, xf_1, xf_2, xs_1, xs_2, xs_same, xq_so, xj_1, xj_2, xj_same, xq_jo, xq_sa1, xq_same, xq_other, upd_s, oI_n, oI_s, e5, xf_102_68 F1, e65, l2i_n, xf_102_6 F1, e1, hc', xf_102_44 F1, xf_102_13 F1, e12, ew, i2l_n (show ty_w (T n) < 2147483648 by omega), lN_pl]
      refine by_ic_ge 110 rfl ?_
      simp (disch := first | exact Nat.ne_of_beq_eq_false rfl | exact rfl | omega) only [nI_add, xa_sub, xa_mul, pk_div, nm_mod, xa_shr, xa_and7, xa_and1, xa_and255, xa_by_and, nI_m1, Nat.add_sub_cancel, Nat.reducePow, Nat.zero_add, Nat.add_zero, Nat.reduceAdd, Nat.reduceMul, Nat.reduceSub, xf_same, xq_ff, xq_fo, xf_1, xf_2, xs_1, xs_2, xs_same, xq_so, xj_1, xj_2, xj_same, xq_jo, xq_sa1, xq_same, xq_other, upd_s, oI_n, oI_s, xv_0, xv_1, xv_2, xv_3, xm_p1, xm_p2, xq_fp, xq_fn, List.filter_nil, Nat.reduceBEq, Bool.not_true, Bool.not_false, Bool.and_true, Bool.and_false, Bool.false_and, Bool.true_and, if_true, if_false, Bool.false_eq_true, reduceIte, xc_i, xc_j, xc_r, xc_n, List.nil_append, List.cons_append, Option.toList_some, Option.toList_none, nI_ltJ, nI_leJ, nI_eqJ, nI_ltz, nI_gez, nI_gtz, nI_lez, nI_eqz, m1_ltz, m1_gez, true_imp_iff, false_imp_iff, true_and, and_true, ne_eq, not_false_eq_true, not_true_eq_false, Nat.reduceEqDiff, Nat.reduceLT, Nat.reduceLeDiff, e5, xf_102_68 F1, e65, l2i_n, xf_102_6 F1, e1, hc', xf_102_44 F1, xf_102_13 F1, e12, ew, i2l_n (show ty_w (T n) < 2147483648 by omega), lN_pl]
      refine ⟨fun c => absurd c (by omega), fun c49 => ?_⟩
      with_reducible refine xm_go_blk b_X12_readWitness_58 k_X12_readWitness_58 ?_
      refine by_aload_n rfl ?_
      refine by_getf cn_284 fl_12_160 (by first | exact rfl | assumption) (by decide) ?_
      refine by_iload rfl ?_
      refine by_aload_n rfl ?_
      refine by_getf cn_284 fl_12_333 (by first | exact rfl | assumption) (by decide) ?_
      refine by_lload_n rfl ?_
      refine by_l2i ?_
      simp (disch := first | exact Nat.ne_of_beq_eq_false rfl | exact rfl | omega) only [nI_add, xa_sub, xa_mul, pk_div, nm_mod, xa_shr, xa_and7, xa_and1, xa_and255, xa_by_and, nI_m1, Nat.add_sub_cancel, Nat.reducePow, Nat.zero_add, Nat.add_zero, Nat.reduceAdd, Nat.reduceMul, Nat.reduceSub, xf_same, xq_ff, xq_fo, xf_1, xf_2, xs_1, xs_2, xs_same, xq_so, xj_1, xj_2, xj_same, xq_jo, xq_sa1, xq_same, xq_other, upd_s, oI_n, oI_s, e5, xf_102_68 F1, e65, l2i_n, xf_102_6 F1, e1, hc', xf_102_44 F1, xf_102_13 F1, e12, ew, i2l_n (show ty_w (T n) < 2147483648 by omega), lN_pl]
      refine by_iadd ?_
      refine by_iast (by first | exact rfl | assumption | exact ps_1 hpp | exact ps_2 hpp | exact ps_3 hpp | exact ps_4 hpp | exact ps_5 hpp | exact ps_6 hpp | exact ps_7 hpp | exact ps_8 hpp | exact ps_9 hpp | exact ps_10 hpp | exact ps_11 hpp | exact ps_15 hpp | exact ps_16 hpp | exact ps_17 hpp | exact ps_18 hpp | exact ps_19 hpp | exact ps_21 hpp | exact ps_22 hpp | exact ps_23 hpp | exact ps_24 hpp) ⟨by omega, by omega⟩ ?_
      refine by_lload_n rfl ?_
      refine by_aload_n rfl ?_
      refine by_getf cn_284 fl_12_16 (by first | exact rfl | assumption) (by decide) ?_
      refine by_iload rfl ?_
      simp (disch := first | exact Nat.ne_of_beq_eq_false rfl | exact rfl | omega) only [nI_add, xa_sub, xa_mul, pk_div, nm_mod, xa_shr, xa_and7, xa_and1, xa_and255, xa_by_and, nI_m1, Nat.add_sub_cancel, Nat.reducePow, Nat.zero_add, Nat.add_zero, Nat.reduceAdd, Nat.reduceMul, Nat.reduceSub, xf_same, xq_ff, xq_fo, xf_1, xf_2, xs_1, xs_2, xs_same, xq_so, xj_1, xj_2, xj_same, xq_jo, xq_sa1, xq_same, xq_other, upd_s, oI_n, oI_s, e5, xf_102_68 F1, e65, l2i_n, xf_102_6 F1, e1, hc', xf_102_44 F1, xf_102_13 F1, e12, ew, i2l_n (show ty_w (T n) < 2147483648 by omega), lN_pl]
      first | refine by_iald (by first | exact rfl | assumption | exact ps_1 hpp | exact ps_2 hpp | exact ps_3 hpp | exact ps_4 hpp | exact ps_5 hpp | exact ps_6 hpp | exact ps_7 hpp | exact ps_8 hpp | exact ps_9 hpp | exact ps_10 hpp | exact ps_11 hpp | exact ps_15 hpp | exact ps_16 hpp | exact ps_17 hpp | exact ps_18 hpp | exact ps_19 hpp | exact ps_21 hpp | exact ps_22 hpp | exact ps_23 hpp | exact ps_24 hpp) ⟨by omega, by omega⟩ ?_ | refine by_tald rfl rfl ⟨by omega, by omega⟩ ?_
      refine by_bipush cb_10 ?_
      refine by_ic_ne 101 rfl ?_
      simp (disch := first | exact Nat.ne_of_beq_eq_false rfl | exact rfl | omega) only [nI_add, xa_sub, xa_mul, pk_div, nm_mod, xa_shr, xa_and7, xa_and1, xa_and255, xa_by_and, nI_m1, Nat.add_sub_cancel, Nat.reducePow, Nat.zero_add, Nat.add_zero, Nat.reduceAdd, Nat.reduceMul, Nat.reduceSub, xf_same, xq_ff, xq_fo, xf_1, xf_2, xs_1, xs_2, xs_same, xq_so, xj_1, xj_2, xj_same, xq_jo, xq_sa1, xq_same, xq_other, upd_s, oI_n, oI_s, xv_0, xv_1, xv_2, xv_3, xm_p1, xm_p2, xq_fp, xq_fn, List.filter_nil, Nat.reduceBEq, Bool.not_true, Bool.not_false, Bool.and_true, Bool.and_false, Bool.false_and, Bool.true_and, if_true, if_false, Bool.false_eq_true, reduceIte, xc_i, xc_j, xc_r, xc_n, List.nil_append, List.cons_append, Option.toList_some, Option.toList_none, nI_ltJ, nI_leJ, nI_eqJ, nI_ltz, nI_gez, nI_gtz, nI_lez, nI_eqz, m1_ltz, m1_gez, true_imp_iff, false_imp_iff, true_and, and_true, ne_eq, not_false_eq_true, not_true_eq_false, Nat.reduceEqDiff, Nat.reduceLT, Nat.reduceLeDiff, e5, xf_102_68 F1, e65, l2i_n, xf_102_6 F1, e1, hc', xf_102_44 F1, xf_102_13 F1, e12, ew, i2l_n (show ty_w (T n) < 2147483648 by omega), lN_pl]
      with_reducible refine xm_go_blk b_X12_readWitness_85 k_X12_readWitness_85 ?_
      refine by_aload_n rfl ?_
      refine by_getf cn_284 fl_12_100 (by first | exact rfl | assumption) (by decide) ?_
      refine by_aload_n rfl ?_
      refine by_getf cn_284 fl_12_37 (by first | exact rfl | assumption) (by decide) ?_
      refine by_iload rfl ?_
      simp (disch := first | exact Nat.ne_of_beq_eq_false rfl | exact rfl | omega) only [nI_add, xa_sub, xa_mul, pk_div, nm_mod, xa_shr, xa_and7, xa_and1, xa_and255, xa_by_and, nI_m1, Nat.add_sub_cancel, Nat.reducePow, Nat.zero_add, Nat.add_zero, Nat.reduceAdd, Nat.reduceMul, Nat.reduceSub, xf_same, xq_ff, xq_fo, xf_1, xf_2, xs_1, xs_2, xs_same, xq_so, xj_1, xj_2, xj_same, xq_jo, xq_sa1, xq_same, xq_other, upd_s, oI_n, oI_s, e5, xf_102_68 F1, e65, l2i_n, xf_102_6 F1, e1, hc', xf_102_44 F1, xf_102_13 F1, e12, ew, i2l_n (show ty_w (T n) < 2147483648 by omega), lN_pl]
      first | refine by_iald (by first | exact rfl | assumption | exact ps_1 hpp | exact ps_2 hpp | exact ps_3 hpp | exact ps_4 hpp | exact ps_5 hpp | exact ps_6 hpp | exact ps_7 hpp | exact ps_8 hpp | exact ps_9 hpp | exact ps_10 hpp | exact ps_11 hpp | exact ps_15 hpp | exact ps_16 hpp | exact ps_17 hpp | exact ps_18 hpp | exact ps_19 hpp | exact ps_21 hpp | exact ps_22 hpp | exact ps_23 hpp | exact ps_24 hpp) ⟨by omega, by omega⟩ ?_ | refine by_tald rfl rfl ⟨by omega, by omega⟩ ?_
      simp (disch := first | exact Nat.ne_of_beq_eq_false rfl | exact rfl | omega) only [nI_add, xa_sub, xa_mul, pk_div, nm_mod, xa_shr, xa_and7, xa_and1, xa_and255, xa_by_and, nI_m1, Nat.add_sub_cancel, Nat.reducePow, Nat.zero_add, Nat.add_zero, Nat.reduceAdd, Nat.reduceMul, Nat.reduceSub, xf_same, xq_ff, xq_fo, xf_1, xf_2, xs_1, xs_2, xs_same, xq_so, xj_1, xj_2, xj_same, xq_jo, xq_sa1, xq_same, xq_other, upd_s, oI_n, oI_s, e5, xf_102_68 F1, e65, l2i_n, xf_102_6 F1, e1, hc', xf_102_44 F1, xf_102_13 F1, e12, ew, i2l_n (show ty_w (T n) < 2147483648 by omega), lN_pl]
      first | refine by_iald (by first | exact rfl | assumption | exact ps_1 hpp | exact ps_2 hpp | exact ps_3 hpp | exact ps_4 hpp | exact ps_5 hpp | exact ps_6 hpp | exact ps_7 hpp | exact ps_8 hpp | exact ps_9 hpp | exact ps_10 hpp | exact ps_11 hpp | exact ps_15 hpp | exact ps_16 hpp | exact ps_17 hpp | exact ps_18 hpp | exact ps_19 hpp | exact ps_21 hpp | exact ps_22 hpp | exact ps_23 hpp | exact ps_24 hpp) ⟨by omega, by omega⟩ ?_ | refine by_tald rfl rfl ⟨by omega, by omega⟩ ?_
      refine by_i2l ?_
      refine by_goto 102 rfl ?_
      simp (disch := first | exact Nat.ne_of_beq_eq_false rfl | exact rfl | omega) only [nI_add, xa_sub, xa_mul, pk_div, nm_mod, xa_shr, xa_and7, xa_and1, xa_and255, xa_by_and, nI_m1, Nat.add_sub_cancel, Nat.reducePow, Nat.zero_add, Nat.add_zero, Nat.reduceAdd, Nat.reduceMul, Nat.reduceSub, xf_same, xq_ff, xq_fo, xf_1, xf_2, xs_1, xs_2, xs_same, xq_so, xj_1, xj_2, xj_same, xq_jo, xq_sa1, xq_same, xq_other, upd_s, oI_n, oI_s, xv_0, xv_1, xv_2, xv_3, xm_p1, xm_p2, xq_fp, xq_fn, List.filter_nil, Nat.reduceBEq, Bool.not_true, Bool.not_false, Bool.and_true, Bool.and_false, Bool.false_and, Bool.true_and, if_true, if_false, Bool.false_eq_true, reduceIte, xc_i, xc_j, xc_r, xc_n, List.nil_append, List.cons_append, Option.toList_some, Option.toList_none, e5, xf_102_68 F1, e65, l2i_n, xf_102_6 F1, e1, hc', xf_102_44 F1, xf_102_13 F1, e12, ew, i2l_n (show ty_w (T n) < 2147483648 by omega), lN_pl]
      with_reducible refine xm_go_blk b_X12_readWitness_102 k_X12_readWitness_102 ?_
      refine by_ladd ?_
      refine by_lstore_n (by rw [ml_284]; decide) ?_
      refine by_iinc (by rw [ml_284]; decide) rfl ci_1 ?_
      refine by_goto 49 rfl ?_
      simp (disch := first | exact Nat.ne_of_beq_eq_false rfl | exact rfl | omega) only [nI_add, xa_sub, xa_mul, pk_div, nm_mod, xa_shr, xa_and7, xa_and1, xa_and255, xa_by_and, nI_m1, Nat.add_sub_cancel, Nat.reducePow, Nat.zero_add, Nat.add_zero, Nat.reduceAdd, Nat.reduceMul, Nat.reduceSub, xf_same, xq_ff, xq_fo, xf_1, xf_2, xs_1, xs_2, xs_same, xq_so, xj_1, xj_2, xj_same, xq_jo, xq_sa1, xq_same, xq_other, upd_s, oI_n, oI_s, xv_0, xv_1, xv_2, xv_3, xm_p1, xm_p2, xq_fp, xq_fn, List.filter_nil, Nat.reduceBEq, Bool.not_true, Bool.not_false, Bool.and_true, Bool.and_false, Bool.false_and, Bool.true_and, if_true, if_false, Bool.false_eq_true, reduceIte, xc_i, xc_j, xc_r, xc_n, List.nil_append, List.cons_append, Option.toList_some, Option.toList_none, e5, xf_102_68 F1, e65, l2i_n, xf_102_6 F1, e1, hc', xf_102_44 F1, xf_102_13 F1, e12, ew, i2l_n (show ty_w (T n) < 2147483648 by omega), lN_pl]
      exact xm_go_wk (by simp [Value.category]) hg
    · have hc' : (cd n = 10) = False := eq_false hc
      have hwt : wsum cd T (n + 1) = wsum cd T n := by simp only [wsum, wtF, hc, if_false]; omega
      rw [hwt] at hg
      with_reducible refine xm_go_blk b_X12_readWitness_49 k_X12_readWitness_49 ?_
      refine by_iload rfl ?_
      refine by_aload_n rfl ?_
      refine by_getf cn_284 fl_12_223 (by first | exact rfl | assumption) (by decide) ?_
      simp (disch := first | exact Nat.ne_of_beq_eq_false rfl | exact rfl | omega) only [nI_add, xa_sub, xa_mul, pk_div, nm_mod, xa_shr, xa_and7, xa_and1, xa_and255, xa_by_and, nI_m1, Nat.add_sub_cancel, Nat.reducePow, Nat.zero_add, Nat.add_zero, Nat.reduceAdd, Nat.reduceMul, Nat.reduceSub, xf_same, xq_ff, xq_fo, xf_1, xf_2, xs_1, xs_2, xs_same, xq_so, xj_1, xj_2, xj_same, xq_jo, xq_sa1, xq_same, xq_other, upd_s, oI_n, oI_s, e5, xf_102_68 F1, e65, l2i_n, xf_102_6 F1, e1, hc', lN_pl]
      refine by_ic_ge 110 rfl ?_
      simp (disch := first | exact Nat.ne_of_beq_eq_false rfl | exact rfl | omega) only [nI_add, xa_sub, xa_mul, pk_div, nm_mod, xa_shr, xa_and7, xa_and1, xa_and255, xa_by_and, nI_m1, Nat.add_sub_cancel, Nat.reducePow, Nat.zero_add, Nat.add_zero, Nat.reduceAdd, Nat.reduceMul, Nat.reduceSub, xf_same, xq_ff, xq_fo, xf_1, xf_2, xs_1, xs_2, xs_same, xq_so, xj_1, xj_2, xj_same, xq_jo, xq_sa1, xq_same, xq_other, upd_s, oI_n, oI_s, xv_0, xv_1, xv_2, xv_3, xm_p1, xm_p2, xq_fp, xq_fn, List.filter_nil, Nat.reduceBEq, Bool.not_true, Bool.not_false, Bool.and_true, Bool.and_false, Bool.false_and, Bool.true_and, if_true, if_false, Bool.false_eq_true, reduceIte, xc_i, xc_j, xc_r, xc_n, List.nil_append, List.cons_append, Option.toList_some, Option.toList_none, nI_ltJ, nI_leJ, nI_eqJ, nI_ltz, nI_gez, nI_gtz, nI_lez, nI_eqz, m1_ltz, m1_gez, true_imp_iff, false_imp_iff, true_and, and_true, ne_eq, not_false_eq_true, not_true_eq_false, Nat.reduceEqDiff, Nat.reduceLT, Nat.reduceLeDiff, e5, xf_102_68 F1, e65, l2i_n, xf_102_6 F1, e1, hc', lN_pl]
      refine ⟨fun c => absurd c (by omega), fun c49 => ?_⟩
      with_reducible refine xm_go_blk b_X12_readWitness_58 k_X12_readWitness_58 ?_
      refine by_aload_n rfl ?_
      refine by_getf cn_284 fl_12_160 (by first | exact rfl | assumption) (by decide) ?_
      refine by_iload rfl ?_
      refine by_aload_n rfl ?_
      refine by_getf cn_284 fl_12_333 (by first | exact rfl | assumption) (by decide) ?_
      refine by_lload_n rfl ?_
      refine by_l2i ?_
      simp (disch := first | exact Nat.ne_of_beq_eq_false rfl | exact rfl | omega) only [nI_add, xa_sub, xa_mul, pk_div, nm_mod, xa_shr, xa_and7, xa_and1, xa_and255, xa_by_and, nI_m1, Nat.add_sub_cancel, Nat.reducePow, Nat.zero_add, Nat.add_zero, Nat.reduceAdd, Nat.reduceMul, Nat.reduceSub, xf_same, xq_ff, xq_fo, xf_1, xf_2, xs_1, xs_2, xs_same, xq_so, xj_1, xj_2, xj_same, xq_jo, xq_sa1, xq_same, xq_other, upd_s, oI_n, oI_s, e5, xf_102_68 F1, e65, l2i_n, xf_102_6 F1, e1, hc', lN_pl]
      refine by_iadd ?_
      refine by_iast (by first | exact rfl | assumption | exact ps_1 hpp | exact ps_2 hpp | exact ps_3 hpp | exact ps_4 hpp | exact ps_5 hpp | exact ps_6 hpp | exact ps_7 hpp | exact ps_8 hpp | exact ps_9 hpp | exact ps_10 hpp | exact ps_11 hpp | exact ps_15 hpp | exact ps_16 hpp | exact ps_17 hpp | exact ps_18 hpp | exact ps_19 hpp | exact ps_21 hpp | exact ps_22 hpp | exact ps_23 hpp | exact ps_24 hpp) ⟨by omega, by omega⟩ ?_
      refine by_lload_n rfl ?_
      refine by_aload_n rfl ?_
      refine by_getf cn_284 fl_12_16 (by first | exact rfl | assumption) (by decide) ?_
      refine by_iload rfl ?_
      simp (disch := first | exact Nat.ne_of_beq_eq_false rfl | exact rfl | omega) only [nI_add, xa_sub, xa_mul, pk_div, nm_mod, xa_shr, xa_and7, xa_and1, xa_and255, xa_by_and, nI_m1, Nat.add_sub_cancel, Nat.reducePow, Nat.zero_add, Nat.add_zero, Nat.reduceAdd, Nat.reduceMul, Nat.reduceSub, xf_same, xq_ff, xq_fo, xf_1, xf_2, xs_1, xs_2, xs_same, xq_so, xj_1, xj_2, xj_same, xq_jo, xq_sa1, xq_same, xq_other, upd_s, oI_n, oI_s, e5, xf_102_68 F1, e65, l2i_n, xf_102_6 F1, e1, hc', lN_pl]
      first | refine by_iald (by first | exact rfl | assumption | exact ps_1 hpp | exact ps_2 hpp | exact ps_3 hpp | exact ps_4 hpp | exact ps_5 hpp | exact ps_6 hpp | exact ps_7 hpp | exact ps_8 hpp | exact ps_9 hpp | exact ps_10 hpp | exact ps_11 hpp | exact ps_15 hpp | exact ps_16 hpp | exact ps_17 hpp | exact ps_18 hpp | exact ps_19 hpp | exact ps_21 hpp | exact ps_22 hpp | exact ps_23 hpp | exact ps_24 hpp) ⟨by omega, by omega⟩ ?_ | refine by_tald rfl rfl ⟨by omega, by omega⟩ ?_
      refine by_bipush cb_10 ?_
      refine by_ic_ne 101 rfl ?_
      simp (disch := first | exact Nat.ne_of_beq_eq_false rfl | exact rfl | omega) only [nI_add, xa_sub, xa_mul, pk_div, nm_mod, xa_shr, xa_and7, xa_and1, xa_and255, xa_by_and, nI_m1, Nat.add_sub_cancel, Nat.reducePow, Nat.zero_add, Nat.add_zero, Nat.reduceAdd, Nat.reduceMul, Nat.reduceSub, xf_same, xq_ff, xq_fo, xf_1, xf_2, xs_1, xs_2, xs_same, xq_so, xj_1, xj_2, xj_same, xq_jo, xq_sa1, xq_same, xq_other, upd_s, oI_n, oI_s, xv_0, xv_1, xv_2, xv_3, xm_p1, xm_p2, xq_fp, xq_fn, List.filter_nil, Nat.reduceBEq, Bool.not_true, Bool.not_false, Bool.and_true, Bool.and_false, Bool.false_and, Bool.true_and, if_true, if_false, Bool.false_eq_true, reduceIte, xc_i, xc_j, xc_r, xc_n, List.nil_append, List.cons_append, Option.toList_some, Option.toList_none, nI_ltJ, nI_leJ, nI_eqJ, nI_ltz, nI_gez, nI_gtz, nI_lez, nI_eqz, m1_ltz, m1_gez, true_imp_iff, false_imp_iff, true_and, and_true, ne_eq, not_false_eq_true, not_true_eq_false, Nat.reduceEqDiff, Nat.reduceLT, Nat.reduceLeDiff, e5, xf_102_68 F1, e65, l2i_n, xf_102_6 F1, e1, hc', lN_pl]
      with_reducible refine xm_go_blk b_X12_readWitness_101 k_X12_readWitness_101 ?_
      refine by_lconst cl_0 ?_
      refine by_nil ?_
      with_reducible refine xm_go_blk b_X12_readWitness_102 k_X12_readWitness_102 ?_
      refine by_ladd ?_
      refine by_lstore_n (by rw [ml_284]; decide) ?_
      refine by_iinc (by rw [ml_284]; decide) rfl ci_1 ?_
      refine by_goto 49 rfl ?_
      simp (disch := first | exact Nat.ne_of_beq_eq_false rfl | exact rfl | omega) only [nI_add, xa_sub, xa_mul, pk_div, nm_mod, xa_shr, xa_and7, xa_and1, xa_and255, xa_by_and, nI_m1, Nat.add_sub_cancel, Nat.reducePow, Nat.zero_add, Nat.add_zero, Nat.reduceAdd, Nat.reduceMul, Nat.reduceSub, xf_same, xq_ff, xq_fo, xf_1, xf_2, xs_1, xs_2, xs_same, xq_so, xj_1, xj_2, xj_same, xq_jo, xq_sa1, xq_same, xq_other, upd_s, oI_n, oI_s, xv_0, xv_1, xv_2, xv_3, xm_p1, xm_p2, xq_fp, xq_fn, List.filter_nil, Nat.reduceBEq, Bool.not_true, Bool.not_false, Bool.and_true, Bool.and_false, Bool.false_and, Bool.true_and, if_true, if_false, Bool.false_eq_true, reduceIte, xc_i, xc_j, xc_r, xc_n, List.nil_append, List.cons_append, Option.toList_some, Option.toList_none, e5, xf_102_68 F1, e65, l2i_n, xf_102_6 F1, e1, hc', lN_pl]
      exact xm_go_wk (by simp [Value.category]) hg
/-- a witness's bits -/
theorem mw_150 {n jj W wa : Nat} {w : Int32} (hF : XF h) (hn : n < 400) (hl : mrow h 103 l) (e12 : h.1 112 n = nI jj) (hjj : jj < 17400) (ew : h.1 132 jj = nI W) (hW : W ≤ 2048) (ea : h.1 151 n = nI wa) (hwa : wa + W ≤ 8 * l.length)
    (hgo : ∀ h', Fr [145] [] h h' → (∀ i, i < W → h'.1 145 i = nI (by_bit l (wa + i))) → xm_go (XE sc) (xm_T (XE sc) (d + 1)) 284 post 195 [(0, .ref 102), (1, .int w), (4, .int (nI n))] [] h') :
    ∀ (j k : Nat) (h' : xm_H), k + j = W → Fr [145] [] h h' → (∀ i, i < k → h'.1 145 i = nI (by_bit l (wa + i))) → xm_go (XE sc) (xm_T (XE sc) (d + 1)) 284 post 150 [(5, .int (nI k)), (0, .ref 102), (1, .int w), (4, .int (nI n))] [] h' := by
  have hll := hl.2.2
  intro j
  induction j with
  | zero =>
    intro k h' hj hf hrow
    have : k = W := by omega
    subst this
    have F1 : XF h' := Fr_XF hF hf (by decide +kernel)
    have e12' : h'.1 112 n = nI jj := by rw [hf.1 112 (by simp)]; exact e12
    have ew' : h'.1 132 jj = nI k := by rw [hf.1 132 (by simp)]; exact ew
    with_reducible refine xm_go_blk b_X12_readWitness_150 k_X12_readWitness_150 ?_
    refine by_iload rfl ?_
    refine by_aload_n rfl ?_
    refine by_getf cn_284 fl_12_100 (by first | exact rfl | assumption) (by decide) ?_
    refine by_aload_n rfl ?_
    refine by_getf cn_284 fl_12_37 (by first | exact rfl | assumption) (by decide) ?_
    refine by_iload rfl ?_
    simp (disch := first | exact Nat.ne_of_beq_eq_false rfl | exact rfl | omega) only [nI_add, xa_sub, xa_mul, pk_div, nm_mod, xa_shr, xa_and7, xa_and1, xa_and255, xa_by_and, nI_m1, Nat.add_sub_cancel, Nat.reducePow, Nat.zero_add, Nat.add_zero, Nat.reduceAdd, Nat.reduceMul, Nat.reduceSub, xf_same, xq_ff, xq_fo, xf_1, xf_2, xs_1, xs_2, xs_same, xq_so, xj_1, xj_2, xj_same, xq_jo, xq_sa1, xq_same, xq_other, upd_s, oI_n, oI_s, xf_102_44 F1, xf_102_13 F1, e12', ew']
    first | refine by_iald (by first | exact rfl | assumption | exact ps_1 hpp | exact ps_2 hpp | exact ps_3 hpp | exact ps_4 hpp | exact ps_5 hpp | exact ps_6 hpp | exact ps_7 hpp | exact ps_8 hpp | exact ps_9 hpp | exact ps_10 hpp | exact ps_11 hpp | exact ps_15 hpp | exact ps_16 hpp | exact ps_17 hpp | exact ps_18 hpp | exact ps_19 hpp | exact ps_21 hpp | exact ps_22 hpp | exact ps_23 hpp | exact ps_24 hpp) ⟨by omega, by omega⟩ ?_ | refine by_tald rfl rfl ⟨by omega, by omega⟩ ?_
    simp (disch := first | exact Nat.ne_of_beq_eq_false rfl | exact rfl | omega) only [nI_add, xa_sub, xa_mul, pk_div, nm_mod, xa_shr, xa_and7, xa_and1, xa_and255, xa_by_and, nI_m1, Nat.add_sub_cancel, Nat.reducePow, Nat.zero_add, Nat.add_zero, Nat.reduceAdd, Nat.reduceMul, Nat.reduceSub, xf_same, xq_ff, xq_fo, xf_1, xf_2, xs_1, xs_2, xs_same, xq_so, xj_1, xj_2, xj_same, xq_jo, xq_sa1, xq_same, xq_other, upd_s, oI_n, oI_s, xf_102_44 F1, xf_102_13 F1, e12', ew']
    first | refine by_iald (by first | exact rfl | assumption | exact ps_1 hpp | exact ps_2 hpp | exact ps_3 hpp | exact ps_4 hpp | exact ps_5 hpp | exact ps_6 hpp | exact ps_7 hpp | exact ps_8 hpp | exact ps_9 hpp | exact ps_10 hpp | exact ps_11 hpp | exact ps_15 hpp | exact ps_16 hpp | exact ps_17 hpp | exact ps_18 hpp | exact ps_19 hpp | exact ps_21 hpp | exact ps_22 hpp | exact ps_23 hpp | exact ps_24 hpp) ⟨by omega, by omega⟩ ?_ | refine by_tald rfl rfl ⟨by omega, by omega⟩ ?_
    refine by_ic_ge 195 rfl ?_
    simp (disch := first | exact Nat.ne_of_beq_eq_false rfl | exact rfl | omega) only [nI_add, xa_sub, xa_mul, pk_div, nm_mod, xa_shr, xa_and7, xa_and1, xa_and255, xa_by_and, nI_m1, Nat.add_sub_cancel, Nat.reducePow, Nat.zero_add, Nat.add_zero, Nat.reduceAdd, Nat.reduceMul, Nat.reduceSub, xf_same, xq_ff, xq_fo, xf_1, xf_2, xs_1, xs_2, xs_same, xq_so, xj_1, xj_2, xj_same, xq_jo, xq_sa1, xq_same, xq_other, upd_s, oI_n, oI_s, xv_0, xv_1, xv_2, xv_3, xm_p1, xm_p2, xq_fp, xq_fn, List.filter_nil, Nat.reduceBEq, Bool.not_true, Bool.not_false, Bool.and_true, Bool.and_false, Bool.false_and, Bool.true_and, if_true, if_false, Bool.false_eq_true, reduceIte, xc_i, xc_j, xc_r, xc_n, List.nil_append, List.cons_append, Option.toList_some, Option.toList_none, nI_ltJ, nI_leJ, nI_eqJ, nI_ltz, nI_gez, nI_gtz, nI_lez, nI_eqz, m1_ltz, m1_gez, true_imp_iff, false_imp_iff, true_and, and_true, ne_eq, not_false_eq_true, not_true_eq_false, Nat.reduceEqDiff, Nat.reduceLT, Nat.reduceLeDiff, xf_102_44 F1, xf_102_13 F1, e12', ew']
    refine ⟨fun c150 => ?_, fun c => absurd (by omega) c⟩
    exact xm_go_wk (by simp [Value.category]) (hgo h' hf hrow)
  | succ j ih =>
    intro k h' hj hf hrow
    have F1 : XF h' := Fr_XF hF hf (by decide +kernel)
    have e12' : h'.1 112 n = nI jj := by rw [hf.1 112 (by simp)]; exact e12
    have ew' : h'.1 132 jj = nI W := by rw [hf.1 132 (by simp)]; exact ew
    have ea' : h'.1 151 n = nI wa := by rw [hf.1 151 (by simp)]; exact ea
    have hl' : mrow h' 103 l := ⟨fun i hi => by rw [hf.1 103 (by simp)]; exact hl.1 i hi, hl.2⟩
    with_reducible refine xm_go_blk b_X12_readWitness_150 k_X12_readWitness_150 ?_
    refine by_iload rfl ?_
    refine by_aload_n rfl ?_
    refine by_getf cn_284 fl_12_100 (by first | exact rfl | assumption) (by decide) ?_
    refine by_aload_n rfl ?_
    refine by_getf cn_284 fl_12_37 (by first | exact rfl | assumption) (by decide) ?_
    refine by_iload rfl ?_
    simp (disch := first | exact Nat.ne_of_beq_eq_false rfl | exact rfl | omega) only [nI_add, xa_sub, xa_mul, pk_div, nm_mod, xa_shr, xa_and7, xa_and1, xa_and255, xa_by_and, nI_m1, Nat.add_sub_cancel, Nat.reducePow, Nat.zero_add, Nat.add_zero, Nat.reduceAdd, Nat.reduceMul, Nat.reduceSub, xf_same, xq_ff, xq_fo, xf_1, xf_2, xs_1, xs_2, xs_same, xq_so, xj_1, xj_2, xj_same, xq_jo, xq_sa1, xq_same, xq_other, upd_s, oI_n, oI_s, xf_102_44 F1, xf_102_13 F1, e12', ew', xf_102_58 F1, xf_102_68 F1, ea']
    first | refine by_iald (by first | exact rfl | assumption | exact ps_1 hpp | exact ps_2 hpp | exact ps_3 hpp | exact ps_4 hpp | exact ps_5 hpp | exact ps_6 hpp | exact ps_7 hpp | exact ps_8 hpp | exact ps_9 hpp | exact ps_10 hpp | exact ps_11 hpp | exact ps_15 hpp | exact ps_16 hpp | exact ps_17 hpp | exact ps_18 hpp | exact ps_19 hpp | exact ps_21 hpp | exact ps_22 hpp | exact ps_23 hpp | exact ps_24 hpp) ⟨by omega, by omega⟩ ?_ | refine by_tald rfl rfl ⟨by omega, by omega⟩ ?_
    simp (disch := first | exact Nat.ne_of_beq_eq_false rfl | exact rfl | omega) only [nI_add, xa_sub, xa_mul, pk_div, nm_mod, xa_shr, xa_and7, xa_and1, xa_and255, xa_by_and, nI_m1, Nat.add_sub_cancel, Nat.reducePow, Nat.zero_add, Nat.add_zero, Nat.reduceAdd, Nat.reduceMul, Nat.reduceSub, xf_same, xq_ff, xq_fo, xf_1, xf_2, xs_1, xs_2, xs_same, xq_so, xj_1, xj_2, xj_same, xq_jo, xq_sa1, xq_same, xq_other, upd_s, oI_n, oI_s, xf_102_44 F1, xf_102_13 F1, e12', ew', xf_102_58 F1, xf_102_68 F1, ea']
    first | refine by_iald (by first | exact rfl | assumption | exact ps_1 hpp | exact ps_2 hpp | exact ps_3 hpp | exact ps_4 hpp | exact ps_5 hpp | exact ps_6 hpp | exact ps_7 hpp | exact ps_8 hpp | exact ps_9 hpp | exact ps_10 hpp | exact ps_11 hpp | exact ps_15 hpp | exact ps_16 hpp | exact ps_17 hpp | exact ps_18 hpp | exact ps_19 hpp | exact ps_21 hpp | exact ps_22 hpp | exact ps_23 hpp | exact ps_24 hpp) ⟨by omega, by omega⟩ ?_ | refine by_tald rfl rfl ⟨by omega, by omega⟩ ?_
    refine by_ic_ge 195 rfl ?_
    simp (disch := first | exact Nat.ne_of_beq_eq_false rfl | exact rfl | omega) only [nI_add, xa_sub, xa_mul, pk_div, nm_mod, xa_shr, xa_and7, xa_and1, xa_and255, xa_by_and, nI_m1, Nat.add_sub_cancel, Nat.reducePow, Nat.zero_add, Nat.add_zero, Nat.reduceAdd, Nat.reduceMul, Nat.reduceSub, xf_same, xq_ff, xq_fo, xf_1, xf_2, xs_1, xs_2, xs_same, xq_so, xj_1, xj_2, xj_same, xq_jo, xq_sa1, xq_same, xq_other, upd_s, oI_n, oI_s, xv_0, xv_1, xv_2, xv_3, xm_p1, xm_p2, xq_fp, xq_fn, List.filter_nil, Nat.reduceBEq, Bool.not_true, Bool.not_false, Bool.and_true, Bool.and_false, Bool.false_and, Bool.true_and, if_true, if_false, Bool.false_eq_true, reduceIte, xc_i, xc_j, xc_r, xc_n, List.nil_append, List.cons_append, Option.toList_some, Option.toList_none, nI_ltJ, nI_leJ, nI_eqJ, nI_ltz, nI_gez, nI_gtz, nI_lez, nI_eqz, m1_ltz, m1_gez, true_imp_iff, false_imp_iff, true_and, and_true, ne_eq, not_false_eq_true, not_true_eq_false, Nat.reduceEqDiff, Nat.reduceLT, Nat.reduceLeDiff, xf_102_44 F1, xf_102_13 F1, e12', ew', xf_102_58 F1, xf_102_68 F1, ea']
    refine ⟨fun c => absurd c (by omega), fun c150 => ?_⟩
    with_reducible refine xm_go_blk b_X12_readWitness_167 k_X12_readWitness_167 ?_
    refine by_aload_n rfl ?_
    refine by_getf cn_284 fl_12_141 (by first | exact rfl | assumption) (by decide) ?_
    refine by_iload rfl ?_
    refine by_aload_n rfl ?_
    refine by_aload_n rfl ?_
    refine by_getf cn_284 fl_12_160 (by first | exact rfl | assumption) (by decide) ?_
    refine by_iload rfl ?_
    simp (disch := first | exact Nat.ne_of_beq_eq_false rfl | exact rfl | omega) only [nI_add, xa_sub, xa_mul, pk_div, nm_mod, xa_shr, xa_and7, xa_and1, xa_and255, xa_by_and, nI_m1, Nat.add_sub_cancel, Nat.reducePow, Nat.zero_add, Nat.add_zero, Nat.reduceAdd, Nat.reduceMul, Nat.reduceSub, xf_same, xq_ff, xq_fo, xf_1, xf_2, xs_1, xs_2, xs_same, xq_so, xj_1, xj_2, xj_same, xq_jo, xq_sa1, xq_same, xq_other, upd_s, oI_n, oI_s, xf_102_44 F1, xf_102_13 F1, e12', ew', xf_102_58 F1, xf_102_68 F1, ea']
    first | refine by_iald (by first | exact rfl | assumption | exact ps_1 hpp | exact ps_2 hpp | exact ps_3 hpp | exact ps_4 hpp | exact ps_5 hpp | exact ps_6 hpp | exact ps_7 hpp | exact ps_8 hpp | exact ps_9 hpp | exact ps_10 hpp | exact ps_11 hpp | exact ps_15 hpp | exact ps_16 hpp | exact ps_17 hpp | exact ps_18 hpp | exact ps_19 hpp | exact ps_21 hpp | exact ps_22 hpp | exact ps_23 hpp | exact ps_24 hpp) ⟨by omega, by omega⟩ ?_ | refine by_tald rfl rfl ⟨by omega, by omega⟩ ?_
    refine by_iload rfl ?_
    refine by_iadd ?_
    simp (disch := first | exact Nat.ne_of_beq_eq_false rfl | exact rfl | omega) only [nI_add, xa_sub, xa_mul, pk_div, nm_mod, xa_shr, xa_and7, xa_and1, xa_and255, xa_by_and, nI_m1, Nat.add_sub_cancel, Nat.reducePow, Nat.zero_add, Nat.add_zero, Nat.reduceAdd, Nat.reduceMul, Nat.reduceSub, xf_same, xq_ff, xq_fo, xf_1, xf_2, xs_1, xs_2, xs_same, xq_so, xj_1, xj_2, xj_same, xq_jo, xq_sa1, xq_same, xq_other, upd_s, oI_n, oI_s, xv_0, xv_1, xv_2, xv_3, xm_p1, xm_p2, xq_fp, xq_fn, List.filter_nil, Nat.reduceBEq, Bool.not_true, Bool.not_false, Bool.and_true, Bool.and_false, Bool.false_and, Bool.true_and, if_true, if_false, Bool.false_eq_true, reduceIte, xc_i, xc_j, xc_r, xc_n, List.nil_append, List.cons_append, Option.toList_some, Option.toList_none, xf_102_44 F1, xf_102_13 F1, e12', ew', xf_102_58 F1, xf_102_68 F1, ea']
    refine by_inv1 cn_284 lk_12_283 (by rw [xe_cnt]; decide) is_305 np_305 cn_305 (by first | exact rfl | assumption) (Nat.le_of_ble_eq_true rfl) ?_
    refine sp_mtb F1 hl' (by omega) ?_
    have hbb := by_bit_lt l (wa + k)
    with_reducible refine xm_go_blk b_X12_readWitness_187 k_X12_readWitness_187 ?_
    refine by_i2b ?_
    first | refine by_bast (by first | exact rfl | assumption | exact ps_13 hpp) ⟨by omega, by omega⟩ ?_ | refine by_zast (by first | exact rfl | assumption | exact ps_20 hpp) ⟨by omega, by omega⟩ ?_
    refine by_iinc (by rw [ml_284]; decide) rfl ci_1 ?_
    refine by_goto 150 rfl ?_
    simp (disch := first | exact Nat.ne_of_beq_eq_false rfl | exact rfl | omega) only [nI_add, xa_sub, xa_mul, pk_div, nm_mod, xa_shr, xa_and7, xa_and1, xa_and255, xa_by_and, nI_m1, Nat.add_sub_cancel, Nat.reducePow, Nat.zero_add, Nat.add_zero, Nat.reduceAdd, Nat.reduceMul, Nat.reduceSub, xf_same, xq_ff, xq_fo, xf_1, xf_2, xs_1, xs_2, xs_same, xq_so, xj_1, xj_2, xj_same, xq_jo, xq_sa1, xq_same, xq_other, upd_s, oI_n, oI_s, xv_0, xv_1, xv_2, xv_3, xm_p1, xm_p2, xq_fp, xq_fn, List.filter_nil, Nat.reduceBEq, Bool.not_true, Bool.not_false, Bool.and_true, Bool.and_false, Bool.false_and, Bool.true_and, if_true, if_false, Bool.false_eq_true, reduceIte, xc_i, xc_j, xc_r, xc_n, List.nil_append, List.cons_append, Option.toList_some, Option.toList_none, bb_n hbb]
    refine xm_go_wk (by simp [Value.category]) (ih (k + 1) _ (by omega) (Fr_si hf (by simp)) (fun i hi => ?_))
    by_cases e : i = k
    · subst e; rw [xs_same, upd_s]
    · rw [xs_same, upd_o e]; exact hrow i (by omega)
end MW
