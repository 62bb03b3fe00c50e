/-! ===== the reference: fill, rootOfType ===== -/
def tyRt : Ty → Nat → Int32
  | .add a b => rtC (rt0 (nI 209)) (tyRt a) (tyRt b)
  | .mul a b => rtC (rt0 (nI 210)) (tyRt a) (tyRt b)
  | _ => rt0 (nI 208)
section RO
variable {sc : xm_Sc} {d : Nat} {h : xm_H} {post : xm_Po}
theorem sp_fill {hf A p nA : Nat} (hF : XF h) (hh : hf ≤ 1) (hA : (xe_sh (XE sc))[A]? = some (.inl (.int, nA))) (hA149 : A ≠ 149) (hp8 : p + 8 ≤ nA) (hnA : nA < 2147483648)
    (hp : ∀ h', Fr [149] [] h h' → (∀ k, k < 8 → h'.1 149 (8 * hf + k) = h.1 A (p + k)) → (∀ m, (m < 8 * hf ∨ 8 * hf + 8 ≤ m) → h'.1 149 m = h.1 149 m) → post none h') : xm_T (XE sc) (d + 1) 222 [.ref 102, .int (nI hf), .ref A, .int (nI p)] h post := by
  have key : ∀ (j i : Nat) (h' : xm_H), i + j = 8 → Fr [149] [] h h' → (∀ k, k < i → h'.1 149 (8 * hf + k) = h.1 A (p + k)) → (∀ m, (m < 8 * hf ∨ 8 * hf + i ≤ m) → h'.1 149 m = h.1 149 m) → xm_go (XE sc) (xm_T (XE sc) d) 222 post 3 [(4, .int (nI i)), (0, .ref 102), (1, .int (nI hf)), (2, .ref A), (3, .int (nI p))] [] h' := by
    intro j
    induction j with
    | zero =>
      intro i h' hi hf' h1 h2
      have : i = 8 := by omega
      subst this
      with_reducible refine xm_go_blk b_X12_fill_3 k_X12_fill_3 ?_
      refine by_iload rfl ?_
      refine by_bipush cb_8 ?_
      refine by_ic_ge 42 rfl ?_
      simp (disch := first | exact Nat.ne_of_beq_eq_false rfl | exact rfl | omega) only [nI_add, xa_sub, xa_mul, pk_div, nm_mod, xa_shr, xa_and7, xa_and1, xa_and255, xa_by_and, nI_m1, Nat.add_sub_cancel, Nat.reducePow, Nat.zero_add, Nat.add_zero, Nat.reduceAdd, Nat.reduceMul, Nat.reduceSub, xf_same, xq_ff, xq_fo, xf_1, xf_2, xs_1, xs_2, xs_same, xq_so, xj_1, xj_2, xj_same, xq_jo, xq_sa1, xq_same, xq_other, upd_s, oI_n, oI_s, xv_0, xv_1, xv_2, xv_3, xm_p1, xm_p2, xq_fp, xq_fn, List.filter_nil, Nat.reduceBEq, Bool.not_true, Bool.not_false, Bool.and_true, Bool.and_false, Bool.false_and, Bool.true_and, if_true, if_false, Bool.false_eq_true, reduceIte, xc_i, xc_j, xc_r, xc_n, List.nil_append, List.cons_append, Option.toList_some, Option.toList_none, nI_ltJ, nI_leJ, nI_eqJ, nI_ltz, nI_gez, nI_gtz, nI_lez, nI_eqz, m1_ltz, m1_gez, true_imp_iff, false_imp_iff, true_and, and_true, ne_eq, not_false_eq_true, not_true_eq_false, Nat.reduceEqDiff, Nat.reduceLT, Nat.reduceLeDiff]
      with_reducible refine xm_go_blk b_X12_fill_42 k_X12_fill_42 ?_
      refine by_ret ry_222 ?_
      exact hp h' hf' h1 h2
    | succ j ih =>
      intro i h' hi hf' h1 h2
      have F1 : XF h' := Fr_XF hF hf' (by decide +kernel)
      have eA : h'.1 A = h.1 A := hf'.1 A (by simpa using hA149)
      with_reducible refine xm_go_blk b_X12_fill_3 k_X12_fill_3 ?_
      refine by_iload rfl ?_
      refine by_bipush cb_8 ?_
      refine by_ic_ge 42 rfl ?_
      simp (disch := first | exact Nat.ne_of_beq_eq_false rfl | exact rfl | omega) only [nI_add, xa_sub, xa_mul, pk_div, nm_mod, xa_shr, xa_and7, xa_and1, xa_and255, xa_by_and, nI_m1, Nat.add_sub_cancel, Nat.reducePow, Nat.zero_add, Nat.add_zero, Nat.reduceAdd, Nat.reduceMul, Nat.reduceSub, xf_same, xq_ff, xq_fo, xf_1, xf_2, xs_1, xs_2, xs_same, xq_so, xj_1, xj_2, xj_same, xq_jo, xq_sa1, xq_same, xq_other, upd_s, oI_n, oI_s, xv_0, xv_1, xv_2, xv_3, xm_p1, xm_p2, xq_fp, xq_fn, List.filter_nil, Nat.reduceBEq, Bool.not_true, Bool.not_false, Bool.and_true, Bool.and_false, Bool.false_and, Bool.true_and, if_true, if_false, Bool.false_eq_true, reduceIte, xc_i, xc_j, xc_r, xc_n, List.nil_append, List.cons_append, Option.toList_some, Option.toList_none, nI_ltJ, nI_leJ, nI_eqJ, nI_ltz, nI_gez, nI_gtz, nI_lez, nI_eqz, m1_ltz, m1_gez, true_imp_iff, false_imp_iff, true_and, and_true, ne_eq, not_false_eq_true, not_true_eq_false, Nat.reduceEqDiff, Nat.reduceLT, Nat.reduceLeDiff, xf_102_63 F1, eA]
      refine ⟨fun c => absurd c (by omega), fun c3 => ?_⟩
      with_reducible refine xm_go_blk b_X12_fill_10 k_X12_fill_10 ?_
      refine by_aload_n rfl ?_
      refine by_getf cn_222 fl_12_154 (by first | exact rfl | assumption) (by decide) ?_
      refine by_bipush cb_8 ?_
      refine by_iload_n rfl ?_
      refine by_imul ?_
      refine by_iload rfl ?_
      refine by_iadd ?_
      refine by_iload_n rfl ?_
      refine by_if_ge 29 rfl ?_
      simp (disch := first | exact Nat.ne_of_beq_eq_false rfl | exact rfl | omega) only [nI_add, xa_sub, xa_mul, pk_div, nm_mod, xa_shr, xa_and7, xa_and1, xa_and255, xa_by_and, nI_m1, Nat.add_sub_cancel, Nat.reducePow, Nat.zero_add, Nat.add_zero, Nat.reduceAdd, Nat.reduceMul, Nat.reduceSub, xf_same, xq_ff, xq_fo, xf_1, xf_2, xs_1, xs_2, xs_same, xq_so, xj_1, xj_2, xj_same, xq_jo, xq_sa1, xq_same, xq_other, upd_s, oI_n, oI_s, xv_0, xv_1, xv_2, xv_3, xm_p1, xm_p2, xq_fp, xq_fn, List.filter_nil, Nat.reduceBEq, Bool.not_true, Bool.not_false, Bool.and_true, Bool.and_false, Bool.false_and, Bool.true_and, if_true, if_false, Bool.false_eq_true, reduceIte, xc_i, xc_j, xc_r, xc_n, List.nil_append, List.cons_append, Option.toList_some, Option.toList_none, nI_ltJ, nI_leJ, nI_eqJ, nI_ltz, nI_gez, nI_gtz, nI_lez, nI_eqz, m1_ltz, m1_gez, true_imp_iff, false_imp_iff, true_and, and_true, ne_eq, not_false_eq_true, not_true_eq_false, Nat.reduceEqDiff, Nat.reduceLT, Nat.reduceLeDiff, xf_102_63 F1, eA]
      with_reducible refine xm_go_blk b_X12_fill_29 k_X12_fill_29 ?_
      refine by_aload_n rfl ?_
      refine by_iload_n rfl ?_
      refine by_iload rfl ?_
      refine by_iadd ?_
      simp (disch := first | exact Nat.ne_of_beq_eq_false rfl | exact rfl | omega) only [nI_add, xa_sub, xa_mul, pk_div, nm_mod, xa_shr, xa_and7, xa_and1, xa_and255, xa_by_and, nI_m1, Nat.add_sub_cancel, Nat.reducePow, Nat.zero_add, Nat.add_zero, Nat.reduceAdd, Nat.reduceMul, Nat.reduceSub, xf_same, xq_ff, xq_fo, xf_1, xf_2, xs_1, xs_2, xs_same, xq_so, xj_1, xj_2, xj_same, xq_jo, xq_sa1, xq_same, xq_other, upd_s, oI_n, oI_s, xf_102_63 F1, eA]
      first | refine by_iald (by first | exact rfl | assumption | exact ps_1 hpp | exact ps_2 hpp | exact ps_3 hpp | exact ps_4 hpp | exact ps_5 hpp | exact ps_6 hpp | exact ps_7 hpp | exact ps_8 hpp | exact ps_9 hpp | exact ps_10 hpp | exact ps_11 hpp | exact ps_15 hpp | exact ps_16 hpp | exact ps_17 hpp | exact ps_18 hpp | exact ps_19 hpp | exact ps_21 hpp | exact ps_22 hpp | exact ps_23 hpp | exact ps_24 hpp) ⟨by omega, by omega⟩ ?_ | refine by_tald rfl rfl ⟨by omega, by omega⟩ ?_
      refine by_nil ?_
      simp (disch := first | exact Nat.ne_of_beq_eq_false rfl | exact rfl | omega) only [nI_add, xa_sub, xa_mul, pk_div, nm_mod, xa_shr, xa_and7, xa_and1, xa_and255, xa_by_and, nI_m1, Nat.add_sub_cancel, Nat.reducePow, Nat.zero_add, Nat.add_zero, Nat.reduceAdd, Nat.reduceMul, Nat.reduceSub, xf_same, xq_ff, xq_fo, xf_1, xf_2, xs_1, xs_2, xs_same, xq_so, xj_1, xj_2, xj_same, xq_jo, xq_sa1, xq_same, xq_other, upd_s, oI_n, oI_s, xv_0, xv_1, xv_2, xv_3, xm_p1, xm_p2, xq_fp, xq_fn, List.filter_nil, Nat.reduceBEq, Bool.not_true, Bool.not_false, Bool.and_true, Bool.and_false, Bool.false_and, Bool.true_and, if_true, if_false, Bool.false_eq_true, reduceIte, xc_i, xc_j, xc_r, xc_n, List.nil_append, List.cons_append, Option.toList_some, Option.toList_none, xf_102_63 F1, eA]
      with_reducible refine xm_go_blk b_X12_fill_35 k_X12_fill_35 ?_
      refine by_iast (by first | exact rfl | assumption | exact ps_1 hpp | exact ps_2 hpp | exact ps_3 hpp | exact ps_4 hpp | exact ps_5 hpp | exact ps_6 hpp | exact ps_7 hpp | exact ps_8 hpp | exact ps_9 hpp | exact ps_10 hpp | exact ps_11 hpp | exact ps_15 hpp | exact ps_16 hpp | exact ps_17 hpp | exact ps_18 hpp | exact ps_19 hpp | exact ps_21 hpp | exact ps_22 hpp | exact ps_23 hpp | exact ps_24 hpp) ⟨by omega, by omega⟩ ?_
      refine by_iinc (by rw [ml_222]; decide) rfl ci_1 ?_
      refine by_goto 3 rfl ?_
      simp (disch := first | exact Nat.ne_of_beq_eq_false rfl | exact rfl | omega) only [nI_add, xa_sub, xa_mul, pk_div, nm_mod, xa_shr, xa_and7, xa_and1, xa_and255, xa_by_and, nI_m1, Nat.add_sub_cancel, Nat.reducePow, Nat.zero_add, Nat.add_zero, Nat.reduceAdd, Nat.reduceMul, Nat.reduceSub, xf_same, xq_ff, xq_fo, xf_1, xf_2, xs_1, xs_2, xs_same, xq_so, xj_1, xj_2, xj_same, xq_jo, xq_sa1, xq_same, xq_other, upd_s, oI_n, oI_s, xv_0, xv_1, xv_2, xv_3, xm_p1, xm_p2, xq_fp, xq_fn, List.filter_nil, Nat.reduceBEq, Bool.not_true, Bool.not_false, Bool.and_true, Bool.and_false, Bool.false_and, Bool.true_and, if_true, if_false, Bool.false_eq_true, reduceIte, xc_i, xc_j, xc_r, xc_n, List.nil_append, List.cons_append, Option.toList_some, Option.toList_none, xf_102_63 F1, eA]
      refine xm_go_wk (by simp [Value.category]) (ih (i + 1) _ (by omega) (Fr_si hf' (by simp)) (fun k hk => ?_) (fun m hm => ?_))
      · by_cases z : k = i
        · subst z; rw [xs_same, upd_s]
        · rw [xs_same, upd_o (by omega)]; exact h1 k (by omega)
      · rw [xs_same, upd_o (by omega)]; exact h2 m (by omega)
  refine xq_in rfl ?_
  simp only [xq_a0, xq_aI, xq_aJ, xq_aR, Nat.reduceAdd]
  with_reducible refine xm_go_blk b_X12_fill_0 k_X12_fill_0 ?_
  refine by_iconst ci_0 ?_
  refine by_istore (by rw [ml_222]; decide) ?_
  refine by_nil ?_
  simp (disch := first | exact Nat.ne_of_beq_eq_false rfl | exact rfl | omega) only [nI_add, xa_sub, xa_mul, pk_div, nm_mod, xa_shr, xa_and7, xa_and1, xa_and255, xa_by_and, nI_m1, Nat.add_sub_cancel, Nat.reducePow, Nat.zero_add, Nat.add_zero, Nat.reduceAdd, Nat.reduceMul, Nat.reduceSub, xf_same, xq_ff, xq_fo, xf_1, xf_2, xs_1, xs_2, xs_same, xq_so, xj_1, xj_2, xj_same, xq_jo, xq_sa1, xq_same, xq_other, upd_s, oI_n, oI_s, xv_0, xv_1, xv_2, xv_3, xm_p1, xm_p2, xq_fp, xq_fn, List.filter_nil, Nat.reduceBEq, Bool.not_true, Bool.not_false, Bool.and_true, Bool.and_false, Bool.false_and, Bool.true_and, if_true, if_false, Bool.false_eq_true, reduceIte, xc_i, xc_j, xc_r, xc_n, List.nil_append, List.cons_append, Option.toList_some, Option.toList_none]
  exact xm_go_wk (by simp [Value.category]) (key 8 0 h rfl Fr_rf (fun k hk => absurd hk (by omega)) (fun _ _ => rfl))
theorem sp_fill0 {hf A : Nat} (hF : XF h) (hh : hf ≤ 1) (hp : ∀ h', Fr [149] [] h h' → (∀ k, k < 8 → h'.1 149 (8 * hf + k) = nI 0) → (∀ m, (m < 8 * hf ∨ 8 * hf + 8 ≤ m) → h'.1 149 m = h.1 149 m) → post none h') : xm_T (XE sc) (d + 1) 222 [.ref 102, .int (nI hf), .ref A, .int (-1)] h post := by
  have key : ∀ (j i : Nat) (h' : xm_H), i + j = 8 → Fr [149] [] h h' → (∀ k, k < i → h'.1 149 (8 * hf + k) = nI 0) → (∀ m, (m < 8 * hf ∨ 8 * hf + i ≤ m) → h'.1 149 m = h.1 149 m) → xm_go (XE sc) (xm_T (XE sc) d) 222 post 3 [(4, .int (nI i)), (0, .ref 102), (1, .int (nI hf)), (2, .ref A), (3, .int (-1))] [] h' := by
    intro j
    induction j with
    | zero =>
      intro i h' hi hf' h1 h2
      have : i = 8 := by omega
      subst this
      with_reducible refine xm_go_blk b_X12_fill_3 k_X12_fill_3 ?_
      refine by_iload rfl ?_
      refine by_bipush cb_8 ?_
      refine by_ic_ge 42 rfl ?_
      simp (disch := first | exact Nat.ne_of_beq_eq_false rfl | exact rfl | omega) only [nI_add, xa_sub, xa_mul, pk_div, nm_mod, xa_shr, xa_and7, xa_and1, xa_and255, xa_by_and, nI_m1, Nat.add_sub_cancel, Nat.reducePow, Nat.zero_add, Nat.add_zero, Nat.reduceAdd, Nat.reduceMul, Nat.reduceSub, xf_same, xq_ff, xq_fo, xf_1, xf_2, xs_1, xs_2, xs_same, xq_so, xj_1, xj_2, xj_same, xq_jo, xq_sa1, xq_same, xq_other, upd_s, oI_n, oI_s, xv_0, xv_1, xv_2, xv_3, xm_p1, xm_p2, xq_fp, xq_fn, List.filter_nil, Nat.reduceBEq, Bool.not_true, Bool.not_false, Bool.and_true, Bool.and_false, Bool.false_and, Bool.true_and, if_true, if_false, Bool.false_eq_true, reduceIte, xc_i, xc_j, xc_r, xc_n, List.nil_append, List.cons_append, Option.toList_some, Option.toList_none, nI_ltJ, nI_leJ, nI_eqJ, nI_ltz, nI_gez, nI_gtz, nI_lez, nI_eqz, m1_ltz, m1_gez, true_imp_iff, false_imp_iff, true_and, and_true, ne_eq, not_false_eq_true, not_true_eq_false, Nat.reduceEqDiff, Nat.reduceLT, Nat.reduceLeDiff]
      with_reducible refine xm_go_blk b_X12_fill_42 k_X12_fill_42 ?_
      refine by_ret ry_222 ?_
      exact hp h' hf' h1 h2
    | succ j ih =>
      intro i h' hi hf' h1 h2
      have F1 : XF h' := Fr_XF hF hf' (by decide +kernel)
      with_reducible refine xm_go_blk b_X12_fill_3 k_X12_fill_3 ?_
      refine by_iload rfl ?_
      refine by_bipush cb_8 ?_
      refine by_ic_ge 42 rfl ?_
      simp (disch := first | exact Nat.ne_of_beq_eq_false rfl | exact rfl | omega) only [nI_add, xa_sub, xa_mul, pk_div, nm_mod, xa_shr, xa_and7, xa_and1, xa_and255, xa_by_and, nI_m1, Nat.add_sub_cancel, Nat.reducePow, Nat.zero_add, Nat.add_zero, Nat.reduceAdd, Nat.reduceMul, Nat.reduceSub, xf_same, xq_ff, xq_fo, xf_1, xf_2, xs_1, xs_2, xs_same, xq_so, xj_1, xj_2, xj_same, xq_jo, xq_sa1, xq_same, xq_other, upd_s, oI_n, oI_s, xv_0, xv_1, xv_2, xv_3, xm_p1, xm_p2, xq_fp, xq_fn, List.filter_nil, Nat.reduceBEq, Bool.not_true, Bool.not_false, Bool.and_true, Bool.and_false, Bool.false_and, Bool.true_and, if_true, if_false, Bool.false_eq_true, reduceIte, xc_i, xc_j, xc_r, xc_n, List.nil_append, List.cons_append, Option.toList_some, Option.toList_none, nI_ltJ, nI_leJ, nI_eqJ, nI_ltz, nI_gez, nI_gtz, nI_lez, nI_eqz, m1_ltz, m1_gez, true_imp_iff, false_imp_iff, true_and, and_true, ne_eq, not_false_eq_true, not_true_eq_false, Nat.reduceEqDiff, Nat.reduceLT, Nat.reduceLeDiff, xf_102_63 F1, m1_gez]
      refine ⟨fun c => absurd c (by omega), fun c3 => ?_⟩
      with_reducible refine xm_go_blk b_X12_fill_10 k_X12_fill_10 ?_
      refine by_aload_n rfl ?_
      refine by_getf cn_222 fl_12_154 (by first | exact rfl | assumption) (by decide) ?_
      refine by_bipush cb_8 ?_
      refine by_iload_n rfl ?_
      refine by_imul ?_
      refine by_iload rfl ?_
      refine by_iadd ?_
      refine by_iload_n rfl ?_
      refine by_if_ge 29 rfl ?_
      simp (disch := first | exact Nat.ne_of_beq_eq_false rfl | exact rfl | omega) only [nI_add, xa_sub, xa_mul, pk_div, nm_mod, xa_shr, xa_and7, xa_and1, xa_and255, xa_by_and, nI_m1, Nat.add_sub_cancel, Nat.reducePow, Nat.zero_add, Nat.add_zero, Nat.reduceAdd, Nat.reduceMul, Nat.reduceSub, xf_same, xq_ff, xq_fo, xf_1, xf_2, xs_1, xs_2, xs_same, xq_so, xj_1, xj_2, xj_same, xq_jo, xq_sa1, xq_same, xq_other, upd_s, oI_n, oI_s, xv_0, xv_1, xv_2, xv_3, xm_p1, xm_p2, xq_fp, xq_fn, List.filter_nil, Nat.reduceBEq, Bool.not_true, Bool.not_false, Bool.and_true, Bool.and_false, Bool.false_and, Bool.true_and, if_true, if_false, Bool.false_eq_true, reduceIte, xc_i, xc_j, xc_r, xc_n, List.nil_append, List.cons_append, Option.toList_some, Option.toList_none, nI_ltJ, nI_leJ, nI_eqJ, nI_ltz, nI_gez, nI_gtz, nI_lez, nI_eqz, m1_ltz, m1_gez, true_imp_iff, false_imp_iff, true_and, and_true, ne_eq, not_false_eq_true, not_true_eq_false, Nat.reduceEqDiff, Nat.reduceLT, Nat.reduceLeDiff, xf_102_63 F1, m1_gez]
      with_reducible refine xm_go_blk b_X12_fill_25 k_X12_fill_25 ?_
      refine by_iconst ci_0 ?_
      refine by_goto 35 rfl ?_
      with_reducible refine xm_go_blk b_X12_fill_35 k_X12_fill_35 ?_
      refine by_iast (by first | exact rfl | assumption | exact ps_1 hpp | exact ps_2 hpp | exact ps_3 hpp | exact ps_4 hpp | exact ps_5 hpp | exact ps_6 hpp | exact ps_7 hpp | exact ps_8 hpp | exact ps_9 hpp | exact ps_10 hpp | exact ps_11 hpp | exact ps_15 hpp | exact ps_16 hpp | exact ps_17 hpp | exact ps_18 hpp | exact ps_19 hpp | exact ps_21 hpp | exact ps_22 hpp | exact ps_23 hpp | exact ps_24 hpp) ⟨by omega, by omega⟩ ?_
      refine by_iinc (by rw [ml_222]; decide) rfl ci_1 ?_
      refine by_goto 3 rfl ?_
      simp (disch := first | exact Nat.ne_of_beq_eq_false rfl | exact rfl | omega) only [nI_add, xa_sub, xa_mul, pk_div, nm_mod, xa_shr, xa_and7, xa_and1, xa_and255, xa_by_and, nI_m1, Nat.add_sub_cancel, Nat.reducePow, Nat.zero_add, Nat.add_zero, Nat.reduceAdd, Nat.reduceMul, Nat.reduceSub, xf_same, xq_ff, xq_fo, xf_1, xf_2, xs_1, xs_2, xs_same, xq_so, xj_1, xj_2, xj_same, xq_jo, xq_sa1, xq_same, xq_other, upd_s, oI_n, oI_s, xv_0, xv_1, xv_2, xv_3, xm_p1, xm_p2, xq_fp, xq_fn, List.filter_nil, Nat.reduceBEq, Bool.not_true, Bool.not_false, Bool.and_true, Bool.and_false, Bool.false_and, Bool.true_and, if_true, if_false, Bool.false_eq_true, reduceIte, xc_i, xc_j, xc_r, xc_n, List.nil_append, List.cons_append, Option.toList_some, Option.toList_none, xf_102_63 F1, m1_gez]
      refine xm_go_wk (by simp [Value.category]) (ih (i + 1) _ (by omega) (Fr_si hf' (by simp)) (fun k hk => ?_) (fun m hm => ?_))
      · by_cases z : k = i
        · subst z; rw [xs_same, upd_s]
        · rw [xs_same, upd_o (by omega)]; exact h1 k (by omega)
      · rw [xs_same, upd_o (by omega)]; exact h2 m (by omega)
  refine xq_in rfl ?_
  simp only [xq_a0, xq_aI, xq_aJ, xq_aR, Nat.reduceAdd]
  with_reducible refine xm_go_blk b_X12_fill_0 k_X12_fill_0 ?_
  refine by_iconst ci_0 ?_
  refine by_istore (by rw [ml_222]; decide) ?_
  refine by_nil ?_
  simp (disch := first | exact Nat.ne_of_beq_eq_false rfl | exact rfl | omega) only [nI_add, xa_sub, xa_mul, pk_div, nm_mod, xa_shr, xa_and7, xa_and1, xa_and255, xa_by_and, nI_m1, Nat.add_sub_cancel, Nat.reducePow, Nat.zero_add, Nat.add_zero, Nat.reduceAdd, Nat.reduceMul, Nat.reduceSub, xf_same, xq_ff, xq_fo, xf_1, xf_2, xs_1, xs_2, xs_same, xq_so, xj_1, xj_2, xj_same, xq_jo, xq_sa1, xq_same, xq_other, upd_s, oI_n, oI_s, xv_0, xv_1, xv_2, xv_3, xm_p1, xm_p2, xq_fp, xq_fn, List.filter_nil, Nat.reduceBEq, Bool.not_true, Bool.not_false, Bool.and_true, Bool.and_false, Bool.false_and, Bool.true_and, if_true, if_false, Bool.false_eq_true, reduceIte, xc_i, xc_j, xc_r, xc_n, List.nil_append, List.cons_append, Option.toList_some, Option.toList_none]
  exact xm_go_wk (by simp [Value.category]) (key 8 0 h rfl Fr_rf (fun k hk => absurd hk (by omega)) (fun _ _ => rfl))
/-- the words are laid down -/
theorem rt_89 {y : Nat} {r : Nat → Int32} (hF : XF h) (hy : y < 3200) (hs : ∀ k, k < 8 → h.1 148 k = r k) (hp : ∀ h', Fr [137] [] h h' → (∀ k, k < 8 → h'.1 137 (8 * y + k) = r k) → (∀ m, (m < 8 * y ∨ 8 * y + 8 ≤ m) → h'.1 137 m = h.1 137 m) → post none h') :
    ∀ (j i : Nat) (h' : xm_H), i + j = 8 → Fr [137] [] h h' → (∀ k, k < i → h'.1 137 (8 * y + k) = r k) → (∀ m, (m < 8 * y ∨ 8 * y + i ≤ m) → h'.1 137 m = h.1 137 m) → xm_go (XE sc) (xm_T (XE sc) (d + 3)) 289 post 91 [(2, .int (nI i)), (0, .ref 102), (1, .int (nI y))] [] h' := by
  intro j
  induction j with
  | zero =>
    intro i h' hi hf h1 h2
    have : i = 8 := by omega
    subst this
    with_reducible refine xm_go_blk b_X12_rootOfType_91 k_X12_rootOfType_91 ?_
    refine by_iload_n rfl ?_
    refine by_bipush cb_8 ?_
    refine by_ic_ge 120 rfl ?_
    simp (disch := first | exact Nat.ne_of_beq_eq_false rfl | exact rfl | omega) only [nI_add, xa_sub, xa_mul, pk_div, nm_mod, xa_shr, xa_and7, xa_and1, xa_and255, xa_by_and, nI_m1, Nat.add_sub_cancel, Nat.reducePow, Nat.zero_add, Nat.add_zero, Nat.reduceAdd, Nat.reduceMul, Nat.reduceSub, xf_same, xq_ff, xq_fo, xf_1, xf_2, xs_1, xs_2, xs_same, xq_so, xj_1, xj_2, xj_same, xq_jo, xq_sa1, xq_same, xq_other, upd_s, oI_n, oI_s, xv_0, xv_1, xv_2, xv_3, xm_p1, xm_p2, xq_fp, xq_fn, List.filter_nil, Nat.reduceBEq, Bool.not_true, Bool.not_false, Bool.and_true, Bool.and_false, Bool.false_and, Bool.true_and, if_true, if_false, Bool.false_eq_true, reduceIte, xc_i, xc_j, xc_r, xc_n, List.nil_append, List.cons_append, Option.toList_some, Option.toList_none, nI_ltJ, nI_leJ, nI_eqJ, nI_ltz, nI_gez, nI_gtz, nI_lez, nI_eqz, m1_ltz, m1_gez, true_imp_iff, false_imp_iff, true_and, and_true, ne_eq, not_false_eq_true, not_true_eq_false, Nat.reduceEqDiff, Nat.reduceLT, Nat.reduceLeDiff]
    with_reducible refine xm_go_blk b_X12_rootOfType_120 k_X12_rootOfType_120 ?_
    refine by_ret ry_289 ?_
    exact hp h' hf h1 h2
  | succ j ih =>
    intro i h' hi hf h1 h2
    have F1 : XF h' := Fr_XF hF hf (by decide +kernel)
    have e1 : h'.1 148 i = r i := by rw [hf.1 148 (by simp)]; exact hs i (by omega)
    with_reducible refine xm_go_blk b_X12_rootOfType_91 k_X12_rootOfType_91 ?_
    refine by_iload_n rfl ?_
    refine by_bipush cb_8 ?_
    refine by_ic_ge 120 rfl ?_
    simp (disch := first | exact Nat.ne_of_beq_eq_false rfl | exact rfl | omega) only [nI_add, xa_sub, xa_mul, pk_div, nm_mod, xa_shr, xa_and7, xa_and1, xa_and255, xa_by_and, nI_m1, Nat.add_sub_cancel, Nat.reducePow, Nat.zero_add, Nat.add_zero, Nat.reduceAdd, Nat.reduceMul, Nat.reduceSub, xf_same, xq_ff, xq_fo, xf_1, xf_2, xs_1, xs_2, xs_same, xq_so, xj_1, xj_2, xj_same, xq_jo, xq_sa1, xq_same, xq_other, upd_s, oI_n, oI_s, xv_0, xv_1, xv_2, xv_3, xm_p1, xm_p2, xq_fp, xq_fn, List.filter_nil, Nat.reduceBEq, Bool.not_true, Bool.not_false, Bool.and_true, Bool.and_false, Bool.false_and, Bool.true_and, if_true, if_false, Bool.false_eq_true, reduceIte, xc_i, xc_j, xc_r, xc_n, List.nil_append, List.cons_append, Option.toList_some, Option.toList_none, nI_ltJ, nI_leJ, nI_eqJ, nI_ltz, nI_gez, nI_gtz, nI_lez, nI_eqz, m1_ltz, m1_gez, true_imp_iff, false_imp_iff, true_and, and_true, ne_eq, not_false_eq_true, not_true_eq_false, Nat.reduceEqDiff, Nat.reduceLT, Nat.reduceLeDiff, xf_102_49 F1, xf_102_62 F1, e1]
    refine ⟨fun c => absurd c (by omega), fun c91 => ?_⟩
    with_reducible refine xm_go_blk b_X12_rootOfType_97 k_X12_rootOfType_97 ?_
    refine by_aload_n rfl ?_
    refine by_getf cn_289 fl_12_115 (by first | exact rfl | assumption) (by decide) ?_
    refine by_bipush cb_8 ?_
    refine by_iload_n rfl ?_
    refine by_imul ?_
    refine by_iload_n rfl ?_
    refine by_iadd ?_
    refine by_aload_n rfl ?_
    refine by_getf cn_289 fl_12_151 (by first | exact rfl | assumption) (by decide) ?_
    refine by_iload_n rfl ?_
    simp (disch := first | exact Nat.ne_of_beq_eq_false rfl | exact rfl | omega) only [nI_add, xa_sub, xa_mul, pk_div, nm_mod, xa_shr, xa_and7, xa_and1, xa_and255, xa_by_and, nI_m1, Nat.add_sub_cancel, Nat.reducePow, Nat.zero_add, Nat.add_zero, Nat.reduceAdd, Nat.reduceMul, Nat.reduceSub, xf_same, xq_ff, xq_fo, xf_1, xf_2, xs_1, xs_2, xs_same, xq_so, xj_1, xj_2, xj_same, xq_jo, xq_sa1, xq_same, xq_other, upd_s, oI_n, oI_s, xf_102_49 F1, xf_102_62 F1, e1]
    first | refine by_iald (by first | exact rfl | assumption | exact ps_1 hpp | exact ps_2 hpp | exact ps_3 hpp | exact ps_4 hpp | exact ps_5 hpp | exact ps_6 hpp | exact ps_7 hpp | exact ps_8 hpp | exact ps_9 hpp | exact ps_10 hpp | exact ps_11 hpp | exact ps_15 hpp | exact ps_16 hpp | exact ps_17 hpp | exact ps_18 hpp | exact ps_19 hpp | exact ps_21 hpp | exact ps_22 hpp | exact ps_23 hpp | exact ps_24 hpp) ⟨by omega, by omega⟩ ?_ | refine by_tald rfl rfl ⟨by omega, by omega⟩ ?_
    refine by_iast (by first | exact rfl | assumption | exact ps_1 hpp | exact ps_2 hpp | exact ps_3 hpp | exact ps_4 hpp | exact ps_5 hpp | exact ps_6 hpp | exact ps_7 hpp | exact ps_8 hpp | exact ps_9 hpp | exact ps_10 hpp | exact ps_11 hpp | exact ps_15 hpp | exact ps_16 hpp | exact ps_17 hpp | exact ps_18 hpp | exact ps_19 hpp | exact ps_21 hpp | exact ps_22 hpp | exact ps_23 hpp | exact ps_24 hpp) ⟨by omega, by omega⟩ ?_
    refine by_iinc (by rw [ml_289]; decide) rfl ci_1 ?_
    refine by_goto 91 rfl ?_
    simp (disch := first | exact Nat.ne_of_beq_eq_false rfl | exact rfl | omega) only [nI_add, xa_sub, xa_mul, pk_div, nm_mod, xa_shr, xa_and7, xa_and1, xa_and255, xa_by_and, nI_m1, Nat.add_sub_cancel, Nat.reducePow, Nat.zero_add, Nat.add_zero, Nat.reduceAdd, Nat.reduceMul, Nat.reduceSub, xf_same, xq_ff, xq_fo, xf_1, xf_2, xs_1, xs_2, xs_same, xq_so, xj_1, xj_2, xj_same, xq_jo, xq_sa1, xq_same, xq_other, upd_s, oI_n, oI_s, xv_0, xv_1, xv_2, xv_3, xm_p1, xm_p2, xq_fp, xq_fn, List.filter_nil, Nat.reduceBEq, Bool.not_true, Bool.not_false, Bool.and_true, Bool.and_false, Bool.false_and, Bool.true_and, if_true, if_false, Bool.false_eq_true, reduceIte, xc_i, xc_j, xc_r, xc_n, List.nil_append, List.cons_append, Option.toList_some, Option.toList_none, xf_102_49 F1, xf_102_62 F1, e1]
    refine xm_go_wk (by simp [Value.category]) (ih (i + 1) _ (by omega) (Fr_si hf (by simp)) (fun k hk => ?_) (fun m hm => ?_))
    · by_cases z : k = i
      · subst z; rw [xs_same, upd_s]
      · rw [xs_same, upd_o (by omega)]; exact h1 k (by omega)
    · rw [xs_same, upd_o (by omega)]; exact h2 m (by omega)
theorem sp_rootOfType {y kk ll rr : Nat} {t a b : Ty} (hF : XF h) (hy : y < 3200) (hk : kk ≤ 2) (r1 : h.1 129 y = nI (kk + 1)) (r2 : 1 ≤ kk → h.1 130 y = nI ll ∧ h.1 131 y = nI rr ∧ ll < 3200 ∧ rr < 3200 ∧ (∀ k, k < 8 → h.1 137 (8 * ll + k) = tyRt a k) ∧ ∀ k, k < 8 → h.1 137 (8 * rr + k) = tyRt b k) (ht : t = (if kk = 0 then tO else if kk = 1 then .add a b else .mul a b))
    (hp : ∀ h', Fr [137, 148, 149, 150] [] h h' → (∀ k, k < 8 → h'.1 137 (8 * y + k) = tyRt t k) → (∀ m, (m < 8 * y ∨ 8 * y + 8 ≤ m) → h'.1 137 m = h.1 137 m) → post none h') : xm_T (XE sc) (d + 4) 289 [.ref 102, .int (nI y)] h post := by
  refine xq_in rfl ?_
  simp only [xq_a0, xq_aI, xq_aJ, xq_aR, Nat.reduceAdd]
  have fin : ∀ h1, Fr [148, 149, 150] [] h h1 → (∀ k, k < 8 → h1.1 148 k = tyRt t k) → xm_go (XE sc) (xm_T (XE sc) (d + 3)) 289 post 89 [(0, .ref 102), (1, .int (nI y))] [] h1 := by
    intro h1 f1 hs
    with_reducible refine xm_go_blk b_X12_rootOfType_89 k_X12_rootOfType_89 ?_
    refine by_iconst ci_0 ?_
    refine by_istore_n (by rw [ml_289]; decide) ?_
    refine by_nil ?_
    simp (disch := first | exact Nat.ne_of_beq_eq_false rfl | exact rfl | omega) only [nI_add, xa_sub, xa_mul, pk_div, nm_mod, xa_shr, xa_and7, xa_and1, xa_and255, xa_by_and, nI_m1, Nat.add_sub_cancel, Nat.reducePow, Nat.zero_add, Nat.add_zero, Nat.reduceAdd, Nat.reduceMul, Nat.reduceSub, xf_same, xq_ff, xq_fo, xf_1, xf_2, xs_1, xs_2, xs_same, xq_so, xj_1, xj_2, xj_same, xq_jo, xq_sa1, xq_same, xq_other, upd_s, oI_n, oI_s, xv_0, xv_1, xv_2, xv_3, xm_p1, xm_p2, xq_fp, xq_fn, List.filter_nil, Nat.reduceBEq, Bool.not_true, Bool.not_false, Bool.and_true, Bool.and_false, Bool.false_and, Bool.true_and, if_true, if_false, Bool.false_eq_true, reduceIte, xc_i, xc_j, xc_r, xc_n, List.nil_append, List.cons_append, Option.toList_some, Option.toList_none]
    refine xm_go_wk (by simp [Value.category]) (rt_89 (Fr_XF hF f1 (by decide +kernel)) hy hs (fun h2 f2 q1 q2 => ?_) 8 0 h1 rfl Fr_rf (fun k hk => absurd hk (by omega)) (fun _ _ => rfl))
    exact hp h2 (Fr_tr (Fr_mo f1 (by simp) (by simp)) f2 (by simp) (by simp)) q1 (fun m hm => by rw [q2 m hm, f1.1 137 (by simp)])
  have two : ∀ (x : Int32) (h1 : xm_H), 1 ≤ kk → Fr [148, 149, 150] [] h h1 → (∀ k, k < 8 → h1.1 148 k = rt0 x k) → (∀ k, k < 8 → rtC (rt0 x) (tyRt a) (tyRt b) k = tyRt t k) → xm_go (XE sc) (xm_T (XE sc) (d + 3)) 289 post 39 [(0, .ref 102), (1, .int (nI y))] [] h1 := by
    intro x h1 hk1 f1 hs hx
    obtain ⟨c1, c2, c3, c4, c5, c6⟩ := r2 hk1
    have F1 : XF h1 := Fr_XF hF f1 (by decide +kernel)
    have d1 : h1.1 129 y = nI (kk + 1) := by rw [f1.1 129 (by simp)]; exact r1
    have d2 : h1.1 130 y = nI ll := by rw [f1.1 130 (by simp)]; exact c1
    have e0 : (kk + 1 = 1) = False := eq_false (by omega)
    have e0' : (kk = 0) = False := eq_false (by omega)
    with_reducible refine xm_go_blk b_X12_rootOfType_39 k_X12_rootOfType_39 ?_
    refine by_aload_n rfl ?_
    refine by_getf cn_289 fl_12_91 (by first | exact rfl | assumption) (by decide) ?_
    refine by_iload_n rfl ?_
    simp (disch := first | exact Nat.ne_of_beq_eq_false rfl | exact rfl | omega) only [nI_add, xa_sub, xa_mul, pk_div, nm_mod, xa_shr, xa_and7, xa_and1, xa_and255, xa_by_and, nI_m1, Nat.add_sub_cancel, Nat.reducePow, Nat.zero_add, Nat.add_zero, Nat.reduceAdd, Nat.reduceMul, Nat.reduceSub, xf_same, xq_ff, xq_fo, xf_1, xf_2, xs_1, xs_2, xs_same, xq_so, xj_1, xj_2, xj_same, xq_jo, xq_sa1, xq_same, xq_other, upd_s, oI_n, oI_s, xf_102_41 F1, xf_102_42 F1, xf_102_49 F1, d1, d2, e0, e0']
    first | refine by_iald (by first | exact rfl | assumption | exact ps_1 hpp | exact ps_2 hpp | exact ps_3 hpp | exact ps_4 hpp | exact ps_5 hpp | exact ps_6 hpp | exact ps_7 hpp | exact ps_8 hpp | exact ps_9 hpp | exact ps_10 hpp | exact ps_11 hpp | exact ps_15 hpp | exact ps_16 hpp | exact ps_17 hpp | exact ps_18 hpp | exact ps_19 hpp | exact ps_21 hpp | exact ps_22 hpp | exact ps_23 hpp | exact ps_24 hpp) ⟨by omega, by omega⟩ ?_ | refine by_tald rfl rfl ⟨by omega, by omega⟩ ?_
    refine by_iconst ci_1 ?_
    refine by_ic_eq 89 rfl ?_
    simp (disch := first | exact Nat.ne_of_beq_eq_false rfl | exact rfl | omega) only [nI_add, xa_sub, xa_mul, pk_div, nm_mod, xa_shr, xa_and7, xa_and1, xa_and255, xa_by_and, nI_m1, Nat.add_sub_cancel, Nat.reducePow, Nat.zero_add, Nat.add_zero, Nat.reduceAdd, Nat.reduceMul, Nat.reduceSub, xf_same, xq_ff, xq_fo, xf_1, xf_2, xs_1, xs_2, xs_same, xq_so, xj_1, xj_2, xj_same, xq_jo, xq_sa1, xq_same, xq_other, upd_s, oI_n, oI_s, xv_0, xv_1, xv_2, xv_3, xm_p1, xm_p2, xq_fp, xq_fn, List.filter_nil, Nat.reduceBEq, Bool.not_true, Bool.not_false, Bool.and_true, Bool.and_false, Bool.false_and, Bool.true_and, if_true, if_false, Bool.false_eq_true, reduceIte, xc_i, xc_j, xc_r, xc_n, List.nil_append, List.cons_append, Option.toList_some, Option.toList_none, nI_ltJ, nI_leJ, nI_eqJ, nI_ltz, nI_gez, nI_gtz, nI_lez, nI_eqz, m1_ltz, m1_gez, true_imp_iff, false_imp_iff, true_and, and_true, ne_eq, not_false_eq_true, not_true_eq_false, Nat.reduceEqDiff, Nat.reduceLT, Nat.reduceLeDiff, xf_102_41 F1, xf_102_42 F1, xf_102_49 F1, d1, d2, e0, e0']
    with_reducible refine xm_go_blk b_X12_rootOfType_49 k_X12_rootOfType_49 ?_
    refine by_aload_n rfl ?_
    refine by_iconst ci_0 ?_
    refine by_aload_n rfl ?_
    refine by_getf cn_289 fl_12_115 (by first | exact rfl | assumption) (by decide) ?_
    refine by_bipush cb_8 ?_
    refine by_aload_n rfl ?_
    refine by_getf cn_289 fl_12_94 (by first | exact rfl | assumption) (by decide) ?_
    refine by_iload_n rfl ?_
    simp (disch := first | exact Nat.ne_of_beq_eq_false rfl | exact rfl | omega) only [nI_add, xa_sub, xa_mul, pk_div, nm_mod, xa_shr, xa_and7, xa_and1, xa_and255, xa_by_and, nI_m1, Nat.add_sub_cancel, Nat.reducePow, Nat.zero_add, Nat.add_zero, Nat.reduceAdd, Nat.reduceMul, Nat.reduceSub, xf_same, xq_ff, xq_fo, xf_1, xf_2, xs_1, xs_2, xs_same, xq_so, xj_1, xj_2, xj_same, xq_jo, xq_sa1, xq_same, xq_other, upd_s, oI_n, oI_s, xf_102_41 F1, xf_102_42 F1, xf_102_49 F1, d1, d2, e0, e0']
    first | refine by_iald (by first | exact rfl | assumption | exact ps_1 hpp | exact ps_2 hpp | exact ps_3 hpp | exact ps_4 hpp | exact ps_5 hpp | exact ps_6 hpp | exact ps_7 hpp | exact ps_8 hpp | exact ps_9 hpp | exact ps_10 hpp | exact ps_11 hpp | exact ps_15 hpp | exact ps_16 hpp | exact ps_17 hpp | exact ps_18 hpp | exact ps_19 hpp | exact ps_21 hpp | exact ps_22 hpp | exact ps_23 hpp | exact ps_24 hpp) ⟨by omega, by omega⟩ ?_ | refine by_tald rfl rfl ⟨by omega, by omega⟩ ?_
    refine by_imul ?_
    simp (disch := first | exact Nat.ne_of_beq_eq_false rfl | exact rfl | omega) only [nI_add, xa_sub, xa_mul, pk_div, nm_mod, xa_shr, xa_and7, xa_and1, xa_and255, xa_by_and, nI_m1, Nat.add_sub_cancel, Nat.reducePow, Nat.zero_add, Nat.add_zero, Nat.reduceAdd, Nat.reduceMul, Nat.reduceSub, xf_same, xq_ff, xq_fo, xf_1, xf_2, xs_1, xs_2, xs_same, xq_so, xj_1, xj_2, xj_same, xq_jo, xq_sa1, xq_same, xq_other, upd_s, oI_n, oI_s, xv_0, xv_1, xv_2, xv_3, xm_p1, xm_p2, xq_fp, xq_fn, List.filter_nil, Nat.reduceBEq, Bool.not_true, Bool.not_false, Bool.and_true, Bool.and_false, Bool.false_and, Bool.true_and, if_true, if_false, Bool.false_eq_true, reduceIte, xc_i, xc_j, xc_r, xc_n, List.nil_append, List.cons_append, Option.toList_some, Option.toList_none, xf_102_41 F1, xf_102_42 F1, xf_102_49 F1, d1, d2, e0, e0']
    refine by_inv3 cn_289 lk_12_326 (by rw [xe_cnt]; decide) is_222 np_222 cn_222 (by first | exact rfl | assumption) (Nat.le_of_ble_eq_true rfl) ?_
    refine sp_fill (hf := 0) F1 (by decide) rfl (by decide) (show 8 * ll + 8 ≤ 25600 by omega) (by decide) (fun h2 f2 q1 q2 => ?_)
    have F2 : XF h2 := Fr_XF F1 f2 (by decide +kernel)
    have d3 : h2.1 131 y = nI rr := by rw [f2.1 131 (by simp), f1.1 131 (by simp)]; exact c2
    with_reducible refine xm_go_blk b_X12_rootOfType_67 k_X12_rootOfType_67 ?_
    refine by_aload_n rfl ?_
    refine by_iconst ci_1 ?_
    refine by_aload_n rfl ?_
    refine by_getf cn_289 fl_12_115 (by first | exact rfl | assumption) (by decide) ?_
    refine by_bipush cb_8 ?_
    refine by_aload_n rfl ?_
    refine by_getf cn_289 fl_12_97 (by first | exact rfl | assumption) (by decide) ?_
    refine by_iload_n rfl ?_
    simp (disch := first | exact Nat.ne_of_beq_eq_false rfl | exact rfl | omega) only [nI_add, xa_sub, xa_mul, pk_div, nm_mod, xa_shr, xa_and7, xa_and1, xa_and255, xa_by_and, nI_m1, Nat.add_sub_cancel, Nat.reducePow, Nat.zero_add, Nat.add_zero, Nat.reduceAdd, Nat.reduceMul, Nat.reduceSub, xf_same, xq_ff, xq_fo, xf_1, xf_2, xs_1, xs_2, xs_same, xq_so, xj_1, xj_2, xj_same, xq_jo, xq_sa1, xq_same, xq_other, upd_s, oI_n, oI_s, xf_102_43 F2, xf_102_49 F2, d3]
    first | refine by_iald (by first | exact rfl | assumption | exact ps_1 hpp | exact ps_2 hpp | exact ps_3 hpp | exact ps_4 hpp | exact ps_5 hpp | exact ps_6 hpp | exact ps_7 hpp | exact ps_8 hpp | exact ps_9 hpp | exact ps_10 hpp | exact ps_11 hpp | exact ps_15 hpp | exact ps_16 hpp | exact ps_17 hpp | exact ps_18 hpp | exact ps_19 hpp | exact ps_21 hpp | exact ps_22 hpp | exact ps_23 hpp | exact ps_24 hpp) ⟨by omega, by omega⟩ ?_ | refine by_tald rfl rfl ⟨by omega, by omega⟩ ?_
    refine by_imul ?_
    simp (disch := first | exact Nat.ne_of_beq_eq_false rfl | exact rfl | omega) only [nI_add, xa_sub, xa_mul, pk_div, nm_mod, xa_shr, xa_and7, xa_and1, xa_and255, xa_by_and, nI_m1, Nat.add_sub_cancel, Nat.reducePow, Nat.zero_add, Nat.add_zero, Nat.reduceAdd, Nat.reduceMul, Nat.reduceSub, xf_same, xq_ff, xq_fo, xf_1, xf_2, xs_1, xs_2, xs_same, xq_so, xj_1, xj_2, xj_same, xq_jo, xq_sa1, xq_same, xq_other, upd_s, oI_n, oI_s, xv_0, xv_1, xv_2, xv_3, xm_p1, xm_p2, xq_fp, xq_fn, List.filter_nil, Nat.reduceBEq, Bool.not_true, Bool.not_false, Bool.and_true, Bool.and_false, Bool.false_and, Bool.true_and, if_true, if_false, Bool.false_eq_true, reduceIte, xc_i, xc_j, xc_r, xc_n, List.nil_append, List.cons_append, Option.toList_some, Option.toList_none, xf_102_43 F2, xf_102_49 F2, d3]
    refine by_inv3 cn_289 lk_12_326 (by rw [xe_cnt]; decide) is_222 np_222 cn_222 (by first | exact rfl | assumption) (Nat.le_of_ble_eq_true rfl) ?_
    refine sp_fill (hf := 1) F2 (by decide) rfl (by decide) (show 8 * rr + 8 ≤ 25600 by omega) (by decide) (fun h3 f3 q3 q4 => ?_)
    have F3 : XF h3 := Fr_XF F2 f3 (by decide +kernel)
    with_reducible refine xm_go_blk b_X12_rootOfType_85 k_X12_rootOfType_85 ?_
    refine by_aload_n rfl ?_
    refine by_inv0 cn_289 lk_12_320 (by rw [xe_cnt]; decide) is_263 np_263 cn_263 (by first | exact rfl | assumption) (Nat.le_of_ble_eq_true rfl) ?_
    refine sp_mix (w := h3.1 149) (st := rt0 x) F3 rfl (fun m hm => by rw [f3.1 148 (by simp), f2.1 148 (by simp)]; exact hs m hm) (fun h4 f4 hs4 => ?_)
    refine fin h4 (Fr_tr (Fr_tr (Fr_tr f1 f2 (by simp) (by simp)) f3 (by simp) (by simp)) f4 (by simp) (by simp)) (fun k hk => ?_)
    rw [hs4 k hk, ← hx k hk, kk_eq]
    unfold rtC
    refine shC_cg (fun _ _ => rfl) (fun m hm => ?_) k hk
    by_cases z : m < 8
    · rw [if_pos z, q4 m (by omega)]
      have := q1 m z
      simp only [Nat.mul_zero, Nat.zero_add] at this
      rw [this, f1.1 137 (by simp)]
      exact c5 m z
    · rw [if_neg z]
      have := q3 (m - 8) (by omega)
      rw [show 8 * 1 + (m - 8) = m by omega] at this
      rw [this, f2.1 137 (by simp), f1.1 137 (by simp)]
      exact c6 (m - 8) (by omega)
  rcases ts_cs hk with e | e | e
  · subst e
    rw [if_pos rfl] at ht
    have r1 : h.1 129 y = nI 1 := r1
    with_reducible refine xm_go_blk b_X12_rootOfType_0 k_X12_rootOfType_0 ?_
    refine by_aload_n rfl ?_
    refine by_aload_n rfl ?_
    refine by_getf cn_289 fl_12_91 (by first | exact rfl | assumption) (by decide) ?_
    refine by_iload_n rfl ?_
    simp (disch := first | exact Nat.ne_of_beq_eq_false rfl | exact rfl | omega) only [nI_add, xa_sub, xa_mul, pk_div, nm_mod, xa_shr, xa_and7, xa_and1, xa_and255, xa_by_and, nI_m1, Nat.add_sub_cancel, Nat.reducePow, Nat.zero_add, Nat.add_zero, Nat.reduceAdd, Nat.reduceMul, Nat.reduceSub, xf_same, xq_ff, xq_fo, xf_1, xf_2, xs_1, xs_2, xs_same, xq_so, xj_1, xj_2, xj_same, xq_jo, xq_sa1, xq_same, xq_other, upd_s, oI_n, oI_s, xf_102_41 hF, r1]
    first | refine by_iald (by first | exact rfl | assumption | exact ps_1 hpp | exact ps_2 hpp | exact ps_3 hpp | exact ps_4 hpp | exact ps_5 hpp | exact ps_6 hpp | exact ps_7 hpp | exact ps_8 hpp | exact ps_9 hpp | exact ps_10 hpp | exact ps_11 hpp | exact ps_15 hpp | exact ps_16 hpp | exact ps_17 hpp | exact ps_18 hpp | exact ps_19 hpp | exact ps_21 hpp | exact ps_22 hpp | exact ps_23 hpp | exact ps_24 hpp) ⟨by omega, by omega⟩ ?_ | refine by_tald rfl rfl ⟨by omega, by omega⟩ ?_
    refine by_iconst ci_1 ?_
    refine by_ic_ne 17 rfl ?_
    simp (disch := first | exact Nat.ne_of_beq_eq_false rfl | exact rfl | omega) only [nI_add, xa_sub, xa_mul, pk_div, nm_mod, xa_shr, xa_and7, xa_and1, xa_and255, xa_by_and, nI_m1, Nat.add_sub_cancel, Nat.reducePow, Nat.zero_add, Nat.add_zero, Nat.reduceAdd, Nat.reduceMul, Nat.reduceSub, xf_same, xq_ff, xq_fo, xf_1, xf_2, xs_1, xs_2, xs_same, xq_so, xj_1, xj_2, xj_same, xq_jo, xq_sa1, xq_same, xq_other, upd_s, oI_n, oI_s, xv_0, xv_1, xv_2, xv_3, xm_p1, xm_p2, xq_fp, xq_fn, List.filter_nil, Nat.reduceBEq, Bool.not_true, Bool.not_false, Bool.and_true, Bool.and_false, Bool.false_and, Bool.true_and, if_true, if_false, Bool.false_eq_true, reduceIte, xc_i, xc_j, xc_r, xc_n, List.nil_append, List.cons_append, Option.toList_some, Option.toList_none, nI_ltJ, nI_leJ, nI_eqJ, nI_ltz, nI_gez, nI_gtz, nI_lez, nI_eqz, m1_ltz, m1_gez, true_imp_iff, false_imp_iff, true_and, and_true, ne_eq, not_false_eq_true, not_true_eq_false, Nat.reduceEqDiff, Nat.reduceLT, Nat.reduceLeDiff, xf_102_41 hF, r1]
    with_reducible refine xm_go_blk b_X12_rootOfType_11 k_X12_rootOfType_11 ?_
    refine by_sipush cs_208 ?_
    refine by_goto 36 rfl ?_
    with_reducible refine xm_go_blk b_X12_rootOfType_36 k_X12_rootOfType_36 ?_
    refine by_inv1 cn_289 lk_12_323 (by rw [xe_cnt]; decide) is_248 np_248 cn_248 (by first | exact rfl | assumption) (Nat.le_of_ble_eq_true rfl) ?_
    refine sp_mleaf hF (fun h1 f1 hs => ?_)
    have F1 : XF h1 := Fr_XF hF f1 (by decide +kernel)
    have d1 : h1.1 129 y = nI 1 := by rw [f1.1 129 (by simp)]; exact r1
    with_reducible refine xm_go_blk b_X12_rootOfType_39 k_X12_rootOfType_39 ?_
    refine by_aload_n rfl ?_
    refine by_getf cn_289 fl_12_91 (by first | exact rfl | assumption) (by decide) ?_
    refine by_iload_n rfl ?_
    simp (disch := first | exact Nat.ne_of_beq_eq_false rfl | exact rfl | omega) only [nI_add, xa_sub, xa_mul, pk_div, nm_mod, xa_shr, xa_and7, xa_and1, xa_and255, xa_by_and, nI_m1, Nat.add_sub_cancel, Nat.reducePow, Nat.zero_add, Nat.add_zero, Nat.reduceAdd, Nat.reduceMul, Nat.reduceSub, xf_same, xq_ff, xq_fo, xf_1, xf_2, xs_1, xs_2, xs_same, xq_so, xj_1, xj_2, xj_same, xq_jo, xq_sa1, xq_same, xq_other, upd_s, oI_n, oI_s, xf_102_41 F1, d1]
    first | refine by_iald (by first | exact rfl | assumption | exact ps_1 hpp | exact ps_2 hpp | exact ps_3 hpp | exact ps_4 hpp | exact ps_5 hpp | exact ps_6 hpp | exact ps_7 hpp | exact ps_8 hpp | exact ps_9 hpp | exact ps_10 hpp | exact ps_11 hpp | exact ps_15 hpp | exact ps_16 hpp | exact ps_17 hpp | exact ps_18 hpp | exact ps_19 hpp | exact ps_21 hpp | exact ps_22 hpp | exact ps_23 hpp | exact ps_24 hpp) ⟨by omega, by omega⟩ ?_ | refine by_tald rfl rfl ⟨by omega, by omega⟩ ?_
    refine by_iconst ci_1 ?_
    refine by_ic_eq 89 rfl ?_
    simp (disch := first | exact Nat.ne_of_beq_eq_false rfl | exact rfl | omega) only [nI_add, xa_sub, xa_mul, pk_div, nm_mod, xa_shr, xa_and7, xa_and1, xa_and255, xa_by_and, nI_m1, Nat.add_sub_cancel, Nat.reducePow, Nat.zero_add, Nat.add_zero, Nat.reduceAdd, Nat.reduceMul, Nat.reduceSub, xf_same, xq_ff, xq_fo, xf_1, xf_2, xs_1, xs_2, xs_same, xq_so, xj_1, xj_2, xj_same, xq_jo, xq_sa1, xq_same, xq_other, upd_s, oI_n, oI_s, xv_0, xv_1, xv_2, xv_3, xm_p1, xm_p2, xq_fp, xq_fn, List.filter_nil, Nat.reduceBEq, Bool.not_true, Bool.not_false, Bool.and_true, Bool.and_false, Bool.false_and, Bool.true_and, if_true, if_false, Bool.false_eq_true, reduceIte, xc_i, xc_j, xc_r, xc_n, List.nil_append, List.cons_append, Option.toList_some, Option.toList_none, nI_ltJ, nI_leJ, nI_eqJ, nI_ltz, nI_gez, nI_gtz, nI_lez, nI_eqz, m1_ltz, m1_gez, true_imp_iff, false_imp_iff, true_and, and_true, ne_eq, not_false_eq_true, not_true_eq_false, Nat.reduceEqDiff, Nat.reduceLT, Nat.reduceLeDiff, xf_102_41 F1, d1]
    exact xm_go_wk (by simp [Value.category]) (fin h1 f1 (fun k hk => by rw [hs k hk, ht]; rfl))
  · subst e
    rw [if_neg (by decide), if_pos rfl] at ht
    have r1' : h.1 129 y = nI 2 := r1
    with_reducible refine xm_go_blk b_X12_rootOfType_0 k_X12_rootOfType_0 ?_
    refine by_aload_n rfl ?_
    refine by_aload_n rfl ?_
    refine by_getf cn_289 fl_12_91 (by first | exact rfl | assumption) (by decide) ?_
    refine by_iload_n rfl ?_
    simp (disch := first | exact Nat.ne_of_beq_eq_false rfl | exact rfl | omega) only [nI_add, xa_sub, xa_mul, pk_div, nm_mod, xa_shr, xa_and7, xa_and1, xa_and255, xa_by_and, nI_m1, Nat.add_sub_cancel, Nat.reducePow, Nat.zero_add, Nat.add_zero, Nat.reduceAdd, Nat.reduceMul, Nat.reduceSub, xf_same, xq_ff, xq_fo, xf_1, xf_2, xs_1, xs_2, xs_same, xq_so, xj_1, xj_2, xj_same, xq_jo, xq_sa1, xq_same, xq_other, upd_s, oI_n, oI_s, xf_102_41 hF, r1']
    first | refine by_iald (by first | exact rfl | assumption | exact ps_1 hpp | exact ps_2 hpp | exact ps_3 hpp | exact ps_4 hpp | exact ps_5 hpp | exact ps_6 hpp | exact ps_7 hpp | exact ps_8 hpp | exact ps_9 hpp | exact ps_10 hpp | exact ps_11 hpp | exact ps_15 hpp | exact ps_16 hpp | exact ps_17 hpp | exact ps_18 hpp | exact ps_19 hpp | exact ps_21 hpp | exact ps_22 hpp | exact ps_23 hpp | exact ps_24 hpp) ⟨by omega, by omega⟩ ?_ | refine by_tald rfl rfl ⟨by omega, by omega⟩ ?_
    refine by_iconst ci_1 ?_
    refine by_ic_ne 17 rfl ?_
    simp (disch := first | exact Nat.ne_of_beq_eq_false rfl | exact rfl | omega) only [nI_add, xa_sub, xa_mul, pk_div, nm_mod, xa_shr, xa_and7, xa_and1, xa_and255, xa_by_and, nI_m1, Nat.add_sub_cancel, Nat.reducePow, Nat.zero_add, Nat.add_zero, Nat.reduceAdd, Nat.reduceMul, Nat.reduceSub, xf_same, xq_ff, xq_fo, xf_1, xf_2, xs_1, xs_2, xs_same, xq_so, xj_1, xj_2, xj_same, xq_jo, xq_sa1, xq_same, xq_other, upd_s, oI_n, oI_s, xv_0, xv_1, xv_2, xv_3, xm_p1, xm_p2, xq_fp, xq_fn, List.filter_nil, Nat.reduceBEq, Bool.not_true, Bool.not_false, Bool.and_true, Bool.and_false, Bool.false_and, Bool.true_and, if_true, if_false, Bool.false_eq_true, reduceIte, xc_i, xc_j, xc_r, xc_n, List.nil_append, List.cons_append, Option.toList_some, Option.toList_none, nI_ltJ, nI_leJ, nI_eqJ, nI_ltz, nI_gez, nI_gtz, nI_lez, nI_eqz, m1_ltz, m1_gez, true_imp_iff, false_imp_iff, true_and, and_true, ne_eq, not_false_eq_true, not_true_eq_false, Nat.reduceEqDiff, Nat.reduceLT, Nat.reduceLeDiff, xf_102_41 hF, r1']
    with_reducible refine xm_go_blk b_X12_rootOfType_17 k_X12_rootOfType_17 ?_
    refine by_aload_n rfl ?_
    refine by_getf cn_289 fl_12_91 (by first | exact rfl | assumption) (by decide) ?_
    refine by_iload_n rfl ?_
    simp (disch := first | exact Nat.ne_of_beq_eq_false rfl | exact rfl | omega) only [nI_add, xa_sub, xa_mul, pk_div, nm_mod, xa_shr, xa_and7, xa_and1, xa_and255, xa_by_and, nI_m1, Nat.add_sub_cancel, Nat.reducePow, Nat.zero_add, Nat.add_zero, Nat.reduceAdd, Nat.reduceMul, Nat.reduceSub, xf_same, xq_ff, xq_fo, xf_1, xf_2, xs_1, xs_2, xs_same, xq_so, xj_1, xj_2, xj_same, xq_jo, xq_sa1, xq_same, xq_other, upd_s, oI_n, oI_s, xf_102_41 hF, r1']
    first | refine by_iald (by first | exact rfl | assumption | exact ps_1 hpp | exact ps_2 hpp | exact ps_3 hpp | exact ps_4 hpp | exact ps_5 hpp | exact ps_6 hpp | exact ps_7 hpp | exact ps_8 hpp | exact ps_9 hpp | exact ps_10 hpp | exact ps_11 hpp | exact ps_15 hpp | exact ps_16 hpp | exact ps_17 hpp | exact ps_18 hpp | exact ps_19 hpp | exact ps_21 hpp | exact ps_22 hpp | exact ps_23 hpp | exact ps_24 hpp) ⟨by omega, by omega⟩ ?_ | refine by_tald rfl rfl ⟨by omega, by omega⟩ ?_
    refine by_iconst ci_2 ?_
    refine by_ic_ne 33 rfl ?_
    simp (disch := first | exact Nat.ne_of_beq_eq_false rfl | exact rfl | omega) only [nI_add, xa_sub, xa_mul, pk_div, nm_mod, xa_shr, xa_and7, xa_and1, xa_and255, xa_by_and, nI_m1, Nat.add_sub_cancel, Nat.reducePow, Nat.zero_add, Nat.add_zero, Nat.reduceAdd, Nat.reduceMul, Nat.reduceSub, xf_same, xq_ff, xq_fo, xf_1, xf_2, xs_1, xs_2, xs_same, xq_so, xj_1, xj_2, xj_same, xq_jo, xq_sa1, xq_same, xq_other, upd_s, oI_n, oI_s, xv_0, xv_1, xv_2, xv_3, xm_p1, xm_p2, xq_fp, xq_fn, List.filter_nil, Nat.reduceBEq, Bool.not_true, Bool.not_false, Bool.and_true, Bool.and_false, Bool.false_and, Bool.true_and, if_true, if_false, Bool.false_eq_true, reduceIte, xc_i, xc_j, xc_r, xc_n, List.nil_append, List.cons_append, Option.toList_some, Option.toList_none, nI_ltJ, nI_leJ, nI_eqJ, nI_ltz, nI_gez, nI_gtz, nI_lez, nI_eqz, m1_ltz, m1_gez, true_imp_iff, false_imp_iff, true_and, and_true, ne_eq, not_false_eq_true, not_true_eq_false, Nat.reduceEqDiff, Nat.reduceLT, Nat.reduceLeDiff, xf_102_41 hF, r1']
    with_reducible refine xm_go_blk b_X12_rootOfType_27 k_X12_rootOfType_27 ?_
    refine by_sipush cs_209 ?_
    refine by_goto 36 rfl ?_
    with_reducible refine xm_go_blk b_X12_rootOfType_36 k_X12_rootOfType_36 ?_
    refine by_inv1 cn_289 lk_12_323 (by rw [xe_cnt]; decide) is_248 np_248 cn_248 (by first | exact rfl | assumption) (Nat.le_of_ble_eq_true rfl) ?_
    refine sp_mleaf hF (fun h1 f1 hs => ?_)
    exact xm_go_wk (by simp [Value.category]) (two _ h1 (by decide) f1 hs (fun k hk => by rw [ht]; rfl))
  · subst e
    rw [if_neg (by decide), if_neg (by decide)] at ht
    have r1' : h.1 129 y = nI 3 := r1
    with_reducible refine xm_go_blk b_X12_rootOfType_0 k_X12_rootOfType_0 ?_
    refine by_aload_n rfl ?_
    refine by_aload_n rfl ?_
    refine by_getf cn_289 fl_12_91 (by first | exact rfl | assumption) (by decide) ?_
    refine by_iload_n rfl ?_
    simp (disch := first | exact Nat.ne_of_beq_eq_false rfl | exact rfl | omega) only [nI_add, xa_sub, xa_mul, pk_div, nm_mod, xa_shr, xa_and7, xa_and1, xa_and255, xa_by_and, nI_m1, Nat.add_sub_cancel, Nat.reducePow, Nat.zero_add, Nat.add_zero, Nat.reduceAdd, Nat.reduceMul, Nat.reduceSub, xf_same, xq_ff, xq_fo, xf_1, xf_2, xs_1, xs_2, xs_same, xq_so, xj_1, xj_2, xj_same, xq_jo, xq_sa1, xq_same, xq_other, upd_s, oI_n, oI_s, xf_102_41 hF, r1']
    first | refine by_iald (by first | exact rfl | assumption | exact ps_1 hpp | exact ps_2 hpp | exact ps_3 hpp | exact ps_4 hpp | exact ps_5 hpp | exact ps_6 hpp | exact ps_7 hpp | exact ps_8 hpp | exact ps_9 hpp | exact ps_10 hpp | exact ps_11 hpp | exact ps_15 hpp | exact ps_16 hpp | exact ps_17 hpp | exact ps_18 hpp | exact ps_19 hpp | exact ps_21 hpp | exact ps_22 hpp | exact ps_23 hpp | exact ps_24 hpp) ⟨by omega, by omega⟩ ?_ | refine by_tald rfl rfl ⟨by omega, by omega⟩ ?_
    refine by_iconst ci_1 ?_
    refine by_ic_ne 17 rfl ?_
    simp (disch := first | exact Nat.ne_of_beq_eq_false rfl | exact rfl | omega) only [nI_add, xa_sub, xa_mul, pk_div, nm_mod, xa_shr, xa_and7, xa_and1, xa_and255, xa_by_and, nI_m1, Nat.add_sub_cancel, Nat.reducePow, Nat.zero_add, Nat.add_zero, Nat.reduceAdd, Nat.reduceMul, Nat.reduceSub, xf_same, xq_ff, xq_fo, xf_1, xf_2, xs_1, xs_2, xs_same, xq_so, xj_1, xj_2, xj_same, xq_jo, xq_sa1, xq_same, xq_other, upd_s, oI_n, oI_s, xv_0, xv_1, xv_2, xv_3, xm_p1, xm_p2, xq_fp, xq_fn, List.filter_nil, Nat.reduceBEq, Bool.not_true, Bool.not_false, Bool.and_true, Bool.and_false, Bool.false_and, Bool.true_and, if_true, if_false, Bool.false_eq_true, reduceIte, xc_i, xc_j, xc_r, xc_n, List.nil_append, List.cons_append, Option.toList_some, Option.toList_none, nI_ltJ, nI_leJ, nI_eqJ, nI_ltz, nI_gez, nI_gtz, nI_lez, nI_eqz, m1_ltz, m1_gez, true_imp_iff, false_imp_iff, true_and, and_true, ne_eq, not_false_eq_true, not_true_eq_false, Nat.reduceEqDiff, Nat.reduceLT, Nat.reduceLeDiff, xf_102_41 hF, r1']
    with_reducible refine xm_go_blk b_X12_rootOfType_17 k_X12_rootOfType_17 ?_
    refine by_aload_n rfl ?_
    refine by_getf cn_289 fl_12_91 (by first | exact rfl | assumption) (by decide) ?_
    refine by_iload_n rfl ?_
    simp (disch := first | exact Nat.ne_of_beq_eq_false rfl | exact rfl | omega) only [nI_add, xa_sub, xa_mul, pk_div, nm_mod, xa_shr, xa_and7, xa_and1, xa_and255, xa_by_and, nI_m1, Nat.add_sub_cancel, Nat.reducePow, Nat.zero_add, Nat.add_zero, Nat.reduceAdd, Nat.reduceMul, Nat.reduceSub, xf_same, xq_ff, xq_fo, xf_1, xf_2, xs_1, xs_2, xs_same, xq_so, xj_1, xj_2, xj_same, xq_jo, xq_sa1, xq_same, xq_other, upd_s, oI_n, oI_s, xf_102_41 hF, r1']
    first | refine by_iald (by first | exact rfl | assumption | exact ps_1 hpp | exact ps_2 hpp | exact ps_3 hpp | exact ps_4 hpp | exact ps_5 hpp | exact ps_6 hpp | exact ps_7 hpp | exact ps_8 hpp | exact ps_9 hpp | exact ps_10 hpp | exact ps_11 hpp | exact ps_15 hpp | exact ps_16 hpp | exact ps_17 hpp | exact ps_18 hpp | exact ps_19 hpp | exact ps_21 hpp | exact ps_22 hpp | exact ps_23 hpp | exact ps_24 hpp) ⟨by omega, by omega⟩ ?_ | refine by_tald rfl rfl ⟨by omega, by omega⟩ ?_
    refine by_iconst ci_2 ?_
    refine by_ic_ne 33 rfl ?_
    simp (disch := first | exact Nat.ne_of_beq_eq_false rfl | exact rfl | omega) only [nI_add, xa_sub, xa_mul, pk_div, nm_mod, xa_shr, xa_and7, xa_and1, xa_and255, xa_by_and, nI_m1, Nat.add_sub_cancel, Nat.reducePow, Nat.zero_add, Nat.add_zero, Nat.reduceAdd, Nat.reduceMul, Nat.reduceSub, xf_same, xq_ff, xq_fo, xf_1, xf_2, xs_1, xs_2, xs_same, xq_so, xj_1, xj_2, xj_same, xq_jo, xq_sa1, xq_same, xq_other, upd_s, oI_n, oI_s, xv_0, xv_1, xv_2, xv_3, xm_p1, xm_p2, xq_fp, xq_fn, List.filter_nil, Nat.reduceBEq, Bool.not_true, Bool.not_false, Bool.and_true, Bool.and_false, Bool.false_and, Bool.true_and, if_true, if_false, Bool.false_eq_true, reduceIte, xc_i, xc_j, xc_r, xc_n, List.nil_append, List.cons_append, Option.toList_some, Option.toList_none, nI_ltJ, nI_leJ, nI_eqJ, nI_ltz, nI_gez, nI_gtz, nI_lez, nI_eqz, m1_ltz, m1_gez, true_imp_iff, false_imp_iff, true_and, and_true, ne_eq, not_false_eq_true, not_true_eq_false, Nat.reduceEqDiff, Nat.reduceLT, Nat.reduceLeDiff, xf_102_41 hF, r1']
    with_reducible refine xm_go_blk b_X12_rootOfType_33 k_X12_rootOfType_33 ?_
    refine by_sipush cs_210 ?_
    refine by_nil ?_
    with_reducible refine xm_go_blk b_X12_rootOfType_36 k_X12_rootOfType_36 ?_
    refine by_inv1 cn_289 lk_12_323 (by rw [xe_cnt]; decide) is_248 np_248 cn_248 (by first | exact rfl | assumption) (Nat.le_of_ble_eq_true rfl) ?_
    refine sp_mleaf hF (fun h1 f1 hs => ?_)
    exact xm_go_wk (by simp [Value.category]) (two _ h1 (by decide) f1 hs (fun k hk => by rw [ht]; rfl))
end RO
