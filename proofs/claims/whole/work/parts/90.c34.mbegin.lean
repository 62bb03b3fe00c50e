/-! ===== the reference: the first cells ===== -/
def mbR : List Nat := [144, 138, 139, 140, 141, 143]
def bcK (c : Nat) (k l r : Nat → Nat) : Prop := (0 < c → k 0 = 1) ∧ (1 < c → k 1 = 2 ∧ l 1 = 0 ∧ r 1 = 0) ∧ ∀ t, 2 ≤ t → t < c → k t = 3 ∧ l t = t - 1 ∧ r t = t - 1
theorem Fr_mb {h h1 : xm_H} (hf : Fr mgR mgT h h1) : Fr mbR mgT h h1 := Fr_mo hf (by simp [mgR, mbR]) (fun _ q => q)
theorem mgr_w {h1 : xm_H} {n c : Nat} {s : Int32} {k l r rt : Nat → Nat} {es : List (Nat × Nat)} (hg : mgr h1 c k l r rt es) : mgr (xm_si h1 144 n s) c k l r rt es :=
  mgr_fr hg (Fr_si (Fr_rf (S := [144]) (T := [])) (by simp)) (by simp) (by simp) (by simp) (by simp) (by simp)
theorem mgr_0 {h : xm_H} (h0 : h.2.2 102 50 = .int (nI 0)) : mgr h 0 (fun _ => 0) (fun _ => 0) (fun _ => 0) (fun _ => 0) [] := by
  refine ⟨h0, fun t ht => absurd ht (by omega), ⟨fun _ => 0, fun _ => 0, 0, fun t ht => absurd ht (by omega), fun t ht => absurd ht (by omega), rfl⟩, fun V _ _ _ => ⟨fun t ht => absurd ht (by omega), ty_pd_nil _⟩, fun f _ _ => ⟨fun t ht => absurd ht (by omega), ty_pd_nil _⟩⟩
section BEG
variable {sc : xm_Sc} {d : Nat} {h : xm_H} {post : xm_Po}
theorem bc_loop (hp : ∀ h' k l r rt, Fr mbR mgT h h' → mgr h' 10 k l r rt [] → bcK 10 k l r → (∀ q, q < 9 → h'.1 144 q = nI (q + 1)) → post none h') : ∀ (j i : Nat) (h1 : xm_H) (k l r rt : Nat → Nat), i + j = 9 → 1 ≤ i → XF h1 → Fr mbR mgT h h1 → mgr h1 (i + 1) k l r rt [] → bcK (i + 1) k l r → (∀ q, q < i → h1.1 144 q = nI (q + 1)) → xm_go (XE sc) (xm_T (XE sc) (d + 1)) 204 post 28 [(2, .int (nI i)), (0, .ref 102)] [] h1 := by
  intro j
  induction j with
  | zero =>
    intro i h1 k l r rt hi hi1 hF hf hg hK hw
    have : i = 9 := by omega
    subst this
    with_reducible refine xm_go_blk b_X12_beginCells_28 k_X12_beginCells_28 ?_
    refine by_iload_n rfl ?_
    refine by_bipush cb_9 ?_
    refine by_ic_ge 67 rfl ?_
    simp (disch := first | exact Nat.ne_of_beq_eq_false rfl | exact rfl | omega) only [nI_add, xa_sub, xa_mul, pk_div, nm_mod, xa_shr, xa_and7, xa_and1, xa_and255, xa_by_and, nI_m1, Nat.add_sub_cancel, Nat.reducePow, Nat.zero_add, Nat.add_zero, Nat.reduceAdd, Nat.reduceMul, Nat.reduceSub, xf_same, xq_ff, xq_fo, xf_1, xf_2, xs_1, xs_2, xs_same, xq_so, xj_1, xj_2, xj_same, xq_jo, xq_sa1, xq_same, xq_other, upd_s, oI_n, oI_s, xv_0, xv_1, xv_2, xv_3, xm_p1, xm_p2, xq_fp, xq_fn, List.filter_nil, Nat.reduceBEq, Bool.not_true, Bool.not_false, Bool.and_true, Bool.and_false, Bool.false_and, Bool.true_and, if_true, if_false, Bool.false_eq_true, reduceIte, xc_i, xc_j, xc_r, xc_n, List.nil_append, List.cons_append, Option.toList_some, Option.toList_none, nI_ltJ, nI_leJ, nI_eqJ, nI_ltz, nI_gez, nI_gtz, nI_lez, nI_eqz, m1_ltz, m1_gez, true_imp_iff, false_imp_iff, true_and, and_true, ne_eq, not_false_eq_true, not_true_eq_false, Nat.reduceEqDiff, Nat.reduceLT, Nat.reduceLeDiff]
    with_reducible refine xm_go_blk b_X12_beginCells_67 k_X12_beginCells_67 ?_
    refine by_ret ry_204 ?_
    exact hp h1 k l r rt hf hg hK hw
  | succ j ih =>
    intro i h1 k l r rt hi hi1 hF hf hg hK hw
    have e1 : nI i - 1 = nI (i - 1) := by
      obtain ⟨q, rfl⟩ : ∃ q, i = q + 1 := ⟨i - 1, by omega⟩
      rw [← nI_add]
      show nI q + 1 - 1 = _
      rw [Int32.add_sub_cancel]
      rfl
    have w1 : h1.1 144 (i - 1) = nI i := by
      rw [hw (i - 1) (by omega)]
      exact congrArg nI (by omega)
    with_reducible refine xm_go_blk b_X12_beginCells_28 k_X12_beginCells_28 ?_
    refine by_iload_n rfl ?_
    refine by_bipush cb_9 ?_
    refine by_ic_ge 67 rfl ?_
    simp (disch := first | exact Nat.ne_of_beq_eq_false rfl | exact rfl | omega) only [nI_add, xa_sub, xa_mul, pk_div, nm_mod, xa_shr, xa_and7, xa_and1, xa_and255, xa_by_and, nI_m1, Nat.add_sub_cancel, Nat.reducePow, Nat.zero_add, Nat.add_zero, Nat.reduceAdd, Nat.reduceMul, Nat.reduceSub, xf_same, xq_ff, xq_fo, xf_1, xf_2, xs_1, xs_2, xs_same, xq_so, xj_1, xj_2, xj_same, xq_jo, xq_sa1, xq_same, xq_other, upd_s, oI_n, oI_s, xv_0, xv_1, xv_2, xv_3, xm_p1, xm_p2, xq_fp, xq_fn, List.filter_nil, Nat.reduceBEq, Bool.not_true, Bool.not_false, Bool.and_true, Bool.and_false, Bool.false_and, Bool.true_and, if_true, if_false, Bool.false_eq_true, reduceIte, xc_i, xc_j, xc_r, xc_n, List.nil_append, List.cons_append, Option.toList_some, Option.toList_none, nI_ltJ, nI_leJ, nI_eqJ, nI_ltz, nI_gez, nI_gtz, nI_lez, nI_eqz, m1_ltz, m1_gez, true_imp_iff, false_imp_iff, true_and, and_true, ne_eq, not_false_eq_true, not_true_eq_false, Nat.reduceEqDiff, Nat.reduceLT, Nat.reduceLeDiff, xf_102_57 hF, e1, w1]
    refine ⟨fun c => absurd c (by omega), fun c28 => ?_⟩
    with_reducible refine xm_go_blk b_X12_beginCells_34 k_X12_beginCells_34 ?_
    refine by_aload_n rfl ?_
    refine by_getf cn_204 fl_12_137 (by first | exact rfl | assumption) (by decide) ?_
    refine by_iload_n rfl ?_
    refine by_aload_n rfl ?_
    refine by_iconst ci_3 ?_
    refine by_aload_n rfl ?_
    refine by_getf cn_204 fl_12_137 (by first | exact rfl | assumption) (by decide) ?_
    refine by_iload_n rfl ?_
    refine by_iconst ci_1 ?_
    refine by_isub ?_
    simp (disch := first | exact Nat.ne_of_beq_eq_false rfl | exact rfl | omega) only [nI_add, xa_sub, xa_mul, pk_div, nm_mod, xa_shr, xa_and7, xa_and1, xa_and255, xa_by_and, nI_m1, Nat.add_sub_cancel, Nat.reducePow, Nat.zero_add, Nat.add_zero, Nat.reduceAdd, Nat.reduceMul, Nat.reduceSub, xf_same, xq_ff, xq_fo, xf_1, xf_2, xs_1, xs_2, xs_same, xq_so, xj_1, xj_2, xj_same, xq_jo, xq_sa1, xq_same, xq_other, upd_s, oI_n, oI_s, xf_102_57 hF, e1, w1]
    first | refine by_iald (by first | exact rfl | assumption | exact ps_1 hpp | exact ps_2 hpp | exact ps_3 hpp | exact ps_4 hpp | exact ps_5 hpp | exact ps_6 hpp | exact ps_7 hpp | exact ps_8 hpp | exact ps_9 hpp | exact ps_10 hpp | exact ps_11 hpp | exact ps_15 hpp | exact ps_16 hpp | exact ps_17 hpp | exact ps_18 hpp | exact ps_19 hpp | exact ps_21 hpp | exact ps_22 hpp | exact ps_23 hpp | exact ps_24 hpp) ⟨by omega, by omega⟩ ?_ | refine by_tald rfl rfl ⟨by omega, by omega⟩ ?_
    refine by_aload_n rfl ?_
    refine by_getf cn_204 fl_12_137 (by first | exact rfl | assumption) (by decide) ?_
    refine by_iload_n rfl ?_
    refine by_iconst ci_1 ?_
    refine by_isub ?_
    simp (disch := first | exact Nat.ne_of_beq_eq_false rfl | exact rfl | omega) only [nI_add, xa_sub, xa_mul, pk_div, nm_mod, xa_shr, xa_and7, xa_and1, xa_and255, xa_by_and, nI_m1, Nat.add_sub_cancel, Nat.reducePow, Nat.zero_add, Nat.add_zero, Nat.reduceAdd, Nat.reduceMul, Nat.reduceSub, xf_same, xq_ff, xq_fo, xf_1, xf_2, xs_1, xs_2, xs_same, xq_so, xj_1, xj_2, xj_same, xq_jo, xq_sa1, xq_same, xq_other, upd_s, oI_n, oI_s, xf_102_57 hF, e1, w1]
    first | refine by_iald (by first | exact rfl | assumption | exact ps_1 hpp | exact ps_2 hpp | exact ps_3 hpp | exact ps_4 hpp | exact ps_5 hpp | exact ps_6 hpp | exact ps_7 hpp | exact ps_8 hpp | exact ps_9 hpp | exact ps_10 hpp | exact ps_11 hpp | exact ps_15 hpp | exact ps_16 hpp | exact ps_17 hpp | exact ps_18 hpp | exact ps_19 hpp | exact ps_21 hpp | exact ps_22 hpp | exact ps_23 hpp | exact ps_24 hpp) ⟨by omega, by omega⟩ ?_ | refine by_tald rfl rfl ⟨by omega, by omega⟩ ?_
    simp (disch := first | exact Nat.ne_of_beq_eq_false rfl | exact rfl | omega) only [nI_add, xa_sub, xa_mul, pk_div, nm_mod, xa_shr, xa_and7, xa_and1, xa_and255, xa_by_and, nI_m1, Nat.add_sub_cancel, Nat.reducePow, Nat.zero_add, Nat.add_zero, Nat.reduceAdd, Nat.reduceMul, Nat.reduceSub, xf_same, xq_ff, xq_fo, xf_1, xf_2, xs_1, xs_2, xs_same, xq_so, xj_1, xj_2, xj_same, xq_jo, xq_sa1, xq_same, xq_other, upd_s, oI_n, oI_s, xv_0, xv_1, xv_2, xv_3, xm_p1, xm_p2, xq_fp, xq_fn, List.filter_nil, Nat.reduceBEq, Bool.not_true, Bool.not_false, Bool.and_true, Bool.and_false, Bool.false_and, Bool.true_and, if_true, if_false, Bool.false_eq_true, reduceIte, xc_i, xc_j, xc_r, xc_n, List.nil_append, List.cons_append, Option.toList_some, Option.toList_none, xf_102_57 hF, e1, w1]
    refine by_inv3 cn_204 lk_12_236 (by rw [xe_cnt]; decide) is_213 np_213 cn_213 (by first | exact rfl | assumption) (Nat.le_of_ble_eq_true rfl) ?_
    refine sp_mcell (kk := 3) (ll := i) (rr := i) hF hg (by omega) (by decide) (fun _ => ⟨rfl, rfl, by omega, by omega⟩) (fun h2 g3 g4 => ?_)
    with_reducible refine xm_go_blk b_X12_beginCells_60 k_X12_beginCells_60 ?_
    refine by_iast (by first | exact rfl | assumption | exact ps_1 hpp | exact ps_2 hpp | exact ps_3 hpp | exact ps_4 hpp | exact ps_5 hpp | exact ps_6 hpp | exact ps_7 hpp | exact ps_8 hpp | exact ps_9 hpp | exact ps_10 hpp | exact ps_11 hpp | exact ps_15 hpp | exact ps_16 hpp | exact ps_17 hpp | exact ps_18 hpp | exact ps_19 hpp | exact ps_21 hpp | exact ps_22 hpp | exact ps_23 hpp | exact ps_24 hpp) ⟨by omega, by omega⟩ ?_
    refine by_iinc (by rw [ml_204]; decide) rfl ci_1 ?_
    refine by_goto 28 rfl ?_
    simp (disch := first | exact Nat.ne_of_beq_eq_false rfl | exact rfl | omega) only [nI_add, xa_sub, xa_mul, pk_div, nm_mod, xa_shr, xa_and7, xa_and1, xa_and255, xa_by_and, nI_m1, Nat.add_sub_cancel, Nat.reducePow, Nat.zero_add, Nat.add_zero, Nat.reduceAdd, Nat.reduceMul, Nat.reduceSub, xf_same, xq_ff, xq_fo, xf_1, xf_2, xs_1, xs_2, xs_same, xq_so, xj_1, xj_2, xj_same, xq_jo, xq_sa1, xq_same, xq_other, upd_s, oI_n, oI_s, xv_0, xv_1, xv_2, xv_3, xm_p1, xm_p2, xq_fp, xq_fn, List.filter_nil, Nat.reduceBEq, Bool.not_true, Bool.not_false, Bool.and_true, Bool.and_false, Bool.false_and, Bool.true_and, if_true, if_false, Bool.false_eq_true, reduceIte, xc_i, xc_j, xc_r, xc_n, List.nil_append, List.cons_append, Option.toList_some, Option.toList_none]
    have f2 : Fr mbR mgT h (xm_si h2 144 i (nI (i + 1))) := Fr_si (Fr_tr hf (Fr_mb g3) (fun _ q => q) (fun _ q => q)) (by decide)
    refine xm_go_wk (by simp) (ih (i + 1) _ _ _ _ _ (by omega) (by omega) (Fr_XF hF (Fr_si (Fr_mb g3) (by decide)) mg_fin) f2 (mgr_w g4) ⟨fun _ => ?_, fun _ => ?_, fun t h1 h2 => ?_⟩ (fun q hq => ?_))
    · rw [updN_o (by omega)]; exact hK.1 (by omega)
    · rw [updN_o (by omega), updN_o (by omega), updN_o (by omega)]; exact hK.2.1 (by omega)
    · by_cases e : t = i + 1
      · subst e; rw [updN_s, updN_s, updN_s]; exact ⟨rfl, by omega, by omega⟩
      · rw [updN_o e, updN_o e, updN_o e]; exact hK.2.2 t h1 (by omega)
    · rw [xs_same]
      by_cases e : q = i
      · rw [e, upd_s]
      · rw [upd_o e, g3.1 144 (by decide)]; exact hw q (by omega)
end BEG
