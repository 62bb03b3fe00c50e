/-! ===== roots: leaves ===== -/
theorem kk_eq : xt_X12_K = xt_X7_K := rfl
theorem ff_eq : xt_X12_F = xt_X7_START := rfl
theorem upd_cg {f g : Nat → Int32} {j i : Nat} {x y : Int32} (h : i ≠ j → f i = g i) (hx : x = y) : upd f j x i = upd g j y i := by
  by_cases e : i = j
  · subst e; rw [upd_s, upd_s, hx]
  · rw [upd_o e, upd_o e, h e]
theorem shX_cg {w w' : Nat → Int32} (h : ∀ k, k < 16 → w k = w' k) : ∀ (j i : Nat), i < 16 + j → shX w j i = shX w' j i
  | 0, i, hi => h i (by omega)
  | j + 1, i, hi => by
    simp only [shX]
    refine upd_cg (fun e => shX_cg h j i (by omega)) ?_
    unfold shS
    rw [shX_cg h j (16 + j - 2) (by omega), shX_cg h j (16 + j - 7) (by omega), shX_cg h j (16 + j - 15) (by omega), shX_cg h j (16 + j - 16) (by omega)]
theorem shR_cg {K w w' L L' : Nat → Int32} (hL : ∀ k, k < 8 → L k = L' k) : ∀ (t : Nat), (∀ k, k < t → w k = w' k) → ∀ i, i < 8 → shR K w L t i = shR K w' L' t i
  | 0, _, i, hi => hL i hi
  | t + 1, hw, i, hi => by
    have ih := shR_cg (K := K) hL t (fun k hk => hw k (by omega))
    simp only [shR]
    have wt := hw t (by omega)
    generalize shR K w L t = M at *
    generalize shR K w' L' t = M' at *
    have e1 : sh1 M (K t) (w t) = sh1 M' (K t) (w' t) := by
      unfold sh1
      rw [ih 7 (by decide), ih 4 (by decide), ih 5 (by decide), ih 6 (by decide), wt]
    have e2 : sh2 M = sh2 M' := by
      unfold sh2
      rw [ih 0 (by decide), ih 1 (by decide), ih 2 (by decide)]
    unfold shN
    rw [e1, e2, ih 3 (by decide)]
    by_cases z : i = 0
    · rw [if_pos z, if_pos z]
    · rw [if_neg z, if_neg z]
      by_cases y : i = 4
      · rw [if_pos y, if_pos y]
      · rw [if_neg y, if_neg y, ih (i - 1) (by omega)]
theorem shC_cg {K st st' w w' : Nat → Int32} (hs : ∀ k, k < 8 → st k = st' k) (hw : ∀ k, k < 16 → w k = w' k) : ∀ i, i < 8 → shC K st w i = shC K st' w' i := by
  intro i hi
  unfold shC
  rw [hs i hi, shR_cg hs 64 (fun k hk => shX_cg hw 48 k (by omega)) i hi]
/-- the eight words of a leaf, and of a node of two -/
def rt0 (x : Int32) : Nat → Int32 := shC xt_X7_K xt_X7_START (fun k => if k = 0 then x else nI 0)
def rtC (st a b : Nat → Int32) : Nat → Int32 := shC xt_X7_K st (fun k => if k < 8 then a k else b (k - 8))
section SH
variable {sc : xm_Sc} {d : Nat} {h : xm_H} {post : xm_Po}
theorem sp_mleaf {x : Int32} (hF : XF h) (hp : ∀ h', Fr [148, 149, 150] [] h h' → (∀ k, k < 8 → h'.1 148 k = rt0 x k) → post none h') : xm_T (XE sc) (d + 3) 248 [.ref 102, .int x] h post := by
  have zer : ∀ (j i : Nat) (h' : xm_H), i + j = 16 → 1 ≤ i → Fr [148, 149] [] h h' → (∀ k, k < 8 → h'.1 148 k = xt_X12_F k) → (∀ k, k < i → h'.1 149 k = if k = 0 then x else nI 0) → xm_go (XE sc) (xm_T (XE sc) (d + 2)) 248 post 34 [(2, .int (nI i)), (0, .ref 102)] [] h' := by
    intro j
    induction j with
    | zero =>
      intro i h' hi h1 hf hs hb
      have : i = 16 := by omega
      subst this
      have F1 : XF h' := Fr_XF hF hf (by decide +kernel)
      with_reducible refine xm_go_blk b_X12_leaf_34 k_X12_leaf_34 ?_
      refine by_iload_n rfl ?_
      refine by_bipush cb_16 ?_
      refine by_ic_ge 53 rfl ?_
      simp (disch := first | exact Nat.ne_of_beq_eq_false rfl | exact rfl | omega) only [nI_add, xa_sub, xa_mul, pk_div, nm_mod, xa_shr, xa_and7, xa_and1, xa_and255, xa_by_and, nI_m1, Nat.add_sub_cancel, Nat.reducePow, Nat.zero_add, Nat.add_zero, Nat.reduceAdd, Nat.reduceMul, Nat.reduceSub, xf_same, xq_ff, xq_fo, xf_1, xf_2, xs_1, xs_2, xs_same, xq_so, xj_1, xj_2, xj_same, xq_jo, xq_sa1, xq_same, xq_other, upd_s, oI_n, oI_s, xv_0, xv_1, xv_2, xv_3, xm_p1, xm_p2, xq_fp, xq_fn, List.filter_nil, Nat.reduceBEq, Bool.not_true, Bool.not_false, Bool.and_true, Bool.and_false, Bool.false_and, Bool.true_and, if_true, if_false, Bool.false_eq_true, reduceIte, xc_i, xc_j, xc_r, xc_n, List.nil_append, List.cons_append, Option.toList_some, Option.toList_none, nI_ltJ, nI_leJ, nI_eqJ, nI_ltz, nI_gez, nI_gtz, nI_lez, nI_eqz, m1_ltz, m1_gez, true_imp_iff, false_imp_iff, true_and, and_true, ne_eq, not_false_eq_true, not_true_eq_false, Nat.reduceEqDiff, Nat.reduceLT, Nat.reduceLeDiff]
      with_reducible refine xm_go_blk b_X12_leaf_53 k_X12_leaf_53 ?_
      refine by_aload_n rfl ?_
      refine by_inv0 cn_248 lk_12_320 (by rw [xe_cnt]; decide) is_263 np_263 cn_263 (by first | exact rfl | assumption) (Nat.le_of_ble_eq_true rfl) ?_
      refine sp_mix (w := h'.1 149) (st := xt_X12_F) F1 rfl hs (fun h2 f2 hs2 => ?_)
      with_reducible refine xm_go_blk b_X12_leaf_57 k_X12_leaf_57 ?_
      refine by_ret ry_248 ?_
      refine hp h2 (Fr_tr (Fr_mo hf (by simp) (by simp)) f2 (by simp) (by simp)) (fun k hk => ?_)
      rw [hs2 k hk]
      unfold rt0
      rw [kk_eq, ff_eq]
      exact shC_cg (fun _ _ => rfl) (fun k hk => hb k hk) k hk
    | succ j ih =>
      intro i h' hi h1 hf hs hb
      have F1 : XF h' := Fr_XF hF hf (by decide +kernel)
      with_reducible refine xm_go_blk b_X12_leaf_34 k_X12_leaf_34 ?_
      refine by_iload_n rfl ?_
      refine by_bipush cb_16 ?_
      refine by_ic_ge 53 rfl ?_
      simp (disch := first | exact Nat.ne_of_beq_eq_false rfl | exact rfl | omega) only [nI_add, xa_sub, xa_mul, pk_div, nm_mod, xa_shr, xa_and7, xa_and1, xa_and255, xa_by_and, nI_m1, Nat.add_sub_cancel, Nat.reducePow, Nat.zero_add, Nat.add_zero, Nat.reduceAdd, Nat.reduceMul, Nat.reduceSub, xf_same, xq_ff, xq_fo, xf_1, xf_2, xs_1, xs_2, xs_same, xq_so, xj_1, xj_2, xj_same, xq_jo, xq_sa1, xq_same, xq_other, upd_s, oI_n, oI_s, xv_0, xv_1, xv_2, xv_3, xm_p1, xm_p2, xq_fp, xq_fn, List.filter_nil, Nat.reduceBEq, Bool.not_true, Bool.not_false, Bool.and_true, Bool.and_false, Bool.false_and, Bool.true_and, if_true, if_false, Bool.false_eq_true, reduceIte, xc_i, xc_j, xc_r, xc_n, List.nil_append, List.cons_append, Option.toList_some, Option.toList_none, nI_ltJ, nI_leJ, nI_eqJ, nI_ltz, nI_gez, nI_gtz, nI_lez, nI_eqz, m1_ltz, m1_gez, true_imp_iff, false_imp_iff, true_and, and_true, ne_eq, not_false_eq_true, not_true_eq_false, Nat.reduceEqDiff, Nat.reduceLT, Nat.reduceLeDiff, xf_102_63 F1]
      refine ⟨fun c => absurd c (by omega), fun c34 => ?_⟩
      with_reducible refine xm_go_blk b_X12_leaf_40 k_X12_leaf_40 ?_
      refine by_aload_n rfl ?_
      refine by_getf cn_248 fl_12_154 (by first | exact rfl | assumption) (by decide) ?_
      refine by_iload_n rfl ?_
      refine by_iconst ci_0 ?_
      simp (disch := first | exact Nat.ne_of_beq_eq_false rfl | exact rfl | omega) only [nI_add, xa_sub, xa_mul, pk_div, nm_mod, xa_shr, xa_and7, xa_and1, xa_and255, xa_by_and, nI_m1, Nat.add_sub_cancel, Nat.reducePow, Nat.zero_add, Nat.add_zero, Nat.reduceAdd, Nat.reduceMul, Nat.reduceSub, xf_same, xq_ff, xq_fo, xf_1, xf_2, xs_1, xs_2, xs_same, xq_so, xj_1, xj_2, xj_same, xq_jo, xq_sa1, xq_same, xq_other, upd_s, oI_n, oI_s, xf_102_63 F1]
      refine by_iast (by first | exact rfl | assumption | exact ps_1 hpp | exact ps_2 hpp | exact ps_3 hpp | exact ps_4 hpp | exact ps_5 hpp | exact ps_6 hpp | exact ps_7 hpp | exact ps_8 hpp | exact ps_9 hpp | exact ps_10 hpp | exact ps_11 hpp | exact ps_15 hpp | exact ps_16 hpp | exact ps_17 hpp | exact ps_18 hpp | exact ps_19 hpp | exact ps_21 hpp | exact ps_22 hpp | exact ps_23 hpp | exact ps_24 hpp) ⟨by omega, by omega⟩ ?_
      refine by_iinc (by rw [ml_248]; decide) rfl ci_1 ?_
      refine by_goto 34 rfl ?_
      simp (disch := first | exact Nat.ne_of_beq_eq_false rfl | exact rfl | omega) only [nI_add, xa_sub, xa_mul, pk_div, nm_mod, xa_shr, xa_and7, xa_and1, xa_and255, xa_by_and, nI_m1, Nat.add_sub_cancel, Nat.reducePow, Nat.zero_add, Nat.add_zero, Nat.reduceAdd, Nat.reduceMul, Nat.reduceSub, xf_same, xq_ff, xq_fo, xf_1, xf_2, xs_1, xs_2, xs_same, xq_so, xj_1, xj_2, xj_same, xq_jo, xq_sa1, xq_same, xq_other, upd_s, oI_n, oI_s, xv_0, xv_1, xv_2, xv_3, xm_p1, xm_p2, xq_fp, xq_fn, List.filter_nil, Nat.reduceBEq, Bool.not_true, Bool.not_false, Bool.and_true, Bool.and_false, Bool.false_and, Bool.true_and, if_true, if_false, Bool.false_eq_true, reduceIte, xc_i, xc_j, xc_r, xc_n, List.nil_append, List.cons_append, Option.toList_some, Option.toList_none, xf_102_63 F1]
      refine xm_go_wk (by simp [Value.category]) (ih (i + 1) _ (by omega) (by omega) (Fr_si hf (by simp)) (fun k hk => by rw [xq_so (by omega)]; exact hs k hk) (fun k hk => ?_))
      by_cases z : k = i
      · subst z; rw [xs_same, upd_s, if_neg (by omega)]
      · rw [xs_same, upd_o z]; exact hb k (by omega)
  have sta : ∀ (j i : Nat) (h' : xm_H), i + j = 8 → Fr [148] [] h h' → (∀ k, k < i → h'.1 148 k = xt_X12_F k) → xm_go (XE sc) (xm_T (XE sc) (d + 2)) 248 post 2 [(2, .int (nI i)), (0, .ref 102), (1, .int x)] [] h' := by
    intro j
    induction j with
    | zero =>
      intro i h' hi hf hs
      have : i = 8 := by omega
      subst this
      have F1 : XF h' := Fr_XF hF hf (by decide +kernel)
      with_reducible refine xm_go_blk b_X12_leaf_2 k_X12_leaf_2 ?_
      refine by_iload_n rfl ?_
      refine by_bipush cb_8 ?_
      refine by_ic_ge 25 rfl ?_
      simp (disch := first | exact Nat.ne_of_beq_eq_false rfl | exact rfl | omega) only [nI_add, xa_sub, xa_mul, pk_div, nm_mod, xa_shr, xa_and7, xa_and1, xa_and255, xa_by_and, nI_m1, Nat.add_sub_cancel, Nat.reducePow, Nat.zero_add, Nat.add_zero, Nat.reduceAdd, Nat.reduceMul, Nat.reduceSub, xf_same, xq_ff, xq_fo, xf_1, xf_2, xs_1, xs_2, xs_same, xq_so, xj_1, xj_2, xj_same, xq_jo, xq_sa1, xq_same, xq_other, upd_s, oI_n, oI_s, xv_0, xv_1, xv_2, xv_3, xm_p1, xm_p2, xq_fp, xq_fn, List.filter_nil, Nat.reduceBEq, Bool.not_true, Bool.not_false, Bool.and_true, Bool.and_false, Bool.false_and, Bool.true_and, if_true, if_false, Bool.false_eq_true, reduceIte, xc_i, xc_j, xc_r, xc_n, List.nil_append, List.cons_append, Option.toList_some, Option.toList_none, nI_ltJ, nI_leJ, nI_eqJ, nI_ltz, nI_gez, nI_gtz, nI_lez, nI_eqz, m1_ltz, m1_gez, true_imp_iff, false_imp_iff, true_and, and_true, ne_eq, not_false_eq_true, not_true_eq_false, Nat.reduceEqDiff, Nat.reduceLT, Nat.reduceLeDiff, xf_102_63 F1]
      with_reducible refine xm_go_blk b_X12_leaf_25 k_X12_leaf_25 ?_
      refine by_aload_n rfl ?_
      refine by_getf cn_248 fl_12_154 (by first | exact rfl | assumption) (by decide) ?_
      refine by_iconst ci_0 ?_
      refine by_iload_n rfl ?_
      simp (disch := first | exact Nat.ne_of_beq_eq_false rfl | exact rfl | omega) only [nI_add, xa_sub, xa_mul, pk_div, nm_mod, xa_shr, xa_and7, xa_and1, xa_and255, xa_by_and, nI_m1, Nat.add_sub_cancel, Nat.reducePow, Nat.zero_add, Nat.add_zero, Nat.reduceAdd, Nat.reduceMul, Nat.reduceSub, xf_same, xq_ff, xq_fo, xf_1, xf_2, xs_1, xs_2, xs_same, xq_so, xj_1, xj_2, xj_same, xq_jo, xq_sa1, xq_same, xq_other, upd_s, oI_n, oI_s, xf_102_63 F1]
      refine by_iast (by first | exact rfl | assumption | exact ps_1 hpp | exact ps_2 hpp | exact ps_3 hpp | exact ps_4 hpp | exact ps_5 hpp | exact ps_6 hpp | exact ps_7 hpp | exact ps_8 hpp | exact ps_9 hpp | exact ps_10 hpp | exact ps_11 hpp | exact ps_15 hpp | exact ps_16 hpp | exact ps_17 hpp | exact ps_18 hpp | exact ps_19 hpp | exact ps_21 hpp | exact ps_22 hpp | exact ps_23 hpp | exact ps_24 hpp) ⟨by omega, by omega⟩ ?_
      refine by_iconst ci_1 ?_
      refine by_istore_n (by rw [ml_248]; decide) ?_
      refine by_nil ?_
      simp (disch := first | exact Nat.ne_of_beq_eq_false rfl | exact rfl | omega) only [nI_add, xa_sub, xa_mul, pk_div, nm_mod, xa_shr, xa_and7, xa_and1, xa_and255, xa_by_and, nI_m1, Nat.add_sub_cancel, Nat.reducePow, Nat.zero_add, Nat.add_zero, Nat.reduceAdd, Nat.reduceMul, Nat.reduceSub, xf_same, xq_ff, xq_fo, xf_1, xf_2, xs_1, xs_2, xs_same, xq_so, xj_1, xj_2, xj_same, xq_jo, xq_sa1, xq_same, xq_other, upd_s, oI_n, oI_s, xv_0, xv_1, xv_2, xv_3, xm_p1, xm_p2, xq_fp, xq_fn, List.filter_nil, Nat.reduceBEq, Bool.not_true, Bool.not_false, Bool.and_true, Bool.and_false, Bool.false_and, Bool.true_and, if_true, if_false, Bool.false_eq_true, reduceIte, xc_i, xc_j, xc_r, xc_n, List.nil_append, List.cons_append, Option.toList_some, Option.toList_none, xf_102_63 F1]
      refine xm_go_wk (by simp [Value.category]) (zer 15 1 _ rfl (by decide) (Fr_si (Fr_mo hf (by simp) (by simp)) (by simp)) (fun k hk => by rw [xq_so (by omega)]; exact hs k hk) (fun k hk => ?_))
      have : k = 0 := by omega
      subst this
      rw [xs_same, upd_s, if_pos rfl]
    | succ j ih =>
      intro i h' hi hf hs
      have F1 : XF h' := Fr_XF hF hf (by decide +kernel)
      with_reducible refine xm_go_blk b_X12_leaf_2 k_X12_leaf_2 ?_
      refine by_iload_n rfl ?_
      refine by_bipush cb_8 ?_
      refine by_ic_ge 25 rfl ?_
      simp (disch := first | exact Nat.ne_of_beq_eq_false rfl | exact rfl | omega) only [nI_add, xa_sub, xa_mul, pk_div, nm_mod, xa_shr, xa_and7, xa_and1, xa_and255, xa_by_and, nI_m1, Nat.add_sub_cancel, Nat.reducePow, Nat.zero_add, Nat.add_zero, Nat.reduceAdd, Nat.reduceMul, Nat.reduceSub, xf_same, xq_ff, xq_fo, xf_1, xf_2, xs_1, xs_2, xs_same, xq_so, xj_1, xj_2, xj_same, xq_jo, xq_sa1, xq_same, xq_other, upd_s, oI_n, oI_s, xv_0, xv_1, xv_2, xv_3, xm_p1, xm_p2, xq_fp, xq_fn, List.filter_nil, Nat.reduceBEq, Bool.not_true, Bool.not_false, Bool.and_true, Bool.and_false, Bool.false_and, Bool.true_and, if_true, if_false, Bool.false_eq_true, reduceIte, xc_i, xc_j, xc_r, xc_n, List.nil_append, List.cons_append, Option.toList_some, Option.toList_none, nI_ltJ, nI_leJ, nI_eqJ, nI_ltz, nI_gez, nI_gtz, nI_lez, nI_eqz, m1_ltz, m1_gez, true_imp_iff, false_imp_iff, true_and, and_true, ne_eq, not_false_eq_true, not_true_eq_false, Nat.reduceEqDiff, Nat.reduceLT, Nat.reduceLeDiff, xf_102_62 F1]
      refine ⟨fun c => absurd c (by omega), fun c2 => ?_⟩
      with_reducible refine xm_go_blk b_X12_leaf_8 k_X12_leaf_8 ?_
      refine by_aload_n rfl ?_
      refine by_getf cn_248 fl_12_151 (by first | exact rfl | assumption) (by decide) ?_
      refine by_iload_n rfl ?_
      refine by_gets cn_248 gs_12_317 ?_
      refine by_iload_n rfl ?_
      first | refine by_iald (by first | exact rfl | assumption | exact ps_1 hpp | exact ps_2 hpp | exact ps_3 hpp | exact ps_4 hpp | exact ps_5 hpp | exact ps_6 hpp | exact ps_7 hpp | exact ps_8 hpp | exact ps_9 hpp | exact ps_10 hpp | exact ps_11 hpp | exact ps_15 hpp | exact ps_16 hpp | exact ps_17 hpp | exact ps_18 hpp | exact ps_19 hpp | exact ps_21 hpp | exact ps_22 hpp | exact ps_23 hpp | exact ps_24 hpp) ⟨by omega, by omega⟩ ?_ | refine by_tald rfl rfl ⟨by omega, by omega⟩ ?_
      simp (disch := first | exact Nat.ne_of_beq_eq_false rfl | exact rfl | omega) only [nI_add, xa_sub, xa_mul, pk_div, nm_mod, xa_shr, xa_and7, xa_and1, xa_and255, xa_by_and, nI_m1, Nat.add_sub_cancel, Nat.reducePow, Nat.zero_add, Nat.add_zero, Nat.reduceAdd, Nat.reduceMul, Nat.reduceSub, xf_same, xq_ff, xq_fo, xf_1, xf_2, xs_1, xs_2, xs_same, xq_so, xj_1, xj_2, xj_same, xq_jo, xq_sa1, xq_same, xq_other, upd_s, oI_n, oI_s, xf_102_62 F1]
      refine by_iast (by first | exact rfl | assumption | exact ps_1 hpp | exact ps_2 hpp | exact ps_3 hpp | exact ps_4 hpp | exact ps_5 hpp | exact ps_6 hpp | exact ps_7 hpp | exact ps_8 hpp | exact ps_9 hpp | exact ps_10 hpp | exact ps_11 hpp | exact ps_15 hpp | exact ps_16 hpp | exact ps_17 hpp | exact ps_18 hpp | exact ps_19 hpp | exact ps_21 hpp | exact ps_22 hpp | exact ps_23 hpp | exact ps_24 hpp) ⟨by omega, by omega⟩ ?_
      refine by_iinc (by rw [ml_248]; decide) rfl ci_1 ?_
      refine by_goto 2 rfl ?_
      simp (disch := first | exact Nat.ne_of_beq_eq_false rfl | exact rfl | omega) only [nI_add, xa_sub, xa_mul, pk_div, nm_mod, xa_shr, xa_and7, xa_and1, xa_and255, xa_by_and, nI_m1, Nat.add_sub_cancel, Nat.reducePow, Nat.zero_add, Nat.add_zero, Nat.reduceAdd, Nat.reduceMul, Nat.reduceSub, xf_same, xq_ff, xq_fo, xf_1, xf_2, xs_1, xs_2, xs_same, xq_so, xj_1, xj_2, xj_same, xq_jo, xq_sa1, xq_same, xq_other, upd_s, oI_n, oI_s, xv_0, xv_1, xv_2, xv_3, xm_p1, xm_p2, xq_fp, xq_fn, List.filter_nil, Nat.reduceBEq, Bool.not_true, Bool.not_false, Bool.and_true, Bool.and_false, Bool.false_and, Bool.true_and, if_true, if_false, Bool.false_eq_true, reduceIte, xc_i, xc_j, xc_r, xc_n, List.nil_append, List.cons_append, Option.toList_some, Option.toList_none, xf_102_62 F1]
      refine xm_go_wk (by simp [Value.category]) (ih (i + 1) _ (by omega) (Fr_si hf (by simp)) (fun k hk => ?_))
      by_cases z : k = i
      · subst z; rw [xs_same, upd_s]
      · rw [xs_same, upd_o z]; exact hs k (by omega)
  refine xq_in rfl ?_
  simp only [xq_a0, xq_aI, xq_aJ, xq_aR, Nat.reduceAdd]
  with_reducible refine xm_go_blk b_X12_leaf_0 k_X12_leaf_0 ?_
  refine by_iconst ci_0 ?_
  refine by_istore_n (by rw [ml_248]; decide) ?_
  refine by_nil ?_
  simp (disch := first | exact Nat.ne_of_beq_eq_false rfl | exact rfl | omega) only [nI_add, xa_sub, xa_mul, pk_div, nm_mod, xa_shr, xa_and7, xa_and1, xa_and255, xa_by_and, nI_m1, Nat.add_sub_cancel, Nat.reducePow, Nat.zero_add, Nat.add_zero, Nat.reduceAdd, Nat.reduceMul, Nat.reduceSub, xf_same, xq_ff, xq_fo, xf_1, xf_2, xs_1, xs_2, xs_same, xq_so, xj_1, xj_2, xj_same, xq_jo, xq_sa1, xq_same, xq_other, upd_s, oI_n, oI_s, xv_0, xv_1, xv_2, xv_3, xm_p1, xm_p2, xq_fp, xq_fn, List.filter_nil, Nat.reduceBEq, Bool.not_true, Bool.not_false, Bool.and_true, Bool.and_false, Bool.false_and, Bool.true_and, if_true, if_false, Bool.false_eq_true, reduceIte, xc_i, xc_j, xc_r, xc_n, List.nil_append, List.cons_append, Option.toList_some, Option.toList_none]
  exact xm_go_wk (by simp [Value.category]) (sta 8 0 h rfl Fr_rf (fun k hk => absurd hk (by omega)))
theorem sp_xleaf {x : Int32} {B q nB : Nat} (hF : XF h) (hB : (xe_sh (XE sc))[B]? = some (.inl (.int, nB))) (hB44 : B ≠ 44) (hq : 8 * q + 8 ≤ nB) (hnB : nB < 2147483648)
    (hp : ∀ h', Fr [44, B] [] h h' → (∀ k, k < 8 → h'.1 B (8 * q + k) = rt0 x k) → (∀ m, (m < 8 * q ∨ 8 * q + 8 ≤ m) → h'.1 B m = h.1 B m) → post none h') : xm_T (XE sc) (d + 3) 122 [.ref 40, .int x, .ref B, .int (nI q)] h post := by
  have zer : ∀ (j i : Nat) (h' : xm_H), i + j = 16 → 1 ≤ i → Fr [44] [] h h' → (∀ k, k < i → h'.1 44 k = if k = 0 then x else nI 0) → xm_go (XE sc) (xm_T (XE sc) (d + 2)) 122 post 10 [(4, .int (nI i)), (0, .ref 40), (2, .ref B), (3, .int (nI q))] [] h' := by
    intro j
    induction j with
    | zero =>
      intro i h' hi h1 hf hb
      have : i = 16 := by omega
      subst this
      have F1 : XF h' := Fr_XF hF hf (by decide +kernel)
      with_reducible refine xm_go_blk b_X7_leaf_10 k_X7_leaf_10 ?_
      refine by_iload rfl ?_
      refine by_bipush cb_16 ?_
      refine by_ic_ge 31 rfl ?_
      simp (disch := first | exact Nat.ne_of_beq_eq_false rfl | exact rfl | omega) only [nI_add, xa_sub, xa_mul, pk_div, nm_mod, xa_shr, xa_and7, xa_and1, xa_and255, xa_by_and, nI_m1, Nat.add_sub_cancel, Nat.reducePow, Nat.zero_add, Nat.add_zero, Nat.reduceAdd, Nat.reduceMul, Nat.reduceSub, xf_same, xq_ff, xq_fo, xf_1, xf_2, xs_1, xs_2, xs_same, xq_so, xj_1, xj_2, xj_same, xq_jo, xq_sa1, xq_same, xq_other, upd_s, oI_n, oI_s, xv_0, xv_1, xv_2, xv_3, xm_p1, xm_p2, xq_fp, xq_fn, List.filter_nil, Nat.reduceBEq, Bool.not_true, Bool.not_false, Bool.and_true, Bool.and_false, Bool.false_and, Bool.true_and, if_true, if_false, Bool.false_eq_true, reduceIte, xc_i, xc_j, xc_r, xc_n, List.nil_append, List.cons_append, Option.toList_some, Option.toList_none, nI_ltJ, nI_leJ, nI_eqJ, nI_ltz, nI_gez, nI_gtz, nI_lez, nI_eqz, m1_ltz, m1_gez, true_imp_iff, false_imp_iff, true_and, and_true, ne_eq, not_false_eq_true, not_true_eq_false, Nat.reduceEqDiff, Nat.reduceLT, Nat.reduceLeDiff]
      with_reducible refine xm_go_blk b_X7_leaf_31 k_X7_leaf_31 ?_
      refine by_aload_n rfl ?_
      refine by_gets cn_122 gs_7_98 ?_
      refine by_iconst ci_0 ?_
      refine by_aload_n rfl ?_
      refine by_iload_n rfl ?_
      refine by_inv4 cn_122 lk_7_82 (by rw [xe_cnt]; decide) is_117 np_117 cn_117 (by first | exact rfl | assumption) (Nat.le_of_ble_eq_true rfl) ?_
      refine sp_cmpS F1 hB hB44 hq hnB (fun h2 f2 hs2 ho2 => ?_)
      with_reducible refine xm_go_blk b_X7_leaf_41 k_X7_leaf_41 ?_
      refine by_ret ry_122 ?_
      refine hp h2 (Fr_tr (Fr_mo hf (by simp) (by simp)) f2 (by simp) (by simp)) (fun k hk => ?_) (fun m hm => by rw [ho2 m hm, hf.1 B (by simpa using hB44)])
      rw [hs2 k hk]
      exact shC_cg (fun _ _ => rfl) (fun k hk => hb k hk) k hk
    | succ j ih =>
      intro i h' hi h1 hf hb
      have F1 : XF h' := Fr_XF hF hf (by decide +kernel)
      with_reducible refine xm_go_blk b_X7_leaf_10 k_X7_leaf_10 ?_
      refine by_iload rfl ?_
      refine by_bipush cb_16 ?_
      refine by_ic_ge 31 rfl ?_
      simp (disch := first | exact Nat.ne_of_beq_eq_false rfl | exact rfl | omega) only [nI_add, xa_sub, xa_mul, pk_div, nm_mod, xa_shr, xa_and7, xa_and1, xa_and255, xa_by_and, nI_m1, Nat.add_sub_cancel, Nat.reducePow, Nat.zero_add, Nat.add_zero, Nat.reduceAdd, Nat.reduceMul, Nat.reduceSub, xf_same, xq_ff, xq_fo, xf_1, xf_2, xs_1, xs_2, xs_same, xq_so, xj_1, xj_2, xj_same, xq_jo, xq_sa1, xq_same, xq_other, upd_s, oI_n, oI_s, xv_0, xv_1, xv_2, xv_3, xm_p1, xm_p2, xq_fp, xq_fn, List.filter_nil, Nat.reduceBEq, Bool.not_true, Bool.not_false, Bool.and_true, Bool.and_false, Bool.false_and, Bool.true_and, if_true, if_false, Bool.false_eq_true, reduceIte, xc_i, xc_j, xc_r, xc_n, List.nil_append, List.cons_append, Option.toList_some, Option.toList_none, nI_ltJ, nI_leJ, nI_eqJ, nI_ltz, nI_gez, nI_gtz, nI_lez, nI_eqz, m1_ltz, m1_gez, true_imp_iff, false_imp_iff, true_and, and_true, ne_eq, not_false_eq_true, not_true_eq_false, Nat.reduceEqDiff, Nat.reduceLT, Nat.reduceLeDiff, xf_40_3 F1]
      refine ⟨fun c => absurd c (by omega), fun c10 => ?_⟩
      with_reducible refine xm_go_blk b_X7_leaf_17 k_X7_leaf_17 ?_
      refine by_aload_n rfl ?_
      refine by_getf cn_122 fl_7_21 (by first | exact rfl | assumption) (by decide) ?_
      refine by_iload rfl ?_
      refine by_iconst ci_0 ?_
      simp (disch := first | exact Nat.ne_of_beq_eq_false rfl | exact rfl | omega) only [nI_add, xa_sub, xa_mul, pk_div, nm_mod, xa_shr, xa_and7, xa_and1, xa_and255, xa_by_and, nI_m1, Nat.add_sub_cancel, Nat.reducePow, Nat.zero_add, Nat.add_zero, Nat.reduceAdd, Nat.reduceMul, Nat.reduceSub, xf_same, xq_ff, xq_fo, xf_1, xf_2, xs_1, xs_2, xs_same, xq_so, xj_1, xj_2, xj_same, xq_jo, xq_sa1, xq_same, xq_other, upd_s, oI_n, oI_s, xf_40_3 F1]
      refine by_iast (by first | exact rfl | assumption | exact ps_1 hpp | exact ps_2 hpp | exact ps_3 hpp | exact ps_4 hpp | exact ps_5 hpp | exact ps_6 hpp | exact ps_7 hpp | exact ps_8 hpp | exact ps_9 hpp | exact ps_10 hpp | exact ps_11 hpp | exact ps_15 hpp | exact ps_16 hpp | exact ps_17 hpp | exact ps_18 hpp | exact ps_19 hpp | exact ps_21 hpp | exact ps_22 hpp | exact ps_23 hpp | exact ps_24 hpp) ⟨by omega, by omega⟩ ?_
      refine by_iinc (by rw [ml_122]; decide) rfl ci_1 ?_
      refine by_goto 10 rfl ?_
      simp (disch := first | exact Nat.ne_of_beq_eq_false rfl | exact rfl | omega) only [nI_add, xa_sub, xa_mul, pk_div, nm_mod, xa_shr, xa_and7, xa_and1, xa_and255, xa_by_and, nI_m1, Nat.add_sub_cancel, Nat.reducePow, Nat.zero_add, Nat.add_zero, Nat.reduceAdd, Nat.reduceMul, Nat.reduceSub, xf_same, xq_ff, xq_fo, xf_1, xf_2, xs_1, xs_2, xs_same, xq_so, xj_1, xj_2, xj_same, xq_jo, xq_sa1, xq_same, xq_other, upd_s, oI_n, oI_s, xv_0, xv_1, xv_2, xv_3, xm_p1, xm_p2, xq_fp, xq_fn, List.filter_nil, Nat.reduceBEq, Bool.not_true, Bool.not_false, Bool.and_true, Bool.and_false, Bool.false_and, Bool.true_and, if_true, if_false, Bool.false_eq_true, reduceIte, xc_i, xc_j, xc_r, xc_n, List.nil_append, List.cons_append, Option.toList_some, Option.toList_none, xf_40_3 F1]
      refine xm_go_wk (by simp [Value.category]) (ih (i + 1) _ (by omega) (by omega) (Fr_si hf (by simp)) (fun k hk => ?_))
      by_cases z : k = i
      · subst z; rw [xs_same, upd_s, if_neg (by omega)]
      · rw [xs_same, upd_o z]; exact hb k (by omega)
  refine xq_in rfl ?_
  simp only [xq_a0, xq_aI, xq_aJ, xq_aR, Nat.reduceAdd]
  with_reducible refine xm_go_blk b_X7_leaf_0 k_X7_leaf_0 ?_
  refine by_aload_n rfl ?_
  refine by_getf cn_122 fl_7_21 (by first | exact rfl | assumption) (by decide) ?_
  refine by_iconst ci_0 ?_
  refine by_iload_n rfl ?_
  simp (disch := first | exact Nat.ne_of_beq_eq_false rfl | exact rfl | omega) only [nI_add, xa_sub, xa_mul, pk_div, nm_mod, xa_shr, xa_and7, xa_and1, xa_and255, xa_by_and, nI_m1, Nat.add_sub_cancel, Nat.reducePow, Nat.zero_add, Nat.add_zero, Nat.reduceAdd, Nat.reduceMul, Nat.reduceSub, xf_same, xq_ff, xq_fo, xf_1, xf_2, xs_1, xs_2, xs_same, xq_so, xj_1, xj_2, xj_same, xq_jo, xq_sa1, xq_same, xq_other, upd_s, oI_n, oI_s, xf_40_3 hF]
  refine by_iast (by first | exact rfl | assumption | exact ps_1 hpp | exact ps_2 hpp | exact ps_3 hpp | exact ps_4 hpp | exact ps_5 hpp | exact ps_6 hpp | exact ps_7 hpp | exact ps_8 hpp | exact ps_9 hpp | exact ps_10 hpp | exact ps_11 hpp | exact ps_15 hpp | exact ps_16 hpp | exact ps_17 hpp | exact ps_18 hpp | exact ps_19 hpp | exact ps_21 hpp | exact ps_22 hpp | exact ps_23 hpp | exact ps_24 hpp) ⟨by omega, by omega⟩ ?_
  refine by_iconst ci_1 ?_
  refine by_istore (by rw [ml_122]; decide) ?_
  refine by_nil ?_
  simp (disch := first | exact Nat.ne_of_beq_eq_false rfl | exact rfl | omega) only [nI_add, xa_sub, xa_mul, pk_div, nm_mod, xa_shr, xa_and7, xa_and1, xa_and255, xa_by_and, nI_m1, Nat.add_sub_cancel, Nat.reducePow, Nat.zero_add, Nat.add_zero, Nat.reduceAdd, Nat.reduceMul, Nat.reduceSub, xf_same, xq_ff, xq_fo, xf_1, xf_2, xs_1, xs_2, xs_same, xq_so, xj_1, xj_2, xj_same, xq_jo, xq_sa1, xq_same, xq_other, upd_s, oI_n, oI_s, xv_0, xv_1, xv_2, xv_3, xm_p1, xm_p2, xq_fp, xq_fn, List.filter_nil, Nat.reduceBEq, Bool.not_true, Bool.not_false, Bool.and_true, Bool.and_false, Bool.false_and, Bool.true_and, if_true, if_false, Bool.false_eq_true, reduceIte, xc_i, xc_j, xc_r, xc_n, List.nil_append, List.cons_append, Option.toList_some, Option.toList_none, xf_40_3 hF]
  refine xm_go_wk (by simp [Value.category]) (zer 15 1 _ rfl (by decide) (Fr_si Fr_rf (by simp)) (fun k hk => ?_))
  have : k = 0 := by omega
  subst this
  rw [xs_same, upd_s, if_pos rfl]
end SH
