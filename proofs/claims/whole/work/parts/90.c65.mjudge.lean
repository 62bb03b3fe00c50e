/-! ===== the reference: isInOrder, isWronglyHidden ===== -/
section MJ
variable {sc : xm_Sc} {d N n : Nat} {cd : Nat → Nat} {c1 c2 : Nat → Option Nat} {L : List Nat} {h : xm_H} {post : xm_Po}
theorem sp_isInOrder (hF : XF h) (hm : h.2.2 102 5 = .int (nI N)) (hN : N ≤ 2000) (hN1 : 1 ≤ N) (hc : chM h N cd c1 c2) (hcN : df_cN c1 c2 N)
    (h1 : ∀ h' L, df_out c1 c2 (N - 1) L → Fr [113, 114, 115, 116] [(102, 14)] h h' → h'.2.2 102 14 = .int (nI L.length) → (∀ i, i < L.length → h'.1 113 i = nI (L.getD i 0)) → L = List.range N → post (some (.int (nI 1))) h')
    (h0 : ∀ h' L, df_out c1 c2 (N - 1) L → Fr [113, 114, 115, 116] [(102, 14)] h h' → L ≠ List.range N → post (some (.int (nI 0))) h') : xm_T (XE sc) (d + 3) 231 [.ref 102] h post := by
  refine xq_in rfl ?_
  simp only [xq_a0, xq_aI, xq_aJ, xq_aR, Nat.reduceAdd]
  with_reducible refine xm_go_blk b_X12_isInOrder_0 k_X12_isInOrder_0 ?_
  refine by_aload_n rfl ?_
  refine by_aload_n rfl ?_
  refine by_getf cn_231 fl_12_223 (by first | exact rfl | assumption) (by decide) ?_
  refine by_iconst ci_1 ?_
  simp (disch := first | exact Nat.ne_of_beq_eq_false rfl | exact rfl | omega) only [nI_add, xa_sub, xa_mul, pk_div, nm_mod, xa_shr, xa_and7, xa_and1, xa_and255, xa_by_and, nI_m1, Nat.add_sub_cancel, Nat.reducePow, Nat.zero_add, Nat.add_zero, Nat.reduceAdd, Nat.reduceMul, Nat.reduceSub, xf_same, xq_ff, xq_fo, xf_1, xf_2, xs_1, xs_2, xs_same, xq_so, xj_1, xj_2, xj_same, xq_jo, xq_sa1, xq_same, xq_other, upd_s, oI_n, oI_s, hm]
  refine by_isub ?_
  simp (disch := first | exact Nat.ne_of_beq_eq_false rfl | exact rfl | omega) only [nI_add, xa_sub, xa_mul, pk_div, nm_mod, xa_shr, xa_and7, xa_and1, xa_and255, xa_by_and, nI_m1, Nat.add_sub_cancel, Nat.reducePow, Nat.zero_add, Nat.add_zero, Nat.reduceAdd, Nat.reduceMul, Nat.reduceSub, xf_same, xq_ff, xq_fo, xf_1, xf_2, xs_1, xs_2, xs_same, xq_so, xj_1, xj_2, xj_same, xq_jo, xq_sa1, xq_same, xq_other, upd_s, oI_n, oI_s, xv_0, xv_1, xv_2, xv_3, xm_p1, xm_p2, xq_fp, xq_fn, List.filter_nil, Nat.reduceBEq, Bool.not_true, Bool.not_false, Bool.and_true, Bool.and_false, Bool.false_and, Bool.true_and, if_true, if_false, Bool.false_eq_true, reduceIte, xc_i, xc_j, xc_r, xc_n, List.nil_append, List.cons_append, Option.toList_some, Option.toList_none, hm]
  refine by_inv1 cn_231 lk_12_351 (by rw [xe_cnt]; decide) is_225 np_225 cn_225 (by first | exact rfl | assumption) (Nat.le_of_ble_eq_true rfl) ?_
  refine sp_goFrom hF hm hN (by omega) hc hcN (fun h' L hout hf hl hln hrow => ?_)
  have F1 : XF h' := Fr_XF hF hf (by decide +kernel)
  have hm1 : h'.2.2 102 5 = .int (nI N) := by rw [hf.2.2 _ _ (by simp)]; exact hm
  have hb : ∀ x ∈ L, x < N := by
    obtain ⟨j, mm, hj⟩ := hout
    have := df_ok_it hcN j (df_ok_0 (c1 := c1) (c2 := c2) (show N - 1 < N by omega))
    rw [hj] at this
    exact fun x hx => this.2.2 x (by simpa using hx)
  have key : ∀ (j i g : Nat), i + j = L.length → g ≤ 1 → (g = 1 ↔ L.length = N ∧ ∀ q, q < i → L.getD q 0 = q) → xm_go (XE sc) (xm_T (XE sc) (d + 2)) 231 post 29 [(2, .int (nI i)), (1, .int (nI g)), (0, .ref 102)] [] h' := by
    intro j
    induction j with
    | zero =>
      intro i g hi hg1 hg
      have : i = L.length := by omega
      subst this
      have hnar : narrow FieldType.boolean (Value.int (nI g)) = Value.int (nI g) := by rcases (by omega : g = 0 ∨ g = 1) with rfl | rfl <;> rfl
      with_reducible refine xm_go_blk b_X12_isInOrder_29 k_X12_isInOrder_29 ?_
      refine by_iload_n rfl ?_
      refine by_aload_n rfl ?_
      refine by_getf cn_231 fl_12_226 (by first | exact rfl | assumption) (by decide) ?_
      simp (disch := first | exact Nat.ne_of_beq_eq_false rfl | exact rfl | omega) only [nI_add, xa_sub, xa_mul, pk_div, nm_mod, xa_shr, xa_and7, xa_and1, xa_and255, xa_by_and, nI_m1, Nat.add_sub_cancel, Nat.reducePow, Nat.zero_add, Nat.add_zero, Nat.reduceAdd, Nat.reduceMul, Nat.reduceSub, xf_same, xq_ff, xq_fo, xf_1, xf_2, xs_1, xs_2, xs_same, xq_so, xj_1, xj_2, xj_same, xq_jo, xq_sa1, xq_same, xq_other, upd_s, oI_n, oI_s, hl]
      refine by_ic_ge 63 rfl ?_
      simp (disch := first | exact Nat.ne_of_beq_eq_false rfl | exact rfl | omega) only [nI_add, xa_sub, xa_mul, pk_div, nm_mod, xa_shr, xa_and7, xa_and1, xa_and255, xa_by_and, nI_m1, Nat.add_sub_cancel, Nat.reducePow, Nat.zero_add, Nat.add_zero, Nat.reduceAdd, Nat.reduceMul, Nat.reduceSub, xf_same, xq_ff, xq_fo, xf_1, xf_2, xs_1, xs_2, xs_same, xq_so, xj_1, xj_2, xj_same, xq_jo, xq_sa1, xq_same, xq_other, upd_s, oI_n, oI_s, xv_0, xv_1, xv_2, xv_3, xm_p1, xm_p2, xq_fp, xq_fn, List.filter_nil, Nat.reduceBEq, Bool.not_true, Bool.not_false, Bool.and_true, Bool.and_false, Bool.false_and, Bool.true_and, if_true, if_false, Bool.false_eq_true, reduceIte, xc_i, xc_j, xc_r, xc_n, List.nil_append, List.cons_append, Option.toList_some, Option.toList_none, nI_ltJ, nI_leJ, nI_eqJ, nI_ltz, nI_gez, nI_gtz, nI_lez, nI_eqz, m1_ltz, m1_gez, true_imp_iff, false_imp_iff, true_and, and_true, ne_eq, not_false_eq_true, not_true_eq_false, Nat.reduceEqDiff, Nat.reduceLT, Nat.reduceLeDiff, hl]
      refine ⟨fun c29 => ?_, fun c => absurd (by omega) c⟩
      with_reducible refine xm_go_blk b_X12_isInOrder_63 k_X12_isInOrder_63 ?_
      refine by_iload_n rfl ?_
      refine by_iret ry_231 (by first | rfl | assumption) ?_
      rcases (by omega : g = 0 ∨ g = 1) with rfl | rfl
      · exact h0 h' L hout hf (fun z => absurd (hg.mpr (rg_eq.mp z)) (by decide))
      · exact h1 h' L hout hf hl hrow (rg_eq.mpr (hg.mp rfl))
    | succ j ih =>
      intro i g hi hg1 hg
      have e1 := hrow i (by omega)
      have b1 := hb _ (gd_mem (show i < L.length by omega))
      rcases (by omega : g = 0 ∨ g = 1) with rfl | rfl
      · with_reducible refine xm_go_blk b_X12_isInOrder_29 k_X12_isInOrder_29 ?_
        refine by_iload_n rfl ?_
        refine by_aload_n rfl ?_
        refine by_getf cn_231 fl_12_226 (by first | exact rfl | assumption) (by decide) ?_
        simp (disch := first | exact Nat.ne_of_beq_eq_false rfl | exact rfl | omega) only [nI_add, xa_sub, xa_mul, pk_div, nm_mod, xa_shr, xa_and7, xa_and1, xa_and255, xa_by_and, nI_m1, Nat.add_sub_cancel, Nat.reducePow, Nat.zero_add, Nat.add_zero, Nat.reduceAdd, Nat.reduceMul, Nat.reduceSub, xf_same, xq_ff, xq_fo, xf_1, xf_2, xs_1, xs_2, xs_same, xq_so, xj_1, xj_2, xj_same, xq_jo, xq_sa1, xq_same, xq_other, upd_s, oI_n, oI_s, hl]
        refine by_ic_ge 63 rfl ?_
        simp (disch := first | exact Nat.ne_of_beq_eq_false rfl | exact rfl | omega) only [nI_add, xa_sub, xa_mul, pk_div, nm_mod, xa_shr, xa_and7, xa_and1, xa_and255, xa_by_and, nI_m1, Nat.add_sub_cancel, Nat.reducePow, Nat.zero_add, Nat.add_zero, Nat.reduceAdd, Nat.reduceMul, Nat.reduceSub, xf_same, xq_ff, xq_fo, xf_1, xf_2, xs_1, xs_2, xs_same, xq_so, xj_1, xj_2, xj_same, xq_jo, xq_sa1, xq_same, xq_other, upd_s, oI_n, oI_s, xv_0, xv_1, xv_2, xv_3, xm_p1, xm_p2, xq_fp, xq_fn, List.filter_nil, Nat.reduceBEq, Bool.not_true, Bool.not_false, Bool.and_true, Bool.and_false, Bool.false_and, Bool.true_and, if_true, if_false, Bool.false_eq_true, reduceIte, xc_i, xc_j, xc_r, xc_n, List.nil_append, List.cons_append, Option.toList_some, Option.toList_none, nI_ltJ, nI_leJ, nI_eqJ, nI_ltz, nI_gez, nI_gtz, nI_lez, nI_eqz, m1_ltz, m1_gez, true_imp_iff, false_imp_iff, true_and, and_true, ne_eq, not_false_eq_true, not_true_eq_false, Nat.reduceEqDiff, Nat.reduceLT, Nat.reduceLeDiff, hl]
        refine ⟨fun c => absurd c (by omega), fun c29 => ?_⟩
        with_reducible refine xm_go_blk b_X12_isInOrder_37 k_X12_isInOrder_37 ?_
        refine by_iload_n rfl ?_
        refine by_if_eq 55 rfl ?_
        simp (disch := first | exact Nat.ne_of_beq_eq_false rfl | exact rfl | omega) only [nI_add, xa_sub, xa_mul, pk_div, nm_mod, xa_shr, xa_and7, xa_and1, xa_and255, xa_by_and, nI_m1, Nat.add_sub_cancel, Nat.reducePow, Nat.zero_add, Nat.add_zero, Nat.reduceAdd, Nat.reduceMul, Nat.reduceSub, xf_same, xq_ff, xq_fo, xf_1, xf_2, xs_1, xs_2, xs_same, xq_so, xj_1, xj_2, xj_same, xq_jo, xq_sa1, xq_same, xq_other, upd_s, oI_n, oI_s, xv_0, xv_1, xv_2, xv_3, xm_p1, xm_p2, xq_fp, xq_fn, List.filter_nil, Nat.reduceBEq, Bool.not_true, Bool.not_false, Bool.and_true, Bool.and_false, Bool.false_and, Bool.true_and, if_true, if_false, Bool.false_eq_true, reduceIte, xc_i, xc_j, xc_r, xc_n, List.nil_append, List.cons_append, Option.toList_some, Option.toList_none, nI_ltJ, nI_leJ, nI_eqJ, nI_ltz, nI_gez, nI_gtz, nI_lez, nI_eqz, m1_ltz, m1_gez, true_imp_iff, false_imp_iff, true_and, and_true, ne_eq, not_false_eq_true, not_true_eq_false, Nat.reduceEqDiff, Nat.reduceLT, Nat.reduceLeDiff, hl]
        with_reducible refine xm_go_blk b_X12_isInOrder_55 k_X12_isInOrder_55 ?_
        refine by_iconst ci_0 ?_
        refine by_nil ?_
        with_reducible refine xm_go_blk b_X12_isInOrder_56 k_X12_isInOrder_56 ?_
        refine by_istore_n (by rw [ml_231]; decide) ?_
        refine by_iinc (by rw [ml_231]; decide) rfl ci_1 ?_
        refine by_goto 29 rfl ?_
        simp (disch := first | exact Nat.ne_of_beq_eq_false rfl | exact rfl | omega) only [nI_add, xa_sub, xa_mul, pk_div, nm_mod, xa_shr, xa_and7, xa_and1, xa_and255, xa_by_and, nI_m1, Nat.add_sub_cancel, Nat.reducePow, Nat.zero_add, Nat.add_zero, Nat.reduceAdd, Nat.reduceMul, Nat.reduceSub, xf_same, xq_ff, xq_fo, xf_1, xf_2, xs_1, xs_2, xs_same, xq_so, xj_1, xj_2, xj_same, xq_jo, xq_sa1, xq_same, xq_other, upd_s, oI_n, oI_s, xv_0, xv_1, xv_2, xv_3, xm_p1, xm_p2, xq_fp, xq_fn, List.filter_nil, Nat.reduceBEq, Bool.not_true, Bool.not_false, Bool.and_true, Bool.and_false, Bool.false_and, Bool.true_and, if_true, if_false, Bool.false_eq_true, reduceIte, xc_i, xc_j, xc_r, xc_n, List.nil_append, List.cons_append, Option.toList_some, Option.toList_none, hl]
        refine xm_go_wk (by simp [Value.category]) (ih (i + 1) 0 (by omega) (by decide) ⟨fun z => absurd z (by decide), fun z => hg.mpr ⟨z.1, fun q hq => z.2 q (by omega)⟩⟩)
      · have hg' := hg.mp rfl
        by_cases e : L.getD i 0 = i
        · have e' : (L.getD i 0 = i) = True := eq_true e
          with_reducible refine xm_go_blk b_X12_isInOrder_29 k_X12_isInOrder_29 ?_
          refine by_iload_n rfl ?_
          refine by_aload_n rfl ?_
          refine by_getf cn_231 fl_12_226 (by first | exact rfl | assumption) (by decide) ?_
          simp (disch := first | exact Nat.ne_of_beq_eq_false rfl | exact rfl | omega) only [nI_add, xa_sub, xa_mul, pk_div, nm_mod, xa_shr, xa_and7, xa_and1, xa_and255, xa_by_and, nI_m1, Nat.add_sub_cancel, Nat.reducePow, Nat.zero_add, Nat.add_zero, Nat.reduceAdd, Nat.reduceMul, Nat.reduceSub, xf_same, xq_ff, xq_fo, xf_1, xf_2, xs_1, xs_2, xs_same, xq_so, xj_1, xj_2, xj_same, xq_jo, xq_sa1, xq_same, xq_other, upd_s, oI_n, oI_s, hl, xf_102_15 F1, e1, e']
          refine by_ic_ge 63 rfl ?_
          simp (disch := first | exact Nat.ne_of_beq_eq_false rfl | exact rfl | omega) only [nI_add, xa_sub, xa_mul, pk_div, nm_mod, xa_shr, xa_and7, xa_and1, xa_and255, xa_by_and, nI_m1, Nat.add_sub_cancel, Nat.reducePow, Nat.zero_add, Nat.add_zero, Nat.reduceAdd, Nat.reduceMul, Nat.reduceSub, xf_same, xq_ff, xq_fo, xf_1, xf_2, xs_1, xs_2, xs_same, xq_so, xj_1, xj_2, xj_same, xq_jo, xq_sa1, xq_same, xq_other, upd_s, oI_n, oI_s, xv_0, xv_1, xv_2, xv_3, xm_p1, xm_p2, xq_fp, xq_fn, List.filter_nil, Nat.reduceBEq, Bool.not_true, Bool.not_false, Bool.and_true, Bool.and_false, Bool.false_and, Bool.true_and, if_true, if_false, Bool.false_eq_true, reduceIte, xc_i, xc_j, xc_r, xc_n, List.nil_append, List.cons_append, Option.toList_some, Option.toList_none, nI_ltJ, nI_leJ, nI_eqJ, nI_ltz, nI_gez, nI_gtz, nI_lez, nI_eqz, m1_ltz, m1_gez, true_imp_iff, false_imp_iff, true_and, and_true, ne_eq, not_false_eq_true, not_true_eq_false, Nat.reduceEqDiff, Nat.reduceLT, Nat.reduceLeDiff, hl, xf_102_15 F1, e1, e']
          refine ⟨fun c => absurd c (by omega), fun c29 => ?_⟩
          with_reducible refine xm_go_blk b_X12_isInOrder_37 k_X12_isInOrder_37 ?_
          refine by_iload_n rfl ?_
          refine by_if_eq 55 rfl ?_
          simp (disch := first | exact Nat.ne_of_beq_eq_false rfl | exact rfl | omega) only [nI_add, xa_sub, xa_mul, pk_div, nm_mod, xa_shr, xa_and7, xa_and1, xa_and255, xa_by_and, nI_m1, Nat.add_sub_cancel, Nat.reducePow, Nat.zero_add, Nat.add_zero, Nat.reduceAdd, Nat.reduceMul, Nat.reduceSub, xf_same, xq_ff, xq_fo, xf_1, xf_2, xs_1, xs_2, xs_same, xq_so, xj_1, xj_2, xj_same, xq_jo, xq_sa1, xq_same, xq_other, upd_s, oI_n, oI_s, xv_0, xv_1, xv_2, xv_3, xm_p1, xm_p2, xq_fp, xq_fn, List.filter_nil, Nat.reduceBEq, Bool.not_true, Bool.not_false, Bool.and_true, Bool.and_false, Bool.false_and, Bool.true_and, if_true, if_false, Bool.false_eq_true, reduceIte, xc_i, xc_j, xc_r, xc_n, List.nil_append, List.cons_append, Option.toList_some, Option.toList_none, nI_ltJ, nI_leJ, nI_eqJ, nI_ltz, nI_gez, nI_gtz, nI_lez, nI_eqz, m1_ltz, m1_gez, true_imp_iff, false_imp_iff, true_and, and_true, ne_eq, not_false_eq_true, not_true_eq_false, Nat.reduceEqDiff, Nat.reduceLT, Nat.reduceLeDiff, hl, xf_102_15 F1, e1, e']
          with_reducible refine xm_go_blk b_X12_isInOrder_41 k_X12_isInOrder_41 ?_
          refine by_aload_n rfl ?_
          refine by_getf cn_231 fl_12_40 (by first | exact rfl | assumption) (by decide) ?_
          refine by_iload_n rfl ?_
          simp (disch := first | exact Nat.ne_of_beq_eq_false rfl | exact rfl | omega) only [nI_add, xa_sub, xa_mul, pk_div, nm_mod, xa_shr, xa_and7, xa_and1, xa_and255, xa_by_and, nI_m1, Nat.add_sub_cancel, Nat.reducePow, Nat.zero_add, Nat.add_zero, Nat.reduceAdd, Nat.reduceMul, Nat.reduceSub, xf_same, xq_ff, xq_fo, xf_1, xf_2, xs_1, xs_2, xs_same, xq_so, xj_1, xj_2, xj_same, xq_jo, xq_sa1, xq_same, xq_other, upd_s, oI_n, oI_s, hl, xf_102_15 F1, e1, e']
          first | refine by_iald (by first | exact rfl | assumption | exact ps_1 hpp | exact ps_2 hpp | exact ps_3 hpp | exact ps_4 hpp | exact ps_5 hpp | exact ps_6 hpp | exact ps_7 hpp | exact ps_8 hpp | exact ps_9 hpp | exact ps_10 hpp | exact ps_11 hpp | exact ps_15 hpp | exact ps_16 hpp | exact ps_17 hpp | exact ps_18 hpp | exact ps_19 hpp | exact ps_21 hpp | exact ps_22 hpp | exact ps_23 hpp | exact ps_24 hpp) ⟨by omega, by omega⟩ ?_ | refine by_tald rfl rfl ⟨by omega, by omega⟩ ?_
          refine by_iload_n rfl ?_
          refine by_ic_ne 55 rfl ?_
          simp (disch := first | exact Nat.ne_of_beq_eq_false rfl | exact rfl | omega) only [nI_add, xa_sub, xa_mul, pk_div, nm_mod, xa_shr, xa_and7, xa_and1, xa_and255, xa_by_and, nI_m1, Nat.add_sub_cancel, Nat.reducePow, Nat.zero_add, Nat.add_zero, Nat.reduceAdd, Nat.reduceMul, Nat.reduceSub, xf_same, xq_ff, xq_fo, xf_1, xf_2, xs_1, xs_2, xs_same, xq_so, xj_1, xj_2, xj_same, xq_jo, xq_sa1, xq_same, xq_other, upd_s, oI_n, oI_s, xv_0, xv_1, xv_2, xv_3, xm_p1, xm_p2, xq_fp, xq_fn, List.filter_nil, Nat.reduceBEq, Bool.not_true, Bool.not_false, Bool.and_true, Bool.and_false, Bool.false_and, Bool.true_and, if_true, if_false, Bool.false_eq_true, reduceIte, xc_i, xc_j, xc_r, xc_n, List.nil_append, List.cons_append, Option.toList_some, Option.toList_none, nI_ltJ, nI_leJ, nI_eqJ, nI_ltz, nI_gez, nI_gtz, nI_lez, nI_eqz, m1_ltz, m1_gez, true_imp_iff, false_imp_iff, true_and, and_true, ne_eq, not_false_eq_true, not_true_eq_false, Nat.reduceEqDiff, Nat.reduceLT, Nat.reduceLeDiff, hl, xf_102_15 F1, e1, e']
          with_reducible refine xm_go_blk b_X12_isInOrder_51 k_X12_isInOrder_51 ?_
          refine by_iconst ci_1 ?_
          refine by_goto 56 rfl ?_
          with_reducible refine xm_go_blk b_X12_isInOrder_56 k_X12_isInOrder_56 ?_
          refine by_istore_n (by rw [ml_231]; decide) ?_
          refine by_iinc (by rw [ml_231]; decide) rfl ci_1 ?_
          refine by_goto 29 rfl ?_
          simp (disch := first | exact Nat.ne_of_beq_eq_false rfl | exact rfl | omega) only [nI_add, xa_sub, xa_mul, pk_div, nm_mod, xa_shr, xa_and7, xa_and1, xa_and255, xa_by_and, nI_m1, Nat.add_sub_cancel, Nat.reducePow, Nat.zero_add, Nat.add_zero, Nat.reduceAdd, Nat.reduceMul, Nat.reduceSub, xf_same, xq_ff, xq_fo, xf_1, xf_2, xs_1, xs_2, xs_same, xq_so, xj_1, xj_2, xj_same, xq_jo, xq_sa1, xq_same, xq_other, upd_s, oI_n, oI_s, xv_0, xv_1, xv_2, xv_3, xm_p1, xm_p2, xq_fp, xq_fn, List.filter_nil, Nat.reduceBEq, Bool.not_true, Bool.not_false, Bool.and_true, Bool.and_false, Bool.false_and, Bool.true_and, if_true, if_false, Bool.false_eq_true, reduceIte, xc_i, xc_j, xc_r, xc_n, List.nil_append, List.cons_append, Option.toList_some, Option.toList_none, hl, xf_102_15 F1, e1, e']
          refine xm_go_wk (by simp [Value.category]) (ih (i + 1) 1 (by omega) (by decide) ⟨fun _ => ⟨hg'.1, fun q hq => ?_⟩, fun _ => rfl⟩)
          by_cases z : q = i
          · rw [z]; exact e
          · exact hg'.2 q (by omega)
        · have e' : (L.getD i 0 = i) = False := eq_false e
          with_reducible refine xm_go_blk b_X12_isInOrder_29 k_X12_isInOrder_29 ?_
          refine by_iload_n rfl ?_
          refine by_aload_n rfl ?_
          refine by_getf cn_231 fl_12_226 (by first | exact rfl | assumption) (by decide) ?_
          simp (disch := first | exact Nat.ne_of_beq_eq_false rfl | exact rfl | omega) only [nI_add, xa_sub, xa_mul, pk_div, nm_mod, xa_shr, xa_and7, xa_and1, xa_and255, xa_by_and, nI_m1, Nat.add_sub_cancel, Nat.reducePow, Nat.zero_add, Nat.add_zero, Nat.reduceAdd, Nat.reduceMul, Nat.reduceSub, xf_same, xq_ff, xq_fo, xf_1, xf_2, xs_1, xs_2, xs_same, xq_so, xj_1, xj_2, xj_same, xq_jo, xq_sa1, xq_same, xq_other, upd_s, oI_n, oI_s, hl, xf_102_15 F1, e1, e']
          refine by_ic_ge 63 rfl ?_
          simp (disch := first | exact Nat.ne_of_beq_eq_false rfl | exact rfl | omega) only [nI_add, xa_sub, xa_mul, pk_div, nm_mod, xa_shr, xa_and7, xa_and1, xa_and255, xa_by_and, nI_m1, Nat.add_sub_cancel, Nat.reducePow, Nat.zero_add, Nat.add_zero, Nat.reduceAdd, Nat.reduceMul, Nat.reduceSub, xf_same, xq_ff, xq_fo, xf_1, xf_2, xs_1, xs_2, xs_same, xq_so, xj_1, xj_2, xj_same, xq_jo, xq_sa1, xq_same, xq_other, upd_s, oI_n, oI_s, xv_0, xv_1, xv_2, xv_3, xm_p1, xm_p2, xq_fp, xq_fn, List.filter_nil, Nat.reduceBEq, Bool.not_true, Bool.not_false, Bool.and_true, Bool.and_false, Bool.false_and, Bool.true_and, if_true, if_false, Bool.false_eq_true, reduceIte, xc_i, xc_j, xc_r, xc_n, List.nil_append, List.cons_append, Option.toList_some, Option.toList_none, nI_ltJ, nI_leJ, nI_eqJ, nI_ltz, nI_gez, nI_gtz, nI_lez, nI_eqz, m1_ltz, m1_gez, true_imp_iff, false_imp_iff, true_and, and_true, ne_eq, not_false_eq_true, not_true_eq_false, Nat.reduceEqDiff, Nat.reduceLT, Nat.reduceLeDiff, hl, xf_102_15 F1, e1, e']
          refine ⟨fun c => absurd c (by omega), fun c29 => ?_⟩
          with_reducible refine xm_go_blk b_X12_isInOrder_37 k_X12_isInOrder_37 ?_
          refine by_iload_n rfl ?_
          refine by_if_eq 55 rfl ?_
          simp (disch := first | exact Nat.ne_of_beq_eq_false rfl | exact rfl | omega) only [nI_add, xa_sub, xa_mul, pk_div, nm_mod, xa_shr, xa_and7, xa_and1, xa_and255, xa_by_and, nI_m1, Nat.add_sub_cancel, Nat.reducePow, Nat.zero_add, Nat.add_zero, Nat.reduceAdd, Nat.reduceMul, Nat.reduceSub, xf_same, xq_ff, xq_fo, xf_1, xf_2, xs_1, xs_2, xs_same, xq_so, xj_1, xj_2, xj_same, xq_jo, xq_sa1, xq_same, xq_other, upd_s, oI_n, oI_s, xv_0, xv_1, xv_2, xv_3, xm_p1, xm_p2, xq_fp, xq_fn, List.filter_nil, Nat.reduceBEq, Bool.not_true, Bool.not_false, Bool.and_true, Bool.and_false, Bool.false_and, Bool.true_and, if_true, if_false, Bool.false_eq_true, reduceIte, xc_i, xc_j, xc_r, xc_n, List.nil_append, List.cons_append, Option.toList_some, Option.toList_none, nI_ltJ, nI_leJ, nI_eqJ, nI_ltz, nI_gez, nI_gtz, nI_lez, nI_eqz, m1_ltz, m1_gez, true_imp_iff, false_imp_iff, true_and, and_true, ne_eq, not_false_eq_true, not_true_eq_false, Nat.reduceEqDiff, Nat.reduceLT, Nat.reduceLeDiff, hl, xf_102_15 F1, e1, e']
          with_reducible refine xm_go_blk b_X12_isInOrder_41 k_X12_isInOrder_41 ?_
          refine by_aload_n rfl ?_
          refine by_getf cn_231 fl_12_40 (by first | exact rfl | assumption) (by decide) ?_
          refine by_iload_n rfl ?_
          simp (disch := first | exact Nat.ne_of_beq_eq_false rfl | exact rfl | omega) only [nI_add, xa_sub, xa_mul, pk_div, nm_mod, xa_shr, xa_and7, xa_and1, xa_and255, xa_by_and, nI_m1, Nat.add_sub_cancel, Nat.reducePow, Nat.zero_add, Nat.add_zero, Nat.reduceAdd, Nat.reduceMul, Nat.reduceSub, xf_same, xq_ff, xq_fo, xf_1, xf_2, xs_1, xs_2, xs_same, xq_so, xj_1, xj_2, xj_same, xq_jo, xq_sa1, xq_same, xq_other, upd_s, oI_n, oI_s, hl, xf_102_15 F1, e1, e']
          first | refine by_iald (by first | exact rfl | assumption | exact ps_1 hpp | exact ps_2 hpp | exact ps_3 hpp | exact ps_4 hpp | exact ps_5 hpp | exact ps_6 hpp | exact ps_7 hpp | exact ps_8 hpp | exact ps_9 hpp | exact ps_10 hpp | exact ps_11 hpp | exact ps_15 hpp | exact ps_16 hpp | exact ps_17 hpp | exact ps_18 hpp | exact ps_19 hpp | exact ps_21 hpp | exact ps_22 hpp | exact ps_23 hpp | exact ps_24 hpp) ⟨by omega, by omega⟩ ?_ | refine by_tald rfl rfl ⟨by omega, by omega⟩ ?_
          refine by_iload_n rfl ?_
          refine by_ic_ne 55 rfl ?_
          simp (disch := first | exact Nat.ne_of_beq_eq_false rfl | exact rfl | omega) only [nI_add, xa_sub, xa_mul, pk_div, nm_mod, xa_shr, xa_and7, xa_and1, xa_and255, xa_by_and, nI_m1, Nat.add_sub_cancel, Nat.reducePow, Nat.zero_add, Nat.add_zero, Nat.reduceAdd, Nat.reduceMul, Nat.reduceSub, xf_same, xq_ff, xq_fo, xf_1, xf_2, xs_1, xs_2, xs_same, xq_so, xj_1, xj_2, xj_same, xq_jo, xq_sa1, xq_same, xq_other, upd_s, oI_n, oI_s, xv_0, xv_1, xv_2, xv_3, xm_p1, xm_p2, xq_fp, xq_fn, List.filter_nil, Nat.reduceBEq, Bool.not_true, Bool.not_false, Bool.and_true, Bool.and_false, Bool.false_and, Bool.true_and, if_true, if_false, Bool.false_eq_true, reduceIte, xc_i, xc_j, xc_r, xc_n, List.nil_append, List.cons_append, Option.toList_some, Option.toList_none, nI_ltJ, nI_leJ, nI_eqJ, nI_ltz, nI_gez, nI_gtz, nI_lez, nI_eqz, m1_ltz, m1_gez, true_imp_iff, false_imp_iff, true_and, and_true, ne_eq, not_false_eq_true, not_true_eq_false, Nat.reduceEqDiff, Nat.reduceLT, Nat.reduceLeDiff, hl, xf_102_15 F1, e1, e']
          with_reducible refine xm_go_blk b_X12_isInOrder_55 k_X12_isInOrder_55 ?_
          refine by_iconst ci_0 ?_
          refine by_nil ?_
          with_reducible refine xm_go_blk b_X12_isInOrder_56 k_X12_isInOrder_56 ?_
          refine by_istore_n (by rw [ml_231]; decide) ?_
          refine by_iinc (by rw [ml_231]; decide) rfl ci_1 ?_
          refine by_goto 29 rfl ?_
          simp (disch := first | exact Nat.ne_of_beq_eq_false rfl | exact rfl | omega) only [nI_add, xa_sub, xa_mul, pk_div, nm_mod, xa_shr, xa_and7, xa_and1, xa_and255, xa_by_and, nI_m1, Nat.add_sub_cancel, Nat.reducePow, Nat.zero_add, Nat.add_zero, Nat.reduceAdd, Nat.reduceMul, Nat.reduceSub, xf_same, xq_ff, xq_fo, xf_1, xf_2, xs_1, xs_2, xs_same, xq_so, xj_1, xj_2, xj_same, xq_jo, xq_sa1, xq_same, xq_other, upd_s, oI_n, oI_s, xv_0, xv_1, xv_2, xv_3, xm_p1, xm_p2, xq_fp, xq_fn, List.filter_nil, Nat.reduceBEq, Bool.not_true, Bool.not_false, Bool.and_true, Bool.and_false, Bool.false_and, Bool.true_and, if_true, if_false, Bool.false_eq_true, reduceIte, xc_i, xc_j, xc_r, xc_n, List.nil_append, List.cons_append, Option.toList_some, Option.toList_none, hl, xf_102_15 F1, e1, e']
          exact xm_go_wk (by simp [Value.category]) (ih (i + 1) 0 (by omega) (by decide) ⟨fun z => absurd z (by decide), fun z => absurd (z.2 i (by omega)) e⟩)
  by_cases e : L.length = N
  · have e' : (L.length = N) = True := eq_true e
    with_reducible refine xm_go_blk b_X12_isInOrder_10 k_X12_isInOrder_10 ?_
    refine by_aload_n rfl ?_
    refine by_getf cn_231 fl_12_226 (by first | exact rfl | assumption) (by decide) ?_
    refine by_aload_n rfl ?_
    refine by_getf cn_231 fl_12_223 (by first | exact rfl | assumption) (by decide) ?_
    simp (disch := first | exact Nat.ne_of_beq_eq_false rfl | exact rfl | omega) only [nI_add, xa_sub, xa_mul, pk_div, nm_mod, xa_shr, xa_and7, xa_and1, xa_and255, xa_by_and, nI_m1, Nat.add_sub_cancel, Nat.reducePow, Nat.zero_add, Nat.add_zero, Nat.reduceAdd, Nat.reduceMul, Nat.reduceSub, xf_same, xq_ff, xq_fo, xf_1, xf_2, xs_1, xs_2, xs_same, xq_so, xj_1, xj_2, xj_same, xq_jo, xq_sa1, xq_same, xq_other, upd_s, oI_n, oI_s, hl, hm1, e']
    refine by_ic_ne 25 rfl ?_
    simp (disch := first | exact Nat.ne_of_beq_eq_false rfl | exact rfl | omega) only [nI_add, xa_sub, xa_mul, pk_div, nm_mod, xa_shr, xa_and7, xa_and1, xa_and255, xa_by_and, nI_m1, Nat.add_sub_cancel, Nat.reducePow, Nat.zero_add, Nat.add_zero, Nat.reduceAdd, Nat.reduceMul, Nat.reduceSub, xf_same, xq_ff, xq_fo, xf_1, xf_2, xs_1, xs_2, xs_same, xq_so, xj_1, xj_2, xj_same, xq_jo, xq_sa1, xq_same, xq_other, upd_s, oI_n, oI_s, xv_0, xv_1, xv_2, xv_3, xm_p1, xm_p2, xq_fp, xq_fn, List.filter_nil, Nat.reduceBEq, Bool.not_true, Bool.not_false, Bool.and_true, Bool.and_false, Bool.false_and, Bool.true_and, if_true, if_false, Bool.false_eq_true, reduceIte, xc_i, xc_j, xc_r, xc_n, List.nil_append, List.cons_append, Option.toList_some, Option.toList_none, nI_ltJ, nI_leJ, nI_eqJ, nI_ltz, nI_gez, nI_gtz, nI_lez, nI_eqz, m1_ltz, m1_gez, true_imp_iff, false_imp_iff, true_and, and_true, ne_eq, not_false_eq_true, not_true_eq_false, Nat.reduceEqDiff, Nat.reduceLT, Nat.reduceLeDiff, hl, hm1, e']
    with_reducible refine xm_go_blk b_X12_isInOrder_21 k_X12_isInOrder_21 ?_
    refine by_iconst ci_1 ?_
    refine by_goto 26 rfl ?_
    with_reducible refine xm_go_blk b_X12_isInOrder_26 k_X12_isInOrder_26 ?_
    refine by_istore_n (by rw [ml_231]; decide) ?_
    refine by_iconst ci_0 ?_
    refine by_istore_n (by rw [ml_231]; decide) ?_
    refine by_nil ?_
    simp (disch := first | exact Nat.ne_of_beq_eq_false rfl | exact rfl | omega) only [nI_add, xa_sub, xa_mul, pk_div, nm_mod, xa_shr, xa_and7, xa_and1, xa_and255, xa_by_and, nI_m1, Nat.add_sub_cancel, Nat.reducePow, Nat.zero_add, Nat.add_zero, Nat.reduceAdd, Nat.reduceMul, Nat.reduceSub, xf_same, xq_ff, xq_fo, xf_1, xf_2, xs_1, xs_2, xs_same, xq_so, xj_1, xj_2, xj_same, xq_jo, xq_sa1, xq_same, xq_other, upd_s, oI_n, oI_s, xv_0, xv_1, xv_2, xv_3, xm_p1, xm_p2, xq_fp, xq_fn, List.filter_nil, Nat.reduceBEq, Bool.not_true, Bool.not_false, Bool.and_true, Bool.and_false, Bool.false_and, Bool.true_and, if_true, if_false, Bool.false_eq_true, reduceIte, xc_i, xc_j, xc_r, xc_n, List.nil_append, List.cons_append, Option.toList_some, Option.toList_none, hl, hm1, e']
    exact xm_go_wk (by simp [Value.category]) (key L.length 0 1 (by omega) (by decide) ⟨fun _ => ⟨e, fun q hq => absurd hq (by omega)⟩, fun _ => rfl⟩)
  · have e' : (L.length = N) = False := eq_false e
    with_reducible refine xm_go_blk b_X12_isInOrder_10 k_X12_isInOrder_10 ?_
    refine by_aload_n rfl ?_
    refine by_getf cn_231 fl_12_226 (by first | exact rfl | assumption) (by decide) ?_
    refine by_aload_n rfl ?_
    refine by_getf cn_231 fl_12_223 (by first | exact rfl | assumption) (by decide) ?_
    simp (disch := first | exact Nat.ne_of_beq_eq_false rfl | exact rfl | omega) only [nI_add, xa_sub, xa_mul, pk_div, nm_mod, xa_shr, xa_and7, xa_and1, xa_and255, xa_by_and, nI_m1, Nat.add_sub_cancel, Nat.reducePow, Nat.zero_add, Nat.add_zero, Nat.reduceAdd, Nat.reduceMul, Nat.reduceSub, xf_same, xq_ff, xq_fo, xf_1, xf_2, xs_1, xs_2, xs_same, xq_so, xj_1, xj_2, xj_same, xq_jo, xq_sa1, xq_same, xq_other, upd_s, oI_n, oI_s, hl, hm1, e']
    refine by_ic_ne 25 rfl ?_
    simp (disch := first | exact Nat.ne_of_beq_eq_false rfl | exact rfl | omega) only [nI_add, xa_sub, xa_mul, pk_div, nm_mod, xa_shr, xa_and7, xa_and1, xa_and255, xa_by_and, nI_m1, Nat.add_sub_cancel, Nat.reducePow, Nat.zero_add, Nat.add_zero, Nat.reduceAdd, Nat.reduceMul, Nat.reduceSub, xf_same, xq_ff, xq_fo, xf_1, xf_2, xs_1, xs_2, xs_same, xq_so, xj_1, xj_2, xj_same, xq_jo, xq_sa1, xq_same, xq_other, upd_s, oI_n, oI_s, xv_0, xv_1, xv_2, xv_3, xm_p1, xm_p2, xq_fp, xq_fn, List.filter_nil, Nat.reduceBEq, Bool.not_true, Bool.not_false, Bool.and_true, Bool.and_false, Bool.false_and, Bool.true_and, if_true, if_false, Bool.false_eq_true, reduceIte, xc_i, xc_j, xc_r, xc_n, List.nil_append, List.cons_append, Option.toList_some, Option.toList_none, nI_ltJ, nI_leJ, nI_eqJ, nI_ltz, nI_gez, nI_gtz, nI_lez, nI_eqz, m1_ltz, m1_gez, true_imp_iff, false_imp_iff, true_and, and_true, ne_eq, not_false_eq_true, not_true_eq_false, Nat.reduceEqDiff, Nat.reduceLT, Nat.reduceLeDiff, hl, hm1, e']
    with_reducible refine xm_go_blk b_X12_isInOrder_25 k_X12_isInOrder_25 ?_
    refine by_iconst ci_0 ?_
    refine by_nil ?_
    with_reducible refine xm_go_blk b_X12_isInOrder_26 k_X12_isInOrder_26 ?_
    refine by_istore_n (by rw [ml_231]; decide) ?_
    refine by_iconst ci_0 ?_
    refine by_istore_n (by rw [ml_231]; decide) ?_
    refine by_nil ?_
    simp (disch := first | exact Nat.ne_of_beq_eq_false rfl | exact rfl | omega) only [nI_add, xa_sub, xa_mul, pk_div, nm_mod, xa_shr, xa_and7, xa_and1, xa_and255, xa_by_and, nI_m1, Nat.add_sub_cancel, Nat.reducePow, Nat.zero_add, Nat.add_zero, Nat.reduceAdd, Nat.reduceMul, Nat.reduceSub, xf_same, xq_ff, xq_fo, xf_1, xf_2, xs_1, xs_2, xs_same, xq_so, xj_1, xj_2, xj_same, xq_jo, xq_sa1, xq_same, xq_other, upd_s, oI_n, oI_s, xv_0, xv_1, xv_2, xv_3, xm_p1, xm_p2, xq_fp, xq_fn, List.filter_nil, Nat.reduceBEq, Bool.not_true, Bool.not_false, Bool.and_true, Bool.and_false, Bool.false_and, Bool.true_and, if_true, if_false, Bool.false_eq_true, reduceIte, xc_i, xc_j, xc_r, xc_n, List.nil_append, List.cons_append, Option.toList_some, Option.toList_none, hl, hm1, e']
    exact xm_go_wk (by simp [Value.category]) (key L.length 0 0 (by omega) (by decide) ⟨fun z => absurd z (by decide), fun z => absurd z.1 e⟩)
/-- one node: its two children -/
theorem wh_27 {g i : Nat} {x : Int32} (hF : XF h) (hN : N ≤ 2000) (hn : n < N) (hc : chM h N cd c1 c2) (hcN : df_cN c1 c2 N) (ho : ndO cd c1 c2 N)
    (hgo : xm_go (XE sc) (xm_T (XE sc) (d + 1)) 238 post 101 [(5, .int (nI (hid cd (c1 n)).toNat)), (4, .int (nI n)), (0, .ref 102), (1, .int x), (2, .int (nI g)), (3, .int (nI i))] [.int (nI (hid cd (c2 n)).toNat)] h) :
    xm_go (XE sc) (xm_T (XE sc) (d + 1)) 238 post 67 [(4, .int (nI n)), (0, .ref 102), (1, .int x), (2, .int (nI g)), (3, .int (nI i))] [.int (nI (hid cd (c1 n)).toNat)] h := by
  obtain ⟨a1, a2, a3, a4, a5, a6⟩ := hc n hn
  with_reducible refine xm_go_blk b_X12_isWronglyHidden_67 k_X12_isWronglyHidden_67 ?_
  refine by_istore (by rw [ml_238]; decide) ?_
  refine by_aload_n rfl ?_
  refine by_iload rfl ?_
  refine by_iconst ci_1 ?_
  simp (disch := first | exact Nat.ne_of_beq_eq_false rfl | exact rfl | omega) only [nI_add, xa_sub, xa_mul, pk_div, nm_mod, xa_shr, xa_and7, xa_and1, xa_and255, xa_by_and, nI_m1, Nat.add_sub_cancel, Nat.reducePow, Nat.zero_add, Nat.add_zero, Nat.reduceAdd, Nat.reduceMul, Nat.reduceSub, xf_same, xq_ff, xq_fo, xf_1, xf_2, xs_1, xs_2, xs_same, xq_so, xj_1, xj_2, xj_same, xq_jo, xq_sa1, xq_same, xq_other, upd_s, oI_n, oI_s, xv_0, xv_1, xv_2, xv_3, xm_p1, xm_p2, xq_fp, xq_fn, List.filter_nil, Nat.reduceBEq, Bool.not_true, Bool.not_false, Bool.and_true, Bool.and_false, Bool.false_and, Bool.true_and, if_true, if_false, Bool.false_eq_true, reduceIte, xc_i, xc_j, xc_r, xc_n, List.nil_append, List.cons_append, Option.toList_some, Option.toList_none]
  refine by_inv2 cn_238 lk_12_229 (by rw [xe_cnt]; decide) is_214 np_214 cn_214 (by first | exact rfl | assumption) (Nat.le_of_ble_eq_true rfl) ?_
  refine sp_childOf hF hc hN hn (by decide) ?_
  cases e : c2 n with
  | none =>
    rw [e] at hgo
    have : oI (chW c1 c2 n 1) = -1 := by simp [chW, e, oI]
    rw [this]
    with_reducible refine xm_go_blk b_X12_isWronglyHidden_76 k_X12_isWronglyHidden_76 ?_
    refine by_if_lt 100 rfl ?_
    simp (disch := first | exact Nat.ne_of_beq_eq_false rfl | exact rfl | omega) only [nI_add, xa_sub, xa_mul, pk_div, nm_mod, xa_shr, xa_and7, xa_and1, xa_and255, xa_by_and, nI_m1, Nat.add_sub_cancel, Nat.reducePow, Nat.zero_add, Nat.add_zero, Nat.reduceAdd, Nat.reduceMul, Nat.reduceSub, xf_same, xq_ff, xq_fo, xf_1, xf_2, xs_1, xs_2, xs_same, xq_so, xj_1, xj_2, xj_same, xq_jo, xq_sa1, xq_same, xq_other, upd_s, oI_n, oI_s, xv_0, xv_1, xv_2, xv_3, xm_p1, xm_p2, xq_fp, xq_fn, List.filter_nil, Nat.reduceBEq, Bool.not_true, Bool.not_false, Bool.and_true, Bool.and_false, Bool.false_and, Bool.true_and, if_true, if_false, Bool.false_eq_true, reduceIte, xc_i, xc_j, xc_r, xc_n, List.nil_append, List.cons_append, Option.toList_some, Option.toList_none, nI_ltJ, nI_leJ, nI_eqJ, nI_ltz, nI_gez, nI_gtz, nI_lez, nI_eqz, m1_ltz, m1_gez, true_imp_iff, false_imp_iff, true_and, and_true, ne_eq, not_false_eq_true, not_true_eq_false, Nat.reduceEqDiff, Nat.reduceLT, Nat.reduceLeDiff, m1_ltz]
    with_reducible refine xm_go_blk b_X12_isWronglyHidden_100 k_X12_isWronglyHidden_100 ?_
    refine by_iconst ci_0 ?_
    refine by_nil ?_
    exact xm_go_wk (by simp [Value.category]) hgo
  | some y =>
    rw [e] at hgo
    have : oI (chW c1 c2 n 1) = nI y := by simp [chW, e, oI]
    rw [this]
    have hy := hcN n hn y (Or.inr e)
    have a5' : h.1 107 n = nI y := by rw [a5 ((ho n hn).2.mpr (by rw [e]; rfl)), e]; rfl
    obtain ⟨y1, y2, _⟩ := hc y hy
    by_cases q : cd y = 11
    · have hq : hid cd (some y) = true := by simp [hid, q]
      rw [hq] at hgo
      rw [q] at y1
      with_reducible refine xm_go_blk b_X12_isWronglyHidden_76 k_X12_isWronglyHidden_76 ?_
      refine by_if_lt 100 rfl ?_
      simp (disch := first | exact Nat.ne_of_beq_eq_false rfl | exact rfl | omega) only [nI_add, xa_sub, xa_mul, pk_div, nm_mod, xa_shr, xa_and7, xa_and1, xa_and255, xa_by_and, nI_m1, Nat.add_sub_cancel, Nat.reducePow, Nat.zero_add, Nat.add_zero, Nat.reduceAdd, Nat.reduceMul, Nat.reduceSub, xf_same, xq_ff, xq_fo, xf_1, xf_2, xs_1, xs_2, xs_same, xq_so, xj_1, xj_2, xj_same, xq_jo, xq_sa1, xq_same, xq_other, upd_s, oI_n, oI_s, xv_0, xv_1, xv_2, xv_3, xm_p1, xm_p2, xq_fp, xq_fn, List.filter_nil, Nat.reduceBEq, Bool.not_true, Bool.not_false, Bool.and_true, Bool.and_false, Bool.false_and, Bool.true_and, if_true, if_false, Bool.false_eq_true, reduceIte, xc_i, xc_j, xc_r, xc_n, List.nil_append, List.cons_append, Option.toList_some, Option.toList_none, nI_ltJ, nI_leJ, nI_eqJ, nI_ltz, nI_gez, nI_gtz, nI_lez, nI_eqz, m1_ltz, m1_gez, true_imp_iff, false_imp_iff, true_and, and_true, ne_eq, not_false_eq_true, not_true_eq_false, Nat.reduceEqDiff, Nat.reduceLT, Nat.reduceLeDiff, xf_102_6 hF, xf_102_8 hF, a5', y1]
      with_reducible refine xm_go_blk b_X12_isWronglyHidden_79 k_X12_isWronglyHidden_79 ?_
      refine by_aload_n rfl ?_
      refine by_getf cn_238 fl_12_16 (by first | exact rfl | assumption) (by decide) ?_
      refine by_aload_n rfl ?_
      refine by_getf cn_238 fl_12_22 (by first | exact rfl | assumption) (by decide) ?_
      refine by_iload rfl ?_
      simp (disch := first | exact Nat.ne_of_beq_eq_false rfl | exact rfl | omega) only [nI_add, xa_sub, xa_mul, pk_div, nm_mod, xa_shr, xa_and7, xa_and1, xa_and255, xa_by_and, nI_m1, Nat.add_sub_cancel, Nat.reducePow, Nat.zero_add, Nat.add_zero, Nat.reduceAdd, Nat.reduceMul, Nat.reduceSub, xf_same, xq_ff, xq_fo, xf_1, xf_2, xs_1, xs_2, xs_same, xq_so, xj_1, xj_2, xj_same, xq_jo, xq_sa1, xq_same, xq_other, upd_s, oI_n, oI_s, xf_102_6 hF, xf_102_8 hF, a5', y1]
      first | refine by_iald (by first | exact rfl | assumption | exact ps_1 hpp | exact ps_2 hpp | exact ps_3 hpp | exact ps_4 hpp | exact ps_5 hpp | exact ps_6 hpp | exact ps_7 hpp | exact ps_8 hpp | exact ps_9 hpp | exact ps_10 hpp | exact ps_11 hpp | exact ps_15 hpp | exact ps_16 hpp | exact ps_17 hpp | exact ps_18 hpp | exact ps_19 hpp | exact ps_21 hpp | exact ps_22 hpp | exact ps_23 hpp | exact ps_24 hpp) ⟨by omega, by omega⟩ ?_ | refine by_tald rfl rfl ⟨by omega, by omega⟩ ?_
      simp (disch := first | exact Nat.ne_of_beq_eq_false rfl | exact rfl | omega) only [nI_add, xa_sub, xa_mul, pk_div, nm_mod, xa_shr, xa_and7, xa_and1, xa_and255, xa_by_and, nI_m1, Nat.add_sub_cancel, Nat.reducePow, Nat.zero_add, Nat.add_zero, Nat.reduceAdd, Nat.reduceMul, Nat.reduceSub, xf_same, xq_ff, xq_fo, xf_1, xf_2, xs_1, xs_2, xs_same, xq_so, xj_1, xj_2, xj_same, xq_jo, xq_sa1, xq_same, xq_other, upd_s, oI_n, oI_s, xf_102_6 hF, xf_102_8 hF, a5', y1]
      first | refine by_iald (by first | exact rfl | assumption | exact ps_1 hpp | exact ps_2 hpp | exact ps_3 hpp | exact ps_4 hpp | exact ps_5 hpp | exact ps_6 hpp | exact ps_7 hpp | exact ps_8 hpp | exact ps_9 hpp | exact ps_10 hpp | exact ps_11 hpp | exact ps_15 hpp | exact ps_16 hpp | exact ps_17 hpp | exact ps_18 hpp | exact ps_19 hpp | exact ps_21 hpp | exact ps_22 hpp | exact ps_23 hpp | exact ps_24 hpp) ⟨by omega, by omega⟩ ?_ | refine by_tald rfl rfl ⟨by omega, by omega⟩ ?_
      refine by_bipush cb_11 ?_
      refine by_ic_ne 100 rfl ?_
      simp (disch := first | exact Nat.ne_of_beq_eq_false rfl | exact rfl | omega) only [nI_add, xa_sub, xa_mul, pk_div, nm_mod, xa_shr, xa_and7, xa_and1, xa_and255, xa_by_and, nI_m1, Nat.add_sub_cancel, Nat.reducePow, Nat.zero_add, Nat.add_zero, Nat.reduceAdd, Nat.reduceMul, Nat.reduceSub, xf_same, xq_ff, xq_fo, xf_1, xf_2, xs_1, xs_2, xs_same, xq_so, xj_1, xj_2, xj_same, xq_jo, xq_sa1, xq_same, xq_other, upd_s, oI_n, oI_s, xv_0, xv_1, xv_2, xv_3, xm_p1, xm_p2, xq_fp, xq_fn, List.filter_nil, Nat.reduceBEq, Bool.not_true, Bool.not_false, Bool.and_true, Bool.and_false, Bool.false_and, Bool.true_and, if_true, if_false, Bool.false_eq_true, reduceIte, xc_i, xc_j, xc_r, xc_n, List.nil_append, List.cons_append, Option.toList_some, Option.toList_none, nI_ltJ, nI_leJ, nI_eqJ, nI_ltz, nI_gez, nI_gtz, nI_lez, nI_eqz, m1_ltz, m1_gez, true_imp_iff, false_imp_iff, true_and, and_true, ne_eq, not_false_eq_true, not_true_eq_false, Nat.reduceEqDiff, Nat.reduceLT, Nat.reduceLeDiff, xf_102_6 hF, xf_102_8 hF, a5', y1]
      with_reducible refine xm_go_blk b_X12_isWronglyHidden_96 k_X12_isWronglyHidden_96 ?_
      refine by_iconst ci_1 ?_
      refine by_goto 101 rfl ?_
      exact xm_go_wk (by simp [Value.category]) hgo
    · have hq : hid cd (some y) = false := by simp [hid, q]
      rw [hq] at hgo
      have q' : (cd y = 11) = False := eq_false q
      with_reducible refine xm_go_blk b_X12_isWronglyHidden_76 k_X12_isWronglyHidden_76 ?_
      refine by_if_lt 100 rfl ?_
      simp (disch := first | exact Nat.ne_of_beq_eq_false rfl | exact rfl | omega) only [nI_add, xa_sub, xa_mul, pk_div, nm_mod, xa_shr, xa_and7, xa_and1, xa_and255, xa_by_and, nI_m1, Nat.add_sub_cancel, Nat.reducePow, Nat.zero_add, Nat.add_zero, Nat.reduceAdd, Nat.reduceMul, Nat.reduceSub, xf_same, xq_ff, xq_fo, xf_1, xf_2, xs_1, xs_2, xs_same, xq_so, xj_1, xj_2, xj_same, xq_jo, xq_sa1, xq_same, xq_other, upd_s, oI_n, oI_s, xv_0, xv_1, xv_2, xv_3, xm_p1, xm_p2, xq_fp, xq_fn, List.filter_nil, Nat.reduceBEq, Bool.not_true, Bool.not_false, Bool.and_true, Bool.and_false, Bool.false_and, Bool.true_and, if_true, if_false, Bool.false_eq_true, reduceIte, xc_i, xc_j, xc_r, xc_n, List.nil_append, List.cons_append, Option.toList_some, Option.toList_none, nI_ltJ, nI_leJ, nI_eqJ, nI_ltz, nI_gez, nI_gtz, nI_lez, nI_eqz, m1_ltz, m1_gez, true_imp_iff, false_imp_iff, true_and, and_true, ne_eq, not_false_eq_true, not_true_eq_false, Nat.reduceEqDiff, Nat.reduceLT, Nat.reduceLeDiff, xf_102_6 hF, xf_102_8 hF, a5', y1, q']
      with_reducible refine xm_go_blk b_X12_isWronglyHidden_79 k_X12_isWronglyHidden_79 ?_
      refine by_aload_n rfl ?_
      refine by_getf cn_238 fl_12_16 (by first | exact rfl | assumption) (by decide) ?_
      refine by_aload_n rfl ?_
      refine by_getf cn_238 fl_12_22 (by first | exact rfl | assumption) (by decide) ?_
      refine by_iload rfl ?_
      simp (disch := first | exact Nat.ne_of_beq_eq_false rfl | exact rfl | omega) only [nI_add, xa_sub, xa_mul, pk_div, nm_mod, xa_shr, xa_and7, xa_and1, xa_and255, xa_by_and, nI_m1, Nat.add_sub_cancel, Nat.reducePow, Nat.zero_add, Nat.add_zero, Nat.reduceAdd, Nat.reduceMul, Nat.reduceSub, xf_same, xq_ff, xq_fo, xf_1, xf_2, xs_1, xs_2, xs_same, xq_so, xj_1, xj_2, xj_same, xq_jo, xq_sa1, xq_same, xq_other, upd_s, oI_n, oI_s, xf_102_6 hF, xf_102_8 hF, a5', y1, q']
      first | refine by_iald (by first | exact rfl | assumption | exact ps_1 hpp | exact ps_2 hpp | exact ps_3 hpp | exact ps_4 hpp | exact ps_5 hpp | exact ps_6 hpp | exact ps_7 hpp | exact ps_8 hpp | exact ps_9 hpp | exact ps_10 hpp | exact ps_11 hpp | exact ps_15 hpp | exact ps_16 hpp | exact ps_17 hpp | exact ps_18 hpp | exact ps_19 hpp | exact ps_21 hpp | exact ps_22 hpp | exact ps_23 hpp | exact ps_24 hpp) ⟨by omega, by omega⟩ ?_ | refine by_tald rfl rfl ⟨by omega, by omega⟩ ?_
      simp (disch := first | exact Nat.ne_of_beq_eq_false rfl | exact rfl | omega) only [nI_add, xa_sub, xa_mul, pk_div, nm_mod, xa_shr, xa_and7, xa_and1, xa_and255, xa_by_and, nI_m1, Nat.add_sub_cancel, Nat.reducePow, Nat.zero_add, Nat.add_zero, Nat.reduceAdd, Nat.reduceMul, Nat.reduceSub, xf_same, xq_ff, xq_fo, xf_1, xf_2, xs_1, xs_2, xs_same, xq_so, xj_1, xj_2, xj_same, xq_jo, xq_sa1, xq_same, xq_other, upd_s, oI_n, oI_s, xf_102_6 hF, xf_102_8 hF, a5', y1, q']
      first | refine by_iald (by first | exact rfl | assumption | exact ps_1 hpp | exact ps_2 hpp | exact ps_3 hpp | exact ps_4 hpp | exact ps_5 hpp | exact ps_6 hpp | exact ps_7 hpp | exact ps_8 hpp | exact ps_9 hpp | exact ps_10 hpp | exact ps_11 hpp | exact ps_15 hpp | exact ps_16 hpp | exact ps_17 hpp | exact ps_18 hpp | exact ps_19 hpp | exact ps_21 hpp | exact ps_22 hpp | exact ps_23 hpp | exact ps_24 hpp) ⟨by omega, by omega⟩ ?_ | refine by_tald rfl rfl ⟨by omega, by omega⟩ ?_
      refine by_bipush cb_11 ?_
      refine by_ic_ne 100 rfl ?_
      simp (disch := first | exact Nat.ne_of_beq_eq_false rfl | exact rfl | omega) only [nI_add, xa_sub, xa_mul, pk_div, nm_mod, xa_shr, xa_and7, xa_and1, xa_and255, xa_by_and, nI_m1, Nat.add_sub_cancel, Nat.reducePow, Nat.zero_add, Nat.add_zero, Nat.reduceAdd, Nat.reduceMul, Nat.reduceSub, xf_same, xq_ff, xq_fo, xf_1, xf_2, xs_1, xs_2, xs_same, xq_so, xj_1, xj_2, xj_same, xq_jo, xq_sa1, xq_same, xq_other, upd_s, oI_n, oI_s, xv_0, xv_1, xv_2, xv_3, xm_p1, xm_p2, xq_fp, xq_fn, List.filter_nil, Nat.reduceBEq, Bool.not_true, Bool.not_false, Bool.and_true, Bool.and_false, Bool.false_and, Bool.true_and, if_true, if_false, Bool.false_eq_true, reduceIte, xc_i, xc_j, xc_r, xc_n, List.nil_append, List.cons_append, Option.toList_some, Option.toList_none, nI_ltJ, nI_leJ, nI_eqJ, nI_ltz, nI_gez, nI_gtz, nI_lez, nI_eqz, m1_ltz, m1_gez, true_imp_iff, false_imp_iff, true_and, and_true, ne_eq, not_false_eq_true, not_true_eq_false, Nat.reduceEqDiff, Nat.reduceLT, Nat.reduceLeDiff, xf_102_6 hF, xf_102_8 hF, a5', y1, q']
      with_reducible refine xm_go_blk b_X12_isWronglyHidden_100 k_X12_isWronglyHidden_100 ?_
      refine by_iconst ci_0 ?_
      refine by_nil ?_
      exact xm_go_wk (by simp [Value.category]) hgo
theorem wh_1 {g i : Nat} {x : Int32} (hF : XF h) (hN : N ≤ 2000) (hn : n < N) (hc : chM h N cd c1 c2) (hcN : df_cN c1 c2 N) (ho : ndO cd c1 c2 N) (hl : h.2.2 102 14 = .int (nI L.length)) (hi : i < L.length) (hlen : L.length ≤ 2000) (e3 : h.1 113 i = nI n)
    (hgo : xm_go (XE sc) (xm_T (XE sc) (d + 1)) 238 post 101 [(5, .int (nI (hid cd (c1 n)).toNat)), (4, .int (nI n)), (0, .ref 102), (1, .int x), (2, .int (nI g)), (3, .int (nI i))] [.int (nI (hid cd (c2 n)).toNat)] h) :
    xm_go (XE sc) (xm_T (XE sc) (d + 1)) 238 post 19 [(0, .ref 102), (1, .int x), (2, .int (nI g)), (3, .int (nI i))] [] h := by
  have h67 := wh_27 hF hN hn hc hcN ho hgo
  obtain ⟨a1, a2, a3, a4, a5, a6⟩ := hc n hn
  with_reducible refine xm_go_blk b_X12_isWronglyHidden_19 k_X12_isWronglyHidden_19 ?_
  refine by_iload_n rfl ?_
  refine by_aload_n rfl ?_
  refine by_getf cn_238 fl_12_226 (by first | exact rfl | assumption) (by decide) ?_
  simp (disch := first | exact Nat.ne_of_beq_eq_false rfl | exact rfl | omega) only [nI_add, xa_sub, xa_mul, pk_div, nm_mod, xa_shr, xa_and7, xa_and1, xa_and255, xa_by_and, nI_m1, Nat.add_sub_cancel, Nat.reducePow, Nat.zero_add, Nat.add_zero, Nat.reduceAdd, Nat.reduceMul, Nat.reduceSub, xf_same, xq_ff, xq_fo, xf_1, xf_2, xs_1, xs_2, xs_same, xq_so, xj_1, xj_2, xj_same, xq_jo, xq_sa1, xq_same, xq_other, upd_s, oI_n, oI_s, hl, xf_102_15 hF, e3]
  refine by_ic_ge 153 rfl ?_
  simp (disch := first | exact Nat.ne_of_beq_eq_false rfl | exact rfl | omega) only [nI_add, xa_sub, xa_mul, pk_div, nm_mod, xa_shr, xa_and7, xa_and1, xa_and255, xa_by_and, nI_m1, Nat.add_sub_cancel, Nat.reducePow, Nat.zero_add, Nat.add_zero, Nat.reduceAdd, Nat.reduceMul, Nat.reduceSub, xf_same, xq_ff, xq_fo, xf_1, xf_2, xs_1, xs_2, xs_same, xq_so, xj_1, xj_2, xj_same, xq_jo, xq_sa1, xq_same, xq_other, upd_s, oI_n, oI_s, xv_0, xv_1, xv_2, xv_3, xm_p1, xm_p2, xq_fp, xq_fn, List.filter_nil, Nat.reduceBEq, Bool.not_true, Bool.not_false, Bool.and_true, Bool.and_false, Bool.false_and, Bool.true_and, if_true, if_false, Bool.false_eq_true, reduceIte, xc_i, xc_j, xc_r, xc_n, List.nil_append, List.cons_append, Option.toList_some, Option.toList_none, nI_ltJ, nI_leJ, nI_eqJ, nI_ltz, nI_gez, nI_gtz, nI_lez, nI_eqz, m1_ltz, m1_gez, true_imp_iff, false_imp_iff, true_and, and_true, ne_eq, not_false_eq_true, not_true_eq_false, Nat.reduceEqDiff, Nat.reduceLT, Nat.reduceLeDiff, hl, xf_102_15 hF, e3]
  refine ⟨fun c => absurd c (by omega), fun c19 => ?_⟩
  with_reducible refine xm_go_blk b_X12_isWronglyHidden_27 k_X12_isWronglyHidden_27 ?_
  refine by_aload_n rfl ?_
  refine by_getf cn_238 fl_12_40 (by first | exact rfl | assumption) (by decide) ?_
  refine by_iload_n rfl ?_
  simp (disch := first | exact Nat.ne_of_beq_eq_false rfl | exact rfl | omega) only [nI_add, xa_sub, xa_mul, pk_div, nm_mod, xa_shr, xa_and7, xa_and1, xa_and255, xa_by_and, nI_m1, Nat.add_sub_cancel, Nat.reducePow, Nat.zero_add, Nat.add_zero, Nat.reduceAdd, Nat.reduceMul, Nat.reduceSub, xf_same, xq_ff, xq_fo, xf_1, xf_2, xs_1, xs_2, xs_same, xq_so, xj_1, xj_2, xj_same, xq_jo, xq_sa1, xq_same, xq_other, upd_s, oI_n, oI_s, hl, xf_102_15 hF, e3]
  first | refine by_iald (by first | exact rfl | assumption | exact ps_1 hpp | exact ps_2 hpp | exact ps_3 hpp | exact ps_4 hpp | exact ps_5 hpp | exact ps_6 hpp | exact ps_7 hpp | exact ps_8 hpp | exact ps_9 hpp | exact ps_10 hpp | exact ps_11 hpp | exact ps_15 hpp | exact ps_16 hpp | exact ps_17 hpp | exact ps_18 hpp | exact ps_19 hpp | exact ps_21 hpp | exact ps_22 hpp | exact ps_23 hpp | exact ps_24 hpp) ⟨by omega, by omega⟩ ?_ | refine by_tald rfl rfl ⟨by omega, by omega⟩ ?_
  refine by_istore (by rw [ml_238]; decide) ?_
  refine by_aload_n rfl ?_
  refine by_iload rfl ?_
  refine by_iconst ci_0 ?_
  simp (disch := first | exact Nat.ne_of_beq_eq_false rfl | exact rfl | omega) only [nI_add, xa_sub, xa_mul, pk_div, nm_mod, xa_shr, xa_and7, xa_and1, xa_and255, xa_by_and, nI_m1, Nat.add_sub_cancel, Nat.reducePow, Nat.zero_add, Nat.add_zero, Nat.reduceAdd, Nat.reduceMul, Nat.reduceSub, xf_same, xq_ff, xq_fo, xf_1, xf_2, xs_1, xs_2, xs_same, xq_so, xj_1, xj_2, xj_same, xq_jo, xq_sa1, xq_same, xq_other, upd_s, oI_n, oI_s, xv_0, xv_1, xv_2, xv_3, xm_p1, xm_p2, xq_fp, xq_fn, List.filter_nil, Nat.reduceBEq, Bool.not_true, Bool.not_false, Bool.and_true, Bool.and_false, Bool.false_and, Bool.true_and, if_true, if_false, Bool.false_eq_true, reduceIte, xc_i, xc_j, xc_r, xc_n, List.nil_append, List.cons_append, Option.toList_some, Option.toList_none, hl, xf_102_15 hF, e3]
  refine by_inv2 cn_238 lk_12_229 (by rw [xe_cnt]; decide) is_214 np_214 cn_214 (by first | exact rfl | assumption) (Nat.le_of_ble_eq_true rfl) ?_
  refine sp_childOf hF hc hN hn (by decide) ?_
  cases e : c1 n with
  | none =>
    rw [e] at h67
    have : oI (chW c1 c2 n 0) = -1 := by simp [chW, e, oI]
    rw [this]
    with_reducible refine xm_go_blk b_X12_isWronglyHidden_42 k_X12_isWronglyHidden_42 ?_
    refine by_if_lt 66 rfl ?_
    simp (disch := first | exact Nat.ne_of_beq_eq_false rfl | exact rfl | omega) only [nI_add, xa_sub, xa_mul, pk_div, nm_mod, xa_shr, xa_and7, xa_and1, xa_and255, xa_by_and, nI_m1, Nat.add_sub_cancel, Nat.reducePow, Nat.zero_add, Nat.add_zero, Nat.reduceAdd, Nat.reduceMul, Nat.reduceSub, xf_same, xq_ff, xq_fo, xf_1, xf_2, xs_1, xs_2, xs_same, xq_so, xj_1, xj_2, xj_same, xq_jo, xq_sa1, xq_same, xq_other, upd_s, oI_n, oI_s, xv_0, xv_1, xv_2, xv_3, xm_p1, xm_p2, xq_fp, xq_fn, List.filter_nil, Nat.reduceBEq, Bool.not_true, Bool.not_false, Bool.and_true, Bool.and_false, Bool.false_and, Bool.true_and, if_true, if_false, Bool.false_eq_true, reduceIte, xc_i, xc_j, xc_r, xc_n, List.nil_append, List.cons_append, Option.toList_some, Option.toList_none, nI_ltJ, nI_leJ, nI_eqJ, nI_ltz, nI_gez, nI_gtz, nI_lez, nI_eqz, m1_ltz, m1_gez, true_imp_iff, false_imp_iff, true_and, and_true, ne_eq, not_false_eq_true, not_true_eq_false, Nat.reduceEqDiff, Nat.reduceLT, Nat.reduceLeDiff, m1_ltz]
    with_reducible refine xm_go_blk b_X12_isWronglyHidden_66 k_X12_isWronglyHidden_66 ?_
    refine by_iconst ci_0 ?_
    refine by_nil ?_
    exact xm_go_wk (by simp [Value.category]) h67
  | some y =>
    rw [e] at h67
    have : oI (chW c1 c2 n 0) = nI y := by simp [chW, e, oI]
    rw [this]
    have hy := hcN n hn y (Or.inl e)
    have a5' : h.1 106 n = nI y := by rw [a3 ((ho n hn).1.mpr (by rw [e]; rfl)), e]; rfl
    obtain ⟨y1, y2, _⟩ := hc y hy
    by_cases q : cd y = 11
    · have hq : hid cd (some y) = true := by simp [hid, q]
      rw [hq] at h67
      rw [q] at y1
      with_reducible refine xm_go_blk b_X12_isWronglyHidden_42 k_X12_isWronglyHidden_42 ?_
      refine by_if_lt 66 rfl ?_
      simp (disch := first | exact Nat.ne_of_beq_eq_false rfl | exact rfl | omega) only [nI_add, xa_sub, xa_mul, pk_div, nm_mod, xa_shr, xa_and7, xa_and1, xa_and255, xa_by_and, nI_m1, Nat.add_sub_cancel, Nat.reducePow, Nat.zero_add, Nat.add_zero, Nat.reduceAdd, Nat.reduceMul, Nat.reduceSub, xf_same, xq_ff, xq_fo, xf_1, xf_2, xs_1, xs_2, xs_same, xq_so, xj_1, xj_2, xj_same, xq_jo, xq_sa1, xq_same, xq_other, upd_s, oI_n, oI_s, xv_0, xv_1, xv_2, xv_3, xm_p1, xm_p2, xq_fp, xq_fn, List.filter_nil, Nat.reduceBEq, Bool.not_true, Bool.not_false, Bool.and_true, Bool.and_false, Bool.false_and, Bool.true_and, if_true, if_false, Bool.false_eq_true, reduceIte, xc_i, xc_j, xc_r, xc_n, List.nil_append, List.cons_append, Option.toList_some, Option.toList_none, nI_ltJ, nI_leJ, nI_eqJ, nI_ltz, nI_gez, nI_gtz, nI_lez, nI_eqz, m1_ltz, m1_gez, true_imp_iff, false_imp_iff, true_and, and_true, ne_eq, not_false_eq_true, not_true_eq_false, Nat.reduceEqDiff, Nat.reduceLT, Nat.reduceLeDiff, xf_102_6 hF, xf_102_7 hF, a5', y1]
      with_reducible refine xm_go_blk b_X12_isWronglyHidden_45 k_X12_isWronglyHidden_45 ?_
      refine by_aload_n rfl ?_
      refine by_getf cn_238 fl_12_16 (by first | exact rfl | assumption) (by decide) ?_
      refine by_aload_n rfl ?_
      refine by_getf cn_238 fl_12_19 (by first | exact rfl | assumption) (by decide) ?_
      refine by_iload rfl ?_
      simp (disch := first | exact Nat.ne_of_beq_eq_false rfl | exact rfl | omega) only [nI_add, xa_sub, xa_mul, pk_div, nm_mod, xa_shr, xa_and7, xa_and1, xa_and255, xa_by_and, nI_m1, Nat.add_sub_cancel, Nat.reducePow, Nat.zero_add, Nat.add_zero, Nat.reduceAdd, Nat.reduceMul, Nat.reduceSub, xf_same, xq_ff, xq_fo, xf_1, xf_2, xs_1, xs_2, xs_same, xq_so, xj_1, xj_2, xj_same, xq_jo, xq_sa1, xq_same, xq_other, upd_s, oI_n, oI_s, xf_102_6 hF, xf_102_7 hF, a5', y1]
      first | refine by_iald (by first | exact rfl | assumption | exact ps_1 hpp | exact ps_2 hpp | exact ps_3 hpp | exact ps_4 hpp | exact ps_5 hpp | exact ps_6 hpp | exact ps_7 hpp | exact ps_8 hpp | exact ps_9 hpp | exact ps_10 hpp | exact ps_11 hpp | exact ps_15 hpp | exact ps_16 hpp | exact ps_17 hpp | exact ps_18 hpp | exact ps_19 hpp | exact ps_21 hpp | exact ps_22 hpp | exact ps_23 hpp | exact ps_24 hpp) ⟨by omega, by omega⟩ ?_ | refine by_tald rfl rfl ⟨by omega, by omega⟩ ?_
      simp (disch := first | exact Nat.ne_of_beq_eq_false rfl | exact rfl | omega) only [nI_add, xa_sub, xa_mul, pk_div, nm_mod, xa_shr, xa_and7, xa_and1, xa_and255, xa_by_and, nI_m1, Nat.add_sub_cancel, Nat.reducePow, Nat.zero_add, Nat.add_zero, Nat.reduceAdd, Nat.reduceMul, Nat.reduceSub, xf_same, xq_ff, xq_fo, xf_1, xf_2, xs_1, xs_2, xs_same, xq_so, xj_1, xj_2, xj_same, xq_jo, xq_sa1, xq_same, xq_other, upd_s, oI_n, oI_s, xf_102_6 hF, xf_102_7 hF, a5', y1]
      first | refine by_iald (by first | exact rfl | assumption | exact ps_1 hpp | exact ps_2 hpp | exact ps_3 hpp | exact ps_4 hpp | exact ps_5 hpp | exact ps_6 hpp | exact ps_7 hpp | exact ps_8 hpp | exact ps_9 hpp | exact ps_10 hpp | exact ps_11 hpp | exact ps_15 hpp | exact ps_16 hpp | exact ps_17 hpp | exact ps_18 hpp | exact ps_19 hpp | exact ps_21 hpp | exact ps_22 hpp | exact ps_23 hpp | exact ps_24 hpp) ⟨by omega, by omega⟩ ?_ | refine by_tald rfl rfl ⟨by omega, by omega⟩ ?_
      refine by_bipush cb_11 ?_
      refine by_ic_ne 66 rfl ?_
      simp (disch := first | exact Nat.ne_of_beq_eq_false rfl | exact rfl | omega) only [nI_add, xa_sub, xa_mul, pk_div, nm_mod, xa_shr, xa_and7, xa_and1, xa_and255, xa_by_and, nI_m1, Nat.add_sub_cancel, Nat.reducePow, Nat.zero_add, Nat.add_zero, Nat.reduceAdd, Nat.reduceMul, Nat.reduceSub, xf_same, xq_ff, xq_fo, xf_1, xf_2, xs_1, xs_2, xs_same, xq_so, xj_1, xj_2, xj_same, xq_jo, xq_sa1, xq_same, xq_other, upd_s, oI_n, oI_s, xv_0, xv_1, xv_2, xv_3, xm_p1, xm_p2, xq_fp, xq_fn, List.filter_nil, Nat.reduceBEq, Bool.not_true, Bool.not_false, Bool.and_true, Bool.and_false, Bool.false_and, Bool.true_and, if_true, if_false, Bool.false_eq_true, reduceIte, xc_i, xc_j, xc_r, xc_n, List.nil_append, List.cons_append, Option.toList_some, Option.toList_none, nI_ltJ, nI_leJ, nI_eqJ, nI_ltz, nI_gez, nI_gtz, nI_lez, nI_eqz, m1_ltz, m1_gez, true_imp_iff, false_imp_iff, true_and, and_true, ne_eq, not_false_eq_true, not_true_eq_false, Nat.reduceEqDiff, Nat.reduceLT, Nat.reduceLeDiff, xf_102_6 hF, xf_102_7 hF, a5', y1]
      with_reducible refine xm_go_blk b_X12_isWronglyHidden_62 k_X12_isWronglyHidden_62 ?_
      refine by_iconst ci_1 ?_
      refine by_goto 67 rfl ?_
      exact xm_go_wk (by simp [Value.category]) h67
    · have hq : hid cd (some y) = false := by simp [hid, q]
      rw [hq] at h67
      have q' : (cd y = 11) = False := eq_false q
      with_reducible refine xm_go_blk b_X12_isWronglyHidden_42 k_X12_isWronglyHidden_42 ?_
      refine by_if_lt 66 rfl ?_
      simp (disch := first | exact Nat.ne_of_beq_eq_false rfl | exact rfl | omega) only [nI_add, xa_sub, xa_mul, pk_div, nm_mod, xa_shr, xa_and7, xa_and1, xa_and255, xa_by_and, nI_m1, Nat.add_sub_cancel, Nat.reducePow, Nat.zero_add, Nat.add_zero, Nat.reduceAdd, Nat.reduceMul, Nat.reduceSub, xf_same, xq_ff, xq_fo, xf_1, xf_2, xs_1, xs_2, xs_same, xq_so, xj_1, xj_2, xj_same, xq_jo, xq_sa1, xq_same, xq_other, upd_s, oI_n, oI_s, xv_0, xv_1, xv_2, xv_3, xm_p1, xm_p2, xq_fp, xq_fn, List.filter_nil, Nat.reduceBEq, Bool.not_true, Bool.not_false, Bool.and_true, Bool.and_false, Bool.false_and, Bool.true_and, if_true, if_false, Bool.false_eq_true, reduceIte, xc_i, xc_j, xc_r, xc_n, List.nil_append, List.cons_append, Option.toList_some, Option.toList_none, nI_ltJ, nI_leJ, nI_eqJ, nI_ltz, nI_gez, nI_gtz, nI_lez, nI_eqz, m1_ltz, m1_gez, true_imp_iff, false_imp_iff, true_and, and_true, ne_eq, not_false_eq_true, not_true_eq_false, Nat.reduceEqDiff, Nat.reduceLT, Nat.reduceLeDiff, xf_102_6 hF, xf_102_7 hF, a5', y1, q']
      with_reducible refine xm_go_blk b_X12_isWronglyHidden_45 k_X12_isWronglyHidden_45 ?_
      refine by_aload_n rfl ?_
      refine by_getf cn_238 fl_12_16 (by first | exact rfl | assumption) (by decide) ?_
      refine by_aload_n rfl ?_
      refine by_getf cn_238 fl_12_19 (by first | exact rfl | assumption) (by decide) ?_
      refine by_iload rfl ?_
      simp (disch := first | exact Nat.ne_of_beq_eq_false rfl | exact rfl | omega) only [nI_add, xa_sub, xa_mul, pk_div, nm_mod, xa_shr, xa_and7, xa_and1, xa_and255, xa_by_and, nI_m1, Nat.add_sub_cancel, Nat.reducePow, Nat.zero_add, Nat.add_zero, Nat.reduceAdd, Nat.reduceMul, Nat.reduceSub, xf_same, xq_ff, xq_fo, xf_1, xf_2, xs_1, xs_2, xs_same, xq_so, xj_1, xj_2, xj_same, xq_jo, xq_sa1, xq_same, xq_other, upd_s, oI_n, oI_s, xf_102_6 hF, xf_102_7 hF, a5', y1, q']
      first | refine by_iald (by first | exact rfl | assumption | exact ps_1 hpp | exact ps_2 hpp | exact ps_3 hpp | exact ps_4 hpp | exact ps_5 hpp | exact ps_6 hpp | exact ps_7 hpp | exact ps_8 hpp | exact ps_9 hpp | exact ps_10 hpp | exact ps_11 hpp | exact ps_15 hpp | exact ps_16 hpp | exact ps_17 hpp | exact ps_18 hpp | exact ps_19 hpp | exact ps_21 hpp | exact ps_22 hpp | exact ps_23 hpp | exact ps_24 hpp) ⟨by omega, by omega⟩ ?_ | refine by_tald rfl rfl ⟨by omega, by omega⟩ ?_
      simp (disch := first | exact Nat.ne_of_beq_eq_false rfl | exact rfl | omega) only [nI_add, xa_sub, xa_mul, pk_div, nm_mod, xa_shr, xa_and7, xa_and1, xa_and255, xa_by_and, nI_m1, Nat.add_sub_cancel, Nat.reducePow, Nat.zero_add, Nat.add_zero, Nat.reduceAdd, Nat.reduceMul, Nat.reduceSub, xf_same, xq_ff, xq_fo, xf_1, xf_2, xs_1, xs_2, xs_same, xq_so, xj_1, xj_2, xj_same, xq_jo, xq_sa1, xq_same, xq_other, upd_s, oI_n, oI_s, xf_102_6 hF, xf_102_7 hF, a5', y1, q']
      first | refine by_iald (by first | exact rfl | assumption | exact ps_1 hpp | exact ps_2 hpp | exact ps_3 hpp | exact ps_4 hpp | exact ps_5 hpp | exact ps_6 hpp | exact ps_7 hpp | exact ps_8 hpp | exact ps_9 hpp | exact ps_10 hpp | exact ps_11 hpp | exact ps_15 hpp | exact ps_16 hpp | exact ps_17 hpp | exact ps_18 hpp | exact ps_19 hpp | exact ps_21 hpp | exact ps_22 hpp | exact ps_23 hpp | exact ps_24 hpp) ⟨by omega, by omega⟩ ?_ | refine by_tald rfl rfl ⟨by omega, by omega⟩ ?_
      refine by_bipush cb_11 ?_
      refine by_ic_ne 66 rfl ?_
      simp (disch := first | exact Nat.ne_of_beq_eq_false rfl | exact rfl | omega) only [nI_add, xa_sub, xa_mul, pk_div, nm_mod, xa_shr, xa_and7, xa_and1, xa_and255, xa_by_and, nI_m1, Nat.add_sub_cancel, Nat.reducePow, Nat.zero_add, Nat.add_zero, Nat.reduceAdd, Nat.reduceMul, Nat.reduceSub, xf_same, xq_ff, xq_fo, xf_1, xf_2, xs_1, xs_2, xs_same, xq_so, xj_1, xj_2, xj_same, xq_jo, xq_sa1, xq_same, xq_other, upd_s, oI_n, oI_s, xv_0, xv_1, xv_2, xv_3, xm_p1, xm_p2, xq_fp, xq_fn, List.filter_nil, Nat.reduceBEq, Bool.not_true, Bool.not_false, Bool.and_true, Bool.and_false, Bool.false_and, Bool.true_and, if_true, if_false, Bool.false_eq_true, reduceIte, xc_i, xc_j, xc_r, xc_n, List.nil_append, List.cons_append, Option.toList_some, Option.toList_none, nI_ltJ, nI_leJ, nI_eqJ, nI_ltz, nI_gez, nI_gtz, nI_lez, nI_eqz, m1_ltz, m1_gez, true_imp_iff, false_imp_iff, true_and, and_true, ne_eq, not_false_eq_true, not_true_eq_false, Nat.reduceEqDiff, Nat.reduceLT, Nat.reduceLeDiff, xf_102_6 hF, xf_102_7 hF, a5', y1, q']
      with_reducible refine xm_go_blk b_X12_isWronglyHidden_66 k_X12_isWronglyHidden_66 ?_
      refine by_iconst ci_0 ?_
      refine by_nil ?_
      exact xm_go_wk (by simp [Value.category]) h67
theorem wh_101 {g i : Nat} {x : Int32} (hF : XF h) (hN : N ≤ 2000) (hn : n < N) (hc : chM h N cd c1 c2) (hg1 : g ≤ 1) (hi : i < 2000)
    (hgo : ∀ g', g' ≤ 1 → (g' = 1 ↔ g = 1 ∨ hwl cd c1 c2 n = false) → xm_go (XE sc) (xm_T (XE sc) (d + 1)) 238 post 19 [(0, .ref 102), (1, .int x), (2, .int (nI g')), (3, .int (nI (i + 1)))] [] h) :
    xm_go (XE sc) (xm_T (XE sc) (d + 1)) 238 post 101 [(5, .int (nI (hid cd (c1 n)).toNat)), (4, .int (nI n)), (0, .ref 102), (1, .int x), (2, .int (nI g)), (3, .int (nI i))] [.int (nI (hid cd (c2 n)).toNat)] h := by
  obtain ⟨a1, a2, _⟩ := hc n hn
  rcases (by omega : g = 0 ∨ g = 1) with rfl | rfl
  · by_cases q : cd n = 1
    · rw [q] at a1
      cases e1 : hid cd (c1 n)
      · have hg := hgo 0 (by decide) ⟨fun z => absurd z (by decide), fun z => by simp [hwl, q, e1] at z⟩
        with_reducible refine xm_go_blk b_X12_isWronglyHidden_101 k_X12_isWronglyHidden_101 ?_
        refine by_istore (by rw [ml_238]; decide) ?_
        refine by_iload_n rfl ?_
        refine by_if_ne 141 rfl ?_
        simp (disch := first | exact Nat.ne_of_beq_eq_false rfl | exact rfl | omega) only [nI_add, xa_sub, xa_mul, pk_div, nm_mod, xa_shr, xa_and7, xa_and1, xa_and255, xa_by_and, nI_m1, Nat.add_sub_cancel, Nat.reducePow, Nat.zero_add, Nat.add_zero, Nat.reduceAdd, Nat.reduceMul, Nat.reduceSub, xf_same, xq_ff, xq_fo, xf_1, xf_2, xs_1, xs_2, xs_same, xq_so, xj_1, xj_2, xj_same, xq_jo, xq_sa1, xq_same, xq_other, upd_s, oI_n, oI_s, xv_0, xv_1, xv_2, xv_3, xm_p1, xm_p2, xq_fp, xq_fn, List.filter_nil, Nat.reduceBEq, Bool.not_true, Bool.not_false, Bool.and_true, Bool.and_false, Bool.false_and, Bool.true_and, if_true, if_false, Bool.false_eq_true, reduceIte, xc_i, xc_j, xc_r, xc_n, List.nil_append, List.cons_append, Option.toList_some, Option.toList_none, nI_ltJ, nI_leJ, nI_eqJ, nI_ltz, nI_gez, nI_gtz, nI_lez, nI_eqz, m1_ltz, m1_gez, true_imp_iff, false_imp_iff, true_and, and_true, ne_eq, not_false_eq_true, not_true_eq_false, Nat.reduceEqDiff, Nat.reduceLT, Nat.reduceLeDiff, xf_102_6 hF, a1, Bool.toNat_false]
        with_reducible refine xm_go_blk b_X12_isWronglyHidden_107 k_X12_isWronglyHidden_107 ?_
        refine by_aload_n rfl ?_
        refine by_getf cn_238 fl_12_16 (by first | exact rfl | assumption) (by decide) ?_
        refine by_iload rfl ?_
        simp (disch := first | exact Nat.ne_of_beq_eq_false rfl | exact rfl | omega) only [nI_add, xa_sub, xa_mul, pk_div, nm_mod, xa_shr, xa_and7, xa_and1, xa_and255, xa_by_and, nI_m1, Nat.add_sub_cancel, Nat.reducePow, Nat.zero_add, Nat.add_zero, Nat.reduceAdd, Nat.reduceMul, Nat.reduceSub, xf_same, xq_ff, xq_fo, xf_1, xf_2, xs_1, xs_2, xs_same, xq_so, xj_1, xj_2, xj_same, xq_jo, xq_sa1, xq_same, xq_other, upd_s, oI_n, oI_s, xf_102_6 hF, a1, Bool.toNat_false]
        first | refine by_iald (by first | exact rfl | assumption | exact ps_1 hpp | exact ps_2 hpp | exact ps_3 hpp | exact ps_4 hpp | exact ps_5 hpp | exact ps_6 hpp | exact ps_7 hpp | exact ps_8 hpp | exact ps_9 hpp | exact ps_10 hpp | exact ps_11 hpp | exact ps_15 hpp | exact ps_16 hpp | exact ps_17 hpp | exact ps_18 hpp | exact ps_19 hpp | exact ps_21 hpp | exact ps_22 hpp | exact ps_23 hpp | exact ps_24 hpp) ⟨by omega, by omega⟩ ?_ | refine by_tald rfl rfl ⟨by omega, by omega⟩ ?_
        refine by_iconst ci_1 ?_
        refine by_ic_ne 131 rfl ?_
        simp (disch := first | exact Nat.ne_of_beq_eq_false rfl | exact rfl | omega) only [nI_add, xa_sub, xa_mul, pk_div, nm_mod, xa_shr, xa_and7, xa_and1, xa_and255, xa_by_and, nI_m1, Nat.add_sub_cancel, Nat.reducePow, Nat.zero_add, Nat.add_zero, Nat.reduceAdd, Nat.reduceMul, Nat.reduceSub, xf_same, xq_ff, xq_fo, xf_1, xf_2, xs_1, xs_2, xs_same, xq_so, xj_1, xj_2, xj_same, xq_jo, xq_sa1, xq_same, xq_other, upd_s, oI_n, oI_s, xv_0, xv_1, xv_2, xv_3, xm_p1, xm_p2, xq_fp, xq_fn, List.filter_nil, Nat.reduceBEq, Bool.not_true, Bool.not_false, Bool.and_true, Bool.and_false, Bool.false_and, Bool.true_and, if_true, if_false, Bool.false_eq_true, reduceIte, xc_i, xc_j, xc_r, xc_n, List.nil_append, List.cons_append, Option.toList_some, Option.toList_none, nI_ltJ, nI_leJ, nI_eqJ, nI_ltz, nI_gez, nI_gtz, nI_lez, nI_eqz, m1_ltz, m1_gez, true_imp_iff, false_imp_iff, true_and, and_true, ne_eq, not_false_eq_true, not_true_eq_false, Nat.reduceEqDiff, Nat.reduceLT, Nat.reduceLeDiff, xf_102_6 hF, a1, Bool.toNat_false]
        with_reducible refine xm_go_blk b_X12_isWronglyHidden_118 k_X12_isWronglyHidden_118 ?_
        refine by_iload rfl ?_
        refine by_if_eq 145 rfl ?_
        simp (disch := first | exact Nat.ne_of_beq_eq_false rfl | exact rfl | omega) only [nI_add, xa_sub, xa_mul, pk_div, nm_mod, xa_shr, xa_and7, xa_and1, xa_and255, xa_by_and, nI_m1, Nat.add_sub_cancel, Nat.reducePow, Nat.zero_add, Nat.add_zero, Nat.reduceAdd, Nat.reduceMul, Nat.reduceSub, xf_same, xq_ff, xq_fo, xf_1, xf_2, xs_1, xs_2, xs_same, xq_so, xj_1, xj_2, xj_same, xq_jo, xq_sa1, xq_same, xq_other, upd_s, oI_n, oI_s, xv_0, xv_1, xv_2, xv_3, xm_p1, xm_p2, xq_fp, xq_fn, List.filter_nil, Nat.reduceBEq, Bool.not_true, Bool.not_false, Bool.and_true, Bool.and_false, Bool.false_and, Bool.true_and, if_true, if_false, Bool.false_eq_true, reduceIte, xc_i, xc_j, xc_r, xc_n, List.nil_append, List.cons_append, Option.toList_some, Option.toList_none, nI_ltJ, nI_leJ, nI_eqJ, nI_ltz, nI_gez, nI_gtz, nI_lez, nI_eqz, m1_ltz, m1_gez, true_imp_iff, false_imp_iff, true_and, and_true, ne_eq, not_false_eq_true, not_true_eq_false, Nat.reduceEqDiff, Nat.reduceLT, Nat.reduceLeDiff, xf_102_6 hF, a1, Bool.toNat_false]
        with_reducible refine xm_go_blk b_X12_isWronglyHidden_145 k_X12_isWronglyHidden_145 ?_
        refine by_iconst ci_0 ?_
        refine by_nil ?_
        with_reducible refine xm_go_blk b_X12_isWronglyHidden_146 k_X12_isWronglyHidden_146 ?_
        refine by_istore_n (by rw [ml_238]; decide) ?_
        refine by_iinc (by rw [ml_238]; decide) rfl ci_1 ?_
        refine by_goto 19 rfl ?_
        simp (disch := first | exact Nat.ne_of_beq_eq_false rfl | exact rfl | omega) only [nI_add, xa_sub, xa_mul, pk_div, nm_mod, xa_shr, xa_and7, xa_and1, xa_and255, xa_by_and, nI_m1, Nat.add_sub_cancel, Nat.reducePow, Nat.zero_add, Nat.add_zero, Nat.reduceAdd, Nat.reduceMul, Nat.reduceSub, xf_same, xq_ff, xq_fo, xf_1, xf_2, xs_1, xs_2, xs_same, xq_so, xj_1, xj_2, xj_same, xq_jo, xq_sa1, xq_same, xq_other, upd_s, oI_n, oI_s, xv_0, xv_1, xv_2, xv_3, xm_p1, xm_p2, xq_fp, xq_fn, List.filter_nil, Nat.reduceBEq, Bool.not_true, Bool.not_false, Bool.and_true, Bool.and_false, Bool.false_and, Bool.true_and, if_true, if_false, Bool.false_eq_true, reduceIte, xc_i, xc_j, xc_r, xc_n, List.nil_append, List.cons_append, Option.toList_some, Option.toList_none, xf_102_6 hF, a1, Bool.toNat_false]
        exact xm_go_wk (by simp [Value.category]) hg
      · cases e2 : hid cd (c2 n)
        · have hg := hgo 0 (by decide) ⟨fun z => absurd z (by decide), fun z => by simp [hwl, q, e1, e2] at z⟩
          with_reducible refine xm_go_blk b_X12_isWronglyHidden_101 k_X12_isWronglyHidden_101 ?_
          refine by_istore (by rw [ml_238]; decide) ?_
          refine by_iload_n rfl ?_
          refine by_if_ne 141 rfl ?_
          simp (disch := first | exact Nat.ne_of_beq_eq_false rfl | exact rfl | omega) only [nI_add, xa_sub, xa_mul, pk_div, nm_mod, xa_shr, xa_and7, xa_and1, xa_and255, xa_by_and, nI_m1, Nat.add_sub_cancel, Nat.reducePow, Nat.zero_add, Nat.add_zero, Nat.reduceAdd, Nat.reduceMul, Nat.reduceSub, xf_same, xq_ff, xq_fo, xf_1, xf_2, xs_1, xs_2, xs_same, xq_so, xj_1, xj_2, xj_same, xq_jo, xq_sa1, xq_same, xq_other, upd_s, oI_n, oI_s, xv_0, xv_1, xv_2, xv_3, xm_p1, xm_p2, xq_fp, xq_fn, List.filter_nil, Nat.reduceBEq, Bool.not_true, Bool.not_false, Bool.and_true, Bool.and_false, Bool.false_and, Bool.true_and, if_true, if_false, Bool.false_eq_true, reduceIte, xc_i, xc_j, xc_r, xc_n, List.nil_append, List.cons_append, Option.toList_some, Option.toList_none, nI_ltJ, nI_leJ, nI_eqJ, nI_ltz, nI_gez, nI_gtz, nI_lez, nI_eqz, m1_ltz, m1_gez, true_imp_iff, false_imp_iff, true_and, and_true, ne_eq, not_false_eq_true, not_true_eq_false, Nat.reduceEqDiff, Nat.reduceLT, Nat.reduceLeDiff, xf_102_6 hF, a1, Bool.toNat_false, Bool.toNat_true]
          with_reducible refine xm_go_blk b_X12_isWronglyHidden_107 k_X12_isWronglyHidden_107 ?_
          refine by_aload_n rfl ?_
          refine by_getf cn_238 fl_12_16 (by first | exact rfl | assumption) (by decide) ?_
          refine by_iload rfl ?_
          simp (disch := first | exact Nat.ne_of_beq_eq_false rfl | exact rfl | omega) only [nI_add, xa_sub, xa_mul, pk_div, nm_mod, xa_shr, xa_and7, xa_and1, xa_and255, xa_by_and, nI_m1, Nat.add_sub_cancel, Nat.reducePow, Nat.zero_add, Nat.add_zero, Nat.reduceAdd, Nat.reduceMul, Nat.reduceSub, xf_same, xq_ff, xq_fo, xf_1, xf_2, xs_1, xs_2, xs_same, xq_so, xj_1, xj_2, xj_same, xq_jo, xq_sa1, xq_same, xq_other, upd_s, oI_n, oI_s, xf_102_6 hF, a1, Bool.toNat_false, Bool.toNat_true]
          first | refine by_iald (by first | exact rfl | assumption | exact ps_1 hpp | exact ps_2 hpp | exact ps_3 hpp | exact ps_4 hpp | exact ps_5 hpp | exact ps_6 hpp | exact ps_7 hpp | exact ps_8 hpp | exact ps_9 hpp | exact ps_10 hpp | exact ps_11 hpp | exact ps_15 hpp | exact ps_16 hpp | exact ps_17 hpp | exact ps_18 hpp | exact ps_19 hpp | exact ps_21 hpp | exact ps_22 hpp | exact ps_23 hpp | exact ps_24 hpp) ⟨by omega, by omega⟩ ?_ | refine by_tald rfl rfl ⟨by omega, by omega⟩ ?_
          refine by_iconst ci_1 ?_
          refine by_ic_ne 131 rfl ?_
          simp (disch := first | exact Nat.ne_of_beq_eq_false rfl | exact rfl | omega) only [nI_add, xa_sub, xa_mul, pk_div, nm_mod, xa_shr, xa_and7, xa_and1, xa_and255, xa_by_and, nI_m1, Nat.add_sub_cancel, Nat.reducePow, Nat.zero_add, Nat.add_zero, Nat.reduceAdd, Nat.reduceMul, Nat.reduceSub, xf_same, xq_ff, xq_fo, xf_1, xf_2, xs_1, xs_2, xs_same, xq_so, xj_1, xj_2, xj_same, xq_jo, xq_sa1, xq_same, xq_other, upd_s, oI_n, oI_s, xv_0, xv_1, xv_2, xv_3, xm_p1, xm_p2, xq_fp, xq_fn, List.filter_nil, Nat.reduceBEq, Bool.not_true, Bool.not_false, Bool.and_true, Bool.and_false, Bool.false_and, Bool.true_and, if_true, if_false, Bool.false_eq_true, reduceIte, xc_i, xc_j, xc_r, xc_n, List.nil_append, List.cons_append, Option.toList_some, Option.toList_none, nI_ltJ, nI_leJ, nI_eqJ, nI_ltz, nI_gez, nI_gtz, nI_lez, nI_eqz, m1_ltz, m1_gez, true_imp_iff, false_imp_iff, true_and, and_true, ne_eq, not_false_eq_true, not_true_eq_false, Nat.reduceEqDiff, Nat.reduceLT, Nat.reduceLeDiff, xf_102_6 hF, a1, Bool.toNat_false, Bool.toNat_true]
          with_reducible refine xm_go_blk b_X12_isWronglyHidden_118 k_X12_isWronglyHidden_118 ?_
          refine by_iload rfl ?_
          refine by_if_eq 145 rfl ?_
          simp (disch := first | exact Nat.ne_of_beq_eq_false rfl | exact rfl | omega) only [nI_add, xa_sub, xa_mul, pk_div, nm_mod, xa_shr, xa_and7, xa_and1, xa_and255, xa_by_and, nI_m1, Nat.add_sub_cancel, Nat.reducePow, Nat.zero_add, Nat.add_zero, Nat.reduceAdd, Nat.reduceMul, Nat.reduceSub, xf_same, xq_ff, xq_fo, xf_1, xf_2, xs_1, xs_2, xs_same, xq_so, xj_1, xj_2, xj_same, xq_jo, xq_sa1, xq_same, xq_other, upd_s, oI_n, oI_s, xv_0, xv_1, xv_2, xv_3, xm_p1, xm_p2, xq_fp, xq_fn, List.filter_nil, Nat.reduceBEq, Bool.not_true, Bool.not_false, Bool.and_true, Bool.and_false, Bool.false_and, Bool.true_and, if_true, if_false, Bool.false_eq_true, reduceIte, xc_i, xc_j, xc_r, xc_n, List.nil_append, List.cons_append, Option.toList_some, Option.toList_none, nI_ltJ, nI_leJ, nI_eqJ, nI_ltz, nI_gez, nI_gtz, nI_lez, nI_eqz, m1_ltz, m1_gez, true_imp_iff, false_imp_iff, true_and, and_true, ne_eq, not_false_eq_true, not_true_eq_false, Nat.reduceEqDiff, Nat.reduceLT, Nat.reduceLeDiff, xf_102_6 hF, a1, Bool.toNat_false, Bool.toNat_true]
          with_reducible refine xm_go_blk b_X12_isWronglyHidden_123 k_X12_isWronglyHidden_123 ?_
          refine by_iload rfl ?_
          refine by_if_eq 145 rfl ?_
          simp (disch := first | exact Nat.ne_of_beq_eq_false rfl | exact rfl | omega) only [nI_add, xa_sub, xa_mul, pk_div, nm_mod, xa_shr, xa_and7, xa_and1, xa_and255, xa_by_and, nI_m1, Nat.add_sub_cancel, Nat.reducePow, Nat.zero_add, Nat.add_zero, Nat.reduceAdd, Nat.reduceMul, Nat.reduceSub, xf_same, xq_ff, xq_fo, xf_1, xf_2, xs_1, xs_2, xs_same, xq_so, xj_1, xj_2, xj_same, xq_jo, xq_sa1, xq_same, xq_other, upd_s, oI_n, oI_s, xv_0, xv_1, xv_2, xv_3, xm_p1, xm_p2, xq_fp, xq_fn, List.filter_nil, Nat.reduceBEq, Bool.not_true, Bool.not_false, Bool.and_true, Bool.and_false, Bool.false_and, Bool.true_and, if_true, if_false, Bool.false_eq_true, reduceIte, xc_i, xc_j, xc_r, xc_n, List.nil_append, List.cons_append, Option.toList_some, Option.toList_none, nI_ltJ, nI_leJ, nI_eqJ, nI_ltz, nI_gez, nI_gtz, nI_lez, nI_eqz, m1_ltz, m1_gez, true_imp_iff, false_imp_iff, true_and, and_true, ne_eq, not_false_eq_true, not_true_eq_false, Nat.reduceEqDiff, Nat.reduceLT, Nat.reduceLeDiff, xf_102_6 hF, a1, Bool.toNat_false, Bool.toNat_true]
          with_reducible refine xm_go_blk b_X12_isWronglyHidden_145 k_X12_isWronglyHidden_145 ?_
          refine by_iconst ci_0 ?_
          refine by_nil ?_
          with_reducible refine xm_go_blk b_X12_isWronglyHidden_146 k_X12_isWronglyHidden_146 ?_
          refine by_istore_n (by rw [ml_238]; decide) ?_
          refine by_iinc (by rw [ml_238]; decide) rfl ci_1 ?_
          refine by_goto 19 rfl ?_
          simp (disch := first | exact Nat.ne_of_beq_eq_false rfl | exact rfl | omega) only [nI_add, xa_sub, xa_mul, pk_div, nm_mod, xa_shr, xa_and7, xa_and1, xa_and255, xa_by_and, nI_m1, Nat.add_sub_cancel, Nat.reducePow, Nat.zero_add, Nat.add_zero, Nat.reduceAdd, Nat.reduceMul, Nat.reduceSub, xf_same, xq_ff, xq_fo, xf_1, xf_2, xs_1, xs_2, xs_same, xq_so, xj_1, xj_2, xj_same, xq_jo, xq_sa1, xq_same, xq_other, upd_s, oI_n, oI_s, xv_0, xv_1, xv_2, xv_3, xm_p1, xm_p2, xq_fp, xq_fn, List.filter_nil, Nat.reduceBEq, Bool.not_true, Bool.not_false, Bool.and_true, Bool.and_false, Bool.false_and, Bool.true_and, if_true, if_false, Bool.false_eq_true, reduceIte, xc_i, xc_j, xc_r, xc_n, List.nil_append, List.cons_append, Option.toList_some, Option.toList_none, xf_102_6 hF, a1, Bool.toNat_false, Bool.toNat_true]
          exact xm_go_wk (by simp [Value.category]) hg
        · have hg := hgo 1 (by decide) ⟨fun _ => Or.inr (by simp [hwl, q, e1, e2]), fun _ => rfl⟩
          with_reducible refine xm_go_blk b_X12_isWronglyHidden_101 k_X12_isWronglyHidden_101 ?_
          refine by_istore (by rw [ml_238]; decide) ?_
          refine by_iload_n rfl ?_
          refine by_if_ne 141 rfl ?_
          simp (disch := first | exact Nat.ne_of_beq_eq_false rfl | exact rfl | omega) only [nI_add, xa_sub, xa_mul, pk_div, nm_mod, xa_shr, xa_and7, xa_and1, xa_and255, xa_by_and, nI_m1, Nat.add_sub_cancel, Nat.reducePow, Nat.zero_add, Nat.add_zero, Nat.reduceAdd, Nat.reduceMul, Nat.reduceSub, xf_same, xq_ff, xq_fo, xf_1, xf_2, xs_1, xs_2, xs_same, xq_so, xj_1, xj_2, xj_same, xq_jo, xq_sa1, xq_same, xq_other, upd_s, oI_n, oI_s, xv_0, xv_1, xv_2, xv_3, xm_p1, xm_p2, xq_fp, xq_fn, List.filter_nil, Nat.reduceBEq, Bool.not_true, Bool.not_false, Bool.and_true, Bool.and_false, Bool.false_and, Bool.true_and, if_true, if_false, Bool.false_eq_true, reduceIte, xc_i, xc_j, xc_r, xc_n, List.nil_append, List.cons_append, Option.toList_some, Option.toList_none, nI_ltJ, nI_leJ, nI_eqJ, nI_ltz, nI_gez, nI_gtz, nI_lez, nI_eqz, m1_ltz, m1_gez, true_imp_iff, false_imp_iff, true_and, and_true, ne_eq, not_false_eq_true, not_true_eq_false, Nat.reduceEqDiff, Nat.reduceLT, Nat.reduceLeDiff, xf_102_6 hF, a1, Bool.toNat_true]
          with_reducible refine xm_go_blk b_X12_isWronglyHidden_107 k_X12_isWronglyHidden_107 ?_
          refine by_aload_n rfl ?_
          refine by_getf cn_238 fl_12_16 (by first | exact rfl | assumption) (by decide) ?_
          refine by_iload rfl ?_
          simp (disch := first | exact Nat.ne_of_beq_eq_false rfl | exact rfl | omega) only [nI_add, xa_sub, xa_mul, pk_div, nm_mod, xa_shr, xa_and7, xa_and1, xa_and255, xa_by_and, nI_m1, Nat.add_sub_cancel, Nat.reducePow, Nat.zero_add, Nat.add_zero, Nat.reduceAdd, Nat.reduceMul, Nat.reduceSub, xf_same, xq_ff, xq_fo, xf_1, xf_2, xs_1, xs_2, xs_same, xq_so, xj_1, xj_2, xj_same, xq_jo, xq_sa1, xq_same, xq_other, upd_s, oI_n, oI_s, xf_102_6 hF, a1, Bool.toNat_true]
          first | refine by_iald (by first | exact rfl | assumption | exact ps_1 hpp | exact ps_2 hpp | exact ps_3 hpp | exact ps_4 hpp | exact ps_5 hpp | exact ps_6 hpp | exact ps_7 hpp | exact ps_8 hpp | exact ps_9 hpp | exact ps_10 hpp | exact ps_11 hpp | exact ps_15 hpp | exact ps_16 hpp | exact ps_17 hpp | exact ps_18 hpp | exact ps_19 hpp | exact ps_21 hpp | exact ps_22 hpp | exact ps_23 hpp | exact ps_24 hpp) ⟨by omega, by omega⟩ ?_ | refine by_tald rfl rfl ⟨by omega, by omega⟩ ?_
          refine by_iconst ci_1 ?_
          refine by_ic_ne 131 rfl ?_
          simp (disch := first | exact Nat.ne_of_beq_eq_false rfl | exact rfl | omega) only [nI_add, xa_sub, xa_mul, pk_div, nm_mod, xa_shr, xa_and7, xa_and1, xa_and255, xa_by_and, nI_m1, Nat.add_sub_cancel, Nat.reducePow, Nat.zero_add, Nat.add_zero, Nat.reduceAdd, Nat.reduceMul, Nat.reduceSub, xf_same, xq_ff, xq_fo, xf_1, xf_2, xs_1, xs_2, xs_same, xq_so, xj_1, xj_2, xj_same, xq_jo, xq_sa1, xq_same, xq_other, upd_s, oI_n, oI_s, xv_0, xv_1, xv_2, xv_3, xm_p1, xm_p2, xq_fp, xq_fn, List.filter_nil, Nat.reduceBEq, Bool.not_true, Bool.not_false, Bool.and_true, Bool.and_false, Bool.false_and, Bool.true_and, if_true, if_false, Bool.false_eq_true, reduceIte, xc_i, xc_j, xc_r, xc_n, List.nil_append, List.cons_append, Option.toList_some, Option.toList_none, nI_ltJ, nI_leJ, nI_eqJ, nI_ltz, nI_gez, nI_gtz, nI_lez, nI_eqz, m1_ltz, m1_gez, true_imp_iff, false_imp_iff, true_and, and_true, ne_eq, not_false_eq_true, not_true_eq_false, Nat.reduceEqDiff, Nat.reduceLT, Nat.reduceLeDiff, xf_102_6 hF, a1, Bool.toNat_true]
          with_reducible refine xm_go_blk b_X12_isWronglyHidden_118 k_X12_isWronglyHidden_118 ?_
          refine by_iload rfl ?_
          refine by_if_eq 145 rfl ?_
          simp (disch := first | exact Nat.ne_of_beq_eq_false rfl | exact rfl | omega) only [nI_add, xa_sub, xa_mul, pk_div, nm_mod, xa_shr, xa_and7, xa_and1, xa_and255, xa_by_and, nI_m1, Nat.add_sub_cancel, Nat.reducePow, Nat.zero_add, Nat.add_zero, Nat.reduceAdd, Nat.reduceMul, Nat.reduceSub, xf_same, xq_ff, xq_fo, xf_1, xf_2, xs_1, xs_2, xs_same, xq_so, xj_1, xj_2, xj_same, xq_jo, xq_sa1, xq_same, xq_other, upd_s, oI_n, oI_s, xv_0, xv_1, xv_2, xv_3, xm_p1, xm_p2, xq_fp, xq_fn, List.filter_nil, Nat.reduceBEq, Bool.not_true, Bool.not_false, Bool.and_true, Bool.and_false, Bool.false_and, Bool.true_and, if_true, if_false, Bool.false_eq_true, reduceIte, xc_i, xc_j, xc_r, xc_n, List.nil_append, List.cons_append, Option.toList_some, Option.toList_none, nI_ltJ, nI_leJ, nI_eqJ, nI_ltz, nI_gez, nI_gtz, nI_lez, nI_eqz, m1_ltz, m1_gez, true_imp_iff, false_imp_iff, true_and, and_true, ne_eq, not_false_eq_true, not_true_eq_false, Nat.reduceEqDiff, Nat.reduceLT, Nat.reduceLeDiff, xf_102_6 hF, a1, Bool.toNat_true]
          with_reducible refine xm_go_blk b_X12_isWronglyHidden_123 k_X12_isWronglyHidden_123 ?_
          refine by_iload rfl ?_
          refine by_if_eq 145 rfl ?_
          simp (disch := first | exact Nat.ne_of_beq_eq_false rfl | exact rfl | omega) only [nI_add, xa_sub, xa_mul, pk_div, nm_mod, xa_shr, xa_and7, xa_and1, xa_and255, xa_by_and, nI_m1, Nat.add_sub_cancel, Nat.reducePow, Nat.zero_add, Nat.add_zero, Nat.reduceAdd, Nat.reduceMul, Nat.reduceSub, xf_same, xq_ff, xq_fo, xf_1, xf_2, xs_1, xs_2, xs_same, xq_so, xj_1, xj_2, xj_same, xq_jo, xq_sa1, xq_same, xq_other, upd_s, oI_n, oI_s, xv_0, xv_1, xv_2, xv_3, xm_p1, xm_p2, xq_fp, xq_fn, List.filter_nil, Nat.reduceBEq, Bool.not_true, Bool.not_false, Bool.and_true, Bool.and_false, Bool.false_and, Bool.true_and, if_true, if_false, Bool.false_eq_true, reduceIte, xc_i, xc_j, xc_r, xc_n, List.nil_append, List.cons_append, Option.toList_some, Option.toList_none, nI_ltJ, nI_leJ, nI_eqJ, nI_ltz, nI_gez, nI_gtz, nI_lez, nI_eqz, m1_ltz, m1_gez, true_imp_iff, false_imp_iff, true_and, and_true, ne_eq, not_false_eq_true, not_true_eq_false, Nat.reduceEqDiff, Nat.reduceLT, Nat.reduceLeDiff, xf_102_6 hF, a1, Bool.toNat_true]
          with_reducible refine xm_go_blk b_X12_isWronglyHidden_128 k_X12_isWronglyHidden_128 ?_
          refine by_goto 141 rfl ?_
          with_reducible refine xm_go_blk b_X12_isWronglyHidden_141 k_X12_isWronglyHidden_141 ?_
          refine by_iconst ci_1 ?_
          refine by_goto 146 rfl ?_
          with_reducible refine xm_go_blk b_X12_isWronglyHidden_146 k_X12_isWronglyHidden_146 ?_
          refine by_istore_n (by rw [ml_238]; decide) ?_
          refine by_iinc (by rw [ml_238]; decide) rfl ci_1 ?_
          refine by_goto 19 rfl ?_
          simp (disch := first | exact Nat.ne_of_beq_eq_false rfl | exact rfl | omega) only [nI_add, xa_sub, xa_mul, pk_div, nm_mod, xa_shr, xa_and7, xa_and1, xa_and255, xa_by_and, nI_m1, Nat.add_sub_cancel, Nat.reducePow, Nat.zero_add, Nat.add_zero, Nat.reduceAdd, Nat.reduceMul, Nat.reduceSub, xf_same, xq_ff, xq_fo, xf_1, xf_2, xs_1, xs_2, xs_same, xq_so, xj_1, xj_2, xj_same, xq_jo, xq_sa1, xq_same, xq_other, upd_s, oI_n, oI_s, xv_0, xv_1, xv_2, xv_3, xm_p1, xm_p2, xq_fp, xq_fn, List.filter_nil, Nat.reduceBEq, Bool.not_true, Bool.not_false, Bool.and_true, Bool.and_false, Bool.false_and, Bool.true_and, if_true, if_false, Bool.false_eq_true, reduceIte, xc_i, xc_j, xc_r, xc_n, List.nil_append, List.cons_append, Option.toList_some, Option.toList_none, xf_102_6 hF, a1, Bool.toNat_true]
          exact xm_go_wk (by simp [Value.category]) hg
    · have q' : (cd n = 1) = False := eq_false q
      cases e1 : hid cd (c1 n)
      · cases e2 : hid cd (c2 n)
        · have hg := hgo 0 (by decide) ⟨fun z => absurd z (by decide), fun z => by simp [hwl, q, e1, e2] at z⟩
          with_reducible refine xm_go_blk b_X12_isWronglyHidden_101 k_X12_isWronglyHidden_101 ?_
          refine by_istore (by rw [ml_238]; decide) ?_
          refine by_iload_n rfl ?_
          refine by_if_ne 141 rfl ?_
          simp (disch := first | exact Nat.ne_of_beq_eq_false rfl | exact rfl | omega) only [nI_add, xa_sub, xa_mul, pk_div, nm_mod, xa_shr, xa_and7, xa_and1, xa_and255, xa_by_and, nI_m1, Nat.add_sub_cancel, Nat.reducePow, Nat.zero_add, Nat.add_zero, Nat.reduceAdd, Nat.reduceMul, Nat.reduceSub, xf_same, xq_ff, xq_fo, xf_1, xf_2, xs_1, xs_2, xs_same, xq_so, xj_1, xj_2, xj_same, xq_jo, xq_sa1, xq_same, xq_other, upd_s, oI_n, oI_s, xv_0, xv_1, xv_2, xv_3, xm_p1, xm_p2, xq_fp, xq_fn, List.filter_nil, Nat.reduceBEq, Bool.not_true, Bool.not_false, Bool.and_true, Bool.and_false, Bool.false_and, Bool.true_and, if_true, if_false, Bool.false_eq_true, reduceIte, xc_i, xc_j, xc_r, xc_n, List.nil_append, List.cons_append, Option.toList_some, Option.toList_none, nI_ltJ, nI_leJ, nI_eqJ, nI_ltz, nI_gez, nI_gtz, nI_lez, nI_eqz, m1_ltz, m1_gez, true_imp_iff, false_imp_iff, true_and, and_true, ne_eq, not_false_eq_true, not_true_eq_false, Nat.reduceEqDiff, Nat.reduceLT, Nat.reduceLeDiff, xf_102_6 hF, a1, q', Bool.toNat_false]
          with_reducible refine xm_go_blk b_X12_isWronglyHidden_107 k_X12_isWronglyHidden_107 ?_
          refine by_aload_n rfl ?_
          refine by_getf cn_238 fl_12_16 (by first | exact rfl | assumption) (by decide) ?_
          refine by_iload rfl ?_
          simp (disch := first | exact Nat.ne_of_beq_eq_false rfl | exact rfl | omega) only [nI_add, xa_sub, xa_mul, pk_div, nm_mod, xa_shr, xa_and7, xa_and1, xa_and255, xa_by_and, nI_m1, Nat.add_sub_cancel, Nat.reducePow, Nat.zero_add, Nat.add_zero, Nat.reduceAdd, Nat.reduceMul, Nat.reduceSub, xf_same, xq_ff, xq_fo, xf_1, xf_2, xs_1, xs_2, xs_same, xq_so, xj_1, xj_2, xj_same, xq_jo, xq_sa1, xq_same, xq_other, upd_s, oI_n, oI_s, xf_102_6 hF, a1, q', Bool.toNat_false]
          first | refine by_iald (by first | exact rfl | assumption | exact ps_1 hpp | exact ps_2 hpp | exact ps_3 hpp | exact ps_4 hpp | exact ps_5 hpp | exact ps_6 hpp | exact ps_7 hpp | exact ps_8 hpp | exact ps_9 hpp | exact ps_10 hpp | exact ps_11 hpp | exact ps_15 hpp | exact ps_16 hpp | exact ps_17 hpp | exact ps_18 hpp | exact ps_19 hpp | exact ps_21 hpp | exact ps_22 hpp | exact ps_23 hpp | exact ps_24 hpp) ⟨by omega, by omega⟩ ?_ | refine by_tald rfl rfl ⟨by omega, by omega⟩ ?_
          refine by_iconst ci_1 ?_
          refine by_ic_ne 131 rfl ?_
          simp (disch := first | exact Nat.ne_of_beq_eq_false rfl | exact rfl | omega) only [nI_add, xa_sub, xa_mul, pk_div, nm_mod, xa_shr, xa_and7, xa_and1, xa_and255, xa_by_and, nI_m1, Nat.add_sub_cancel, Nat.reducePow, Nat.zero_add, Nat.add_zero, Nat.reduceAdd, Nat.reduceMul, Nat.reduceSub, xf_same, xq_ff, xq_fo, xf_1, xf_2, xs_1, xs_2, xs_same, xq_so, xj_1, xj_2, xj_same, xq_jo, xq_sa1, xq_same, xq_other, upd_s, oI_n, oI_s, xv_0, xv_1, xv_2, xv_3, xm_p1, xm_p2, xq_fp, xq_fn, List.filter_nil, Nat.reduceBEq, Bool.not_true, Bool.not_false, Bool.and_true, Bool.and_false, Bool.false_and, Bool.true_and, if_true, if_false, Bool.false_eq_true, reduceIte, xc_i, xc_j, xc_r, xc_n, List.nil_append, List.cons_append, Option.toList_some, Option.toList_none, nI_ltJ, nI_leJ, nI_eqJ, nI_ltz, nI_gez, nI_gtz, nI_lez, nI_eqz, m1_ltz, m1_gez, true_imp_iff, false_imp_iff, true_and, and_true, ne_eq, not_false_eq_true, not_true_eq_false, Nat.reduceEqDiff, Nat.reduceLT, Nat.reduceLeDiff, xf_102_6 hF, a1, q', Bool.toNat_false]
          with_reducible refine xm_go_blk b_X12_isWronglyHidden_131 k_X12_isWronglyHidden_131 ?_
          refine by_iload rfl ?_
          refine by_if_ne 141 rfl ?_
          simp (disch := first | exact Nat.ne_of_beq_eq_false rfl | exact rfl | omega) only [nI_add, xa_sub, xa_mul, pk_div, nm_mod, xa_shr, xa_and7, xa_and1, xa_and255, xa_by_and, nI_m1, Nat.add_sub_cancel, Nat.reducePow, Nat.zero_add, Nat.add_zero, Nat.reduceAdd, Nat.reduceMul, Nat.reduceSub, xf_same, xq_ff, xq_fo, xf_1, xf_2, xs_1, xs_2, xs_same, xq_so, xj_1, xj_2, xj_same, xq_jo, xq_sa1, xq_same, xq_other, upd_s, oI_n, oI_s, xv_0, xv_1, xv_2, xv_3, xm_p1, xm_p2, xq_fp, xq_fn, List.filter_nil, Nat.reduceBEq, Bool.not_true, Bool.not_false, Bool.and_true, Bool.and_false, Bool.false_and, Bool.true_and, if_true, if_false, Bool.false_eq_true, reduceIte, xc_i, xc_j, xc_r, xc_n, List.nil_append, List.cons_append, Option.toList_some, Option.toList_none, nI_ltJ, nI_leJ, nI_eqJ, nI_ltz, nI_gez, nI_gtz, nI_lez, nI_eqz, m1_ltz, m1_gez, true_imp_iff, false_imp_iff, true_and, and_true, ne_eq, not_false_eq_true, not_true_eq_false, Nat.reduceEqDiff, Nat.reduceLT, Nat.reduceLeDiff, xf_102_6 hF, a1, q', Bool.toNat_false]
          with_reducible refine xm_go_blk b_X12_isWronglyHidden_136 k_X12_isWronglyHidden_136 ?_
          refine by_iload rfl ?_
          refine by_if_eq 145 rfl ?_
          simp (disch := first | exact Nat.ne_of_beq_eq_false rfl | exact rfl | omega) only [nI_add, xa_sub, xa_mul, pk_div, nm_mod, xa_shr, xa_and7, xa_and1, xa_and255, xa_by_and, nI_m1, Nat.add_sub_cancel, Nat.reducePow, Nat.zero_add, Nat.add_zero, Nat.reduceAdd, Nat.reduceMul, Nat.reduceSub, xf_same, xq_ff, xq_fo, xf_1, xf_2, xs_1, xs_2, xs_same, xq_so, xj_1, xj_2, xj_same, xq_jo, xq_sa1, xq_same, xq_other, upd_s, oI_n, oI_s, xv_0, xv_1, xv_2, xv_3, xm_p1, xm_p2, xq_fp, xq_fn, List.filter_nil, Nat.reduceBEq, Bool.not_true, Bool.not_false, Bool.and_true, Bool.and_false, Bool.false_and, Bool.true_and, if_true, if_false, Bool.false_eq_true, reduceIte, xc_i, xc_j, xc_r, xc_n, List.nil_append, List.cons_append, Option.toList_some, Option.toList_none, nI_ltJ, nI_leJ, nI_eqJ, nI_ltz, nI_gez, nI_gtz, nI_lez, nI_eqz, m1_ltz, m1_gez, true_imp_iff, false_imp_iff, true_and, and_true, ne_eq, not_false_eq_true, not_true_eq_false, Nat.reduceEqDiff, Nat.reduceLT, Nat.reduceLeDiff, xf_102_6 hF, a1, q', Bool.toNat_false]
          with_reducible refine xm_go_blk b_X12_isWronglyHidden_145 k_X12_isWronglyHidden_145 ?_
          refine by_iconst ci_0 ?_
          refine by_nil ?_
          with_reducible refine xm_go_blk b_X12_isWronglyHidden_146 k_X12_isWronglyHidden_146 ?_
          refine by_istore_n (by rw [ml_238]; decide) ?_
          refine by_iinc (by rw [ml_238]; decide) rfl ci_1 ?_
          refine by_goto 19 rfl ?_
          simp (disch := first | exact Nat.ne_of_beq_eq_false rfl | exact rfl | omega) only [nI_add, xa_sub, xa_mul, pk_div, nm_mod, xa_shr, xa_and7, xa_and1, xa_and255, xa_by_and, nI_m1, Nat.add_sub_cancel, Nat.reducePow, Nat.zero_add, Nat.add_zero, Nat.reduceAdd, Nat.reduceMul, Nat.reduceSub, xf_same, xq_ff, xq_fo, xf_1, xf_2, xs_1, xs_2, xs_same, xq_so, xj_1, xj_2, xj_same, xq_jo, xq_sa1, xq_same, xq_other, upd_s, oI_n, oI_s, xv_0, xv_1, xv_2, xv_3, xm_p1, xm_p2, xq_fp, xq_fn, List.filter_nil, Nat.reduceBEq, Bool.not_true, Bool.not_false, Bool.and_true, Bool.and_false, Bool.false_and, Bool.true_and, if_true, if_false, Bool.false_eq_true, reduceIte, xc_i, xc_j, xc_r, xc_n, List.nil_append, List.cons_append, Option.toList_some, Option.toList_none, xf_102_6 hF, a1, q', Bool.toNat_false]
          exact xm_go_wk (by simp [Value.category]) hg
        · have hg := hgo 1 (by decide) ⟨fun _ => Or.inr (by simp [hwl, q, e1, e2]), fun _ => rfl⟩
          with_reducible refine xm_go_blk b_X12_isWronglyHidden_101 k_X12_isWronglyHidden_101 ?_
          refine by_istore (by rw [ml_238]; decide) ?_
          refine by_iload_n rfl ?_
          refine by_if_ne 141 rfl ?_
          simp (disch := first | exact Nat.ne_of_beq_eq_false rfl | exact rfl | omega) only [nI_add, xa_sub, xa_mul, pk_div, nm_mod, xa_shr, xa_and7, xa_and1, xa_and255, xa_by_and, nI_m1, Nat.add_sub_cancel, Nat.reducePow, Nat.zero_add, Nat.add_zero, Nat.reduceAdd, Nat.reduceMul, Nat.reduceSub, xf_same, xq_ff, xq_fo, xf_1, xf_2, xs_1, xs_2, xs_same, xq_so, xj_1, xj_2, xj_same, xq_jo, xq_sa1, xq_same, xq_other, upd_s, oI_n, oI_s, xv_0, xv_1, xv_2, xv_3, xm_p1, xm_p2, xq_fp, xq_fn, List.filter_nil, Nat.reduceBEq, Bool.not_true, Bool.not_false, Bool.and_true, Bool.and_false, Bool.false_and, Bool.true_and, if_true, if_false, Bool.false_eq_true, reduceIte, xc_i, xc_j, xc_r, xc_n, List.nil_append, List.cons_append, Option.toList_some, Option.toList_none, nI_ltJ, nI_leJ, nI_eqJ, nI_ltz, nI_gez, nI_gtz, nI_lez, nI_eqz, m1_ltz, m1_gez, true_imp_iff, false_imp_iff, true_and, and_true, ne_eq, not_false_eq_true, not_true_eq_false, Nat.reduceEqDiff, Nat.reduceLT, Nat.reduceLeDiff, xf_102_6 hF, a1, q', Bool.toNat_true, Bool.toNat_false]
          with_reducible refine xm_go_blk b_X12_isWronglyHidden_107 k_X12_isWronglyHidden_107 ?_
          refine by_aload_n rfl ?_
          refine by_getf cn_238 fl_12_16 (by first | exact rfl | assumption) (by decide) ?_
          refine by_iload rfl ?_
          simp (disch := first | exact Nat.ne_of_beq_eq_false rfl | exact rfl | omega) only [nI_add, xa_sub, xa_mul, pk_div, nm_mod, xa_shr, xa_and7, xa_and1, xa_and255, xa_by_and, nI_m1, Nat.add_sub_cancel, Nat.reducePow, Nat.zero_add, Nat.add_zero, Nat.reduceAdd, Nat.reduceMul, Nat.reduceSub, xf_same, xq_ff, xq_fo, xf_1, xf_2, xs_1, xs_2, xs_same, xq_so, xj_1, xj_2, xj_same, xq_jo, xq_sa1, xq_same, xq_other, upd_s, oI_n, oI_s, xf_102_6 hF, a1, q', Bool.toNat_true, Bool.toNat_false]
          first | refine by_iald (by first | exact rfl | assumption | exact ps_1 hpp | exact ps_2 hpp | exact ps_3 hpp | exact ps_4 hpp | exact ps_5 hpp | exact ps_6 hpp | exact ps_7 hpp | exact ps_8 hpp | exact ps_9 hpp | exact ps_10 hpp | exact ps_11 hpp | exact ps_15 hpp | exact ps_16 hpp | exact ps_17 hpp | exact ps_18 hpp | exact ps_19 hpp | exact ps_21 hpp | exact ps_22 hpp | exact ps_23 hpp | exact ps_24 hpp) ⟨by omega, by omega⟩ ?_ | refine by_tald rfl rfl ⟨by omega, by omega⟩ ?_
          refine by_iconst ci_1 ?_
          refine by_ic_ne 131 rfl ?_
          simp (disch := first | exact Nat.ne_of_beq_eq_false rfl | exact rfl | omega) only [nI_add, xa_sub, xa_mul, pk_div, nm_mod, xa_shr, xa_and7, xa_and1, xa_and255, xa_by_and, nI_m1, Nat.add_sub_cancel, Nat.reducePow, Nat.zero_add, Nat.add_zero, Nat.reduceAdd, Nat.reduceMul, Nat.reduceSub, xf_same, xq_ff, xq_fo, xf_1, xf_2, xs_1, xs_2, xs_same, xq_so, xj_1, xj_2, xj_same, xq_jo, xq_sa1, xq_same, xq_other, upd_s, oI_n, oI_s, xv_0, xv_1, xv_2, xv_3, xm_p1, xm_p2, xq_fp, xq_fn, List.filter_nil, Nat.reduceBEq, Bool.not_true, Bool.not_false, Bool.and_true, Bool.and_false, Bool.false_and, Bool.true_and, if_true, if_false, Bool.false_eq_true, reduceIte, xc_i, xc_j, xc_r, xc_n, List.nil_append, List.cons_append, Option.toList_some, Option.toList_none, nI_ltJ, nI_leJ, nI_eqJ, nI_ltz, nI_gez, nI_gtz, nI_lez, nI_eqz, m1_ltz, m1_gez, true_imp_iff, false_imp_iff, true_and, and_true, ne_eq, not_false_eq_true, not_true_eq_false, Nat.reduceEqDiff, Nat.reduceLT, Nat.reduceLeDiff, xf_102_6 hF, a1, q', Bool.toNat_true, Bool.toNat_false]
          with_reducible refine xm_go_blk b_X12_isWronglyHidden_131 k_X12_isWronglyHidden_131 ?_
          refine by_iload rfl ?_
          refine by_if_ne 141 rfl ?_
          simp (disch := first | exact Nat.ne_of_beq_eq_false rfl | exact rfl | omega) only [nI_add, xa_sub, xa_mul, pk_div, nm_mod, xa_shr, xa_and7, xa_and1, xa_and255, xa_by_and, nI_m1, Nat.add_sub_cancel, Nat.reducePow, Nat.zero_add, Nat.add_zero, Nat.reduceAdd, Nat.reduceMul, Nat.reduceSub, xf_same, xq_ff, xq_fo, xf_1, xf_2, xs_1, xs_2, xs_same, xq_so, xj_1, xj_2, xj_same, xq_jo, xq_sa1, xq_same, xq_other, upd_s, oI_n, oI_s, xv_0, xv_1, xv_2, xv_3, xm_p1, xm_p2, xq_fp, xq_fn, List.filter_nil, Nat.reduceBEq, Bool.not_true, Bool.not_false, Bool.and_true, Bool.and_false, Bool.false_and, Bool.true_and, if_true, if_false, Bool.false_eq_true, reduceIte, xc_i, xc_j, xc_r, xc_n, List.nil_append, List.cons_append, Option.toList_some, Option.toList_none, nI_ltJ, nI_leJ, nI_eqJ, nI_ltz, nI_gez, nI_gtz, nI_lez, nI_eqz, m1_ltz, m1_gez, true_imp_iff, false_imp_iff, true_and, and_true, ne_eq, not_false_eq_true, not_true_eq_false, Nat.reduceEqDiff, Nat.reduceLT, Nat.reduceLeDiff, xf_102_6 hF, a1, q', Bool.toNat_true, Bool.toNat_false]
          with_reducible refine xm_go_blk b_X12_isWronglyHidden_136 k_X12_isWronglyHidden_136 ?_
          refine by_iload rfl ?_
          refine by_if_eq 145 rfl ?_
          simp (disch := first | exact Nat.ne_of_beq_eq_false rfl | exact rfl | omega) only [nI_add, xa_sub, xa_mul, pk_div, nm_mod, xa_shr, xa_and7, xa_and1, xa_and255, xa_by_and, nI_m1, Nat.add_sub_cancel, Nat.reducePow, Nat.zero_add, Nat.add_zero, Nat.reduceAdd, Nat.reduceMul, Nat.reduceSub, xf_same, xq_ff, xq_fo, xf_1, xf_2, xs_1, xs_2, xs_same, xq_so, xj_1, xj_2, xj_same, xq_jo, xq_sa1, xq_same, xq_other, upd_s, oI_n, oI_s, xv_0, xv_1, xv_2, xv_3, xm_p1, xm_p2, xq_fp, xq_fn, List.filter_nil, Nat.reduceBEq, Bool.not_true, Bool.not_false, Bool.and_true, Bool.and_false, Bool.false_and, Bool.true_and, if_true, if_false, Bool.false_eq_true, reduceIte, xc_i, xc_j, xc_r, xc_n, List.nil_append, List.cons_append, Option.toList_some, Option.toList_none, nI_ltJ, nI_leJ, nI_eqJ, nI_ltz, nI_gez, nI_gtz, nI_lez, nI_eqz, m1_ltz, m1_gez, true_imp_iff, false_imp_iff, true_and, and_true, ne_eq, not_false_eq_true, not_true_eq_false, Nat.reduceEqDiff, Nat.reduceLT, Nat.reduceLeDiff, xf_102_6 hF, a1, q', Bool.toNat_true, Bool.toNat_false]
          with_reducible refine xm_go_blk b_X12_isWronglyHidden_141 k_X12_isWronglyHidden_141 ?_
          refine by_iconst ci_1 ?_
          refine by_goto 146 rfl ?_
          with_reducible refine xm_go_blk b_X12_isWronglyHidden_146 k_X12_isWronglyHidden_146 ?_
          refine by_istore_n (by rw [ml_238]; decide) ?_
          refine by_iinc (by rw [ml_238]; decide) rfl ci_1 ?_
          refine by_goto 19 rfl ?_
          simp (disch := first | exact Nat.ne_of_beq_eq_false rfl | exact rfl | omega) only [nI_add, xa_sub, xa_mul, pk_div, nm_mod, xa_shr, xa_and7, xa_and1, xa_and255, xa_by_and, nI_m1, Nat.add_sub_cancel, Nat.reducePow, Nat.zero_add, Nat.add_zero, Nat.reduceAdd, Nat.reduceMul, Nat.reduceSub, xf_same, xq_ff, xq_fo, xf_1, xf_2, xs_1, xs_2, xs_same, xq_so, xj_1, xj_2, xj_same, xq_jo, xq_sa1, xq_same, xq_other, upd_s, oI_n, oI_s, xv_0, xv_1, xv_2, xv_3, xm_p1, xm_p2, xq_fp, xq_fn, List.filter_nil, Nat.reduceBEq, Bool.not_true, Bool.not_false, Bool.and_true, Bool.and_false, Bool.false_and, Bool.true_and, if_true, if_false, Bool.false_eq_true, reduceIte, xc_i, xc_j, xc_r, xc_n, List.nil_append, List.cons_append, Option.toList_some, Option.toList_none, xf_102_6 hF, a1, q', Bool.toNat_true, Bool.toNat_false]
          exact xm_go_wk (by simp [Value.category]) hg
      · have hg := hgo 1 (by decide) ⟨fun _ => Or.inr (by simp [hwl, q, e1]), fun _ => rfl⟩
        with_reducible refine xm_go_blk b_X12_isWronglyHidden_101 k_X12_isWronglyHidden_101 ?_
        refine by_istore (by rw [ml_238]; decide) ?_
        refine by_iload_n rfl ?_
        refine by_if_ne 141 rfl ?_
        simp (disch := first | exact Nat.ne_of_beq_eq_false rfl | exact rfl | omega) only [nI_add, xa_sub, xa_mul, pk_div, nm_mod, xa_shr, xa_and7, xa_and1, xa_and255, xa_by_and, nI_m1, Nat.add_sub_cancel, Nat.reducePow, Nat.zero_add, Nat.add_zero, Nat.reduceAdd, Nat.reduceMul, Nat.reduceSub, xf_same, xq_ff, xq_fo, xf_1, xf_2, xs_1, xs_2, xs_same, xq_so, xj_1, xj_2, xj_same, xq_jo, xq_sa1, xq_same, xq_other, upd_s, oI_n, oI_s, xv_0, xv_1, xv_2, xv_3, xm_p1, xm_p2, xq_fp, xq_fn, List.filter_nil, Nat.reduceBEq, Bool.not_true, Bool.not_false, Bool.and_true, Bool.and_false, Bool.false_and, Bool.true_and, if_true, if_false, Bool.false_eq_true, reduceIte, xc_i, xc_j, xc_r, xc_n, List.nil_append, List.cons_append, Option.toList_some, Option.toList_none, nI_ltJ, nI_leJ, nI_eqJ, nI_ltz, nI_gez, nI_gtz, nI_lez, nI_eqz, m1_ltz, m1_gez, true_imp_iff, false_imp_iff, true_and, and_true, ne_eq, not_false_eq_true, not_true_eq_false, Nat.reduceEqDiff, Nat.reduceLT, Nat.reduceLeDiff, xf_102_6 hF, a1, q', Bool.toNat_true]
        with_reducible refine xm_go_blk b_X12_isWronglyHidden_107 k_X12_isWronglyHidden_107 ?_
        refine by_aload_n rfl ?_
        refine by_getf cn_238 fl_12_16 (by first | exact rfl | assumption) (by decide) ?_
        refine by_iload rfl ?_
        simp (disch := first | exact Nat.ne_of_beq_eq_false rfl | exact rfl | omega) only [nI_add, xa_sub, xa_mul, pk_div, nm_mod, xa_shr, xa_and7, xa_and1, xa_and255, xa_by_and, nI_m1, Nat.add_sub_cancel, Nat.reducePow, Nat.zero_add, Nat.add_zero, Nat.reduceAdd, Nat.reduceMul, Nat.reduceSub, xf_same, xq_ff, xq_fo, xf_1, xf_2, xs_1, xs_2, xs_same, xq_so, xj_1, xj_2, xj_same, xq_jo, xq_sa1, xq_same, xq_other, upd_s, oI_n, oI_s, xf_102_6 hF, a1, q', Bool.toNat_true]
        first | refine by_iald (by first | exact rfl | assumption | exact ps_1 hpp | exact ps_2 hpp | exact ps_3 hpp | exact ps_4 hpp | exact ps_5 hpp | exact ps_6 hpp | exact ps_7 hpp | exact ps_8 hpp | exact ps_9 hpp | exact ps_10 hpp | exact ps_11 hpp | exact ps_15 hpp | exact ps_16 hpp | exact ps_17 hpp | exact ps_18 hpp | exact ps_19 hpp | exact ps_21 hpp | exact ps_22 hpp | exact ps_23 hpp | exact ps_24 hpp) ⟨by omega, by omega⟩ ?_ | refine by_tald rfl rfl ⟨by omega, by omega⟩ ?_
        refine by_iconst ci_1 ?_
        refine by_ic_ne 131 rfl ?_
        simp (disch := first | exact Nat.ne_of_beq_eq_false rfl | exact rfl | omega) only [nI_add, xa_sub, xa_mul, pk_div, nm_mod, xa_shr, xa_and7, xa_and1, xa_and255, xa_by_and, nI_m1, Nat.add_sub_cancel, Nat.reducePow, Nat.zero_add, Nat.add_zero, Nat.reduceAdd, Nat.reduceMul, Nat.reduceSub, xf_same, xq_ff, xq_fo, xf_1, xf_2, xs_1, xs_2, xs_same, xq_so, xj_1, xj_2, xj_same, xq_jo, xq_sa1, xq_same, xq_other, upd_s, oI_n, oI_s, xv_0, xv_1, xv_2, xv_3, xm_p1, xm_p2, xq_fp, xq_fn, List.filter_nil, Nat.reduceBEq, Bool.not_true, Bool.not_false, Bool.and_true, Bool.and_false, Bool.false_and, Bool.true_and, if_true, if_false, Bool.false_eq_true, reduceIte, xc_i, xc_j, xc_r, xc_n, List.nil_append, List.cons_append, Option.toList_some, Option.toList_none, nI_ltJ, nI_leJ, nI_eqJ, nI_ltz, nI_gez, nI_gtz, nI_lez, nI_eqz, m1_ltz, m1_gez, true_imp_iff, false_imp_iff, true_and, and_true, ne_eq, not_false_eq_true, not_true_eq_false, Nat.reduceEqDiff, Nat.reduceLT, Nat.reduceLeDiff, xf_102_6 hF, a1, q', Bool.toNat_true]
        with_reducible refine xm_go_blk b_X12_isWronglyHidden_131 k_X12_isWronglyHidden_131 ?_
        refine by_iload rfl ?_
        refine by_if_ne 141 rfl ?_
        simp (disch := first | exact Nat.ne_of_beq_eq_false rfl | exact rfl | omega) only [nI_add, xa_sub, xa_mul, pk_div, nm_mod, xa_shr, xa_and7, xa_and1, xa_and255, xa_by_and, nI_m1, Nat.add_sub_cancel, Nat.reducePow, Nat.zero_add, Nat.add_zero, Nat.reduceAdd, Nat.reduceMul, Nat.reduceSub, xf_same, xq_ff, xq_fo, xf_1, xf_2, xs_1, xs_2, xs_same, xq_so, xj_1, xj_2, xj_same, xq_jo, xq_sa1, xq_same, xq_other, upd_s, oI_n, oI_s, xv_0, xv_1, xv_2, xv_3, xm_p1, xm_p2, xq_fp, xq_fn, List.filter_nil, Nat.reduceBEq, Bool.not_true, Bool.not_false, Bool.and_true, Bool.and_false, Bool.false_and, Bool.true_and, if_true, if_false, Bool.false_eq_true, reduceIte, xc_i, xc_j, xc_r, xc_n, List.nil_append, List.cons_append, Option.toList_some, Option.toList_none, nI_ltJ, nI_leJ, nI_eqJ, nI_ltz, nI_gez, nI_gtz, nI_lez, nI_eqz, m1_ltz, m1_gez, true_imp_iff, false_imp_iff, true_and, and_true, ne_eq, not_false_eq_true, not_true_eq_false, Nat.reduceEqDiff, Nat.reduceLT, Nat.reduceLeDiff, xf_102_6 hF, a1, q', Bool.toNat_true]
        with_reducible refine xm_go_blk b_X12_isWronglyHidden_141 k_X12_isWronglyHidden_141 ?_
        refine by_iconst ci_1 ?_
        refine by_goto 146 rfl ?_
        with_reducible refine xm_go_blk b_X12_isWronglyHidden_146 k_X12_isWronglyHidden_146 ?_
        refine by_istore_n (by rw [ml_238]; decide) ?_
        refine by_iinc (by rw [ml_238]; decide) rfl ci_1 ?_
        refine by_goto 19 rfl ?_
        simp (disch := first | exact Nat.ne_of_beq_eq_false rfl | exact rfl | omega) only [nI_add, xa_sub, xa_mul, pk_div, nm_mod, xa_shr, xa_and7, xa_and1, xa_and255, xa_by_and, nI_m1, Nat.add_sub_cancel, Nat.reducePow, Nat.zero_add, Nat.add_zero, Nat.reduceAdd, Nat.reduceMul, Nat.reduceSub, xf_same, xq_ff, xq_fo, xf_1, xf_2, xs_1, xs_2, xs_same, xq_so, xj_1, xj_2, xj_same, xq_jo, xq_sa1, xq_same, xq_other, upd_s, oI_n, oI_s, xv_0, xv_1, xv_2, xv_3, xm_p1, xm_p2, xq_fp, xq_fn, List.filter_nil, Nat.reduceBEq, Bool.not_true, Bool.not_false, Bool.and_true, Bool.and_false, Bool.false_and, Bool.true_and, if_true, if_false, Bool.false_eq_true, reduceIte, xc_i, xc_j, xc_r, xc_n, List.nil_append, List.cons_append, Option.toList_some, Option.toList_none, xf_102_6 hF, a1, q', Bool.toNat_true]
        exact xm_go_wk (by simp [Value.category]) hg
  · have hg := hgo 1 (by decide) ⟨fun _ => Or.inl rfl, fun _ => rfl⟩
    with_reducible refine xm_go_blk b_X12_isWronglyHidden_101 k_X12_isWronglyHidden_101 ?_
    refine by_istore (by rw [ml_238]; decide) ?_
    refine by_iload_n rfl ?_
    refine by_if_ne 141 rfl ?_
    simp (disch := first | exact Nat.ne_of_beq_eq_false rfl | exact rfl | omega) only [nI_add, xa_sub, xa_mul, pk_div, nm_mod, xa_shr, xa_and7, xa_and1, xa_and255, xa_by_and, nI_m1, Nat.add_sub_cancel, Nat.reducePow, Nat.zero_add, Nat.add_zero, Nat.reduceAdd, Nat.reduceMul, Nat.reduceSub, xf_same, xq_ff, xq_fo, xf_1, xf_2, xs_1, xs_2, xs_same, xq_so, xj_1, xj_2, xj_same, xq_jo, xq_sa1, xq_same, xq_other, upd_s, oI_n, oI_s, xv_0, xv_1, xv_2, xv_3, xm_p1, xm_p2, xq_fp, xq_fn, List.filter_nil, Nat.reduceBEq, Bool.not_true, Bool.not_false, Bool.and_true, Bool.and_false, Bool.false_and, Bool.true_and, if_true, if_false, Bool.false_eq_true, reduceIte, xc_i, xc_j, xc_r, xc_n, List.nil_append, List.cons_append, Option.toList_some, Option.toList_none, nI_ltJ, nI_leJ, nI_eqJ, nI_ltz, nI_gez, nI_gtz, nI_lez, nI_eqz, m1_ltz, m1_gez, true_imp_iff, false_imp_iff, true_and, and_true, ne_eq, not_false_eq_true, not_true_eq_false, Nat.reduceEqDiff, Nat.reduceLT, Nat.reduceLeDiff]
    with_reducible refine xm_go_blk b_X12_isWronglyHidden_141 k_X12_isWronglyHidden_141 ?_
    refine by_iconst ci_1 ?_
    refine by_goto 146 rfl ?_
    with_reducible refine xm_go_blk b_X12_isWronglyHidden_146 k_X12_isWronglyHidden_146 ?_
    refine by_istore_n (by rw [ml_238]; decide) ?_
    refine by_iinc (by rw [ml_238]; decide) rfl ci_1 ?_
    refine by_goto 19 rfl ?_
    simp (disch := first | exact Nat.ne_of_beq_eq_false rfl | exact rfl | omega) only [nI_add, xa_sub, xa_mul, pk_div, nm_mod, xa_shr, xa_and7, xa_and1, xa_and255, xa_by_and, nI_m1, Nat.add_sub_cancel, Nat.reducePow, Nat.zero_add, Nat.add_zero, Nat.reduceAdd, Nat.reduceMul, Nat.reduceSub, xf_same, xq_ff, xq_fo, xf_1, xf_2, xs_1, xs_2, xs_same, xq_so, xj_1, xj_2, xj_same, xq_jo, xq_sa1, xq_same, xq_other, upd_s, oI_n, oI_s, xv_0, xv_1, xv_2, xv_3, xm_p1, xm_p2, xq_fp, xq_fn, List.filter_nil, Nat.reduceBEq, Bool.not_true, Bool.not_false, Bool.and_true, Bool.and_false, Bool.false_and, Bool.true_and, if_true, if_false, Bool.false_eq_true, reduceIte, xc_i, xc_j, xc_r, xc_n, List.nil_append, List.cons_append, Option.toList_some, Option.toList_none]
    exact xm_go_wk (by simp [Value.category]) hg
theorem sp_isWronglyHidden {last : Nat} (hF : XF h) (hN : N ≤ 2000) (hla : last < N) (hc : chM h N cd c1 c2) (hcN : df_cN c1 c2 N) (ho : ndO cd c1 c2 N) (hl : h.2.2 102 14 = .int (nI L.length)) (hlen : L.length ≤ 2000) (hrow : ∀ i, i < L.length → h.1 113 i = nI (L.getD i 0)) (hLN : ∀ n ∈ L, n < N)
    (h1 : (cd last = 11 ∨ ∃ n ∈ L, hwl cd c1 c2 n = false) → post (some (.int (nI 1))) h) (h0 : cd last ≠ 11 → (∀ n ∈ L, hwl cd c1 c2 n = true) → post (some (.int (nI 0))) h) : xm_T (XE sc) (d + 2) 238 [.ref 102, .int (nI last)] h post := by
  have key : ∀ (B A : List Nat) (g : Nat), L = A ++ B → g ≤ 1 → (g = 1 ↔ cd last = 11 ∨ ∃ n ∈ A, hwl cd c1 c2 n = false) → xm_go (XE sc) (xm_T (XE sc) (d + 1)) 238 post 19 [(0, .ref 102), (1, .int (nI last)), (2, .int (nI g)), (3, .int (nI A.length))] [] h := by
    intro B
    induction B with
    | nil =>
      intro A g hAB hg1 hg
      rw [List.append_nil] at hAB
      subst hAB
      have hnar : narrow FieldType.boolean (Value.int (nI g)) = Value.int (nI g) := by rcases (by omega : g = 0 ∨ g = 1) with rfl | rfl <;> rfl
      with_reducible refine xm_go_blk b_X12_isWronglyHidden_19 k_X12_isWronglyHidden_19 ?_
      refine by_iload_n rfl ?_
      refine by_aload_n rfl ?_
      refine by_getf cn_238 fl_12_226 (by first | exact rfl | assumption) (by decide) ?_
      simp (disch := first | exact Nat.ne_of_beq_eq_false rfl | exact rfl | omega) only [nI_add, xa_sub, xa_mul, pk_div, nm_mod, xa_shr, xa_and7, xa_and1, xa_and255, xa_by_and, nI_m1, Nat.add_sub_cancel, Nat.reducePow, Nat.zero_add, Nat.add_zero, Nat.reduceAdd, Nat.reduceMul, Nat.reduceSub, xf_same, xq_ff, xq_fo, xf_1, xf_2, xs_1, xs_2, xs_same, xq_so, xj_1, xj_2, xj_same, xq_jo, xq_sa1, xq_same, xq_other, upd_s, oI_n, oI_s, hl]
      refine by_ic_ge 153 rfl ?_
      simp (disch := first | exact Nat.ne_of_beq_eq_false rfl | exact rfl | omega) only [nI_add, xa_sub, xa_mul, pk_div, nm_mod, xa_shr, xa_and7, xa_and1, xa_and255, xa_by_and, nI_m1, Nat.add_sub_cancel, Nat.reducePow, Nat.zero_add, Nat.add_zero, Nat.reduceAdd, Nat.reduceMul, Nat.reduceSub, xf_same, xq_ff, xq_fo, xf_1, xf_2, xs_1, xs_2, xs_same, xq_so, xj_1, xj_2, xj_same, xq_jo, xq_sa1, xq_same, xq_other, upd_s, oI_n, oI_s, xv_0, xv_1, xv_2, xv_3, xm_p1, xm_p2, xq_fp, xq_fn, List.filter_nil, Nat.reduceBEq, Bool.not_true, Bool.not_false, Bool.and_true, Bool.and_false, Bool.false_and, Bool.true_and, if_true, if_false, Bool.false_eq_true, reduceIte, xc_i, xc_j, xc_r, xc_n, List.nil_append, List.cons_append, Option.toList_some, Option.toList_none, nI_ltJ, nI_leJ, nI_eqJ, nI_ltz, nI_gez, nI_gtz, nI_lez, nI_eqz, m1_ltz, m1_gez, true_imp_iff, false_imp_iff, true_and, and_true, ne_eq, not_false_eq_true, not_true_eq_false, Nat.reduceEqDiff, Nat.reduceLT, Nat.reduceLeDiff, hl]
      refine ⟨fun c19 => ?_, fun c => absurd (by omega) c⟩
      with_reducible refine xm_go_blk b_X12_isWronglyHidden_153 k_X12_isWronglyHidden_153 ?_
      refine by_iload_n rfl ?_
      refine by_iret ry_238 (by first | rfl | assumption) ?_
      rcases (by omega : g = 0 ∨ g = 1) with rfl | rfl
      · refine h0 (fun z => absurd (hg.mpr (Or.inl z)) (by decide)) (fun n hn => ?_)
        cases e : hwl cd c1 c2 n
        · exact absurd (hg.mpr (Or.inr ⟨n, hn, e⟩)) (by decide)
        · rfl
      · exact h1 (hg.mp rfl)
    | cons n B ih =>
      intro A g hAB hg1 hg
      have hmem : n ∈ L := by rw [hAB]; simp
      have hA : A.length < L.length := by rw [hAB]; simp
      have hget : L.getD A.length 0 = n := by rw [hAB]; simp [List.getD]
      have e3 : h.1 113 A.length = nI n := by rw [hrow _ hA, hget]
      refine wh_1 (L := L) hF hN (hLN n hmem) hc hcN ho hl hA hlen e3 (wh_101 hF hN (hLN n hmem) hc hg1 (by omega) (fun g' hg1' hg' => ?_))
      have := ih (A ++ [n]) g' (by rw [hAB]; simp) hg1' (by
        rw [hg', hg]
        constructor
        · rintro ((z | ⟨m, m1, m2⟩) | z)
          · exact Or.inl z
          · exact Or.inr ⟨m, List.mem_append_left _ m1, m2⟩
          · exact Or.inr ⟨n, List.mem_append_right _ (by simp), z⟩
        · rintro (z | ⟨m, m1, m2⟩)
          · exact Or.inl (Or.inl z)
          · rcases List.mem_append.mp m1 with q | q
            · exact Or.inl (Or.inr ⟨m, q, m2⟩)
            · rw [List.mem_singleton.mp q] at m2
              exact Or.inr m2)
      rw [List.length_append] at this
      exact this
  obtain ⟨x1, x2, _⟩ := hc last hla
  refine xq_in rfl ?_
  simp only [xq_a0, xq_aI, xq_aJ, xq_aR, Nat.reduceAdd]
  by_cases q : cd last = 11
  · rw [q] at x1
    with_reducible refine xm_go_blk b_X12_isWronglyHidden_0 k_X12_isWronglyHidden_0 ?_
    refine by_aload_n rfl ?_
    refine by_getf cn_238 fl_12_16 (by first | exact rfl | assumption) (by decide) ?_
    refine by_iload_n rfl ?_
    simp (disch := first | exact Nat.ne_of_beq_eq_false rfl | exact rfl | omega) only [nI_add, xa_sub, xa_mul, pk_div, nm_mod, xa_shr, xa_and7, xa_and1, xa_and255, xa_by_and, nI_m1, Nat.add_sub_cancel, Nat.reducePow, Nat.zero_add, Nat.add_zero, Nat.reduceAdd, Nat.reduceMul, Nat.reduceSub, xf_same, xq_ff, xq_fo, xf_1, xf_2, xs_1, xs_2, xs_same, xq_so, xj_1, xj_2, xj_same, xq_jo, xq_sa1, xq_same, xq_other, upd_s, oI_n, oI_s, xf_102_6 hF, x1]
    first | refine by_iald (by first | exact rfl | assumption | exact ps_1 hpp | exact ps_2 hpp | exact ps_3 hpp | exact ps_4 hpp | exact ps_5 hpp | exact ps_6 hpp | exact ps_7 hpp | exact ps_8 hpp | exact ps_9 hpp | exact ps_10 hpp | exact ps_11 hpp | exact ps_15 hpp | exact ps_16 hpp | exact ps_17 hpp | exact ps_18 hpp | exact ps_19 hpp | exact ps_21 hpp | exact ps_22 hpp | exact ps_23 hpp | exact ps_24 hpp) ⟨by omega, by omega⟩ ?_ | refine by_tald rfl rfl ⟨by omega, by omega⟩ ?_
    refine by_bipush cb_11 ?_
    refine by_ic_ne 15 rfl ?_
    simp (disch := first | exact Nat.ne_of_beq_eq_false rfl | exact rfl | omega) only [nI_add, xa_sub, xa_mul, pk_div, nm_mod, xa_shr, xa_and7, xa_and1, xa_and255, xa_by_and, nI_m1, Nat.add_sub_cancel, Nat.reducePow, Nat.zero_add, Nat.add_zero, Nat.reduceAdd, Nat.reduceMul, Nat.reduceSub, xf_same, xq_ff, xq_fo, xf_1, xf_2, xs_1, xs_2, xs_same, xq_so, xj_1, xj_2, xj_same, xq_jo, xq_sa1, xq_same, xq_other, upd_s, oI_n, oI_s, xv_0, xv_1, xv_2, xv_3, xm_p1, xm_p2, xq_fp, xq_fn, List.filter_nil, Nat.reduceBEq, Bool.not_true, Bool.not_false, Bool.and_true, Bool.and_false, Bool.false_and, Bool.true_and, if_true, if_false, Bool.false_eq_true, reduceIte, xc_i, xc_j, xc_r, xc_n, List.nil_append, List.cons_append, Option.toList_some, Option.toList_none, nI_ltJ, nI_leJ, nI_eqJ, nI_ltz, nI_gez, nI_gtz, nI_lez, nI_eqz, m1_ltz, m1_gez, true_imp_iff, false_imp_iff, true_and, and_true, ne_eq, not_false_eq_true, not_true_eq_false, Nat.reduceEqDiff, Nat.reduceLT, Nat.reduceLeDiff, xf_102_6 hF, x1]
    with_reducible refine xm_go_blk b_X12_isWronglyHidden_11 k_X12_isWronglyHidden_11 ?_
    refine by_iconst ci_1 ?_
    refine by_goto 16 rfl ?_
    with_reducible refine xm_go_blk b_X12_isWronglyHidden_16 k_X12_isWronglyHidden_16 ?_
    refine by_istore_n (by rw [ml_238]; decide) ?_
    refine by_iconst ci_0 ?_
    refine by_istore_n (by rw [ml_238]; decide) ?_
    refine by_nil ?_
    simp (disch := first | exact Nat.ne_of_beq_eq_false rfl | exact rfl | omega) only [nI_add, xa_sub, xa_mul, pk_div, nm_mod, xa_shr, xa_and7, xa_and1, xa_and255, xa_by_and, nI_m1, Nat.add_sub_cancel, Nat.reducePow, Nat.zero_add, Nat.add_zero, Nat.reduceAdd, Nat.reduceMul, Nat.reduceSub, xf_same, xq_ff, xq_fo, xf_1, xf_2, xs_1, xs_2, xs_same, xq_so, xj_1, xj_2, xj_same, xq_jo, xq_sa1, xq_same, xq_other, upd_s, oI_n, oI_s, xv_0, xv_1, xv_2, xv_3, xm_p1, xm_p2, xq_fp, xq_fn, List.filter_nil, Nat.reduceBEq, Bool.not_true, Bool.not_false, Bool.and_true, Bool.and_false, Bool.false_and, Bool.true_and, if_true, if_false, Bool.false_eq_true, reduceIte, xc_i, xc_j, xc_r, xc_n, List.nil_append, List.cons_append, Option.toList_some, Option.toList_none, xf_102_6 hF, x1]
    exact xm_go_wk (by simp [Value.category]) (key L [] 1 rfl (by decide) ⟨fun _ => Or.inl q, fun _ => rfl⟩)
  · have q' : (cd last = 11) = False := eq_false q
    with_reducible refine xm_go_blk b_X12_isWronglyHidden_0 k_X12_isWronglyHidden_0 ?_
    refine by_aload_n rfl ?_
    refine by_getf cn_238 fl_12_16 (by first | exact rfl | assumption) (by decide) ?_
    refine by_iload_n rfl ?_
    simp (disch := first | exact Nat.ne_of_beq_eq_false rfl | exact rfl | omega) only [nI_add, xa_sub, xa_mul, pk_div, nm_mod, xa_shr, xa_and7, xa_and1, xa_and255, xa_by_and, nI_m1, Nat.add_sub_cancel, Nat.reducePow, Nat.zero_add, Nat.add_zero, Nat.reduceAdd, Nat.reduceMul, Nat.reduceSub, xf_same, xq_ff, xq_fo, xf_1, xf_2, xs_1, xs_2, xs_same, xq_so, xj_1, xj_2, xj_same, xq_jo, xq_sa1, xq_same, xq_other, upd_s, oI_n, oI_s, xf_102_6 hF, x1, q']
    first | refine by_iald (by first | exact rfl | assumption | exact ps_1 hpp | exact ps_2 hpp | exact ps_3 hpp | exact ps_4 hpp | exact ps_5 hpp | exact ps_6 hpp | exact ps_7 hpp | exact ps_8 hpp | exact ps_9 hpp | exact ps_10 hpp | exact ps_11 hpp | exact ps_15 hpp | exact ps_16 hpp | exact ps_17 hpp | exact ps_18 hpp | exact ps_19 hpp | exact ps_21 hpp | exact ps_22 hpp | exact ps_23 hpp | exact ps_24 hpp) ⟨by omega, by omega⟩ ?_ | refine by_tald rfl rfl ⟨by omega, by omega⟩ ?_
    refine by_bipush cb_11 ?_
    refine by_ic_ne 15 rfl ?_
    simp (disch := first | exact Nat.ne_of_beq_eq_false rfl | exact rfl | omega) only [nI_add, xa_sub, xa_mul, pk_div, nm_mod, xa_shr, xa_and7, xa_and1, xa_and255, xa_by_and, nI_m1, Nat.add_sub_cancel, Nat.reducePow, Nat.zero_add, Nat.add_zero, Nat.reduceAdd, Nat.reduceMul, Nat.reduceSub, xf_same, xq_ff, xq_fo, xf_1, xf_2, xs_1, xs_2, xs_same, xq_so, xj_1, xj_2, xj_same, xq_jo, xq_sa1, xq_same, xq_other, upd_s, oI_n, oI_s, xv_0, xv_1, xv_2, xv_3, xm_p1, xm_p2, xq_fp, xq_fn, List.filter_nil, Nat.reduceBEq, Bool.not_true, Bool.not_false, Bool.and_true, Bool.and_false, Bool.false_and, Bool.true_and, if_true, if_false, Bool.false_eq_true, reduceIte, xc_i, xc_j, xc_r, xc_n, List.nil_append, List.cons_append, Option.toList_some, Option.toList_none, nI_ltJ, nI_leJ, nI_eqJ, nI_ltz, nI_gez, nI_gtz, nI_lez, nI_eqz, m1_ltz, m1_gez, true_imp_iff, false_imp_iff, true_and, and_true, ne_eq, not_false_eq_true, not_true_eq_false, Nat.reduceEqDiff, Nat.reduceLT, Nat.reduceLeDiff, xf_102_6 hF, x1, q']
    with_reducible refine xm_go_blk b_X12_isWronglyHidden_15 k_X12_isWronglyHidden_15 ?_
    refine by_iconst ci_0 ?_
    refine by_nil ?_
    with_reducible refine xm_go_blk b_X12_isWronglyHidden_16 k_X12_isWronglyHidden_16 ?_
    refine by_istore_n (by rw [ml_238]; decide) ?_
    refine by_iconst ci_0 ?_
    refine by_istore_n (by rw [ml_238]; decide) ?_
    refine by_nil ?_
    simp (disch := first | exact Nat.ne_of_beq_eq_false rfl | exact rfl | omega) only [nI_add, xa_sub, xa_mul, pk_div, nm_mod, xa_shr, xa_and7, xa_and1, xa_and255, xa_by_and, nI_m1, Nat.add_sub_cancel, Nat.reducePow, Nat.zero_add, Nat.add_zero, Nat.reduceAdd, Nat.reduceMul, Nat.reduceSub, xf_same, xq_ff, xq_fo, xf_1, xf_2, xs_1, xs_2, xs_same, xq_so, xj_1, xj_2, xj_same, xq_jo, xq_sa1, xq_same, xq_other, upd_s, oI_n, oI_s, xv_0, xv_1, xv_2, xv_3, xm_p1, xm_p2, xq_fp, xq_fn, List.filter_nil, Nat.reduceBEq, Bool.not_true, Bool.not_false, Bool.and_true, Bool.and_false, Bool.false_and, Bool.true_and, if_true, if_false, Bool.false_eq_true, reduceIte, xc_i, xc_j, xc_r, xc_n, List.nil_append, List.cons_append, Option.toList_some, Option.toList_none, xf_102_6 hF, x1, q']
    exact xm_go_wk (by simp [Value.category]) (key L [] 0 rfl (by decide) ⟨fun z => absurd z (by decide), fun z => by rcases z with z | ⟨m, m1, _⟩; exact absurd z q; exact absurd m1 (by simp)⟩)
end MJ
