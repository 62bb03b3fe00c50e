/-! ===== say: the class's names ===== -/
def slX (v : Nat) : Int32 := (((lN v * (-7046029254386353131 : Int64)).toUInt64 >>> ((nI 40).toInt64.toUInt64 &&& Int64.toUInt64 63)).toInt64).toInt32 &&& nI 511
def slW (v : Nat) : Nat := (slX v).toNatClampNeg
theorem slW_e (v : Nat) : slX v = nI (slW v) ∧ slW v < 512 := by
  unfold slW
  obtain ⟨j, hj, e⟩ := pk_andE ((((lN v * (-7046029254386353131 : Int64)).toUInt64 >>> ((nI 40).toInt64.toUInt64 &&& Int64.toUInt64 63)).toInt64).toInt32) (m := 511) 9 (by decide)
  have e2 : slX v = nI j := e
  rw [e2, nI_clamp (by omega)]
  exact ⟨rfl, hj⟩
/-- names of the class -/
def nmX (h : xm_H) (NL : List (List Nat × Nat)) : Prop := h.2.2 46 7 = .int (nI NL.length) ∧ NL.length ≤ 4096 ∧ (∀ k, k < NL.length → h.2.1 48 k = lN (v8 (NL.getD k ([], 0)).1) ∧ h.1 49 k = nI (NL.getD k ([], 0)).2 ∧ isW (NL.getD k ([], 0)).1 ∧ (NL.getD k ([], 0)).2 < 2000) ∧ (NL.map (·.1)).Nodup ∧ hc_ok (h.1 51) (h.1 50) (fun k => slW (v8 (NL.getD k ([], 0)).1)) (· < NL.length) 512
theorem nmX_fr {S : List Nat} {T : List (Nat × Nat)} {h h' : xm_H} {NL : List (List Nat × Nat)} (hN : nmX h NL) (hf : Fr S T h h') (h1 : 48 ∉ S) (h2 : 49 ∉ S) (h3 : 50 ∉ S) (h4 : 51 ∉ S) (h5 : (46, 7) ∉ T) : nmX h' NL := by
  obtain ⟨n1, n2, n3, n4, n5⟩ := hN
  exact ⟨by rw [hf.2.2 _ _ h5]; exact n1, n2, fun k hk => by rw [hf.2.1 _ h1, hf.1 _ h2]; exact n3 k hk, n4, by rw [hf.1 _ h4, hf.1 _ h3]; exact n5⟩
theorem gd_mem2 {NL : List (List Nat × Nat)} {k : Nat} (hk : k < NL.length) : NL.getD k ([], 0) ∈ NL := by
  rw [List.getD_eq_getElem?_getD, List.getElem?_eq_getElem hk]
  exact List.getElem_mem hk
section SY
variable {sc : xm_Sc} {d v : Nat} {w : List Nat} {NL : List (List Nat × Nat)} {h : xm_H} {post : xm_Po}
theorem sp_slotOf (hp : post (some (.int (nI (slW v)))) h) : xm_T (XE sc) (d + 1) 158 [.long (lN v)] h post := by
  rw [← (slW_e v).1] at hp
  refine xq_in rfl ?_
  simp only [xq_a0, xq_aI, xq_aJ, xq_aR, Nat.reduceAdd]
  with_reducible refine xm_go_blk b_X9_slotOf_0 k_X9_slotOf_0 ?_
  refine by_lload_n rfl ?_
  refine by_ldc2 cn_158 kl_9_143 rfl ?_
  refine by_lmul ?_
  refine by_bipush cb_40 ?_
  refine by_lushr ?_
  refine by_l2i ?_
  refine by_sipush cs_511 ?_
  refine by_iand ?_
  simp (disch := first | exact Nat.ne_of_beq_eq_false rfl | exact rfl | omega) only [nI_add, xa_sub, xa_mul, pk_div, nm_mod, xa_shr, xa_and7, xa_and1, xa_and255, xa_by_and, nI_m1, Nat.add_sub_cancel, Nat.reducePow, Nat.zero_add, Nat.add_zero, Nat.reduceAdd, Nat.reduceMul, Nat.reduceSub, xf_same, xq_ff, xq_fo, xf_1, xf_2, xs_1, xs_2, xs_same, xq_so, xj_1, xj_2, xj_same, xq_jo, xq_sa1, xq_same, xq_other, upd_s, oI_n, oI_s]
  refine by_iret ry_158 (by first | rfl | assumption) ?_
  exact hp
theorem sp_nodeOf (hF : XF h) (hN : nmX h NL) (hw : isW w) (hp : post (some (.int (oI (nmF w NL)))) h) : xm_T (XE sc) (d + 2) 148 [.ref 46, .long (lN (v8 w))] h post := by
  obtain ⟨n1, n2, n3, n4, n5⟩ := hN
  have h64 := v8_lt hw
  obtain ⟨s1, s2⟩ := slW_e (v8 w)
  obtain ⟨cs, c1, c2, c3⟩ := n5 _ s2
  have key : ∀ (cs' : List Nat) (x : Int32) (i : Nat), hc_lk (h.1 50) x cs' → (∀ j ∈ cs', j < NL.length) → i + cs'.length ≤ NL.length → (∀ j ∈ cs, j ∈ cs' ∨ (NL.getD j ([], 0)).1 ≠ w) → xm_go (XE sc) (xm_T (XE sc) (d + 1)) 148 post 13 [(4, .int (nI i)), (3, .int x), (0, .ref 46), (1, .long (lN (v8 w)))] [] h := by
    intro cs'
    induction cs' with
    | nil =>
      intro x i hx _ hi hno
      have hx : x = -1 := hx
      subst hx
      have hn : nmF w NL = none := nmF_out (fun q hq e => by
        obtain ⟨j, hj, rfl⟩ := List.getElem_of_mem hq
        have ej : NL.getD j ([], 0) = NL[j] := by rw [List.getD_eq_getElem?_getD, List.getElem?_eq_getElem hj]; rfl
        rcases hno j ((c3 j).mpr ⟨hj, by simp only [ej, e]⟩) with z | z
        · cases z
        · exact z (by rw [ej]; exact e))
      rw [hn] at hp
      simp only [List.length_nil, Nat.add_zero] at hi
      by_cases z : i = 4096
      · subst z
        with_reducible refine xm_go_blk b_X9_nodeOf_13 k_X9_nodeOf_13 ?_
        refine by_iload rfl ?_
        refine by_sipush cs_4096 ?_
        refine by_ic_ge 56 rfl ?_
        simp (disch := first | exact Nat.ne_of_beq_eq_false rfl | exact rfl | omega) only [nI_add, xa_sub, xa_mul, pk_div, nm_mod, xa_shr, xa_and7, xa_and1, xa_and255, xa_by_and, nI_m1, Nat.add_sub_cancel, Nat.reducePow, Nat.zero_add, Nat.add_zero, Nat.reduceAdd, Nat.reduceMul, Nat.reduceSub, xf_same, xq_ff, xq_fo, xf_1, xf_2, xs_1, xs_2, xs_same, xq_so, xj_1, xj_2, xj_same, xq_jo, xq_sa1, xq_same, xq_other, upd_s, oI_n, oI_s, xv_0, xv_1, xv_2, xv_3, xm_p1, xm_p2, xq_fp, xq_fn, List.filter_nil, Nat.reduceBEq, Bool.not_true, Bool.not_false, Bool.and_true, Bool.and_false, Bool.false_and, Bool.true_and, if_true, if_false, Bool.false_eq_true, reduceIte, xc_i, xc_j, xc_r, xc_n, List.nil_append, List.cons_append, Option.toList_some, Option.toList_none, nI_ltJ, nI_leJ, nI_eqJ, nI_ltz, nI_gez, nI_gtz, nI_lez, nI_eqz, m1_ltz, m1_gez, true_imp_iff, false_imp_iff, true_and, and_true, ne_eq, not_false_eq_true, not_true_eq_false, Nat.reduceEqDiff, Nat.reduceLT, Nat.reduceLeDiff]
        with_reducible refine xm_go_blk b_X9_nodeOf_56 k_X9_nodeOf_56 ?_
        refine by_iconst ci_m1 ?_
        refine by_iret ry_148 (by first | rfl | assumption) ?_
        exact hp
      · with_reducible refine xm_go_blk b_X9_nodeOf_13 k_X9_nodeOf_13 ?_
        refine by_iload rfl ?_
        refine by_sipush cs_4096 ?_
        refine by_ic_ge 56 rfl ?_
        simp (disch := first | exact Nat.ne_of_beq_eq_false rfl | exact rfl | omega) only [nI_add, xa_sub, xa_mul, pk_div, nm_mod, xa_shr, xa_and7, xa_and1, xa_and255, xa_by_and, nI_m1, Nat.add_sub_cancel, Nat.reducePow, Nat.zero_add, Nat.add_zero, Nat.reduceAdd, Nat.reduceMul, Nat.reduceSub, xf_same, xq_ff, xq_fo, xf_1, xf_2, xs_1, xs_2, xs_same, xq_so, xj_1, xj_2, xj_same, xq_jo, xq_sa1, xq_same, xq_other, upd_s, oI_n, oI_s, xv_0, xv_1, xv_2, xv_3, xm_p1, xm_p2, xq_fp, xq_fn, List.filter_nil, Nat.reduceBEq, Bool.not_true, Bool.not_false, Bool.and_true, Bool.and_false, Bool.false_and, Bool.true_and, if_true, if_false, Bool.false_eq_true, reduceIte, xc_i, xc_j, xc_r, xc_n, List.nil_append, List.cons_append, Option.toList_some, Option.toList_none, nI_ltJ, nI_leJ, nI_eqJ, nI_ltz, nI_gez, nI_gtz, nI_lez, nI_eqz, m1_ltz, m1_gez, true_imp_iff, false_imp_iff, true_and, and_true, ne_eq, not_false_eq_true, not_true_eq_false, Nat.reduceEqDiff, Nat.reduceLT, Nat.reduceLeDiff]
        refine ⟨fun c => absurd c (by omega), fun c13 => ?_⟩
        with_reducible refine xm_go_blk b_X9_nodeOf_21 k_X9_nodeOf_21 ?_
        refine by_iload_n rfl ?_
        refine by_if_lt 56 rfl ?_
        simp (disch := first | exact Nat.ne_of_beq_eq_false rfl | exact rfl | omega) only [nI_add, xa_sub, xa_mul, pk_div, nm_mod, xa_shr, xa_and7, xa_and1, xa_and255, xa_by_and, nI_m1, Nat.add_sub_cancel, Nat.reducePow, Nat.zero_add, Nat.add_zero, Nat.reduceAdd, Nat.reduceMul, Nat.reduceSub, xf_same, xq_ff, xq_fo, xf_1, xf_2, xs_1, xs_2, xs_same, xq_so, xj_1, xj_2, xj_same, xq_jo, xq_sa1, xq_same, xq_other, upd_s, oI_n, oI_s, xv_0, xv_1, xv_2, xv_3, xm_p1, xm_p2, xq_fp, xq_fn, List.filter_nil, Nat.reduceBEq, Bool.not_true, Bool.not_false, Bool.and_true, Bool.and_false, Bool.false_and, Bool.true_and, if_true, if_false, Bool.false_eq_true, reduceIte, xc_i, xc_j, xc_r, xc_n, List.nil_append, List.cons_append, Option.toList_some, Option.toList_none, nI_ltJ, nI_leJ, nI_eqJ, nI_ltz, nI_gez, nI_gtz, nI_lez, nI_eqz, m1_ltz, m1_gez, true_imp_iff, false_imp_iff, true_and, and_true, ne_eq, not_false_eq_true, not_true_eq_false, Nat.reduceEqDiff, Nat.reduceLT, Nat.reduceLeDiff]
        with_reducible refine xm_go_blk b_X9_nodeOf_56 k_X9_nodeOf_56 ?_
        refine by_iconst ci_m1 ?_
        refine by_iret ry_148 (by first | rfl | assumption) ?_
        exact hp
    | cons j cs' ih =>
      intro x i hx hlt hi hno
      obtain ⟨hx, hx'⟩ := hx
      subst hx
      have hj := hlt j (List.mem_cons_self ..)
      simp only [List.length_cons] at hi
      obtain ⟨a1, a2, a3, a4⟩ := n3 j hj
      have e2 := v8_lt a3
      by_cases q : (NL.getD j ([], 0)).1 = w
      · have q1 : (v8 (NL.getD j ([], 0)).1 = v8 w) = True := eq_true (by rw [q])
        have hn : nmF w NL = some (NL.getD j ([], 0)).2 := nmF_of n4 (by rw [← q]; exact gd_mem2 hj)
        rw [hn] at hp
        with_reducible refine xm_go_blk b_X9_nodeOf_13 k_X9_nodeOf_13 ?_
        refine by_iload rfl ?_
        refine by_sipush cs_4096 ?_
        refine by_ic_ge 56 rfl ?_
        simp (disch := first | exact Nat.ne_of_beq_eq_false rfl | exact rfl | omega) only [nI_add, xa_sub, xa_mul, pk_div, nm_mod, xa_shr, xa_and7, xa_and1, xa_and255, xa_by_and, nI_m1, Nat.add_sub_cancel, Nat.reducePow, Nat.zero_add, Nat.add_zero, Nat.reduceAdd, Nat.reduceMul, Nat.reduceSub, xf_same, xq_ff, xq_fo, xf_1, xf_2, xs_1, xs_2, xs_same, xq_so, xj_1, xj_2, xj_same, xq_jo, xq_sa1, xq_same, xq_other, upd_s, oI_n, oI_s, xv_0, xv_1, xv_2, xv_3, xm_p1, xm_p2, xq_fp, xq_fn, List.filter_nil, Nat.reduceBEq, Bool.not_true, Bool.not_false, Bool.and_true, Bool.and_false, Bool.false_and, Bool.true_and, if_true, if_false, Bool.false_eq_true, reduceIte, xc_i, xc_j, xc_r, xc_n, List.nil_append, List.cons_append, Option.toList_some, Option.toList_none, nI_ltJ, nI_leJ, nI_eqJ, nI_ltz, nI_gez, nI_gtz, nI_lez, nI_eqz, m1_ltz, m1_gez, true_imp_iff, false_imp_iff, true_and, and_true, ne_eq, not_false_eq_true, not_true_eq_false, Nat.reduceEqDiff, Nat.reduceLT, Nat.reduceLeDiff, xf_46_3 hF, a1, lcz e2 h64, q1]
        refine ⟨fun c => absurd c (by omega), fun c13 => ?_⟩
        with_reducible refine xm_go_blk b_X9_nodeOf_21 k_X9_nodeOf_21 ?_
        refine by_iload_n rfl ?_
        refine by_if_lt 56 rfl ?_
        simp (disch := first | exact Nat.ne_of_beq_eq_false rfl | exact rfl | omega) only [nI_add, xa_sub, xa_mul, pk_div, nm_mod, xa_shr, xa_and7, xa_and1, xa_and255, xa_by_and, nI_m1, Nat.add_sub_cancel, Nat.reducePow, Nat.zero_add, Nat.add_zero, Nat.reduceAdd, Nat.reduceMul, Nat.reduceSub, xf_same, xq_ff, xq_fo, xf_1, xf_2, xs_1, xs_2, xs_same, xq_so, xj_1, xj_2, xj_same, xq_jo, xq_sa1, xq_same, xq_other, upd_s, oI_n, oI_s, xv_0, xv_1, xv_2, xv_3, xm_p1, xm_p2, xq_fp, xq_fn, List.filter_nil, Nat.reduceBEq, Bool.not_true, Bool.not_false, Bool.and_true, Bool.and_false, Bool.false_and, Bool.true_and, if_true, if_false, Bool.false_eq_true, reduceIte, xc_i, xc_j, xc_r, xc_n, List.nil_append, List.cons_append, Option.toList_some, Option.toList_none, nI_ltJ, nI_leJ, nI_eqJ, nI_ltz, nI_gez, nI_gtz, nI_lez, nI_eqz, m1_ltz, m1_gez, true_imp_iff, false_imp_iff, true_and, and_true, ne_eq, not_false_eq_true, not_true_eq_false, Nat.reduceEqDiff, Nat.reduceLT, Nat.reduceLeDiff, xf_46_3 hF, a1, lcz e2 h64, q1]
        with_reducible refine xm_go_blk b_X9_nodeOf_25 k_X9_nodeOf_25 ?_
        refine by_aload_n rfl ?_
        refine by_getf cn_148 fl_9_15 (by first | exact rfl | assumption) (by decide) ?_
        refine by_iload_n rfl ?_
        simp (disch := first | exact Nat.ne_of_beq_eq_false rfl | exact rfl | omega) only [nI_add, xa_sub, xa_mul, pk_div, nm_mod, xa_shr, xa_and7, xa_and1, xa_and255, xa_by_and, nI_m1, Nat.add_sub_cancel, Nat.reducePow, Nat.zero_add, Nat.add_zero, Nat.reduceAdd, Nat.reduceMul, Nat.reduceSub, xf_same, xq_ff, xq_fo, xf_1, xf_2, xs_1, xs_2, xs_same, xq_so, xj_1, xj_2, xj_same, xq_jo, xq_sa1, xq_same, xq_other, upd_s, oI_n, oI_s, xf_46_3 hF, a1, lcz e2 h64, q1]
        first | refine by_lald (by first | exact rfl | assumption) ⟨by omega, by omega⟩ ?_ | refine by_tlald rfl rfl ⟨by omega, by omega⟩ ?_
        refine by_lload_n rfl ?_
        refine by_lcmp ?_
        refine by_if_ne 43 rfl ?_
        simp (disch := first | exact Nat.ne_of_beq_eq_false rfl | exact rfl | omega) only [nI_add, xa_sub, xa_mul, pk_div, nm_mod, xa_shr, xa_and7, xa_and1, xa_and255, xa_by_and, nI_m1, Nat.add_sub_cancel, Nat.reducePow, Nat.zero_add, Nat.add_zero, Nat.reduceAdd, Nat.reduceMul, Nat.reduceSub, xf_same, xq_ff, xq_fo, xf_1, xf_2, xs_1, xs_2, xs_same, xq_so, xj_1, xj_2, xj_same, xq_jo, xq_sa1, xq_same, xq_other, upd_s, oI_n, oI_s, xv_0, xv_1, xv_2, xv_3, xm_p1, xm_p2, xq_fp, xq_fn, List.filter_nil, Nat.reduceBEq, Bool.not_true, Bool.not_false, Bool.and_true, Bool.and_false, Bool.false_and, Bool.true_and, if_true, if_false, Bool.false_eq_true, reduceIte, xc_i, xc_j, xc_r, xc_n, List.nil_append, List.cons_append, Option.toList_some, Option.toList_none, nI_ltJ, nI_leJ, nI_eqJ, nI_ltz, nI_gez, nI_gtz, nI_lez, nI_eqz, m1_ltz, m1_gez, true_imp_iff, false_imp_iff, true_and, and_true, ne_eq, not_false_eq_true, not_true_eq_false, Nat.reduceEqDiff, Nat.reduceLT, Nat.reduceLeDiff, xf_46_3 hF, a1, lcz e2 h64, q1]
        with_reducible refine xm_go_blk b_X9_nodeOf_36 k_X9_nodeOf_36 ?_
        refine by_aload_n rfl ?_
        refine by_getf cn_148 fl_9_19 (by first | exact rfl | assumption) (by decide) ?_
        refine by_iload_n rfl ?_
        simp (disch := first | exact Nat.ne_of_beq_eq_false rfl | exact rfl | omega) only [nI_add, xa_sub, xa_mul, pk_div, nm_mod, xa_shr, xa_and7, xa_and1, xa_and255, xa_by_and, nI_m1, Nat.add_sub_cancel, Nat.reducePow, Nat.zero_add, Nat.add_zero, Nat.reduceAdd, Nat.reduceMul, Nat.reduceSub, xf_same, xq_ff, xq_fo, xf_1, xf_2, xs_1, xs_2, xs_same, xq_so, xj_1, xj_2, xj_same, xq_jo, xq_sa1, xq_same, xq_other, upd_s, oI_n, oI_s, xf_46_4 hF, a2]
        first | refine by_iald (by first | exact rfl | assumption | exact ps_1 hpp | exact ps_2 hpp | exact ps_3 hpp | exact ps_4 hpp | exact ps_5 hpp | exact ps_6 hpp | exact ps_7 hpp | exact ps_8 hpp | exact ps_9 hpp | exact ps_10 hpp | exact ps_11 hpp | exact ps_15 hpp | exact ps_16 hpp | exact ps_17 hpp | exact ps_18 hpp | exact ps_19 hpp | exact ps_21 hpp | exact ps_22 hpp | exact ps_23 hpp | exact ps_24 hpp) ⟨by omega, by omega⟩ ?_ | refine by_tald rfl rfl ⟨by omega, by omega⟩ ?_
        simp (disch := first | exact Nat.ne_of_beq_eq_false rfl | exact rfl | omega) only [nI_add, xa_sub, xa_mul, pk_div, nm_mod, xa_shr, xa_and7, xa_and1, xa_and255, xa_by_and, nI_m1, Nat.add_sub_cancel, Nat.reducePow, Nat.zero_add, Nat.add_zero, Nat.reduceAdd, Nat.reduceMul, Nat.reduceSub, xf_same, xq_ff, xq_fo, xf_1, xf_2, xs_1, xs_2, xs_same, xq_so, xj_1, xj_2, xj_same, xq_jo, xq_sa1, xq_same, xq_other, upd_s, oI_n, oI_s, xf_46_4 hF, a2]
        refine by_iret ry_148 (by first | rfl | assumption) ?_
        exact hp
      · have q1 : (v8 (NL.getD j ([], 0)).1 = v8 w) = False := eq_false (fun z => q (v8_inj a3 hw z))
        with_reducible refine xm_go_blk b_X9_nodeOf_13 k_X9_nodeOf_13 ?_
        refine by_iload rfl ?_
        refine by_sipush cs_4096 ?_
        refine by_ic_ge 56 rfl ?_
        simp (disch := first | exact Nat.ne_of_beq_eq_false rfl | exact rfl | omega) only [nI_add, xa_sub, xa_mul, pk_div, nm_mod, xa_shr, xa_and7, xa_and1, xa_and255, xa_by_and, nI_m1, Nat.add_sub_cancel, Nat.reducePow, Nat.zero_add, Nat.add_zero, Nat.reduceAdd, Nat.reduceMul, Nat.reduceSub, xf_same, xq_ff, xq_fo, xf_1, xf_2, xs_1, xs_2, xs_same, xq_so, xj_1, xj_2, xj_same, xq_jo, xq_sa1, xq_same, xq_other, upd_s, oI_n, oI_s, xv_0, xv_1, xv_2, xv_3, xm_p1, xm_p2, xq_fp, xq_fn, List.filter_nil, Nat.reduceBEq, Bool.not_true, Bool.not_false, Bool.and_true, Bool.and_false, Bool.false_and, Bool.true_and, if_true, if_false, Bool.false_eq_true, reduceIte, xc_i, xc_j, xc_r, xc_n, List.nil_append, List.cons_append, Option.toList_some, Option.toList_none, nI_ltJ, nI_leJ, nI_eqJ, nI_ltz, nI_gez, nI_gtz, nI_lez, nI_eqz, m1_ltz, m1_gez, true_imp_iff, false_imp_iff, true_and, and_true, ne_eq, not_false_eq_true, not_true_eq_false, Nat.reduceEqDiff, Nat.reduceLT, Nat.reduceLeDiff, xf_46_3 hF, a1, lcz e2 h64, q1, xf_46_5 hF]
        refine ⟨fun c => absurd c (by omega), fun c13 => ?_⟩
        with_reducible refine xm_go_blk b_X9_nodeOf_21 k_X9_nodeOf_21 ?_
        refine by_iload_n rfl ?_
        refine by_if_lt 56 rfl ?_
        simp (disch := first | exact Nat.ne_of_beq_eq_false rfl | exact rfl | omega) only [nI_add, xa_sub, xa_mul, pk_div, nm_mod, xa_shr, xa_and7, xa_and1, xa_and255, xa_by_and, nI_m1, Nat.add_sub_cancel, Nat.reducePow, Nat.zero_add, Nat.add_zero, Nat.reduceAdd, Nat.reduceMul, Nat.reduceSub, xf_same, xq_ff, xq_fo, xf_1, xf_2, xs_1, xs_2, xs_same, xq_so, xj_1, xj_2, xj_same, xq_jo, xq_sa1, xq_same, xq_other, upd_s, oI_n, oI_s, xv_0, xv_1, xv_2, xv_3, xm_p1, xm_p2, xq_fp, xq_fn, List.filter_nil, Nat.reduceBEq, Bool.not_true, Bool.not_false, Bool.and_true, Bool.and_false, Bool.false_and, Bool.true_and, if_true, if_false, Bool.false_eq_true, reduceIte, xc_i, xc_j, xc_r, xc_n, List.nil_append, List.cons_append, Option.toList_some, Option.toList_none, nI_ltJ, nI_leJ, nI_eqJ, nI_ltz, nI_gez, nI_gtz, nI_lez, nI_eqz, m1_ltz, m1_gez, true_imp_iff, false_imp_iff, true_and, and_true, ne_eq, not_false_eq_true, not_true_eq_false, Nat.reduceEqDiff, Nat.reduceLT, Nat.reduceLeDiff, xf_46_3 hF, a1, lcz e2 h64, q1, xf_46_5 hF]
        with_reducible refine xm_go_blk b_X9_nodeOf_25 k_X9_nodeOf_25 ?_
        refine by_aload_n rfl ?_
        refine by_getf cn_148 fl_9_15 (by first | exact rfl | assumption) (by decide) ?_
        refine by_iload_n rfl ?_
        simp (disch := first | exact Nat.ne_of_beq_eq_false rfl | exact rfl | omega) only [nI_add, xa_sub, xa_mul, pk_div, nm_mod, xa_shr, xa_and7, xa_and1, xa_and255, xa_by_and, nI_m1, Nat.add_sub_cancel, Nat.reducePow, Nat.zero_add, Nat.add_zero, Nat.reduceAdd, Nat.reduceMul, Nat.reduceSub, xf_same, xq_ff, xq_fo, xf_1, xf_2, xs_1, xs_2, xs_same, xq_so, xj_1, xj_2, xj_same, xq_jo, xq_sa1, xq_same, xq_other, upd_s, oI_n, oI_s, xf_46_3 hF, a1, lcz e2 h64, q1, xf_46_5 hF]
        first | refine by_lald (by first | exact rfl | assumption) ⟨by omega, by omega⟩ ?_ | refine by_tlald rfl rfl ⟨by omega, by omega⟩ ?_
        refine by_lload_n rfl ?_
        refine by_lcmp ?_
        refine by_if_ne 43 rfl ?_
        simp (disch := first | exact Nat.ne_of_beq_eq_false rfl | exact rfl | omega) only [nI_add, xa_sub, xa_mul, pk_div, nm_mod, xa_shr, xa_and7, xa_and1, xa_and255, xa_by_and, nI_m1, Nat.add_sub_cancel, Nat.reducePow, Nat.zero_add, Nat.add_zero, Nat.reduceAdd, Nat.reduceMul, Nat.reduceSub, xf_same, xq_ff, xq_fo, xf_1, xf_2, xs_1, xs_2, xs_same, xq_so, xj_1, xj_2, xj_same, xq_jo, xq_sa1, xq_same, xq_other, upd_s, oI_n, oI_s, xv_0, xv_1, xv_2, xv_3, xm_p1, xm_p2, xq_fp, xq_fn, List.filter_nil, Nat.reduceBEq, Bool.not_true, Bool.not_false, Bool.and_true, Bool.and_false, Bool.false_and, Bool.true_and, if_true, if_false, Bool.false_eq_true, reduceIte, xc_i, xc_j, xc_r, xc_n, List.nil_append, List.cons_append, Option.toList_some, Option.toList_none, nI_ltJ, nI_leJ, nI_eqJ, nI_ltz, nI_gez, nI_gtz, nI_lez, nI_eqz, m1_ltz, m1_gez, true_imp_iff, false_imp_iff, true_and, and_true, ne_eq, not_false_eq_true, not_true_eq_false, Nat.reduceEqDiff, Nat.reduceLT, Nat.reduceLeDiff, xf_46_3 hF, a1, lcz e2 h64, q1, xf_46_5 hF]
        with_reducible refine xm_go_blk b_X9_nodeOf_43 k_X9_nodeOf_43 ?_
        refine by_aload_n rfl ?_
        refine by_getf cn_148 fl_9_22 (by first | exact rfl | assumption) (by decide) ?_
        refine by_iload_n rfl ?_
        simp (disch := first | exact Nat.ne_of_beq_eq_false rfl | exact rfl | omega) only [nI_add, xa_sub, xa_mul, pk_div, nm_mod, xa_shr, xa_and7, xa_and1, xa_and255, xa_by_and, nI_m1, Nat.add_sub_cancel, Nat.reducePow, Nat.zero_add, Nat.add_zero, Nat.reduceAdd, Nat.reduceMul, Nat.reduceSub, xf_same, xq_ff, xq_fo, xf_1, xf_2, xs_1, xs_2, xs_same, xq_so, xj_1, xj_2, xj_same, xq_jo, xq_sa1, xq_same, xq_other, upd_s, oI_n, oI_s, xf_46_3 hF, a1, lcz e2 h64, q1, xf_46_5 hF]
        first | refine by_iald (by first | exact rfl | assumption | exact ps_1 hpp | exact ps_2 hpp | exact ps_3 hpp | exact ps_4 hpp | exact ps_5 hpp | exact ps_6 hpp | exact ps_7 hpp | exact ps_8 hpp | exact ps_9 hpp | exact ps_10 hpp | exact ps_11 hpp | exact ps_15 hpp | exact ps_16 hpp | exact ps_17 hpp | exact ps_18 hpp | exact ps_19 hpp | exact ps_21 hpp | exact ps_22 hpp | exact ps_23 hpp | exact ps_24 hpp) ⟨by omega, by omega⟩ ?_ | refine by_tald rfl rfl ⟨by omega, by omega⟩ ?_
        refine by_istore_n (by rw [ml_148]; decide) ?_
        refine by_iinc (by rw [ml_148]; decide) rfl ci_1 ?_
        refine by_goto 13 rfl ?_
        try simp (disch := first | exact Nat.ne_of_beq_eq_false rfl | exact rfl | omega) only [nI_add, xa_sub, xa_mul, pk_div, nm_mod, xa_shr, xa_and7, xa_and1, xa_and255, xa_by_and, nI_m1, Nat.add_sub_cancel, Nat.reducePow, Nat.zero_add, Nat.add_zero, Nat.reduceAdd, Nat.reduceMul, Nat.reduceSub, xf_same, xq_ff, xq_fo, xf_1, xf_2, xs_1, xs_2, xs_same, xq_so, xj_1, xj_2, xj_same, xq_jo, xq_sa1, xq_same, xq_other, upd_s, oI_n, oI_s, xv_0, xv_1, xv_2, xv_3, xm_p1, xm_p2, xq_fp, xq_fn, List.filter_nil, Nat.reduceBEq, Bool.not_true, Bool.not_false, Bool.and_true, Bool.and_false, Bool.false_and, Bool.true_and, if_true, if_false, Bool.false_eq_true, reduceIte, xc_i, xc_j, xc_r, xc_n, List.nil_append, List.cons_append, Option.toList_some, Option.toList_none, xf_46_3 hF, a1, lcz e2 h64, q1, xf_46_5 hF]
        refine xm_go_wk (by simp [Value.category]) (ih _ (i + 1) hx' (fun q hq => hlt q (List.mem_cons_of_mem _ hq)) (by omega) (fun k hk => ?_))
        rcases hno k hk with z | z
        · rcases List.mem_cons.mp z with z | z
          · right; rw [z]; exact q
          · exact Or.inl z
        · exact Or.inr z
  refine xq_in rfl ?_
  simp only [xq_a0, xq_aI, xq_aJ, xq_aR, Nat.reduceAdd]
  with_reducible refine xm_go_blk b_X9_nodeOf_0 k_X9_nodeOf_0 ?_
  refine by_aload_n rfl ?_
  refine by_getf cn_148 fl_9_25 (by first | exact rfl | assumption) (by decide) ?_
  refine by_lload_n rfl ?_
  simp (disch := first | exact Nat.ne_of_beq_eq_false rfl | exact rfl | omega) only [nI_add, xa_sub, xa_mul, pk_div, nm_mod, xa_shr, xa_and7, xa_and1, xa_and255, xa_by_and, nI_m1, Nat.add_sub_cancel, Nat.reducePow, Nat.zero_add, Nat.add_zero, Nat.reduceAdd, Nat.reduceMul, Nat.reduceSub, xf_same, xq_ff, xq_fo, xf_1, xf_2, xs_1, xs_2, xs_same, xq_so, xj_1, xj_2, xj_same, xq_jo, xq_sa1, xq_same, xq_other, upd_s, oI_n, oI_s, xv_0, xv_1, xv_2, xv_3, xm_p1, xm_p2, xq_fp, xq_fn, List.filter_nil, Nat.reduceBEq, Bool.not_true, Bool.not_false, Bool.and_true, Bool.and_false, Bool.false_and, Bool.true_and, if_true, if_false, Bool.false_eq_true, reduceIte, xc_i, xc_j, xc_r, xc_n, List.nil_append, List.cons_append, Option.toList_some, Option.toList_none, xf_46_6 hF]
  refine by_ins1 cn_148 lk_9_145 (by rw [xe_cnt]; decide) is_158 np_158 (Nat.le_of_ble_eq_true rfl) ?_
  refine sp_slotOf ?_
  with_reducible refine xm_go_blk b_X9_nodeOf_8 k_X9_nodeOf_8 ?_
  first | refine by_iald (by first | exact rfl | assumption | exact ps_1 hpp | exact ps_2 hpp | exact ps_3 hpp | exact ps_4 hpp | exact ps_5 hpp | exact ps_6 hpp | exact ps_7 hpp | exact ps_8 hpp | exact ps_9 hpp | exact ps_10 hpp | exact ps_11 hpp | exact ps_15 hpp | exact ps_16 hpp | exact ps_17 hpp | exact ps_18 hpp | exact ps_19 hpp | exact ps_21 hpp | exact ps_22 hpp | exact ps_23 hpp | exact ps_24 hpp) ⟨by omega, by omega⟩ ?_ | refine by_tald rfl rfl ⟨by omega, by omega⟩ ?_
  refine by_istore_n (by rw [ml_148]; decide) ?_
  refine by_iconst ci_0 ?_
  refine by_istore (by rw [ml_148]; decide) ?_
  refine by_nil ?_
  try simp (disch := first | exact Nat.ne_of_beq_eq_false rfl | exact rfl | omega) only [nI_add, xa_sub, xa_mul, pk_div, nm_mod, xa_shr, xa_and7, xa_and1, xa_and255, xa_by_and, nI_m1, Nat.add_sub_cancel, Nat.reducePow, Nat.zero_add, Nat.add_zero, Nat.reduceAdd, Nat.reduceMul, Nat.reduceSub, xf_same, xq_ff, xq_fo, xf_1, xf_2, xs_1, xs_2, xs_same, xq_so, xj_1, xj_2, xj_same, xq_jo, xq_sa1, xq_same, xq_other, upd_s, oI_n, oI_s, xv_0, xv_1, xv_2, xv_3, xm_p1, xm_p2, xq_fp, xq_fn, List.filter_nil, Nat.reduceBEq, Bool.not_true, Bool.not_false, Bool.and_true, Bool.and_false, Bool.false_and, Bool.true_and, if_true, if_false, Bool.false_eq_true, reduceIte, xc_i, xc_j, xc_r, xc_n, List.nil_append, List.cons_append, Option.toList_some, Option.toList_none]
  exact key cs _ 0 c1 (fun j hj => ((c3 j).mp hj).1) (by rw [Nat.zero_add]; exact hc_len (P := fun _ => True) c2 (fun j hj => ((c3 j).mp hj).1)) (fun j hj => Or.inl hj)
theorem nmX_add {h' : xm_H} {n : Nat} (hN : nmX h NL) (hw : isW w) (hn : n < 2000) (hl : NL.length < 4096) (ho : nmF w NL = none) (e7 : h'.2.2 46 7 = .int (nI (NL.length + 1))) (e48 : h'.2.1 48 = vp_updL (h.2.1 48) NL.length (lN (v8 w))) (e49 : h'.1 49 = upd (h.1 49) NL.length (nI n)) (e50 : h'.1 50 = upd (h.1 50) NL.length (h.1 51 (slW (v8 w)))) (e51 : h'.1 51 = upd (h.1 51) (slW (v8 w)) (nI NL.length)) : nmX h' (NL ++ [(w, n)]) := by
  obtain ⟨n1, n2, n3, n4, n5⟩ := hN
  have eL : (NL ++ [(w, n)]).length = NL.length + 1 := by simp
  have g1 : ∀ k, k < NL.length → (NL ++ [(w, n)]).getD k ([], 0) = NL.getD k ([], 0) := fun k hk => by
    rw [List.getD_eq_getElem?_getD, List.getElem?_append_left hk, List.getD_eq_getElem?_getD]
  have g2 : (NL ++ [(w, n)]).getD NL.length ([], 0) = (w, n) := by simp
  refine ⟨by rw [eL]; exact e7, by omega, fun k hk => ?_, ?_, ?_⟩
  · rw [eL] at hk
    by_cases q : k = NL.length
    · subst q
      rw [g2, e48, e49]
      exact ⟨by simp [vp_updL], upd_s, hw, hn⟩
    · rw [g1 k (by omega), e48, e49]
      have := n3 k (by omega)
      exact ⟨by simpa [vp_updL, q] using this.1, by rw [upd_o q]; exact this.2.1, this.2.2⟩
  · rw [List.map_append, List.nodup_append]
    refine ⟨n4, by simp, fun a ha b hb => ?_⟩
    simp only [List.map_cons, List.map_nil, List.mem_singleton] at hb
    obtain ⟨q, hq, rfl⟩ := List.mem_map.mp ha
    rw [hb]
    exact nmF_no ho q hq
  · rw [e51, e50]
    refine hc_ins n5 (by omega) (fun i hi => by simp only [g1 i hi]) (by simp only [g2]) (fun i => by rw [eL]; omega)
theorem sp_keepName {n : Nat} (hF : XF h) (hN : nmX h NL) (hw : isW w) (hn : n < 2000) (hl : NL.length < 4096) (ho : nmF w NL = none) (hp : ∀ h', Fr [48, 49, 50, 51] [(46, 7)] h h' → nmX h' (NL ++ [(w, n)]) → post none h') : xm_T (XE sc) (d + 2) 146 [.ref 46, .long (lN (v8 w)), .int (nI n)] h post := by
  have n1 := hN.1
  have s2 := (slW_e (v8 w)).2
  refine xq_in rfl ?_
  simp only [xq_a0, xq_aI, xq_aJ, xq_aR, Nat.reduceAdd]
  with_reducible refine xm_go_blk b_X9_keepName_0 k_X9_keepName_0 ?_
  refine by_aload_n rfl ?_
  refine by_getf cn_146 fl_9_55 (by first | exact rfl | assumption) (by decide) ?_
  refine by_sipush cs_4096 ?_
  simp (disch := first | exact Nat.ne_of_beq_eq_false rfl | exact rfl | omega) only [nI_add, xa_sub, xa_mul, pk_div, nm_mod, xa_shr, xa_and7, xa_and1, xa_and255, xa_by_and, nI_m1, Nat.add_sub_cancel, Nat.reducePow, Nat.zero_add, Nat.add_zero, Nat.reduceAdd, Nat.reduceMul, Nat.reduceSub, xf_same, xq_ff, xq_fo, xf_1, xf_2, xs_1, xs_2, xs_same, xq_so, xj_1, xj_2, xj_same, xq_jo, xq_sa1, xq_same, xq_other, upd_s, oI_n, oI_s, n1]
  refine by_ic_ge 73 rfl ?_
  simp (disch := first | exact Nat.ne_of_beq_eq_false rfl | exact rfl | omega) only [nI_add, xa_sub, xa_mul, pk_div, nm_mod, xa_shr, xa_and7, xa_and1, xa_and255, xa_by_and, nI_m1, Nat.add_sub_cancel, Nat.reducePow, Nat.zero_add, Nat.add_zero, Nat.reduceAdd, Nat.reduceMul, Nat.reduceSub, xf_same, xq_ff, xq_fo, xf_1, xf_2, xs_1, xs_2, xs_same, xq_so, xj_1, xj_2, xj_same, xq_jo, xq_sa1, xq_same, xq_other, upd_s, oI_n, oI_s, xv_0, xv_1, xv_2, xv_3, xm_p1, xm_p2, xq_fp, xq_fn, List.filter_nil, Nat.reduceBEq, Bool.not_true, Bool.not_false, Bool.and_true, Bool.and_false, Bool.false_and, Bool.true_and, if_true, if_false, Bool.false_eq_true, reduceIte, xc_i, xc_j, xc_r, xc_n, List.nil_append, List.cons_append, Option.toList_some, Option.toList_none, nI_ltJ, nI_leJ, nI_eqJ, nI_ltz, nI_gez, nI_gtz, nI_lez, nI_eqz, m1_ltz, m1_gez, true_imp_iff, false_imp_iff, true_and, and_true, ne_eq, not_false_eq_true, not_true_eq_false, Nat.reduceEqDiff, Nat.reduceLT, Nat.reduceLeDiff, n1]
  refine ⟨fun c => absurd c (by omega), fun c0 => ?_⟩
  with_reducible refine xm_go_blk b_X9_keepName_10 k_X9_keepName_10 ?_
  refine by_lload_n rfl ?_
  refine by_ins1 cn_146 lk_9_145 (by rw [xe_cnt]; decide) is_158 np_158 (Nat.le_of_ble_eq_true rfl) ?_
  refine sp_slotOf ?_
  with_reducible refine xm_go_blk b_X9_keepName_14 k_X9_keepName_14 ?_
  refine by_istore (by rw [ml_146]; decide) ?_
  refine by_aload_n rfl ?_
  refine by_getf cn_146 fl_9_15 (by first | exact rfl | assumption) (by decide) ?_
  refine by_aload_n rfl ?_
  refine by_getf cn_146 fl_9_55 (by first | exact rfl | assumption) (by decide) ?_
  refine by_lload_n rfl ?_
  simp (disch := first | exact Nat.ne_of_beq_eq_false rfl | exact rfl | omega) only [nI_add, xa_sub, xa_mul, pk_div, nm_mod, xa_shr, xa_and7, xa_and1, xa_and255, xa_by_and, nI_m1, Nat.add_sub_cancel, Nat.reducePow, Nat.zero_add, Nat.add_zero, Nat.reduceAdd, Nat.reduceMul, Nat.reduceSub, xf_same, xq_ff, xq_fo, xf_1, xf_2, xs_1, xs_2, xs_same, xq_so, xj_1, xj_2, xj_same, xq_jo, xq_sa1, xq_same, xq_other, upd_s, oI_n, oI_s, n1, xf_46_3 hF, xf_46_4 hF, xf_46_5 hF, xf_46_6 hF]
  refine by_last (by first | exact rfl | assumption) ⟨by omega, by omega⟩ ?_
  refine by_aload_n rfl ?_
  refine by_getf cn_146 fl_9_19 (by first | exact rfl | assumption) (by decide) ?_
  refine by_aload_n rfl ?_
  refine by_getf cn_146 fl_9_55 (by first | exact rfl | assumption) (by decide) ?_
  refine by_iload_n rfl ?_
  simp (disch := first | exact Nat.ne_of_beq_eq_false rfl | exact rfl | omega) only [nI_add, xa_sub, xa_mul, pk_div, nm_mod, xa_shr, xa_and7, xa_and1, xa_and255, xa_by_and, nI_m1, Nat.add_sub_cancel, Nat.reducePow, Nat.zero_add, Nat.add_zero, Nat.reduceAdd, Nat.reduceMul, Nat.reduceSub, xf_same, xq_ff, xq_fo, xf_1, xf_2, xs_1, xs_2, xs_same, xq_so, xj_1, xj_2, xj_same, xq_jo, xq_sa1, xq_same, xq_other, upd_s, oI_n, oI_s, n1, xf_46_3 hF, xf_46_4 hF, xf_46_5 hF, xf_46_6 hF]
  refine by_iast (by first | exact rfl | assumption | exact ps_1 hpp | exact ps_2 hpp | exact ps_3 hpp | exact ps_4 hpp | exact ps_5 hpp | exact ps_6 hpp | exact ps_7 hpp | exact ps_8 hpp | exact ps_9 hpp | exact ps_10 hpp | exact ps_11 hpp | exact ps_15 hpp | exact ps_16 hpp | exact ps_17 hpp | exact ps_18 hpp | exact ps_19 hpp | exact ps_21 hpp | exact ps_22 hpp | exact ps_23 hpp | exact ps_24 hpp) ⟨by omega, by omega⟩ ?_
  refine by_aload_n rfl ?_
  refine by_getf cn_146 fl_9_22 (by first | exact rfl | assumption) (by decide) ?_
  refine by_aload_n rfl ?_
  refine by_getf cn_146 fl_9_55 (by first | exact rfl | assumption) (by decide) ?_
  refine by_aload_n rfl ?_
  refine by_getf cn_146 fl_9_25 (by first | exact rfl | assumption) (by decide) ?_
  refine by_iload rfl ?_
  simp (disch := first | exact Nat.ne_of_beq_eq_false rfl | exact rfl | omega) only [nI_add, xa_sub, xa_mul, pk_div, nm_mod, xa_shr, xa_and7, xa_and1, xa_and255, xa_by_and, nI_m1, Nat.add_sub_cancel, Nat.reducePow, Nat.zero_add, Nat.add_zero, Nat.reduceAdd, Nat.reduceMul, Nat.reduceSub, xf_same, xq_ff, xq_fo, xf_1, xf_2, xs_1, xs_2, xs_same, xq_so, xj_1, xj_2, xj_same, xq_jo, xq_sa1, xq_same, xq_other, upd_s, oI_n, oI_s, n1, xf_46_3 hF, xf_46_4 hF, xf_46_5 hF, xf_46_6 hF]
  first | refine by_iald (by first | exact rfl | assumption | exact ps_1 hpp | exact ps_2 hpp | exact ps_3 hpp | exact ps_4 hpp | exact ps_5 hpp | exact ps_6 hpp | exact ps_7 hpp | exact ps_8 hpp | exact ps_9 hpp | exact ps_10 hpp | exact ps_11 hpp | exact ps_15 hpp | exact ps_16 hpp | exact ps_17 hpp | exact ps_18 hpp | exact ps_19 hpp | exact ps_21 hpp | exact ps_22 hpp | exact ps_23 hpp | exact ps_24 hpp) ⟨by omega, by omega⟩ ?_ | refine by_tald rfl rfl ⟨by omega, by omega⟩ ?_
  refine by_iast (by first | exact rfl | assumption | exact ps_1 hpp | exact ps_2 hpp | exact ps_3 hpp | exact ps_4 hpp | exact ps_5 hpp | exact ps_6 hpp | exact ps_7 hpp | exact ps_8 hpp | exact ps_9 hpp | exact ps_10 hpp | exact ps_11 hpp | exact ps_15 hpp | exact ps_16 hpp | exact ps_17 hpp | exact ps_18 hpp | exact ps_19 hpp | exact ps_21 hpp | exact ps_22 hpp | exact ps_23 hpp | exact ps_24 hpp) ⟨by omega, by omega⟩ ?_
  refine by_aload_n rfl ?_
  refine by_getf cn_146 fl_9_25 (by first | exact rfl | assumption) (by decide) ?_
  refine by_iload rfl ?_
  refine by_aload_n rfl ?_
  refine by_getf cn_146 fl_9_55 (by first | exact rfl | assumption) (by decide) ?_
  simp (disch := first | exact Nat.ne_of_beq_eq_false rfl | exact rfl | omega) only [nI_add, xa_sub, xa_mul, pk_div, nm_mod, xa_shr, xa_and7, xa_and1, xa_and255, xa_by_and, nI_m1, Nat.add_sub_cancel, Nat.reducePow, Nat.zero_add, Nat.add_zero, Nat.reduceAdd, Nat.reduceMul, Nat.reduceSub, xf_same, xq_ff, xq_fo, xf_1, xf_2, xs_1, xs_2, xs_same, xq_so, xj_1, xj_2, xj_same, xq_jo, xq_sa1, xq_same, xq_other, upd_s, oI_n, oI_s, n1, xf_46_3 hF, xf_46_4 hF, xf_46_5 hF, xf_46_6 hF]
  refine by_iast (by first | exact rfl | assumption | exact ps_1 hpp | exact ps_2 hpp | exact ps_3 hpp | exact ps_4 hpp | exact ps_5 hpp | exact ps_6 hpp | exact ps_7 hpp | exact ps_8 hpp | exact ps_9 hpp | exact ps_10 hpp | exact ps_11 hpp | exact ps_15 hpp | exact ps_16 hpp | exact ps_17 hpp | exact ps_18 hpp | exact ps_19 hpp | exact ps_21 hpp | exact ps_22 hpp | exact ps_23 hpp | exact ps_24 hpp) ⟨by omega, by omega⟩ ?_
  refine by_aload_n rfl ?_
  refine by_dup rfl ?_
  refine by_getf cn_146 fl_9_55 (by first | exact rfl | assumption) (by decide) ?_
  refine by_iconst ci_1 ?_
  simp (disch := first | exact Nat.ne_of_beq_eq_false rfl | exact rfl | omega) only [nI_add, xa_sub, xa_mul, pk_div, nm_mod, xa_shr, xa_and7, xa_and1, xa_and255, xa_by_and, nI_m1, Nat.add_sub_cancel, Nat.reducePow, Nat.zero_add, Nat.add_zero, Nat.reduceAdd, Nat.reduceMul, Nat.reduceSub, xf_same, xq_ff, xq_fo, xf_1, xf_2, xs_1, xs_2, xs_same, xq_so, xj_1, xj_2, xj_same, xq_jo, xq_sa1, xq_same, xq_other, upd_s, oI_n, oI_s, n1, xf_46_3 hF, xf_46_4 hF, xf_46_5 hF, xf_46_6 hF]
  refine by_iadd ?_
  refine by_putf cn_146 fl_9_55 (by first | exact rfl | assumption) (by decide) nf_9_7 ft_9_7 (by first | rfl | assumption) (by first | rfl | assumption) ?_
  refine by_nil ?_
  try simp (disch := first | exact Nat.ne_of_beq_eq_false rfl | exact rfl | omega) only [nI_add, xa_sub, xa_mul, pk_div, nm_mod, xa_shr, xa_and7, xa_and1, xa_and255, xa_by_and, nI_m1, Nat.add_sub_cancel, Nat.reducePow, Nat.zero_add, Nat.add_zero, Nat.reduceAdd, Nat.reduceMul, Nat.reduceSub, xf_same, xq_ff, xq_fo, xf_1, xf_2, xs_1, xs_2, xs_same, xq_so, xj_1, xj_2, xj_same, xq_jo, xq_sa1, xq_same, xq_other, upd_s, oI_n, oI_s, xv_0, xv_1, xv_2, xv_3, xm_p1, xm_p2, xq_fp, xq_fn, List.filter_nil, Nat.reduceBEq, Bool.not_true, Bool.not_false, Bool.and_true, Bool.and_false, Bool.false_and, Bool.true_and, if_true, if_false, Bool.false_eq_true, reduceIte, xc_i, xc_j, xc_r, xc_n, List.nil_append, List.cons_append, Option.toList_some, Option.toList_none, n1, xf_46_3 hF, xf_46_4 hF, xf_46_5 hF, xf_46_6 hF]
  with_reducible refine xm_go_blk b_X9_keepName_73 k_X9_keepName_73 ?_
  refine by_ret ry_146 ?_
  refine hp _ (Fr_sf (Fr_si (Fr_si (Fr_si (Fr_sl Fr_rf (by simp)) (by simp)) (by simp)) (by simp)) (by simp)) (nmX_add hN hw hn hl ho ?_ ?_ ?_ ?_ ?_)
  · simp [xm_sf, updV]
  · simp [xm_sf, xm_si, xm_sl]
  · simp [xm_sf, xm_si, xm_sl]
  · simp [xm_sf, xm_si, xm_sl]
  · simp [xm_sf, xm_si, xm_sl]
theorem sp_refuse {a b : Int32} (hp : post (some (.int (-1))) (xm_sf (xm_sf h 46 16 (.int a)) 46 0 (.int b))) : xm_T (XE sc) (d + 1) 156 [.ref 46, .int a, .int b] h post := by
  refine xq_in rfl ?_
  simp only [xq_a0, xq_aI, xq_aJ, xq_aR, Nat.reduceAdd]
  with_reducible refine xm_go_blk b_X9_refuse_0 k_X9_refuse_0 ?_
  refine by_aload_n rfl ?_
  refine by_iload_n rfl ?_
  refine by_putf cn_156 fl_9_49 (by first | exact rfl | assumption) (by decide) nf_9_16 ft_9_16 (by first | rfl | assumption) (by first | rfl | assumption) ?_
  refine by_aload_n rfl ?_
  refine by_iload_n rfl ?_
  refine by_putf cn_156 fl_9_45 (by first | exact rfl | assumption) (by decide) nf_9_0 ft_9_0 (by first | rfl | assumption) (by first | rfl | assumption) ?_
  refine by_iconst ci_m1 ?_
  refine by_iret ry_156 (by first | rfl | assumption) ?_
  exact hp
/-- a name is asked for: its node, or a fault -/
theorem sp_readName {t : List Nat} {p : Nat} (hF : XF h) (hN : nmX h NL) (hw : wdS h t p)
    (h1 : (wdO t p = none ∨ ∃ w, wdO t p = some w ∧ (tgI w).isSome = true) → post (some (.int (-1))) (xm_sf (xm_sf h 46 16 (.int (nI 1))) 46 0 (.int (nI (tkF t p)))))
    (h2 : ∀ w, wdO t p = some w → tgI w = none → nmF w NL = none → post (some (.int (-1))) (xm_sf (xm_sf h 46 16 (.int (nI 2))) 46 0 (.int (nI (tkF t p)))))
    (h3 : ∀ w n, wdO t p = some w → tgI w = none → nmF w NL = some n → post (some (.int (nI n))) h) : xm_T (XE sc) (d + 3) 153 [.ref 46] h post := by
  obtain ⟨w1, w2, w3, w4, w5⟩ := hw
  refine xq_in rfl ?_
  simp only [xq_a0, xq_aI, xq_aJ, xq_aR, Nat.reduceAdd]
  have no : (wdO t p = none ∨ ∃ w, wdO t p = some w ∧ (tgI w).isSome = true) → xm_go (XE sc) (xm_T (XE sc) (d + 2)) 153 post 0 [(0, .ref 46)] [] h := fun z => by
    have e : wnV t p = 0 := by
      unfold wnV
      rcases z with z | ⟨w, z, y⟩
      · rw [z]
      · rw [z]
        cases hq : tgI w with
        | none => rw [hq] at y; cases y
        | some c => simp [hq]
    rw [e] at w4
    have l0 : (lg_cmp (lN 0) (lN 0) = 0) = True := eq_true (by decide)
    with_reducible refine xm_go_blk b_X9_readName_0 k_X9_readName_0 ?_
    refine by_aload_n rfl ?_
    refine by_getf cn_153 fl_9_103 (by first | exact rfl | assumption) (by decide) ?_
    refine by_lconst cl_0 ?_
    simp (disch := first | exact Nat.ne_of_beq_eq_false rfl | exact rfl | omega) only [nI_add, xa_sub, xa_mul, pk_div, nm_mod, xa_shr, xa_and7, xa_and1, xa_and255, xa_by_and, nI_m1, Nat.add_sub_cancel, Nat.reducePow, Nat.zero_add, Nat.add_zero, Nat.reduceAdd, Nat.reduceMul, Nat.reduceSub, xf_same, xq_ff, xq_fo, xf_1, xf_2, xs_1, xs_2, xs_same, xq_so, xj_1, xj_2, xj_same, xq_jo, xq_sa1, xq_same, xq_other, upd_s, oI_n, oI_s, w4, w2, l0]
    refine by_lcmp ?_
    refine by_if_ne 19 rfl ?_
    simp (disch := first | exact Nat.ne_of_beq_eq_false rfl | exact rfl | omega) only [nI_add, xa_sub, xa_mul, pk_div, nm_mod, xa_shr, xa_and7, xa_and1, xa_and255, xa_by_and, nI_m1, Nat.add_sub_cancel, Nat.reducePow, Nat.zero_add, Nat.add_zero, Nat.reduceAdd, Nat.reduceMul, Nat.reduceSub, xf_same, xq_ff, xq_fo, xf_1, xf_2, xs_1, xs_2, xs_same, xq_so, xj_1, xj_2, xj_same, xq_jo, xq_sa1, xq_same, xq_other, upd_s, oI_n, oI_s, xv_0, xv_1, xv_2, xv_3, xm_p1, xm_p2, xq_fp, xq_fn, List.filter_nil, Nat.reduceBEq, Bool.not_true, Bool.not_false, Bool.and_true, Bool.and_false, Bool.false_and, Bool.true_and, if_true, if_false, Bool.false_eq_true, reduceIte, xc_i, xc_j, xc_r, xc_n, List.nil_append, List.cons_append, Option.toList_some, Option.toList_none, nI_ltJ, nI_leJ, nI_eqJ, nI_ltz, nI_gez, nI_gtz, nI_lez, nI_eqz, m1_ltz, m1_gez, true_imp_iff, false_imp_iff, true_and, and_true, ne_eq, not_false_eq_true, not_true_eq_false, Nat.reduceEqDiff, Nat.reduceLT, Nat.reduceLeDiff, w4, w2, l0]
    with_reducible refine xm_go_blk b_X9_readName_9 k_X9_readName_9 ?_
    refine by_aload_n rfl ?_
    refine by_iconst ci_1 ?_
    refine by_aload_n rfl ?_
    refine by_getf cn_153 fl_9_107 (by first | exact rfl | assumption) (by decide) ?_
    simp (disch := first | exact Nat.ne_of_beq_eq_false rfl | exact rfl | omega) only [nI_add, xa_sub, xa_mul, pk_div, nm_mod, xa_shr, xa_and7, xa_and1, xa_and255, xa_by_and, nI_m1, Nat.add_sub_cancel, Nat.reducePow, Nat.zero_add, Nat.add_zero, Nat.reduceAdd, Nat.reduceMul, Nat.reduceSub, xf_same, xq_ff, xq_fo, xf_1, xf_2, xs_1, xs_2, xs_same, xq_so, xj_1, xj_2, xj_same, xq_jo, xq_sa1, xq_same, xq_other, upd_s, oI_n, oI_s, xv_0, xv_1, xv_2, xv_3, xm_p1, xm_p2, xq_fp, xq_fn, List.filter_nil, Nat.reduceBEq, Bool.not_true, Bool.not_false, Bool.and_true, Bool.and_false, Bool.false_and, Bool.true_and, if_true, if_false, Bool.false_eq_true, reduceIte, xc_i, xc_j, xc_r, xc_n, List.nil_append, List.cons_append, Option.toList_some, Option.toList_none, w4, w2, l0]
    refine by_inv2 cn_153 lk_9_110 (by rw [xe_cnt]; decide) is_156 np_156 cn_156 (by first | exact rfl | assumption) (Nat.le_of_ble_eq_true rfl) ?_
    refine sp_refuse ?_
    with_reducible refine xm_go_blk b_X9_readName_18 k_X9_readName_18 ?_
    refine by_iret ry_153 (by first | rfl | assumption) ?_
    exact h1 z
  cases ew : wdO t p with
  | none => exact no (Or.inl ew)
  | some w =>
    have hW := (wdO_W ew).2.1
    cases et : tgI w with
    | some c => exact no (Or.inr ⟨w, ew, by rw [et]; rfl⟩)
    | none =>
      have e : wnV t p = v8 w := by unfold wnV; rw [ew]; simp [et]
      rw [e] at w4
      have h64 := v8_lt hW
      have q1 : (v8 w = 0) = False := eq_false (v8_pos hW)
      with_reducible refine xm_go_blk b_X9_readName_0 k_X9_readName_0 ?_
      refine by_aload_n rfl ?_
      refine by_getf cn_153 fl_9_103 (by first | exact rfl | assumption) (by decide) ?_
      refine by_lconst cl_0 ?_
      simp (disch := first | exact Nat.ne_of_beq_eq_false rfl | exact rfl | omega) only [nI_add, xa_sub, xa_mul, pk_div, nm_mod, xa_shr, xa_and7, xa_and1, xa_and255, xa_by_and, nI_m1, Nat.add_sub_cancel, Nat.reducePow, Nat.zero_add, Nat.add_zero, Nat.reduceAdd, Nat.reduceMul, Nat.reduceSub, xf_same, xq_ff, xq_fo, xf_1, xf_2, xs_1, xs_2, xs_same, xq_so, xj_1, xj_2, xj_same, xq_jo, xq_sa1, xq_same, xq_other, upd_s, oI_n, oI_s, w4, lcz h64 (by decide : 0 < 2 ^ 64), q1]
      refine by_lcmp ?_
      refine by_if_ne 19 rfl ?_
      simp (disch := first | exact Nat.ne_of_beq_eq_false rfl | exact rfl | omega) only [nI_add, xa_sub, xa_mul, pk_div, nm_mod, xa_shr, xa_and7, xa_and1, xa_and255, xa_by_and, nI_m1, Nat.add_sub_cancel, Nat.reducePow, Nat.zero_add, Nat.add_zero, Nat.reduceAdd, Nat.reduceMul, Nat.reduceSub, xf_same, xq_ff, xq_fo, xf_1, xf_2, xs_1, xs_2, xs_same, xq_so, xj_1, xj_2, xj_same, xq_jo, xq_sa1, xq_same, xq_other, upd_s, oI_n, oI_s, xv_0, xv_1, xv_2, xv_3, xm_p1, xm_p2, xq_fp, xq_fn, List.filter_nil, Nat.reduceBEq, Bool.not_true, Bool.not_false, Bool.and_true, Bool.and_false, Bool.false_and, Bool.true_and, if_true, if_false, Bool.false_eq_true, reduceIte, xc_i, xc_j, xc_r, xc_n, List.nil_append, List.cons_append, Option.toList_some, Option.toList_none, nI_ltJ, nI_leJ, nI_eqJ, nI_ltz, nI_gez, nI_gtz, nI_lez, nI_eqz, m1_ltz, m1_gez, true_imp_iff, false_imp_iff, true_and, and_true, ne_eq, not_false_eq_true, not_true_eq_false, Nat.reduceEqDiff, Nat.reduceLT, Nat.reduceLeDiff, w4, lcz h64 (by decide : 0 < 2 ^ 64), q1]
      with_reducible refine xm_go_blk b_X9_readName_19 k_X9_readName_19 ?_
      refine by_aload_n rfl ?_
      refine by_aload_n rfl ?_
      refine by_getf cn_153 fl_9_103 (by first | exact rfl | assumption) (by decide) ?_
      simp (disch := first | exact Nat.ne_of_beq_eq_false rfl | exact rfl | omega) only [nI_add, xa_sub, xa_mul, pk_div, nm_mod, xa_shr, xa_and7, xa_and1, xa_and255, xa_by_and, nI_m1, Nat.add_sub_cancel, Nat.reducePow, Nat.zero_add, Nat.add_zero, Nat.reduceAdd, Nat.reduceMul, Nat.reduceSub, xf_same, xq_ff, xq_fo, xf_1, xf_2, xs_1, xs_2, xs_same, xq_so, xj_1, xj_2, xj_same, xq_jo, xq_sa1, xq_same, xq_other, upd_s, oI_n, oI_s, xv_0, xv_1, xv_2, xv_3, xm_p1, xm_p2, xq_fp, xq_fn, List.filter_nil, Nat.reduceBEq, Bool.not_true, Bool.not_false, Bool.and_true, Bool.and_false, Bool.false_and, Bool.true_and, if_true, if_false, Bool.false_eq_true, reduceIte, xc_i, xc_j, xc_r, xc_n, List.nil_append, List.cons_append, Option.toList_some, Option.toList_none, w4]
      refine by_inv1 cn_153 lk_9_114 (by rw [xe_cnt]; decide) is_148 np_148 cn_148 (by first | exact rfl | assumption) (Nat.le_of_ble_eq_true rfl) ?_
      refine sp_nodeOf hF hN hW ?_
      cases en : nmF w NL with
      | none =>
        with_reducible refine xm_go_blk b_X9_readName_27 k_X9_readName_27 ?_
        refine by_istore_n (by rw [ml_153]; decide) ?_
        refine by_iload_n rfl ?_
        refine by_if_ge 44 rfl ?_
        simp (disch := first | exact Nat.ne_of_beq_eq_false rfl | exact rfl | omega) only [nI_add, xa_sub, xa_mul, pk_div, nm_mod, xa_shr, xa_and7, xa_and1, xa_and255, xa_by_and, nI_m1, Nat.add_sub_cancel, Nat.reducePow, Nat.zero_add, Nat.add_zero, Nat.reduceAdd, Nat.reduceMul, Nat.reduceSub, xf_same, xq_ff, xq_fo, xf_1, xf_2, xs_1, xs_2, xs_same, xq_so, xj_1, xj_2, xj_same, xq_jo, xq_sa1, xq_same, xq_other, upd_s, oI_n, oI_s, xv_0, xv_1, xv_2, xv_3, xm_p1, xm_p2, xq_fp, xq_fn, List.filter_nil, Nat.reduceBEq, Bool.not_true, Bool.not_false, Bool.and_true, Bool.and_false, Bool.false_and, Bool.true_and, if_true, if_false, Bool.false_eq_true, reduceIte, xc_i, xc_j, xc_r, xc_n, List.nil_append, List.cons_append, Option.toList_some, Option.toList_none, nI_ltJ, nI_leJ, nI_eqJ, nI_ltz, nI_gez, nI_gtz, nI_lez, nI_eqz, m1_ltz, m1_gez, true_imp_iff, false_imp_iff, true_and, and_true, ne_eq, not_false_eq_true, not_true_eq_false, Nat.reduceEqDiff, Nat.reduceLT, Nat.reduceLeDiff, w2]
        with_reducible refine xm_go_blk b_X9_readName_32 k_X9_readName_32 ?_
        refine by_aload_n rfl ?_
        refine by_iconst ci_2 ?_
        refine by_aload_n rfl ?_
        refine by_getf cn_153 fl_9_107 (by first | exact rfl | assumption) (by decide) ?_
        simp (disch := first | exact Nat.ne_of_beq_eq_false rfl | exact rfl | omega) only [nI_add, xa_sub, xa_mul, pk_div, nm_mod, xa_shr, xa_and7, xa_and1, xa_and255, xa_by_and, nI_m1, Nat.add_sub_cancel, Nat.reducePow, Nat.zero_add, Nat.add_zero, Nat.reduceAdd, Nat.reduceMul, Nat.reduceSub, xf_same, xq_ff, xq_fo, xf_1, xf_2, xs_1, xs_2, xs_same, xq_so, xj_1, xj_2, xj_same, xq_jo, xq_sa1, xq_same, xq_other, upd_s, oI_n, oI_s, xv_0, xv_1, xv_2, xv_3, xm_p1, xm_p2, xq_fp, xq_fn, List.filter_nil, Nat.reduceBEq, Bool.not_true, Bool.not_false, Bool.and_true, Bool.and_false, Bool.false_and, Bool.true_and, if_true, if_false, Bool.false_eq_true, reduceIte, xc_i, xc_j, xc_r, xc_n, List.nil_append, List.cons_append, Option.toList_some, Option.toList_none, w2]
        refine by_inv2 cn_153 lk_9_110 (by rw [xe_cnt]; decide) is_156 np_156 cn_156 (by first | exact rfl | assumption) (Nat.le_of_ble_eq_true rfl) ?_
        refine sp_refuse ?_
        with_reducible refine xm_go_blk b_X9_readName_41 k_X9_readName_41 ?_
        refine by_goto 45 rfl ?_
        with_reducible refine xm_go_blk b_X9_readName_45 k_X9_readName_45 ?_
        refine by_iret ry_153 (by first | rfl | assumption) ?_
        exact h2 w ew et en
      | some n =>
        have hn2 : n < 2000 := by
          obtain ⟨j, hj, e⟩ := List.getElem_of_mem (nmF_mem en)
          have := (hN.2.2.1 j hj).2.2.2
          rw [List.getD_eq_getElem?_getD, List.getElem?_eq_getElem hj, Option.getD_some, e] at this
          exact this
        with_reducible refine xm_go_blk b_X9_readName_27 k_X9_readName_27 ?_
        refine by_istore_n (by rw [ml_153]; decide) ?_
        refine by_iload_n rfl ?_
        refine by_if_ge 44 rfl ?_
        simp (disch := first | exact Nat.ne_of_beq_eq_false rfl | exact rfl | omega) only [nI_add, xa_sub, xa_mul, pk_div, nm_mod, xa_shr, xa_and7, xa_and1, xa_and255, xa_by_and, nI_m1, Nat.add_sub_cancel, Nat.reducePow, Nat.zero_add, Nat.add_zero, Nat.reduceAdd, Nat.reduceMul, Nat.reduceSub, xf_same, xq_ff, xq_fo, xf_1, xf_2, xs_1, xs_2, xs_same, xq_so, xj_1, xj_2, xj_same, xq_jo, xq_sa1, xq_same, xq_other, upd_s, oI_n, oI_s, xv_0, xv_1, xv_2, xv_3, xm_p1, xm_p2, xq_fp, xq_fn, List.filter_nil, Nat.reduceBEq, Bool.not_true, Bool.not_false, Bool.and_true, Bool.and_false, Bool.false_and, Bool.true_and, if_true, if_false, Bool.false_eq_true, reduceIte, xc_i, xc_j, xc_r, xc_n, List.nil_append, List.cons_append, Option.toList_some, Option.toList_none, nI_ltJ, nI_leJ, nI_eqJ, nI_ltz, nI_gez, nI_gtz, nI_lez, nI_eqz, m1_ltz, m1_gez, true_imp_iff, false_imp_iff, true_and, and_true, ne_eq, not_false_eq_true, not_true_eq_false, Nat.reduceEqDiff, Nat.reduceLT, Nat.reduceLeDiff]
        with_reducible refine xm_go_blk b_X9_readName_44 k_X9_readName_44 ?_
        refine by_iload_n rfl ?_
        refine by_nil ?_
        with_reducible refine xm_go_blk b_X9_readName_45 k_X9_readName_45 ?_
        refine by_iret ry_153 (by first | rfl | assumption) ?_
        exact h3 w n ew et en
end SY
