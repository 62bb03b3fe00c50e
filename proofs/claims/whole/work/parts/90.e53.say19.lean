/-! ===== say: the reference begins a turn: begun ===== -/
section SY
variable {sc : xm_Sc} {d n c p : Nat} {t : List Nat} {NL : List (List Nat × Nat)} {G : sG} {st : List (Option Nat)} {h h' : xm_H} {post : xm_Po}
theorem sp_renewed {w : List Nat} (hT : mT1 h t NL G st) (hI : sInv t NL G st) (hw : mwS h t p) (hpt : p ≤ t.length) (k3 : tkK t p ≠ 3) (ew : wdO t p = some w) (et : tgI w = some 13)
    (hB : ∀ e f h', sBeg t NL G st p = .inl (e, f) → Fr smbR smbT h h' → h'.2.2 102 81 = .int (nI e) → h'.2.2 102 36 = .int (nI f) → post (some (.int (-1))) h')
    (hG : ∀ S o h', sBeg t NL G st p = .inr (S, o) → Fr smbR smbT h h' → mT1 h' t NL S.1 S.2.1 → h'.2.2 102 82 = .int (nI S.2.2) → h'.2.2 102 36 = h.2.2 102 36 → post (some (.int (oI o))) h') : xm_T (XE sc) (d + 4) 285 [.ref 102] h post := by
  have ht8 : t.length ≤ 8192 := hT.2.1.2.2.2
  obtain ⟨⟨rk, M, hd⟩, hNL⟩ := hI
  have hN := hd.1
  obtain ⟨b1, b2, b3, b4⟩ := tk_b hpt
  obtain ⟨v1, v2, v3, v4⟩ := tk_b b3
  obtain ⟨w1, w2, w3⟩ := hw
  have hT' := hT
  obtain ⟨a1, a2, a3, a4, a5, a6, a7, a8, a9⟩ := hT
  have e1 : (wdO t (tkE t p) = none ∨ ∃ w2, wdO t (tkE t p) = some w2 ∧ (tgI w2).isSome = true) → sBeg t NL G st p = .inl (1, tkF t (tkE t p)) := fun z => by
    unfold sBeg
    rw [if_neg k3, ew]
    simp only [et, if_true]
    rcases z with z | ⟨w2, z, y⟩
    · rw [z]
    · rw [z]; simp only [y, if_true]
  refine xq_in rfl ?_
  simp only [xq_a0, xq_aI, xq_aJ, xq_aR, Nat.reduceAdd]
  with_reducible refine xm_go_blk b_X12_renewed_0 k_X12_renewed_0 ?_
  refine by_aload_n rfl ?_
  refine by_getf cn_285 fl_12_598 (by first | exact rfl | assumption) (by decide) ?_
  simp (disch := first | exact Nat.ne_of_beq_eq_false rfl | exact rfl | omega) only [nI_add, xa_sub, xa_mul, pk_div, nm_mod, xa_shr, xa_and7, xa_and1, xa_and255, xa_by_and, nI_m1, Nat.add_sub_cancel, Nat.reducePow, Nat.zero_add, Nat.add_zero, Nat.reduceAdd, Nat.reduceMul, Nat.reduceSub, xf_same, xq_ff, xq_fo, xf_1, xf_2, xs_1, xs_2, xs_same, xq_so, xj_1, xj_2, xj_same, xq_jo, xq_sa1, xq_same, xq_other, upd_s, oI_n, oI_s, w2]
  refine by_istore_n (by rw [ml_285]; decide) ?_
  refine by_aload_n rfl ?_
  simp (disch := first | exact Nat.ne_of_beq_eq_false rfl | exact rfl | omega) only [nI_add, xa_sub, xa_mul, pk_div, nm_mod, xa_shr, xa_and7, xa_and1, xa_and255, xa_by_and, nI_m1, Nat.add_sub_cancel, Nat.reducePow, Nat.zero_add, Nat.add_zero, Nat.reduceAdd, Nat.reduceMul, Nat.reduceSub, xf_same, xq_ff, xq_fo, xf_1, xf_2, xs_1, xs_2, xs_same, xq_so, xj_1, xj_2, xj_same, xq_jo, xq_sa1, xq_same, xq_other, upd_s, oI_n, oI_s, xv_0, xv_1, xv_2, xv_3, xm_p1, xm_p2, xq_fp, xq_fn, List.filter_nil, Nat.reduceBEq, Bool.not_true, Bool.not_false, Bool.and_true, Bool.and_false, Bool.false_and, Bool.true_and, if_true, if_false, Bool.false_eq_true, reduceIte, xc_i, xc_j, xc_r, xc_n, List.nil_append, List.cons_append, Option.toList_some, Option.toList_none, w2]
  refine by_inv0 cn_285 lk_12_613 (by rw [xe_cnt]; decide) is_267 np_267 cn_267 (by first | exact rfl | assumption) (Nat.le_of_ble_eq_true rfl) ?_
  refine sp_mnextWord (d := d) a1 a2 w1 a9 b3 (fun h1 k1 f1 s1 q1 => ?_) (fun h1 k1 f1 w1' => ?_)
  · have hn : wdO t (tkE t p) = none := by unfold wdO; rw [if_neg (by rw [k1]; intro z; cases z.1)]
    with_reducible refine xm_go_blk b_X12_renewed_9 k_X12_renewed_9 ?_
    refine by_aload_n rfl ?_
    refine by_getf cn_285 fl_12_592 (by first | exact rfl | assumption) (by decide) ?_
    simp (disch := first | exact Nat.ne_of_beq_eq_false rfl | exact rfl | omega) only [nI_add, xa_sub, xa_mul, pk_div, nm_mod, xa_shr, xa_and7, xa_and1, xa_and255, xa_by_and, nI_m1, Nat.add_sub_cancel, Nat.reducePow, Nat.zero_add, Nat.add_zero, Nat.reduceAdd, Nat.reduceMul, Nat.reduceSub, xf_same, xq_ff, xq_fo, xf_1, xf_2, xs_1, xs_2, xs_same, xq_so, xj_1, xj_2, xj_same, xq_jo, xq_sa1, xq_same, xq_other, upd_s, oI_n, oI_s, s1]
    refine by_if_le 18 rfl ?_
    simp (disch := first | exact Nat.ne_of_beq_eq_false rfl | exact rfl | omega) only [nI_add, xa_sub, xa_mul, pk_div, nm_mod, xa_shr, xa_and7, xa_and1, xa_and255, xa_by_and, nI_m1, Nat.add_sub_cancel, Nat.reducePow, Nat.zero_add, Nat.add_zero, Nat.reduceAdd, Nat.reduceMul, Nat.reduceSub, xf_same, xq_ff, xq_fo, xf_1, xf_2, xs_1, xs_2, xs_same, xq_so, xj_1, xj_2, xj_same, xq_jo, xq_sa1, xq_same, xq_other, upd_s, oI_n, oI_s, xv_0, xv_1, xv_2, xv_3, xm_p1, xm_p2, xq_fp, xq_fn, List.filter_nil, Nat.reduceBEq, Bool.not_true, Bool.not_false, Bool.and_true, Bool.and_false, Bool.false_and, Bool.true_and, if_true, if_false, Bool.false_eq_true, reduceIte, xc_i, xc_j, xc_r, xc_n, List.nil_append, List.cons_append, Option.toList_some, Option.toList_none, nI_ltJ, nI_leJ, nI_eqJ, nI_ltz, nI_gez, nI_gtz, nI_lez, nI_eqz, m1_ltz, m1_gez, true_imp_iff, false_imp_iff, true_and, and_true, ne_eq, not_false_eq_true, not_true_eq_false, Nat.reduceEqDiff, Nat.reduceLT, Nat.reduceLeDiff, s1]
    with_reducible refine xm_go_blk b_X12_renewed_16 k_X12_renewed_16 ?_
    refine by_iconst ci_m1 ?_
    refine by_iret ry_285 (by first | rfl | assumption) ?_
    exact hB 1 _ h1 (e1 (Or.inl hn)) (Fr_mo f1 (by simp) (by simp)) s1 q1
  · have T1 := mT1_w hT' f1
    obtain ⟨c1, c2, c3, c4, c5, c6, c7, c8, c9⟩ := T1
    have w1'' := w1'
    obtain ⟨u1, u2, u3⟩ := w1'
    have g1 : Fr smbR smbT h h1 := Fr_mo f1 (by simp) (by simp)
    have q36 : h1.2.2 102 36 = h.2.2 102 36 := f1.2.2 _ _ (by simp)
    have bad1 : ∀ (lv : xm_L) (x : Int32), (wdO t (tkE t p) = none ∨ ∃ w2, wdO t (tkE t p) = some w2 ∧ (tgI w2).isSome = true) → xm_go (XE sc) (xm_T (XE sc) (d + 3)) 285 post 37 [(0, .ref 102)] [] h1 := fun _ x z => by
      with_reducible refine xm_go_blk b_X12_renewed_37 k_X12_renewed_37 ?_
      refine by_aload_n rfl ?_
      refine by_iconst ci_1 ?_
      refine by_aload_n rfl ?_
      refine by_getf cn_285 fl_12_598 (by first | exact rfl | assumption) (by decide) ?_
      simp (disch := first | exact Nat.ne_of_beq_eq_false rfl | exact rfl | omega) only [nI_add, xa_sub, xa_mul, pk_div, nm_mod, xa_shr, xa_and7, xa_and1, xa_and255, xa_by_and, nI_m1, Nat.add_sub_cancel, Nat.reducePow, Nat.zero_add, Nat.add_zero, Nat.reduceAdd, Nat.reduceMul, Nat.reduceSub, xf_same, xq_ff, xq_fo, xf_1, xf_2, xs_1, xs_2, xs_same, xq_so, xj_1, xj_2, xj_same, xq_jo, xq_sa1, xq_same, xq_other, upd_s, oI_n, oI_s, xv_0, xv_1, xv_2, xv_3, xm_p1, xm_p2, xq_fp, xq_fn, List.filter_nil, Nat.reduceBEq, Bool.not_true, Bool.not_false, Bool.and_true, Bool.and_false, Bool.false_and, Bool.true_and, if_true, if_false, Bool.false_eq_true, reduceIte, xc_i, xc_j, xc_r, xc_n, List.nil_append, List.cons_append, Option.toList_some, Option.toList_none, u2]
      refine by_inv2 cn_285 lk_12_604 (by rw [xe_cnt]; decide) is_328 np_328 cn_328 (by first | exact rfl | assumption) (Nat.le_of_ble_eq_true rfl) ?_
      refine sp_mwrong c9 ?_
      with_reducible refine xm_go_blk b_X12_renewed_46 k_X12_renewed_46 ?_
      refine by_iret ry_285 (by first | rfl | assumption) ?_
      exact hB 1 _ _ (e1 z) (Fr_sf (Fr_sf g1 (by simp)) (by simp)) (by simp [xm_sf, updV]) (by simp [xm_sf, updV])
    with_reducible refine xm_go_blk b_X12_renewed_9 k_X12_renewed_9 ?_
    refine by_aload_n rfl ?_
    refine by_getf cn_285 fl_12_592 (by first | exact rfl | assumption) (by decide) ?_
    simp (disch := first | exact Nat.ne_of_beq_eq_false rfl | exact rfl | omega) only [nI_add, xa_sub, xa_mul, pk_div, nm_mod, xa_shr, xa_and7, xa_and1, xa_and255, xa_by_and, nI_m1, Nat.add_sub_cancel, Nat.reducePow, Nat.zero_add, Nat.add_zero, Nat.reduceAdd, Nat.reduceMul, Nat.reduceSub, xf_same, xq_ff, xq_fo, xf_1, xf_2, xs_1, xs_2, xs_same, xq_so, xj_1, xj_2, xj_same, xq_jo, xq_sa1, xq_same, xq_other, upd_s, oI_n, oI_s, c9]
    refine by_if_le 18 rfl ?_
    simp (disch := first | exact Nat.ne_of_beq_eq_false rfl | exact rfl | omega) only [nI_add, xa_sub, xa_mul, pk_div, nm_mod, xa_shr, xa_and7, xa_and1, xa_and255, xa_by_and, nI_m1, Nat.add_sub_cancel, Nat.reducePow, Nat.zero_add, Nat.add_zero, Nat.reduceAdd, Nat.reduceMul, Nat.reduceSub, xf_same, xq_ff, xq_fo, xf_1, xf_2, xs_1, xs_2, xs_same, xq_so, xj_1, xj_2, xj_same, xq_jo, xq_sa1, xq_same, xq_other, upd_s, oI_n, oI_s, xv_0, xv_1, xv_2, xv_3, xm_p1, xm_p2, xq_fp, xq_fn, List.filter_nil, Nat.reduceBEq, Bool.not_true, Bool.not_false, Bool.and_true, Bool.and_false, Bool.false_and, Bool.true_and, if_true, if_false, Bool.false_eq_true, reduceIte, xc_i, xc_j, xc_r, xc_n, List.nil_append, List.cons_append, Option.toList_some, Option.toList_none, nI_ltJ, nI_leJ, nI_eqJ, nI_ltz, nI_gez, nI_gtz, nI_lez, nI_eqz, m1_ltz, m1_gez, true_imp_iff, false_imp_iff, true_and, and_true, ne_eq, not_false_eq_true, not_true_eq_false, Nat.reduceEqDiff, Nat.reduceLT, Nat.reduceLeDiff, c9]
    with_reducible refine xm_go_blk b_X12_renewed_18 k_X12_renewed_18 ?_
    refine by_aload_n rfl ?_
    refine by_inv0 cn_285 lk_12_616 (by rw [xe_cnt]; decide) is_275 np_275 cn_275 (by first | exact rfl | assumption) (Nat.le_of_ble_eq_true rfl) ?_
    refine sp_packed (d := d) c1 c2 w1'' b3 (fun hn => ?_) (fun w2 hw2 => ?_)
    · have l0 : (lg_cmp (lN 0) (lN 0) = 0) = True := eq_true (by decide)
      with_reducible refine xm_go_blk b_X12_renewed_22 k_X12_renewed_22 ?_
      refine by_lstore_n (by rw [ml_285]; decide) ?_
      refine by_lload_n rfl ?_
      refine by_lconst cl_0 ?_
      refine by_lcmp ?_
      refine by_if_eq 37 rfl ?_
      simp (disch := first | exact Nat.ne_of_beq_eq_false rfl | exact rfl | omega) only [nI_add, xa_sub, xa_mul, pk_div, nm_mod, xa_shr, xa_and7, xa_and1, xa_and255, xa_by_and, nI_m1, Nat.add_sub_cancel, Nat.reducePow, Nat.zero_add, Nat.add_zero, Nat.reduceAdd, Nat.reduceMul, Nat.reduceSub, xf_same, xq_ff, xq_fo, xf_1, xf_2, xs_1, xs_2, xs_same, xq_so, xj_1, xj_2, xj_same, xq_jo, xq_sa1, xq_same, xq_other, upd_s, oI_n, oI_s, xv_0, xv_1, xv_2, xv_3, xm_p1, xm_p2, xq_fp, xq_fn, List.filter_nil, Nat.reduceBEq, Bool.not_true, Bool.not_false, Bool.and_true, Bool.and_false, Bool.false_and, Bool.true_and, if_true, if_false, Bool.false_eq_true, reduceIte, xc_i, xc_j, xc_r, xc_n, List.nil_append, List.cons_append, Option.toList_some, Option.toList_none, nI_ltJ, nI_leJ, nI_eqJ, nI_ltz, nI_gez, nI_gtz, nI_lez, nI_eqz, m1_ltz, m1_gez, true_imp_iff, false_imp_iff, true_and, and_true, ne_eq, not_false_eq_true, not_true_eq_false, Nat.reduceEqDiff, Nat.reduceLT, Nat.reduceLeDiff, l0]
      exact xm_go_wk (by simp [Value.category]) (bad1 [] 0 (Or.inl hn))
    · have hW := (wdO_W hw2).2.1
      have k52 := (wdO_W hw2).1
      have h48 := v6_lt hW
      have q1 : (v6 w2 = 0) = False := eq_false (v6_pos hW)
      with_reducible refine xm_go_blk b_X12_renewed_22 k_X12_renewed_22 ?_
      refine by_lstore_n (by rw [ml_285]; decide) ?_
      refine by_lload_n rfl ?_
      refine by_lconst cl_0 ?_
      refine by_lcmp ?_
      refine by_if_eq 37 rfl ?_
      simp (disch := first | exact Nat.ne_of_beq_eq_false rfl | exact rfl | omega) only [nI_add, xa_sub, xa_mul, pk_div, nm_mod, xa_shr, xa_and7, xa_and1, xa_and255, xa_by_and, nI_m1, Nat.add_sub_cancel, Nat.reducePow, Nat.zero_add, Nat.add_zero, Nat.reduceAdd, Nat.reduceMul, Nat.reduceSub, xf_same, xq_ff, xq_fo, xf_1, xf_2, xs_1, xs_2, xs_same, xq_so, xj_1, xj_2, xj_same, xq_jo, xq_sa1, xq_same, xq_other, upd_s, oI_n, oI_s, xv_0, xv_1, xv_2, xv_3, xm_p1, xm_p2, xq_fp, xq_fn, List.filter_nil, Nat.reduceBEq, Bool.not_true, Bool.not_false, Bool.and_true, Bool.and_false, Bool.false_and, Bool.true_and, if_true, if_false, Bool.false_eq_true, reduceIte, xc_i, xc_j, xc_r, xc_n, List.nil_append, List.cons_append, Option.toList_some, Option.toList_none, nI_ltJ, nI_leJ, nI_eqJ, nI_ltz, nI_gez, nI_gtz, nI_lez, nI_eqz, m1_ltz, m1_gez, true_imp_iff, false_imp_iff, true_and, and_true, ne_eq, not_false_eq_true, not_true_eq_false, Nat.reduceEqDiff, Nat.reduceLT, Nat.reduceLeDiff, lcz (Nat.lt_trans h48 (by decide)) (by decide : 0 < 2 ^ 64), q1]
      with_reducible refine xm_go_blk b_X12_renewed_29 k_X12_renewed_29 ?_
      refine by_aload_n rfl ?_
      refine by_lload_n rfl ?_
      refine by_inv1 cn_285 lk_12_619 (by rw [xe_cnt]; decide) is_310 np_310 cn_310 (by first | exact rfl | assumption) (Nat.le_of_ble_eq_true rfl) ?_
      refine sp_tongueOf (d := d + 2) c1 c3 hW ?_
      cases et2 : tgI w2 with
      | some c =>
        have := tgI_lt et2
        with_reducible refine xm_go_blk b_X12_renewed_34 k_X12_renewed_34 ?_
        refine by_if_lt 47 rfl ?_
        simp (disch := first | exact Nat.ne_of_beq_eq_false rfl | exact rfl | omega) only [nI_add, xa_sub, xa_mul, pk_div, nm_mod, xa_shr, xa_and7, xa_and1, xa_and255, xa_by_and, nI_m1, Nat.add_sub_cancel, Nat.reducePow, Nat.zero_add, Nat.add_zero, Nat.reduceAdd, Nat.reduceMul, Nat.reduceSub, xf_same, xq_ff, xq_fo, xf_1, xf_2, xs_1, xs_2, xs_same, xq_so, xj_1, xj_2, xj_same, xq_jo, xq_sa1, xq_same, xq_other, upd_s, oI_n, oI_s, xv_0, xv_1, xv_2, xv_3, xm_p1, xm_p2, xq_fp, xq_fn, List.filter_nil, Nat.reduceBEq, Bool.not_true, Bool.not_false, Bool.and_true, Bool.and_false, Bool.false_and, Bool.true_and, if_true, if_false, Bool.false_eq_true, reduceIte, xc_i, xc_j, xc_r, xc_n, List.nil_append, List.cons_append, Option.toList_some, Option.toList_none, nI_ltJ, nI_leJ, nI_eqJ, nI_ltz, nI_gez, nI_gtz, nI_lez, nI_eqz, m1_ltz, m1_gez, true_imp_iff, false_imp_iff, true_and, and_true, ne_eq, not_false_eq_true, not_true_eq_false, Nat.reduceEqDiff, Nat.reduceLT, Nat.reduceLeDiff]
        exact xm_go_wk (by simp [Value.category]) (bad1 [] 0 (Or.inr ⟨w2, hw2, by rw [et2]; rfl⟩))
      | none =>
        with_reducible refine xm_go_blk b_X12_renewed_34 k_X12_renewed_34 ?_
        refine by_if_lt 47 rfl ?_
        simp (disch := first | exact Nat.ne_of_beq_eq_false rfl | exact rfl | omega) only [nI_add, xa_sub, xa_mul, pk_div, nm_mod, xa_shr, xa_and7, xa_and1, xa_and255, xa_by_and, nI_m1, Nat.add_sub_cancel, Nat.reducePow, Nat.zero_add, Nat.add_zero, Nat.reduceAdd, Nat.reduceMul, Nat.reduceSub, xf_same, xq_ff, xq_fo, xf_1, xf_2, xs_1, xs_2, xs_same, xq_so, xj_1, xj_2, xj_same, xq_jo, xq_sa1, xq_same, xq_other, upd_s, oI_n, oI_s, xv_0, xv_1, xv_2, xv_3, xm_p1, xm_p2, xq_fp, xq_fn, List.filter_nil, Nat.reduceBEq, Bool.not_true, Bool.not_false, Bool.and_true, Bool.and_false, Bool.false_and, Bool.true_and, if_true, if_false, Bool.false_eq_true, reduceIte, xc_i, xc_j, xc_r, xc_n, List.nil_append, List.cons_append, Option.toList_some, Option.toList_none, nI_ltJ, nI_leJ, nI_eqJ, nI_ltz, nI_gez, nI_gtz, nI_lez, nI_eqz, m1_ltz, m1_gez, true_imp_iff, false_imp_iff, true_and, and_true, ne_eq, not_false_eq_true, not_true_eq_false, Nat.reduceEqDiff, Nat.reduceLT, Nat.reduceLeDiff]
        with_reducible refine xm_go_blk b_X12_renewed_47 k_X12_renewed_47 ?_
        refine by_aload_n rfl ?_
        refine by_lload_n rfl ?_
        refine by_inv1 cn_285 lk_12_623 (by rw [xe_cnt]; decide) is_265 np_265 cn_265 (by first | exact rfl | assumption) (Nat.le_of_ble_eq_true rfl) ?_
        refine sp_named (d := d + 2) c1 c4 hW ?_
        cases en : nmF w2 NL with
        | none =>
          have eb : sBeg t NL G st p = .inl (2, tkF t (tkE t p)) := by
            unfold sBeg
            rw [if_neg k3, ew]
            simp only [et, if_true, hw2, et2, en]
            rfl
          with_reducible refine xm_go_blk b_X12_renewed_52 k_X12_renewed_52 ?_
          refine by_istore (by rw [ml_285]; decide) ?_
          refine by_iload rfl ?_
          refine by_if_ge 69 rfl ?_
          simp (disch := first | exact Nat.ne_of_beq_eq_false rfl | exact rfl | omega) only [nI_add, xa_sub, xa_mul, pk_div, nm_mod, xa_shr, xa_and7, xa_and1, xa_and255, xa_by_and, nI_m1, Nat.add_sub_cancel, Nat.reducePow, Nat.zero_add, Nat.add_zero, Nat.reduceAdd, Nat.reduceMul, Nat.reduceSub, xf_same, xq_ff, xq_fo, xf_1, xf_2, xs_1, xs_2, xs_same, xq_so, xj_1, xj_2, xj_same, xq_jo, xq_sa1, xq_same, xq_other, upd_s, oI_n, oI_s, xv_0, xv_1, xv_2, xv_3, xm_p1, xm_p2, xq_fp, xq_fn, List.filter_nil, Nat.reduceBEq, Bool.not_true, Bool.not_false, Bool.and_true, Bool.and_false, Bool.false_and, Bool.true_and, if_true, if_false, Bool.false_eq_true, reduceIte, xc_i, xc_j, xc_r, xc_n, List.nil_append, List.cons_append, Option.toList_some, Option.toList_none, nI_ltJ, nI_leJ, nI_eqJ, nI_ltz, nI_gez, nI_gtz, nI_lez, nI_eqz, m1_ltz, m1_gez, true_imp_iff, false_imp_iff, true_and, and_true, ne_eq, not_false_eq_true, not_true_eq_false, Nat.reduceEqDiff, Nat.reduceLT, Nat.reduceLeDiff, u2]
          with_reducible refine xm_go_blk b_X12_renewed_59 k_X12_renewed_59 ?_
          refine by_aload_n rfl ?_
          refine by_iconst ci_2 ?_
          refine by_aload_n rfl ?_
          refine by_getf cn_285 fl_12_598 (by first | exact rfl | assumption) (by decide) ?_
          simp (disch := first | exact Nat.ne_of_beq_eq_false rfl | exact rfl | omega) only [nI_add, xa_sub, xa_mul, pk_div, nm_mod, xa_shr, xa_and7, xa_and1, xa_and255, xa_by_and, nI_m1, Nat.add_sub_cancel, Nat.reducePow, Nat.zero_add, Nat.add_zero, Nat.reduceAdd, Nat.reduceMul, Nat.reduceSub, xf_same, xq_ff, xq_fo, xf_1, xf_2, xs_1, xs_2, xs_same, xq_so, xj_1, xj_2, xj_same, xq_jo, xq_sa1, xq_same, xq_other, upd_s, oI_n, oI_s, xv_0, xv_1, xv_2, xv_3, xm_p1, xm_p2, xq_fp, xq_fn, List.filter_nil, Nat.reduceBEq, Bool.not_true, Bool.not_false, Bool.and_true, Bool.and_false, Bool.false_and, Bool.true_and, if_true, if_false, Bool.false_eq_true, reduceIte, xc_i, xc_j, xc_r, xc_n, List.nil_append, List.cons_append, Option.toList_some, Option.toList_none, u2]
          refine by_inv2 cn_285 lk_12_604 (by rw [xe_cnt]; decide) is_328 np_328 cn_328 (by first | exact rfl | assumption) (Nat.le_of_ble_eq_true rfl) ?_
          refine sp_mwrong c9 ?_
          with_reducible refine xm_go_blk b_X12_renewed_68 k_X12_renewed_68 ?_
          refine by_iret ry_285 (by first | rfl | assumption) ?_
          exact hB 2 _ _ eb (Fr_sf (Fr_sf g1 (by simp)) (by simp)) (by simp [xm_sf, updV]) (by simp [xm_sf, updV])
        | some root =>
          obtain ⟨n1, n2⟩ := hNL _ (nmF_mem en)
          have n1' : root < sCt G := n1
          have eb : sBeg t NL G st p = if 2000 < sCt G + (dfL (sC1 G) (sC2 G) root).length then .inl (3, tkF t p) else .inr ((sCp G (dfL (sC1 G) (sC2 G) root) (dfL (sC1 G) (sC2 G) root).length, st, tkE t (tkE t p)), some (sCt G + (dfL (sC1 G) (sC2 G) root).length - 1)) := by
            unfold sBeg
            rw [if_neg k3, ew]
            simp only [et, if_true, hw2, et2, en]
            rfl
          with_reducible refine xm_go_blk b_X12_renewed_52 k_X12_renewed_52 ?_
          refine by_istore (by rw [ml_285]; decide) ?_
          refine by_iload rfl ?_
          refine by_if_ge 69 rfl ?_
          simp (disch := first | exact Nat.ne_of_beq_eq_false rfl | exact rfl | omega) only [nI_add, xa_sub, xa_mul, pk_div, nm_mod, xa_shr, xa_and7, xa_and1, xa_and255, xa_by_and, nI_m1, Nat.add_sub_cancel, Nat.reducePow, Nat.zero_add, Nat.add_zero, Nat.reduceAdd, Nat.reduceMul, Nat.reduceSub, xf_same, xq_ff, xq_fo, xf_1, xf_2, xs_1, xs_2, xs_same, xq_so, xj_1, xj_2, xj_same, xq_jo, xq_sa1, xq_same, xq_other, upd_s, oI_n, oI_s, xv_0, xv_1, xv_2, xv_3, xm_p1, xm_p2, xq_fp, xq_fn, List.filter_nil, Nat.reduceBEq, Bool.not_true, Bool.not_false, Bool.and_true, Bool.and_false, Bool.false_and, Bool.true_and, if_true, if_false, Bool.false_eq_true, reduceIte, xc_i, xc_j, xc_r, xc_n, List.nil_append, List.cons_append, Option.toList_some, Option.toList_none, nI_ltJ, nI_leJ, nI_eqJ, nI_ltz, nI_gez, nI_gtz, nI_lez, nI_eqz, m1_ltz, m1_gez, true_imp_iff, false_imp_iff, true_and, and_true, ne_eq, not_false_eq_true, not_true_eq_false, Nat.reduceEqDiff, Nat.reduceLT, Nat.reduceLeDiff]
          with_reducible refine xm_go_blk b_X12_renewed_69 k_X12_renewed_69 ?_
          refine by_aload_n rfl ?_
          refine by_iload rfl ?_
          refine by_inv1 cn_285 lk_12_351 (by rw [xe_cnt]; decide) is_225 np_225 cn_225 (by first | exact rfl | assumption) (Nat.le_of_ble_eq_true rfl) ?_
          refine sp_goFrom (d := d + 1) c1 c5 hN n1 (mG_ch hd (fun m hm => ⟨(c6 m hm).1, (c6 m hm).2.1, (c6 m hm).2.2.1⟩)) (sOK_cN hd) (fun h2 L ho f2 hor hlN hli => ?_)
          obtain ⟨l1, l2, l3, hroot⟩ := sOK_L hd n1 n2 ho
          rw [dfL_of ho] at eb
          have F2 := Fr_XF c1 f2 (by decide +kernel)
          have x5 : h2.2.2 102 5 = .int (nI (sCt G)) := by rw [f2.2.2 _ _ (by simp)]; exact c5
          have x81 : h2.2.2 102 81 = .int (nI 0) := by rw [f2.2.2 _ _ (by simp)]; exact c9
          have g2 : Fr smbR smbT h h2 := Fr_tr g1 f2 (by simp) (by simp)
          by_cases big : 2000 < sCt G + L.length
          · rw [if_pos big] at eb
            with_reducible refine xm_go_blk b_X12_renewed_75 k_X12_renewed_75 ?_
            refine by_aload_n rfl ?_
            refine by_getf cn_285 fl_12_223 (by first | exact rfl | assumption) (by decide) ?_
            refine by_aload_n rfl ?_
            refine by_getf cn_285 fl_12_226 (by first | exact rfl | assumption) (by decide) ?_
            simp (disch := first | exact Nat.ne_of_beq_eq_false rfl | exact rfl | omega) only [nI_add, xa_sub, xa_mul, pk_div, nm_mod, xa_shr, xa_and7, xa_and1, xa_and255, xa_by_and, nI_m1, Nat.add_sub_cancel, Nat.reducePow, Nat.zero_add, Nat.add_zero, Nat.reduceAdd, Nat.reduceMul, Nat.reduceSub, xf_same, xq_ff, xq_fo, xf_1, xf_2, xs_1, xs_2, xs_same, xq_so, xj_1, xj_2, xj_same, xq_jo, xq_sa1, xq_same, xq_other, upd_s, oI_n, oI_s, x5, hor]
            refine by_iadd ?_
            refine by_sipush cs_2000 ?_
            refine by_ic_le 97 rfl ?_
            simp (disch := first | exact Nat.ne_of_beq_eq_false rfl | exact rfl | omega) only [nI_add, xa_sub, xa_mul, pk_div, nm_mod, xa_shr, xa_and7, xa_and1, xa_and255, xa_by_and, nI_m1, Nat.add_sub_cancel, Nat.reducePow, Nat.zero_add, Nat.add_zero, Nat.reduceAdd, Nat.reduceMul, Nat.reduceSub, xf_same, xq_ff, xq_fo, xf_1, xf_2, xs_1, xs_2, xs_same, xq_so, xj_1, xj_2, xj_same, xq_jo, xq_sa1, xq_same, xq_other, upd_s, oI_n, oI_s, xv_0, xv_1, xv_2, xv_3, xm_p1, xm_p2, xq_fp, xq_fn, List.filter_nil, Nat.reduceBEq, Bool.not_true, Bool.not_false, Bool.and_true, Bool.and_false, Bool.false_and, Bool.true_and, if_true, if_false, Bool.false_eq_true, reduceIte, xc_i, xc_j, xc_r, xc_n, List.nil_append, List.cons_append, Option.toList_some, Option.toList_none, nI_ltJ, nI_leJ, nI_eqJ, nI_ltz, nI_gez, nI_gtz, nI_lez, nI_eqz, m1_ltz, m1_gez, true_imp_iff, false_imp_iff, true_and, and_true, ne_eq, not_false_eq_true, not_true_eq_false, Nat.reduceEqDiff, Nat.reduceLT, Nat.reduceLeDiff, x5, hor]
            refine ⟨fun c => absurd c (by omega), fun c75 => ?_⟩
            with_reducible refine xm_go_blk b_X12_renewed_90 k_X12_renewed_90 ?_
            refine by_aload_n rfl ?_
            refine by_iconst ci_3 ?_
            refine by_iload_n rfl ?_
            refine by_inv2 cn_285 lk_12_604 (by rw [xe_cnt]; decide) is_328 np_328 cn_328 (by first | exact rfl | assumption) (Nat.le_of_ble_eq_true rfl) ?_
            refine sp_mwrong x81 ?_
            with_reducible refine xm_go_blk b_X12_renewed_96 k_X12_renewed_96 ?_
            refine by_iret ry_285 (by first | rfl | assumption) ?_
            exact hB 3 _ _ eb (Fr_sf (Fr_sf g2 (by simp)) (by simp)) (by simp [xm_sf, updV]) (by simp [xm_sf, updV])
          · rw [if_neg big] at eb
            have gg : mG0 h2 (sCp G L 0) := by
              intro m hm
              obtain ⟨z1, z2, z3, z4, z5, z6⟩ := sCp_o (G := G) (L := L) (k := 0) (x := m) (Or.inl hm)
              rw [z1, z2, z3, z4, z5, z6, f2.1 _ (by simp), f2.1 _ (by simp), f2.1 _ (by simp), f2.1 _ (by simp), f2.1 _ (by simp), f2.1 _ (by simp)]
              exact c6 m hm
            with_reducible refine xm_go_blk b_X12_renewed_75 k_X12_renewed_75 ?_
            refine by_aload_n rfl ?_
            refine by_getf cn_285 fl_12_223 (by first | exact rfl | assumption) (by decide) ?_
            refine by_aload_n rfl ?_
            refine by_getf cn_285 fl_12_226 (by first | exact rfl | assumption) (by decide) ?_
            simp (disch := first | exact Nat.ne_of_beq_eq_false rfl | exact rfl | omega) only [nI_add, xa_sub, xa_mul, pk_div, nm_mod, xa_shr, xa_and7, xa_and1, xa_and255, xa_by_and, nI_m1, Nat.add_sub_cancel, Nat.reducePow, Nat.zero_add, Nat.add_zero, Nat.reduceAdd, Nat.reduceMul, Nat.reduceSub, xf_same, xq_ff, xq_fo, xf_1, xf_2, xs_1, xs_2, xs_same, xq_so, xj_1, xj_2, xj_same, xq_jo, xq_sa1, xq_same, xq_other, upd_s, oI_n, oI_s, x5, hor]
            refine by_iadd ?_
            refine by_sipush cs_2000 ?_
            refine by_ic_le 97 rfl ?_
            simp (disch := first | exact Nat.ne_of_beq_eq_false rfl | exact rfl | omega) only [nI_add, xa_sub, xa_mul, pk_div, nm_mod, xa_shr, xa_and7, xa_and1, xa_and255, xa_by_and, nI_m1, Nat.add_sub_cancel, Nat.reducePow, Nat.zero_add, Nat.add_zero, Nat.reduceAdd, Nat.reduceMul, Nat.reduceSub, xf_same, xq_ff, xq_fo, xf_1, xf_2, xs_1, xs_2, xs_same, xq_so, xj_1, xj_2, xj_same, xq_jo, xq_sa1, xq_same, xq_other, upd_s, oI_n, oI_s, xv_0, xv_1, xv_2, xv_3, xm_p1, xm_p2, xq_fp, xq_fn, List.filter_nil, Nat.reduceBEq, Bool.not_true, Bool.not_false, Bool.and_true, Bool.and_false, Bool.false_and, Bool.true_and, if_true, if_false, Bool.false_eq_true, reduceIte, xc_i, xc_j, xc_r, xc_n, List.nil_append, List.cons_append, Option.toList_some, Option.toList_none, nI_ltJ, nI_leJ, nI_eqJ, nI_ltz, nI_gez, nI_gtz, nI_lez, nI_eqz, m1_ltz, m1_gez, true_imp_iff, false_imp_iff, true_and, and_true, ne_eq, not_false_eq_true, not_true_eq_false, Nat.reduceEqDiff, Nat.reduceLT, Nat.reduceLeDiff, x5, hor]
            refine ⟨fun c75 => ?_, fun c => absurd (by omega) c⟩
            with_reducible refine xm_go_blk b_X12_renewed_97 k_X12_renewed_97 ?_
            refine by_iconst ci_0 ?_
            refine by_istore (by rw [ml_285]; decide) ?_
            refine by_nil ?_
            try simp (disch := first | exact Nat.ne_of_beq_eq_false rfl | exact rfl | omega) only [nI_add, xa_sub, xa_mul, pk_div, nm_mod, xa_shr, xa_and7, xa_and1, xa_and255, xa_by_and, nI_m1, Nat.add_sub_cancel, Nat.reducePow, Nat.zero_add, Nat.add_zero, Nat.reduceAdd, Nat.reduceMul, Nat.reduceSub, xf_same, xq_ff, xq_fo, xf_1, xf_2, xs_1, xs_2, xs_same, xq_so, xj_1, xj_2, xj_same, xq_jo, xq_sa1, xq_same, xq_other, upd_s, oI_n, oI_s, xv_0, xv_1, xv_2, xv_3, xm_p1, xm_p2, xq_fp, xq_fn, List.filter_nil, Nat.reduceBEq, Bool.not_true, Bool.not_false, Bool.and_true, Bool.and_false, Bool.false_and, Bool.true_and, if_true, if_false, Bool.false_eq_true, reduceIte, xc_i, xc_j, xc_r, xc_n, List.nil_append, List.cons_append, Option.toList_some, Option.toList_none, x5, hor]
            refine xm_go_wk (by simp [Value.category]) (rn_100 (d := d) (root := root) (x0 := nI (tkF t p)) (x2 := lN (v6 w2)) F2 hd (by omega) l1 l2 l3 hroot hor hli x81 ⟨_, by rw [f2.2.2 _ _ (by simp)]; exact u2⟩ (fun h3 f3 k5 g3 => ?_) L.length 0 h2 (by omega) Fr_rf x5 gg (fun j hj => absurd hj (Nat.not_lt_zero _)))
            refine hG _ _ h3 eb (Fr_tr g2 f3 (by simp) (by simp)) ⟨Fr_XF F2 f3 (by decide +kernel), mtp_fr (mtp_fr c2 f2 (by simp) (by simp)) f3 (by simp) (by simp), tgM_fr (tgM_fr c3 f2 (by simp)) f3 (by simp), nmM_fr (nmM_fr c4 f2 (by simp) (by simp) (by simp)) f3 (by simp) (by simp) (by simp), k5, g3, by rw [f3.2.2 _ _ (by simp), f2.2.2 _ _ (by simp)]; exact c7, mkS_o c8 (fun j _ => ⟨by rw [f3.1 _ (by simp), f2.1 _ (by simp)], by rw [f3.1 _ (by simp), f2.1 _ (by simp)]⟩) (fun m hm => ?_), by rw [f3.2.2 _ _ (by simp)]; exact x81⟩ (by rw [f3.2.2 _ _ (by simp), f2.2.2 _ _ (by simp)]; exact u1) (by rw [f3.2.2 _ _ (by simp), f2.2.2 _ _ (by simp)]; exact q36)
            obtain ⟨z1, z2, _⟩ := sCp_o (G := G) (L := L) (k := L.length) (x := m) (Or.inl (hd.2.2.1 m hm))
            exact ⟨z1, z2⟩
theorem sp_begun (hT : mT1 h t NL G st) (hI : sInv t NL G st) (hw : mwS h t p) (hpt : p ≤ t.length) (hst : st.length + 2 ≤ p) (k1 : tkK t p ≠ 1)
    (hB : ∀ e f h', sBeg t NL G st p = .inl (e, f) → Fr smbR smbT h h' → h'.2.2 102 81 = .int (nI e) → h'.2.2 102 36 = .int (nI f) → post (some (.int (-1))) h')
    (hG : ∀ S o h', sBeg t NL G st p = .inr (S, o) → Fr smbR smbT h h' → mT1 h' t NL S.1 S.2.1 → h'.2.2 102 82 = .int (nI S.2.2) → h'.2.2 102 36 = h.2.2 102 36 → post (some (.int (oI o))) h') : xm_T (XE sc) (d + 6) 206 [.ref 102] h post := by
  have ht8 : t.length ≤ 8192 := hT.2.1.2.2.2
  obtain ⟨b1, b2, b3, b4⟩ := tk_b hpt
  have hk5 := tkK_le t p
  have hw' := hw
  obtain ⟨w1, w2, w3⟩ := hw
  have hT' := hT
  obtain ⟨a1, a2, a3, a4, a5, a6, a7, a8, a9⟩ := hT
  refine xq_in rfl ?_
  simp only [xq_a0, xq_aI, xq_aJ, xq_aR, Nat.reduceAdd]
  by_cases k3 : tkK t p = 3
  · have w3' : h.2.2 102 83 = .int (nI 2) := by rw [w3, k3]; rfl
    have eb : sBeg t NL G st p = .inr ((G, none :: st, tkE t p), none) := by unfold sBeg; rw [if_pos k3]
    with_reducible refine xm_go_blk b_X12_begun_0 k_X12_begun_0 ?_
    refine by_aload_n rfl ?_
    refine by_getf cn_206 fl_12_601 (by first | exact rfl | assumption) (by decide) ?_
    refine by_iconst ci_2 ?_
    simp (disch := first | exact Nat.ne_of_beq_eq_false rfl | exact rfl | omega) only [nI_add, xa_sub, xa_mul, pk_div, nm_mod, xa_shr, xa_and7, xa_and1, xa_and255, xa_by_and, nI_m1, Nat.add_sub_cancel, Nat.reducePow, Nat.zero_add, Nat.add_zero, Nat.reduceAdd, Nat.reduceMul, Nat.reduceSub, xf_same, xq_ff, xq_fo, xf_1, xf_2, xs_1, xs_2, xs_same, xq_so, xj_1, xj_2, xj_same, xq_jo, xq_sa1, xq_same, xq_other, upd_s, oI_n, oI_s, w3', a7, xf_102_89 a1, xf_102_90 a1]
    refine by_ic_ne 40 rfl ?_
    simp (disch := first | exact Nat.ne_of_beq_eq_false rfl | exact rfl | omega) only [nI_add, xa_sub, xa_mul, pk_div, nm_mod, xa_shr, xa_and7, xa_and1, xa_and255, xa_by_and, nI_m1, Nat.add_sub_cancel, Nat.reducePow, Nat.zero_add, Nat.add_zero, Nat.reduceAdd, Nat.reduceMul, Nat.reduceSub, xf_same, xq_ff, xq_fo, xf_1, xf_2, xs_1, xs_2, xs_same, xq_so, xj_1, xj_2, xj_same, xq_jo, xq_sa1, xq_same, xq_other, upd_s, oI_n, oI_s, xv_0, xv_1, xv_2, xv_3, xm_p1, xm_p2, xq_fp, xq_fn, List.filter_nil, Nat.reduceBEq, Bool.not_true, Bool.not_false, Bool.and_true, Bool.and_false, Bool.false_and, Bool.true_and, if_true, if_false, Bool.false_eq_true, reduceIte, xc_i, xc_j, xc_r, xc_n, List.nil_append, List.cons_append, Option.toList_some, Option.toList_none, nI_ltJ, nI_leJ, nI_eqJ, nI_ltz, nI_gez, nI_gtz, nI_lez, nI_eqz, m1_ltz, m1_gez, true_imp_iff, false_imp_iff, true_and, and_true, ne_eq, not_false_eq_true, not_true_eq_false, Nat.reduceEqDiff, Nat.reduceLT, Nat.reduceLeDiff, w3', a7, xf_102_89 a1, xf_102_90 a1]
    with_reducible refine xm_go_blk b_X12_begun_8 k_X12_begun_8 ?_
    refine by_aload_n rfl ?_
    refine by_getf cn_206 fl_12_184 (by first | exact rfl | assumption) (by decide) ?_
    refine by_aload_n rfl ?_
    refine by_getf cn_206 fl_12_629 (by first | exact rfl | assumption) (by decide) ?_
    refine by_iconst ci_m1 ?_
    simp (disch := first | exact Nat.ne_of_beq_eq_false rfl | exact rfl | omega) only [nI_add, xa_sub, xa_mul, pk_div, nm_mod, xa_shr, xa_and7, xa_and1, xa_and255, xa_by_and, nI_m1, Nat.add_sub_cancel, Nat.reducePow, Nat.zero_add, Nat.add_zero, Nat.reduceAdd, Nat.reduceMul, Nat.reduceSub, xf_same, xq_ff, xq_fo, xf_1, xf_2, xs_1, xs_2, xs_same, xq_so, xj_1, xj_2, xj_same, xq_jo, xq_sa1, xq_same, xq_other, upd_s, oI_n, oI_s, w3', a7, xf_102_89 a1, xf_102_90 a1]
    refine by_iast (by first | exact rfl | assumption | exact ps_1 hpp | exact ps_2 hpp | exact ps_3 hpp | exact ps_4 hpp | exact ps_5 hpp | exact ps_6 hpp | exact ps_7 hpp | exact ps_8 hpp | exact ps_9 hpp | exact ps_10 hpp | exact ps_11 hpp | exact ps_15 hpp | exact ps_16 hpp | exact ps_17 hpp | exact ps_18 hpp | exact ps_19 hpp | exact ps_21 hpp | exact ps_22 hpp | exact ps_23 hpp | exact ps_24 hpp) ⟨by omega, by omega⟩ ?_
    refine by_aload_n rfl ?_
    refine by_getf cn_206 fl_12_187 (by first | exact rfl | assumption) (by decide) ?_
    refine by_aload_n rfl ?_
    refine by_getf cn_206 fl_12_629 (by first | exact rfl | assumption) (by decide) ?_
    refine by_iconst ci_0 ?_
    simp (disch := first | exact Nat.ne_of_beq_eq_false rfl | exact rfl | omega) only [nI_add, xa_sub, xa_mul, pk_div, nm_mod, xa_shr, xa_and7, xa_and1, xa_and255, xa_by_and, nI_m1, Nat.add_sub_cancel, Nat.reducePow, Nat.zero_add, Nat.add_zero, Nat.reduceAdd, Nat.reduceMul, Nat.reduceSub, xf_same, xq_ff, xq_fo, xf_1, xf_2, xs_1, xs_2, xs_same, xq_so, xj_1, xj_2, xj_same, xq_jo, xq_sa1, xq_same, xq_other, upd_s, oI_n, oI_s, w3', a7, xf_102_89 a1, xf_102_90 a1]
    refine by_iast (by first | exact rfl | assumption | exact ps_1 hpp | exact ps_2 hpp | exact ps_3 hpp | exact ps_4 hpp | exact ps_5 hpp | exact ps_6 hpp | exact ps_7 hpp | exact ps_8 hpp | exact ps_9 hpp | exact ps_10 hpp | exact ps_11 hpp | exact ps_15 hpp | exact ps_16 hpp | exact ps_17 hpp | exact ps_18 hpp | exact ps_19 hpp | exact ps_21 hpp | exact ps_22 hpp | exact ps_23 hpp | exact ps_24 hpp) ⟨by omega, by omega⟩ ?_
    refine by_aload_n rfl ?_
    refine by_dup rfl ?_
    refine by_getf cn_206 fl_12_629 (by first | exact rfl | assumption) (by decide) ?_
    refine by_iconst ci_1 ?_
    simp (disch := first | exact Nat.ne_of_beq_eq_false rfl | exact rfl | omega) only [nI_add, xa_sub, xa_mul, pk_div, nm_mod, xa_shr, xa_and7, xa_and1, xa_and255, xa_by_and, nI_m1, Nat.add_sub_cancel, Nat.reducePow, Nat.zero_add, Nat.add_zero, Nat.reduceAdd, Nat.reduceMul, Nat.reduceSub, xf_same, xq_ff, xq_fo, xf_1, xf_2, xs_1, xs_2, xs_same, xq_so, xj_1, xj_2, xj_same, xq_jo, xq_sa1, xq_same, xq_other, upd_s, oI_n, oI_s, w3', a7, xf_102_89 a1, xf_102_90 a1]
    refine by_iadd ?_
    refine by_putf cn_206 fl_12_629 (by first | exact rfl | assumption) (by decide) nf_12_88 ft_12_88 (by first | rfl | assumption) (by first | rfl | assumption) ?_
    refine by_iconst ci_m1 ?_
    simp (disch := first | exact Nat.ne_of_beq_eq_false rfl | exact rfl | omega) only [nI_add, xa_sub, xa_mul, pk_div, nm_mod, xa_shr, xa_and7, xa_and1, xa_and255, xa_by_and, nI_m1, Nat.add_sub_cancel, Nat.reducePow, Nat.zero_add, Nat.add_zero, Nat.reduceAdd, Nat.reduceMul, Nat.reduceSub, xf_same, xq_ff, xq_fo, xf_1, xf_2, xs_1, xs_2, xs_same, xq_so, xj_1, xj_2, xj_same, xq_jo, xq_sa1, xq_same, xq_other, upd_s, oI_n, oI_s, w3', a7, xf_102_89 a1, xf_102_90 a1]
    refine by_iret ry_206 (by first | rfl | assumption) ?_
    exact hG _ none _ eb (Fr_sf (Fr_si (Fr_si Fr_rf (by simp)) (by simp)) (by simp)) (mT1_push (o := none) hT' rfl rfl) (by simpa [xm_sf, xm_si, updV] using w1) (by simp [xm_sf, xm_si, updV])
  · have m2 : (mkk (tkK t p) = 2) = False := eq_false (by unfold mkk; omega)
    have m9 : mkk (tkK t p) < 2147483648 := by unfold mkk; omega
    have bad : ∀ e (lv : xm_L), sBeg t NL G st p = .inl (e, tkF t p) → post (some (.int (-1))) (xm_sf (xm_sf h 102 81 (.int (nI e))) 102 36 (.int (nI (tkF t p)))) := fun e _ eb => hB e _ _ eb (Fr_sf (Fr_sf Fr_rf (by simp)) (by simp)) (by simp [xm_sf, updV]) (by simp [xm_sf, updV])
    with_reducible refine xm_go_blk b_X12_begun_0 k_X12_begun_0 ?_
    refine by_aload_n rfl ?_
    refine by_getf cn_206 fl_12_601 (by first | exact rfl | assumption) (by decide) ?_
    refine by_iconst ci_2 ?_
    simp (disch := first | exact Nat.ne_of_beq_eq_false rfl | exact rfl | omega) only [nI_add, xa_sub, xa_mul, pk_div, nm_mod, xa_shr, xa_and7, xa_and1, xa_and255, xa_by_and, nI_m1, Nat.add_sub_cancel, Nat.reducePow, Nat.zero_add, Nat.add_zero, Nat.reduceAdd, Nat.reduceMul, Nat.reduceSub, xf_same, xq_ff, xq_fo, xf_1, xf_2, xs_1, xs_2, xs_same, xq_so, xj_1, xj_2, xj_same, xq_jo, xq_sa1, xq_same, xq_other, upd_s, oI_n, oI_s, w3, m2]
    refine by_ic_ne 40 rfl ?_
    simp (disch := first | exact Nat.ne_of_beq_eq_false rfl | exact rfl | omega) only [nI_add, xa_sub, xa_mul, pk_div, nm_mod, xa_shr, xa_and7, xa_and1, xa_and255, xa_by_and, nI_m1, Nat.add_sub_cancel, Nat.reducePow, Nat.zero_add, Nat.add_zero, Nat.reduceAdd, Nat.reduceMul, Nat.reduceSub, xf_same, xq_ff, xq_fo, xf_1, xf_2, xs_1, xs_2, xs_same, xq_so, xj_1, xj_2, xj_same, xq_jo, xq_sa1, xq_same, xq_other, upd_s, oI_n, oI_s, xv_0, xv_1, xv_2, xv_3, xm_p1, xm_p2, xq_fp, xq_fn, List.filter_nil, Nat.reduceBEq, Bool.not_true, Bool.not_false, Bool.and_true, Bool.and_false, Bool.false_and, Bool.true_and, if_true, if_false, Bool.false_eq_true, reduceIte, xc_i, xc_j, xc_r, xc_n, List.nil_append, List.cons_append, Option.toList_some, Option.toList_none, nI_ltJ, nI_leJ, nI_eqJ, nI_ltz, nI_gez, nI_gtz, nI_lez, nI_eqz, m1_ltz, m1_gez, true_imp_iff, false_imp_iff, true_and, and_true, ne_eq, not_false_eq_true, not_true_eq_false, Nat.reduceEqDiff, Nat.reduceLT, Nat.reduceLeDiff, w3, m2]
    with_reducible refine xm_go_blk b_X12_begun_40 k_X12_begun_40 ?_
    refine by_aload_n rfl ?_
    refine by_inv0 cn_206 lk_12_616 (by rw [xe_cnt]; decide) is_275 np_275 cn_275 (by first | exact rfl | assumption) (Nat.le_of_ble_eq_true rfl) ?_
    refine sp_packed (d := d + 2) a1 a2 hw' hpt (fun hn => ?_) (fun w hw2 => ?_)
    · have eb : sBeg t NL G st p = .inl (1, tkF t p) := by unfold sBeg; rw [if_neg k3, hn]
      have l0 : (lg_cmp (lN 0) (lN 0) = 0) = True := eq_true (by decide)
      with_reducible refine xm_go_blk b_X12_begun_44 k_X12_begun_44 ?_
      refine by_lstore_n (by rw [ml_206]; decide) ?_
      refine by_lload_n rfl ?_
      refine by_lconst cl_0 ?_
      refine by_lcmp ?_
      refine by_if_ne 61 rfl ?_
      simp (disch := first | exact Nat.ne_of_beq_eq_false rfl | exact rfl | omega) only [nI_add, xa_sub, xa_mul, pk_div, nm_mod, xa_shr, xa_and7, xa_and1, xa_and255, xa_by_and, nI_m1, Nat.add_sub_cancel, Nat.reducePow, Nat.zero_add, Nat.add_zero, Nat.reduceAdd, Nat.reduceMul, Nat.reduceSub, xf_same, xq_ff, xq_fo, xf_1, xf_2, xs_1, xs_2, xs_same, xq_so, xj_1, xj_2, xj_same, xq_jo, xq_sa1, xq_same, xq_other, upd_s, oI_n, oI_s, xv_0, xv_1, xv_2, xv_3, xm_p1, xm_p2, xq_fp, xq_fn, List.filter_nil, Nat.reduceBEq, Bool.not_true, Bool.not_false, Bool.and_true, Bool.and_false, Bool.false_and, Bool.true_and, if_true, if_false, Bool.false_eq_true, reduceIte, xc_i, xc_j, xc_r, xc_n, List.nil_append, List.cons_append, Option.toList_some, Option.toList_none, nI_ltJ, nI_leJ, nI_eqJ, nI_ltz, nI_gez, nI_gtz, nI_lez, nI_eqz, m1_ltz, m1_gez, true_imp_iff, false_imp_iff, true_and, and_true, ne_eq, not_false_eq_true, not_true_eq_false, Nat.reduceEqDiff, Nat.reduceLT, Nat.reduceLeDiff, l0, w2]
      with_reducible refine xm_go_blk b_X12_begun_51 k_X12_begun_51 ?_
      refine by_aload_n rfl ?_
      refine by_iconst ci_1 ?_
      refine by_aload_n rfl ?_
      refine by_getf cn_206 fl_12_598 (by first | exact rfl | assumption) (by decide) ?_
      simp (disch := first | exact Nat.ne_of_beq_eq_false rfl | exact rfl | omega) only [nI_add, xa_sub, xa_mul, pk_div, nm_mod, xa_shr, xa_and7, xa_and1, xa_and255, xa_by_and, nI_m1, Nat.add_sub_cancel, Nat.reducePow, Nat.zero_add, Nat.add_zero, Nat.reduceAdd, Nat.reduceMul, Nat.reduceSub, xf_same, xq_ff, xq_fo, xf_1, xf_2, xs_1, xs_2, xs_same, xq_so, xj_1, xj_2, xj_same, xq_jo, xq_sa1, xq_same, xq_other, upd_s, oI_n, oI_s, xv_0, xv_1, xv_2, xv_3, xm_p1, xm_p2, xq_fp, xq_fn, List.filter_nil, Nat.reduceBEq, Bool.not_true, Bool.not_false, Bool.and_true, Bool.and_false, Bool.false_and, Bool.true_and, if_true, if_false, Bool.false_eq_true, reduceIte, xc_i, xc_j, xc_r, xc_n, List.nil_append, List.cons_append, Option.toList_some, Option.toList_none, l0, w2]
      refine by_inv2 cn_206 lk_12_604 (by rw [xe_cnt]; decide) is_328 np_328 cn_328 (by first | exact rfl | assumption) (Nat.le_of_ble_eq_true rfl) ?_
      refine sp_mwrong a9 ?_
      with_reducible refine xm_go_blk b_X12_begun_60 k_X12_begun_60 ?_
      refine by_iret ry_206 (by first | rfl | assumption) ?_
      exact bad 1 [] eb
    · have hW := (wdO_W hw2).2.1
      have h48 := v6_lt hW
      have q1 : (v6 w = 0) = False := eq_false (v6_pos hW)
      with_reducible refine xm_go_blk b_X12_begun_44 k_X12_begun_44 ?_
      refine by_lstore_n (by rw [ml_206]; decide) ?_
      refine by_lload_n rfl ?_
      refine by_lconst cl_0 ?_
      refine by_lcmp ?_
      refine by_if_ne 61 rfl ?_
      simp (disch := first | exact Nat.ne_of_beq_eq_false rfl | exact rfl | omega) only [nI_add, xa_sub, xa_mul, pk_div, nm_mod, xa_shr, xa_and7, xa_and1, xa_and255, xa_by_and, nI_m1, Nat.add_sub_cancel, Nat.reducePow, Nat.zero_add, Nat.add_zero, Nat.reduceAdd, Nat.reduceMul, Nat.reduceSub, xf_same, xq_ff, xq_fo, xf_1, xf_2, xs_1, xs_2, xs_same, xq_so, xj_1, xj_2, xj_same, xq_jo, xq_sa1, xq_same, xq_other, upd_s, oI_n, oI_s, xv_0, xv_1, xv_2, xv_3, xm_p1, xm_p2, xq_fp, xq_fn, List.filter_nil, Nat.reduceBEq, Bool.not_true, Bool.not_false, Bool.and_true, Bool.and_false, Bool.false_and, Bool.true_and, if_true, if_false, Bool.false_eq_true, reduceIte, xc_i, xc_j, xc_r, xc_n, List.nil_append, List.cons_append, Option.toList_some, Option.toList_none, nI_ltJ, nI_leJ, nI_eqJ, nI_ltz, nI_gez, nI_gtz, nI_lez, nI_eqz, m1_ltz, m1_gez, true_imp_iff, false_imp_iff, true_and, and_true, ne_eq, not_false_eq_true, not_true_eq_false, Nat.reduceEqDiff, Nat.reduceLT, Nat.reduceLeDiff, lcz (Nat.lt_trans h48 (by decide)) (by decide : 0 < 2 ^ 64), q1]
      with_reducible refine xm_go_blk b_X12_begun_61 k_X12_begun_61 ?_
      refine by_aload_n rfl ?_
      refine by_lload_n rfl ?_
      refine by_inv1 cn_206 lk_12_619 (by rw [xe_cnt]; decide) is_310 np_310 cn_310 (by first | exact rfl | assumption) (Nat.le_of_ble_eq_true rfl) ?_
      refine sp_tongueOf (d := d + 4) a1 a3 hW ?_
      cases et : tgI w with
      | none =>
        have m13 : ((-1 : Int32) = nI 13) = False := eq_false (by decide)
        with_reducible refine xm_go_blk b_X12_begun_66 k_X12_begun_66 ?_
        refine by_istore_n (by rw [ml_206]; decide) ?_
        refine by_iload_n rfl ?_
        refine by_bipush cb_13 ?_
        refine by_ic_ne 78 rfl ?_
        simp (disch := first | exact Nat.ne_of_beq_eq_false rfl | exact rfl | omega) only [nI_add, xa_sub, xa_mul, pk_div, nm_mod, xa_shr, xa_and7, xa_and1, xa_and255, xa_by_and, nI_m1, Nat.add_sub_cancel, Nat.reducePow, Nat.zero_add, Nat.add_zero, Nat.reduceAdd, Nat.reduceMul, Nat.reduceSub, xf_same, xq_ff, xq_fo, xf_1, xf_2, xs_1, xs_2, xs_same, xq_so, xj_1, xj_2, xj_same, xq_jo, xq_sa1, xq_same, xq_other, upd_s, oI_n, oI_s, xv_0, xv_1, xv_2, xv_3, xm_p1, xm_p2, xq_fp, xq_fn, List.filter_nil, Nat.reduceBEq, Bool.not_true, Bool.not_false, Bool.and_true, Bool.and_false, Bool.false_and, Bool.true_and, if_true, if_false, Bool.false_eq_true, reduceIte, xc_i, xc_j, xc_r, xc_n, List.nil_append, List.cons_append, Option.toList_some, Option.toList_none, nI_ltJ, nI_leJ, nI_eqJ, nI_ltz, nI_gez, nI_gtz, nI_lez, nI_eqz, m1_ltz, m1_gez, true_imp_iff, false_imp_iff, true_and, and_true, ne_eq, not_false_eq_true, not_true_eq_false, Nat.reduceEqDiff, Nat.reduceLT, Nat.reduceLeDiff, m13]
        with_reducible refine xm_go_blk b_X12_begun_78 k_X12_begun_78 ?_
        refine by_iload_n rfl ?_
        refine by_if_lt 88 rfl ?_
        simp (disch := first | exact Nat.ne_of_beq_eq_false rfl | exact rfl | omega) only [nI_add, xa_sub, xa_mul, pk_div, nm_mod, xa_shr, xa_and7, xa_and1, xa_and255, xa_by_and, nI_m1, Nat.add_sub_cancel, Nat.reducePow, Nat.zero_add, Nat.add_zero, Nat.reduceAdd, Nat.reduceMul, Nat.reduceSub, xf_same, xq_ff, xq_fo, xf_1, xf_2, xs_1, xs_2, xs_same, xq_so, xj_1, xj_2, xj_same, xq_jo, xq_sa1, xq_same, xq_other, upd_s, oI_n, oI_s, xv_0, xv_1, xv_2, xv_3, xm_p1, xm_p2, xq_fp, xq_fn, List.filter_nil, Nat.reduceBEq, Bool.not_true, Bool.not_false, Bool.and_true, Bool.and_false, Bool.false_and, Bool.true_and, if_true, if_false, Bool.false_eq_true, reduceIte, xc_i, xc_j, xc_r, xc_n, List.nil_append, List.cons_append, Option.toList_some, Option.toList_none, nI_ltJ, nI_leJ, nI_eqJ, nI_ltz, nI_gez, nI_gtz, nI_lez, nI_eqz, m1_ltz, m1_gez, true_imp_iff, false_imp_iff, true_and, and_true, ne_eq, not_false_eq_true, not_true_eq_false, Nat.reduceEqDiff, Nat.reduceLT, Nat.reduceLeDiff, m13]
        with_reducible refine xm_go_blk b_X12_begun_88 k_X12_begun_88 ?_
        refine by_aload_n rfl ?_
        refine by_lload_n rfl ?_
        refine by_inv1 cn_206 lk_12_623 (by rw [xe_cnt]; decide) is_265 np_265 cn_265 (by first | exact rfl | assumption) (Nat.le_of_ble_eq_true rfl) ?_
        refine sp_named (d := d + 4) a1 a4 hW ?_
        cases en : nmF w NL with
        | none =>
          have eb : sBeg t NL G st p = .inl (2, tkF t p) := by
            unfold sBeg
            rw [if_neg k3, hw2]
            simp only [et, en]
          with_reducible refine xm_go_blk b_X12_begun_93 k_X12_begun_93 ?_
          refine by_istore (by rw [ml_206]; decide) ?_
          refine by_iload rfl ?_
          refine by_if_ge 112 rfl ?_
          simp (disch := first | exact Nat.ne_of_beq_eq_false rfl | exact rfl | omega) only [nI_add, xa_sub, xa_mul, pk_div, nm_mod, xa_shr, xa_and7, xa_and1, xa_and255, xa_by_and, nI_m1, Nat.add_sub_cancel, Nat.reducePow, Nat.zero_add, Nat.add_zero, Nat.reduceAdd, Nat.reduceMul, Nat.reduceSub, xf_same, xq_ff, xq_fo, xf_1, xf_2, xs_1, xs_2, xs_same, xq_so, xj_1, xj_2, xj_same, xq_jo, xq_sa1, xq_same, xq_other, upd_s, oI_n, oI_s, xv_0, xv_1, xv_2, xv_3, xm_p1, xm_p2, xq_fp, xq_fn, List.filter_nil, Nat.reduceBEq, Bool.not_true, Bool.not_false, Bool.and_true, Bool.and_false, Bool.false_and, Bool.true_and, if_true, if_false, Bool.false_eq_true, reduceIte, xc_i, xc_j, xc_r, xc_n, List.nil_append, List.cons_append, Option.toList_some, Option.toList_none, nI_ltJ, nI_leJ, nI_eqJ, nI_ltz, nI_gez, nI_gtz, nI_lez, nI_eqz, m1_ltz, m1_gez, true_imp_iff, false_imp_iff, true_and, and_true, ne_eq, not_false_eq_true, not_true_eq_false, Nat.reduceEqDiff, Nat.reduceLT, Nat.reduceLeDiff, w2]
          with_reducible refine xm_go_blk b_X12_begun_100 k_X12_begun_100 ?_
          refine by_aload_n rfl ?_
          refine by_iconst ci_2 ?_
          refine by_aload_n rfl ?_
          refine by_getf cn_206 fl_12_598 (by first | exact rfl | assumption) (by decide) ?_
          simp (disch := first | exact Nat.ne_of_beq_eq_false rfl | exact rfl | omega) only [nI_add, xa_sub, xa_mul, pk_div, nm_mod, xa_shr, xa_and7, xa_and1, xa_and255, xa_by_and, nI_m1, Nat.add_sub_cancel, Nat.reducePow, Nat.zero_add, Nat.add_zero, Nat.reduceAdd, Nat.reduceMul, Nat.reduceSub, xf_same, xq_ff, xq_fo, xf_1, xf_2, xs_1, xs_2, xs_same, xq_so, xj_1, xj_2, xj_same, xq_jo, xq_sa1, xq_same, xq_other, upd_s, oI_n, oI_s, xv_0, xv_1, xv_2, xv_3, xm_p1, xm_p2, xq_fp, xq_fn, List.filter_nil, Nat.reduceBEq, Bool.not_true, Bool.not_false, Bool.and_true, Bool.and_false, Bool.false_and, Bool.true_and, if_true, if_false, Bool.false_eq_true, reduceIte, xc_i, xc_j, xc_r, xc_n, List.nil_append, List.cons_append, Option.toList_some, Option.toList_none, w2]
          refine by_inv2 cn_206 lk_12_604 (by rw [xe_cnt]; decide) is_328 np_328 cn_328 (by first | exact rfl | assumption) (Nat.le_of_ble_eq_true rfl) ?_
          refine sp_mwrong a9 ?_
          with_reducible refine xm_go_blk b_X12_begun_109 k_X12_begun_109 ?_
          refine by_goto 114 rfl ?_
          with_reducible refine xm_go_blk b_X12_begun_114 k_X12_begun_114 ?_
          refine by_iret ry_206 (by first | rfl | assumption) ?_
          exact bad 2 [] eb
        | some n =>
          have hn2 : n < 2000 := by
            have := (hI.2 _ (nmF_mem en)).1
            obtain ⟨⟨rk, M, hd⟩, _⟩ := hI
            have := hd.1
            omega
          have eb : sBeg t NL G st p = .inr ((G, st, tkE t p), some n) := by
            unfold sBeg
            rw [if_neg k3, hw2]
            simp only [et, en]
          with_reducible refine xm_go_blk b_X12_begun_93 k_X12_begun_93 ?_
          refine by_istore (by rw [ml_206]; decide) ?_
          refine by_iload rfl ?_
          refine by_if_ge 112 rfl ?_
          simp (disch := first | exact Nat.ne_of_beq_eq_false rfl | exact rfl | omega) only [nI_add, xa_sub, xa_mul, pk_div, nm_mod, xa_shr, xa_and7, xa_and1, xa_and255, xa_by_and, nI_m1, Nat.add_sub_cancel, Nat.reducePow, Nat.zero_add, Nat.add_zero, Nat.reduceAdd, Nat.reduceMul, Nat.reduceSub, xf_same, xq_ff, xq_fo, xf_1, xf_2, xs_1, xs_2, xs_same, xq_so, xj_1, xj_2, xj_same, xq_jo, xq_sa1, xq_same, xq_other, upd_s, oI_n, oI_s, xv_0, xv_1, xv_2, xv_3, xm_p1, xm_p2, xq_fp, xq_fn, List.filter_nil, Nat.reduceBEq, Bool.not_true, Bool.not_false, Bool.and_true, Bool.and_false, Bool.false_and, Bool.true_and, if_true, if_false, Bool.false_eq_true, reduceIte, xc_i, xc_j, xc_r, xc_n, List.nil_append, List.cons_append, Option.toList_some, Option.toList_none, nI_ltJ, nI_leJ, nI_eqJ, nI_ltz, nI_gez, nI_gtz, nI_lez, nI_eqz, m1_ltz, m1_gez, true_imp_iff, false_imp_iff, true_and, and_true, ne_eq, not_false_eq_true, not_true_eq_false, Nat.reduceEqDiff, Nat.reduceLT, Nat.reduceLeDiff]
          with_reducible refine xm_go_blk b_X12_begun_112 k_X12_begun_112 ?_
          refine by_iload rfl ?_
          refine by_nil ?_
          with_reducible refine xm_go_blk b_X12_begun_114 k_X12_begun_114 ?_
          refine by_iret ry_206 (by first | rfl | assumption) ?_
          exact hG _ (some n) h eb Fr_rf hT' w1 rfl
      | some c =>
        have hc14 := tgI_lt et
        by_cases c13 : c = 13
        · subst c13
          with_reducible refine xm_go_blk b_X12_begun_66 k_X12_begun_66 ?_
          refine by_istore_n (by rw [ml_206]; decide) ?_
          refine by_iload_n rfl ?_
          refine by_bipush cb_13 ?_
          refine by_ic_ne 78 rfl ?_
          simp (disch := first | exact Nat.ne_of_beq_eq_false rfl | exact rfl | omega) only [nI_add, xa_sub, xa_mul, pk_div, nm_mod, xa_shr, xa_and7, xa_and1, xa_and255, xa_by_and, nI_m1, Nat.add_sub_cancel, Nat.reducePow, Nat.zero_add, Nat.add_zero, Nat.reduceAdd, Nat.reduceMul, Nat.reduceSub, xf_same, xq_ff, xq_fo, xf_1, xf_2, xs_1, xs_2, xs_same, xq_so, xj_1, xj_2, xj_same, xq_jo, xq_sa1, xq_same, xq_other, upd_s, oI_n, oI_s, xv_0, xv_1, xv_2, xv_3, xm_p1, xm_p2, xq_fp, xq_fn, List.filter_nil, Nat.reduceBEq, Bool.not_true, Bool.not_false, Bool.and_true, Bool.and_false, Bool.false_and, Bool.true_and, if_true, if_false, Bool.false_eq_true, reduceIte, xc_i, xc_j, xc_r, xc_n, List.nil_append, List.cons_append, Option.toList_some, Option.toList_none, nI_ltJ, nI_leJ, nI_eqJ, nI_ltz, nI_gez, nI_gtz, nI_lez, nI_eqz, m1_ltz, m1_gez, true_imp_iff, false_imp_iff, true_and, and_true, ne_eq, not_false_eq_true, not_true_eq_false, Nat.reduceEqDiff, Nat.reduceLT, Nat.reduceLeDiff]
          with_reducible refine xm_go_blk b_X12_begun_73 k_X12_begun_73 ?_
          refine by_aload_n rfl ?_
          refine by_inv0 cn_206 lk_12_641 (by rw [xe_cnt]; decide) is_285 np_285 cn_285 (by first | exact rfl | assumption) (Nat.le_of_ble_eq_true rfl) ?_
          refine sp_renewed (d := d + 1) hT' hI hw' hpt k3 hw2 et (fun e f h1 eb f1 s1 q1 => ?_) (fun S o h1 eb f1 T1 s1 q1 => ?_)
          · with_reducible refine xm_go_blk b_X12_begun_77 k_X12_begun_77 ?_
            refine by_iret ry_206 (by first | rfl | assumption) ?_
            exact hB e f h1 eb f1 s1 q1
          · with_reducible refine xm_go_blk b_X12_begun_77 k_X12_begun_77 ?_
            refine by_iret ry_206 (by first | rfl | assumption) ?_
            exact hG S o h1 eb f1 T1 s1 q1
        · have c13' : (c = 13) = False := eq_false c13
          with_reducible refine xm_go_blk b_X12_begun_66 k_X12_begun_66 ?_
          refine by_istore_n (by rw [ml_206]; decide) ?_
          refine by_iload_n rfl ?_
          refine by_bipush cb_13 ?_
          refine by_ic_ne 78 rfl ?_
          simp (disch := first | exact Nat.ne_of_beq_eq_false rfl | exact rfl | omega) only [nI_add, xa_sub, xa_mul, pk_div, nm_mod, xa_shr, xa_and7, xa_and1, xa_and255, xa_by_and, nI_m1, Nat.add_sub_cancel, Nat.reducePow, Nat.zero_add, Nat.add_zero, Nat.reduceAdd, Nat.reduceMul, Nat.reduceSub, xf_same, xq_ff, xq_fo, xf_1, xf_2, xs_1, xs_2, xs_same, xq_so, xj_1, xj_2, xj_same, xq_jo, xq_sa1, xq_same, xq_other, upd_s, oI_n, oI_s, xv_0, xv_1, xv_2, xv_3, xm_p1, xm_p2, xq_fp, xq_fn, List.filter_nil, Nat.reduceBEq, Bool.not_true, Bool.not_false, Bool.and_true, Bool.and_false, Bool.false_and, Bool.true_and, if_true, if_false, Bool.false_eq_true, reduceIte, xc_i, xc_j, xc_r, xc_n, List.nil_append, List.cons_append, Option.toList_some, Option.toList_none, nI_ltJ, nI_leJ, nI_eqJ, nI_ltz, nI_gez, nI_gtz, nI_lez, nI_eqz, m1_ltz, m1_gez, true_imp_iff, false_imp_iff, true_and, and_true, ne_eq, not_false_eq_true, not_true_eq_false, Nat.reduceEqDiff, Nat.reduceLT, Nat.reduceLeDiff, c13']
          with_reducible refine xm_go_blk b_X12_begun_78 k_X12_begun_78 ?_
          refine by_iload_n rfl ?_
          refine by_if_lt 88 rfl ?_
          simp (disch := first | exact Nat.ne_of_beq_eq_false rfl | exact rfl | omega) only [nI_add, xa_sub, xa_mul, pk_div, nm_mod, xa_shr, xa_and7, xa_and1, xa_and255, xa_by_and, nI_m1, Nat.add_sub_cancel, Nat.reducePow, Nat.zero_add, Nat.add_zero, Nat.reduceAdd, Nat.reduceMul, Nat.reduceSub, xf_same, xq_ff, xq_fo, xf_1, xf_2, xs_1, xs_2, xs_same, xq_so, xj_1, xj_2, xj_same, xq_jo, xq_sa1, xq_same, xq_other, upd_s, oI_n, oI_s, xv_0, xv_1, xv_2, xv_3, xm_p1, xm_p2, xq_fp, xq_fn, List.filter_nil, Nat.reduceBEq, Bool.not_true, Bool.not_false, Bool.and_true, Bool.and_false, Bool.false_and, Bool.true_and, if_true, if_false, Bool.false_eq_true, reduceIte, xc_i, xc_j, xc_r, xc_n, List.nil_append, List.cons_append, Option.toList_some, Option.toList_none, nI_ltJ, nI_leJ, nI_eqJ, nI_ltz, nI_gez, nI_gtz, nI_lez, nI_eqz, m1_ltz, m1_gez, true_imp_iff, false_imp_iff, true_and, and_true, ne_eq, not_false_eq_true, not_true_eq_false, Nat.reduceEqDiff, Nat.reduceLT, Nat.reduceLeDiff, c13']
          with_reducible refine xm_go_blk b_X12_begun_82 k_X12_begun_82 ?_
          refine by_aload_n rfl ?_
          refine by_iload_n rfl ?_
          refine by_inv1 cn_206 lk_12_644 (by rw [xe_cnt]; decide) is_246 np_246 cn_246 (by first | exact rfl | assumption) (Nat.le_of_ble_eq_true rfl) ?_
          refine sp_kindMade (d := d) hT' hI w1 w2 hpt hst (by omega) (fun full h1 f1 s1 q1 => ?_) (fun nf c6 h1 f1 T1 s1 q1 => ?_) (fun nf c6 c9 h1 f1 T1 s1 q1 => ?_) (fun nf c9 eo h1 f1 s1 q1 => ?_) (fun q nf c9 eo h1 f1 T1 s1 q1 => ?_)
          · with_reducible refine xm_go_blk b_X12_begun_87 k_X12_begun_87 ?_
            refine by_iret ry_206 (by first | rfl | assumption) ?_
            refine hB 3 _ h1 ?_ f1 s1 q1
            unfold sBeg
            rw [if_neg k3, hw2]
            simp only [et, c13, if_false, full, if_true]
          · with_reducible refine xm_go_blk b_X12_begun_87 k_X12_begun_87 ?_
            refine by_iret ry_206 (by first | rfl | assumption) ?_
            refine hG (sAdd G c 0 0 (fun _ => 0), some (sCt G) :: st, tkE t p) none h1 ?_ f1 T1 s1 q1
            unfold sBeg
            rw [if_neg k3, hw2]
            simp only [et, c13, if_false, nf, c6, if_true]
          · with_reducible refine xm_go_blk b_X12_begun_87 k_X12_begun_87 ?_
            refine by_iret ry_206 (by first | rfl | assumption) ?_
            refine hG (sAdd G c 0 0 (fun _ => 0), st, tkE t p) (some (sCt G)) h1 ?_ f1 T1 s1 q1
            unfold sBeg
            rw [if_neg k3, hw2]
            simp only [et, c13, if_false, nf, c6, c9, if_true]
          · have c6 : ¬ c ≤ 6 := by omega
            with_reducible refine xm_go_blk b_X12_begun_87 k_X12_begun_87 ?_
            refine by_iret ry_206 (by first | rfl | assumption) ?_
            refine hB 1 _ h1 ?_ f1 s1 q1
            unfold sBeg
            rw [if_neg k3, hw2]
            simp only [et, c13, if_false, nf, c6, c9, eo]
          · have c6 : ¬ c ≤ 6 := by omega
            with_reducible refine xm_go_blk b_X12_begun_87 k_X12_begun_87 ?_
            refine by_iret ry_206 (by first | rfl | assumption) ?_
            refine hG (sAdd G c q.1 q.2.1 q.2.2, st, tkE t (tkE t p)) (some (sCt G)) h1 ?_ f1 T1 s1 q1
            unfold sBeg
            rw [if_neg k3, hw2]
            simp only [et, c13, if_false, nf, c6, c9, eo]
end SY
