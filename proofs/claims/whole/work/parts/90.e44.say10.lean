/-! ===== say: the class's words behind witness, hidden and jet ===== -/
abbrev swdG : List (Nat × Nat) := [(46, 0), (46, 11), (46, 12), (46, 13), (46, 14), (46, 15), (46, 16)]
abbrev scpR (pp : Nat) : List Nat := [pp + 1, pp + 2, pp + 3, pp + 4, pp + 5, pp + 11]
abbrev scpT (pp : Nat) : List (Nat × Nat) := [(46, 0), (46, 11), (46, 12), (46, 13), (46, 14), (46, 15), (46, 16), (pp, 0), (pp, 15)]
theorem cp_fin {pp : Nat} (hpp : pp = 52 ∨ pp = 77) : xt_fin.all (fun q => !((scpT pp).contains (q.1, q.2.1))) = true := by rcases hpp with rfl | rfl <;> decide +kernel
/-- what a turn of the class finds, its program aside -/
def cT1 (h : xm_H) (pp : Nat) (t : List Nat) (NL : List (List Nat × Nat)) (st : List (Option Nat)) (W : Nat) : Prop := h.2.2 46 9 = .ref 1 ∧ h.2.2 46 10 = .ref pp ∧ rowIs h 1 2 t ∧ nmX h NL ∧ h.2.2 46 8 = .int (nI st.length) ∧ ckS h st ∧ ordI h W
section SY
variable {sc : xm_Sc} {d pp n c nh p W : Nat} {t : List Nat} {NL : List (List Nat × Nat)} {G : sG} {st : List (Option Nat)} {hx : Nat → Nat} {h h' : xm_H} {post : xm_Po}
theorem cT1_fr (hpp : pp = 52 ∨ pp = 77) (hT : cT1 h pp t NL st W) (hf : Fr (scpR pp) (scpT pp) h h') : cT1 h' pp t NL st W := by
  have q : (2 : Nat) ∉ scpR pp ∧ 48 ∉ scpR pp ∧ 49 ∉ scpR pp ∧ 50 ∉ scpR pp ∧ 51 ∉ scpR pp ∧ 47 ∉ scpR pp ∧ 10 ∉ scpR pp ∧ (46, 9) ∉ scpT pp ∧ (46, 10) ∉ scpT pp ∧ (1, 0) ∉ scpT pp ∧ (1, 1) ∉ scpT pp ∧ (46, 7) ∉ scpT pp ∧ (46, 8) ∉ scpT pp ∧ (7, 9) ∉ scpT pp := by rcases hpp with rfl | rfl <;> decide
  obtain ⟨q1, q2, q3, q4, q5, q6, q7, q8, q9, q10, q11, q12, q13, q14⟩ := q
  obtain ⟨a1, a2, a3, a4, a5, a6, a7⟩ := hT
  refine ⟨by rw [hf.2.2 _ _ q8]; exact a1, by rw [hf.2.2 _ _ q9]; exact a2, rowIs_fr a3 hf q1 q10 q11, nmX_fr a4 hf q2 q3 q4 q5 q12, by rw [hf.2.2 _ _ q13]; exact a5, ckS_o a6 (fun j _ => by rw [hf.1 _ q6]), by rw [hf.2.2 _ _ q14]; exact a7.1, fun x hx => by rw [hf.1 _ q7]; exact a7.2 x hx⟩
theorem sp_readOperand (hF : XF h) (hpp : pp = 52 ∨ pp = 77) (hT : cT1 h pp t NL st W) (hw : wdS h t p) (hpt : p ≤ t.length) (hN : sCt G < 2000) (hc : 10 ≤ c) (hc2 : c ≤ 12) (hg : cG0 h pp G hx nh) (hnh : h.2.2 pp 15 = .int (nI nh)) (hh : 64 * nh ≤ p) (hct : h.2.2 pp 0 = .int (nI (sCt G + 1)))
    (e1 : h.1 (pp + 1) (sCt G) = nI c) (e2 : h.1 (pp + 2) (sCt G) = -1) (e3 : h.1 (pp + 3) (sCt G) = -1) (e5 : h.1 (pp + 5) (sCt G) = nI 0)
    (hgood : ∀ q h' nh', sOp t c p = some q → Fr (scpR pp) (scpT pp) h h' → ckG h' pp (sAdd G c q.1 q.2.1 q.2.2) nh' → 64 * nh' ≤ tkE t p → h'.2.2 46 13 = h.2.2 46 13 → h'.2.2 46 16 = h.2.2 46 16 → h'.2.2 46 0 = h.2.2 46 0 → post (some (.int (nI (sCt G)))) h')
    (hbad : ∀ h', sOp t c p = none → Fr (scpR pp) (scpT pp) h h' → h'.2.2 46 16 = .int (nI 1) → h'.2.2 46 0 = .int (nI (tkF t p)) → post (some (.int (-1))) h') : xm_T (XE sc) (d + 3) 154 [.ref 46, .int (nI (sCt G)), .int (nI c)] h post := by
  have ht8 : t.length ≤ 8192 := hT.2.2.1.2.2.1
  obtain ⟨w1, w2, w3, w4, w5⟩ := hw
  obtain ⟨b1, b2, b3, b4⟩ := tk_b hpt
  have hk5 := tkK_le t p
  obtain ⟨t1, t2, t3, t4, t5, t6, t7⟩ := hT
  have q : (46, 12) ∉ [(pp, 15)] ∧ (46, 13) ∉ [(pp, 15)] ∧ (46, 16) ∉ [(pp, 15)] ∧ (pp, 0) ∉ [(pp, 15)] ∧ (46, 0) ∉ [(pp, 15)] := by rcases hpp with rfl | rfl <;> decide
  obtain ⟨q1, q2, q3, q4, q5⟩ := q
  have bad : ∀ h1 x, sOp t c p = none → Fr (scpR pp) (scpT pp) h h1 → h1.2.2 46 12 = .int (nI (tkF t p)) → xm_go (XE sc) (xm_T (XE sc) (d + 2)) 154 post 62 [(3, .int (nI 0)), (0, .ref 46), (1, .int (nI (sCt G))), (2, .int x)] [] h1 := fun h1 x ho f1 a12 => by
    with_reducible refine xm_go_blk b_X9_readOperand_62 k_X9_readOperand_62 ?_
    refine by_iload_n rfl ?_
    refine by_if_eq 70 rfl ?_
    simp (disch := first | exact Nat.ne_of_beq_eq_false rfl | exact rfl | omega) only [nI_add, xa_sub, xa_mul, pk_div, nm_mod, xa_shr, xa_and7, xa_and1, xa_and255, xa_by_and, nI_m1, Nat.add_sub_cancel, Nat.reducePow, Nat.zero_add, Nat.add_zero, Nat.reduceAdd, Nat.reduceMul, Nat.reduceSub, xf_same, xq_ff, xq_fo, xf_1, xf_2, xs_1, xs_2, xs_same, xq_so, xj_1, xj_2, xj_same, xq_jo, xq_sa1, xq_same, xq_other, upd_s, oI_n, oI_s, xv_0, xv_1, xv_2, xv_3, xm_p1, xm_p2, xq_fp, xq_fn, List.filter_nil, Nat.reduceBEq, Bool.not_true, Bool.not_false, Bool.and_true, Bool.and_false, Bool.false_and, Bool.true_and, if_true, if_false, Bool.false_eq_true, reduceIte, xc_i, xc_j, xc_r, xc_n, List.nil_append, List.cons_append, Option.toList_some, Option.toList_none, nI_ltJ, nI_leJ, nI_eqJ, nI_ltz, nI_gez, nI_gtz, nI_lez, nI_eqz, m1_ltz, m1_gez, true_imp_iff, false_imp_iff, true_and, and_true, ne_eq, not_false_eq_true, not_true_eq_false, Nat.reduceEqDiff, Nat.reduceLT, Nat.reduceLeDiff, a12]
    with_reducible refine xm_go_blk b_X9_readOperand_70 k_X9_readOperand_70 ?_
    refine by_aload_n rfl ?_
    refine by_iconst ci_1 ?_
    refine by_aload_n rfl ?_
    refine by_getf cn_154 fl_9_107 (by first | exact rfl | assumption) (by decide) ?_
    simp (disch := first | exact Nat.ne_of_beq_eq_false rfl | exact rfl | omega) only [nI_add, xa_sub, xa_mul, pk_div, nm_mod, xa_shr, xa_and7, xa_and1, xa_and255, xa_by_and, nI_m1, Nat.add_sub_cancel, Nat.reducePow, Nat.zero_add, Nat.add_zero, Nat.reduceAdd, Nat.reduceMul, Nat.reduceSub, xf_same, xq_ff, xq_fo, xf_1, xf_2, xs_1, xs_2, xs_same, xq_so, xj_1, xj_2, xj_same, xq_jo, xq_sa1, xq_same, xq_other, upd_s, oI_n, oI_s, xv_0, xv_1, xv_2, xv_3, xm_p1, xm_p2, xq_fp, xq_fn, List.filter_nil, Nat.reduceBEq, Bool.not_true, Bool.not_false, Bool.and_true, Bool.and_false, Bool.false_and, Bool.true_and, if_true, if_false, Bool.false_eq_true, reduceIte, xc_i, xc_j, xc_r, xc_n, List.nil_append, List.cons_append, Option.toList_some, Option.toList_none, a12]
    refine by_inv2 cn_154 lk_9_110 (by rw [xe_cnt]; decide) is_156 np_156 cn_156 (by first | exact rfl | assumption) (Nat.le_of_ble_eq_true rfl) ?_
    refine sp_refuse ?_
    with_reducible refine xm_go_blk b_X9_readOperand_79 k_X9_readOperand_79 ?_
    refine by_iret ry_154 (by first | rfl | assumption) ?_
    exact hbad _ ho (Fr_sf (Fr_sf f1 (by simp)) (by simp)) (by simp [xm_sf, updV]) (by simp [xm_sf, updV])
  refine xq_in rfl ?_
  simp only [xq_a0, xq_aI, xq_aJ, xq_aR, Nat.reduceAdd]
  by_cases k5 : tkK t p = 5
  · have lt := b4 (by rw [k5]; decide)
    rw [k5] at w1
    rcases (by omega : c = 10 ∨ c = 11 ∨ c = 12) with rfl | rfl | rfl
    · with_reducible refine xm_go_blk b_X9_readOperand_0 k_X9_readOperand_0 ?_
      refine by_aload_n rfl ?_
      refine by_getf cn_154 fl_9_100 (by first | exact rfl | assumption) (by decide) ?_
      refine by_iconst ci_5 ?_
      simp (disch := first | exact Nat.ne_of_beq_eq_false rfl | exact rfl | omega) only [nI_add, xa_sub, xa_mul, pk_div, nm_mod, xa_shr, xa_and7, xa_and1, xa_and255, xa_by_and, nI_m1, Nat.add_sub_cancel, Nat.reducePow, Nat.zero_add, Nat.add_zero, Nat.reduceAdd, Nat.reduceMul, Nat.reduceSub, xf_same, xq_ff, xq_fo, xf_1, xf_2, xs_1, xs_2, xs_same, xq_so, xj_1, xj_2, xj_same, xq_jo, xq_sa1, xq_same, xq_other, upd_s, oI_n, oI_s, w1]
      refine by_ic_ne 12 rfl ?_
      simp (disch := first | exact Nat.ne_of_beq_eq_false rfl | exact rfl | omega) only [nI_add, xa_sub, xa_mul, pk_div, nm_mod, xa_shr, xa_and7, xa_and1, xa_and255, xa_by_and, nI_m1, Nat.add_sub_cancel, Nat.reducePow, Nat.zero_add, Nat.add_zero, Nat.reduceAdd, Nat.reduceMul, Nat.reduceSub, xf_same, xq_ff, xq_fo, xf_1, xf_2, xs_1, xs_2, xs_same, xq_so, xj_1, xj_2, xj_same, xq_jo, xq_sa1, xq_same, xq_other, upd_s, oI_n, oI_s, xv_0, xv_1, xv_2, xv_3, xm_p1, xm_p2, xq_fp, xq_fn, List.filter_nil, Nat.reduceBEq, Bool.not_true, Bool.not_false, Bool.and_true, Bool.and_false, Bool.false_and, Bool.true_and, if_true, if_false, Bool.false_eq_true, reduceIte, xc_i, xc_j, xc_r, xc_n, List.nil_append, List.cons_append, Option.toList_some, Option.toList_none, nI_ltJ, nI_leJ, nI_eqJ, nI_ltz, nI_gez, nI_gtz, nI_lez, nI_eqz, m1_ltz, m1_gez, true_imp_iff, false_imp_iff, true_and, and_true, ne_eq, not_false_eq_true, not_true_eq_false, Nat.reduceEqDiff, Nat.reduceLT, Nat.reduceLeDiff, w1]
      with_reducible refine xm_go_blk b_X9_readOperand_8 k_X9_readOperand_8 ?_
      refine by_iconst ci_1 ?_
      refine by_goto 13 rfl ?_
      with_reducible refine xm_go_blk b_X9_readOperand_13 k_X9_readOperand_13 ?_
      refine by_istore_n (by rw [ml_154]; decide) ?_
      refine by_iload_n rfl ?_
      refine by_if_eq 33 rfl ?_
      simp (disch := first | exact Nat.ne_of_beq_eq_false rfl | exact rfl | omega) only [nI_add, xa_sub, xa_mul, pk_div, nm_mod, xa_shr, xa_and7, xa_and1, xa_and255, xa_by_and, nI_m1, Nat.add_sub_cancel, Nat.reducePow, Nat.zero_add, Nat.add_zero, Nat.reduceAdd, Nat.reduceMul, Nat.reduceSub, xf_same, xq_ff, xq_fo, xf_1, xf_2, xs_1, xs_2, xs_same, xq_so, xj_1, xj_2, xj_same, xq_jo, xq_sa1, xq_same, xq_other, upd_s, oI_n, oI_s, xv_0, xv_1, xv_2, xv_3, xm_p1, xm_p2, xq_fp, xq_fn, List.filter_nil, Nat.reduceBEq, Bool.not_true, Bool.not_false, Bool.and_true, Bool.and_false, Bool.false_and, Bool.true_and, if_true, if_false, Bool.false_eq_true, reduceIte, xc_i, xc_j, xc_r, xc_n, List.nil_append, List.cons_append, Option.toList_some, Option.toList_none, nI_ltJ, nI_leJ, nI_eqJ, nI_ltz, nI_gez, nI_gtz, nI_lez, nI_eqz, m1_ltz, m1_gez, true_imp_iff, false_imp_iff, true_and, and_true, ne_eq, not_false_eq_true, not_true_eq_false, Nat.reduceEqDiff, Nat.reduceLT, Nat.reduceLeDiff, w1]
      with_reducible refine xm_go_blk b_X9_readOperand_18 k_X9_readOperand_18 ?_
      refine by_iload_n rfl ?_
      refine by_bipush cb_10 ?_
      refine by_ic_ne 33 rfl ?_
      simp (disch := first | exact Nat.ne_of_beq_eq_false rfl | exact rfl | omega) only [nI_add, xa_sub, xa_mul, pk_div, nm_mod, xa_shr, xa_and7, xa_and1, xa_and255, xa_by_and, nI_m1, Nat.add_sub_cancel, Nat.reducePow, Nat.zero_add, Nat.add_zero, Nat.reduceAdd, Nat.reduceMul, Nat.reduceSub, xf_same, xq_ff, xq_fo, xf_1, xf_2, xs_1, xs_2, xs_same, xq_so, xj_1, xj_2, xj_same, xq_jo, xq_sa1, xq_same, xq_other, upd_s, oI_n, oI_s, xv_0, xv_1, xv_2, xv_3, xm_p1, xm_p2, xq_fp, xq_fn, List.filter_nil, Nat.reduceBEq, Bool.not_true, Bool.not_false, Bool.and_true, Bool.and_false, Bool.false_and, Bool.true_and, if_true, if_false, Bool.false_eq_true, reduceIte, xc_i, xc_j, xc_r, xc_n, List.nil_append, List.cons_append, Option.toList_some, Option.toList_none, nI_ltJ, nI_leJ, nI_eqJ, nI_ltz, nI_gez, nI_gtz, nI_lez, nI_eqz, m1_ltz, m1_gez, true_imp_iff, false_imp_iff, true_and, and_true, ne_eq, not_false_eq_true, not_true_eq_false, Nat.reduceEqDiff, Nat.reduceLT, Nat.reduceLeDiff, w1]
      with_reducible refine xm_go_blk b_X9_readOperand_24 k_X9_readOperand_24 ?_
      refine by_aload_n rfl ?_
      refine by_iload_n rfl ?_
      refine by_inv1 cn_154 lk_9_175 (by rw [xe_cnt]; decide) is_155 np_155 cn_155 (by first | exact rfl | assumption) (Nat.le_of_ble_eq_true rfl) ?_
      refine sp_readRow (d := d) hF hpp t2 t1 t3 w2 w3 lt b3 hN (fun ok h1 f1 g4 g5 go => ?_) (fun nok h1 f1 => ?_)
      · have eo : sOp t 10 p = some (tkF t p, rwL t (tkF t p) (tkE t p), fun _ => 0) := by unfold sOp; rw [if_pos k5, if_pos rfl, if_pos ok]
        with_reducible refine xm_go_blk b_X9_readOperand_29 k_X9_readOperand_29 ?_
        refine by_istore_n (by rw [ml_154]; decide) ?_
        refine by_goto 62 rfl ?_
        try simp (disch := first | exact Nat.ne_of_beq_eq_false rfl | exact rfl | omega) only [nI_add, xa_sub, xa_mul, pk_div, nm_mod, xa_shr, xa_and7, xa_and1, xa_and255, xa_by_and, nI_m1, Nat.add_sub_cancel, Nat.reducePow, Nat.zero_add, Nat.add_zero, Nat.reduceAdd, Nat.reduceMul, Nat.reduceSub, xf_same, xq_ff, xq_fo, xf_1, xf_2, xs_1, xs_2, xs_same, xq_so, xj_1, xj_2, xj_same, xq_jo, xq_sa1, xq_same, xq_other, upd_s, oI_n, oI_s, xv_0, xv_1, xv_2, xv_3, xm_p1, xm_p2, xq_fp, xq_fn, List.filter_nil, Nat.reduceBEq, Bool.not_true, Bool.not_false, Bool.and_true, Bool.and_false, Bool.false_and, Bool.true_and, if_true, if_false, Bool.false_eq_true, reduceIte, xc_i, xc_j, xc_r, xc_n, List.nil_append, List.cons_append, Option.toList_some, Option.toList_none]
        with_reducible refine xm_go_blk b_X9_readOperand_62 k_X9_readOperand_62 ?_
        refine by_iload_n rfl ?_
        refine by_if_eq 70 rfl ?_
        simp (disch := first | exact Nat.ne_of_beq_eq_false rfl | exact rfl | omega) only [nI_add, xa_sub, xa_mul, pk_div, nm_mod, xa_shr, xa_and7, xa_and1, xa_and255, xa_by_and, nI_m1, Nat.add_sub_cancel, Nat.reducePow, Nat.zero_add, Nat.add_zero, Nat.reduceAdd, Nat.reduceMul, Nat.reduceSub, xf_same, xq_ff, xq_fo, xf_1, xf_2, xs_1, xs_2, xs_same, xq_so, xj_1, xj_2, xj_same, xq_jo, xq_sa1, xq_same, xq_other, upd_s, oI_n, oI_s, xv_0, xv_1, xv_2, xv_3, xm_p1, xm_p2, xq_fp, xq_fn, List.filter_nil, Nat.reduceBEq, Bool.not_true, Bool.not_false, Bool.and_true, Bool.and_false, Bool.false_and, Bool.true_and, if_true, if_false, Bool.false_eq_true, reduceIte, xc_i, xc_j, xc_r, xc_n, List.nil_append, List.cons_append, Option.toList_some, Option.toList_none, nI_ltJ, nI_leJ, nI_eqJ, nI_ltz, nI_gez, nI_gtz, nI_lez, nI_eqz, m1_ltz, m1_gez, true_imp_iff, false_imp_iff, true_and, and_true, ne_eq, not_false_eq_true, not_true_eq_false, Nat.reduceEqDiff, Nat.reduceLT, Nat.reduceLeDiff]
        with_reducible refine xm_go_blk b_X9_readOperand_66 k_X9_readOperand_66 ?_
        refine by_iload_n rfl ?_
        refine by_goto 79 rfl ?_
        with_reducible refine xm_go_blk b_X9_readOperand_79 k_X9_readOperand_79 ?_
        refine by_iret ry_154 (by first | rfl | assumption) ?_
        refine hgood _ h1 nh eo (Fr_mo f1 (by simp) (by simp)) ⟨by rw [f1.2.2 _ _ (by simp)]; exact hct, by rw [f1.2.2 _ _ (by simp)]; exact hnh, _, cG0_new (y := 0) (cG0_k hg (fun m hm => go _ m (by omega)) (fun m hm => go _ m (by omega)) (fun m hm => go _ m (by omega)) (fun m hm => go _ m (by omega)) (fun m hm => go _ m (by omega)) (fun j _ => by rw [f1.1 _ (by simp)])) (Nat.le_refl _) (by rw [f1.1 _ (by simp)]; exact e1) (by rw [f1.1 _ (by simp)]; exact e2) (by rw [f1.1 _ (by simp)]; exact e3) g5 (fun _ => g4) (fun z => by omega)⟩ (by omega) (f1.2.2 _ _ (by simp)) (f1.2.2 _ _ (by simp)) (f1.2.2 _ _ (by simp))
      · have eo : sOp t 10 p = none := by unfold sOp; rw [if_pos k5, if_pos rfl, if_neg nok]
        with_reducible refine xm_go_blk b_X9_readOperand_29 k_X9_readOperand_29 ?_
        refine by_istore_n (by rw [ml_154]; decide) ?_
        refine by_goto 62 rfl ?_
        try simp (disch := first | exact Nat.ne_of_beq_eq_false rfl | exact rfl | omega) only [nI_add, xa_sub, xa_mul, pk_div, nm_mod, xa_shr, xa_and7, xa_and1, xa_and255, xa_by_and, nI_m1, Nat.add_sub_cancel, Nat.reducePow, Nat.zero_add, Nat.add_zero, Nat.reduceAdd, Nat.reduceMul, Nat.reduceSub, xf_same, xq_ff, xq_fo, xf_1, xf_2, xs_1, xs_2, xs_same, xq_so, xj_1, xj_2, xj_same, xq_jo, xq_sa1, xq_same, xq_other, upd_s, oI_n, oI_s, xv_0, xv_1, xv_2, xv_3, xm_p1, xm_p2, xq_fp, xq_fn, List.filter_nil, Nat.reduceBEq, Bool.not_true, Bool.not_false, Bool.and_true, Bool.and_false, Bool.false_and, Bool.true_and, if_true, if_false, Bool.false_eq_true, reduceIte, xc_i, xc_j, xc_r, xc_n, List.nil_append, List.cons_append, Option.toList_some, Option.toList_none]
        exact xm_go_wk (by simp [Value.category]) (bad h1 (nI 10) eo (Fr_mo f1 (by simp) (by simp)) (by rw [f1.2.2 _ _ (by simp)]; exact w2))
    · with_reducible refine xm_go_blk b_X9_readOperand_0 k_X9_readOperand_0 ?_
      refine by_aload_n rfl ?_
      refine by_getf cn_154 fl_9_100 (by first | exact rfl | assumption) (by decide) ?_
      refine by_iconst ci_5 ?_
      simp (disch := first | exact Nat.ne_of_beq_eq_false rfl | exact rfl | omega) only [nI_add, xa_sub, xa_mul, pk_div, nm_mod, xa_shr, xa_and7, xa_and1, xa_and255, xa_by_and, nI_m1, Nat.add_sub_cancel, Nat.reducePow, Nat.zero_add, Nat.add_zero, Nat.reduceAdd, Nat.reduceMul, Nat.reduceSub, xf_same, xq_ff, xq_fo, xf_1, xf_2, xs_1, xs_2, xs_same, xq_so, xj_1, xj_2, xj_same, xq_jo, xq_sa1, xq_same, xq_other, upd_s, oI_n, oI_s, w1]
      refine by_ic_ne 12 rfl ?_
      simp (disch := first | exact Nat.ne_of_beq_eq_false rfl | exact rfl | omega) only [nI_add, xa_sub, xa_mul, pk_div, nm_mod, xa_shr, xa_and7, xa_and1, xa_and255, xa_by_and, nI_m1, Nat.add_sub_cancel, Nat.reducePow, Nat.zero_add, Nat.add_zero, Nat.reduceAdd, Nat.reduceMul, Nat.reduceSub, xf_same, xq_ff, xq_fo, xf_1, xf_2, xs_1, xs_2, xs_same, xq_so, xj_1, xj_2, xj_same, xq_jo, xq_sa1, xq_same, xq_other, upd_s, oI_n, oI_s, xv_0, xv_1, xv_2, xv_3, xm_p1, xm_p2, xq_fp, xq_fn, List.filter_nil, Nat.reduceBEq, Bool.not_true, Bool.not_false, Bool.and_true, Bool.and_false, Bool.false_and, Bool.true_and, if_true, if_false, Bool.false_eq_true, reduceIte, xc_i, xc_j, xc_r, xc_n, List.nil_append, List.cons_append, Option.toList_some, Option.toList_none, nI_ltJ, nI_leJ, nI_eqJ, nI_ltz, nI_gez, nI_gtz, nI_lez, nI_eqz, m1_ltz, m1_gez, true_imp_iff, false_imp_iff, true_and, and_true, ne_eq, not_false_eq_true, not_true_eq_false, Nat.reduceEqDiff, Nat.reduceLT, Nat.reduceLeDiff, w1]
      with_reducible refine xm_go_blk b_X9_readOperand_8 k_X9_readOperand_8 ?_
      refine by_iconst ci_1 ?_
      refine by_goto 13 rfl ?_
      with_reducible refine xm_go_blk b_X9_readOperand_13 k_X9_readOperand_13 ?_
      refine by_istore_n (by rw [ml_154]; decide) ?_
      refine by_iload_n rfl ?_
      refine by_if_eq 33 rfl ?_
      simp (disch := first | exact Nat.ne_of_beq_eq_false rfl | exact rfl | omega) only [nI_add, xa_sub, xa_mul, pk_div, nm_mod, xa_shr, xa_and7, xa_and1, xa_and255, xa_by_and, nI_m1, Nat.add_sub_cancel, Nat.reducePow, Nat.zero_add, Nat.add_zero, Nat.reduceAdd, Nat.reduceMul, Nat.reduceSub, xf_same, xq_ff, xq_fo, xf_1, xf_2, xs_1, xs_2, xs_same, xq_so, xj_1, xj_2, xj_same, xq_jo, xq_sa1, xq_same, xq_other, upd_s, oI_n, oI_s, xv_0, xv_1, xv_2, xv_3, xm_p1, xm_p2, xq_fp, xq_fn, List.filter_nil, Nat.reduceBEq, Bool.not_true, Bool.not_false, Bool.and_true, Bool.and_false, Bool.false_and, Bool.true_and, if_true, if_false, Bool.false_eq_true, reduceIte, xc_i, xc_j, xc_r, xc_n, List.nil_append, List.cons_append, Option.toList_some, Option.toList_none, nI_ltJ, nI_leJ, nI_eqJ, nI_ltz, nI_gez, nI_gtz, nI_lez, nI_eqz, m1_ltz, m1_gez, true_imp_iff, false_imp_iff, true_and, and_true, ne_eq, not_false_eq_true, not_true_eq_false, Nat.reduceEqDiff, Nat.reduceLT, Nat.reduceLeDiff, w1]
      with_reducible refine xm_go_blk b_X9_readOperand_18 k_X9_readOperand_18 ?_
      refine by_iload_n rfl ?_
      refine by_bipush cb_10 ?_
      refine by_ic_ne 33 rfl ?_
      simp (disch := first | exact Nat.ne_of_beq_eq_false rfl | exact rfl | omega) only [nI_add, xa_sub, xa_mul, pk_div, nm_mod, xa_shr, xa_and7, xa_and1, xa_and255, xa_by_and, nI_m1, Nat.add_sub_cancel, Nat.reducePow, Nat.zero_add, Nat.add_zero, Nat.reduceAdd, Nat.reduceMul, Nat.reduceSub, xf_same, xq_ff, xq_fo, xf_1, xf_2, xs_1, xs_2, xs_same, xq_so, xj_1, xj_2, xj_same, xq_jo, xq_sa1, xq_same, xq_other, upd_s, oI_n, oI_s, xv_0, xv_1, xv_2, xv_3, xm_p1, xm_p2, xq_fp, xq_fn, List.filter_nil, Nat.reduceBEq, Bool.not_true, Bool.not_false, Bool.and_true, Bool.and_false, Bool.false_and, Bool.true_and, if_true, if_false, Bool.false_eq_true, reduceIte, xc_i, xc_j, xc_r, xc_n, List.nil_append, List.cons_append, Option.toList_some, Option.toList_none, nI_ltJ, nI_leJ, nI_eqJ, nI_ltz, nI_gez, nI_gtz, nI_lez, nI_eqz, m1_ltz, m1_gez, true_imp_iff, false_imp_iff, true_and, and_true, ne_eq, not_false_eq_true, not_true_eq_false, Nat.reduceEqDiff, Nat.reduceLT, Nat.reduceLeDiff, w1]
      with_reducible refine xm_go_blk b_X9_readOperand_33 k_X9_readOperand_33 ?_
      refine by_iload_n rfl ?_
      refine by_if_eq 52 rfl ?_
      simp (disch := first | exact Nat.ne_of_beq_eq_false rfl | exact rfl | omega) only [nI_add, xa_sub, xa_mul, pk_div, nm_mod, xa_shr, xa_and7, xa_and1, xa_and255, xa_by_and, nI_m1, Nat.add_sub_cancel, Nat.reducePow, Nat.zero_add, Nat.add_zero, Nat.reduceAdd, Nat.reduceMul, Nat.reduceSub, xf_same, xq_ff, xq_fo, xf_1, xf_2, xs_1, xs_2, xs_same, xq_so, xj_1, xj_2, xj_same, xq_jo, xq_sa1, xq_same, xq_other, upd_s, oI_n, oI_s, xv_0, xv_1, xv_2, xv_3, xm_p1, xm_p2, xq_fp, xq_fn, List.filter_nil, Nat.reduceBEq, Bool.not_true, Bool.not_false, Bool.and_true, Bool.and_false, Bool.false_and, Bool.true_and, if_true, if_false, Bool.false_eq_true, reduceIte, xc_i, xc_j, xc_r, xc_n, List.nil_append, List.cons_append, Option.toList_some, Option.toList_none, nI_ltJ, nI_leJ, nI_eqJ, nI_ltz, nI_gez, nI_gtz, nI_lez, nI_eqz, m1_ltz, m1_gez, true_imp_iff, false_imp_iff, true_and, and_true, ne_eq, not_false_eq_true, not_true_eq_false, Nat.reduceEqDiff, Nat.reduceLT, Nat.reduceLeDiff, w1]
      with_reducible refine xm_go_blk b_X9_readOperand_37 k_X9_readOperand_37 ?_
      refine by_iload_n rfl ?_
      refine by_bipush cb_11 ?_
      refine by_ic_ne 52 rfl ?_
      simp (disch := first | exact Nat.ne_of_beq_eq_false rfl | exact rfl | omega) only [nI_add, xa_sub, xa_mul, pk_div, nm_mod, xa_shr, xa_and7, xa_and1, xa_and255, xa_by_and, nI_m1, Nat.add_sub_cancel, Nat.reducePow, Nat.zero_add, Nat.add_zero, Nat.reduceAdd, Nat.reduceMul, Nat.reduceSub, xf_same, xq_ff, xq_fo, xf_1, xf_2, xs_1, xs_2, xs_same, xq_so, xj_1, xj_2, xj_same, xq_jo, xq_sa1, xq_same, xq_other, upd_s, oI_n, oI_s, xv_0, xv_1, xv_2, xv_3, xm_p1, xm_p2, xq_fp, xq_fn, List.filter_nil, Nat.reduceBEq, Bool.not_true, Bool.not_false, Bool.and_true, Bool.and_false, Bool.false_and, Bool.true_and, if_true, if_false, Bool.false_eq_true, reduceIte, xc_i, xc_j, xc_r, xc_n, List.nil_append, List.cons_append, Option.toList_some, Option.toList_none, nI_ltJ, nI_leJ, nI_eqJ, nI_ltz, nI_gez, nI_gtz, nI_lez, nI_eqz, m1_ltz, m1_gez, true_imp_iff, false_imp_iff, true_and, and_true, ne_eq, not_false_eq_true, not_true_eq_false, Nat.reduceEqDiff, Nat.reduceLT, Nat.reduceLeDiff, w1]
      with_reducible refine xm_go_blk b_X9_readOperand_43 k_X9_readOperand_43 ?_
      refine by_aload_n rfl ?_
      refine by_iload_n rfl ?_
      refine by_inv1 cn_154 lk_9_178 (by rw [xe_cnt]; decide) is_151 np_151 cn_151 (by first | exact rfl | assumption) (Nat.le_of_ble_eq_true rfl) ?_
      refine sp_readHidden (d := d) hF hpp t2 t1 t3 w2 w3 lt b3 hN hnh (by omega) (fun e64 ok h1 f1 g15 g4 g4o gk g11 => ?_) (fun nok h1 f1 => ?_)
      · have eo : sOp t 11 p = some (0, 0, hdW t (tkF t p)) := by unfold sOp; rw [if_pos k5, if_neg (by decide), if_pos rfl, if_pos ⟨e64, ok⟩]
        with_reducible refine xm_go_blk b_X9_readOperand_48 k_X9_readOperand_48 ?_
        refine by_istore_n (by rw [ml_154]; decide) ?_
        refine by_goto 62 rfl ?_
        try simp (disch := first | exact Nat.ne_of_beq_eq_false rfl | exact rfl | omega) only [nI_add, xa_sub, xa_mul, pk_div, nm_mod, xa_shr, xa_and7, xa_and1, xa_and255, xa_by_and, nI_m1, Nat.add_sub_cancel, Nat.reducePow, Nat.zero_add, Nat.add_zero, Nat.reduceAdd, Nat.reduceMul, Nat.reduceSub, xf_same, xq_ff, xq_fo, xf_1, xf_2, xs_1, xs_2, xs_same, xq_so, xj_1, xj_2, xj_same, xq_jo, xq_sa1, xq_same, xq_other, upd_s, oI_n, oI_s, xv_0, xv_1, xv_2, xv_3, xm_p1, xm_p2, xq_fp, xq_fn, List.filter_nil, Nat.reduceBEq, Bool.not_true, Bool.not_false, Bool.and_true, Bool.and_false, Bool.false_and, Bool.true_and, if_true, if_false, Bool.false_eq_true, reduceIte, xc_i, xc_j, xc_r, xc_n, List.nil_append, List.cons_append, Option.toList_some, Option.toList_none]
        with_reducible refine xm_go_blk b_X9_readOperand_62 k_X9_readOperand_62 ?_
        refine by_iload_n rfl ?_
        refine by_if_eq 70 rfl ?_
        simp (disch := first | exact Nat.ne_of_beq_eq_false rfl | exact rfl | omega) only [nI_add, xa_sub, xa_mul, pk_div, nm_mod, xa_shr, xa_and7, xa_and1, xa_and255, xa_by_and, nI_m1, Nat.add_sub_cancel, Nat.reducePow, Nat.zero_add, Nat.add_zero, Nat.reduceAdd, Nat.reduceMul, Nat.reduceSub, xf_same, xq_ff, xq_fo, xf_1, xf_2, xs_1, xs_2, xs_same, xq_so, xj_1, xj_2, xj_same, xq_jo, xq_sa1, xq_same, xq_other, upd_s, oI_n, oI_s, xv_0, xv_1, xv_2, xv_3, xm_p1, xm_p2, xq_fp, xq_fn, List.filter_nil, Nat.reduceBEq, Bool.not_true, Bool.not_false, Bool.and_true, Bool.and_false, Bool.false_and, Bool.true_and, if_true, if_false, Bool.false_eq_true, reduceIte, xc_i, xc_j, xc_r, xc_n, List.nil_append, List.cons_append, Option.toList_some, Option.toList_none, nI_ltJ, nI_leJ, nI_eqJ, nI_ltz, nI_gez, nI_gtz, nI_lez, nI_eqz, m1_ltz, m1_gez, true_imp_iff, false_imp_iff, true_and, and_true, ne_eq, not_false_eq_true, not_true_eq_false, Nat.reduceEqDiff, Nat.reduceLT, Nat.reduceLeDiff]
        with_reducible refine xm_go_blk b_X9_readOperand_66 k_X9_readOperand_66 ?_
        refine by_iload_n rfl ?_
        refine by_goto 79 rfl ?_
        with_reducible refine xm_go_blk b_X9_readOperand_79 k_X9_readOperand_79 ?_
        refine by_iret ry_154 (by first | rfl | assumption) ?_
        refine hgood _ h1 (nh + 1) eo (Fr_mo f1 (by simp) (by simp)) ⟨by rw [f1.2.2 _ _ q4]; exact hct, g15, _, cG0_new (y := nh) (cG0_k hg (fun m hm => by rw [f1.1 _ (by simp)]) (fun m hm => by rw [f1.1 _ (by simp)]) (fun m hm => by rw [f1.1 _ (by simp)]) (fun m hm => g4o m (by omega)) (fun m hm => by rw [f1.1 _ (by simp)]) g11) (Nat.le_succ _) (by rw [f1.1 _ (by simp)]; exact e1) (by rw [f1.1 _ (by simp)]; exact e2) (by rw [f1.1 _ (by simp)]; exact e3) (by rw [f1.1 _ (by simp)]; exact e5) (fun z => absurd rfl z) (fun _ => ⟨g4, Nat.lt_succ_self _, gk⟩)⟩ (by omega) (f1.2.2 _ _ q2) (f1.2.2 _ _ q3) (f1.2.2 _ _ q5)
      · have eo : sOp t 11 p = none := by unfold sOp; rw [if_pos k5, if_neg (by decide), if_pos rfl, if_neg nok]
        with_reducible refine xm_go_blk b_X9_readOperand_48 k_X9_readOperand_48 ?_
        refine by_istore_n (by rw [ml_154]; decide) ?_
        refine by_goto 62 rfl ?_
        try simp (disch := first | exact Nat.ne_of_beq_eq_false rfl | exact rfl | omega) only [nI_add, xa_sub, xa_mul, pk_div, nm_mod, xa_shr, xa_and7, xa_and1, xa_and255, xa_by_and, nI_m1, Nat.add_sub_cancel, Nat.reducePow, Nat.zero_add, Nat.add_zero, Nat.reduceAdd, Nat.reduceMul, Nat.reduceSub, xf_same, xq_ff, xq_fo, xf_1, xf_2, xs_1, xs_2, xs_same, xq_so, xj_1, xj_2, xj_same, xq_jo, xq_sa1, xq_same, xq_other, upd_s, oI_n, oI_s, xv_0, xv_1, xv_2, xv_3, xm_p1, xm_p2, xq_fp, xq_fn, List.filter_nil, Nat.reduceBEq, Bool.not_true, Bool.not_false, Bool.and_true, Bool.and_false, Bool.false_and, Bool.true_and, if_true, if_false, Bool.false_eq_true, reduceIte, xc_i, xc_j, xc_r, xc_n, List.nil_append, List.cons_append, Option.toList_some, Option.toList_none]
        exact xm_go_wk (by simp [Value.category]) (bad h1 (nI 11) eo (Fr_mo f1 (by simp) (by simp)) (by rw [f1.2.2 _ _ q1]; exact w2))
    · with_reducible refine xm_go_blk b_X9_readOperand_0 k_X9_readOperand_0 ?_
      refine by_aload_n rfl ?_
      refine by_getf cn_154 fl_9_100 (by first | exact rfl | assumption) (by decide) ?_
      refine by_iconst ci_5 ?_
      simp (disch := first | exact Nat.ne_of_beq_eq_false rfl | exact rfl | omega) only [nI_add, xa_sub, xa_mul, pk_div, nm_mod, xa_shr, xa_and7, xa_and1, xa_and255, xa_by_and, nI_m1, Nat.add_sub_cancel, Nat.reducePow, Nat.zero_add, Nat.add_zero, Nat.reduceAdd, Nat.reduceMul, Nat.reduceSub, xf_same, xq_ff, xq_fo, xf_1, xf_2, xs_1, xs_2, xs_same, xq_so, xj_1, xj_2, xj_same, xq_jo, xq_sa1, xq_same, xq_other, upd_s, oI_n, oI_s, w1]
      refine by_ic_ne 12 rfl ?_
      simp (disch := first | exact Nat.ne_of_beq_eq_false rfl | exact rfl | omega) only [nI_add, xa_sub, xa_mul, pk_div, nm_mod, xa_shr, xa_and7, xa_and1, xa_and255, xa_by_and, nI_m1, Nat.add_sub_cancel, Nat.reducePow, Nat.zero_add, Nat.add_zero, Nat.reduceAdd, Nat.reduceMul, Nat.reduceSub, xf_same, xq_ff, xq_fo, xf_1, xf_2, xs_1, xs_2, xs_same, xq_so, xj_1, xj_2, xj_same, xq_jo, xq_sa1, xq_same, xq_other, upd_s, oI_n, oI_s, xv_0, xv_1, xv_2, xv_3, xm_p1, xm_p2, xq_fp, xq_fn, List.filter_nil, Nat.reduceBEq, Bool.not_true, Bool.not_false, Bool.and_true, Bool.and_false, Bool.false_and, Bool.true_and, if_true, if_false, Bool.false_eq_true, reduceIte, xc_i, xc_j, xc_r, xc_n, List.nil_append, List.cons_append, Option.toList_some, Option.toList_none, nI_ltJ, nI_leJ, nI_eqJ, nI_ltz, nI_gez, nI_gtz, nI_lez, nI_eqz, m1_ltz, m1_gez, true_imp_iff, false_imp_iff, true_and, and_true, ne_eq, not_false_eq_true, not_true_eq_false, Nat.reduceEqDiff, Nat.reduceLT, Nat.reduceLeDiff, w1]
      with_reducible refine xm_go_blk b_X9_readOperand_8 k_X9_readOperand_8 ?_
      refine by_iconst ci_1 ?_
      refine by_goto 13 rfl ?_
      with_reducible refine xm_go_blk b_X9_readOperand_13 k_X9_readOperand_13 ?_
      refine by_istore_n (by rw [ml_154]; decide) ?_
      refine by_iload_n rfl ?_
      refine by_if_eq 33 rfl ?_
      simp (disch := first | exact Nat.ne_of_beq_eq_false rfl | exact rfl | omega) only [nI_add, xa_sub, xa_mul, pk_div, nm_mod, xa_shr, xa_and7, xa_and1, xa_and255, xa_by_and, nI_m1, Nat.add_sub_cancel, Nat.reducePow, Nat.zero_add, Nat.add_zero, Nat.reduceAdd, Nat.reduceMul, Nat.reduceSub, xf_same, xq_ff, xq_fo, xf_1, xf_2, xs_1, xs_2, xs_same, xq_so, xj_1, xj_2, xj_same, xq_jo, xq_sa1, xq_same, xq_other, upd_s, oI_n, oI_s, xv_0, xv_1, xv_2, xv_3, xm_p1, xm_p2, xq_fp, xq_fn, List.filter_nil, Nat.reduceBEq, Bool.not_true, Bool.not_false, Bool.and_true, Bool.and_false, Bool.false_and, Bool.true_and, if_true, if_false, Bool.false_eq_true, reduceIte, xc_i, xc_j, xc_r, xc_n, List.nil_append, List.cons_append, Option.toList_some, Option.toList_none, nI_ltJ, nI_leJ, nI_eqJ, nI_ltz, nI_gez, nI_gtz, nI_lez, nI_eqz, m1_ltz, m1_gez, true_imp_iff, false_imp_iff, true_and, and_true, ne_eq, not_false_eq_true, not_true_eq_false, Nat.reduceEqDiff, Nat.reduceLT, Nat.reduceLeDiff, w1]
      with_reducible refine xm_go_blk b_X9_readOperand_18 k_X9_readOperand_18 ?_
      refine by_iload_n rfl ?_
      refine by_bipush cb_10 ?_
      refine by_ic_ne 33 rfl ?_
      simp (disch := first | exact Nat.ne_of_beq_eq_false rfl | exact rfl | omega) only [nI_add, xa_sub, xa_mul, pk_div, nm_mod, xa_shr, xa_and7, xa_and1, xa_and255, xa_by_and, nI_m1, Nat.add_sub_cancel, Nat.reducePow, Nat.zero_add, Nat.add_zero, Nat.reduceAdd, Nat.reduceMul, Nat.reduceSub, xf_same, xq_ff, xq_fo, xf_1, xf_2, xs_1, xs_2, xs_same, xq_so, xj_1, xj_2, xj_same, xq_jo, xq_sa1, xq_same, xq_other, upd_s, oI_n, oI_s, xv_0, xv_1, xv_2, xv_3, xm_p1, xm_p2, xq_fp, xq_fn, List.filter_nil, Nat.reduceBEq, Bool.not_true, Bool.not_false, Bool.and_true, Bool.and_false, Bool.false_and, Bool.true_and, if_true, if_false, Bool.false_eq_true, reduceIte, xc_i, xc_j, xc_r, xc_n, List.nil_append, List.cons_append, Option.toList_some, Option.toList_none, nI_ltJ, nI_leJ, nI_eqJ, nI_ltz, nI_gez, nI_gtz, nI_lez, nI_eqz, m1_ltz, m1_gez, true_imp_iff, false_imp_iff, true_and, and_true, ne_eq, not_false_eq_true, not_true_eq_false, Nat.reduceEqDiff, Nat.reduceLT, Nat.reduceLeDiff, w1]
      with_reducible refine xm_go_blk b_X9_readOperand_33 k_X9_readOperand_33 ?_
      refine by_iload_n rfl ?_
      refine by_if_eq 52 rfl ?_
      simp (disch := first | exact Nat.ne_of_beq_eq_false rfl | exact rfl | omega) only [nI_add, xa_sub, xa_mul, pk_div, nm_mod, xa_shr, xa_and7, xa_and1, xa_and255, xa_by_and, nI_m1, Nat.add_sub_cancel, Nat.reducePow, Nat.zero_add, Nat.add_zero, Nat.reduceAdd, Nat.reduceMul, Nat.reduceSub, xf_same, xq_ff, xq_fo, xf_1, xf_2, xs_1, xs_2, xs_same, xq_so, xj_1, xj_2, xj_same, xq_jo, xq_sa1, xq_same, xq_other, upd_s, oI_n, oI_s, xv_0, xv_1, xv_2, xv_3, xm_p1, xm_p2, xq_fp, xq_fn, List.filter_nil, Nat.reduceBEq, Bool.not_true, Bool.not_false, Bool.and_true, Bool.and_false, Bool.false_and, Bool.true_and, if_true, if_false, Bool.false_eq_true, reduceIte, xc_i, xc_j, xc_r, xc_n, List.nil_append, List.cons_append, Option.toList_some, Option.toList_none, nI_ltJ, nI_leJ, nI_eqJ, nI_ltz, nI_gez, nI_gtz, nI_lez, nI_eqz, m1_ltz, m1_gez, true_imp_iff, false_imp_iff, true_and, and_true, ne_eq, not_false_eq_true, not_true_eq_false, Nat.reduceEqDiff, Nat.reduceLT, Nat.reduceLeDiff, w1]
      with_reducible refine xm_go_blk b_X9_readOperand_37 k_X9_readOperand_37 ?_
      refine by_iload_n rfl ?_
      refine by_bipush cb_11 ?_
      refine by_ic_ne 52 rfl ?_
      simp (disch := first | exact Nat.ne_of_beq_eq_false rfl | exact rfl | omega) only [nI_add, xa_sub, xa_mul, pk_div, nm_mod, xa_shr, xa_and7, xa_and1, xa_and255, xa_by_and, nI_m1, Nat.add_sub_cancel, Nat.reducePow, Nat.zero_add, Nat.add_zero, Nat.reduceAdd, Nat.reduceMul, Nat.reduceSub, xf_same, xq_ff, xq_fo, xf_1, xf_2, xs_1, xs_2, xs_same, xq_so, xj_1, xj_2, xj_same, xq_jo, xq_sa1, xq_same, xq_other, upd_s, oI_n, oI_s, xv_0, xv_1, xv_2, xv_3, xm_p1, xm_p2, xq_fp, xq_fn, List.filter_nil, Nat.reduceBEq, Bool.not_true, Bool.not_false, Bool.and_true, Bool.and_false, Bool.false_and, Bool.true_and, if_true, if_false, Bool.false_eq_true, reduceIte, xc_i, xc_j, xc_r, xc_n, List.nil_append, List.cons_append, Option.toList_some, Option.toList_none, nI_ltJ, nI_leJ, nI_eqJ, nI_ltz, nI_gez, nI_gtz, nI_lez, nI_eqz, m1_ltz, m1_gez, true_imp_iff, false_imp_iff, true_and, and_true, ne_eq, not_false_eq_true, not_true_eq_false, Nat.reduceEqDiff, Nat.reduceLT, Nat.reduceLeDiff, w1]
      with_reducible refine xm_go_blk b_X9_readOperand_52 k_X9_readOperand_52 ?_
      refine by_iload_n rfl ?_
      refine by_if_eq 62 rfl ?_
      simp (disch := first | exact Nat.ne_of_beq_eq_false rfl | exact rfl | omega) only [nI_add, xa_sub, xa_mul, pk_div, nm_mod, xa_shr, xa_and7, xa_and1, xa_and255, xa_by_and, nI_m1, Nat.add_sub_cancel, Nat.reducePow, Nat.zero_add, Nat.add_zero, Nat.reduceAdd, Nat.reduceMul, Nat.reduceSub, xf_same, xq_ff, xq_fo, xf_1, xf_2, xs_1, xs_2, xs_same, xq_so, xj_1, xj_2, xj_same, xq_jo, xq_sa1, xq_same, xq_other, upd_s, oI_n, oI_s, xv_0, xv_1, xv_2, xv_3, xm_p1, xm_p2, xq_fp, xq_fn, List.filter_nil, Nat.reduceBEq, Bool.not_true, Bool.not_false, Bool.and_true, Bool.and_false, Bool.false_and, Bool.true_and, if_true, if_false, Bool.false_eq_true, reduceIte, xc_i, xc_j, xc_r, xc_n, List.nil_append, List.cons_append, Option.toList_some, Option.toList_none, nI_ltJ, nI_leJ, nI_eqJ, nI_ltz, nI_gez, nI_gtz, nI_lez, nI_eqz, m1_ltz, m1_gez, true_imp_iff, false_imp_iff, true_and, and_true, ne_eq, not_false_eq_true, not_true_eq_false, Nat.reduceEqDiff, Nat.reduceLT, Nat.reduceLeDiff, w1]
      with_reducible refine xm_go_blk b_X9_readOperand_56 k_X9_readOperand_56 ?_
      refine by_aload_n rfl ?_
      refine by_iload_n rfl ?_
      refine by_inv1 cn_154 lk_9_181 (by rw [xe_cnt]; decide) is_152 np_152 cn_152 (by first | exact rfl | assumption) (Nat.le_of_ble_eq_true rfl) ?_
      refine sp_readJet (d := d) hF hpp t2 t1 t3 w2 w3 lt b3 hN (fun ok => ?_) (fun nok h1 f1 => ?_)
      · have eo : sOp t 12 p = some (jnv t (tkF t p) (tkE t p - tkF t p), 0, fun _ => 0) := by unfold sOp; rw [if_pos k5, if_neg (by decide), if_neg (by decide), if_pos ok]
        have f1 : Fr (scpR pp) (scpT pp) h (xm_si h (pp + 4) (sCt G) (nI (jnv t (tkF t p) (tkE t p - tkF t p)))) := Fr_si Fr_rf (by simp)
        with_reducible refine xm_go_blk b_X9_readOperand_61 k_X9_readOperand_61 ?_
        refine by_istore_n (by rw [ml_154]; decide) ?_
        refine by_nil ?_
        try simp (disch := first | exact Nat.ne_of_beq_eq_false rfl | exact rfl | omega) only [nI_add, xa_sub, xa_mul, pk_div, nm_mod, xa_shr, xa_and7, xa_and1, xa_and255, xa_by_and, nI_m1, Nat.add_sub_cancel, Nat.reducePow, Nat.zero_add, Nat.add_zero, Nat.reduceAdd, Nat.reduceMul, Nat.reduceSub, xf_same, xq_ff, xq_fo, xf_1, xf_2, xs_1, xs_2, xs_same, xq_so, xj_1, xj_2, xj_same, xq_jo, xq_sa1, xq_same, xq_other, upd_s, oI_n, oI_s, xv_0, xv_1, xv_2, xv_3, xm_p1, xm_p2, xq_fp, xq_fn, List.filter_nil, Nat.reduceBEq, Bool.not_true, Bool.not_false, Bool.and_true, Bool.and_false, Bool.false_and, Bool.true_and, if_true, if_false, Bool.false_eq_true, reduceIte, xc_i, xc_j, xc_r, xc_n, List.nil_append, List.cons_append, Option.toList_some, Option.toList_none]
        with_reducible refine xm_go_blk b_X9_readOperand_62 k_X9_readOperand_62 ?_
        refine by_iload_n rfl ?_
        refine by_if_eq 70 rfl ?_
        simp (disch := first | exact Nat.ne_of_beq_eq_false rfl | exact rfl | omega) only [nI_add, xa_sub, xa_mul, pk_div, nm_mod, xa_shr, xa_and7, xa_and1, xa_and255, xa_by_and, nI_m1, Nat.add_sub_cancel, Nat.reducePow, Nat.zero_add, Nat.add_zero, Nat.reduceAdd, Nat.reduceMul, Nat.reduceSub, xf_same, xq_ff, xq_fo, xf_1, xf_2, xs_1, xs_2, xs_same, xq_so, xj_1, xj_2, xj_same, xq_jo, xq_sa1, xq_same, xq_other, upd_s, oI_n, oI_s, xv_0, xv_1, xv_2, xv_3, xm_p1, xm_p2, xq_fp, xq_fn, List.filter_nil, Nat.reduceBEq, Bool.not_true, Bool.not_false, Bool.and_true, Bool.and_false, Bool.false_and, Bool.true_and, if_true, if_false, Bool.false_eq_true, reduceIte, xc_i, xc_j, xc_r, xc_n, List.nil_append, List.cons_append, Option.toList_some, Option.toList_none, nI_ltJ, nI_leJ, nI_eqJ, nI_ltz, nI_gez, nI_gtz, nI_lez, nI_eqz, m1_ltz, m1_gez, true_imp_iff, false_imp_iff, true_and, and_true, ne_eq, not_false_eq_true, not_true_eq_false, Nat.reduceEqDiff, Nat.reduceLT, Nat.reduceLeDiff]
        with_reducible refine xm_go_blk b_X9_readOperand_66 k_X9_readOperand_66 ?_
        refine by_iload_n rfl ?_
        refine by_goto 79 rfl ?_
        with_reducible refine xm_go_blk b_X9_readOperand_79 k_X9_readOperand_79 ?_
        refine by_iret ry_154 (by first | rfl | assumption) ?_
        refine hgood _ _ nh eo f1 ⟨hct, hnh, _, cG0_new (y := 0) (cG0_k hg (fun m hm => by rw [xq_so (by omega)]) (fun m hm => by rw [xq_so (by omega)]) (fun m hm => by rw [xq_so (by omega)]) (fun m hm => by rw [xs_same]; unfold upd; rw [if_neg (by omega)]) (fun m hm => by rw [xq_so (by omega)]) (fun j _ => by rw [xq_so (by omega)])) (Nat.le_refl _) (by rw [xq_so (by omega)]; exact e1) (by rw [xq_so (by omega)]; exact e2) (by rw [xq_so (by omega)]; exact e3) (by rw [xq_so (by omega)]; exact e5) (fun _ => by rw [xs_same]; unfold upd; rw [if_pos rfl]) (fun z => by omega)⟩ (by omega) rfl rfl rfl
      · have eo : sOp t 12 p = none := by unfold sOp; rw [if_pos k5, if_neg (by decide), if_neg (by decide), if_neg nok]
        with_reducible refine xm_go_blk b_X9_readOperand_61 k_X9_readOperand_61 ?_
        refine by_istore_n (by rw [ml_154]; decide) ?_
        refine by_nil ?_
        try simp (disch := first | exact Nat.ne_of_beq_eq_false rfl | exact rfl | omega) only [nI_add, xa_sub, xa_mul, pk_div, nm_mod, xa_shr, xa_and7, xa_and1, xa_and255, xa_by_and, nI_m1, Nat.add_sub_cancel, Nat.reducePow, Nat.zero_add, Nat.add_zero, Nat.reduceAdd, Nat.reduceMul, Nat.reduceSub, xf_same, xq_ff, xq_fo, xf_1, xf_2, xs_1, xs_2, xs_same, xq_so, xj_1, xj_2, xj_same, xq_jo, xq_sa1, xq_same, xq_other, upd_s, oI_n, oI_s, xv_0, xv_1, xv_2, xv_3, xm_p1, xm_p2, xq_fp, xq_fn, List.filter_nil, Nat.reduceBEq, Bool.not_true, Bool.not_false, Bool.and_true, Bool.and_false, Bool.false_and, Bool.true_and, if_true, if_false, Bool.false_eq_true, reduceIte, xc_i, xc_j, xc_r, xc_n, List.nil_append, List.cons_append, Option.toList_some, Option.toList_none]
        exact xm_go_wk (by simp [Value.category]) (bad h1 (nI 12) eo (Fr_mo f1 (by simp) (by simp)) (by rw [f1.2.2 _ _ (by simp)]; exact w2))
  · have eo : sOp t c p = none := by unfold sOp; rw [if_neg k5]
    have k5' : (tkK t p = 5) = False := eq_false k5
    with_reducible refine xm_go_blk b_X9_readOperand_0 k_X9_readOperand_0 ?_
    refine by_aload_n rfl ?_
    refine by_getf cn_154 fl_9_100 (by first | exact rfl | assumption) (by decide) ?_
    refine by_iconst ci_5 ?_
    simp (disch := first | exact Nat.ne_of_beq_eq_false rfl | exact rfl | omega) only [nI_add, xa_sub, xa_mul, pk_div, nm_mod, xa_shr, xa_and7, xa_and1, xa_and255, xa_by_and, nI_m1, Nat.add_sub_cancel, Nat.reducePow, Nat.zero_add, Nat.add_zero, Nat.reduceAdd, Nat.reduceMul, Nat.reduceSub, xf_same, xq_ff, xq_fo, xf_1, xf_2, xs_1, xs_2, xs_same, xq_so, xj_1, xj_2, xj_same, xq_jo, xq_sa1, xq_same, xq_other, upd_s, oI_n, oI_s, w1, k5']
    refine by_ic_ne 12 rfl ?_
    simp (disch := first | exact Nat.ne_of_beq_eq_false rfl | exact rfl | omega) only [nI_add, xa_sub, xa_mul, pk_div, nm_mod, xa_shr, xa_and7, xa_and1, xa_and255, xa_by_and, nI_m1, Nat.add_sub_cancel, Nat.reducePow, Nat.zero_add, Nat.add_zero, Nat.reduceAdd, Nat.reduceMul, Nat.reduceSub, xf_same, xq_ff, xq_fo, xf_1, xf_2, xs_1, xs_2, xs_same, xq_so, xj_1, xj_2, xj_same, xq_jo, xq_sa1, xq_same, xq_other, upd_s, oI_n, oI_s, xv_0, xv_1, xv_2, xv_3, xm_p1, xm_p2, xq_fp, xq_fn, List.filter_nil, Nat.reduceBEq, Bool.not_true, Bool.not_false, Bool.and_true, Bool.and_false, Bool.false_and, Bool.true_and, if_true, if_false, Bool.false_eq_true, reduceIte, xc_i, xc_j, xc_r, xc_n, List.nil_append, List.cons_append, Option.toList_some, Option.toList_none, nI_ltJ, nI_leJ, nI_eqJ, nI_ltz, nI_gez, nI_gtz, nI_lez, nI_eqz, m1_ltz, m1_gez, true_imp_iff, false_imp_iff, true_and, and_true, ne_eq, not_false_eq_true, not_true_eq_false, Nat.reduceEqDiff, Nat.reduceLT, Nat.reduceLeDiff, w1, k5']
    with_reducible refine xm_go_blk b_X9_readOperand_12 k_X9_readOperand_12 ?_
    refine by_iconst ci_0 ?_
    refine by_nil ?_
    with_reducible refine xm_go_blk b_X9_readOperand_13 k_X9_readOperand_13 ?_
    refine by_istore_n (by rw [ml_154]; decide) ?_
    refine by_iload_n rfl ?_
    refine by_if_eq 33 rfl ?_
    simp (disch := first | exact Nat.ne_of_beq_eq_false rfl | exact rfl | omega) only [nI_add, xa_sub, xa_mul, pk_div, nm_mod, xa_shr, xa_and7, xa_and1, xa_and255, xa_by_and, nI_m1, Nat.add_sub_cancel, Nat.reducePow, Nat.zero_add, Nat.add_zero, Nat.reduceAdd, Nat.reduceMul, Nat.reduceSub, xf_same, xq_ff, xq_fo, xf_1, xf_2, xs_1, xs_2, xs_same, xq_so, xj_1, xj_2, xj_same, xq_jo, xq_sa1, xq_same, xq_other, upd_s, oI_n, oI_s, xv_0, xv_1, xv_2, xv_3, xm_p1, xm_p2, xq_fp, xq_fn, List.filter_nil, Nat.reduceBEq, Bool.not_true, Bool.not_false, Bool.and_true, Bool.and_false, Bool.false_and, Bool.true_and, if_true, if_false, Bool.false_eq_true, reduceIte, xc_i, xc_j, xc_r, xc_n, List.nil_append, List.cons_append, Option.toList_some, Option.toList_none, nI_ltJ, nI_leJ, nI_eqJ, nI_ltz, nI_gez, nI_gtz, nI_lez, nI_eqz, m1_ltz, m1_gez, true_imp_iff, false_imp_iff, true_and, and_true, ne_eq, not_false_eq_true, not_true_eq_false, Nat.reduceEqDiff, Nat.reduceLT, Nat.reduceLeDiff, w1, k5']
    with_reducible refine xm_go_blk b_X9_readOperand_33 k_X9_readOperand_33 ?_
    refine by_iload_n rfl ?_
    refine by_if_eq 52 rfl ?_
    simp (disch := first | exact Nat.ne_of_beq_eq_false rfl | exact rfl | omega) only [nI_add, xa_sub, xa_mul, pk_div, nm_mod, xa_shr, xa_and7, xa_and1, xa_and255, xa_by_and, nI_m1, Nat.add_sub_cancel, Nat.reducePow, Nat.zero_add, Nat.add_zero, Nat.reduceAdd, Nat.reduceMul, Nat.reduceSub, xf_same, xq_ff, xq_fo, xf_1, xf_2, xs_1, xs_2, xs_same, xq_so, xj_1, xj_2, xj_same, xq_jo, xq_sa1, xq_same, xq_other, upd_s, oI_n, oI_s, xv_0, xv_1, xv_2, xv_3, xm_p1, xm_p2, xq_fp, xq_fn, List.filter_nil, Nat.reduceBEq, Bool.not_true, Bool.not_false, Bool.and_true, Bool.and_false, Bool.false_and, Bool.true_and, if_true, if_false, Bool.false_eq_true, reduceIte, xc_i, xc_j, xc_r, xc_n, List.nil_append, List.cons_append, Option.toList_some, Option.toList_none, nI_ltJ, nI_leJ, nI_eqJ, nI_ltz, nI_gez, nI_gtz, nI_lez, nI_eqz, m1_ltz, m1_gez, true_imp_iff, false_imp_iff, true_and, and_true, ne_eq, not_false_eq_true, not_true_eq_false, Nat.reduceEqDiff, Nat.reduceLT, Nat.reduceLeDiff, w1, k5']
    with_reducible refine xm_go_blk b_X9_readOperand_52 k_X9_readOperand_52 ?_
    refine by_iload_n rfl ?_
    refine by_if_eq 62 rfl ?_
    simp (disch := first | exact Nat.ne_of_beq_eq_false rfl | exact rfl | omega) only [nI_add, xa_sub, xa_mul, pk_div, nm_mod, xa_shr, xa_and7, xa_and1, xa_and255, xa_by_and, nI_m1, Nat.add_sub_cancel, Nat.reducePow, Nat.zero_add, Nat.add_zero, Nat.reduceAdd, Nat.reduceMul, Nat.reduceSub, xf_same, xq_ff, xq_fo, xf_1, xf_2, xs_1, xs_2, xs_same, xq_so, xj_1, xj_2, xj_same, xq_jo, xq_sa1, xq_same, xq_other, upd_s, oI_n, oI_s, xv_0, xv_1, xv_2, xv_3, xm_p1, xm_p2, xq_fp, xq_fn, List.filter_nil, Nat.reduceBEq, Bool.not_true, Bool.not_false, Bool.and_true, Bool.and_false, Bool.false_and, Bool.true_and, if_true, if_false, Bool.false_eq_true, reduceIte, xc_i, xc_j, xc_r, xc_n, List.nil_append, List.cons_append, Option.toList_some, Option.toList_none, nI_ltJ, nI_leJ, nI_eqJ, nI_ltz, nI_gez, nI_gtz, nI_lez, nI_eqz, m1_ltz, m1_gez, true_imp_iff, false_imp_iff, true_and, and_true, ne_eq, not_false_eq_true, not_true_eq_false, Nat.reduceEqDiff, Nat.reduceLT, Nat.reduceLeDiff, w1, k5']
    exact xm_go_wk (by simp [Value.category]) (bad h (nI c) eo Fr_rf w2)
end SY
