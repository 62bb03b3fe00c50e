/-! ===== say: the definitions of the reference ===== -/
def sG0 : sG := (0, fun _ => 0, fun _ => none, fun _ => none, fun _ => 0, fun _ => 0, fun _ _ => 0)
theorem sI0 {t : List Nat} : sInv t [] sG0 [] := ⟨⟨fun _ => 0, 0, Nat.zero_le _, List.nodup_nil, fun n hn => (nomatch hn), fun n hn => absurd hn (Nat.not_lt_zero _)⟩, fun e he => (nomatch he)⟩
/-- what the reference finds ahead of a definition -/
def mEd (h : xm_H) (t : List Nat) (NL : List (List Nat × Nat)) (G : sG) : Prop := XF h ∧ mtp h t ∧ tgM h ∧ nmM h NL ∧ h.2.2 102 5 = .int (nI (sCt G)) ∧ mG0 h G ∧ h.2.2 102 81 = .int (nI 0)
abbrev smdR : List Nat := [105, 106, 107, 108, 109, 110, 113, 114, 115, 116, 157, 158, 159, 160, 161]
abbrev smdT : List (Nat × Nat) := [(102, 5), (102, 14), (102, 36), (102, 81), (102, 82), (102, 83), (102, 84), (102, 85), (102, 88)]
section SY
variable {sc : xm_Sc} {d p : Nat} {t w : List Nat} {NL : List (List Nat × Nat)} {G : sG} {st : List (Option Nat)} {h h' : xm_H} {post : xm_Po}
theorem sp_mnextWord2 (hF : XF h) (hm : mtp h t) (hsa : h.2.2 102 82 = .int (nI p)) (hs : h.2.2 102 81 = .int (nI 0)) (hpt : p ≤ t.length)
    (hS : ∀ h', tkK t p = 1 → Fr [] smwF h h' → h'.2.2 102 81 = .int (nI 1) → h'.2.2 102 36 = .int (nI (tkF t p)) → h'.2.2 102 83 = .int (nI 0) → post none h')
    (hK : ∀ h', tkK t p ≠ 1 → Fr [] smwT h h' → mwS h' t p → post none h') : xm_T (XE sc) (d + 3) 267 [.ref 102] h post := by
  have ht8 : t.length ≤ 8192 := hm.2.2.2
  have hby := mrow_l0 hm.2
  have kp : ∀ h1, Fr [] smwT h h1 → mtp h1 t ∧ XF h1 ∧ h1.2.2 102 81 = .int (nI 0) := fun h1 f1 => ⟨mtp_fr hm f1 (by simp) (by simp), Fr_XF hF f1 (by decide +kernel), by rw [f1.2.2 _ _ (by simp)]; exact hs⟩
  have key2 : ∀ (y r : Nat) (h1 : xm_H), r + y = t.length → tkP t r = tkE t p → tkK t p = 5 → Fr [] smwT h h1 → h1.2.2 102 83 = .int (nI 4) → h1.2.2 102 84 = .int (nI (tkF t p)) → h1.2.2 102 82 = .int (nI r) → xm_go (XE sc) (xm_T (XE sc) (d + 2)) 267 post 154 [(0, .ref 102)] [] h1 := by
    intro y
    induction y with
    | zero =>
      intro r h1 hr1 h5 h6 f1 a1 a2 a3
      obtain ⟨b1, b2, b3⟩ := kp h1 f1
      rw [tkP_e (by omega)] at h5
      with_reducible refine xm_go_blk b_X12_nextWord_154 k_X12_nextWord_154 ?_
      refine by_aload_n rfl ?_
      refine by_getf cn_267 fl_12_601 (by first | exact rfl | assumption) (by decide) ?_
      refine by_iconst ci_4 ?_
      simp (disch := first | exact Nat.ne_of_beq_eq_false rfl | exact rfl | omega) only [nI_add, xa_sub, xa_mul, pk_div, nm_mod, xa_shr, xa_and7, xa_and1, xa_and255, xa_by_and, nI_m1, Nat.add_sub_cancel, Nat.reducePow, Nat.zero_add, Nat.add_zero, Nat.reduceAdd, Nat.reduceMul, Nat.reduceSub, xf_same, xq_ff, xq_fo, xf_1, xf_2, xs_1, xs_2, xs_same, xq_so, xj_1, xj_2, xj_same, xq_jo, xq_sa1, xq_same, xq_other, upd_s, oI_n, oI_s, a1, a3, b1.1]
      refine by_ic_ne 201 rfl ?_
      simp (disch := first | exact Nat.ne_of_beq_eq_false rfl | exact rfl | omega) only [nI_add, xa_sub, xa_mul, pk_div, nm_mod, xa_shr, xa_and7, xa_and1, xa_and255, xa_by_and, nI_m1, Nat.add_sub_cancel, Nat.reducePow, Nat.zero_add, Nat.add_zero, Nat.reduceAdd, Nat.reduceMul, Nat.reduceSub, xf_same, xq_ff, xq_fo, xf_1, xf_2, xs_1, xs_2, xs_same, xq_so, xj_1, xj_2, xj_same, xq_jo, xq_sa1, xq_same, xq_other, upd_s, oI_n, oI_s, xv_0, xv_1, xv_2, xv_3, xm_p1, xm_p2, xq_fp, xq_fn, List.filter_nil, Nat.reduceBEq, Bool.not_true, Bool.not_false, Bool.and_true, Bool.and_false, Bool.false_and, Bool.true_and, if_true, if_false, Bool.false_eq_true, reduceIte, xc_i, xc_j, xc_r, xc_n, List.nil_append, List.cons_append, Option.toList_some, Option.toList_none, nI_ltJ, nI_leJ, nI_eqJ, nI_ltz, nI_gez, nI_gtz, nI_lez, nI_eqz, m1_ltz, m1_gez, true_imp_iff, false_imp_iff, true_and, and_true, ne_eq, not_false_eq_true, not_true_eq_false, Nat.reduceEqDiff, Nat.reduceLT, Nat.reduceLeDiff, a1, a3, b1.1]
      with_reducible refine xm_go_blk b_X12_nextWord_162 k_X12_nextWord_162 ?_
      refine by_aload_n rfl ?_
      refine by_getf cn_267 fl_12_595 (by first | exact rfl | assumption) (by decide) ?_
      refine by_aload_n rfl ?_
      refine by_getf cn_267 fl_12_215 (by first | exact rfl | assumption) (by decide) ?_
      simp (disch := first | exact Nat.ne_of_beq_eq_false rfl | exact rfl | omega) only [nI_add, xa_sub, xa_mul, pk_div, nm_mod, xa_shr, xa_and7, xa_and1, xa_and255, xa_by_and, nI_m1, Nat.add_sub_cancel, Nat.reducePow, Nat.zero_add, Nat.add_zero, Nat.reduceAdd, Nat.reduceMul, Nat.reduceSub, xf_same, xq_ff, xq_fo, xf_1, xf_2, xs_1, xs_2, xs_same, xq_so, xj_1, xj_2, xj_same, xq_jo, xq_sa1, xq_same, xq_other, upd_s, oI_n, oI_s, a1, a3, b1.1]
      refine by_ic_ge 201 rfl ?_
      simp (disch := first | exact Nat.ne_of_beq_eq_false rfl | exact rfl | omega) only [nI_add, xa_sub, xa_mul, pk_div, nm_mod, xa_shr, xa_and7, xa_and1, xa_and255, xa_by_and, nI_m1, Nat.add_sub_cancel, Nat.reducePow, Nat.zero_add, Nat.add_zero, Nat.reduceAdd, Nat.reduceMul, Nat.reduceSub, xf_same, xq_ff, xq_fo, xf_1, xf_2, xs_1, xs_2, xs_same, xq_so, xj_1, xj_2, xj_same, xq_jo, xq_sa1, xq_same, xq_other, upd_s, oI_n, oI_s, xv_0, xv_1, xv_2, xv_3, xm_p1, xm_p2, xq_fp, xq_fn, List.filter_nil, Nat.reduceBEq, Bool.not_true, Bool.not_false, Bool.and_true, Bool.and_false, Bool.false_and, Bool.true_and, if_true, if_false, Bool.false_eq_true, reduceIte, xc_i, xc_j, xc_r, xc_n, List.nil_append, List.cons_append, Option.toList_some, Option.toList_none, nI_ltJ, nI_leJ, nI_eqJ, nI_ltz, nI_gez, nI_gtz, nI_lez, nI_eqz, m1_ltz, m1_gez, true_imp_iff, false_imp_iff, true_and, and_true, ne_eq, not_false_eq_true, not_true_eq_false, Nat.reduceEqDiff, Nat.reduceLT, Nat.reduceLeDiff, a1, a3, b1.1]
      refine ⟨fun c162 => ?_, fun c => absurd (by omega) c⟩
      with_reducible refine xm_go_blk b_X12_nextWord_201 k_X12_nextWord_201 ?_
      refine by_ret ry_267 ?_
      exact hK h1 (by rw [h6]; decide) f1 ⟨by rw [← h5]; exact a3, a2, by rw [h6]; exact a1⟩
    | succ y ih =>
      intro r h1 hr1 h5 h6 f1 a1 a2 a3
      obtain ⟨b1, b2, b3⟩ := kp h1 f1
      have er := b1.2.1 r (by omega)
      with_reducible refine xm_go_blk b_X12_nextWord_154 k_X12_nextWord_154 ?_
      refine by_aload_n rfl ?_
      refine by_getf cn_267 fl_12_601 (by first | exact rfl | assumption) (by decide) ?_
      refine by_iconst ci_4 ?_
      simp (disch := first | exact Nat.ne_of_beq_eq_false rfl | exact rfl | omega) only [nI_add, xa_sub, xa_mul, pk_div, nm_mod, xa_shr, xa_and7, xa_and1, xa_and255, xa_by_and, nI_m1, Nat.add_sub_cancel, Nat.reducePow, Nat.zero_add, Nat.add_zero, Nat.reduceAdd, Nat.reduceMul, Nat.reduceSub, xf_same, xq_ff, xq_fo, xf_1, xf_2, xs_1, xs_2, xs_same, xq_so, xj_1, xj_2, xj_same, xq_jo, xq_sa1, xq_same, xq_other, upd_s, oI_n, oI_s, a1, a3, b1.1, xf_102_1 b2, er]
      refine by_ic_ne 201 rfl ?_
      simp (disch := first | exact Nat.ne_of_beq_eq_false rfl | exact rfl | omega) only [nI_add, xa_sub, xa_mul, pk_div, nm_mod, xa_shr, xa_and7, xa_and1, xa_and255, xa_by_and, nI_m1, Nat.add_sub_cancel, Nat.reducePow, Nat.zero_add, Nat.add_zero, Nat.reduceAdd, Nat.reduceMul, Nat.reduceSub, xf_same, xq_ff, xq_fo, xf_1, xf_2, xs_1, xs_2, xs_same, xq_so, xj_1, xj_2, xj_same, xq_jo, xq_sa1, xq_same, xq_other, upd_s, oI_n, oI_s, xv_0, xv_1, xv_2, xv_3, xm_p1, xm_p2, xq_fp, xq_fn, List.filter_nil, Nat.reduceBEq, Bool.not_true, Bool.not_false, Bool.and_true, Bool.and_false, Bool.false_and, Bool.true_and, if_true, if_false, Bool.false_eq_true, reduceIte, xc_i, xc_j, xc_r, xc_n, List.nil_append, List.cons_append, Option.toList_some, Option.toList_none, nI_ltJ, nI_leJ, nI_eqJ, nI_ltz, nI_gez, nI_gtz, nI_lez, nI_eqz, m1_ltz, m1_gez, true_imp_iff, false_imp_iff, true_and, and_true, ne_eq, not_false_eq_true, not_true_eq_false, Nat.reduceEqDiff, Nat.reduceLT, Nat.reduceLeDiff, a1, a3, b1.1, xf_102_1 b2, er]
      with_reducible refine xm_go_blk b_X12_nextWord_162 k_X12_nextWord_162 ?_
      refine by_aload_n rfl ?_
      refine by_getf cn_267 fl_12_595 (by first | exact rfl | assumption) (by decide) ?_
      refine by_aload_n rfl ?_
      refine by_getf cn_267 fl_12_215 (by first | exact rfl | assumption) (by decide) ?_
      simp (disch := first | exact Nat.ne_of_beq_eq_false rfl | exact rfl | omega) only [nI_add, xa_sub, xa_mul, pk_div, nm_mod, xa_shr, xa_and7, xa_and1, xa_and255, xa_by_and, nI_m1, Nat.add_sub_cancel, Nat.reducePow, Nat.zero_add, Nat.add_zero, Nat.reduceAdd, Nat.reduceMul, Nat.reduceSub, xf_same, xq_ff, xq_fo, xf_1, xf_2, xs_1, xs_2, xs_same, xq_so, xj_1, xj_2, xj_same, xq_jo, xq_sa1, xq_same, xq_other, upd_s, oI_n, oI_s, a1, a3, b1.1, xf_102_1 b2, er]
      refine by_ic_ge 201 rfl ?_
      simp (disch := first | exact Nat.ne_of_beq_eq_false rfl | exact rfl | omega) only [nI_add, xa_sub, xa_mul, pk_div, nm_mod, xa_shr, xa_and7, xa_and1, xa_and255, xa_by_and, nI_m1, Nat.add_sub_cancel, Nat.reducePow, Nat.zero_add, Nat.add_zero, Nat.reduceAdd, Nat.reduceMul, Nat.reduceSub, xf_same, xq_ff, xq_fo, xf_1, xf_2, xs_1, xs_2, xs_same, xq_so, xj_1, xj_2, xj_same, xq_jo, xq_sa1, xq_same, xq_other, upd_s, oI_n, oI_s, xv_0, xv_1, xv_2, xv_3, xm_p1, xm_p2, xq_fp, xq_fn, List.filter_nil, Nat.reduceBEq, Bool.not_true, Bool.not_false, Bool.and_true, Bool.and_false, Bool.false_and, Bool.true_and, if_true, if_false, Bool.false_eq_true, reduceIte, xc_i, xc_j, xc_r, xc_n, List.nil_append, List.cons_append, Option.toList_some, Option.toList_none, nI_ltJ, nI_leJ, nI_eqJ, nI_ltz, nI_gez, nI_gtz, nI_lez, nI_eqz, m1_ltz, m1_gez, true_imp_iff, false_imp_iff, true_and, and_true, ne_eq, not_false_eq_true, not_true_eq_false, Nat.reduceEqDiff, Nat.reduceLT, Nat.reduceLeDiff, a1, a3, b1.1, xf_102_1 b2, er]
      refine ⟨fun c => absurd c (by omega), fun c162 => ?_⟩
      with_reducible refine xm_go_blk b_X12_nextWord_173 k_X12_nextWord_173 ?_
      refine by_aload_n rfl ?_
      refine by_getf cn_267 fl_12_7 (by first | exact rfl | assumption) (by decide) ?_
      refine by_aload_n rfl ?_
      refine by_getf cn_267 fl_12_595 (by first | exact rfl | assumption) (by decide) ?_
      simp (disch := first | exact Nat.ne_of_beq_eq_false rfl | exact rfl | omega) only [nI_add, xa_sub, xa_mul, pk_div, nm_mod, xa_shr, xa_and7, xa_and1, xa_and255, xa_by_and, nI_m1, Nat.add_sub_cancel, Nat.reducePow, Nat.zero_add, Nat.add_zero, Nat.reduceAdd, Nat.reduceMul, Nat.reduceSub, xf_same, xq_ff, xq_fo, xf_1, xf_2, xs_1, xs_2, xs_same, xq_so, xj_1, xj_2, xj_same, xq_jo, xq_sa1, xq_same, xq_other, upd_s, oI_n, oI_s, a1, a3, b1.1, xf_102_1 b2, er]
      first | refine by_iald (by first | exact rfl | assumption | exact ps_1 hpp | exact ps_2 hpp | exact ps_3 hpp | exact ps_4 hpp | exact ps_5 hpp | exact ps_6 hpp | exact ps_7 hpp | exact ps_8 hpp | exact ps_9 hpp | exact ps_10 hpp | exact ps_11 hpp | exact ps_15 hpp | exact ps_16 hpp | exact ps_17 hpp | exact ps_18 hpp | exact ps_19 hpp | exact ps_21 hpp | exact ps_22 hpp | exact ps_23 hpp | exact ps_24 hpp) ⟨by omega, by omega⟩ ?_ | refine by_tald rfl rfl ⟨by omega, by omega⟩ ?_
      simp (disch := first | exact Nat.ne_of_beq_eq_false rfl | exact rfl | omega) only [nI_add, xa_sub, xa_mul, pk_div, nm_mod, xa_shr, xa_and7, xa_and1, xa_and255, xa_by_and, nI_m1, Nat.add_sub_cancel, Nat.reducePow, Nat.zero_add, Nat.add_zero, Nat.reduceAdd, Nat.reduceMul, Nat.reduceSub, xf_same, xq_ff, xq_fo, xf_1, xf_2, xs_1, xs_2, xs_same, xq_so, xj_1, xj_2, xj_same, xq_jo, xq_sa1, xq_same, xq_other, upd_s, oI_n, oI_s, xv_0, xv_1, xv_2, xv_3, xm_p1, xm_p2, xq_fp, xq_fn, List.filter_nil, Nat.reduceBEq, Bool.not_true, Bool.not_false, Bool.and_true, Bool.and_false, Bool.false_and, Bool.true_and, if_true, if_false, Bool.false_eq_true, reduceIte, xc_i, xc_j, xc_r, xc_n, List.nil_append, List.cons_append, Option.toList_some, Option.toList_none, a1, a3, b1.1, xf_102_1 b2, er]
      refine by_ins1 cn_267 lk_12_607 (by rw [xe_cnt]; decide) is_233 np_233 (Nat.le_of_ble_eq_true rfl) ?_
      refine sp_isOfRow (hby r) ?_
      by_cases q : sP (t.getD r 0)
      · rw [if_pos q]
        rw [tkP_s (by omega) q] at h5
        with_reducible refine xm_go_blk b_X12_nextWord_185 k_X12_nextWord_185 ?_
        refine by_if_eq 201 rfl ?_
        simp (disch := first | exact Nat.ne_of_beq_eq_false rfl | exact rfl | omega) only [nI_add, xa_sub, xa_mul, pk_div, nm_mod, xa_shr, xa_and7, xa_and1, xa_and255, xa_by_and, nI_m1, Nat.add_sub_cancel, Nat.reducePow, Nat.zero_add, Nat.add_zero, Nat.reduceAdd, Nat.reduceMul, Nat.reduceSub, xf_same, xq_ff, xq_fo, xf_1, xf_2, xs_1, xs_2, xs_same, xq_so, xj_1, xj_2, xj_same, xq_jo, xq_sa1, xq_same, xq_other, upd_s, oI_n, oI_s, xv_0, xv_1, xv_2, xv_3, xm_p1, xm_p2, xq_fp, xq_fn, List.filter_nil, Nat.reduceBEq, Bool.not_true, Bool.not_false, Bool.and_true, Bool.and_false, Bool.false_and, Bool.true_and, if_true, if_false, Bool.false_eq_true, reduceIte, xc_i, xc_j, xc_r, xc_n, List.nil_append, List.cons_append, Option.toList_some, Option.toList_none, nI_ltJ, nI_leJ, nI_eqJ, nI_ltz, nI_gez, nI_gtz, nI_lez, nI_eqz, m1_ltz, m1_gez, true_imp_iff, false_imp_iff, true_and, and_true, ne_eq, not_false_eq_true, not_true_eq_false, Nat.reduceEqDiff, Nat.reduceLT, Nat.reduceLeDiff, a3]
        with_reducible refine xm_go_blk b_X12_nextWord_188 k_X12_nextWord_188 ?_
        refine by_aload_n rfl ?_
        refine by_dup rfl ?_
        refine by_getf cn_267 fl_12_595 (by first | exact rfl | assumption) (by decide) ?_
        refine by_iconst ci_1 ?_
        simp (disch := first | exact Nat.ne_of_beq_eq_false rfl | exact rfl | omega) only [nI_add, xa_sub, xa_mul, pk_div, nm_mod, xa_shr, xa_and7, xa_and1, xa_and255, xa_by_and, nI_m1, Nat.add_sub_cancel, Nat.reducePow, Nat.zero_add, Nat.add_zero, Nat.reduceAdd, Nat.reduceMul, Nat.reduceSub, xf_same, xq_ff, xq_fo, xf_1, xf_2, xs_1, xs_2, xs_same, xq_so, xj_1, xj_2, xj_same, xq_jo, xq_sa1, xq_same, xq_other, upd_s, oI_n, oI_s, a3]
        refine by_iadd ?_
        refine by_putf cn_267 fl_12_595 (by first | exact rfl | assumption) (by decide) nf_12_82 ft_12_82 (by first | rfl | assumption) (by first | rfl | assumption) ?_
        refine by_goto 154 rfl ?_
        try simp (disch := first | exact Nat.ne_of_beq_eq_false rfl | exact rfl | omega) only [nI_add, xa_sub, xa_mul, pk_div, nm_mod, xa_shr, xa_and7, xa_and1, xa_and255, xa_by_and, nI_m1, Nat.add_sub_cancel, Nat.reducePow, Nat.zero_add, Nat.add_zero, Nat.reduceAdd, Nat.reduceMul, Nat.reduceSub, xf_same, xq_ff, xq_fo, xf_1, xf_2, xs_1, xs_2, xs_same, xq_so, xj_1, xj_2, xj_same, xq_jo, xq_sa1, xq_same, xq_other, upd_s, oI_n, oI_s, xv_0, xv_1, xv_2, xv_3, xm_p1, xm_p2, xq_fp, xq_fn, List.filter_nil, Nat.reduceBEq, Bool.not_true, Bool.not_false, Bool.and_true, Bool.and_false, Bool.false_and, Bool.true_and, if_true, if_false, Bool.false_eq_true, reduceIte, xc_i, xc_j, xc_r, xc_n, List.nil_append, List.cons_append, Option.toList_some, Option.toList_none, a3]
        exact ih (r + 1) _ (by omega) h5 h6 (Fr_sf f1 (by simp)) (by simpa [xm_sf, updV] using a1) (by simpa [xm_sf, updV] using a2) (by simp [xm_sf, updV])
      · rw [if_neg q]
        rw [tkP_e (fun z => q z.2)] at h5
        with_reducible refine xm_go_blk b_X12_nextWord_185 k_X12_nextWord_185 ?_
        refine by_if_eq 201 rfl ?_
        simp (disch := first | exact Nat.ne_of_beq_eq_false rfl | exact rfl | omega) only [nI_add, xa_sub, xa_mul, pk_div, nm_mod, xa_shr, xa_and7, xa_and1, xa_and255, xa_by_and, nI_m1, Nat.add_sub_cancel, Nat.reducePow, Nat.zero_add, Nat.add_zero, Nat.reduceAdd, Nat.reduceMul, Nat.reduceSub, xf_same, xq_ff, xq_fo, xf_1, xf_2, xs_1, xs_2, xs_same, xq_so, xj_1, xj_2, xj_same, xq_jo, xq_sa1, xq_same, xq_other, upd_s, oI_n, oI_s, xv_0, xv_1, xv_2, xv_3, xm_p1, xm_p2, xq_fp, xq_fn, List.filter_nil, Nat.reduceBEq, Bool.not_true, Bool.not_false, Bool.and_true, Bool.and_false, Bool.false_and, Bool.true_and, if_true, if_false, Bool.false_eq_true, reduceIte, xc_i, xc_j, xc_r, xc_n, List.nil_append, List.cons_append, Option.toList_some, Option.toList_none, nI_ltJ, nI_leJ, nI_eqJ, nI_ltz, nI_gez, nI_gtz, nI_lez, nI_eqz, m1_ltz, m1_gez, true_imp_iff, false_imp_iff, true_and, and_true, ne_eq, not_false_eq_true, not_true_eq_false, Nat.reduceEqDiff, Nat.reduceLT, Nat.reduceLeDiff]
        with_reducible refine xm_go_blk b_X12_nextWord_201 k_X12_nextWord_201 ?_
        refine by_ret ry_267 ?_
        exact hK h1 (by rw [h6]; decide) f1 ⟨by rw [← h5]; exact a3, a2, by rw [h6]; exact a1⟩
  have k52 : ∀ (q : Nat) (h1 : xm_H), q = tkF t p → q ≤ t.length → Fr [] smwT h h1 → h1.2.2 102 82 = .int (nI q) → xm_go (XE sc) (xm_T (XE sc) (d + 2)) 267 post 52 [(0, .ref 102)] [] h1 := by
    intro q h1 hq hqt f1 a2
    obtain ⟨b1, b2, b3⟩ := kp h1 f1
    have hb := hby q
    by_cases e : q < t.length
    · have er := b1.2.1 q e
      have f2 : Fr [] smwT h (xm_sf (xm_sf h1 102 84 (.int (nI q))) 102 83 (.int (nI 0))) := Fr_sf (Fr_sf f1 (by simp)) (by simp)
      with_reducible refine xm_go_blk b_X12_nextWord_52 k_X12_nextWord_52 ?_
      refine by_aload_n rfl ?_
      refine by_aload_n rfl ?_
      refine by_getf cn_267 fl_12_595 (by first | exact rfl | assumption) (by decide) ?_
      simp (disch := first | exact Nat.ne_of_beq_eq_false rfl | exact rfl | omega) only [nI_add, xa_sub, xa_mul, pk_div, nm_mod, xa_shr, xa_and7, xa_and1, xa_and255, xa_by_and, nI_m1, Nat.add_sub_cancel, Nat.reducePow, Nat.zero_add, Nat.add_zero, Nat.reduceAdd, Nat.reduceMul, Nat.reduceSub, xf_same, xq_ff, xq_fo, xf_1, xf_2, xs_1, xs_2, xs_same, xq_so, xj_1, xj_2, xj_same, xq_jo, xq_sa1, xq_same, xq_other, upd_s, oI_n, oI_s, a2, b1.1, xf_102_1 b2, er]
      refine by_putf cn_267 fl_12_598 (by first | exact rfl | assumption) (by decide) nf_12_84 ft_12_84 (by first | rfl | assumption) (by first | rfl | assumption) ?_
      refine by_aload_n rfl ?_
      refine by_iconst ci_0 ?_
      refine by_putf cn_267 fl_12_601 (by first | exact rfl | assumption) (by decide) nf_12_83 ft_12_83 (by first | rfl | assumption) (by first | rfl | assumption) ?_
      refine by_aload_n rfl ?_
      refine by_getf cn_267 fl_12_595 (by first | exact rfl | assumption) (by decide) ?_
      refine by_aload_n rfl ?_
      refine by_getf cn_267 fl_12_215 (by first | exact rfl | assumption) (by decide) ?_
      simp (disch := first | exact Nat.ne_of_beq_eq_false rfl | exact rfl | omega) only [nI_add, xa_sub, xa_mul, pk_div, nm_mod, xa_shr, xa_and7, xa_and1, xa_and255, xa_by_and, nI_m1, Nat.add_sub_cancel, Nat.reducePow, Nat.zero_add, Nat.add_zero, Nat.reduceAdd, Nat.reduceMul, Nat.reduceSub, xf_same, xq_ff, xq_fo, xf_1, xf_2, xs_1, xs_2, xs_same, xq_so, xj_1, xj_2, xj_same, xq_jo, xq_sa1, xq_same, xq_other, upd_s, oI_n, oI_s, a2, b1.1, xf_102_1 b2, er]
      refine by_ic_ne 77 rfl ?_
      simp (disch := first | exact Nat.ne_of_beq_eq_false rfl | exact rfl | omega) only [nI_add, xa_sub, xa_mul, pk_div, nm_mod, xa_shr, xa_and7, xa_and1, xa_and255, xa_by_and, nI_m1, Nat.add_sub_cancel, Nat.reducePow, Nat.zero_add, Nat.add_zero, Nat.reduceAdd, Nat.reduceMul, Nat.reduceSub, xf_same, xq_ff, xq_fo, xf_1, xf_2, xs_1, xs_2, xs_same, xq_so, xj_1, xj_2, xj_same, xq_jo, xq_sa1, xq_same, xq_other, upd_s, oI_n, oI_s, xv_0, xv_1, xv_2, xv_3, xm_p1, xm_p2, xq_fp, xq_fn, List.filter_nil, Nat.reduceBEq, Bool.not_true, Bool.not_false, Bool.and_true, Bool.and_false, Bool.false_and, Bool.true_and, if_true, if_false, Bool.false_eq_true, reduceIte, xc_i, xc_j, xc_r, xc_n, List.nil_append, List.cons_append, Option.toList_some, Option.toList_none, nI_ltJ, nI_leJ, nI_eqJ, nI_ltz, nI_gez, nI_gtz, nI_lez, nI_eqz, m1_ltz, m1_gez, true_imp_iff, false_imp_iff, true_and, and_true, ne_eq, not_false_eq_true, not_true_eq_false, Nat.reduceEqDiff, Nat.reduceLT, Nat.reduceLeDiff, a2, b1.1, xf_102_1 b2, er]
      refine ⟨fun c52 => ?_, fun c => absurd (by omega) c⟩
      with_reducible refine xm_go_blk b_X12_nextWord_77 k_X12_nextWord_77 ?_
      refine by_aload_n rfl ?_
      refine by_getf cn_267 fl_12_7 (by first | exact rfl | assumption) (by decide) ?_
      refine by_aload_n rfl ?_
      refine by_getf cn_267 fl_12_595 (by first | exact rfl | assumption) (by decide) ?_
      simp (disch := first | exact Nat.ne_of_beq_eq_false rfl | exact rfl | omega) only [nI_add, xa_sub, xa_mul, pk_div, nm_mod, xa_shr, xa_and7, xa_and1, xa_and255, xa_by_and, nI_m1, Nat.add_sub_cancel, Nat.reducePow, Nat.zero_add, Nat.add_zero, Nat.reduceAdd, Nat.reduceMul, Nat.reduceSub, xf_same, xq_ff, xq_fo, xf_1, xf_2, xs_1, xs_2, xs_same, xq_so, xj_1, xj_2, xj_same, xq_jo, xq_sa1, xq_same, xq_other, upd_s, oI_n, oI_s, a2, b1.1, xf_102_1 b2, er]
      first | refine by_iald (by first | exact rfl | assumption | exact ps_1 hpp | exact ps_2 hpp | exact ps_3 hpp | exact ps_4 hpp | exact ps_5 hpp | exact ps_6 hpp | exact ps_7 hpp | exact ps_8 hpp | exact ps_9 hpp | exact ps_10 hpp | exact ps_11 hpp | exact ps_15 hpp | exact ps_16 hpp | exact ps_17 hpp | exact ps_18 hpp | exact ps_19 hpp | exact ps_21 hpp | exact ps_22 hpp | exact ps_23 hpp | exact ps_24 hpp) ⟨by omega, by omega⟩ ?_ | refine by_tald rfl rfl ⟨by omega, by omega⟩ ?_
      refine by_istore_n (by rw [ml_267]; decide) ?_
      refine by_iload_n rfl ?_
      refine by_bipush cb_33 ?_
      refine by_bipush cb_126 ?_
      simp (disch := first | exact Nat.ne_of_beq_eq_false rfl | exact rfl | omega) only [nI_add, xa_sub, xa_mul, pk_div, nm_mod, xa_shr, xa_and7, xa_and1, xa_and255, xa_by_and, nI_m1, Nat.add_sub_cancel, Nat.reducePow, Nat.zero_add, Nat.add_zero, Nat.reduceAdd, Nat.reduceMul, Nat.reduceSub, xf_same, xq_ff, xq_fo, xf_1, xf_2, xs_1, xs_2, xs_same, xq_so, xj_1, xj_2, xj_same, xq_jo, xq_sa1, xq_same, xq_other, upd_s, oI_n, oI_s, xv_0, xv_1, xv_2, xv_3, xm_p1, xm_p2, xq_fp, xq_fn, List.filter_nil, Nat.reduceBEq, Bool.not_true, Bool.not_false, Bool.and_true, Bool.and_false, Bool.false_and, Bool.true_and, if_true, if_false, Bool.false_eq_true, reduceIte, xc_i, xc_j, xc_r, xc_n, List.nil_append, List.cons_append, Option.toList_some, Option.toList_none, a2, b1.1, xf_102_1 b2, er]
      refine by_ins3 cn_267 lk_12_211 (by rw [xe_cnt]; decide) is_319 np_319 (Nat.le_of_ble_eq_true rfl) ?_
      refine sp_within ?_
      rw [wth (by decide) (by decide) (by omega)]
      by_cases c1 : 33 ≤ t.getD q 0 ∧ t.getD q 0 ≤ 126
      · rw [if_pos c1]
        have endk : ∀ k x, tkK t p = k → k ≠ 1 → k ≠ 5 → tkE t p = q + 1 → x = nI (mkk k) → post none (xm_sf (xm_sf (xm_sf (xm_sf h1 102 84 (.int (nI q))) 102 83 (.int (nI 0))) 102 82 (.int (nI (q + 1)))) 102 83 (.int x)) := fun k x h1' h2' h2'' h3' h4' => by
          subst h4'
          exact hK _ (by rw [h1']; exact h2') (Fr_sf (Fr_sf f2 (by simp)) (by simp)) ⟨by rw [h3']; simp [xm_sf, updV], by rw [← hq]; simp [xm_sf, updV], by rw [h1']; simp [xm_sf, updV]⟩
        by_cases e61 : t.getD q 0 = 61
        · have := tk_2 (t := t) (p := p) (by omega) (by rw [← hq]; exact e61)
          rw [e61]
          with_reducible refine xm_go_blk b_X12_nextWord_95 k_X12_nextWord_95 ?_
          refine by_if_ne 109 rfl ?_
          simp (disch := first | exact Nat.ne_of_beq_eq_false rfl | exact rfl | omega) only [nI_add, xa_sub, xa_mul, pk_div, nm_mod, xa_shr, xa_and7, xa_and1, xa_and255, xa_by_and, nI_m1, Nat.add_sub_cancel, Nat.reducePow, Nat.zero_add, Nat.add_zero, Nat.reduceAdd, Nat.reduceMul, Nat.reduceSub, xf_same, xq_ff, xq_fo, xf_1, xf_2, xs_1, xs_2, xs_same, xq_so, xj_1, xj_2, xj_same, xq_jo, xq_sa1, xq_same, xq_other, upd_s, oI_n, oI_s, xv_0, xv_1, xv_2, xv_3, xm_p1, xm_p2, xq_fp, xq_fn, List.filter_nil, Nat.reduceBEq, Bool.not_true, Bool.not_false, Bool.and_true, Bool.and_false, Bool.false_and, Bool.true_and, if_true, if_false, Bool.false_eq_true, reduceIte, xc_i, xc_j, xc_r, xc_n, List.nil_append, List.cons_append, Option.toList_some, Option.toList_none, nI_ltJ, nI_leJ, nI_eqJ, nI_ltz, nI_gez, nI_gtz, nI_lez, nI_eqz, m1_ltz, m1_gez, true_imp_iff, false_imp_iff, true_and, and_true, ne_eq, not_false_eq_true, not_true_eq_false, Nat.reduceEqDiff, Nat.reduceLT, Nat.reduceLeDiff, a2]
          with_reducible refine xm_go_blk b_X12_nextWord_109 k_X12_nextWord_109 ?_
          refine by_aload_n rfl ?_
          refine by_dup rfl ?_
          refine by_getf cn_267 fl_12_595 (by first | exact rfl | assumption) (by decide) ?_
          refine by_iconst ci_1 ?_
          simp (disch := first | exact Nat.ne_of_beq_eq_false rfl | exact rfl | omega) only [nI_add, xa_sub, xa_mul, pk_div, nm_mod, xa_shr, xa_and7, xa_and1, xa_and255, xa_by_and, nI_m1, Nat.add_sub_cancel, Nat.reducePow, Nat.zero_add, Nat.add_zero, Nat.reduceAdd, Nat.reduceMul, Nat.reduceSub, xf_same, xq_ff, xq_fo, xf_1, xf_2, xs_1, xs_2, xs_same, xq_so, xj_1, xj_2, xj_same, xq_jo, xq_sa1, xq_same, xq_other, upd_s, oI_n, oI_s, a2]
          refine by_iadd ?_
          refine by_putf cn_267 fl_12_595 (by first | exact rfl | assumption) (by decide) nf_12_82 ft_12_82 (by first | rfl | assumption) (by first | rfl | assumption) ?_
          refine by_aload_n rfl ?_
          refine by_iload_n rfl ?_
          refine by_bipush cb_61 ?_
          refine by_ic_ne 130 rfl ?_
          simp (disch := first | exact Nat.ne_of_beq_eq_false rfl | exact rfl | omega) only [nI_add, xa_sub, xa_mul, pk_div, nm_mod, xa_shr, xa_and7, xa_and1, xa_and255, xa_by_and, nI_m1, Nat.add_sub_cancel, Nat.reducePow, Nat.zero_add, Nat.add_zero, Nat.reduceAdd, Nat.reduceMul, Nat.reduceSub, xf_same, xq_ff, xq_fo, xf_1, xf_2, xs_1, xs_2, xs_same, xq_so, xj_1, xj_2, xj_same, xq_jo, xq_sa1, xq_same, xq_other, upd_s, oI_n, oI_s, xv_0, xv_1, xv_2, xv_3, xm_p1, xm_p2, xq_fp, xq_fn, List.filter_nil, Nat.reduceBEq, Bool.not_true, Bool.not_false, Bool.and_true, Bool.and_false, Bool.false_and, Bool.true_and, if_true, if_false, Bool.false_eq_true, reduceIte, xc_i, xc_j, xc_r, xc_n, List.nil_append, List.cons_append, Option.toList_some, Option.toList_none, nI_ltJ, nI_leJ, nI_eqJ, nI_ltz, nI_gez, nI_gtz, nI_lez, nI_eqz, m1_ltz, m1_gez, true_imp_iff, false_imp_iff, true_and, and_true, ne_eq, not_false_eq_true, not_true_eq_false, Nat.reduceEqDiff, Nat.reduceLT, Nat.reduceLeDiff, a2]
          with_reducible refine xm_go_blk b_X12_nextWord_126 k_X12_nextWord_126 ?_
          refine by_iconst ci_1 ?_
          refine by_goto 151 rfl ?_
          with_reducible refine xm_go_blk b_X12_nextWord_151 k_X12_nextWord_151 ?_
          refine by_putf cn_267 fl_12_601 (by first | exact rfl | assumption) (by decide) nf_12_83 ft_12_83 (by first | rfl | assumption) (by first | rfl | assumption) ?_
          refine by_nil ?_
          with_reducible refine xm_go_blk b_X12_nextWord_154 k_X12_nextWord_154 ?_
          refine by_aload_n rfl ?_
          refine by_getf cn_267 fl_12_601 (by first | exact rfl | assumption) (by decide) ?_
          refine by_iconst ci_4 ?_
          simp (disch := first | exact Nat.ne_of_beq_eq_false rfl | exact rfl | omega) only [nI_add, xa_sub, xa_mul, pk_div, nm_mod, xa_shr, xa_and7, xa_and1, xa_and255, xa_by_and, nI_m1, Nat.add_sub_cancel, Nat.reducePow, Nat.zero_add, Nat.add_zero, Nat.reduceAdd, Nat.reduceMul, Nat.reduceSub, xf_same, xq_ff, xq_fo, xf_1, xf_2, xs_1, xs_2, xs_same, xq_so, xj_1, xj_2, xj_same, xq_jo, xq_sa1, xq_same, xq_other, upd_s, oI_n, oI_s, a2]
          refine by_ic_ne 201 rfl ?_
          simp (disch := first | exact Nat.ne_of_beq_eq_false rfl | exact rfl | omega) only [nI_add, xa_sub, xa_mul, pk_div, nm_mod, xa_shr, xa_and7, xa_and1, xa_and255, xa_by_and, nI_m1, Nat.add_sub_cancel, Nat.reducePow, Nat.zero_add, Nat.add_zero, Nat.reduceAdd, Nat.reduceMul, Nat.reduceSub, xf_same, xq_ff, xq_fo, xf_1, xf_2, xs_1, xs_2, xs_same, xq_so, xj_1, xj_2, xj_same, xq_jo, xq_sa1, xq_same, xq_other, upd_s, oI_n, oI_s, xv_0, xv_1, xv_2, xv_3, xm_p1, xm_p2, xq_fp, xq_fn, List.filter_nil, Nat.reduceBEq, Bool.not_true, Bool.not_false, Bool.and_true, Bool.and_false, Bool.false_and, Bool.true_and, if_true, if_false, Bool.false_eq_true, reduceIte, xc_i, xc_j, xc_r, xc_n, List.nil_append, List.cons_append, Option.toList_some, Option.toList_none, nI_ltJ, nI_leJ, nI_eqJ, nI_ltz, nI_gez, nI_gtz, nI_lez, nI_eqz, m1_ltz, m1_gez, true_imp_iff, false_imp_iff, true_and, and_true, ne_eq, not_false_eq_true, not_true_eq_false, Nat.reduceEqDiff, Nat.reduceLT, Nat.reduceLeDiff, a2]
          with_reducible refine xm_go_blk b_X12_nextWord_201 k_X12_nextWord_201 ?_
          refine by_ret ry_267 ?_
          exact endk 2 _ this.1 (by decide) (by decide) (by rw [this.2, hq]) rfl
        · by_cases e40 : t.getD q 0 = 40
          · have := tk_3 (t := t) (p := p) (by omega) (by rw [← hq]; exact e40)
            rw [e40]
            with_reducible refine xm_go_blk b_X12_nextWord_95 k_X12_nextWord_95 ?_
            refine by_if_ne 109 rfl ?_
            simp (disch := first | exact Nat.ne_of_beq_eq_false rfl | exact rfl | omega) only [nI_add, xa_sub, xa_mul, pk_div, nm_mod, xa_shr, xa_and7, xa_and1, xa_and255, xa_by_and, nI_m1, Nat.add_sub_cancel, Nat.reducePow, Nat.zero_add, Nat.add_zero, Nat.reduceAdd, Nat.reduceMul, Nat.reduceSub, xf_same, xq_ff, xq_fo, xf_1, xf_2, xs_1, xs_2, xs_same, xq_so, xj_1, xj_2, xj_same, xq_jo, xq_sa1, xq_same, xq_other, upd_s, oI_n, oI_s, xv_0, xv_1, xv_2, xv_3, xm_p1, xm_p2, xq_fp, xq_fn, List.filter_nil, Nat.reduceBEq, Bool.not_true, Bool.not_false, Bool.and_true, Bool.and_false, Bool.false_and, Bool.true_and, if_true, if_false, Bool.false_eq_true, reduceIte, xc_i, xc_j, xc_r, xc_n, List.nil_append, List.cons_append, Option.toList_some, Option.toList_none, nI_ltJ, nI_leJ, nI_eqJ, nI_ltz, nI_gez, nI_gtz, nI_lez, nI_eqz, m1_ltz, m1_gez, true_imp_iff, false_imp_iff, true_and, and_true, ne_eq, not_false_eq_true, not_true_eq_false, Nat.reduceEqDiff, Nat.reduceLT, Nat.reduceLeDiff, a2]
            with_reducible refine xm_go_blk b_X12_nextWord_109 k_X12_nextWord_109 ?_
            refine by_aload_n rfl ?_
            refine by_dup rfl ?_
            refine by_getf cn_267 fl_12_595 (by first | exact rfl | assumption) (by decide) ?_
            refine by_iconst ci_1 ?_
            simp (disch := first | exact Nat.ne_of_beq_eq_false rfl | exact rfl | omega) only [nI_add, xa_sub, xa_mul, pk_div, nm_mod, xa_shr, xa_and7, xa_and1, xa_and255, xa_by_and, nI_m1, Nat.add_sub_cancel, Nat.reducePow, Nat.zero_add, Nat.add_zero, Nat.reduceAdd, Nat.reduceMul, Nat.reduceSub, xf_same, xq_ff, xq_fo, xf_1, xf_2, xs_1, xs_2, xs_same, xq_so, xj_1, xj_2, xj_same, xq_jo, xq_sa1, xq_same, xq_other, upd_s, oI_n, oI_s, a2]
            refine by_iadd ?_
            refine by_putf cn_267 fl_12_595 (by first | exact rfl | assumption) (by decide) nf_12_82 ft_12_82 (by first | rfl | assumption) (by first | rfl | assumption) ?_
            refine by_aload_n rfl ?_
            refine by_iload_n rfl ?_
            refine by_bipush cb_61 ?_
            refine by_ic_ne 130 rfl ?_
            simp (disch := first | exact Nat.ne_of_beq_eq_false rfl | exact rfl | omega) only [nI_add, xa_sub, xa_mul, pk_div, nm_mod, xa_shr, xa_and7, xa_and1, xa_and255, xa_by_and, nI_m1, Nat.add_sub_cancel, Nat.reducePow, Nat.zero_add, Nat.add_zero, Nat.reduceAdd, Nat.reduceMul, Nat.reduceSub, xf_same, xq_ff, xq_fo, xf_1, xf_2, xs_1, xs_2, xs_same, xq_so, xj_1, xj_2, xj_same, xq_jo, xq_sa1, xq_same, xq_other, upd_s, oI_n, oI_s, xv_0, xv_1, xv_2, xv_3, xm_p1, xm_p2, xq_fp, xq_fn, List.filter_nil, Nat.reduceBEq, Bool.not_true, Bool.not_false, Bool.and_true, Bool.and_false, Bool.false_and, Bool.true_and, if_true, if_false, Bool.false_eq_true, reduceIte, xc_i, xc_j, xc_r, xc_n, List.nil_append, List.cons_append, Option.toList_some, Option.toList_none, nI_ltJ, nI_leJ, nI_eqJ, nI_ltz, nI_gez, nI_gtz, nI_lez, nI_eqz, m1_ltz, m1_gez, true_imp_iff, false_imp_iff, true_and, and_true, ne_eq, not_false_eq_true, not_true_eq_false, Nat.reduceEqDiff, Nat.reduceLT, Nat.reduceLeDiff, a2]
            with_reducible refine xm_go_blk b_X12_nextWord_130 k_X12_nextWord_130 ?_
            refine by_iload_n rfl ?_
            refine by_bipush cb_40 ?_
            refine by_ic_ne 140 rfl ?_
            simp (disch := first | exact Nat.ne_of_beq_eq_false rfl | exact rfl | omega) only [nI_add, xa_sub, xa_mul, pk_div, nm_mod, xa_shr, xa_and7, xa_and1, xa_and255, xa_by_and, nI_m1, Nat.add_sub_cancel, Nat.reducePow, Nat.zero_add, Nat.add_zero, Nat.reduceAdd, Nat.reduceMul, Nat.reduceSub, xf_same, xq_ff, xq_fo, xf_1, xf_2, xs_1, xs_2, xs_same, xq_so, xj_1, xj_2, xj_same, xq_jo, xq_sa1, xq_same, xq_other, upd_s, oI_n, oI_s, xv_0, xv_1, xv_2, xv_3, xm_p1, xm_p2, xq_fp, xq_fn, List.filter_nil, Nat.reduceBEq, Bool.not_true, Bool.not_false, Bool.and_true, Bool.and_false, Bool.false_and, Bool.true_and, if_true, if_false, Bool.false_eq_true, reduceIte, xc_i, xc_j, xc_r, xc_n, List.nil_append, List.cons_append, Option.toList_some, Option.toList_none, nI_ltJ, nI_leJ, nI_eqJ, nI_ltz, nI_gez, nI_gtz, nI_lez, nI_eqz, m1_ltz, m1_gez, true_imp_iff, false_imp_iff, true_and, and_true, ne_eq, not_false_eq_true, not_true_eq_false, Nat.reduceEqDiff, Nat.reduceLT, Nat.reduceLeDiff, a2]
            with_reducible refine xm_go_blk b_X12_nextWord_136 k_X12_nextWord_136 ?_
            refine by_iconst ci_2 ?_
            refine by_goto 151 rfl ?_
            with_reducible refine xm_go_blk b_X12_nextWord_151 k_X12_nextWord_151 ?_
            refine by_putf cn_267 fl_12_601 (by first | exact rfl | assumption) (by decide) nf_12_83 ft_12_83 (by first | rfl | assumption) (by first | rfl | assumption) ?_
            refine by_nil ?_
            with_reducible refine xm_go_blk b_X12_nextWord_154 k_X12_nextWord_154 ?_
            refine by_aload_n rfl ?_
            refine by_getf cn_267 fl_12_601 (by first | exact rfl | assumption) (by decide) ?_
            refine by_iconst ci_4 ?_
            simp (disch := first | exact Nat.ne_of_beq_eq_false rfl | exact rfl | omega) only [nI_add, xa_sub, xa_mul, pk_div, nm_mod, xa_shr, xa_and7, xa_and1, xa_and255, xa_by_and, nI_m1, Nat.add_sub_cancel, Nat.reducePow, Nat.zero_add, Nat.add_zero, Nat.reduceAdd, Nat.reduceMul, Nat.reduceSub, xf_same, xq_ff, xq_fo, xf_1, xf_2, xs_1, xs_2, xs_same, xq_so, xj_1, xj_2, xj_same, xq_jo, xq_sa1, xq_same, xq_other, upd_s, oI_n, oI_s, a2]
            refine by_ic_ne 201 rfl ?_
            simp (disch := first | exact Nat.ne_of_beq_eq_false rfl | exact rfl | omega) only [nI_add, xa_sub, xa_mul, pk_div, nm_mod, xa_shr, xa_and7, xa_and1, xa_and255, xa_by_and, nI_m1, Nat.add_sub_cancel, Nat.reducePow, Nat.zero_add, Nat.add_zero, Nat.reduceAdd, Nat.reduceMul, Nat.reduceSub, xf_same, xq_ff, xq_fo, xf_1, xf_2, xs_1, xs_2, xs_same, xq_so, xj_1, xj_2, xj_same, xq_jo, xq_sa1, xq_same, xq_other, upd_s, oI_n, oI_s, xv_0, xv_1, xv_2, xv_3, xm_p1, xm_p2, xq_fp, xq_fn, List.filter_nil, Nat.reduceBEq, Bool.not_true, Bool.not_false, Bool.and_true, Bool.and_false, Bool.false_and, Bool.true_and, if_true, if_false, Bool.false_eq_true, reduceIte, xc_i, xc_j, xc_r, xc_n, List.nil_append, List.cons_append, Option.toList_some, Option.toList_none, nI_ltJ, nI_leJ, nI_eqJ, nI_ltz, nI_gez, nI_gtz, nI_lez, nI_eqz, m1_ltz, m1_gez, true_imp_iff, false_imp_iff, true_and, and_true, ne_eq, not_false_eq_true, not_true_eq_false, Nat.reduceEqDiff, Nat.reduceLT, Nat.reduceLeDiff, a2]
            with_reducible refine xm_go_blk b_X12_nextWord_201 k_X12_nextWord_201 ?_
            refine by_ret ry_267 ?_
            exact endk 3 _ this.1 (by decide) (by decide) (by rw [this.2, hq]) rfl
          · by_cases e41 : t.getD q 0 = 41
            · have := tk_4 (t := t) (p := p) (by omega) (by rw [← hq]; exact e41)
              rw [e41]
              with_reducible refine xm_go_blk b_X12_nextWord_95 k_X12_nextWord_95 ?_
              refine by_if_ne 109 rfl ?_
              simp (disch := first | exact Nat.ne_of_beq_eq_false rfl | exact rfl | omega) only [nI_add, xa_sub, xa_mul, pk_div, nm_mod, xa_shr, xa_and7, xa_and1, xa_and255, xa_by_and, nI_m1, Nat.add_sub_cancel, Nat.reducePow, Nat.zero_add, Nat.add_zero, Nat.reduceAdd, Nat.reduceMul, Nat.reduceSub, xf_same, xq_ff, xq_fo, xf_1, xf_2, xs_1, xs_2, xs_same, xq_so, xj_1, xj_2, xj_same, xq_jo, xq_sa1, xq_same, xq_other, upd_s, oI_n, oI_s, xv_0, xv_1, xv_2, xv_3, xm_p1, xm_p2, xq_fp, xq_fn, List.filter_nil, Nat.reduceBEq, Bool.not_true, Bool.not_false, Bool.and_true, Bool.and_false, Bool.false_and, Bool.true_and, if_true, if_false, Bool.false_eq_true, reduceIte, xc_i, xc_j, xc_r, xc_n, List.nil_append, List.cons_append, Option.toList_some, Option.toList_none, nI_ltJ, nI_leJ, nI_eqJ, nI_ltz, nI_gez, nI_gtz, nI_lez, nI_eqz, m1_ltz, m1_gez, true_imp_iff, false_imp_iff, true_and, and_true, ne_eq, not_false_eq_true, not_true_eq_false, Nat.reduceEqDiff, Nat.reduceLT, Nat.reduceLeDiff, a2]
              with_reducible refine xm_go_blk b_X12_nextWord_109 k_X12_nextWord_109 ?_
              refine by_aload_n rfl ?_
              refine by_dup rfl ?_
              refine by_getf cn_267 fl_12_595 (by first | exact rfl | assumption) (by decide) ?_
              refine by_iconst ci_1 ?_
              simp (disch := first | exact Nat.ne_of_beq_eq_false rfl | exact rfl | omega) only [nI_add, xa_sub, xa_mul, pk_div, nm_mod, xa_shr, xa_and7, xa_and1, xa_and255, xa_by_and, nI_m1, Nat.add_sub_cancel, Nat.reducePow, Nat.zero_add, Nat.add_zero, Nat.reduceAdd, Nat.reduceMul, Nat.reduceSub, xf_same, xq_ff, xq_fo, xf_1, xf_2, xs_1, xs_2, xs_same, xq_so, xj_1, xj_2, xj_same, xq_jo, xq_sa1, xq_same, xq_other, upd_s, oI_n, oI_s, a2]
              refine by_iadd ?_
              refine by_putf cn_267 fl_12_595 (by first | exact rfl | assumption) (by decide) nf_12_82 ft_12_82 (by first | rfl | assumption) (by first | rfl | assumption) ?_
              refine by_aload_n rfl ?_
              refine by_iload_n rfl ?_
              refine by_bipush cb_61 ?_
              refine by_ic_ne 130 rfl ?_
              simp (disch := first | exact Nat.ne_of_beq_eq_false rfl | exact rfl | omega) only [nI_add, xa_sub, xa_mul, pk_div, nm_mod, xa_shr, xa_and7, xa_and1, xa_and255, xa_by_and, nI_m1, Nat.add_sub_cancel, Nat.reducePow, Nat.zero_add, Nat.add_zero, Nat.reduceAdd, Nat.reduceMul, Nat.reduceSub, xf_same, xq_ff, xq_fo, xf_1, xf_2, xs_1, xs_2, xs_same, xq_so, xj_1, xj_2, xj_same, xq_jo, xq_sa1, xq_same, xq_other, upd_s, oI_n, oI_s, xv_0, xv_1, xv_2, xv_3, xm_p1, xm_p2, xq_fp, xq_fn, List.filter_nil, Nat.reduceBEq, Bool.not_true, Bool.not_false, Bool.and_true, Bool.and_false, Bool.false_and, Bool.true_and, if_true, if_false, Bool.false_eq_true, reduceIte, xc_i, xc_j, xc_r, xc_n, List.nil_append, List.cons_append, Option.toList_some, Option.toList_none, nI_ltJ, nI_leJ, nI_eqJ, nI_ltz, nI_gez, nI_gtz, nI_lez, nI_eqz, m1_ltz, m1_gez, true_imp_iff, false_imp_iff, true_and, and_true, ne_eq, not_false_eq_true, not_true_eq_false, Nat.reduceEqDiff, Nat.reduceLT, Nat.reduceLeDiff, a2]
              with_reducible refine xm_go_blk b_X12_nextWord_130 k_X12_nextWord_130 ?_
              refine by_iload_n rfl ?_
              refine by_bipush cb_40 ?_
              refine by_ic_ne 140 rfl ?_
              simp (disch := first | exact Nat.ne_of_beq_eq_false rfl | exact rfl | omega) only [nI_add, xa_sub, xa_mul, pk_div, nm_mod, xa_shr, xa_and7, xa_and1, xa_and255, xa_by_and, nI_m1, Nat.add_sub_cancel, Nat.reducePow, Nat.zero_add, Nat.add_zero, Nat.reduceAdd, Nat.reduceMul, Nat.reduceSub, xf_same, xq_ff, xq_fo, xf_1, xf_2, xs_1, xs_2, xs_same, xq_so, xj_1, xj_2, xj_same, xq_jo, xq_sa1, xq_same, xq_other, upd_s, oI_n, oI_s, xv_0, xv_1, xv_2, xv_3, xm_p1, xm_p2, xq_fp, xq_fn, List.filter_nil, Nat.reduceBEq, Bool.not_true, Bool.not_false, Bool.and_true, Bool.and_false, Bool.false_and, Bool.true_and, if_true, if_false, Bool.false_eq_true, reduceIte, xc_i, xc_j, xc_r, xc_n, List.nil_append, List.cons_append, Option.toList_some, Option.toList_none, nI_ltJ, nI_leJ, nI_eqJ, nI_ltz, nI_gez, nI_gtz, nI_lez, nI_eqz, m1_ltz, m1_gez, true_imp_iff, false_imp_iff, true_and, and_true, ne_eq, not_false_eq_true, not_true_eq_false, Nat.reduceEqDiff, Nat.reduceLT, Nat.reduceLeDiff, a2]
              with_reducible refine xm_go_blk b_X12_nextWord_140 k_X12_nextWord_140 ?_
              refine by_iload_n rfl ?_
              refine by_bipush cb_41 ?_
              refine by_ic_ne 150 rfl ?_
              simp (disch := first | exact Nat.ne_of_beq_eq_false rfl | exact rfl | omega) only [nI_add, xa_sub, xa_mul, pk_div, nm_mod, xa_shr, xa_and7, xa_and1, xa_and255, xa_by_and, nI_m1, Nat.add_sub_cancel, Nat.reducePow, Nat.zero_add, Nat.add_zero, Nat.reduceAdd, Nat.reduceMul, Nat.reduceSub, xf_same, xq_ff, xq_fo, xf_1, xf_2, xs_1, xs_2, xs_same, xq_so, xj_1, xj_2, xj_same, xq_jo, xq_sa1, xq_same, xq_other, upd_s, oI_n, oI_s, xv_0, xv_1, xv_2, xv_3, xm_p1, xm_p2, xq_fp, xq_fn, List.filter_nil, Nat.reduceBEq, Bool.not_true, Bool.not_false, Bool.and_true, Bool.and_false, Bool.false_and, Bool.true_and, if_true, if_false, Bool.false_eq_true, reduceIte, xc_i, xc_j, xc_r, xc_n, List.nil_append, List.cons_append, Option.toList_some, Option.toList_none, nI_ltJ, nI_leJ, nI_eqJ, nI_ltz, nI_gez, nI_gtz, nI_lez, nI_eqz, m1_ltz, m1_gez, true_imp_iff, false_imp_iff, true_and, and_true, ne_eq, not_false_eq_true, not_true_eq_false, Nat.reduceEqDiff, Nat.reduceLT, Nat.reduceLeDiff, a2]
              with_reducible refine xm_go_blk b_X12_nextWord_146 k_X12_nextWord_146 ?_
              refine by_iconst ci_3 ?_
              refine by_goto 151 rfl ?_
              with_reducible refine xm_go_blk b_X12_nextWord_151 k_X12_nextWord_151 ?_
              refine by_putf cn_267 fl_12_601 (by first | exact rfl | assumption) (by decide) nf_12_83 ft_12_83 (by first | rfl | assumption) (by first | rfl | assumption) ?_
              refine by_nil ?_
              with_reducible refine xm_go_blk b_X12_nextWord_154 k_X12_nextWord_154 ?_
              refine by_aload_n rfl ?_
              refine by_getf cn_267 fl_12_601 (by first | exact rfl | assumption) (by decide) ?_
              refine by_iconst ci_4 ?_
              simp (disch := first | exact Nat.ne_of_beq_eq_false rfl | exact rfl | omega) only [nI_add, xa_sub, xa_mul, pk_div, nm_mod, xa_shr, xa_and7, xa_and1, xa_and255, xa_by_and, nI_m1, Nat.add_sub_cancel, Nat.reducePow, Nat.zero_add, Nat.add_zero, Nat.reduceAdd, Nat.reduceMul, Nat.reduceSub, xf_same, xq_ff, xq_fo, xf_1, xf_2, xs_1, xs_2, xs_same, xq_so, xj_1, xj_2, xj_same, xq_jo, xq_sa1, xq_same, xq_other, upd_s, oI_n, oI_s, a2]
              refine by_ic_ne 201 rfl ?_
              simp (disch := first | exact Nat.ne_of_beq_eq_false rfl | exact rfl | omega) only [nI_add, xa_sub, xa_mul, pk_div, nm_mod, xa_shr, xa_and7, xa_and1, xa_and255, xa_by_and, nI_m1, Nat.add_sub_cancel, Nat.reducePow, Nat.zero_add, Nat.add_zero, Nat.reduceAdd, Nat.reduceMul, Nat.reduceSub, xf_same, xq_ff, xq_fo, xf_1, xf_2, xs_1, xs_2, xs_same, xq_so, xj_1, xj_2, xj_same, xq_jo, xq_sa1, xq_same, xq_other, upd_s, oI_n, oI_s, xv_0, xv_1, xv_2, xv_3, xm_p1, xm_p2, xq_fp, xq_fn, List.filter_nil, Nat.reduceBEq, Bool.not_true, Bool.not_false, Bool.and_true, Bool.and_false, Bool.false_and, Bool.true_and, if_true, if_false, Bool.false_eq_true, reduceIte, xc_i, xc_j, xc_r, xc_n, List.nil_append, List.cons_append, Option.toList_some, Option.toList_none, nI_ltJ, nI_leJ, nI_eqJ, nI_ltz, nI_gez, nI_gtz, nI_lez, nI_eqz, m1_ltz, m1_gez, true_imp_iff, false_imp_iff, true_and, and_true, ne_eq, not_false_eq_true, not_true_eq_false, Nat.reduceEqDiff, Nat.reduceLT, Nat.reduceLeDiff, a2]
              with_reducible refine xm_go_blk b_X12_nextWord_201 k_X12_nextWord_201 ?_
              refine by_ret ry_267 ?_
              exact endk 4 _ this.1 (by decide) (by decide) (by rw [this.2, hq]) rfl
            · have := tk_5 (t := t) (p := p) (by omega) (by rw [← hq]; omega)
              with_reducible refine xm_go_blk b_X12_nextWord_95 k_X12_nextWord_95 ?_
              refine by_if_ne 109 rfl ?_
              simp (disch := first | exact Nat.ne_of_beq_eq_false rfl | exact rfl | omega) only [nI_add, xa_sub, xa_mul, pk_div, nm_mod, xa_shr, xa_and7, xa_and1, xa_and255, xa_by_and, nI_m1, Nat.add_sub_cancel, Nat.reducePow, Nat.zero_add, Nat.add_zero, Nat.reduceAdd, Nat.reduceMul, Nat.reduceSub, xf_same, xq_ff, xq_fo, xf_1, xf_2, xs_1, xs_2, xs_same, xq_so, xj_1, xj_2, xj_same, xq_jo, xq_sa1, xq_same, xq_other, upd_s, oI_n, oI_s, xv_0, xv_1, xv_2, xv_3, xm_p1, xm_p2, xq_fp, xq_fn, List.filter_nil, Nat.reduceBEq, Bool.not_true, Bool.not_false, Bool.and_true, Bool.and_false, Bool.false_and, Bool.true_and, if_true, if_false, Bool.false_eq_true, reduceIte, xc_i, xc_j, xc_r, xc_n, List.nil_append, List.cons_append, Option.toList_some, Option.toList_none, nI_ltJ, nI_leJ, nI_eqJ, nI_ltz, nI_gez, nI_gtz, nI_lez, nI_eqz, m1_ltz, m1_gez, true_imp_iff, false_imp_iff, true_and, and_true, ne_eq, not_false_eq_true, not_true_eq_false, Nat.reduceEqDiff, Nat.reduceLT, Nat.reduceLeDiff, a2]
              with_reducible refine xm_go_blk b_X12_nextWord_109 k_X12_nextWord_109 ?_
              refine by_aload_n rfl ?_
              refine by_dup rfl ?_
              refine by_getf cn_267 fl_12_595 (by first | exact rfl | assumption) (by decide) ?_
              refine by_iconst ci_1 ?_
              simp (disch := first | exact Nat.ne_of_beq_eq_false rfl | exact rfl | omega) only [nI_add, xa_sub, xa_mul, pk_div, nm_mod, xa_shr, xa_and7, xa_and1, xa_and255, xa_by_and, nI_m1, Nat.add_sub_cancel, Nat.reducePow, Nat.zero_add, Nat.add_zero, Nat.reduceAdd, Nat.reduceMul, Nat.reduceSub, xf_same, xq_ff, xq_fo, xf_1, xf_2, xs_1, xs_2, xs_same, xq_so, xj_1, xj_2, xj_same, xq_jo, xq_sa1, xq_same, xq_other, upd_s, oI_n, oI_s, a2]
              refine by_iadd ?_
              refine by_putf cn_267 fl_12_595 (by first | exact rfl | assumption) (by decide) nf_12_82 ft_12_82 (by first | rfl | assumption) (by first | rfl | assumption) ?_
              refine by_aload_n rfl ?_
              refine by_iload_n rfl ?_
              refine by_bipush cb_61 ?_
              refine by_ic_ne 130 rfl ?_
              simp (disch := first | exact Nat.ne_of_beq_eq_false rfl | exact rfl | omega) only [nI_add, xa_sub, xa_mul, pk_div, nm_mod, xa_shr, xa_and7, xa_and1, xa_and255, xa_by_and, nI_m1, Nat.add_sub_cancel, Nat.reducePow, Nat.zero_add, Nat.add_zero, Nat.reduceAdd, Nat.reduceMul, Nat.reduceSub, xf_same, xq_ff, xq_fo, xf_1, xf_2, xs_1, xs_2, xs_same, xq_so, xj_1, xj_2, xj_same, xq_jo, xq_sa1, xq_same, xq_other, upd_s, oI_n, oI_s, xv_0, xv_1, xv_2, xv_3, xm_p1, xm_p2, xq_fp, xq_fn, List.filter_nil, Nat.reduceBEq, Bool.not_true, Bool.not_false, Bool.and_true, Bool.and_false, Bool.false_and, Bool.true_and, if_true, if_false, Bool.false_eq_true, reduceIte, xc_i, xc_j, xc_r, xc_n, List.nil_append, List.cons_append, Option.toList_some, Option.toList_none, nI_ltJ, nI_leJ, nI_eqJ, nI_ltz, nI_gez, nI_gtz, nI_lez, nI_eqz, m1_ltz, m1_gez, true_imp_iff, false_imp_iff, true_and, and_true, ne_eq, not_false_eq_true, not_true_eq_false, Nat.reduceEqDiff, Nat.reduceLT, Nat.reduceLeDiff, a2]
              refine ⟨fun c109 => ?_, fun c => absurd (by omega) c⟩
              with_reducible refine xm_go_blk b_X12_nextWord_130 k_X12_nextWord_130 ?_
              refine by_iload_n rfl ?_
              refine by_bipush cb_40 ?_
              refine by_ic_ne 140 rfl ?_
              simp (disch := first | exact Nat.ne_of_beq_eq_false rfl | exact rfl | omega) only [nI_add, xa_sub, xa_mul, pk_div, nm_mod, xa_shr, xa_and7, xa_and1, xa_and255, xa_by_and, nI_m1, Nat.add_sub_cancel, Nat.reducePow, Nat.zero_add, Nat.add_zero, Nat.reduceAdd, Nat.reduceMul, Nat.reduceSub, xf_same, xq_ff, xq_fo, xf_1, xf_2, xs_1, xs_2, xs_same, xq_so, xj_1, xj_2, xj_same, xq_jo, xq_sa1, xq_same, xq_other, upd_s, oI_n, oI_s, xv_0, xv_1, xv_2, xv_3, xm_p1, xm_p2, xq_fp, xq_fn, List.filter_nil, Nat.reduceBEq, Bool.not_true, Bool.not_false, Bool.and_true, Bool.and_false, Bool.false_and, Bool.true_and, if_true, if_false, Bool.false_eq_true, reduceIte, xc_i, xc_j, xc_r, xc_n, List.nil_append, List.cons_append, Option.toList_some, Option.toList_none, nI_ltJ, nI_leJ, nI_eqJ, nI_ltz, nI_gez, nI_gtz, nI_lez, nI_eqz, m1_ltz, m1_gez, true_imp_iff, false_imp_iff, true_and, and_true, ne_eq, not_false_eq_true, not_true_eq_false, Nat.reduceEqDiff, Nat.reduceLT, Nat.reduceLeDiff, a2]
              refine ⟨fun c130 => ?_, fun c => absurd (by omega) c⟩
              with_reducible refine xm_go_blk b_X12_nextWord_140 k_X12_nextWord_140 ?_
              refine by_iload_n rfl ?_
              refine by_bipush cb_41 ?_
              refine by_ic_ne 150 rfl ?_
              simp (disch := first | exact Nat.ne_of_beq_eq_false rfl | exact rfl | omega) only [nI_add, xa_sub, xa_mul, pk_div, nm_mod, xa_shr, xa_and7, xa_and1, xa_and255, xa_by_and, nI_m1, Nat.add_sub_cancel, Nat.reducePow, Nat.zero_add, Nat.add_zero, Nat.reduceAdd, Nat.reduceMul, Nat.reduceSub, xf_same, xq_ff, xq_fo, xf_1, xf_2, xs_1, xs_2, xs_same, xq_so, xj_1, xj_2, xj_same, xq_jo, xq_sa1, xq_same, xq_other, upd_s, oI_n, oI_s, xv_0, xv_1, xv_2, xv_3, xm_p1, xm_p2, xq_fp, xq_fn, List.filter_nil, Nat.reduceBEq, Bool.not_true, Bool.not_false, Bool.and_true, Bool.and_false, Bool.false_and, Bool.true_and, if_true, if_false, Bool.false_eq_true, reduceIte, xc_i, xc_j, xc_r, xc_n, List.nil_append, List.cons_append, Option.toList_some, Option.toList_none, nI_ltJ, nI_leJ, nI_eqJ, nI_ltz, nI_gez, nI_gtz, nI_lez, nI_eqz, m1_ltz, m1_gez, true_imp_iff, false_imp_iff, true_and, and_true, ne_eq, not_false_eq_true, not_true_eq_false, Nat.reduceEqDiff, Nat.reduceLT, Nat.reduceLeDiff, a2]
              refine ⟨fun c140 => ?_, fun c => absurd (by omega) c⟩
              with_reducible refine xm_go_blk b_X12_nextWord_150 k_X12_nextWord_150 ?_
              refine by_iconst ci_4 ?_
              refine by_nil ?_
              with_reducible refine xm_go_blk b_X12_nextWord_151 k_X12_nextWord_151 ?_
              refine by_putf cn_267 fl_12_601 (by first | exact rfl | assumption) (by decide) nf_12_83 ft_12_83 (by first | rfl | assumption) (by first | rfl | assumption) ?_
              refine by_nil ?_
              refine xm_go_wk (by simp [Value.category]) (key2 (t.length - (q + 1)) (q + 1) _ (by omega) (by rw [this.2, hq]) this.1 (Fr_sf (Fr_sf f2 (by simp)) (by simp)) (by simp [xm_sf, updV]) (by rw [← hq]; simp [xm_sf, updV]) (by simp [xm_sf, updV]))
      · rw [if_neg c1]
        have := tk_1 (t := t) (p := p) (by omega) (by rw [← hq]; omega) (by rw [← hq]; omega) (by rw [← hq]; omega) (by rw [← hq]; omega)
        with_reducible refine xm_go_blk b_X12_nextWord_95 k_X12_nextWord_95 ?_
        refine by_if_ne 109 rfl ?_
        simp (disch := first | exact Nat.ne_of_beq_eq_false rfl | exact rfl | omega) only [nI_add, xa_sub, xa_mul, pk_div, nm_mod, xa_shr, xa_and7, xa_and1, xa_and255, xa_by_and, nI_m1, Nat.add_sub_cancel, Nat.reducePow, Nat.zero_add, Nat.add_zero, Nat.reduceAdd, Nat.reduceMul, Nat.reduceSub, xf_same, xq_ff, xq_fo, xf_1, xf_2, xs_1, xs_2, xs_same, xq_so, xj_1, xj_2, xj_same, xq_jo, xq_sa1, xq_same, xq_other, upd_s, oI_n, oI_s, xv_0, xv_1, xv_2, xv_3, xm_p1, xm_p2, xq_fp, xq_fn, List.filter_nil, Nat.reduceBEq, Bool.not_true, Bool.not_false, Bool.and_true, Bool.and_false, Bool.false_and, Bool.true_and, if_true, if_false, Bool.false_eq_true, reduceIte, xc_i, xc_j, xc_r, xc_n, List.nil_append, List.cons_append, Option.toList_some, Option.toList_none, nI_ltJ, nI_leJ, nI_eqJ, nI_ltz, nI_gez, nI_gtz, nI_lez, nI_eqz, m1_ltz, m1_gez, true_imp_iff, false_imp_iff, true_and, and_true, ne_eq, not_false_eq_true, not_true_eq_false, Nat.reduceEqDiff, Nat.reduceLT, Nat.reduceLeDiff, a2]
        with_reducible refine xm_go_blk b_X12_nextWord_98 k_X12_nextWord_98 ?_
        refine by_aload_n rfl ?_
        refine by_iconst ci_1 ?_
        refine by_aload_n rfl ?_
        refine by_getf cn_267 fl_12_595 (by first | exact rfl | assumption) (by decide) ?_
        simp (disch := first | exact Nat.ne_of_beq_eq_false rfl | exact rfl | omega) only [nI_add, xa_sub, xa_mul, pk_div, nm_mod, xa_shr, xa_and7, xa_and1, xa_and255, xa_by_and, nI_m1, Nat.add_sub_cancel, Nat.reducePow, Nat.zero_add, Nat.add_zero, Nat.reduceAdd, Nat.reduceMul, Nat.reduceSub, xf_same, xq_ff, xq_fo, xf_1, xf_2, xs_1, xs_2, xs_same, xq_so, xj_1, xj_2, xj_same, xq_jo, xq_sa1, xq_same, xq_other, upd_s, oI_n, oI_s, xv_0, xv_1, xv_2, xv_3, xm_p1, xm_p2, xq_fp, xq_fn, List.filter_nil, Nat.reduceBEq, Bool.not_true, Bool.not_false, Bool.and_true, Bool.and_false, Bool.false_and, Bool.true_and, if_true, if_false, Bool.false_eq_true, reduceIte, xc_i, xc_j, xc_r, xc_n, List.nil_append, List.cons_append, Option.toList_some, Option.toList_none, a2]
        refine by_inv2 cn_267 lk_12_604 (by rw [xe_cnt]; decide) is_328 np_328 cn_328 (by first | exact rfl | assumption) (Nat.le_of_ble_eq_true rfl) ?_
        refine sp_mwrong (by simpa [xm_sf, updV] using b3) ?_
        with_reducible refine xm_go_blk b_X12_nextWord_107 k_X12_nextWord_107 ?_
        refine by_istore_n (by rw [ml_267]; decide) ?_
        refine by_ret ry_267 ?_
        exact hS _ this.1 (Fr_sf (Fr_sf (Fr_mo f2 (by simp) (by simp)) (by simp)) (by simp)) (by simp [xm_sf, updV]) (by rw [← hq]; simp [xm_sf, updV]) (by simp [xm_sf, updV])
    · have := tk_0 (t := t) (p := p) (by omega)
      have hqe : q = t.length := by omega
      with_reducible refine xm_go_blk b_X12_nextWord_52 k_X12_nextWord_52 ?_
      refine by_aload_n rfl ?_
      refine by_aload_n rfl ?_
      refine by_getf cn_267 fl_12_595 (by first | exact rfl | assumption) (by decide) ?_
      simp (disch := first | exact Nat.ne_of_beq_eq_false rfl | exact rfl | omega) only [nI_add, xa_sub, xa_mul, pk_div, nm_mod, xa_shr, xa_and7, xa_and1, xa_and255, xa_by_and, nI_m1, Nat.add_sub_cancel, Nat.reducePow, Nat.zero_add, Nat.add_zero, Nat.reduceAdd, Nat.reduceMul, Nat.reduceSub, xf_same, xq_ff, xq_fo, xf_1, xf_2, xs_1, xs_2, xs_same, xq_so, xj_1, xj_2, xj_same, xq_jo, xq_sa1, xq_same, xq_other, upd_s, oI_n, oI_s, a2, b1.1]
      refine by_putf cn_267 fl_12_598 (by first | exact rfl | assumption) (by decide) nf_12_84 ft_12_84 (by first | rfl | assumption) (by first | rfl | assumption) ?_
      refine by_aload_n rfl ?_
      refine by_iconst ci_0 ?_
      refine by_putf cn_267 fl_12_601 (by first | exact rfl | assumption) (by decide) nf_12_83 ft_12_83 (by first | rfl | assumption) (by first | rfl | assumption) ?_
      refine by_aload_n rfl ?_
      refine by_getf cn_267 fl_12_595 (by first | exact rfl | assumption) (by decide) ?_
      refine by_aload_n rfl ?_
      refine by_getf cn_267 fl_12_215 (by first | exact rfl | assumption) (by decide) ?_
      simp (disch := first | exact Nat.ne_of_beq_eq_false rfl | exact rfl | omega) only [nI_add, xa_sub, xa_mul, pk_div, nm_mod, xa_shr, xa_and7, xa_and1, xa_and255, xa_by_and, nI_m1, Nat.add_sub_cancel, Nat.reducePow, Nat.zero_add, Nat.add_zero, Nat.reduceAdd, Nat.reduceMul, Nat.reduceSub, xf_same, xq_ff, xq_fo, xf_1, xf_2, xs_1, xs_2, xs_same, xq_so, xj_1, xj_2, xj_same, xq_jo, xq_sa1, xq_same, xq_other, upd_s, oI_n, oI_s, a2, b1.1]
      refine by_ic_ne 77 rfl ?_
      simp (disch := first | exact Nat.ne_of_beq_eq_false rfl | exact rfl | omega) only [nI_add, xa_sub, xa_mul, pk_div, nm_mod, xa_shr, xa_and7, xa_and1, xa_and255, xa_by_and, nI_m1, Nat.add_sub_cancel, Nat.reducePow, Nat.zero_add, Nat.add_zero, Nat.reduceAdd, Nat.reduceMul, Nat.reduceSub, xf_same, xq_ff, xq_fo, xf_1, xf_2, xs_1, xs_2, xs_same, xq_so, xj_1, xj_2, xj_same, xq_jo, xq_sa1, xq_same, xq_other, upd_s, oI_n, oI_s, xv_0, xv_1, xv_2, xv_3, xm_p1, xm_p2, xq_fp, xq_fn, List.filter_nil, Nat.reduceBEq, Bool.not_true, Bool.not_false, Bool.and_true, Bool.and_false, Bool.false_and, Bool.true_and, if_true, if_false, Bool.false_eq_true, reduceIte, xc_i, xc_j, xc_r, xc_n, List.nil_append, List.cons_append, Option.toList_some, Option.toList_none, nI_ltJ, nI_leJ, nI_eqJ, nI_ltz, nI_gez, nI_gtz, nI_lez, nI_eqz, m1_ltz, m1_gez, true_imp_iff, false_imp_iff, true_and, and_true, ne_eq, not_false_eq_true, not_true_eq_false, Nat.reduceEqDiff, Nat.reduceLT, Nat.reduceLeDiff, a2, b1.1]
      refine ⟨fun c => absurd c (by omega), fun c52 => ?_⟩
      with_reducible refine xm_go_blk b_X12_nextWord_76 k_X12_nextWord_76 ?_
      refine by_ret ry_267 ?_
      exact hK _ (by rw [this.1]; decide) (Fr_sf (Fr_sf f1 (by simp)) (by simp)) ⟨by rw [this.2, ← hq]; simpa [xm_sf, updV] using a2, by rw [← hq]; simp [xm_sf, updV], by rw [this.1]; simp [xm_sf, updV, mkk]⟩
  have key1 : ∀ (y q : Nat) (h1 : xm_H), q + y = t.length → tkF t q = tkF t p → Fr [] smwT h h1 → h1.2.2 102 82 = .int (nI q) → xm_go (XE sc) (xm_T (XE sc) (d + 2)) 267 post 0 [(0, .ref 102)] [] h1 := by
    intro y
    induction y with
    | zero =>
      intro q h1 hq hk f1 a2
      obtain ⟨b1, b2, b3⟩ := kp h1 f1
      rw [tkF_e (by omega)] at hk
      with_reducible refine xm_go_blk b_X12_nextWord_0 k_X12_nextWord_0 ?_
      refine by_aload_n rfl ?_
      refine by_getf cn_267 fl_12_595 (by first | exact rfl | assumption) (by decide) ?_
      refine by_aload_n rfl ?_
      refine by_getf cn_267 fl_12_215 (by first | exact rfl | assumption) (by decide) ?_
      simp (disch := first | exact Nat.ne_of_beq_eq_false rfl | exact rfl | omega) only [nI_add, xa_sub, xa_mul, pk_div, nm_mod, xa_shr, xa_and7, xa_and1, xa_and255, xa_by_and, nI_m1, Nat.add_sub_cancel, Nat.reducePow, Nat.zero_add, Nat.add_zero, Nat.reduceAdd, Nat.reduceMul, Nat.reduceSub, xf_same, xq_ff, xq_fo, xf_1, xf_2, xs_1, xs_2, xs_same, xq_so, xj_1, xj_2, xj_same, xq_jo, xq_sa1, xq_same, xq_other, upd_s, oI_n, oI_s, a2, b1.1]
      refine by_ic_ge 52 rfl ?_
      simp (disch := first | exact Nat.ne_of_beq_eq_false rfl | exact rfl | omega) only [nI_add, xa_sub, xa_mul, pk_div, nm_mod, xa_shr, xa_and7, xa_and1, xa_and255, xa_by_and, nI_m1, Nat.add_sub_cancel, Nat.reducePow, Nat.zero_add, Nat.add_zero, Nat.reduceAdd, Nat.reduceMul, Nat.reduceSub, xf_same, xq_ff, xq_fo, xf_1, xf_2, xs_1, xs_2, xs_same, xq_so, xj_1, xj_2, xj_same, xq_jo, xq_sa1, xq_same, xq_other, upd_s, oI_n, oI_s, xv_0, xv_1, xv_2, xv_3, xm_p1, xm_p2, xq_fp, xq_fn, List.filter_nil, Nat.reduceBEq, Bool.not_true, Bool.not_false, Bool.and_true, Bool.and_false, Bool.false_and, Bool.true_and, if_true, if_false, Bool.false_eq_true, reduceIte, xc_i, xc_j, xc_r, xc_n, List.nil_append, List.cons_append, Option.toList_some, Option.toList_none, nI_ltJ, nI_leJ, nI_eqJ, nI_ltz, nI_gez, nI_gtz, nI_lez, nI_eqz, m1_ltz, m1_gez, true_imp_iff, false_imp_iff, true_and, and_true, ne_eq, not_false_eq_true, not_true_eq_false, Nat.reduceEqDiff, Nat.reduceLT, Nat.reduceLeDiff, a2, b1.1]
      refine ⟨fun c0 => ?_, fun c => absurd (by omega) c⟩
      exact k52 q h1 hk (by omega) f1 a2
    | succ y ih =>
      intro q h1 hq hk f1 a2
      obtain ⟨b1, b2, b3⟩ := kp h1 f1
      have hb := hby q
      have er := b1.2.1 q (by omega)
      have nx : sB (t.getD q 0) → xm_go (XE sc) (xm_T (XE sc) (d + 2)) 267 post 39 [(0, .ref 102)] [] h1 := fun hz => by
        rw [tkF_s (by omega) hz] at hk
        with_reducible refine xm_go_blk b_X12_nextWord_39 k_X12_nextWord_39 ?_
        refine by_aload_n rfl ?_
        refine by_dup rfl ?_
        refine by_getf cn_267 fl_12_595 (by first | exact rfl | assumption) (by decide) ?_
        refine by_iconst ci_1 ?_
        simp (disch := first | exact Nat.ne_of_beq_eq_false rfl | exact rfl | omega) only [nI_add, xa_sub, xa_mul, pk_div, nm_mod, xa_shr, xa_and7, xa_and1, xa_and255, xa_by_and, nI_m1, Nat.add_sub_cancel, Nat.reducePow, Nat.zero_add, Nat.add_zero, Nat.reduceAdd, Nat.reduceMul, Nat.reduceSub, xf_same, xq_ff, xq_fo, xf_1, xf_2, xs_1, xs_2, xs_same, xq_so, xj_1, xj_2, xj_same, xq_jo, xq_sa1, xq_same, xq_other, upd_s, oI_n, oI_s, a2]
        refine by_iadd ?_
        refine by_putf cn_267 fl_12_595 (by first | exact rfl | assumption) (by decide) nf_12_82 ft_12_82 (by first | rfl | assumption) (by first | rfl | assumption) ?_
        refine by_goto 0 rfl ?_
        try simp (disch := first | exact Nat.ne_of_beq_eq_false rfl | exact rfl | omega) only [nI_add, xa_sub, xa_mul, pk_div, nm_mod, xa_shr, xa_and7, xa_and1, xa_and255, xa_by_and, nI_m1, Nat.add_sub_cancel, Nat.reducePow, Nat.zero_add, Nat.add_zero, Nat.reduceAdd, Nat.reduceMul, Nat.reduceSub, xf_same, xq_ff, xq_fo, xf_1, xf_2, xs_1, xs_2, xs_same, xq_so, xj_1, xj_2, xj_same, xq_jo, xq_sa1, xq_same, xq_other, upd_s, oI_n, oI_s, xv_0, xv_1, xv_2, xv_3, xm_p1, xm_p2, xq_fp, xq_fn, List.filter_nil, Nat.reduceBEq, Bool.not_true, Bool.not_false, Bool.and_true, Bool.and_false, Bool.false_and, Bool.true_and, if_true, if_false, Bool.false_eq_true, reduceIte, xc_i, xc_j, xc_r, xc_n, List.nil_append, List.cons_append, Option.toList_some, Option.toList_none, a2]
        exact ih (q + 1) _ (by omega) hk (Fr_sf f1 (by simp)) (by simp [xm_sf, updV])
      by_cases e10 : t.getD q 0 = 10
      · rw [e10] at er
        with_reducible refine xm_go_blk b_X12_nextWord_0 k_X12_nextWord_0 ?_
        refine by_aload_n rfl ?_
        refine by_getf cn_267 fl_12_595 (by first | exact rfl | assumption) (by decide) ?_
        refine by_aload_n rfl ?_
        refine by_getf cn_267 fl_12_215 (by first | exact rfl | assumption) (by decide) ?_
        simp (disch := first | exact Nat.ne_of_beq_eq_false rfl | exact rfl | omega) only [nI_add, xa_sub, xa_mul, pk_div, nm_mod, xa_shr, xa_and7, xa_and1, xa_and255, xa_by_and, nI_m1, Nat.add_sub_cancel, Nat.reducePow, Nat.zero_add, Nat.add_zero, Nat.reduceAdd, Nat.reduceMul, Nat.reduceSub, xf_same, xq_ff, xq_fo, xf_1, xf_2, xs_1, xs_2, xs_same, xq_so, xj_1, xj_2, xj_same, xq_jo, xq_sa1, xq_same, xq_other, upd_s, oI_n, oI_s, a2, b1.1, xf_102_1 b2, er]
        refine by_ic_ge 52 rfl ?_
        simp (disch := first | exact Nat.ne_of_beq_eq_false rfl | exact rfl | omega) only [nI_add, xa_sub, xa_mul, pk_div, nm_mod, xa_shr, xa_and7, xa_and1, xa_and255, xa_by_and, nI_m1, Nat.add_sub_cancel, Nat.reducePow, Nat.zero_add, Nat.add_zero, Nat.reduceAdd, Nat.reduceMul, Nat.reduceSub, xf_same, xq_ff, xq_fo, xf_1, xf_2, xs_1, xs_2, xs_same, xq_so, xj_1, xj_2, xj_same, xq_jo, xq_sa1, xq_same, xq_other, upd_s, oI_n, oI_s, xv_0, xv_1, xv_2, xv_3, xm_p1, xm_p2, xq_fp, xq_fn, List.filter_nil, Nat.reduceBEq, Bool.not_true, Bool.not_false, Bool.and_true, Bool.and_false, Bool.false_and, Bool.true_and, if_true, if_false, Bool.false_eq_true, reduceIte, xc_i, xc_j, xc_r, xc_n, List.nil_append, List.cons_append, Option.toList_some, Option.toList_none, nI_ltJ, nI_leJ, nI_eqJ, nI_ltz, nI_gez, nI_gtz, nI_lez, nI_eqz, m1_ltz, m1_gez, true_imp_iff, false_imp_iff, true_and, and_true, ne_eq, not_false_eq_true, not_true_eq_false, Nat.reduceEqDiff, Nat.reduceLT, Nat.reduceLeDiff, a2, b1.1, xf_102_1 b2, er]
        refine ⟨fun c => absurd c (by omega), fun c0 => ?_⟩
        with_reducible refine xm_go_blk b_X12_nextWord_11 k_X12_nextWord_11 ?_
        refine by_aload_n rfl ?_
        refine by_getf cn_267 fl_12_7 (by first | exact rfl | assumption) (by decide) ?_
        refine by_aload_n rfl ?_
        refine by_getf cn_267 fl_12_595 (by first | exact rfl | assumption) (by decide) ?_
        simp (disch := first | exact Nat.ne_of_beq_eq_false rfl | exact rfl | omega) only [nI_add, xa_sub, xa_mul, pk_div, nm_mod, xa_shr, xa_and7, xa_and1, xa_and255, xa_by_and, nI_m1, Nat.add_sub_cancel, Nat.reducePow, Nat.zero_add, Nat.add_zero, Nat.reduceAdd, Nat.reduceMul, Nat.reduceSub, xf_same, xq_ff, xq_fo, xf_1, xf_2, xs_1, xs_2, xs_same, xq_so, xj_1, xj_2, xj_same, xq_jo, xq_sa1, xq_same, xq_other, upd_s, oI_n, oI_s, a2, b1.1, xf_102_1 b2, er]
        first | refine by_iald (by first | exact rfl | assumption | exact ps_1 hpp | exact ps_2 hpp | exact ps_3 hpp | exact ps_4 hpp | exact ps_5 hpp | exact ps_6 hpp | exact ps_7 hpp | exact ps_8 hpp | exact ps_9 hpp | exact ps_10 hpp | exact ps_11 hpp | exact ps_15 hpp | exact ps_16 hpp | exact ps_17 hpp | exact ps_18 hpp | exact ps_19 hpp | exact ps_21 hpp | exact ps_22 hpp | exact ps_23 hpp | exact ps_24 hpp) ⟨by omega, by omega⟩ ?_ | refine by_tald rfl rfl ⟨by omega, by omega⟩ ?_
        refine by_bipush cb_10 ?_
        refine by_ic_eq 39 rfl ?_
        simp (disch := first | exact Nat.ne_of_beq_eq_false rfl | exact rfl | omega) only [nI_add, xa_sub, xa_mul, pk_div, nm_mod, xa_shr, xa_and7, xa_and1, xa_and255, xa_by_and, nI_m1, Nat.add_sub_cancel, Nat.reducePow, Nat.zero_add, Nat.add_zero, Nat.reduceAdd, Nat.reduceMul, Nat.reduceSub, xf_same, xq_ff, xq_fo, xf_1, xf_2, xs_1, xs_2, xs_same, xq_so, xj_1, xj_2, xj_same, xq_jo, xq_sa1, xq_same, xq_other, upd_s, oI_n, oI_s, xv_0, xv_1, xv_2, xv_3, xm_p1, xm_p2, xq_fp, xq_fn, List.filter_nil, Nat.reduceBEq, Bool.not_true, Bool.not_false, Bool.and_true, Bool.and_false, Bool.false_and, Bool.true_and, if_true, if_false, Bool.false_eq_true, reduceIte, xc_i, xc_j, xc_r, xc_n, List.nil_append, List.cons_append, Option.toList_some, Option.toList_none, nI_ltJ, nI_leJ, nI_eqJ, nI_ltz, nI_gez, nI_gtz, nI_lez, nI_eqz, m1_ltz, m1_gez, true_imp_iff, false_imp_iff, true_and, and_true, ne_eq, not_false_eq_true, not_true_eq_false, Nat.reduceEqDiff, Nat.reduceLT, Nat.reduceLeDiff, a2, b1.1, xf_102_1 b2, er]
        exact nx (Or.inl e10)
      · by_cases e32 : t.getD q 0 = 32
        · rw [e32] at er
          with_reducible refine xm_go_blk b_X12_nextWord_0 k_X12_nextWord_0 ?_
          refine by_aload_n rfl ?_
          refine by_getf cn_267 fl_12_595 (by first | exact rfl | assumption) (by decide) ?_
          refine by_aload_n rfl ?_
          refine by_getf cn_267 fl_12_215 (by first | exact rfl | assumption) (by decide) ?_
          simp (disch := first | exact Nat.ne_of_beq_eq_false rfl | exact rfl | omega) only [nI_add, xa_sub, xa_mul, pk_div, nm_mod, xa_shr, xa_and7, xa_and1, xa_and255, xa_by_and, nI_m1, Nat.add_sub_cancel, Nat.reducePow, Nat.zero_add, Nat.add_zero, Nat.reduceAdd, Nat.reduceMul, Nat.reduceSub, xf_same, xq_ff, xq_fo, xf_1, xf_2, xs_1, xs_2, xs_same, xq_so, xj_1, xj_2, xj_same, xq_jo, xq_sa1, xq_same, xq_other, upd_s, oI_n, oI_s, a2, b1.1, xf_102_1 b2, er]
          refine by_ic_ge 52 rfl ?_
          simp (disch := first | exact Nat.ne_of_beq_eq_false rfl | exact rfl | omega) only [nI_add, xa_sub, xa_mul, pk_div, nm_mod, xa_shr, xa_and7, xa_and1, xa_and255, xa_by_and, nI_m1, Nat.add_sub_cancel, Nat.reducePow, Nat.zero_add, Nat.add_zero, Nat.reduceAdd, Nat.reduceMul, Nat.reduceSub, xf_same, xq_ff, xq_fo, xf_1, xf_2, xs_1, xs_2, xs_same, xq_so, xj_1, xj_2, xj_same, xq_jo, xq_sa1, xq_same, xq_other, upd_s, oI_n, oI_s, xv_0, xv_1, xv_2, xv_3, xm_p1, xm_p2, xq_fp, xq_fn, List.filter_nil, Nat.reduceBEq, Bool.not_true, Bool.not_false, Bool.and_true, Bool.and_false, Bool.false_and, Bool.true_and, if_true, if_false, Bool.false_eq_true, reduceIte, xc_i, xc_j, xc_r, xc_n, List.nil_append, List.cons_append, Option.toList_some, Option.toList_none, nI_ltJ, nI_leJ, nI_eqJ, nI_ltz, nI_gez, nI_gtz, nI_lez, nI_eqz, m1_ltz, m1_gez, true_imp_iff, false_imp_iff, true_and, and_true, ne_eq, not_false_eq_true, not_true_eq_false, Nat.reduceEqDiff, Nat.reduceLT, Nat.reduceLeDiff, a2, b1.1, xf_102_1 b2, er]
          refine ⟨fun c => absurd c (by omega), fun c0 => ?_⟩
          with_reducible refine xm_go_blk b_X12_nextWord_11 k_X12_nextWord_11 ?_
          refine by_aload_n rfl ?_
          refine by_getf cn_267 fl_12_7 (by first | exact rfl | assumption) (by decide) ?_
          refine by_aload_n rfl ?_
          refine by_getf cn_267 fl_12_595 (by first | exact rfl | assumption) (by decide) ?_
          simp (disch := first | exact Nat.ne_of_beq_eq_false rfl | exact rfl | omega) only [nI_add, xa_sub, xa_mul, pk_div, nm_mod, xa_shr, xa_and7, xa_and1, xa_and255, xa_by_and, nI_m1, Nat.add_sub_cancel, Nat.reducePow, Nat.zero_add, Nat.add_zero, Nat.reduceAdd, Nat.reduceMul, Nat.reduceSub, xf_same, xq_ff, xq_fo, xf_1, xf_2, xs_1, xs_2, xs_same, xq_so, xj_1, xj_2, xj_same, xq_jo, xq_sa1, xq_same, xq_other, upd_s, oI_n, oI_s, a2, b1.1, xf_102_1 b2, er]
          first | refine by_iald (by first | exact rfl | assumption | exact ps_1 hpp | exact ps_2 hpp | exact ps_3 hpp | exact ps_4 hpp | exact ps_5 hpp | exact ps_6 hpp | exact ps_7 hpp | exact ps_8 hpp | exact ps_9 hpp | exact ps_10 hpp | exact ps_11 hpp | exact ps_15 hpp | exact ps_16 hpp | exact ps_17 hpp | exact ps_18 hpp | exact ps_19 hpp | exact ps_21 hpp | exact ps_22 hpp | exact ps_23 hpp | exact ps_24 hpp) ⟨by omega, by omega⟩ ?_ | refine by_tald rfl rfl ⟨by omega, by omega⟩ ?_
          refine by_bipush cb_10 ?_
          refine by_ic_eq 39 rfl ?_
          simp (disch := first | exact Nat.ne_of_beq_eq_false rfl | exact rfl | omega) only [nI_add, xa_sub, xa_mul, pk_div, nm_mod, xa_shr, xa_and7, xa_and1, xa_and255, xa_by_and, nI_m1, Nat.add_sub_cancel, Nat.reducePow, Nat.zero_add, Nat.add_zero, Nat.reduceAdd, Nat.reduceMul, Nat.reduceSub, xf_same, xq_ff, xq_fo, xf_1, xf_2, xs_1, xs_2, xs_same, xq_so, xj_1, xj_2, xj_same, xq_jo, xq_sa1, xq_same, xq_other, upd_s, oI_n, oI_s, xv_0, xv_1, xv_2, xv_3, xm_p1, xm_p2, xq_fp, xq_fn, List.filter_nil, Nat.reduceBEq, Bool.not_true, Bool.not_false, Bool.and_true, Bool.and_false, Bool.false_and, Bool.true_and, if_true, if_false, Bool.false_eq_true, reduceIte, xc_i, xc_j, xc_r, xc_n, List.nil_append, List.cons_append, Option.toList_some, Option.toList_none, nI_ltJ, nI_leJ, nI_eqJ, nI_ltz, nI_gez, nI_gtz, nI_lez, nI_eqz, m1_ltz, m1_gez, true_imp_iff, false_imp_iff, true_and, and_true, ne_eq, not_false_eq_true, not_true_eq_false, Nat.reduceEqDiff, Nat.reduceLT, Nat.reduceLeDiff, a2, b1.1, xf_102_1 b2, er]
          with_reducible refine xm_go_blk b_X12_nextWord_25 k_X12_nextWord_25 ?_
          refine by_aload_n rfl ?_
          refine by_getf cn_267 fl_12_7 (by first | exact rfl | assumption) (by decide) ?_
          refine by_aload_n rfl ?_
          refine by_getf cn_267 fl_12_595 (by first | exact rfl | assumption) (by decide) ?_
          simp (disch := first | exact Nat.ne_of_beq_eq_false rfl | exact rfl | omega) only [nI_add, xa_sub, xa_mul, pk_div, nm_mod, xa_shr, xa_and7, xa_and1, xa_and255, xa_by_and, nI_m1, Nat.add_sub_cancel, Nat.reducePow, Nat.zero_add, Nat.add_zero, Nat.reduceAdd, Nat.reduceMul, Nat.reduceSub, xf_same, xq_ff, xq_fo, xf_1, xf_2, xs_1, xs_2, xs_same, xq_so, xj_1, xj_2, xj_same, xq_jo, xq_sa1, xq_same, xq_other, upd_s, oI_n, oI_s, a2, b1.1, xf_102_1 b2, er]
          first | refine by_iald (by first | exact rfl | assumption | exact ps_1 hpp | exact ps_2 hpp | exact ps_3 hpp | exact ps_4 hpp | exact ps_5 hpp | exact ps_6 hpp | exact ps_7 hpp | exact ps_8 hpp | exact ps_9 hpp | exact ps_10 hpp | exact ps_11 hpp | exact ps_15 hpp | exact ps_16 hpp | exact ps_17 hpp | exact ps_18 hpp | exact ps_19 hpp | exact ps_21 hpp | exact ps_22 hpp | exact ps_23 hpp | exact ps_24 hpp) ⟨by omega, by omega⟩ ?_ | refine by_tald rfl rfl ⟨by omega, by omega⟩ ?_
          refine by_bipush cb_32 ?_
          refine by_ic_ne 52 rfl ?_
          simp (disch := first | exact Nat.ne_of_beq_eq_false rfl | exact rfl | omega) only [nI_add, xa_sub, xa_mul, pk_div, nm_mod, xa_shr, xa_and7, xa_and1, xa_and255, xa_by_and, nI_m1, Nat.add_sub_cancel, Nat.reducePow, Nat.zero_add, Nat.add_zero, Nat.reduceAdd, Nat.reduceMul, Nat.reduceSub, xf_same, xq_ff, xq_fo, xf_1, xf_2, xs_1, xs_2, xs_same, xq_so, xj_1, xj_2, xj_same, xq_jo, xq_sa1, xq_same, xq_other, upd_s, oI_n, oI_s, xv_0, xv_1, xv_2, xv_3, xm_p1, xm_p2, xq_fp, xq_fn, List.filter_nil, Nat.reduceBEq, Bool.not_true, Bool.not_false, Bool.and_true, Bool.and_false, Bool.false_and, Bool.true_and, if_true, if_false, Bool.false_eq_true, reduceIte, xc_i, xc_j, xc_r, xc_n, List.nil_append, List.cons_append, Option.toList_some, Option.toList_none, nI_ltJ, nI_leJ, nI_eqJ, nI_ltz, nI_gez, nI_gtz, nI_lez, nI_eqz, m1_ltz, m1_gez, true_imp_iff, false_imp_iff, true_and, and_true, ne_eq, not_false_eq_true, not_true_eq_false, Nat.reduceEqDiff, Nat.reduceLT, Nat.reduceLeDiff, a2, b1.1, xf_102_1 b2, er]
          exact nx (Or.inr e32)
        · with_reducible refine xm_go_blk b_X12_nextWord_0 k_X12_nextWord_0 ?_
          refine by_aload_n rfl ?_
          refine by_getf cn_267 fl_12_595 (by first | exact rfl | assumption) (by decide) ?_
          refine by_aload_n rfl ?_
          refine by_getf cn_267 fl_12_215 (by first | exact rfl | assumption) (by decide) ?_
          simp (disch := first | exact Nat.ne_of_beq_eq_false rfl | exact rfl | omega) only [nI_add, xa_sub, xa_mul, pk_div, nm_mod, xa_shr, xa_and7, xa_and1, xa_and255, xa_by_and, nI_m1, Nat.add_sub_cancel, Nat.reducePow, Nat.zero_add, Nat.add_zero, Nat.reduceAdd, Nat.reduceMul, Nat.reduceSub, xf_same, xq_ff, xq_fo, xf_1, xf_2, xs_1, xs_2, xs_same, xq_so, xj_1, xj_2, xj_same, xq_jo, xq_sa1, xq_same, xq_other, upd_s, oI_n, oI_s, a2, b1.1, xf_102_1 b2, er]
          refine by_ic_ge 52 rfl ?_
          simp (disch := first | exact Nat.ne_of_beq_eq_false rfl | exact rfl | omega) only [nI_add, xa_sub, xa_mul, pk_div, nm_mod, xa_shr, xa_and7, xa_and1, xa_and255, xa_by_and, nI_m1, Nat.add_sub_cancel, Nat.reducePow, Nat.zero_add, Nat.add_zero, Nat.reduceAdd, Nat.reduceMul, Nat.reduceSub, xf_same, xq_ff, xq_fo, xf_1, xf_2, xs_1, xs_2, xs_same, xq_so, xj_1, xj_2, xj_same, xq_jo, xq_sa1, xq_same, xq_other, upd_s, oI_n, oI_s, xv_0, xv_1, xv_2, xv_3, xm_p1, xm_p2, xq_fp, xq_fn, List.filter_nil, Nat.reduceBEq, Bool.not_true, Bool.not_false, Bool.and_true, Bool.and_false, Bool.false_and, Bool.true_and, if_true, if_false, Bool.false_eq_true, reduceIte, xc_i, xc_j, xc_r, xc_n, List.nil_append, List.cons_append, Option.toList_some, Option.toList_none, nI_ltJ, nI_leJ, nI_eqJ, nI_ltz, nI_gez, nI_gtz, nI_lez, nI_eqz, m1_ltz, m1_gez, true_imp_iff, false_imp_iff, true_and, and_true, ne_eq, not_false_eq_true, not_true_eq_false, Nat.reduceEqDiff, Nat.reduceLT, Nat.reduceLeDiff, a2, b1.1, xf_102_1 b2, er]
          refine ⟨fun c => absurd c (by omega), fun c0 => ?_⟩
          with_reducible refine xm_go_blk b_X12_nextWord_11 k_X12_nextWord_11 ?_
          refine by_aload_n rfl ?_
          refine by_getf cn_267 fl_12_7 (by first | exact rfl | assumption) (by decide) ?_
          refine by_aload_n rfl ?_
          refine by_getf cn_267 fl_12_595 (by first | exact rfl | assumption) (by decide) ?_
          simp (disch := first | exact Nat.ne_of_beq_eq_false rfl | exact rfl | omega) only [nI_add, xa_sub, xa_mul, pk_div, nm_mod, xa_shr, xa_and7, xa_and1, xa_and255, xa_by_and, nI_m1, Nat.add_sub_cancel, Nat.reducePow, Nat.zero_add, Nat.add_zero, Nat.reduceAdd, Nat.reduceMul, Nat.reduceSub, xf_same, xq_ff, xq_fo, xf_1, xf_2, xs_1, xs_2, xs_same, xq_so, xj_1, xj_2, xj_same, xq_jo, xq_sa1, xq_same, xq_other, upd_s, oI_n, oI_s, a2, b1.1, xf_102_1 b2, er]
          first | refine by_iald (by first | exact rfl | assumption | exact ps_1 hpp | exact ps_2 hpp | exact ps_3 hpp | exact ps_4 hpp | exact ps_5 hpp | exact ps_6 hpp | exact ps_7 hpp | exact ps_8 hpp | exact ps_9 hpp | exact ps_10 hpp | exact ps_11 hpp | exact ps_15 hpp | exact ps_16 hpp | exact ps_17 hpp | exact ps_18 hpp | exact ps_19 hpp | exact ps_21 hpp | exact ps_22 hpp | exact ps_23 hpp | exact ps_24 hpp) ⟨by omega, by omega⟩ ?_ | refine by_tald rfl rfl ⟨by omega, by omega⟩ ?_
          refine by_bipush cb_10 ?_
          refine by_ic_eq 39 rfl ?_
          simp (disch := first | exact Nat.ne_of_beq_eq_false rfl | exact rfl | omega) only [nI_add, xa_sub, xa_mul, pk_div, nm_mod, xa_shr, xa_and7, xa_and1, xa_and255, xa_by_and, nI_m1, Nat.add_sub_cancel, Nat.reducePow, Nat.zero_add, Nat.add_zero, Nat.reduceAdd, Nat.reduceMul, Nat.reduceSub, xf_same, xq_ff, xq_fo, xf_1, xf_2, xs_1, xs_2, xs_same, xq_so, xj_1, xj_2, xj_same, xq_jo, xq_sa1, xq_same, xq_other, upd_s, oI_n, oI_s, xv_0, xv_1, xv_2, xv_3, xm_p1, xm_p2, xq_fp, xq_fn, List.filter_nil, Nat.reduceBEq, Bool.not_true, Bool.not_false, Bool.and_true, Bool.and_false, Bool.false_and, Bool.true_and, if_true, if_false, Bool.false_eq_true, reduceIte, xc_i, xc_j, xc_r, xc_n, List.nil_append, List.cons_append, Option.toList_some, Option.toList_none, nI_ltJ, nI_leJ, nI_eqJ, nI_ltz, nI_gez, nI_gtz, nI_lez, nI_eqz, m1_ltz, m1_gez, true_imp_iff, false_imp_iff, true_and, and_true, ne_eq, not_false_eq_true, not_true_eq_false, Nat.reduceEqDiff, Nat.reduceLT, Nat.reduceLeDiff, a2, b1.1, xf_102_1 b2, er]
          refine ⟨fun c => absurd c (by omega), fun c11 => ?_⟩
          with_reducible refine xm_go_blk b_X12_nextWord_25 k_X12_nextWord_25 ?_
          refine by_aload_n rfl ?_
          refine by_getf cn_267 fl_12_7 (by first | exact rfl | assumption) (by decide) ?_
          refine by_aload_n rfl ?_
          refine by_getf cn_267 fl_12_595 (by first | exact rfl | assumption) (by decide) ?_
          simp (disch := first | exact Nat.ne_of_beq_eq_false rfl | exact rfl | omega) only [nI_add, xa_sub, xa_mul, pk_div, nm_mod, xa_shr, xa_and7, xa_and1, xa_and255, xa_by_and, nI_m1, Nat.add_sub_cancel, Nat.reducePow, Nat.zero_add, Nat.add_zero, Nat.reduceAdd, Nat.reduceMul, Nat.reduceSub, xf_same, xq_ff, xq_fo, xf_1, xf_2, xs_1, xs_2, xs_same, xq_so, xj_1, xj_2, xj_same, xq_jo, xq_sa1, xq_same, xq_other, upd_s, oI_n, oI_s, a2, b1.1, xf_102_1 b2, er]
          first | refine by_iald (by first | exact rfl | assumption | exact ps_1 hpp | exact ps_2 hpp | exact ps_3 hpp | exact ps_4 hpp | exact ps_5 hpp | exact ps_6 hpp | exact ps_7 hpp | exact ps_8 hpp | exact ps_9 hpp | exact ps_10 hpp | exact ps_11 hpp | exact ps_15 hpp | exact ps_16 hpp | exact ps_17 hpp | exact ps_18 hpp | exact ps_19 hpp | exact ps_21 hpp | exact ps_22 hpp | exact ps_23 hpp | exact ps_24 hpp) ⟨by omega, by omega⟩ ?_ | refine by_tald rfl rfl ⟨by omega, by omega⟩ ?_
          refine by_bipush cb_32 ?_
          refine by_ic_ne 52 rfl ?_
          simp (disch := first | exact Nat.ne_of_beq_eq_false rfl | exact rfl | omega) only [nI_add, xa_sub, xa_mul, pk_div, nm_mod, xa_shr, xa_and7, xa_and1, xa_and255, xa_by_and, nI_m1, Nat.add_sub_cancel, Nat.reducePow, Nat.zero_add, Nat.add_zero, Nat.reduceAdd, Nat.reduceMul, Nat.reduceSub, xf_same, xq_ff, xq_fo, xf_1, xf_2, xs_1, xs_2, xs_same, xq_so, xj_1, xj_2, xj_same, xq_jo, xq_sa1, xq_same, xq_other, upd_s, oI_n, oI_s, xv_0, xv_1, xv_2, xv_3, xm_p1, xm_p2, xq_fp, xq_fn, List.filter_nil, Nat.reduceBEq, Bool.not_true, Bool.not_false, Bool.and_true, Bool.and_false, Bool.false_and, Bool.true_and, if_true, if_false, Bool.false_eq_true, reduceIte, xc_i, xc_j, xc_r, xc_n, List.nil_append, List.cons_append, Option.toList_some, Option.toList_none, nI_ltJ, nI_leJ, nI_eqJ, nI_ltz, nI_gez, nI_gtz, nI_lez, nI_eqz, m1_ltz, m1_gez, true_imp_iff, false_imp_iff, true_and, and_true, ne_eq, not_false_eq_true, not_true_eq_false, Nat.reduceEqDiff, Nat.reduceLT, Nat.reduceLeDiff, a2, b1.1, xf_102_1 b2, er]
          refine ⟨fun c25 => ?_, fun c => absurd (by omega) c⟩
          rw [tkF_e (fun z => by rcases z.2 with z | z; exact e10 z; exact e32 z)] at hk
          exact k52 q h1 hk (by omega) f1 a2
  refine xq_in rfl ?_
  simp only [xq_a0, xq_aI, xq_aJ, xq_aR, Nat.reduceAdd]
  exact key1 (t.length - p) p h (by omega) rfl Fr_rf hsa
theorem mEd_D (hE : mEd h t NL G) : mT1 (xm_sf h 102 88 (.int (nI 0))) t NL G [] := by
  have f : Fr [] [(102, 88)] h (xm_sf h 102 88 (.int (nI 0))) := Fr_sf Fr_rf (by simp)
  obtain ⟨a1, a2, a3, a4, a5, a6, a7⟩ := hE
  exact ⟨Fr_XF a1 f (by decide +kernel), mtp_fr a2 f (by simp) (by simp), tgM_fr a3 f (by simp), nmM_fr a4 f (by simp) (by simp) (by simp), by rw [f.2.2 _ _ (by simp)]; exact a5, mG0_fr a6 f (by simp) (by simp), by simp [xm_sf, updV], trivial, by rw [f.2.2 _ _ (by simp)]; exact a7⟩
theorem mEd_T (hT : mT1 h t NL G st) : mEd h t NL G := by
  obtain ⟨a1, a2, a3, a4, a5, a6, a7, a8, a9⟩ := hT
  exact ⟨a1, a2, a3, a4, a5, a6, a9⟩
theorem mEd_w (hE : mEd h t NL G) (f : Fr [] smwT h h') : mEd h' t NL G := by
  obtain ⟨a1, a2, a3, a4, a5, a6, a7⟩ := hE
  exact ⟨Fr_XF a1 f (by decide +kernel), mtp_fr a2 f (by simp) (by simp), tgM_fr a3 f (by simp), nmM_fr a4 f (by simp) (by simp) (by simp), by rw [f.2.2 _ _ (by simp)]; exact a5, mG0_fr a6 f (by simp) (by simp), by rw [f.2.2 _ _ (by simp)]; exact a7⟩
theorem nmM_add {n : Nat} (hN : nmM h NL) (hw : isW w) (hn : n < 2000) (hl : NL.length < 4096) (e85 : h'.2.2 102 85 = .int (nI (NL.length + 1))) (e157 : h'.2.1 157 = vp_updL (h.2.1 157) NL.length (lN (v6 w))) (e158 : h'.1 158 = upd (h.1 158) NL.length (nI n)) : nmM h' (NL ++ [(w, n)]) := by
  obtain ⟨n1, n2, n3⟩ := hN
  have eL : (NL ++ [(w, n)]).length = NL.length + 1 := by simp
  have g1 : ∀ k, k < NL.length → (NL ++ [(w, n)]).getD k ([], 0) = NL.getD k ([], 0) := fun k hk => by
    rw [List.getD_eq_getElem?_getD, List.getElem?_append_left hk, List.getD_eq_getElem?_getD]
  have g2 : (NL ++ [(w, n)]).getD NL.length ([], 0) = (w, n) := by simp
  refine ⟨by rw [eL]; exact e85, by omega, fun k hk => ?_⟩
  rw [eL] at hk
  by_cases q : k = NL.length
  · subst q
    rw [g2, e157, e158]
    exact ⟨by simp [vp_updL], upd_s, hw, hn⟩
  · rw [g1 k (by omega), e157, e158]
    have := n3 k (by omega)
    exact ⟨by simpa [vp_updL, q] using this.1, by rw [upd_o q]; exact this.2.1, this.2.2⟩
theorem sp_definitions (hF : XF h) (hm : mtp h t) (htg : tgM h) (hs : h.2.2 102 81 = .int (nI 0))
    (hB : ∀ e f h' v, (∃ k, sDf t k sG0 [] 0 = some (.inl (e, f))) → Fr smdR smdT h h' → h'.2.2 102 81 = .int (nI e) → 1 ≤ e → e < 2000 → h'.2.2 102 36 = .int (nI f) → post (some (.int v)) h')
    (hG : ∀ G NL w n h', (∃ k, sDf t k sG0 [] 0 = some (.inr (G, NL ++ [(w, n)]))) → Fr smdR smdT h h' → mEd h' t (NL ++ [(w, n)]) G → sInv t (NL ++ [(w, n)]) G [] → h'.2.2 102 36 = h.2.2 102 36 → post (some (.int (nI n))) h') : xm_T (XE sc) (d + 8) 216 [.ref 102] h post := by
  have ht8 : t.length ≤ 8192 := hm.2.2.2
  -- a fault
  have bad : ∀ e f (h1 : xm_H) (v m : Int32), (∃ k, sDf t k sG0 [] 0 = some (.inl (e, f))) → Fr smdR smdT h h1 → h1.2.2 102 81 = .int (nI e) → 1 ≤ e → e < 2000 → h1.2.2 102 36 = .int (nI f) → xm_go (XE sc) (xm_T (XE sc) (d + 7)) 216 post 23 [(2, .int m), (1, .int v), (0, .ref 102)] [] h1 := fun e f h1 v m hx f1 s1 e1 e2 q1 => by
    have ne : (e = 0) = False := eq_false (by omega)
    with_reducible refine xm_go_blk b_X12_definitions_23 k_X12_definitions_23 ?_
    refine by_aload_n rfl ?_
    refine by_getf cn_216 fl_12_592 (by first | exact rfl | assumption) (by decide) ?_
    simp (disch := first | exact Nat.ne_of_beq_eq_false rfl | exact rfl | omega) only [nI_add, xa_sub, xa_mul, pk_div, nm_mod, xa_shr, xa_and7, xa_and1, xa_and255, xa_by_and, nI_m1, Nat.add_sub_cancel, Nat.reducePow, Nat.zero_add, Nat.add_zero, Nat.reduceAdd, Nat.reduceMul, Nat.reduceSub, xf_same, xq_ff, xq_fo, xf_1, xf_2, xs_1, xs_2, xs_same, xq_so, xj_1, xj_2, xj_same, xq_jo, xq_sa1, xq_same, xq_other, upd_s, oI_n, oI_s, s1, ne]
    refine by_if_ne 174 rfl ?_
    simp (disch := first | exact Nat.ne_of_beq_eq_false rfl | exact rfl | omega) only [nI_add, xa_sub, xa_mul, pk_div, nm_mod, xa_shr, xa_and7, xa_and1, xa_and255, xa_by_and, nI_m1, Nat.add_sub_cancel, Nat.reducePow, Nat.zero_add, Nat.add_zero, Nat.reduceAdd, Nat.reduceMul, Nat.reduceSub, xf_same, xq_ff, xq_fo, xf_1, xf_2, xs_1, xs_2, xs_same, xq_so, xj_1, xj_2, xj_same, xq_jo, xq_sa1, xq_same, xq_other, upd_s, oI_n, oI_s, xv_0, xv_1, xv_2, xv_3, xm_p1, xm_p2, xq_fp, xq_fn, List.filter_nil, Nat.reduceBEq, Bool.not_true, Bool.not_false, Bool.and_true, Bool.and_false, Bool.false_and, Bool.true_and, if_true, if_false, Bool.false_eq_true, reduceIte, xc_i, xc_j, xc_r, xc_n, List.nil_append, List.cons_append, Option.toList_some, Option.toList_none, nI_ltJ, nI_leJ, nI_eqJ, nI_ltz, nI_gez, nI_gtz, nI_lez, nI_eqz, m1_ltz, m1_gez, true_imp_iff, false_imp_iff, true_and, and_true, ne_eq, not_false_eq_true, not_true_eq_false, Nat.reduceEqDiff, Nat.reduceLT, Nat.reduceLeDiff, s1, ne]
    with_reducible refine xm_go_blk b_X12_definitions_174 k_X12_definitions_174 ?_
    refine by_iload_n rfl ?_
    refine by_iret ry_216 (by first | rfl | assumption) ?_
    exact hB e f h1 v hx f1 s1 e1 e2 q1
  have key : ∀ (m : Nat) (G1 : sG) (NL1 : List (List Nat × Nat)) (p1 : Nat) (h1 : xm_H) (v : Int32), t.length - p1 < m → (∀ o, (∃ k, sDf t k G1 NL1 p1 = some o) → ∃ k, sDf t k sG0 [] 0 = some o) → mEd h1 t NL1 G1 → sInv t NL1 G1 [] → mwS h1 t p1 → tkK t p1 ≠ 1 → ¬ (tkK t p1 = 0 ∧ NL1 ≠ []) → p1 ≤ t.length → 3 * NL1.length ≤ p1 → Fr smdR smdT h h1 → h1.2.2 102 36 = h.2.2 102 36 → xm_go (XE sc) (xm_T (XE sc) (d + 7)) 216 post 23 [(2, .int (nI 1)), (1, .int v), (0, .ref 102)] [] h1 := by
    intro m
    induction m with
    | zero => intro G1 NL1 p1 h1 v hm; omega
    | succ m ih =>
      intro G1 NL1 p1 h1 v hmm hD E1 I1 w1 k1 kz hp1 h3 f1 q1
      obtain ⟨b1, b2, b3, b4⟩ := tk_b hp1
      obtain ⟨v1, v2, v3, v4⟩ := tk_b b3
      have w1' := w1
      obtain ⟨u1, u2, u3⟩ := w1
      have E1' := E1
      obtain ⟨a1, a2, a3, a4, a5, a6, a7⟩ := E1
      have wr : ∀ e f (h2 : xm_H), (∃ k, sDf t k G1 NL1 p1 = some (.inl (e, f))) → Fr smdR smdT h h2 → 1 ≤ e → e < 2000 → post (some (.int (-1))) (xm_sf (xm_sf h2 102 81 (.int (nI e))) 102 36 (.int (nI f))) := fun e f h2 hx f2 e1 e2 => hB e f _ (-1) (hD _ hx) (Fr_sf (Fr_sf f2 (by simp)) (by simp)) (by simp [xm_sf, updV]) e1 e2 (by simp [xm_sf, updV])
      have bad1 : (wdO t p1 = none ∨ ∃ w2, wdO t p1 = some w2 ∧ (tgI w2).isSome = true) → xm_go (XE sc) (xm_T (XE sc) (d + 7)) 216 post 53 [(0, .ref 102)] [] h1 := fun z => by
        with_reducible refine xm_go_blk b_X12_definitions_53 k_X12_definitions_53 ?_
        refine by_aload_n rfl ?_
        refine by_iconst ci_1 ?_
        refine by_aload_n rfl ?_
        refine by_getf cn_216 fl_12_598 (by first | exact rfl | assumption) (by decide) ?_
        simp (disch := first | exact Nat.ne_of_beq_eq_false rfl | exact rfl | omega) only [nI_add, xa_sub, xa_mul, pk_div, nm_mod, xa_shr, xa_and7, xa_and1, xa_and255, xa_by_and, nI_m1, Nat.add_sub_cancel, Nat.reducePow, Nat.zero_add, Nat.add_zero, Nat.reduceAdd, Nat.reduceMul, Nat.reduceSub, xf_same, xq_ff, xq_fo, xf_1, xf_2, xs_1, xs_2, xs_same, xq_so, xj_1, xj_2, xj_same, xq_jo, xq_sa1, xq_same, xq_other, upd_s, oI_n, oI_s, xv_0, xv_1, xv_2, xv_3, xm_p1, xm_p2, xq_fp, xq_fn, List.filter_nil, Nat.reduceBEq, Bool.not_true, Bool.not_false, Bool.and_true, Bool.and_false, Bool.false_and, Bool.true_and, if_true, if_false, Bool.false_eq_true, reduceIte, xc_i, xc_j, xc_r, xc_n, List.nil_append, List.cons_append, Option.toList_some, Option.toList_none, u2]
        refine by_inv2 cn_216 lk_12_604 (by rw [xe_cnt]; decide) is_328 np_328 cn_328 (by first | exact rfl | assumption) (Nat.le_of_ble_eq_true rfl) ?_
        refine sp_mwrong a7 ?_
        with_reducible refine xm_go_blk b_X12_definitions_62 k_X12_definitions_62 ?_
        refine by_iret ry_216 (by first | rfl | assumption) ?_
        exact wr 1 _ h1 (sD_1 kz z) f1 (by decide) (by decide)
      with_reducible refine xm_go_blk b_X12_definitions_23 k_X12_definitions_23 ?_
      refine by_aload_n rfl ?_
      refine by_getf cn_216 fl_12_592 (by first | exact rfl | assumption) (by decide) ?_
      simp (disch := first | exact Nat.ne_of_beq_eq_false rfl | exact rfl | omega) only [nI_add, xa_sub, xa_mul, pk_div, nm_mod, xa_shr, xa_and7, xa_and1, xa_and255, xa_by_and, nI_m1, Nat.add_sub_cancel, Nat.reducePow, Nat.zero_add, Nat.add_zero, Nat.reduceAdd, Nat.reduceMul, Nat.reduceSub, xf_same, xq_ff, xq_fo, xf_1, xf_2, xs_1, xs_2, xs_same, xq_so, xj_1, xj_2, xj_same, xq_jo, xq_sa1, xq_same, xq_other, upd_s, oI_n, oI_s, a7]
      refine by_if_ne 174 rfl ?_
      simp (disch := first | exact Nat.ne_of_beq_eq_false rfl | exact rfl | omega) only [nI_add, xa_sub, xa_mul, pk_div, nm_mod, xa_shr, xa_and7, xa_and1, xa_and255, xa_by_and, nI_m1, Nat.add_sub_cancel, Nat.reducePow, Nat.zero_add, Nat.add_zero, Nat.reduceAdd, Nat.reduceMul, Nat.reduceSub, xf_same, xq_ff, xq_fo, xf_1, xf_2, xs_1, xs_2, xs_same, xq_so, xj_1, xj_2, xj_same, xq_jo, xq_sa1, xq_same, xq_other, upd_s, oI_n, oI_s, xv_0, xv_1, xv_2, xv_3, xm_p1, xm_p2, xq_fp, xq_fn, List.filter_nil, Nat.reduceBEq, Bool.not_true, Bool.not_false, Bool.and_true, Bool.and_false, Bool.false_and, Bool.true_and, if_true, if_false, Bool.false_eq_true, reduceIte, xc_i, xc_j, xc_r, xc_n, List.nil_append, List.cons_append, Option.toList_some, Option.toList_none, nI_ltJ, nI_leJ, nI_eqJ, nI_ltz, nI_gez, nI_gtz, nI_lez, nI_eqz, m1_ltz, m1_gez, true_imp_iff, false_imp_iff, true_and, and_true, ne_eq, not_false_eq_true, not_true_eq_false, Nat.reduceEqDiff, Nat.reduceLT, Nat.reduceLeDiff, a7]
      with_reducible refine xm_go_blk b_X12_definitions_30 k_X12_definitions_30 ?_
      refine by_iload_n rfl ?_
      refine by_if_eq 174 rfl ?_
      simp (disch := first | exact Nat.ne_of_beq_eq_false rfl | exact rfl | omega) only [nI_add, xa_sub, xa_mul, pk_div, nm_mod, xa_shr, xa_and7, xa_and1, xa_and255, xa_by_and, nI_m1, Nat.add_sub_cancel, Nat.reducePow, Nat.zero_add, Nat.add_zero, Nat.reduceAdd, Nat.reduceMul, Nat.reduceSub, xf_same, xq_ff, xq_fo, xf_1, xf_2, xs_1, xs_2, xs_same, xq_so, xj_1, xj_2, xj_same, xq_jo, xq_sa1, xq_same, xq_other, upd_s, oI_n, oI_s, xv_0, xv_1, xv_2, xv_3, xm_p1, xm_p2, xq_fp, xq_fn, List.filter_nil, Nat.reduceBEq, Bool.not_true, Bool.not_false, Bool.and_true, Bool.and_false, Bool.false_and, Bool.true_and, if_true, if_false, Bool.false_eq_true, reduceIte, xc_i, xc_j, xc_r, xc_n, List.nil_append, List.cons_append, Option.toList_some, Option.toList_none, nI_ltJ, nI_leJ, nI_eqJ, nI_ltz, nI_gez, nI_gtz, nI_lez, nI_eqz, m1_ltz, m1_gez, true_imp_iff, false_imp_iff, true_and, and_true, ne_eq, not_false_eq_true, not_true_eq_false, Nat.reduceEqDiff, Nat.reduceLT, Nat.reduceLeDiff, a7]
      with_reducible refine xm_go_blk b_X12_definitions_34 k_X12_definitions_34 ?_
      refine by_aload_n rfl ?_
      refine by_inv0 cn_216 lk_12_616 (by rw [xe_cnt]; decide) is_275 np_275 cn_275 (by first | exact rfl | assumption) (Nat.le_of_ble_eq_true rfl) ?_
      refine sp_packed (d := d + 4) a1 a2 w1' hp1 (fun hn => ?_) (fun w hw => ?_)
      · have l0 : (lg_cmp (lN 0) (lN 0) = 0) = True := eq_true (by decide)
        with_reducible refine xm_go_blk b_X12_definitions_38 k_X12_definitions_38 ?_
        refine by_lstore_n (by rw [ml_216]; decide) ?_
        refine by_lload_n rfl ?_
        refine by_lconst cl_0 ?_
        refine by_lcmp ?_
        refine by_if_eq 53 rfl ?_
        simp (disch := first | exact Nat.ne_of_beq_eq_false rfl | exact rfl | omega) only [nI_add, xa_sub, xa_mul, pk_div, nm_mod, xa_shr, xa_and7, xa_and1, xa_and255, xa_by_and, nI_m1, Nat.add_sub_cancel, Nat.reducePow, Nat.zero_add, Nat.add_zero, Nat.reduceAdd, Nat.reduceMul, Nat.reduceSub, xf_same, xq_ff, xq_fo, xf_1, xf_2, xs_1, xs_2, xs_same, xq_so, xj_1, xj_2, xj_same, xq_jo, xq_sa1, xq_same, xq_other, upd_s, oI_n, oI_s, xv_0, xv_1, xv_2, xv_3, xm_p1, xm_p2, xq_fp, xq_fn, List.filter_nil, Nat.reduceBEq, Bool.not_true, Bool.not_false, Bool.and_true, Bool.and_false, Bool.false_and, Bool.true_and, if_true, if_false, Bool.false_eq_true, reduceIte, xc_i, xc_j, xc_r, xc_n, List.nil_append, List.cons_append, Option.toList_some, Option.toList_none, nI_ltJ, nI_leJ, nI_eqJ, nI_ltz, nI_gez, nI_gtz, nI_lez, nI_eqz, m1_ltz, m1_gez, true_imp_iff, false_imp_iff, true_and, and_true, ne_eq, not_false_eq_true, not_true_eq_false, Nat.reduceEqDiff, Nat.reduceLT, Nat.reduceLeDiff, l0]
        exact xm_go_wk (by simp [Value.category]) (bad1 (Or.inl hn))
      · have hW := (wdO_W hw).2.1
        have k5 := (wdO_W hw).1
        have lt1 := b4 (by rw [k5]; decide)
        have h48 := v6_lt hW
        have q0 : (v6 w = 0) = False := eq_false (v6_pos hW)
        with_reducible refine xm_go_blk b_X12_definitions_38 k_X12_definitions_38 ?_
        refine by_lstore_n (by rw [ml_216]; decide) ?_
        refine by_lload_n rfl ?_
        refine by_lconst cl_0 ?_
        refine by_lcmp ?_
        refine by_if_eq 53 rfl ?_
        simp (disch := first | exact Nat.ne_of_beq_eq_false rfl | exact rfl | omega) only [nI_add, xa_sub, xa_mul, pk_div, nm_mod, xa_shr, xa_and7, xa_and1, xa_and255, xa_by_and, nI_m1, Nat.add_sub_cancel, Nat.reducePow, Nat.zero_add, Nat.add_zero, Nat.reduceAdd, Nat.reduceMul, Nat.reduceSub, xf_same, xq_ff, xq_fo, xf_1, xf_2, xs_1, xs_2, xs_same, xq_so, xj_1, xj_2, xj_same, xq_jo, xq_sa1, xq_same, xq_other, upd_s, oI_n, oI_s, xv_0, xv_1, xv_2, xv_3, xm_p1, xm_p2, xq_fp, xq_fn, List.filter_nil, Nat.reduceBEq, Bool.not_true, Bool.not_false, Bool.and_true, Bool.and_false, Bool.false_and, Bool.true_and, if_true, if_false, Bool.false_eq_true, reduceIte, xc_i, xc_j, xc_r, xc_n, List.nil_append, List.cons_append, Option.toList_some, Option.toList_none, nI_ltJ, nI_leJ, nI_eqJ, nI_ltz, nI_gez, nI_gtz, nI_lez, nI_eqz, m1_ltz, m1_gez, true_imp_iff, false_imp_iff, true_and, and_true, ne_eq, not_false_eq_true, not_true_eq_false, Nat.reduceEqDiff, Nat.reduceLT, Nat.reduceLeDiff, lcz (Nat.lt_trans h48 (by decide)) (by decide : 0 < 2 ^ 64), q0]
        with_reducible refine xm_go_blk b_X12_definitions_45 k_X12_definitions_45 ?_
        refine by_aload_n rfl ?_
        refine by_lload_n rfl ?_
        refine by_inv1 cn_216 lk_12_619 (by rw [xe_cnt]; decide) is_310 np_310 cn_310 (by first | exact rfl | assumption) (Nat.le_of_ble_eq_true rfl) ?_
        refine sp_tongueOf (d := d + 6) a1 a3 hW ?_
        cases et : tgI w with
        | some c =>
          have := tgI_lt et
          with_reducible refine xm_go_blk b_X12_definitions_50 k_X12_definitions_50 ?_
          refine by_if_lt 63 rfl ?_
          simp (disch := first | exact Nat.ne_of_beq_eq_false rfl | exact rfl | omega) only [nI_add, xa_sub, xa_mul, pk_div, nm_mod, xa_shr, xa_and7, xa_and1, xa_and255, xa_by_and, nI_m1, Nat.add_sub_cancel, Nat.reducePow, Nat.zero_add, Nat.add_zero, Nat.reduceAdd, Nat.reduceMul, Nat.reduceSub, xf_same, xq_ff, xq_fo, xf_1, xf_2, xs_1, xs_2, xs_same, xq_so, xj_1, xj_2, xj_same, xq_jo, xq_sa1, xq_same, xq_other, upd_s, oI_n, oI_s, xv_0, xv_1, xv_2, xv_3, xm_p1, xm_p2, xq_fp, xq_fn, List.filter_nil, Nat.reduceBEq, Bool.not_true, Bool.not_false, Bool.and_true, Bool.and_false, Bool.false_and, Bool.true_and, if_true, if_false, Bool.false_eq_true, reduceIte, xc_i, xc_j, xc_r, xc_n, List.nil_append, List.cons_append, Option.toList_some, Option.toList_none, nI_ltJ, nI_leJ, nI_eqJ, nI_ltz, nI_gez, nI_gtz, nI_lez, nI_eqz, m1_ltz, m1_gez, true_imp_iff, false_imp_iff, true_and, and_true, ne_eq, not_false_eq_true, not_true_eq_false, Nat.reduceEqDiff, Nat.reduceLT, Nat.reduceLeDiff]
          exact xm_go_wk (by simp [Value.category]) (bad1 (Or.inr ⟨w, hw, by rw [et]; rfl⟩))
        | none =>
          with_reducible refine xm_go_blk b_X12_definitions_50 k_X12_definitions_50 ?_
          refine by_if_lt 63 rfl ?_
          simp (disch := first | exact Nat.ne_of_beq_eq_false rfl | exact rfl | omega) only [nI_add, xa_sub, xa_mul, pk_div, nm_mod, xa_shr, xa_and7, xa_and1, xa_and255, xa_by_and, nI_m1, Nat.add_sub_cancel, Nat.reducePow, Nat.zero_add, Nat.add_zero, Nat.reduceAdd, Nat.reduceMul, Nat.reduceSub, xf_same, xq_ff, xq_fo, xf_1, xf_2, xs_1, xs_2, xs_same, xq_so, xj_1, xj_2, xj_same, xq_jo, xq_sa1, xq_same, xq_other, upd_s, oI_n, oI_s, xv_0, xv_1, xv_2, xv_3, xm_p1, xm_p2, xq_fp, xq_fn, List.filter_nil, Nat.reduceBEq, Bool.not_true, Bool.not_false, Bool.and_true, Bool.and_false, Bool.false_and, Bool.true_and, if_true, if_false, Bool.false_eq_true, reduceIte, xc_i, xc_j, xc_r, xc_n, List.nil_append, List.cons_append, Option.toList_some, Option.toList_none, nI_ltJ, nI_leJ, nI_eqJ, nI_ltz, nI_gez, nI_gtz, nI_lez, nI_eqz, m1_ltz, m1_gez, true_imp_iff, false_imp_iff, true_and, and_true, ne_eq, not_false_eq_true, not_true_eq_false, Nat.reduceEqDiff, Nat.reduceLT, Nat.reduceLeDiff]
          with_reducible refine xm_go_blk b_X12_definitions_63 k_X12_definitions_63 ?_
          refine by_aload_n rfl ?_
          refine by_lload_n rfl ?_
          refine by_inv1 cn_216 lk_12_623 (by rw [xe_cnt]; decide) is_265 np_265 cn_265 (by first | exact rfl | assumption) (Nat.le_of_ble_eq_true rfl) ?_
          refine sp_named (d := d + 6) a1 a4 hW ?_
          cases en : nmF w NL1 with
          | some n =>
            have hn2 : n < 2000 := by
              have := (I1.2 _ (nmF_mem en)).1
              obtain ⟨⟨rk, M, hd⟩, _⟩ := I1
              have := hd.1
              omega
            with_reducible refine xm_go_blk b_X12_definitions_68 k_X12_definitions_68 ?_
            refine by_if_lt 81 rfl ?_
            simp (disch := first | exact Nat.ne_of_beq_eq_false rfl | exact rfl | omega) only [nI_add, xa_sub, xa_mul, pk_div, nm_mod, xa_shr, xa_and7, xa_and1, xa_and255, xa_by_and, nI_m1, Nat.add_sub_cancel, Nat.reducePow, Nat.zero_add, Nat.add_zero, Nat.reduceAdd, Nat.reduceMul, Nat.reduceSub, xf_same, xq_ff, xq_fo, xf_1, xf_2, xs_1, xs_2, xs_same, xq_so, xj_1, xj_2, xj_same, xq_jo, xq_sa1, xq_same, xq_other, upd_s, oI_n, oI_s, xv_0, xv_1, xv_2, xv_3, xm_p1, xm_p2, xq_fp, xq_fn, List.filter_nil, Nat.reduceBEq, Bool.not_true, Bool.not_false, Bool.and_true, Bool.and_false, Bool.false_and, Bool.true_and, if_true, if_false, Bool.false_eq_true, reduceIte, xc_i, xc_j, xc_r, xc_n, List.nil_append, List.cons_append, Option.toList_some, Option.toList_none, nI_ltJ, nI_leJ, nI_eqJ, nI_ltz, nI_gez, nI_gtz, nI_lez, nI_eqz, m1_ltz, m1_gez, true_imp_iff, false_imp_iff, true_and, and_true, ne_eq, not_false_eq_true, not_true_eq_false, Nat.reduceEqDiff, Nat.reduceLT, Nat.reduceLeDiff, u2]
            with_reducible refine xm_go_blk b_X12_definitions_71 k_X12_definitions_71 ?_
            refine by_aload_n rfl ?_
            refine by_iconst ci_2 ?_
            refine by_aload_n rfl ?_
            refine by_getf cn_216 fl_12_598 (by first | exact rfl | assumption) (by decide) ?_
            simp (disch := first | exact Nat.ne_of_beq_eq_false rfl | exact rfl | omega) only [nI_add, xa_sub, xa_mul, pk_div, nm_mod, xa_shr, xa_and7, xa_and1, xa_and255, xa_by_and, nI_m1, Nat.add_sub_cancel, Nat.reducePow, Nat.zero_add, Nat.add_zero, Nat.reduceAdd, Nat.reduceMul, Nat.reduceSub, xf_same, xq_ff, xq_fo, xf_1, xf_2, xs_1, xs_2, xs_same, xq_so, xj_1, xj_2, xj_same, xq_jo, xq_sa1, xq_same, xq_other, upd_s, oI_n, oI_s, xv_0, xv_1, xv_2, xv_3, xm_p1, xm_p2, xq_fp, xq_fn, List.filter_nil, Nat.reduceBEq, Bool.not_true, Bool.not_false, Bool.and_true, Bool.and_false, Bool.false_and, Bool.true_and, if_true, if_false, Bool.false_eq_true, reduceIte, xc_i, xc_j, xc_r, xc_n, List.nil_append, List.cons_append, Option.toList_some, Option.toList_none, u2]
            refine by_inv2 cn_216 lk_12_604 (by rw [xe_cnt]; decide) is_328 np_328 cn_328 (by first | exact rfl | assumption) (Nat.le_of_ble_eq_true rfl) ?_
            refine sp_mwrong a7 ?_
            with_reducible refine xm_go_blk b_X12_definitions_80 k_X12_definitions_80 ?_
            refine by_iret ry_216 (by first | rfl | assumption) ?_
            exact wr 2 _ h1 (sD_2 kz hw et en) f1 (by decide) (by decide)
          | none =>
            with_reducible refine xm_go_blk b_X12_definitions_68 k_X12_definitions_68 ?_
            refine by_if_lt 81 rfl ?_
            simp (disch := first | exact Nat.ne_of_beq_eq_false rfl | exact rfl | omega) only [nI_add, xa_sub, xa_mul, pk_div, nm_mod, xa_shr, xa_and7, xa_and1, xa_and255, xa_by_and, nI_m1, Nat.add_sub_cancel, Nat.reducePow, Nat.zero_add, Nat.add_zero, Nat.reduceAdd, Nat.reduceMul, Nat.reduceSub, xf_same, xq_ff, xq_fo, xf_1, xf_2, xs_1, xs_2, xs_same, xq_so, xj_1, xj_2, xj_same, xq_jo, xq_sa1, xq_same, xq_other, upd_s, oI_n, oI_s, xv_0, xv_1, xv_2, xv_3, xm_p1, xm_p2, xq_fp, xq_fn, List.filter_nil, Nat.reduceBEq, Bool.not_true, Bool.not_false, Bool.and_true, Bool.and_false, Bool.false_and, Bool.true_and, if_true, if_false, Bool.false_eq_true, reduceIte, xc_i, xc_j, xc_r, xc_n, List.nil_append, List.cons_append, Option.toList_some, Option.toList_none, nI_ltJ, nI_leJ, nI_eqJ, nI_ltz, nI_gez, nI_gtz, nI_lez, nI_eqz, m1_ltz, m1_gez, true_imp_iff, false_imp_iff, true_and, and_true, ne_eq, not_false_eq_true, not_true_eq_false, Nat.reduceEqDiff, Nat.reduceLT, Nat.reduceLeDiff]
            with_reducible refine xm_go_blk b_X12_definitions_81 k_X12_definitions_81 ?_
            refine by_aload_n rfl ?_
            refine by_inv0 cn_216 lk_12_613 (by rw [xe_cnt]; decide) is_267 np_267 cn_267 (by first | exact rfl | assumption) (Nat.le_of_ble_eq_true rfl) ?_
            refine sp_mnextWord2 (d := d + 4) a1 a2 u1 a7 b3 (fun h2 kk1 f2 s2 q2 _ => ?_) (fun h2 kk1 f2 w2 => ?_)
            · -- strange: expression ends at once
              have hx : ∃ k, sDf t k G1 NL1 p1 = some (.inl (1, tkF t (tkE t p1))) := sD_3 kz hw et en (by rw [kk1]; decide)
              have n1 : ((1 : Nat) = 0) = False := eq_false (by decide)
              with_reducible refine xm_go_blk b_X12_definitions_85 k_X12_definitions_85 ?_
              refine by_aload_n rfl ?_
              refine by_getf cn_216 fl_12_592 (by first | exact rfl | assumption) (by decide) ?_
              simp (disch := first | exact Nat.ne_of_beq_eq_false rfl | exact rfl | omega) only [nI_add, xa_sub, xa_mul, pk_div, nm_mod, xa_shr, xa_and7, xa_and1, xa_and255, xa_by_and, nI_m1, Nat.add_sub_cancel, Nat.reducePow, Nat.zero_add, Nat.add_zero, Nat.reduceAdd, Nat.reduceMul, Nat.reduceSub, xf_same, xq_ff, xq_fo, xf_1, xf_2, xs_1, xs_2, xs_same, xq_so, xj_1, xj_2, xj_same, xq_jo, xq_sa1, xq_same, xq_other, upd_s, oI_n, oI_s, s2]
              refine by_if_ne 110 rfl ?_
              simp (disch := first | exact Nat.ne_of_beq_eq_false rfl | exact rfl | omega) only [nI_add, xa_sub, xa_mul, pk_div, nm_mod, xa_shr, xa_and7, xa_and1, xa_and255, xa_by_and, nI_m1, Nat.add_sub_cancel, Nat.reducePow, Nat.zero_add, Nat.add_zero, Nat.reduceAdd, Nat.reduceMul, Nat.reduceSub, xf_same, xq_ff, xq_fo, xf_1, xf_2, xs_1, xs_2, xs_same, xq_so, xj_1, xj_2, xj_same, xq_jo, xq_sa1, xq_same, xq_other, upd_s, oI_n, oI_s, xv_0, xv_1, xv_2, xv_3, xm_p1, xm_p2, xq_fp, xq_fn, List.filter_nil, Nat.reduceBEq, Bool.not_true, Bool.not_false, Bool.and_true, Bool.and_false, Bool.false_and, Bool.true_and, if_true, if_false, Bool.false_eq_true, reduceIte, xc_i, xc_j, xc_r, xc_n, List.nil_append, List.cons_append, Option.toList_some, Option.toList_none, nI_ltJ, nI_leJ, nI_eqJ, nI_ltz, nI_gez, nI_gtz, nI_lez, nI_eqz, m1_ltz, m1_gez, true_imp_iff, false_imp_iff, true_and, and_true, ne_eq, not_false_eq_true, not_true_eq_false, Nat.reduceEqDiff, Nat.reduceLT, Nat.reduceLeDiff, s2]
              with_reducible refine xm_go_blk b_X12_definitions_110 k_X12_definitions_110 ?_
              refine by_aload_n rfl ?_
              refine by_inv0 cn_216 lk_12_653 (by rw [xe_cnt]; decide) is_220 np_220 cn_220 (by first | exact rfl | assumption) (Nat.le_of_ble_eq_true rfl) ?_
              refine xq_in rfl ?_
              simp only [xq_a0, xq_aI, xq_aJ, xq_aR, Nat.reduceAdd]
              with_reducible refine xm_go_blk b_X12_expression_0 k_X12_expression_0 ?_
              refine by_aload_n rfl ?_
              refine by_iconst ci_0 ?_
              refine by_putf cn_220 fl_12_629 (by first | exact rfl | assumption) (by decide) nf_12_88 ft_12_88 (by first | rfl | assumption) (by first | rfl | assumption) ?_
              refine by_nil ?_
              with_reducible refine xm_go_blk b_X12_expression_5 k_X12_expression_5 ?_
              refine by_aload_n rfl ?_
              refine by_getf cn_220 fl_12_592 (by first | exact rfl | assumption) (by decide) ?_
              simp (disch := first | exact Nat.ne_of_beq_eq_false rfl | exact rfl | omega) only [nI_add, xa_sub, xa_mul, pk_div, nm_mod, xa_shr, xa_and7, xa_and1, xa_and255, xa_by_and, nI_m1, Nat.add_sub_cancel, Nat.reducePow, Nat.zero_add, Nat.add_zero, Nat.reduceAdd, Nat.reduceMul, Nat.reduceSub, xf_same, xq_ff, xq_fo, xf_1, xf_2, xs_1, xs_2, xs_same, xq_so, xj_1, xj_2, xj_same, xq_jo, xq_sa1, xq_same, xq_other, upd_s, oI_n, oI_s, s2]
              refine by_if_ne 73 rfl ?_
              simp (disch := first | exact Nat.ne_of_beq_eq_false rfl | exact rfl | omega) only [nI_add, xa_sub, xa_mul, pk_div, nm_mod, xa_shr, xa_and7, xa_and1, xa_and255, xa_by_and, nI_m1, Nat.add_sub_cancel, Nat.reducePow, Nat.zero_add, Nat.add_zero, Nat.reduceAdd, Nat.reduceMul, Nat.reduceSub, xf_same, xq_ff, xq_fo, xf_1, xf_2, xs_1, xs_2, xs_same, xq_so, xj_1, xj_2, xj_same, xq_jo, xq_sa1, xq_same, xq_other, upd_s, oI_n, oI_s, xv_0, xv_1, xv_2, xv_3, xm_p1, xm_p2, xq_fp, xq_fn, List.filter_nil, Nat.reduceBEq, Bool.not_true, Bool.not_false, Bool.and_true, Bool.and_false, Bool.false_and, Bool.true_and, if_true, if_false, Bool.false_eq_true, reduceIte, xc_i, xc_j, xc_r, xc_n, List.nil_append, List.cons_append, Option.toList_some, Option.toList_none, nI_ltJ, nI_leJ, nI_eqJ, nI_ltz, nI_gez, nI_gtz, nI_lez, nI_eqz, m1_ltz, m1_gez, true_imp_iff, false_imp_iff, true_and, and_true, ne_eq, not_false_eq_true, not_true_eq_false, Nat.reduceEqDiff, Nat.reduceLT, Nat.reduceLeDiff, s2]
              with_reducible refine xm_go_blk b_X12_expression_73 k_X12_expression_73 ?_
              refine by_iconst ci_m1 ?_
              refine by_iret ry_220 (by first | rfl | assumption) ?_
              have s3 : (xm_sf h2 102 88 (.int (nI 0))).2.2 102 81 = .int (nI 1) := by simpa [xm_sf, updV] using s2
              with_reducible refine xm_go_blk b_X12_definitions_114 k_X12_definitions_114 ?_
              refine by_istore_n (by rw [ml_216]; decide) ?_
              refine by_aload_n rfl ?_
              refine by_getf cn_216 fl_12_592 (by first | exact rfl | assumption) (by decide) ?_
              simp (disch := first | exact Nat.ne_of_beq_eq_false rfl | exact rfl | omega) only [nI_add, xa_sub, xa_mul, pk_div, nm_mod, xa_shr, xa_and7, xa_and1, xa_and255, xa_by_and, nI_m1, Nat.add_sub_cancel, Nat.reducePow, Nat.zero_add, Nat.add_zero, Nat.reduceAdd, Nat.reduceMul, Nat.reduceSub, xf_same, xq_ff, xq_fo, xf_1, xf_2, xs_1, xs_2, xs_same, xq_so, xj_1, xj_2, xj_same, xq_jo, xq_sa1, xq_same, xq_other, upd_s, oI_n, oI_s, s2]
              refine by_if_le 124 rfl ?_
              simp (disch := first | exact Nat.ne_of_beq_eq_false rfl | exact rfl | omega) only [nI_add, xa_sub, xa_mul, pk_div, nm_mod, xa_shr, xa_and7, xa_and1, xa_and255, xa_by_and, nI_m1, Nat.add_sub_cancel, Nat.reducePow, Nat.zero_add, Nat.add_zero, Nat.reduceAdd, Nat.reduceMul, Nat.reduceSub, xf_same, xq_ff, xq_fo, xf_1, xf_2, xs_1, xs_2, xs_same, xq_so, xj_1, xj_2, xj_same, xq_jo, xq_sa1, xq_same, xq_other, upd_s, oI_n, oI_s, xv_0, xv_1, xv_2, xv_3, xm_p1, xm_p2, xq_fp, xq_fn, List.filter_nil, Nat.reduceBEq, Bool.not_true, Bool.not_false, Bool.and_true, Bool.and_false, Bool.false_and, Bool.true_and, if_true, if_false, Bool.false_eq_true, reduceIte, xc_i, xc_j, xc_r, xc_n, List.nil_append, List.cons_append, Option.toList_some, Option.toList_none, nI_ltJ, nI_leJ, nI_eqJ, nI_ltz, nI_gez, nI_gtz, nI_lez, nI_eqz, m1_ltz, m1_gez, true_imp_iff, false_imp_iff, true_and, and_true, ne_eq, not_false_eq_true, not_true_eq_false, Nat.reduceEqDiff, Nat.reduceLT, Nat.reduceLeDiff, s2]
              with_reducible refine xm_go_blk b_X12_definitions_122 k_X12_definitions_122 ?_
              refine by_iconst ci_m1 ?_
              refine by_iret ry_216 (by first | rfl | assumption) ?_
              exact hB 1 _ _ (-1) (hD _ hx) (Fr_sf (Fr_tr f1 f2 (by simp) (by simp)) (by simp)) s3 (by decide) (by decide) (by simpa [xm_sf, updV] using q2)
            · obtain ⟨y1, y2, y3⟩ := w2
              have E2 := mEd_w E1' f2
              have g2 : Fr smdR smdT h h2 := Fr_tr f1 f2 (by simp) (by simp)
              have s2 : h2.2.2 102 81 = .int (nI 0) := E2.2.2.2.2.2.2
              by_cases k2 : tkK t (tkE t p1) = 2
              · have lt2 := v4 (by rw [k2]; decide)
                have y3' : h2.2.2 102 83 = .int (nI 1) := by rw [y3, k2]; rfl
                with_reducible refine xm_go_blk b_X12_definitions_85 k_X12_definitions_85 ?_
                refine by_aload_n rfl ?_
                refine by_getf cn_216 fl_12_592 (by first | exact rfl | assumption) (by decide) ?_
                simp (disch := first | exact Nat.ne_of_beq_eq_false rfl | exact rfl | omega) only [nI_add, xa_sub, xa_mul, pk_div, nm_mod, xa_shr, xa_and7, xa_and1, xa_and255, xa_by_and, nI_m1, Nat.add_sub_cancel, Nat.reducePow, Nat.zero_add, Nat.add_zero, Nat.reduceAdd, Nat.reduceMul, Nat.reduceSub, xf_same, xq_ff, xq_fo, xf_1, xf_2, xs_1, xs_2, xs_same, xq_so, xj_1, xj_2, xj_same, xq_jo, xq_sa1, xq_same, xq_other, upd_s, oI_n, oI_s, s2, y3']
                refine by_if_ne 110 rfl ?_
                simp (disch := first | exact Nat.ne_of_beq_eq_false rfl | exact rfl | omega) only [nI_add, xa_sub, xa_mul, pk_div, nm_mod, xa_shr, xa_and7, xa_and1, xa_and255, xa_by_and, nI_m1, Nat.add_sub_cancel, Nat.reducePow, Nat.zero_add, Nat.add_zero, Nat.reduceAdd, Nat.reduceMul, Nat.reduceSub, xf_same, xq_ff, xq_fo, xf_1, xf_2, xs_1, xs_2, xs_same, xq_so, xj_1, xj_2, xj_same, xq_jo, xq_sa1, xq_same, xq_other, upd_s, oI_n, oI_s, xv_0, xv_1, xv_2, xv_3, xm_p1, xm_p2, xq_fp, xq_fn, List.filter_nil, Nat.reduceBEq, Bool.not_true, Bool.not_false, Bool.and_true, Bool.and_false, Bool.false_and, Bool.true_and, if_true, if_false, Bool.false_eq_true, reduceIte, xc_i, xc_j, xc_r, xc_n, List.nil_append, List.cons_append, Option.toList_some, Option.toList_none, nI_ltJ, nI_leJ, nI_eqJ, nI_ltz, nI_gez, nI_gtz, nI_lez, nI_eqz, m1_ltz, m1_gez, true_imp_iff, false_imp_iff, true_and, and_true, ne_eq, not_false_eq_true, not_true_eq_false, Nat.reduceEqDiff, Nat.reduceLT, Nat.reduceLeDiff, s2, y3']
                with_reducible refine xm_go_blk b_X12_definitions_92 k_X12_definitions_92 ?_
                refine by_aload_n rfl ?_
                refine by_getf cn_216 fl_12_601 (by first | exact rfl | assumption) (by decide) ?_
                refine by_iconst ci_1 ?_
                simp (disch := first | exact Nat.ne_of_beq_eq_false rfl | exact rfl | omega) only [nI_add, xa_sub, xa_mul, pk_div, nm_mod, xa_shr, xa_and7, xa_and1, xa_and255, xa_by_and, nI_m1, Nat.add_sub_cancel, Nat.reducePow, Nat.zero_add, Nat.add_zero, Nat.reduceAdd, Nat.reduceMul, Nat.reduceSub, xf_same, xq_ff, xq_fo, xf_1, xf_2, xs_1, xs_2, xs_same, xq_so, xj_1, xj_2, xj_same, xq_jo, xq_sa1, xq_same, xq_other, upd_s, oI_n, oI_s, s2, y3']
                refine by_ic_eq 110 rfl ?_
                simp (disch := first | exact Nat.ne_of_beq_eq_false rfl | exact rfl | omega) only [nI_add, xa_sub, xa_mul, pk_div, nm_mod, xa_shr, xa_and7, xa_and1, xa_and255, xa_by_and, nI_m1, Nat.add_sub_cancel, Nat.reducePow, Nat.zero_add, Nat.add_zero, Nat.reduceAdd, Nat.reduceMul, Nat.reduceSub, xf_same, xq_ff, xq_fo, xf_1, xf_2, xs_1, xs_2, xs_same, xq_so, xj_1, xj_2, xj_same, xq_jo, xq_sa1, xq_same, xq_other, upd_s, oI_n, oI_s, xv_0, xv_1, xv_2, xv_3, xm_p1, xm_p2, xq_fp, xq_fn, List.filter_nil, Nat.reduceBEq, Bool.not_true, Bool.not_false, Bool.and_true, Bool.and_false, Bool.false_and, Bool.true_and, if_true, if_false, Bool.false_eq_true, reduceIte, xc_i, xc_j, xc_r, xc_n, List.nil_append, List.cons_append, Option.toList_some, Option.toList_none, nI_ltJ, nI_leJ, nI_eqJ, nI_ltz, nI_gez, nI_gtz, nI_lez, nI_eqz, m1_ltz, m1_gez, true_imp_iff, false_imp_iff, true_and, and_true, ne_eq, not_false_eq_true, not_true_eq_false, Nat.reduceEqDiff, Nat.reduceLT, Nat.reduceLeDiff, s2, y3']
                with_reducible refine xm_go_blk b_X12_definitions_110 k_X12_definitions_110 ?_
                refine by_aload_n rfl ?_
                refine by_inv0 cn_216 lk_12_653 (by rw [xe_cnt]; decide) is_220 np_220 cn_220 (by first | exact rfl | assumption) (Nat.le_of_ble_eq_true rfl) ?_
                refine sp_mexpression (d := d) E2.1 (mEd_D E2) I1 y1 v3 (by omega) (fun e f h3 hx f3 s3 e1 e2 q3 => ?_) (fun G3 p3 n h3 hx f3 T3 I3 n3 hp3 hp3t sa3 q3 => ?_)
                · have ne : (e = 0) = False := eq_false (by omega)
                  with_reducible refine xm_go_blk b_X12_definitions_114 k_X12_definitions_114 ?_
                  refine by_istore_n (by rw [ml_216]; decide) ?_
                  refine by_aload_n rfl ?_
                  refine by_getf cn_216 fl_12_592 (by first | exact rfl | assumption) (by decide) ?_
                  simp (disch := first | exact Nat.ne_of_beq_eq_false rfl | exact rfl | omega) only [nI_add, xa_sub, xa_mul, pk_div, nm_mod, xa_shr, xa_and7, xa_and1, xa_and255, xa_by_and, nI_m1, Nat.add_sub_cancel, Nat.reducePow, Nat.zero_add, Nat.add_zero, Nat.reduceAdd, Nat.reduceMul, Nat.reduceSub, xf_same, xq_ff, xq_fo, xf_1, xf_2, xs_1, xs_2, xs_same, xq_so, xj_1, xj_2, xj_same, xq_jo, xq_sa1, xq_same, xq_other, upd_s, oI_n, oI_s, s3, ne]
                  refine by_if_le 124 rfl ?_
                  simp (disch := first | exact Nat.ne_of_beq_eq_false rfl | exact rfl | omega) only [nI_add, xa_sub, xa_mul, pk_div, nm_mod, xa_shr, xa_and7, xa_and1, xa_and255, xa_by_and, nI_m1, Nat.add_sub_cancel, Nat.reducePow, Nat.zero_add, Nat.add_zero, Nat.reduceAdd, Nat.reduceMul, Nat.reduceSub, xf_same, xq_ff, xq_fo, xf_1, xf_2, xs_1, xs_2, xs_same, xq_so, xj_1, xj_2, xj_same, xq_jo, xq_sa1, xq_same, xq_other, upd_s, oI_n, oI_s, xv_0, xv_1, xv_2, xv_3, xm_p1, xm_p2, xq_fp, xq_fn, List.filter_nil, Nat.reduceBEq, Bool.not_true, Bool.not_false, Bool.and_true, Bool.and_false, Bool.false_and, Bool.true_and, if_true, if_false, Bool.false_eq_true, reduceIte, xc_i, xc_j, xc_r, xc_n, List.nil_append, List.cons_append, Option.toList_some, Option.toList_none, nI_ltJ, nI_leJ, nI_eqJ, nI_ltz, nI_gez, nI_gtz, nI_lez, nI_eqz, m1_ltz, m1_gez, true_imp_iff, false_imp_iff, true_and, and_true, ne_eq, not_false_eq_true, not_true_eq_false, Nat.reduceEqDiff, Nat.reduceLT, Nat.reduceLeDiff, s3, ne]
                  with_reducible refine xm_go_blk b_X12_definitions_122 k_X12_definitions_122 ?_
                  refine by_iconst ci_m1 ?_
                  refine by_iret ry_216 (by first | rfl | assumption) ?_
                  exact hB e f h3 (-1) (hD _ (sD_xb kz hw et en k2 hx)) (Fr_tr g2 f3 (by simp) (by simp)) s3 e1 e2 q3
                · have E3 := mEd_T T3
                  have s3 := E3.2.2.2.2.2.2
                  have n85 := E3.2.2.2.1.1
                  have hN : sCt G3 ≤ 2000 := by obtain ⟨⟨rk, M, hd⟩, _⟩ := I3; exact hd.1
                  have F3 := E3.1
                  let h4 := xm_sf (xm_si (xm_sl h3 157 NL1.length (lN (v6 w))) 158 NL1.length (nI n)) 102 85 (.int (nI (NL1.length + 1)))
                  have f4 : Fr [157, 158] [(102, 85)] h3 h4 := Fr_sf (Fr_si (Fr_sl Fr_rf (by simp)) (by simp)) (by simp)
                  have E4 : mEd h4 t (NL1 ++ [(w, n)]) G3 := by
                    obtain ⟨z1, z2, z3, z4, z5, z6, z7⟩ := E3
                    exact ⟨Fr_XF z1 f4 (by decide +kernel), mtp_fr z2 f4 (by simp) (by simp), tgM_fr z3 f4 (by simp), nmM_add z4 hW (by omega) (by omega) (by simp [h4, xm_sf, updV]) (by simp [h4, xm_sf, xm_si, xm_sl]) (by simp [h4, xm_sf, xm_si, xm_sl]), by rw [f4.2.2 _ _ (by simp)]; exact z5, mG0_fr z6 f4 (by simp) (by simp), by rw [f4.2.2 _ _ (by simp)]; exact z7⟩
                  have sa4 : h4.2.2 102 82 = .int (nI p3) := by rw [f4.2.2 _ _ (by simp)]; exact sa3
                  have g4 : Fr smdR smdT h h4 := Fr_tr (Fr_tr g2 f3 (by simp) (by simp)) f4 (by simp) (by simp)
                  have I4 : sInv t (NL1 ++ [(w, n)]) G3 [] := sInv_nm I3 n3
                  have D4 : ∀ o, (∃ k, sDf t k G3 (NL1 ++ [(w, n)]) p3 = some o) → ∃ k, sDf t k sG0 [] 0 = some o := fun o ho => hD o (sD_xg kz hw et en k2 hx ho)
                  have q4 : h4.2.2 102 36 = h.2.2 102 36 := by rw [f4.2.2 _ _ (by simp), q3, f2.2.2 _ _ (by simp)]; exact q1
                  have ne4 : NL1 ++ [(w, n)] ≠ [] := by simp
                  with_reducible refine xm_go_blk b_X12_definitions_114 k_X12_definitions_114 ?_
                  refine by_istore_n (by rw [ml_216]; decide) ?_
                  refine by_aload_n rfl ?_
                  refine by_getf cn_216 fl_12_592 (by first | exact rfl | assumption) (by decide) ?_
                  simp (disch := first | exact Nat.ne_of_beq_eq_false rfl | exact rfl | omega) only [nI_add, xa_sub, xa_mul, pk_div, nm_mod, xa_shr, xa_and7, xa_and1, xa_and255, xa_by_and, nI_m1, Nat.add_sub_cancel, Nat.reducePow, Nat.zero_add, Nat.add_zero, Nat.reduceAdd, Nat.reduceMul, Nat.reduceSub, xf_same, xq_ff, xq_fo, xf_1, xf_2, xs_1, xs_2, xs_same, xq_so, xj_1, xj_2, xj_same, xq_jo, xq_sa1, xq_same, xq_other, upd_s, oI_n, oI_s, s3, xf_102_86 F3, xf_102_87 F3, n85]
                  refine by_if_le 124 rfl ?_
                  simp (disch := first | exact Nat.ne_of_beq_eq_false rfl | exact rfl | omega) only [nI_add, xa_sub, xa_mul, pk_div, nm_mod, xa_shr, xa_and7, xa_and1, xa_and255, xa_by_and, nI_m1, Nat.add_sub_cancel, Nat.reducePow, Nat.zero_add, Nat.add_zero, Nat.reduceAdd, Nat.reduceMul, Nat.reduceSub, xf_same, xq_ff, xq_fo, xf_1, xf_2, xs_1, xs_2, xs_same, xq_so, xj_1, xj_2, xj_same, xq_jo, xq_sa1, xq_same, xq_other, upd_s, oI_n, oI_s, xv_0, xv_1, xv_2, xv_3, xm_p1, xm_p2, xq_fp, xq_fn, List.filter_nil, Nat.reduceBEq, Bool.not_true, Bool.not_false, Bool.and_true, Bool.and_false, Bool.false_and, Bool.true_and, if_true, if_false, Bool.false_eq_true, reduceIte, xc_i, xc_j, xc_r, xc_n, List.nil_append, List.cons_append, Option.toList_some, Option.toList_none, nI_ltJ, nI_leJ, nI_eqJ, nI_ltz, nI_gez, nI_gtz, nI_lez, nI_eqz, m1_ltz, m1_gez, true_imp_iff, false_imp_iff, true_and, and_true, ne_eq, not_false_eq_true, not_true_eq_false, Nat.reduceEqDiff, Nat.reduceLT, Nat.reduceLeDiff, s3, xf_102_86 F3, xf_102_87 F3, n85]
                  with_reducible refine xm_go_blk b_X12_definitions_124 k_X12_definitions_124 ?_
                  refine by_aload_n rfl ?_
                  refine by_getf cn_216 fl_12_178 (by first | exact rfl | assumption) (by decide) ?_
                  refine by_aload_n rfl ?_
                  refine by_getf cn_216 fl_12_610 (by first | exact rfl | assumption) (by decide) ?_
                  refine by_lload_n rfl ?_
                  simp (disch := first | exact Nat.ne_of_beq_eq_false rfl | exact rfl | omega) only [nI_add, xa_sub, xa_mul, pk_div, nm_mod, xa_shr, xa_and7, xa_and1, xa_and255, xa_by_and, nI_m1, Nat.add_sub_cancel, Nat.reducePow, Nat.zero_add, Nat.add_zero, Nat.reduceAdd, Nat.reduceMul, Nat.reduceSub, xf_same, xq_ff, xq_fo, xf_1, xf_2, xs_1, xs_2, xs_same, xq_so, xj_1, xj_2, xj_same, xq_jo, xq_sa1, xq_same, xq_other, upd_s, oI_n, oI_s, s3, xf_102_86 F3, xf_102_87 F3, n85]
                  refine by_last (by first | exact rfl | assumption) ⟨by omega, by omega⟩ ?_
                  refine by_aload_n rfl ?_
                  refine by_getf cn_216 fl_12_181 (by first | exact rfl | assumption) (by decide) ?_
                  refine by_aload_n rfl ?_
                  refine by_getf cn_216 fl_12_610 (by first | exact rfl | assumption) (by decide) ?_
                  refine by_iload_n rfl ?_
                  simp (disch := first | exact Nat.ne_of_beq_eq_false rfl | exact rfl | omega) only [nI_add, xa_sub, xa_mul, pk_div, nm_mod, xa_shr, xa_and7, xa_and1, xa_and255, xa_by_and, nI_m1, Nat.add_sub_cancel, Nat.reducePow, Nat.zero_add, Nat.add_zero, Nat.reduceAdd, Nat.reduceMul, Nat.reduceSub, xf_same, xq_ff, xq_fo, xf_1, xf_2, xs_1, xs_2, xs_same, xq_so, xj_1, xj_2, xj_same, xq_jo, xq_sa1, xq_same, xq_other, upd_s, oI_n, oI_s, s3, xf_102_86 F3, xf_102_87 F3, n85]
                  refine by_iast (by first | exact rfl | assumption | exact ps_1 hpp | exact ps_2 hpp | exact ps_3 hpp | exact ps_4 hpp | exact ps_5 hpp | exact ps_6 hpp | exact ps_7 hpp | exact ps_8 hpp | exact ps_9 hpp | exact ps_10 hpp | exact ps_11 hpp | exact ps_15 hpp | exact ps_16 hpp | exact ps_17 hpp | exact ps_18 hpp | exact ps_19 hpp | exact ps_21 hpp | exact ps_22 hpp | exact ps_23 hpp | exact ps_24 hpp) ⟨by omega, by omega⟩ ?_
                  refine by_aload_n rfl ?_
                  refine by_dup rfl ?_
                  refine by_getf cn_216 fl_12_610 (by first | exact rfl | assumption) (by decide) ?_
                  refine by_iconst ci_1 ?_
                  simp (disch := first | exact Nat.ne_of_beq_eq_false rfl | exact rfl | omega) only [nI_add, xa_sub, xa_mul, pk_div, nm_mod, xa_shr, xa_and7, xa_and1, xa_and255, xa_by_and, nI_m1, Nat.add_sub_cancel, Nat.reducePow, Nat.zero_add, Nat.add_zero, Nat.reduceAdd, Nat.reduceMul, Nat.reduceSub, xf_same, xq_ff, xq_fo, xf_1, xf_2, xs_1, xs_2, xs_same, xq_so, xj_1, xj_2, xj_same, xq_jo, xq_sa1, xq_same, xq_other, upd_s, oI_n, oI_s, s3, xf_102_86 F3, xf_102_87 F3, n85]
                  refine by_iadd ?_
                  refine by_putf cn_216 fl_12_610 (by first | exact rfl | assumption) (by decide) nf_12_85 ft_12_85 (by first | rfl | assumption) (by first | rfl | assumption) ?_
                  refine by_aload_n rfl ?_
                  simp (disch := first | exact Nat.ne_of_beq_eq_false rfl | exact rfl | omega) only [nI_add, xa_sub, xa_mul, pk_div, nm_mod, xa_shr, xa_and7, xa_and1, xa_and255, xa_by_and, nI_m1, Nat.add_sub_cancel, Nat.reducePow, Nat.zero_add, Nat.add_zero, Nat.reduceAdd, Nat.reduceMul, Nat.reduceSub, xf_same, xq_ff, xq_fo, xf_1, xf_2, xs_1, xs_2, xs_same, xq_so, xj_1, xj_2, xj_same, xq_jo, xq_sa1, xq_same, xq_other, upd_s, oI_n, oI_s, xv_0, xv_1, xv_2, xv_3, xm_p1, xm_p2, xq_fp, xq_fn, List.filter_nil, Nat.reduceBEq, Bool.not_true, Bool.not_false, Bool.and_true, Bool.and_false, Bool.false_and, Bool.true_and, if_true, if_false, Bool.false_eq_true, reduceIte, xc_i, xc_j, xc_r, xc_n, List.nil_append, List.cons_append, Option.toList_some, Option.toList_none, s3, xf_102_86 F3, xf_102_87 F3, n85]
                  refine by_inv0 cn_216 lk_12_613 (by rw [xe_cnt]; decide) is_267 np_267 cn_267 (by first | exact rfl | assumption) (Nat.le_of_ble_eq_true rfl) ?_
                  refine sp_mnextWord2 (d := d + 4) E4.1 E4.2.1 sa4 E4.2.2.2.2.2.2 hp3t (fun h5 kk5 f5 s5 q5 z5 => ?_) (fun h5 kk5 f5 w5 => ?_)
                  · have hn5 : wdO t p3 = none := by unfold wdO; rw [if_neg (by rw [kk5]; intro z; cases z.1)]
                    have hx5 := D4 _ (sD_1 (G := G3) (by rw [kk5]; intro z; cases z.1) (Or.inl hn5))
                    with_reducible refine xm_go_blk b_X12_definitions_158 k_X12_definitions_158 ?_
                    refine by_aload_n rfl ?_
                    refine by_getf cn_216 fl_12_601 (by first | exact rfl | assumption) (by decide) ?_
                    simp (disch := first | exact Nat.ne_of_beq_eq_false rfl | exact rfl | omega) only [nI_add, xa_sub, xa_mul, pk_div, nm_mod, xa_shr, xa_and7, xa_and1, xa_and255, xa_by_and, nI_m1, Nat.add_sub_cancel, Nat.reducePow, Nat.zero_add, Nat.add_zero, Nat.reduceAdd, Nat.reduceMul, Nat.reduceSub, xf_same, xq_ff, xq_fo, xf_1, xf_2, xs_1, xs_2, xs_same, xq_so, xj_1, xj_2, xj_same, xq_jo, xq_sa1, xq_same, xq_other, upd_s, oI_n, oI_s, z5]
                    refine by_if_eq 169 rfl ?_
                    simp (disch := first | exact Nat.ne_of_beq_eq_false rfl | exact rfl | omega) only [nI_add, xa_sub, xa_mul, pk_div, nm_mod, xa_shr, xa_and7, xa_and1, xa_and255, xa_by_and, nI_m1, Nat.add_sub_cancel, Nat.reducePow, Nat.zero_add, Nat.add_zero, Nat.reduceAdd, Nat.reduceMul, Nat.reduceSub, xf_same, xq_ff, xq_fo, xf_1, xf_2, xs_1, xs_2, xs_same, xq_so, xj_1, xj_2, xj_same, xq_jo, xq_sa1, xq_same, xq_other, upd_s, oI_n, oI_s, xv_0, xv_1, xv_2, xv_3, xm_p1, xm_p2, xq_fp, xq_fn, List.filter_nil, Nat.reduceBEq, Bool.not_true, Bool.not_false, Bool.and_true, Bool.and_false, Bool.false_and, Bool.true_and, if_true, if_false, Bool.false_eq_true, reduceIte, xc_i, xc_j, xc_r, xc_n, List.nil_append, List.cons_append, Option.toList_some, Option.toList_none, nI_ltJ, nI_leJ, nI_eqJ, nI_ltz, nI_gez, nI_gtz, nI_lez, nI_eqz, m1_ltz, m1_gez, true_imp_iff, false_imp_iff, true_and, and_true, ne_eq, not_false_eq_true, not_true_eq_false, Nat.reduceEqDiff, Nat.reduceLT, Nat.reduceLeDiff, z5]
                    with_reducible refine xm_go_blk b_X12_definitions_169 k_X12_definitions_169 ?_
                    refine by_iconst ci_0 ?_
                    refine by_nil ?_
                    with_reducible refine xm_go_blk b_X12_definitions_170 k_X12_definitions_170 ?_
                    refine by_istore_n (by rw [ml_216]; decide) ?_
                    refine by_goto 23 rfl ?_
                    try simp (disch := first | exact Nat.ne_of_beq_eq_false rfl | exact rfl | omega) only [nI_add, xa_sub, xa_mul, pk_div, nm_mod, xa_shr, xa_and7, xa_and1, xa_and255, xa_by_and, nI_m1, Nat.add_sub_cancel, Nat.reducePow, Nat.zero_add, Nat.add_zero, Nat.reduceAdd, Nat.reduceMul, Nat.reduceSub, xf_same, xq_ff, xq_fo, xf_1, xf_2, xs_1, xs_2, xs_same, xq_so, xj_1, xj_2, xj_same, xq_jo, xq_sa1, xq_same, xq_other, upd_s, oI_n, oI_s, xv_0, xv_1, xv_2, xv_3, xm_p1, xm_p2, xq_fp, xq_fn, List.filter_nil, Nat.reduceBEq, Bool.not_true, Bool.not_false, Bool.and_true, Bool.and_false, Bool.false_and, Bool.true_and, if_true, if_false, Bool.false_eq_true, reduceIte, xc_i, xc_j, xc_r, xc_n, List.nil_append, List.cons_append, Option.toList_some, Option.toList_none, z5]
                    exact xm_go_wk (by simp [Value.category]) (bad 1 _ h5 (nI n) (nI 0) hx5 (Fr_tr g4 f5 (by simp) (by simp)) s5 (by decide) (by decide) q5)
                  · have E5 := mEd_w E4 f5
                    have s5 := E5.2.2.2.2.2.2
                    have w5' := w5
                    obtain ⟨x1, x2, x3⟩ := w5
                    have g5 : Fr smdR smdT h h5 := Fr_tr g4 f5 (by simp) (by simp)
                    have q5 : h5.2.2 102 36 = h.2.2 102 36 := by rw [f5.2.2 _ _ (by simp)]; exact q4
                    have hk5 := tkK_le t p3
                    by_cases k0 : tkK t p3 = 0
                    · have x3' : h5.2.2 102 83 = .int (nI 0) := by rw [x3, k0]; rfl
                      with_reducible refine xm_go_blk b_X12_definitions_158 k_X12_definitions_158 ?_
                      refine by_aload_n rfl ?_
                      refine by_getf cn_216 fl_12_601 (by first | exact rfl | assumption) (by decide) ?_
                      simp (disch := first | exact Nat.ne_of_beq_eq_false rfl | exact rfl | omega) only [nI_add, xa_sub, xa_mul, pk_div, nm_mod, xa_shr, xa_and7, xa_and1, xa_and255, xa_by_and, nI_m1, Nat.add_sub_cancel, Nat.reducePow, Nat.zero_add, Nat.add_zero, Nat.reduceAdd, Nat.reduceMul, Nat.reduceSub, xf_same, xq_ff, xq_fo, xf_1, xf_2, xs_1, xs_2, xs_same, xq_so, xj_1, xj_2, xj_same, xq_jo, xq_sa1, xq_same, xq_other, upd_s, oI_n, oI_s, x3', s5]
                      refine by_if_eq 169 rfl ?_
                      simp (disch := first | exact Nat.ne_of_beq_eq_false rfl | exact rfl | omega) only [nI_add, xa_sub, xa_mul, pk_div, nm_mod, xa_shr, xa_and7, xa_and1, xa_and255, xa_by_and, nI_m1, Nat.add_sub_cancel, Nat.reducePow, Nat.zero_add, Nat.add_zero, Nat.reduceAdd, Nat.reduceMul, Nat.reduceSub, xf_same, xq_ff, xq_fo, xf_1, xf_2, xs_1, xs_2, xs_same, xq_so, xj_1, xj_2, xj_same, xq_jo, xq_sa1, xq_same, xq_other, upd_s, oI_n, oI_s, xv_0, xv_1, xv_2, xv_3, xm_p1, xm_p2, xq_fp, xq_fn, List.filter_nil, Nat.reduceBEq, Bool.not_true, Bool.not_false, Bool.and_true, Bool.and_false, Bool.false_and, Bool.true_and, if_true, if_false, Bool.false_eq_true, reduceIte, xc_i, xc_j, xc_r, xc_n, List.nil_append, List.cons_append, Option.toList_some, Option.toList_none, nI_ltJ, nI_leJ, nI_eqJ, nI_ltz, nI_gez, nI_gtz, nI_lez, nI_eqz, m1_ltz, m1_gez, true_imp_iff, false_imp_iff, true_and, and_true, ne_eq, not_false_eq_true, not_true_eq_false, Nat.reduceEqDiff, Nat.reduceLT, Nat.reduceLeDiff, x3', s5]
                      with_reducible refine xm_go_blk b_X12_definitions_169 k_X12_definitions_169 ?_
                      refine by_iconst ci_0 ?_
                      refine by_nil ?_
                      with_reducible refine xm_go_blk b_X12_definitions_170 k_X12_definitions_170 ?_
                      refine by_istore_n (by rw [ml_216]; decide) ?_
                      refine by_goto 23 rfl ?_
                      try simp (disch := first | exact Nat.ne_of_beq_eq_false rfl | exact rfl | omega) only [nI_add, xa_sub, xa_mul, pk_div, nm_mod, xa_shr, xa_and7, xa_and1, xa_and255, xa_by_and, nI_m1, Nat.add_sub_cancel, Nat.reducePow, Nat.zero_add, Nat.add_zero, Nat.reduceAdd, Nat.reduceMul, Nat.reduceSub, xf_same, xq_ff, xq_fo, xf_1, xf_2, xs_1, xs_2, xs_same, xq_so, xj_1, xj_2, xj_same, xq_jo, xq_sa1, xq_same, xq_other, upd_s, oI_n, oI_s, xv_0, xv_1, xv_2, xv_3, xm_p1, xm_p2, xq_fp, xq_fn, List.filter_nil, Nat.reduceBEq, Bool.not_true, Bool.not_false, Bool.and_true, Bool.and_false, Bool.false_and, Bool.true_and, if_true, if_false, Bool.false_eq_true, reduceIte, xc_i, xc_j, xc_r, xc_n, List.nil_append, List.cons_append, Option.toList_some, Option.toList_none, x3', s5]
                      with_reducible refine xm_go_blk b_X12_definitions_23 k_X12_definitions_23 ?_
                      refine by_aload_n rfl ?_
                      refine by_getf cn_216 fl_12_592 (by first | exact rfl | assumption) (by decide) ?_
                      simp (disch := first | exact Nat.ne_of_beq_eq_false rfl | exact rfl | omega) only [nI_add, xa_sub, xa_mul, pk_div, nm_mod, xa_shr, xa_and7, xa_and1, xa_and255, xa_by_and, nI_m1, Nat.add_sub_cancel, Nat.reducePow, Nat.zero_add, Nat.add_zero, Nat.reduceAdd, Nat.reduceMul, Nat.reduceSub, xf_same, xq_ff, xq_fo, xf_1, xf_2, xs_1, xs_2, xs_same, xq_so, xj_1, xj_2, xj_same, xq_jo, xq_sa1, xq_same, xq_other, upd_s, oI_n, oI_s, x3', s5]
                      refine by_if_ne 174 rfl ?_
                      simp (disch := first | exact Nat.ne_of_beq_eq_false rfl | exact rfl | omega) only [nI_add, xa_sub, xa_mul, pk_div, nm_mod, xa_shr, xa_and7, xa_and1, xa_and255, xa_by_and, nI_m1, Nat.add_sub_cancel, Nat.reducePow, Nat.zero_add, Nat.add_zero, Nat.reduceAdd, Nat.reduceMul, Nat.reduceSub, xf_same, xq_ff, xq_fo, xf_1, xf_2, xs_1, xs_2, xs_same, xq_so, xj_1, xj_2, xj_same, xq_jo, xq_sa1, xq_same, xq_other, upd_s, oI_n, oI_s, xv_0, xv_1, xv_2, xv_3, xm_p1, xm_p2, xq_fp, xq_fn, List.filter_nil, Nat.reduceBEq, Bool.not_true, Bool.not_false, Bool.and_true, Bool.and_false, Bool.false_and, Bool.true_and, if_true, if_false, Bool.false_eq_true, reduceIte, xc_i, xc_j, xc_r, xc_n, List.nil_append, List.cons_append, Option.toList_some, Option.toList_none, nI_ltJ, nI_leJ, nI_eqJ, nI_ltz, nI_gez, nI_gtz, nI_lez, nI_eqz, m1_ltz, m1_gez, true_imp_iff, false_imp_iff, true_and, and_true, ne_eq, not_false_eq_true, not_true_eq_false, Nat.reduceEqDiff, Nat.reduceLT, Nat.reduceLeDiff, x3', s5]
                      with_reducible refine xm_go_blk b_X12_definitions_30 k_X12_definitions_30 ?_
                      refine by_iload_n rfl ?_
                      refine by_if_eq 174 rfl ?_
                      simp (disch := first | exact Nat.ne_of_beq_eq_false rfl | exact rfl | omega) only [nI_add, xa_sub, xa_mul, pk_div, nm_mod, xa_shr, xa_and7, xa_and1, xa_and255, xa_by_and, nI_m1, Nat.add_sub_cancel, Nat.reducePow, Nat.zero_add, Nat.add_zero, Nat.reduceAdd, Nat.reduceMul, Nat.reduceSub, xf_same, xq_ff, xq_fo, xf_1, xf_2, xs_1, xs_2, xs_same, xq_so, xj_1, xj_2, xj_same, xq_jo, xq_sa1, xq_same, xq_other, upd_s, oI_n, oI_s, xv_0, xv_1, xv_2, xv_3, xm_p1, xm_p2, xq_fp, xq_fn, List.filter_nil, Nat.reduceBEq, Bool.not_true, Bool.not_false, Bool.and_true, Bool.and_false, Bool.false_and, Bool.true_and, if_true, if_false, Bool.false_eq_true, reduceIte, xc_i, xc_j, xc_r, xc_n, List.nil_append, List.cons_append, Option.toList_some, Option.toList_none, nI_ltJ, nI_leJ, nI_eqJ, nI_ltz, nI_gez, nI_gtz, nI_lez, nI_eqz, m1_ltz, m1_gez, true_imp_iff, false_imp_iff, true_and, and_true, ne_eq, not_false_eq_true, not_true_eq_false, Nat.reduceEqDiff, Nat.reduceLT, Nat.reduceLeDiff, x3', s5]
                      with_reducible refine xm_go_blk b_X12_definitions_174 k_X12_definitions_174 ?_
                      refine by_iload_n rfl ?_
                      refine by_iret ry_216 (by first | rfl | assumption) ?_
                      exact hG G3 NL1 w n h5 (D4 _ (sD_e k0 ne4)) g5 E5 I4 q5
                    · have m0 : (mkk (tkK t p3) = 0) = False := eq_false (by unfold mkk; omega)
                      have m9 : mkk (tkK t p3) < 2147483648 := by unfold mkk; omega
                      with_reducible refine xm_go_blk b_X12_definitions_158 k_X12_definitions_158 ?_
                      refine by_aload_n rfl ?_
                      refine by_getf cn_216 fl_12_601 (by first | exact rfl | assumption) (by decide) ?_
                      simp (disch := first | exact Nat.ne_of_beq_eq_false rfl | exact rfl | omega) only [nI_add, xa_sub, xa_mul, pk_div, nm_mod, xa_shr, xa_and7, xa_and1, xa_and255, xa_by_and, nI_m1, Nat.add_sub_cancel, Nat.reducePow, Nat.zero_add, Nat.add_zero, Nat.reduceAdd, Nat.reduceMul, Nat.reduceSub, xf_same, xq_ff, xq_fo, xf_1, xf_2, xs_1, xs_2, xs_same, xq_so, xj_1, xj_2, xj_same, xq_jo, xq_sa1, xq_same, xq_other, upd_s, oI_n, oI_s, x3, m0]
                      refine by_if_eq 169 rfl ?_
                      simp (disch := first | exact Nat.ne_of_beq_eq_false rfl | exact rfl | omega) only [nI_add, xa_sub, xa_mul, pk_div, nm_mod, xa_shr, xa_and7, xa_and1, xa_and255, xa_by_and, nI_m1, Nat.add_sub_cancel, Nat.reducePow, Nat.zero_add, Nat.add_zero, Nat.reduceAdd, Nat.reduceMul, Nat.reduceSub, xf_same, xq_ff, xq_fo, xf_1, xf_2, xs_1, xs_2, xs_same, xq_so, xj_1, xj_2, xj_same, xq_jo, xq_sa1, xq_same, xq_other, upd_s, oI_n, oI_s, xv_0, xv_1, xv_2, xv_3, xm_p1, xm_p2, xq_fp, xq_fn, List.filter_nil, Nat.reduceBEq, Bool.not_true, Bool.not_false, Bool.and_true, Bool.and_false, Bool.false_and, Bool.true_and, if_true, if_false, Bool.false_eq_true, reduceIte, xc_i, xc_j, xc_r, xc_n, List.nil_append, List.cons_append, Option.toList_some, Option.toList_none, nI_ltJ, nI_leJ, nI_eqJ, nI_ltz, nI_gez, nI_gtz, nI_lez, nI_eqz, m1_ltz, m1_gez, true_imp_iff, false_imp_iff, true_and, and_true, ne_eq, not_false_eq_true, not_true_eq_false, Nat.reduceEqDiff, Nat.reduceLT, Nat.reduceLeDiff, x3, m0]
                      with_reducible refine xm_go_blk b_X12_definitions_165 k_X12_definitions_165 ?_
                      refine by_iconst ci_1 ?_
                      refine by_goto 170 rfl ?_
                      with_reducible refine xm_go_blk b_X12_definitions_170 k_X12_definitions_170 ?_
                      refine by_istore_n (by rw [ml_216]; decide) ?_
                      refine by_goto 23 rfl ?_
                      try simp (disch := first | exact Nat.ne_of_beq_eq_false rfl | exact rfl | omega) only [nI_add, xa_sub, xa_mul, pk_div, nm_mod, xa_shr, xa_and7, xa_and1, xa_and255, xa_by_and, nI_m1, Nat.add_sub_cancel, Nat.reducePow, Nat.zero_add, Nat.add_zero, Nat.reduceAdd, Nat.reduceMul, Nat.reduceSub, xf_same, xq_ff, xq_fo, xf_1, xf_2, xs_1, xs_2, xs_same, xq_so, xj_1, xj_2, xj_same, xq_jo, xq_sa1, xq_same, xq_other, upd_s, oI_n, oI_s, xv_0, xv_1, xv_2, xv_3, xm_p1, xm_p2, xq_fp, xq_fn, List.filter_nil, Nat.reduceBEq, Bool.not_true, Bool.not_false, Bool.and_true, Bool.and_false, Bool.false_and, Bool.true_and, if_true, if_false, Bool.false_eq_true, reduceIte, xc_i, xc_j, xc_r, xc_n, List.nil_append, List.cons_append, Option.toList_some, Option.toList_none, x3, m0]
                      exact xm_go_wk (by simp [Value.category]) (ih G3 (NL1 ++ [(w, n)]) p3 h5 (nI n) (by omega) D4 E5 I4 w5' kk5 (fun z => k0 z.1) hp3t (by simp; omega) g5 q5)
              · have hk5 := tkK_le t (tkE t p1)
                have m1 : (mkk (tkK t (tkE t p1)) = 1) = False := eq_false (by unfold mkk; omega)
                have m9 : mkk (tkK t (tkE t p1)) < 2147483648 := by unfold mkk; omega
                with_reducible refine xm_go_blk b_X12_definitions_85 k_X12_definitions_85 ?_
                refine by_aload_n rfl ?_
                refine by_getf cn_216 fl_12_592 (by first | exact rfl | assumption) (by decide) ?_
                simp (disch := first | exact Nat.ne_of_beq_eq_false rfl | exact rfl | omega) only [nI_add, xa_sub, xa_mul, pk_div, nm_mod, xa_shr, xa_and7, xa_and1, xa_and255, xa_by_and, nI_m1, Nat.add_sub_cancel, Nat.reducePow, Nat.zero_add, Nat.add_zero, Nat.reduceAdd, Nat.reduceMul, Nat.reduceSub, xf_same, xq_ff, xq_fo, xf_1, xf_2, xs_1, xs_2, xs_same, xq_so, xj_1, xj_2, xj_same, xq_jo, xq_sa1, xq_same, xq_other, upd_s, oI_n, oI_s, s2, y3, m1, y2]
                refine by_if_ne 110 rfl ?_
                simp (disch := first | exact Nat.ne_of_beq_eq_false rfl | exact rfl | omega) only [nI_add, xa_sub, xa_mul, pk_div, nm_mod, xa_shr, xa_and7, xa_and1, xa_and255, xa_by_and, nI_m1, Nat.add_sub_cancel, Nat.reducePow, Nat.zero_add, Nat.add_zero, Nat.reduceAdd, Nat.reduceMul, Nat.reduceSub, xf_same, xq_ff, xq_fo, xf_1, xf_2, xs_1, xs_2, xs_same, xq_so, xj_1, xj_2, xj_same, xq_jo, xq_sa1, xq_same, xq_other, upd_s, oI_n, oI_s, xv_0, xv_1, xv_2, xv_3, xm_p1, xm_p2, xq_fp, xq_fn, List.filter_nil, Nat.reduceBEq, Bool.not_true, Bool.not_false, Bool.and_true, Bool.and_false, Bool.false_and, Bool.true_and, if_true, if_false, Bool.false_eq_true, reduceIte, xc_i, xc_j, xc_r, xc_n, List.nil_append, List.cons_append, Option.toList_some, Option.toList_none, nI_ltJ, nI_leJ, nI_eqJ, nI_ltz, nI_gez, nI_gtz, nI_lez, nI_eqz, m1_ltz, m1_gez, true_imp_iff, false_imp_iff, true_and, and_true, ne_eq, not_false_eq_true, not_true_eq_false, Nat.reduceEqDiff, Nat.reduceLT, Nat.reduceLeDiff, s2, y3, m1, y2]
                with_reducible refine xm_go_blk b_X12_definitions_92 k_X12_definitions_92 ?_
                refine by_aload_n rfl ?_
                refine by_getf cn_216 fl_12_601 (by first | exact rfl | assumption) (by decide) ?_
                refine by_iconst ci_1 ?_
                simp (disch := first | exact Nat.ne_of_beq_eq_false rfl | exact rfl | omega) only [nI_add, xa_sub, xa_mul, pk_div, nm_mod, xa_shr, xa_and7, xa_and1, xa_and255, xa_by_and, nI_m1, Nat.add_sub_cancel, Nat.reducePow, Nat.zero_add, Nat.add_zero, Nat.reduceAdd, Nat.reduceMul, Nat.reduceSub, xf_same, xq_ff, xq_fo, xf_1, xf_2, xs_1, xs_2, xs_same, xq_so, xj_1, xj_2, xj_same, xq_jo, xq_sa1, xq_same, xq_other, upd_s, oI_n, oI_s, s2, y3, m1, y2]
                refine by_ic_eq 110 rfl ?_
                simp (disch := first | exact Nat.ne_of_beq_eq_false rfl | exact rfl | omega) only [nI_add, xa_sub, xa_mul, pk_div, nm_mod, xa_shr, xa_and7, xa_and1, xa_and255, xa_by_and, nI_m1, Nat.add_sub_cancel, Nat.reducePow, Nat.zero_add, Nat.add_zero, Nat.reduceAdd, Nat.reduceMul, Nat.reduceSub, xf_same, xq_ff, xq_fo, xf_1, xf_2, xs_1, xs_2, xs_same, xq_so, xj_1, xj_2, xj_same, xq_jo, xq_sa1, xq_same, xq_other, upd_s, oI_n, oI_s, xv_0, xv_1, xv_2, xv_3, xm_p1, xm_p2, xq_fp, xq_fn, List.filter_nil, Nat.reduceBEq, Bool.not_true, Bool.not_false, Bool.and_true, Bool.and_false, Bool.false_and, Bool.true_and, if_true, if_false, Bool.false_eq_true, reduceIte, xc_i, xc_j, xc_r, xc_n, List.nil_append, List.cons_append, Option.toList_some, Option.toList_none, nI_ltJ, nI_leJ, nI_eqJ, nI_ltz, nI_gez, nI_gtz, nI_lez, nI_eqz, m1_ltz, m1_gez, true_imp_iff, false_imp_iff, true_and, and_true, ne_eq, not_false_eq_true, not_true_eq_false, Nat.reduceEqDiff, Nat.reduceLT, Nat.reduceLeDiff, s2, y3, m1, y2]
                with_reducible refine xm_go_blk b_X12_definitions_100 k_X12_definitions_100 ?_
                refine by_aload_n rfl ?_
                refine by_iconst ci_1 ?_
                refine by_aload_n rfl ?_
                refine by_getf cn_216 fl_12_598 (by first | exact rfl | assumption) (by decide) ?_
                simp (disch := first | exact Nat.ne_of_beq_eq_false rfl | exact rfl | omega) only [nI_add, xa_sub, xa_mul, pk_div, nm_mod, xa_shr, xa_and7, xa_and1, xa_and255, xa_by_and, nI_m1, Nat.add_sub_cancel, Nat.reducePow, Nat.zero_add, Nat.add_zero, Nat.reduceAdd, Nat.reduceMul, Nat.reduceSub, xf_same, xq_ff, xq_fo, xf_1, xf_2, xs_1, xs_2, xs_same, xq_so, xj_1, xj_2, xj_same, xq_jo, xq_sa1, xq_same, xq_other, upd_s, oI_n, oI_s, xv_0, xv_1, xv_2, xv_3, xm_p1, xm_p2, xq_fp, xq_fn, List.filter_nil, Nat.reduceBEq, Bool.not_true, Bool.not_false, Bool.and_true, Bool.and_false, Bool.false_and, Bool.true_and, if_true, if_false, Bool.false_eq_true, reduceIte, xc_i, xc_j, xc_r, xc_n, List.nil_append, List.cons_append, Option.toList_some, Option.toList_none, s2, y3, m1, y2]
                refine by_inv2 cn_216 lk_12_604 (by rw [xe_cnt]; decide) is_328 np_328 cn_328 (by first | exact rfl | assumption) (Nat.le_of_ble_eq_true rfl) ?_
                refine sp_mwrong s2 ?_
                with_reducible refine xm_go_blk b_X12_definitions_109 k_X12_definitions_109 ?_
                refine by_iret ry_216 (by first | rfl | assumption) ?_
                exact wr 1 _ h2 (sD_3 kz hw et en k2) g2 (by decide) (by decide)
  refine xq_in rfl ?_
  simp only [xq_a0, xq_aI, xq_aJ, xq_aR, Nat.reduceAdd]
  let g := xm_sf (xm_sf (xm_sf h 102 5 (.int (nI 0))) 102 85 (.int (nI 0))) 102 82 (.int (nI 0))
  have fg : Fr smdR smdT h g := Fr_sf (Fr_sf (Fr_sf Fr_rf (by simp)) (by simp)) (by simp)
  have Eg : mEd g t [] sG0 := ⟨Fr_XF hF fg (by decide +kernel), mtp_fr hm fg (by simp) (by simp), tgM_fr htg fg (by simp), ⟨by simp [g, xm_sf, updV], Nat.zero_le _, fun k hk => absurd hk (Nat.not_lt_zero _)⟩, by simp [g, xm_sf, updV]; rfl, fun n hn => absurd hn (Nat.not_lt_zero _), by simpa [g, xm_sf, updV] using hs⟩
  with_reducible refine xm_go_blk b_X12_definitions_0 k_X12_definitions_0 ?_
  refine by_aload_n rfl ?_
  refine by_iconst ci_0 ?_
  refine by_putf cn_216 fl_12_223 (by first | exact rfl | assumption) (by decide) nf_12_5 ft_12_5 (by first | rfl | assumption) (by first | rfl | assumption) ?_
  refine by_aload_n rfl ?_
  refine by_iconst ci_0 ?_
  refine by_putf cn_216 fl_12_610 (by first | exact rfl | assumption) (by decide) nf_12_85 ft_12_85 (by first | rfl | assumption) (by first | rfl | assumption) ?_
  refine by_aload_n rfl ?_
  refine by_iconst ci_0 ?_
  refine by_putf cn_216 fl_12_595 (by first | exact rfl | assumption) (by decide) nf_12_82 ft_12_82 (by first | rfl | assumption) (by first | rfl | assumption) ?_
  refine by_iconst ci_m1 ?_
  refine by_istore_n (by rw [ml_216]; decide) ?_
  refine by_aload_n rfl ?_
  simp (disch := first | exact Nat.ne_of_beq_eq_false rfl | exact rfl | omega) only [nI_add, xa_sub, xa_mul, pk_div, nm_mod, xa_shr, xa_and7, xa_and1, xa_and255, xa_by_and, nI_m1, Nat.add_sub_cancel, Nat.reducePow, Nat.zero_add, Nat.add_zero, Nat.reduceAdd, Nat.reduceMul, Nat.reduceSub, xf_same, xq_ff, xq_fo, xf_1, xf_2, xs_1, xs_2, xs_same, xq_so, xj_1, xj_2, xj_same, xq_jo, xq_sa1, xq_same, xq_other, upd_s, oI_n, oI_s, xv_0, xv_1, xv_2, xv_3, xm_p1, xm_p2, xq_fp, xq_fn, List.filter_nil, Nat.reduceBEq, Bool.not_true, Bool.not_false, Bool.and_true, Bool.and_false, Bool.false_and, Bool.true_and, if_true, if_false, Bool.false_eq_true, reduceIte, xc_i, xc_j, xc_r, xc_n, List.nil_append, List.cons_append, Option.toList_some, Option.toList_none]
  refine by_inv0 cn_216 lk_12_613 (by rw [xe_cnt]; decide) is_267 np_267 cn_267 (by first | exact rfl | assumption) (Nat.le_of_ble_eq_true rfl) ?_
  refine sp_mnextWord2 (d := d + 4) Eg.1 Eg.2.1 (p := 0) (by simp [g, xm_sf, updV]) Eg.2.2.2.2.2.2 (Nat.zero_le _) (fun h1 kk1 f1 s1 q1 _ => ?_) (fun h1 kk1 f1 w1 => ?_)
  · have hn1 : wdO t 0 = none := by unfold wdO; rw [if_neg (by rw [kk1]; intro z; cases z.1)]
    have hx := sD_1 (t := t) (NL := []) (G := sG0) (p := 0) (by rw [kk1]; intro z; cases z.1) (Or.inl hn1)
    with_reducible refine xm_go_blk b_X12_definitions_21 k_X12_definitions_21 ?_
    refine by_iconst ci_1 ?_
    refine by_istore_n (by rw [ml_216]; decide) ?_
    refine by_nil ?_
    try simp (disch := first | exact Nat.ne_of_beq_eq_false rfl | exact rfl | omega) only [nI_add, xa_sub, xa_mul, pk_div, nm_mod, xa_shr, xa_and7, xa_and1, xa_and255, xa_by_and, nI_m1, Nat.add_sub_cancel, Nat.reducePow, Nat.zero_add, Nat.add_zero, Nat.reduceAdd, Nat.reduceMul, Nat.reduceSub, xf_same, xq_ff, xq_fo, xf_1, xf_2, xs_1, xs_2, xs_same, xq_so, xj_1, xj_2, xj_same, xq_jo, xq_sa1, xq_same, xq_other, upd_s, oI_n, oI_s, xv_0, xv_1, xv_2, xv_3, xm_p1, xm_p2, xq_fp, xq_fn, List.filter_nil, Nat.reduceBEq, Bool.not_true, Bool.not_false, Bool.and_true, Bool.and_false, Bool.false_and, Bool.true_and, if_true, if_false, Bool.false_eq_true, reduceIte, xc_i, xc_j, xc_r, xc_n, List.nil_append, List.cons_append, Option.toList_some, Option.toList_none]
    exact xm_go_wk (by simp [Value.category]) (bad 1 _ h1 (-1) (nI 1) hx (Fr_tr fg f1 (by simp) (by simp)) s1 (by decide) (by decide) q1)
  · with_reducible refine xm_go_blk b_X12_definitions_21 k_X12_definitions_21 ?_
    refine by_iconst ci_1 ?_
    refine by_istore_n (by rw [ml_216]; decide) ?_
    refine by_nil ?_
    try simp (disch := first | exact Nat.ne_of_beq_eq_false rfl | exact rfl | omega) only [nI_add, xa_sub, xa_mul, pk_div, nm_mod, xa_shr, xa_and7, xa_and1, xa_and255, xa_by_and, nI_m1, Nat.add_sub_cancel, Nat.reducePow, Nat.zero_add, Nat.add_zero, Nat.reduceAdd, Nat.reduceMul, Nat.reduceSub, xf_same, xq_ff, xq_fo, xf_1, xf_2, xs_1, xs_2, xs_same, xq_so, xj_1, xj_2, xj_same, xq_jo, xq_sa1, xq_same, xq_other, upd_s, oI_n, oI_s, xv_0, xv_1, xv_2, xv_3, xm_p1, xm_p2, xq_fp, xq_fn, List.filter_nil, Nat.reduceBEq, Bool.not_true, Bool.not_false, Bool.and_true, Bool.and_false, Bool.false_and, Bool.true_and, if_true, if_false, Bool.false_eq_true, reduceIte, xc_i, xc_j, xc_r, xc_n, List.nil_append, List.cons_append, Option.toList_some, Option.toList_none]
    exact xm_go_wk (by simp [Value.category]) (key (t.length + 1) sG0 [] 0 h1 (-1) (by omega) (fun o ho => ho) (mEd_w Eg f1) sI0 w1 kk1 (fun z => z.2 rfl) (Nat.zero_le _) (by simp) (Fr_tr fg f1 (by simp) (by simp)) (by rw [f1.2.2 _ _ (by simp)]; simp [g, xm_sf, updV]))
end SY
