/-! ===== Loader: order, types, twins, witnesses ===== -/
theorem pr_lv_er {v : Nat → Nat} {e : Nat} : ∀ (l x a : Nat) {y : Nat}, pr_lv v e l x a = .error y → y ≤ 12
  | 0, x, a, y, h => by rw [pr_lv] at h; cases h
  | l + 1, x, a, y, h => by
    rw [pr_lv] at h
    split at h
    · cases h; decide
    · split at h
      · exact pr_lv_er l _ _ h
      · cases h; decide
theorem wf_le {v : Nat → Nat} {e a N : Nat} {cd : Nat → Nat} {T : Nat → Ty} : wf v e a N cd T ≤ 12 := by
  unfold wf
  cases er : pr_nat v e a with
  | error x =>
    simp only
    unfold pr_nat at er
    split at er
    · exact pr_lv_er _ _ _ er
    · cases er; decide
  | ok r =>
    simp only
    split
    · decide
    · split
      · decide
      · split
        · decide
        · split <;> decide
section LP
variable {sc : xm_Sc} {d pp : Nat} {l : List Nat} {h : xm_H} {post : xm_Po}
theorem lp_120 {ps : List pr_D} {a W nh : Nat} {hx : Nat → Nat} (hpp : pp = 52 ∨ pp = 77) (hpr : pr_prog (by_bit l) (8 * l.length) = .ok (ps, a)) (hS : ldS h pp l a 0) (hC : ndC h pp ps hx nh) (hfx : fxA h) (hO : ordI h W) (hW2 : W < 1000000)
    (hp : ∀ h' f S T, Fr (lgR pp) (lgT pp) h h' → LdG l ps a f S T → fxA h' → ordI h' (W + 1) → f ≤ 12 → (f = 0 → PF h' pp l ps a S T) → post (some (.int (nI f))) h') :
    xm_go (XE sc) (xm_T (XE sc) (d + 6)) 74 post 120 [(0, .ref 45)] [] h := by
  obtain ⟨ho, hN1, hN2⟩ := psOK_prog (by_bit_lt l) hpr
  have hS0 := hS
  obtain ⟨s1, _, s3, s4, s5, s6, s7, s8, s9, s10⟩ := hS0
  have hK := ndC_K hC ho
  have c0 := hC.1
  have hcN := ps_cN ho
  have hac := ps_ac ho
  with_reducible refine xm_go_blk b_X3_readProgram_120 k_X3_readProgram_120 ?_
  refine by_aload_n rfl ?_
  refine by_getf cn_74 fl_3_9 (by first | exact rfl | assumption) (by decide) ?_
  refine by_aload_n rfl ?_
  refine by_getf cn_74 fl_3_15 (by first | exact rfl | assumption) (by decide) ?_
  refine by_aload_n rfl ?_
  refine by_getf cn_74 fl_3_15 (by first | exact rfl | assumption) (by decide) ?_
  simp (disch := first | exact Nat.ne_of_beq_eq_false rfl | exact rfl | omega) only [nI_add, xa_sub, xa_mul, pk_div, nm_mod, xa_shr, xa_and7, xa_and1, xa_and255, xa_by_and, nI_m1, Nat.add_sub_cancel, Nat.reducePow, Nat.zero_add, Nat.add_zero, Nat.reduceAdd, Nat.reduceMul, Nat.reduceSub, xf_same, xq_ff, xq_fo, xf_1, xf_2, xs_1, xs_2, xs_same, xq_so, xj_1, xj_2, xj_same, xq_jo, xq_sa1, xq_same, xq_other, upd_s, oI_n, oI_s, xf_45_0 s1, s3, c0]
  refine by_getf cn_74 fl_3_57 (by first | exact rfl | assumption | exact ps_0 hpp) (by decide) ?_
  refine by_iconst ci_1 ?_
  simp (disch := first | exact Nat.ne_of_beq_eq_false rfl | exact rfl | omega) only [nI_add, xa_sub, xa_mul, pk_div, nm_mod, xa_shr, xa_and7, xa_and1, xa_and255, xa_by_and, nI_m1, Nat.add_sub_cancel, Nat.reducePow, Nat.zero_add, Nat.add_zero, Nat.reduceAdd, Nat.reduceMul, Nat.reduceSub, xf_same, xq_ff, xq_fo, xf_1, xf_2, xs_1, xs_2, xs_same, xq_so, xj_1, xj_2, xj_same, xq_jo, xq_sa1, xq_same, xq_other, upd_s, oI_n, oI_s, xf_45_0 s1, s3, c0]
  refine by_isub ?_
  simp (disch := first | exact Nat.ne_of_beq_eq_false rfl | exact rfl | omega) only [nI_add, xa_sub, xa_mul, pk_div, nm_mod, xa_shr, xa_and7, xa_and1, xa_and255, xa_by_and, nI_m1, Nat.add_sub_cancel, Nat.reducePow, Nat.zero_add, Nat.add_zero, Nat.reduceAdd, Nat.reduceMul, Nat.reduceSub, xf_same, xq_ff, xq_fo, xf_1, xf_2, xs_1, xs_2, xs_same, xq_so, xj_1, xj_2, xj_same, xq_jo, xq_sa1, xq_same, xq_other, upd_s, oI_n, oI_s, xv_0, xv_1, xv_2, xv_3, xm_p1, xm_p2, xq_fp, xq_fn, List.filter_nil, Nat.reduceBEq, Bool.not_true, Bool.not_false, Bool.and_true, Bool.and_false, Bool.false_and, Bool.true_and, if_true, if_false, Bool.false_eq_true, reduceIte, xc_i, xc_j, xc_r, xc_n, List.nil_append, List.cons_append, Option.toList_some, Option.toList_none, xf_45_0 s1, s3, c0]
  refine by_inv2 cn_74 lk_3_60 (by rw [xe_cnt]; decide) is_97 np_97 cn_97 (by first | exact rfl | assumption) (Nat.le_of_ble_eq_true rfl) ?_
  refine sp_walk hpp s1 hO.1 hW2 hO.2 (by omega) (show ps.length - 1 < ps.length by omega) (fun n hn => (hK n hn).2.2.1) (fun n hn => (hK n hn).2.2.2.1) hcN (fun h1 L hout f1 hl hln hw1 hm1 hrow hspot => ?_)
  have F1 : XF h1 := Fr_XF s1 f1 (by decide +kernel)
  obtain ⟨lnd, lN, lcl⟩ := df_out_cl hcN hac (show ps.length - 1 < ps.length by omega) hout
  have hS1 : ldS h1 pp l a 0 := ldS_fr hS f1 (by decide +kernel) (by simp) (by simp) (by simp) (by simp <;> omega) (by simp <;> omega) (by simp <;> omega) (by rw [f1.2.2 _ _ (by simp)]; exact s5) (by rw [f1.2.2 _ _ (by simp)]; exact s7) s9 s10
  have hC1 : ndC h1 pp ps hx nh := ndC_fr hC f1 (by simp <;> omega) (by simp <;> omega) (by simp <;> omega) (by simp <;> omega) (by simp <;> omega) (by simp <;> omega) (by simp <;> omega)
  have A1 : fxA h1 := fun t ht => by
    rw [f1.1 16 (by simp), f1.1 17 (by simp), f1.1 18 (by simp)]
    exact hfx t ht
  have G1 : Fr (lgR pp) (lgT pp) h h1 := Fr_mo f1 (by simp [lgR]) (by simp [lgT])
  have O1 : ordI h1 (W + 1) := ⟨hw1, hm1⟩
  have t3 := hS1.2.2.1
  have d0 := hC1.1
  with_reducible refine xm_go_blk b_X3_readProgram_140 k_X3_readProgram_140 ?_
  refine by_aload_n rfl ?_
  refine by_getf cn_74 fl_3_9 (by first | exact rfl | assumption) (by decide) ?_
  refine by_aload_n rfl ?_
  refine by_getf cn_74 fl_3_15 (by first | exact rfl | assumption) (by decide) ?_
  simp (disch := first | exact Nat.ne_of_beq_eq_false rfl | exact rfl | omega) only [nI_add, xa_sub, xa_mul, pk_div, nm_mod, xa_shr, xa_and7, xa_and1, xa_and255, xa_by_and, nI_m1, Nat.add_sub_cancel, Nat.reducePow, Nat.zero_add, Nat.add_zero, Nat.reduceAdd, Nat.reduceMul, Nat.reduceSub, xf_same, xq_ff, xq_fo, xf_1, xf_2, xs_1, xs_2, xs_same, xq_so, xj_1, xj_2, xj_same, xq_jo, xq_sa1, xq_same, xq_other, upd_s, oI_n, oI_s, xf_45_0 F1, t3, d0]
  refine by_getf cn_74 fl_3_57 (by first | exact rfl | assumption | exact ps_0 hpp) (by decide) ?_
  simp (disch := first | exact Nat.ne_of_beq_eq_false rfl | exact rfl | omega) only [nI_add, xa_sub, xa_mul, pk_div, nm_mod, xa_shr, xa_and7, xa_and1, xa_and255, xa_by_and, nI_m1, Nat.add_sub_cancel, Nat.reducePow, Nat.zero_add, Nat.add_zero, Nat.reduceAdd, Nat.reduceMul, Nat.reduceSub, xf_same, xq_ff, xq_fo, xf_1, xf_2, xs_1, xs_2, xs_same, xq_so, xj_1, xj_2, xj_same, xq_jo, xq_sa1, xq_same, xq_other, upd_s, oI_n, oI_s, xv_0, xv_1, xv_2, xv_3, xm_p1, xm_p2, xq_fp, xq_fn, List.filter_nil, Nat.reduceBEq, Bool.not_true, Bool.not_false, Bool.and_true, Bool.and_false, Bool.false_and, Bool.true_and, if_true, if_false, Bool.false_eq_true, reduceIte, xc_i, xc_j, xc_r, xc_n, List.nil_append, List.cons_append, Option.toList_some, Option.toList_none, xf_45_0 F1, t3, d0]
  refine by_inv1 cn_74 lk_3_66 (by rw [xe_cnt]; decide) is_91 np_91 cn_91 (by first | exact rfl | assumption) (Nat.le_of_ble_eq_true rfl) ?_
  refine sp_isCounting F1 hl hrow (fun x hx => by have := lN x hx; omega) (by omega) (by omega) (fun hL => ?_) (fun hL => ?_)
  · subst hL
    have hK1 := ndC_K hC1 ho
    have lastE : (List.range ps.length).getD ((List.range ps.length).length - 1) 0 = ps.length - 1 := by
      have := (rg_eq (L := List.range ps.length) (n := ps.length)).mp rfl
      have h2 := this.2 ((List.range ps.length).length - 1) (by simp; omega)
      rw [h2]; simp
    with_reducible refine xm_go_blk b_X3_readProgram_154 k_X3_readProgram_154 ?_
    refine by_if_ne 159 rfl ?_
    simp (disch := first | exact Nat.ne_of_beq_eq_false rfl | exact rfl | omega) only [nI_add, xa_sub, xa_mul, pk_div, nm_mod, xa_shr, xa_and7, xa_and1, xa_and255, xa_by_and, nI_m1, Nat.add_sub_cancel, Nat.reducePow, Nat.zero_add, Nat.add_zero, Nat.reduceAdd, Nat.reduceMul, Nat.reduceSub, xf_same, xq_ff, xq_fo, xf_1, xf_2, xs_1, xs_2, xs_same, xq_so, xj_1, xj_2, xj_same, xq_jo, xq_sa1, xq_same, xq_other, upd_s, oI_n, oI_s, xv_0, xv_1, xv_2, xv_3, xm_p1, xm_p2, xq_fp, xq_fn, List.filter_nil, Nat.reduceBEq, Bool.not_true, Bool.not_false, Bool.and_true, Bool.and_false, Bool.false_and, Bool.true_and, if_true, if_false, Bool.false_eq_true, reduceIte, xc_i, xc_j, xc_r, xc_n, List.nil_append, List.cons_append, Option.toList_some, Option.toList_none, nI_ltJ, nI_leJ, nI_eqJ, nI_ltz, nI_gez, nI_gtz, nI_lez, nI_eqz, m1_ltz, m1_gez, true_imp_iff, false_imp_iff, true_and, and_true, ne_eq, not_false_eq_true, not_true_eq_false, Nat.reduceEqDiff, Nat.reduceLT, Nat.reduceLeDiff, xf_45_0 F1, t3]
    with_reducible refine xm_go_blk b_X3_readProgram_159 k_X3_readProgram_159 ?_
    refine by_aload_n rfl ?_
    refine by_getf cn_74 fl_3_9 (by first | exact rfl | assumption) (by decide) ?_
    refine by_aload_n rfl ?_
    refine by_getf cn_74 fl_3_15 (by first | exact rfl | assumption) (by decide) ?_
    simp (disch := first | exact Nat.ne_of_beq_eq_false rfl | exact rfl | omega) only [nI_add, xa_sub, xa_mul, pk_div, nm_mod, xa_shr, xa_and7, xa_and1, xa_and255, xa_by_and, nI_m1, Nat.add_sub_cancel, Nat.reducePow, Nat.zero_add, Nat.add_zero, Nat.reduceAdd, Nat.reduceMul, Nat.reduceSub, xf_same, xq_ff, xq_fo, xf_1, xf_2, xs_1, xs_2, xs_same, xq_so, xj_1, xj_2, xj_same, xq_jo, xq_sa1, xq_same, xq_other, upd_s, oI_n, oI_s, xv_0, xv_1, xv_2, xv_3, xm_p1, xm_p2, xq_fp, xq_fn, List.filter_nil, Nat.reduceBEq, Bool.not_true, Bool.not_false, Bool.and_true, Bool.and_false, Bool.false_and, Bool.true_and, if_true, if_false, Bool.false_eq_true, reduceIte, xc_i, xc_j, xc_r, xc_n, List.nil_append, List.cons_append, Option.toList_some, Option.toList_none, xf_45_0 F1, t3]
    refine by_inv1 cn_74 lk_3_70 (by rw [xe_cnt]; decide) is_92 np_92 cn_92 (by first | exact rfl | assumption) (Nat.le_of_ble_eq_true rfl) ?_
    refine sp_judge (nu := pNu ps) F1 hpp (by omega) hK1 (ps_O ho) (fun n hn hc => ⟨(hC1.2.2.2 n hn).2.2.2.1 (by show pC ps n ≠ 11; omega), (ho n hn).2.2.2.2.2.1⟩) A1 hl hrow lN lnd lcl (by simp; omega) (fun z => ?_) (fun h2 q1 q2 f2 A2 hno => ?_) (fun h2 S T cn tr K Lf R w q1 q2 f2 A2 hlst hT hcn0 hY hw hw' => ?_)
    · rw [lastE] at z
      with_reducible refine xm_go_blk b_X3_readProgram_170 k_X3_readProgram_170 ?_
      refine by_istore (by rw [ml_74]; decide) ?_
      refine by_iload rfl ?_
      refine by_if_eq 180 rfl ?_
      simp (disch := first | exact Nat.ne_of_beq_eq_false rfl | exact rfl | omega) only [nI_add, xa_sub, xa_mul, pk_div, nm_mod, xa_shr, xa_and7, xa_and1, xa_and255, xa_by_and, nI_m1, Nat.add_sub_cancel, Nat.reducePow, Nat.zero_add, Nat.add_zero, Nat.reduceAdd, Nat.reduceMul, Nat.reduceSub, xf_same, xq_ff, xq_fo, xf_1, xf_2, xs_1, xs_2, xs_same, xq_so, xj_1, xj_2, xj_same, xq_jo, xq_sa1, xq_same, xq_other, upd_s, oI_n, oI_s, xv_0, xv_1, xv_2, xv_3, xm_p1, xm_p2, xq_fp, xq_fn, List.filter_nil, Nat.reduceBEq, Bool.not_true, Bool.not_false, Bool.and_true, Bool.and_false, Bool.false_and, Bool.true_and, if_true, if_false, Bool.false_eq_true, reduceIte, xc_i, xc_j, xc_r, xc_n, List.nil_append, List.cons_append, Option.toList_some, Option.toList_none, nI_ltJ, nI_leJ, nI_eqJ, nI_ltz, nI_gez, nI_gtz, nI_lez, nI_eqz, m1_ltz, m1_gez, true_imp_iff, false_imp_iff, true_and, and_true, ne_eq, not_false_eq_true, not_true_eq_false, Nat.reduceEqDiff, Nat.reduceLT, Nat.reduceLeDiff]
      with_reducible refine xm_go_blk b_X3_readProgram_177 k_X3_readProgram_177 ?_
      refine by_iload rfl ?_
      refine by_iret ry_74 (by first | rfl | assumption) ?_
      exact hp h1 7 (fun _ => tO) (fun _ => tO) G1 (Or.inr ⟨hout, Or.inl ⟨z, rfl⟩⟩) A1 O1 (by decide) (fun z => absurd z (by decide))
    · rw [lastE] at q1
      have nb : ¬ bad7 ps := by
        rintro (z | ⟨n, n1, n2⟩)
        · exact q1 z
        · rw [q2 n n1] at n2; cases n2
      have O2 : ordI h2 (W + 1) := ⟨by rw [f2.2.2 _ _ (by simp [slT] <;> omega)]; exact O1.1, fun x hx => by rw [f2.1 10 (by simp [slR] <;> omega)]; exact O1.2 x hx⟩
      with_reducible refine xm_go_blk b_X3_readProgram_170 k_X3_readProgram_170 ?_
      refine by_istore (by rw [ml_74]; decide) ?_
      refine by_iload rfl ?_
      refine by_if_eq 180 rfl ?_
      simp (disch := first | exact Nat.ne_of_beq_eq_false rfl | exact rfl | omega) only [nI_add, xa_sub, xa_mul, pk_div, nm_mod, xa_shr, xa_and7, xa_and1, xa_and255, xa_by_and, nI_m1, Nat.add_sub_cancel, Nat.reducePow, Nat.zero_add, Nat.add_zero, Nat.reduceAdd, Nat.reduceMul, Nat.reduceSub, xf_same, xq_ff, xq_fo, xf_1, xf_2, xs_1, xs_2, xs_same, xq_so, xj_1, xj_2, xj_same, xq_jo, xq_sa1, xq_same, xq_other, upd_s, oI_n, oI_s, xv_0, xv_1, xv_2, xv_3, xm_p1, xm_p2, xq_fp, xq_fn, List.filter_nil, Nat.reduceBEq, Bool.not_true, Bool.not_false, Bool.and_true, Bool.and_false, Bool.false_and, Bool.true_and, if_true, if_false, Bool.false_eq_true, reduceIte, xc_i, xc_j, xc_r, xc_n, List.nil_append, List.cons_append, Option.toList_some, Option.toList_none, nI_ltJ, nI_leJ, nI_eqJ, nI_ltz, nI_gez, nI_gtz, nI_lez, nI_eqz, m1_ltz, m1_gez, true_imp_iff, false_imp_iff, true_and, and_true, ne_eq, not_false_eq_true, not_true_eq_false, Nat.reduceEqDiff, Nat.reduceLT, Nat.reduceLeDiff]
      with_reducible refine xm_go_blk b_X3_readProgram_177 k_X3_readProgram_177 ?_
      refine by_iload rfl ?_
      refine by_iret ry_74 (by first | rfl | assumption) ?_
      exact hp h2 8 (fun _ => tO) (fun _ => tO) (Fr_tr G1 f2 (by simp [slR, lgR]) (by simp [slT, lgT])) (Or.inr ⟨hout, Or.inr ⟨nb, Or.inl ⟨hno, rfl⟩⟩⟩) A2 O2 (by decide) (fun z => absurd z (by decide))
    · rw [lastE] at q1
      have nb : ¬ bad7 ps := by
        rintro (z | ⟨n, n1, n2⟩)
        · exact q1 z
        · rw [q2 n n1] at n2; cases n2
      have hcn6 : cn ≤ 2826 := by
        have := nd_len ps.length _ lnd lN
        omega
      have hcn : cn ≤ 14026 := by omega
      have F2 : XF h2 := Fr_XF F1 f2 (sl_fin hpp)
      have G2 : Fr (lgR pp) (lgT pp) h h2 := Fr_tr G1 f2 (by simp [slR, lgR]) (by simp [slT, lgT])
      have O2 : ordI h2 (W + 1) := ⟨by rw [f2.2.2 _ _ (by simp [slT] <;> omega)]; exact O1.1, fun x hx => by rw [f2.1 10 (by simp [slR] <;> omega)]; exact O1.2 x hx⟩
      have hS2 : ldS h2 pp l a 0 := ldS_fr hS1 f2 (sl_fin hpp) (by simp [slT] <;> omega) (by simp [slT] <;> omega) (by simp [slT] <;> omega) (by simp [slR] <;> omega) (by simp [slT] <;> omega) (by simp [slT] <;> omega) (by rw [f2.2.2 _ _ (by simp [slT] <;> omega)]; exact hS1.2.2.2.2.1) (by rw [f2.2.2 _ _ (by simp [slT] <;> omega)]; exact hS1.2.2.2.2.2.2.1) s9 s10
      have hC2 : ndC h2 pp ps hx nh := ndC_fr hC1 f2 (by simp [slT] <;> omega) (by simp [slT] <;> omega) (by simp [slR] <;> omega) (by simp [slR] <;> omega) (by simp [slR] <;> omega) (by simp [slR] <;> omega) (by simp [slR] <;> omega)
      have u3 := hS2.2.2.1
      rcases hw with rfl | rfl
      · have nw : ¬ jdW (pC ps) (List.range ps.length) S T := fun z => absurd (hw'.mpr z) (by decide)
        with_reducible refine xm_go_blk b_X3_readProgram_170 k_X3_readProgram_170 ?_
        refine by_istore (by rw [ml_74]; decide) ?_
        refine by_iload rfl ?_
        refine by_if_eq 180 rfl ?_
        simp (disch := first | exact Nat.ne_of_beq_eq_false rfl | exact rfl | omega) only [nI_add, xa_sub, xa_mul, pk_div, nm_mod, xa_shr, xa_and7, xa_and1, xa_and255, xa_by_and, nI_m1, Nat.add_sub_cancel, Nat.reducePow, Nat.zero_add, Nat.add_zero, Nat.reduceAdd, Nat.reduceMul, Nat.reduceSub, xf_same, xq_ff, xq_fo, xf_1, xf_2, xs_1, xs_2, xs_same, xq_so, xj_1, xj_2, xj_same, xq_jo, xq_sa1, xq_same, xq_other, upd_s, oI_n, oI_s, xv_0, xv_1, xv_2, xv_3, xm_p1, xm_p2, xq_fp, xq_fn, List.filter_nil, Nat.reduceBEq, Bool.not_true, Bool.not_false, Bool.and_true, Bool.and_false, Bool.false_and, Bool.true_and, if_true, if_false, Bool.false_eq_true, reduceIte, xc_i, xc_j, xc_r, xc_n, List.nil_append, List.cons_append, Option.toList_some, Option.toList_none, nI_ltJ, nI_leJ, nI_eqJ, nI_ltz, nI_gez, nI_gtz, nI_lez, nI_eqz, m1_ltz, m1_gez, true_imp_iff, false_imp_iff, true_and, and_true, ne_eq, not_false_eq_true, not_true_eq_false, Nat.reduceEqDiff, Nat.reduceLT, Nat.reduceLeDiff, xf_45_0 F2, u3]
        with_reducible refine xm_go_blk b_X3_readProgram_180 k_X3_readProgram_180 ?_
        refine by_aload_n rfl ?_
        refine by_getf cn_74 fl_3_9 (by first | exact rfl | assumption) (by decide) ?_
        refine by_aload_n rfl ?_
        refine by_getf cn_74 fl_3_15 (by first | exact rfl | assumption) (by decide) ?_
        simp (disch := first | exact Nat.ne_of_beq_eq_false rfl | exact rfl | omega) only [nI_add, xa_sub, xa_mul, pk_div, nm_mod, xa_shr, xa_and7, xa_and1, xa_and255, xa_by_and, nI_m1, Nat.add_sub_cancel, Nat.reducePow, Nat.zero_add, Nat.add_zero, Nat.reduceAdd, Nat.reduceMul, Nat.reduceSub, xf_same, xq_ff, xq_fo, xf_1, xf_2, xs_1, xs_2, xs_same, xq_so, xj_1, xj_2, xj_same, xq_jo, xq_sa1, xq_same, xq_other, upd_s, oI_n, oI_s, xv_0, xv_1, xv_2, xv_3, xm_p1, xm_p2, xq_fp, xq_fn, List.filter_nil, Nat.reduceBEq, Bool.not_true, Bool.not_false, Bool.and_true, Bool.and_false, Bool.false_and, Bool.true_and, if_true, if_false, Bool.false_eq_true, reduceIte, xc_i, xc_j, xc_r, xc_n, List.nil_append, List.cons_append, Option.toList_some, Option.toList_none, xf_45_0 F2, u3]
        refine by_inv1 cn_74 lk_3_74 (by rw [xe_cnt]; decide) is_93 np_93 cn_93 (by first | exact rfl | assumption) (Nat.le_of_ble_eq_true rfl) ?_
        refine sp_merge (L := List.range ps.length) F2 hpp (by omega) (ndC_D hC2 ho) (by rw [f2.2.2 _ _ (by simp [slT] <;> omega)]; exact hl) (fun i hi => by rw [f2.1 8 (by simp [slR] <;> omega)]; exact hrow i hi) lN lnd lcl (fun h3 tw cnt hJ hc1 hc2 => ?_)
        obtain ⟨j1, j2, j3, j4, j5, j6⟩ := hJ
        have tn := tw_none j5 lnd lcl
        have G3 : Fr (lgR pp) (lgT pp) h h3 := Fr_tr G2 j2 (by simp [mgR2, lgR]) (by simp)
        have O3 : ordI h3 (W + 1) := ⟨by rw [j2.2.2 _ _ (by simp)]; exact O2.1, fun x hx => by rw [j2.1 10 (by simp [mgR2] <;> omega)]; exact O2.2 x hx⟩
        have A3 : fxA h3 := fun t ht => by
          rw [j2.1 16 (by simp [mgR2] <;> omega), j2.1 17 (by simp [mgR2] <;> omega), j2.1 18 (by simp [mgR2] <;> omega)]
          exact A2 t ht
        by_cases qc : cnt = 0
        · have hid := hc2.mp qc
          subst qc
          have hno : ∀ x y, x < ps.length → y < x → ¬ smP ps S T y x := by
            intro x y hx hy hsm
            obtain ⟨A, B, e⟩ := List.append_of_mem (List.mem_range.mpr hx)
            obtain ⟨e1, _⟩ := rg_split e
            exact tn.mp hid A x B e y (by rw [e1]; exact List.mem_range.mpr hy) ((mgK_P hC2 ho hT hcn hY (by omega) hx).mpr hsm)
          have F3 : XF h3 := j1
          have hS3 : ldS h3 pp l a 0 := ldS_fr hS2 j2 (by decide +kernel) (by simp) (by simp) (by simp) (by simp [mgR2] <;> omega) (by simp) (by simp) (by rw [j2.2.2 _ _ (by simp)]; exact hS2.2.2.2.2.1) (by rw [j2.2.2 _ _ (by simp)]; exact hS2.2.2.2.2.2.2.1) s9 s10
          have hT3 : tyT h3 pp cn tr K Lf R := tyT_fr hT j2 (by simp) (by simp [taR, mgR2] <;> omega)
          have hch : ∀ n, n < ps.length → (p1 ps n).map tw = p1 ps n ∧ (p2 ps n).map tw = p2 ps n := fun n hn => ⟨opt_id (fun x hx => hid x (List.mem_range.mpr (hcN n hn x (Or.inl hx)))), opt_id (fun x hx => hid x (List.mem_range.mpr (hcN n hn x (Or.inr hx))))⟩
          have r1 : h3.1 (pp + 1) = h2.1 (pp + 1) := j2.1 _ (by simp [mgR2] <;> omega)
          have r4 : h3.1 (pp + 4) = h2.1 (pp + 4) := j2.1 _ (by simp [mgR2] <;> omega)
          have r6 : h3.1 (pp + 6) = h2.1 (pp + 6) := j2.1 _ (by simp [mgR2] <;> omega)
          have r7 : h3.1 (pp + 7) = h2.1 (pp + 7) := j2.1 _ (by simp [mgR2] <;> omega)
          have r11 : h3.1 (pp + 11) = h2.1 (pp + 11) := j2.1 _ (by simp [mgR2] <;> omega)
          have hW3 : wiN h3 pp ps.length (pC ps) T cn tr := by
            refine ⟨by rw [j2.2.2 _ _ (by simp)]; exact hC2.1, fun n hn => ?_⟩
            rw [r1, r7]
            refine ⟨(hC2.2.2.2 n hn).1, (ho n hn).1, fun hc => ?_⟩
            obtain ⟨i, j, i1, i2, i3, i4, i5, i6⟩ := hY.1 n (List.mem_range.mpr hn) (by omega)
            refine ⟨j, i2, i5, i6, ?_⟩
            refine Classical.byContradiction fun z => nw ⟨n, List.mem_range.mpr hn, by omega, Or.inr (by omega)⟩
          with_reducible refine xm_go_blk b_X3_readProgram_191 k_X3_readProgram_191 ?_
          refine by_if_le 197 rfl ?_
          simp (disch := first | exact Nat.ne_of_beq_eq_false rfl | exact rfl | omega) only [nI_add, xa_sub, xa_mul, pk_div, nm_mod, xa_shr, xa_and7, xa_and1, xa_and255, xa_by_and, nI_m1, Nat.add_sub_cancel, Nat.reducePow, Nat.zero_add, Nat.add_zero, Nat.reduceAdd, Nat.reduceMul, Nat.reduceSub, xf_same, xq_ff, xq_fo, xf_1, xf_2, xs_1, xs_2, xs_same, xq_so, xj_1, xj_2, xj_same, xq_jo, xq_sa1, xq_same, xq_other, upd_s, oI_n, oI_s, xv_0, xv_1, xv_2, xv_3, xm_p1, xm_p2, xq_fp, xq_fn, List.filter_nil, Nat.reduceBEq, Bool.not_true, Bool.not_false, Bool.and_true, Bool.and_false, Bool.false_and, Bool.true_and, if_true, if_false, Bool.false_eq_true, reduceIte, xc_i, xc_j, xc_r, xc_n, List.nil_append, List.cons_append, Option.toList_some, Option.toList_none, nI_ltJ, nI_leJ, nI_eqJ, nI_ltz, nI_gez, nI_gtz, nI_lez, nI_eqz, m1_ltz, m1_gez, true_imp_iff, false_imp_iff, true_and, and_true, ne_eq, not_false_eq_true, not_true_eq_false, Nat.reduceEqDiff, Nat.reduceLT, Nat.reduceLeDiff]
          with_reducible refine xm_go_blk b_X3_readProgram_197 k_X3_readProgram_197 ?_
          refine by_aload_n rfl ?_
          refine by_inv0 cn_74 lk_3_77 (by rw [xe_cnt]; decide) is_76 np_76 cn_76 (by first | exact rfl | assumption) (Nat.le_of_ble_eq_true rfl) ?_
          refine sp_readWitness hpp (by omega) hS3 hW3 hT3 hcn (fun h4 f f4 e5 hf hrw => ?_)
          have G4 : Fr (lgR pp) (lgT pp) h h4 := Fr_tr G3 f4 (by simp [rwR, lgR]) (by simp [rwT, lgT])
          have O4 : ordI h4 (W + 1) := ⟨by rw [f4.2.2 _ _ (by simp [rwT] <;> omega)]; exact O3.1, fun x hx => by rw [f4.1 10 (by simp [rwR] <;> omega)]; exact O3.2 x hx⟩
          have A4 : fxA h4 := fun t ht => by
            rw [f4.1 16 (by simp [rwR] <;> omega), f4.1 17 (by simp [rwR] <;> omega), f4.1 18 (by simp [rwR] <;> omega)]
            exact A3 t ht
          with_reducible refine xm_go_blk b_X3_readProgram_201 k_X3_readProgram_201 ?_
          refine by_aload_n rfl ?_
          refine by_getf cn_74 fl_3_47 (by first | exact rfl | assumption) (by decide) ?_
          simp (disch := first | exact Nat.ne_of_beq_eq_false rfl | exact rfl | omega) only [nI_add, xa_sub, xa_mul, pk_div, nm_mod, xa_shr, xa_and7, xa_and1, xa_and255, xa_by_and, nI_m1, Nat.add_sub_cancel, Nat.reducePow, Nat.zero_add, Nat.add_zero, Nat.reduceAdd, Nat.reduceMul, Nat.reduceSub, xf_same, xq_ff, xq_fo, xf_1, xf_2, xs_1, xs_2, xs_same, xq_so, xj_1, xj_2, xj_same, xq_jo, xq_sa1, xq_same, xq_other, upd_s, oI_n, oI_s, e5]
          refine by_iret ry_74 (by first | rfl | assumption) ?_
          refine hp h4 f S T G4 (Or.inr ⟨hout, Or.inr ⟨nb, Or.inr ⟨hlst, Or.inr ⟨nw, Or.inr ⟨hno, hf⟩⟩⟩⟩⟩) A4 O4 (by rw [hf]; exact wf_le) (fun z => ?_)
          obtain ⟨k, b, e1, e2, e3⟩ := hrw z
          have q1' : h4.1 (pp + 1) = h2.1 (pp + 1) := by rw [f4.1 _ (by simp [rwR]), r1]
          have q6' : h4.1 (pp + 6) = h2.1 (pp + 6) := by rw [f4.1 _ (by simp [rwR]), r6]
          have q7' : h4.1 (pp + 7) = h2.1 (pp + 7) := by rw [f4.1 _ (by simp [rwR]), r7]
          have q11' : h4.1 (pp + 11) = h2.1 (pp + 11) := by rw [f4.1 _ (by simp [rwR]), r11]
          have q2' : h4.1 (pp + 2) = h3.1 (pp + 2) := f4.1 _ (by simp [rwR])
          have q3' : h4.1 (pp + 3) = h3.1 (pp + 3) := f4.1 _ (by simp [rwR])
          refine ⟨ho, hN1, hN2, by rw [f4.2.2 _ _ (by simp [rwT] <;> omega)]; exact hW3.1, rowIs_fr hS3.2.2.2.2.2.2.2.1 f4 (by simp [rwR]) (by simp [rwT] <;> omega) (by simp [rwT] <;> omega), ⟨k, b, e1, e2, fun m hm hc => (e3 m hm).1 hc⟩, ⟨hx, nh, hC2.2.2.1, ?_, fun n hn => ?_⟩, ⟨cn, tr, K, Lf, R, hcn6, tyT_fr hT3 f4 (by simp [rwT] <;> omega) (by simp [taR, rwR] <;> omega), ?_⟩⟩
          · rw [f4.2.2 _ _ (by simp [rwT] <;> omega), j2.2.2 _ _ (by simp)]; exact hC2.2.1
          · obtain ⟨a1, a2, a3, a4, a5⟩ := hC2.2.2.2 n hn
            obtain ⟨w1, w2⟩ := (j3 n hn).1 (List.mem_range.mpr hn)
            rw [(hch n hn).1] at w1
            rw [(hch n hn).2] at w2
            rw [q1', q2', q3', q11']
            refine ⟨a1, w1, w2, fun n10 n11 => ?_, fun n11 => ⟨?_, (a5 n11).2.1, (a5 n11).2.2⟩⟩
            · rw [(e3 n hn).2 n10, r4]; exact a4 n11
            · rw [(e3 n hn).2 (by omega), r4]; exact (a5 n11).1
          · unfold tyN
            rw [q6', q7']
            exact hY
        · have hex : ∃ x y, x < ps.length ∧ y < x ∧ smP ps S T y x := by
            refine Classical.byContradiction fun hne => qc (hc2.mpr (tn.mpr (fun A n B e m hm hsm => ?_)))
            obtain ⟨e1, e2⟩ := rg_split e
            rw [e1] at hm
            have hm := List.mem_range.mp hm
            exact hne ⟨n, m, e2, hm, (mgK_P hC2 ho hT hcn hY (by omega) e2).mp hsm⟩
          with_reducible refine xm_go_blk b_X3_readProgram_191 k_X3_readProgram_191 ?_
          refine by_if_le 197 rfl ?_
          simp (disch := first | exact Nat.ne_of_beq_eq_false rfl | exact rfl | omega) only [nI_add, xa_sub, xa_mul, pk_div, nm_mod, xa_shr, xa_and7, xa_and1, xa_and255, xa_by_and, nI_m1, Nat.add_sub_cancel, Nat.reducePow, Nat.zero_add, Nat.add_zero, Nat.reduceAdd, Nat.reduceMul, Nat.reduceSub, xf_same, xq_ff, xq_fo, xf_1, xf_2, xs_1, xs_2, xs_same, xq_so, xj_1, xj_2, xj_same, xq_jo, xq_sa1, xq_same, xq_other, upd_s, oI_n, oI_s, xv_0, xv_1, xv_2, xv_3, xm_p1, xm_p2, xq_fp, xq_fn, List.filter_nil, Nat.reduceBEq, Bool.not_true, Bool.not_false, Bool.and_true, Bool.and_false, Bool.false_and, Bool.true_and, if_true, if_false, Bool.false_eq_true, reduceIte, xc_i, xc_j, xc_r, xc_n, List.nil_append, List.cons_append, Option.toList_some, Option.toList_none, nI_ltJ, nI_leJ, nI_eqJ, nI_ltz, nI_gez, nI_gtz, nI_lez, nI_eqz, m1_ltz, m1_gez, true_imp_iff, false_imp_iff, true_and, and_true, ne_eq, not_false_eq_true, not_true_eq_false, Nat.reduceEqDiff, Nat.reduceLT, Nat.reduceLeDiff]
          refine ⟨fun c => absurd c (by omega), fun c191 => ?_⟩
          with_reducible refine xm_go_blk b_X3_readProgram_194 k_X3_readProgram_194 ?_
          refine by_bipush cb_6 ?_
          refine by_iret ry_74 (by first | rfl | assumption) ?_
          exact hp h3 6 S T G3 (Or.inr ⟨hout, Or.inr ⟨nb, Or.inr ⟨hlst, Or.inr ⟨nw, Or.inl ⟨hex, rfl⟩⟩⟩⟩⟩) A3 O3 (by decide) (fun z => absurd z (by decide))
      · with_reducible refine xm_go_blk b_X3_readProgram_170 k_X3_readProgram_170 ?_
        refine by_istore (by rw [ml_74]; decide) ?_
        refine by_iload rfl ?_
        refine by_if_eq 180 rfl ?_
        simp (disch := first | exact Nat.ne_of_beq_eq_false rfl | exact rfl | omega) only [nI_add, xa_sub, xa_mul, pk_div, nm_mod, xa_shr, xa_and7, xa_and1, xa_and255, xa_by_and, nI_m1, Nat.add_sub_cancel, Nat.reducePow, Nat.zero_add, Nat.add_zero, Nat.reduceAdd, Nat.reduceMul, Nat.reduceSub, xf_same, xq_ff, xq_fo, xf_1, xf_2, xs_1, xs_2, xs_same, xq_so, xj_1, xj_2, xj_same, xq_jo, xq_sa1, xq_same, xq_other, upd_s, oI_n, oI_s, xv_0, xv_1, xv_2, xv_3, xm_p1, xm_p2, xq_fp, xq_fn, List.filter_nil, Nat.reduceBEq, Bool.not_true, Bool.not_false, Bool.and_true, Bool.and_false, Bool.false_and, Bool.true_and, if_true, if_false, Bool.false_eq_true, reduceIte, xc_i, xc_j, xc_r, xc_n, List.nil_append, List.cons_append, Option.toList_some, Option.toList_none, nI_ltJ, nI_leJ, nI_eqJ, nI_ltz, nI_gez, nI_gtz, nI_lez, nI_eqz, m1_ltz, m1_gez, true_imp_iff, false_imp_iff, true_and, and_true, ne_eq, not_false_eq_true, not_true_eq_false, Nat.reduceEqDiff, Nat.reduceLT, Nat.reduceLeDiff]
        with_reducible refine xm_go_blk b_X3_readProgram_177 k_X3_readProgram_177 ?_
        refine by_iload rfl ?_
        refine by_iret ry_74 (by first | rfl | assumption) ?_
        exact hp h2 9 S T G2 (Or.inr ⟨hout, Or.inr ⟨nb, Or.inr ⟨hlst, Or.inl ⟨hw'.mp rfl, rfl⟩⟩⟩⟩) A2 O2 (by decide) (fun z => absurd z (by decide))
  · with_reducible refine xm_go_blk b_X3_readProgram_154 k_X3_readProgram_154 ?_
    refine by_if_ne 159 rfl ?_
    simp (disch := first | exact Nat.ne_of_beq_eq_false rfl | exact rfl | omega) only [nI_add, xa_sub, xa_mul, pk_div, nm_mod, xa_shr, xa_and7, xa_and1, xa_and255, xa_by_and, nI_m1, Nat.add_sub_cancel, Nat.reducePow, Nat.zero_add, Nat.add_zero, Nat.reduceAdd, Nat.reduceMul, Nat.reduceSub, xf_same, xq_ff, xq_fo, xf_1, xf_2, xs_1, xs_2, xs_same, xq_so, xj_1, xj_2, xj_same, xq_jo, xq_sa1, xq_same, xq_other, upd_s, oI_n, oI_s, xv_0, xv_1, xv_2, xv_3, xm_p1, xm_p2, xq_fp, xq_fn, List.filter_nil, Nat.reduceBEq, Bool.not_true, Bool.not_false, Bool.and_true, Bool.and_false, Bool.false_and, Bool.true_and, if_true, if_false, Bool.false_eq_true, reduceIte, xc_i, xc_j, xc_r, xc_n, List.nil_append, List.cons_append, Option.toList_some, Option.toList_none, nI_ltJ, nI_leJ, nI_eqJ, nI_ltz, nI_gez, nI_gtz, nI_lez, nI_eqz, m1_ltz, m1_gez, true_imp_iff, false_imp_iff, true_and, and_true, ne_eq, not_false_eq_true, not_true_eq_false, Nat.reduceEqDiff, Nat.reduceLT, Nat.reduceLeDiff]
    with_reducible refine xm_go_blk b_X3_readProgram_157 k_X3_readProgram_157 ?_
    refine by_iconst ci_5 ?_
    refine by_iret ry_74 (by first | rfl | assumption) ?_
    exact hp h1 5 (fun _ => tO) (fun _ => tO) G1 (Or.inl ⟨fun z => hL (df_out_uniq hout z), rfl⟩) A1 O1 (by decide) (fun z => absurd z (by decide))
end LP
