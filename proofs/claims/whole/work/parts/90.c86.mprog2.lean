/-! ===== the reference: readProgram, whole ===== -/
section MP
variable {sc : xm_Sc} {d : Nat} {l : List Nat} {h : xm_H} {post : xm_Po}
theorem mp_91 {ps : List pr_D} {a : Nat} {kb : Int32} (hpr : pr_prog (by_bit l) (8 * l.length) = .ok (ps, a)) (hS : mrS h l a 0) (hM : ndM h ps) (h5 : h.2.2 102 5 = .int (nI ps.length)) (hkb : h.2.2 102 33 = .int kb)
    (hp : ∀ h' f S T, Fr gaR gaT h h' → kpT h h' → LdG l ps a f S T → f ≤ 12 → (f = 0 → PM h' l ps a S T) → (f ≠ 0 → h'.2.2 102 33 = h.2.2 102 33) → post (some (.int (nI f))) h') :
    xm_go (XE sc) (xm_T (XE sc) (d + 6)) 283 post 91 [(0, .ref 102)] [] h := by
  obtain ⟨ho, hN1, hN2⟩ := psOK_prog (by_bit_lt l) hpr
  obtain ⟨s1, s2, s3, s4, s5, s6, s7⟩ := hS
  have hcN := ps_cN ho
  have hac := ps_ac ho
  have hch := ndM_ch hM ho
  with_reducible refine xm_go_blk b_X12_readProgram_91 k_X12_readProgram_91 ?_
  refine by_aload_n rfl ?_
  refine by_inv0 cn_283 lk_12_363 (by rw [xe_cnt]; decide) is_231 np_231 cn_231 (by first | exact rfl | assumption) (Nat.le_of_ble_eq_true rfl) ?_
  refine sp_isInOrder (d := d + 3) s1 h5 (by omega) hN1 hch hcN (fun h1 L hout f1 hl hrow hL => ?_) (fun h1 L hout f1 hL => ?_)
  · subst hL
    have F1 : XF h1 := Fr_XF s1 f1 (by decide +kernel)
    obtain ⟨lnd, lN, lcl⟩ := df_out_cl hcN hac (show ps.length - 1 < ps.length by omega) hout
    have G1 : Fr gaR gaT h h1 := Fr_mo f1 (by simp [gaR]) (by simp [gaT])
    have P1 : kpT h h1 := kpT_fr f1 (fun a q1 q2 => by simp; omega)
    have hM1 : ndM h1 ps := ndM_fr hM f1 (by simp) (by simp) (by simp) (by simp) (by simp)
    have hch1 := ndM_ch hM1 ho
    have e5 : h1.2.2 102 5 = .int (nI ps.length) := by rw [f1.2.2 _ _ (by simp)]; exact h5
    have k1 : h1.2.2 102 33 = h.2.2 102 33 := f1.2.2 _ _ (by simp)
    with_reducible refine xm_go_blk b_X12_readProgram_95 k_X12_readProgram_95 ?_
    refine by_if_ne 100 rfl ?_
    simp (disch := first | exact Nat.ne_of_beq_eq_false rfl | exact rfl | omega) only [nI_add, xa_sub, xa_mul, pk_div, nm_mod, xa_shr, xa_and7, xa_and1, xa_and255, xa_by_and, nI_m1, Nat.add_sub_cancel, Nat.reducePow, Nat.zero_add, Nat.add_zero, Nat.reduceAdd, Nat.reduceMul, Nat.reduceSub, xf_same, xq_ff, xq_fo, xf_1, xf_2, xs_1, xs_2, xs_same, xq_so, xj_1, xj_2, xj_same, xq_jo, xq_sa1, xq_same, xq_other, upd_s, oI_n, oI_s, xv_0, xv_1, xv_2, xv_3, xm_p1, xm_p2, xq_fp, xq_fn, List.filter_nil, Nat.reduceBEq, Bool.not_true, Bool.not_false, Bool.and_true, Bool.and_false, Bool.false_and, Bool.true_and, if_true, if_false, Bool.false_eq_true, reduceIte, xc_i, xc_j, xc_r, xc_n, List.nil_append, List.cons_append, Option.toList_some, Option.toList_none, nI_ltJ, nI_leJ, nI_eqJ, nI_ltz, nI_gez, nI_gtz, nI_lez, nI_eqz, m1_ltz, m1_gez, true_imp_iff, false_imp_iff, true_and, and_true, ne_eq, not_false_eq_true, not_true_eq_false, Nat.reduceEqDiff, Nat.reduceLT, Nat.reduceLeDiff, e5]
    with_reducible refine xm_go_blk b_X12_readProgram_100 k_X12_readProgram_100 ?_
    refine by_aload_n rfl ?_
    refine by_aload_n rfl ?_
    refine by_getf cn_283 fl_12_223 (by first | exact rfl | assumption) (by decide) ?_
    refine by_iconst ci_1 ?_
    simp (disch := first | exact Nat.ne_of_beq_eq_false rfl | exact rfl | omega) only [nI_add, xa_sub, xa_mul, pk_div, nm_mod, xa_shr, xa_and7, xa_and1, xa_and255, xa_by_and, nI_m1, Nat.add_sub_cancel, Nat.reducePow, Nat.zero_add, Nat.add_zero, Nat.reduceAdd, Nat.reduceMul, Nat.reduceSub, xf_same, xq_ff, xq_fo, xf_1, xf_2, xs_1, xs_2, xs_same, xq_so, xj_1, xj_2, xj_same, xq_jo, xq_sa1, xq_same, xq_other, upd_s, oI_n, oI_s, e5]
    refine by_isub ?_
    simp (disch := first | exact Nat.ne_of_beq_eq_false rfl | exact rfl | omega) only [nI_add, xa_sub, xa_mul, pk_div, nm_mod, xa_shr, xa_and7, xa_and1, xa_and255, xa_by_and, nI_m1, Nat.add_sub_cancel, Nat.reducePow, Nat.zero_add, Nat.add_zero, Nat.reduceAdd, Nat.reduceMul, Nat.reduceSub, xf_same, xq_ff, xq_fo, xf_1, xf_2, xs_1, xs_2, xs_same, xq_so, xj_1, xj_2, xj_same, xq_jo, xq_sa1, xq_same, xq_other, upd_s, oI_n, oI_s, xv_0, xv_1, xv_2, xv_3, xm_p1, xm_p2, xq_fp, xq_fn, List.filter_nil, Nat.reduceBEq, Bool.not_true, Bool.not_false, Bool.and_true, Bool.and_false, Bool.false_and, Bool.true_and, if_true, if_false, Bool.false_eq_true, reduceIte, xc_i, xc_j, xc_r, xc_n, List.nil_append, List.cons_append, Option.toList_some, Option.toList_none, e5]
    refine by_inv1 cn_283 lk_12_366 (by rw [xe_cnt]; decide) is_238 np_238 cn_238 (by first | exact rfl | assumption) (Nat.le_of_ble_eq_true rfl) ?_
    refine sp_isWronglyHidden (d := d + 4) (L := List.range ps.length) F1 (by omega) (show ps.length - 1 < ps.length by omega) hch1 hcN (ps_O ho) hl (by simp; omega) hrow lN (fun z => ?_) (fun q1 q2 => ?_)
    · with_reducible refine xm_go_blk b_X12_readProgram_110 k_X12_readProgram_110 ?_
      refine by_if_eq 116 rfl ?_
      simp (disch := first | exact Nat.ne_of_beq_eq_false rfl | exact rfl | omega) only [nI_add, xa_sub, xa_mul, pk_div, nm_mod, xa_shr, xa_and7, xa_and1, xa_and255, xa_by_and, nI_m1, Nat.add_sub_cancel, Nat.reducePow, Nat.zero_add, Nat.add_zero, Nat.reduceAdd, Nat.reduceMul, Nat.reduceSub, xf_same, xq_ff, xq_fo, xf_1, xf_2, xs_1, xs_2, xs_same, xq_so, xj_1, xj_2, xj_same, xq_jo, xq_sa1, xq_same, xq_other, upd_s, oI_n, oI_s, xv_0, xv_1, xv_2, xv_3, xm_p1, xm_p2, xq_fp, xq_fn, List.filter_nil, Nat.reduceBEq, Bool.not_true, Bool.not_false, Bool.and_true, Bool.and_false, Bool.false_and, Bool.true_and, if_true, if_false, Bool.false_eq_true, reduceIte, xc_i, xc_j, xc_r, xc_n, List.nil_append, List.cons_append, Option.toList_some, Option.toList_none, nI_ltJ, nI_leJ, nI_eqJ, nI_ltz, nI_gez, nI_gtz, nI_lez, nI_eqz, m1_ltz, m1_gez, true_imp_iff, false_imp_iff, true_and, and_true, ne_eq, not_false_eq_true, not_true_eq_false, Nat.reduceEqDiff, Nat.reduceLT, Nat.reduceLeDiff]
      with_reducible refine xm_go_blk b_X12_readProgram_113 k_X12_readProgram_113 ?_
      refine by_bipush cb_7 ?_
      refine by_iret ry_283 (by first | rfl | assumption) ?_
      exact hp h1 7 (fun _ => tO) (fun _ => tO) G1 P1 (Or.inr ⟨hout, Or.inl ⟨z, rfl⟩⟩) (by decide) (fun z => absurd z (by decide)) (fun _ => k1)
    · have nb : ¬ bad7 ps := by
        rintro (z | ⟨n, n1, n2⟩)
        · exact q1 z
        · rw [q2 n n1] at n2; cases n2
      with_reducible refine xm_go_blk b_X12_readProgram_110 k_X12_readProgram_110 ?_
      refine by_if_eq 116 rfl ?_
      simp (disch := first | exact Nat.ne_of_beq_eq_false rfl | exact rfl | omega) only [nI_add, xa_sub, xa_mul, pk_div, nm_mod, xa_shr, xa_and7, xa_and1, xa_and255, xa_by_and, nI_m1, Nat.add_sub_cancel, Nat.reducePow, Nat.zero_add, Nat.add_zero, Nat.reduceAdd, Nat.reduceMul, Nat.reduceSub, xf_same, xq_ff, xq_fo, xf_1, xf_2, xs_1, xs_2, xs_same, xq_so, xj_1, xj_2, xj_same, xq_jo, xq_sa1, xq_same, xq_other, upd_s, oI_n, oI_s, xv_0, xv_1, xv_2, xv_3, xm_p1, xm_p2, xq_fp, xq_fn, List.filter_nil, Nat.reduceBEq, Bool.not_true, Bool.not_false, Bool.and_true, Bool.and_false, Bool.false_and, Bool.true_and, if_true, if_false, Bool.false_eq_true, reduceIte, xc_i, xc_j, xc_r, xc_n, List.nil_append, List.cons_append, Option.toList_some, Option.toList_none, nI_ltJ, nI_leJ, nI_eqJ, nI_ltz, nI_gez, nI_gtz, nI_lez, nI_eqz, m1_ltz, m1_gez, true_imp_iff, false_imp_iff, true_and, and_true, ne_eq, not_false_eq_true, not_true_eq_false, Nat.reduceEqDiff, Nat.reduceLT, Nat.reduceLeDiff]
      with_reducible refine xm_go_blk b_X12_readProgram_116 k_X12_readProgram_116 ?_
      refine by_aload_n rfl ?_
      refine by_inv0 cn_283 lk_12_369 (by rw [xe_cnt]; decide) is_224 np_224 cn_224 (by first | exact rfl | assumption) (Nat.le_of_ble_eq_true rfl) ?_
      refine sp_findTypes (d := d + 1) F1 (show ps.length ≤ 2000 by omega) (ndM_R hM1 ho) (ndL_of (ps_O ho) lnd lN lcl q2) lN hrow hl (fun h2 S T cn tr K Lf R w f2 P2 hlst hT hcn0 hY hw hw' => ?_) (fun h2 f2 P2 hno => ?_)
      · have hcn6 : cn ≤ 6400 := by
          have := nd_len ps.length _ lnd lN
          omega
        have hcn : cn ≤ 17211 := by omega
        have F2 : XF h2 := Fr_XF F1 f2 fy_fin
        have G2 : Fr gaR gaT h h2 := Fr_tr G1 f2 (by simp [fyR, gaR]) (by simp [fyT, gaT])
        have P12 := kpT_tr P1 P2
        have k2 : h2.2.2 102 33 = h.2.2 102 33 := by rw [f2.2.2 _ _ (by simp [fyT])]; exact k1
        rcases hw with rfl | rfl
        · have nw : ¬ jdW (pC ps) (List.range ps.length) S T := fun z => absurd (hw'.mpr z) (by decide)
          have hM2 : ndM h2 ps := ndM_fr hM1 f2 (by simp [fyR]) (by simp [fyR]) (by simp [fyR]) (by simp [fyR]) (by simp [fyR])
          have e52 : h2.2.2 102 5 = .int (nI ps.length) := by rw [f2.2.2 _ _ (by simp [fyT])]; exact e5
          with_reducible refine xm_go_blk b_X12_readProgram_120 k_X12_readProgram_120 ?_
          refine by_istore_n (by rw [ml_283]; decide) ?_
          refine by_iload_n rfl ?_
          refine by_if_le 127 rfl ?_
          simp (disch := first | exact Nat.ne_of_beq_eq_false rfl | exact rfl | omega) only [nI_add, xa_sub, xa_mul, pk_div, nm_mod, xa_shr, xa_and7, xa_and1, xa_and255, xa_by_and, nI_m1, Nat.add_sub_cancel, Nat.reducePow, Nat.zero_add, Nat.add_zero, Nat.reduceAdd, Nat.reduceMul, Nat.reduceSub, xf_same, xq_ff, xq_fo, xf_1, xf_2, xs_1, xs_2, xs_same, xq_so, xj_1, xj_2, xj_same, xq_jo, xq_sa1, xq_same, xq_other, upd_s, oI_n, oI_s, xv_0, xv_1, xv_2, xv_3, xm_p1, xm_p2, xq_fp, xq_fn, List.filter_nil, Nat.reduceBEq, Bool.not_true, Bool.not_false, Bool.and_true, Bool.and_false, Bool.false_and, Bool.true_and, if_true, if_false, Bool.false_eq_true, reduceIte, xc_i, xc_j, xc_r, xc_n, List.nil_append, List.cons_append, Option.toList_some, Option.toList_none, nI_ltJ, nI_leJ, nI_eqJ, nI_ltz, nI_gez, nI_gtz, nI_lez, nI_eqz, m1_ltz, m1_gez, true_imp_iff, false_imp_iff, true_and, and_true, ne_eq, not_false_eq_true, not_true_eq_false, Nat.reduceEqDiff, Nat.reduceLT, Nat.reduceLeDiff]
          with_reducible refine xm_go_blk b_X12_readProgram_127 k_X12_readProgram_127 ?_
          refine by_aload_n rfl ?_
          refine by_inv0 cn_283 lk_12_372 (by rw [xe_cnt]; decide) is_228 np_228 cn_228 (by first | exact rfl | assumption) (Nat.le_of_ble_eq_true rfl) ?_
          refine sp_hasSame (d := d + 3) F2 (by omega) e52 (ndM_ch hM2 ho) hcN (fun z => ?_) (fun z => ?_)
          · obtain ⟨x, y, x1, x2, x3⟩ := z
            with_reducible refine xm_go_blk b_X12_readProgram_131 k_X12_readProgram_131 ?_
            refine by_if_eq 137 rfl ?_
            simp (disch := first | exact Nat.ne_of_beq_eq_false rfl | exact rfl | omega) only [nI_add, xa_sub, xa_mul, pk_div, nm_mod, xa_shr, xa_and7, xa_and1, xa_and255, xa_by_and, nI_m1, Nat.add_sub_cancel, Nat.reducePow, Nat.zero_add, Nat.add_zero, Nat.reduceAdd, Nat.reduceMul, Nat.reduceSub, xf_same, xq_ff, xq_fo, xf_1, xf_2, xs_1, xs_2, xs_same, xq_so, xj_1, xj_2, xj_same, xq_jo, xq_sa1, xq_same, xq_other, upd_s, oI_n, oI_s, xv_0, xv_1, xv_2, xv_3, xm_p1, xm_p2, xq_fp, xq_fn, List.filter_nil, Nat.reduceBEq, Bool.not_true, Bool.not_false, Bool.and_true, Bool.and_false, Bool.false_and, Bool.true_and, if_true, if_false, Bool.false_eq_true, reduceIte, xc_i, xc_j, xc_r, xc_n, List.nil_append, List.cons_append, Option.toList_some, Option.toList_none, nI_ltJ, nI_leJ, nI_eqJ, nI_ltz, nI_gez, nI_gtz, nI_lez, nI_eqz, m1_ltz, m1_gez, true_imp_iff, false_imp_iff, true_and, and_true, ne_eq, not_false_eq_true, not_true_eq_false, Nat.reduceEqDiff, Nat.reduceLT, Nat.reduceLeDiff]
            with_reducible refine xm_go_blk b_X12_readProgram_134 k_X12_readProgram_134 ?_
            refine by_bipush cb_6 ?_
            refine by_iret ry_283 (by first | rfl | assumption) ?_
            exact hp h2 6 S T G2 P12 (Or.inr ⟨hout, Or.inr ⟨nb, Or.inr ⟨hlst, Or.inr ⟨nw, Or.inl ⟨⟨x, y, x1, x2, smP_sw ((msK_P hM2 ho hT hcn hY x1 (by omega)).mp x3)⟩, rfl⟩⟩⟩⟩⟩) (by decide) (fun z => absurd z (by decide)) (fun _ => k2)
          · have hno : ∀ x y, x < ps.length → y < x → ¬ smP ps S T y x := fun x y hx hy hsm => z x y hx hy ((msK_P hM2 ho hT hcn hY hx (by omega)).mpr (smP_sw hsm))
            have hS2 : mrS h2 l a 0 := ⟨F2, ⟨fun i hi => by rw [f2.1 103 (by simp [fyR]), f1.1 103 (by simp)]; exact s2.1 i hi, s2.2⟩, by rw [f2.2.2 _ _ (by simp [fyT]), f1.2.2 _ _ (by simp)]; exact s3, by rw [f2.2.2 _ _ (by simp [fyT]), f1.2.2 _ _ (by simp)]; exact s4, by rw [f2.2.2 _ _ (by simp [fyT]), f1.2.2 _ _ (by simp)]; exact s5, s6, s7⟩
            have hW2 : mwN h2 ps.length (pC ps) T cn tr := by
              refine ⟨e52, fun n hn => ⟨(hM2 n hn).1, (ho n hn).1, fun hc => ?_⟩⟩
              obtain ⟨i, j, i0, i1, i0', i2, i3, i4, i5, i6⟩ := hY n (List.mem_range.mpr hn) (by omega)
              refine ⟨j, i0', i2, i5, i6, ?_⟩
              refine Classical.byContradiction fun z => nw ⟨n, List.mem_range.mpr hn, by omega, Or.inr (by omega)⟩
            with_reducible refine xm_go_blk b_X12_readProgram_131 k_X12_readProgram_131 ?_
            refine by_if_eq 137 rfl ?_
            simp (disch := first | exact Nat.ne_of_beq_eq_false rfl | exact rfl | omega) only [nI_add, xa_sub, xa_mul, pk_div, nm_mod, xa_shr, xa_and7, xa_and1, xa_and255, xa_by_and, nI_m1, Nat.add_sub_cancel, Nat.reducePow, Nat.zero_add, Nat.add_zero, Nat.reduceAdd, Nat.reduceMul, Nat.reduceSub, xf_same, xq_ff, xq_fo, xf_1, xf_2, xs_1, xs_2, xs_same, xq_so, xj_1, xj_2, xj_same, xq_jo, xq_sa1, xq_same, xq_other, upd_s, oI_n, oI_s, xv_0, xv_1, xv_2, xv_3, xm_p1, xm_p2, xq_fp, xq_fn, List.filter_nil, Nat.reduceBEq, Bool.not_true, Bool.not_false, Bool.and_true, Bool.and_false, Bool.false_and, Bool.true_and, if_true, if_false, Bool.false_eq_true, reduceIte, xc_i, xc_j, xc_r, xc_n, List.nil_append, List.cons_append, Option.toList_some, Option.toList_none, nI_ltJ, nI_leJ, nI_eqJ, nI_ltz, nI_gez, nI_gtz, nI_lez, nI_eqz, m1_ltz, m1_gez, true_imp_iff, false_imp_iff, true_and, and_true, ne_eq, not_false_eq_true, not_true_eq_false, Nat.reduceEqDiff, Nat.reduceLT, Nat.reduceLeDiff]
            with_reducible refine xm_go_blk b_X12_readProgram_137 k_X12_readProgram_137 ?_
            refine by_aload_n rfl ?_
            refine by_inv0 cn_283 lk_12_375 (by rw [xe_cnt]; decide) is_284 np_284 cn_284 (by first | exact rfl | assumption) (Nat.le_of_ble_eq_true rfl) ?_
            refine sp_mreadWitness (d := d) (by rw [k2]; exact hkb) hN2 hS2 hW2 hT hcn (fun h3 f f3 hf hrw hk3 => ?_)
            with_reducible refine xm_go_blk b_X12_readProgram_141 k_X12_readProgram_141 ?_
            refine by_iret ry_283 (by first | rfl | assumption) ?_
            have G3 : Fr gaR gaT h h3 := Fr_tr G2 f3 (by simp [mwR, gaR]) (by simp [mwT, gaT])
            refine hp h3 f S T G3 (kpT_tr P12 (kpT_fr f3 (fun a q1 q2 => by simp [mwR]; omega))) (Or.inr ⟨hout, Or.inr ⟨nb, Or.inr ⟨hlst, Or.inr ⟨nw, Or.inr ⟨hno, hf⟩⟩⟩⟩⟩) (by rw [hf]; exact wf_le) (fun z => ?_) (fun z => by rw [hk3 z]; exact k2)
            obtain ⟨k, b, e1, e2, e3⟩ := hrw z
            refine ⟨ho, hN1, hN2, by rw [f3.2.2 _ _ (by simp [mwT])]; exact e52, ndM_fr hM2 f3 (by simp [mwR]) (by simp [mwR]) (by simp [mwR]) (by simp [mwR]) (by simp [mwR]), ⟨k, b, e1, e2, e3⟩, cn, tr, K, Lf, R, hcn6, mtT_fr hT f3 (by simp [mwT]) (by simp [mtR, mwR]), ?_⟩
            unfold tyM
            rw [f3.1 111 (by simp [mwR]), f3.1 112 (by simp [mwR])]
            exact hY
        · with_reducible refine xm_go_blk b_X12_readProgram_120 k_X12_readProgram_120 ?_
          refine by_istore_n (by rw [ml_283]; decide) ?_
          refine by_iload_n rfl ?_
          refine by_if_le 127 rfl ?_
          simp (disch := first | exact Nat.ne_of_beq_eq_false rfl | exact rfl | omega) only [nI_add, xa_sub, xa_mul, pk_div, nm_mod, xa_shr, xa_and7, xa_and1, xa_and255, xa_by_and, nI_m1, Nat.add_sub_cancel, Nat.reducePow, Nat.zero_add, Nat.add_zero, Nat.reduceAdd, Nat.reduceMul, Nat.reduceSub, xf_same, xq_ff, xq_fo, xf_1, xf_2, xs_1, xs_2, xs_same, xq_so, xj_1, xj_2, xj_same, xq_jo, xq_sa1, xq_same, xq_other, upd_s, oI_n, oI_s, xv_0, xv_1, xv_2, xv_3, xm_p1, xm_p2, xq_fp, xq_fn, List.filter_nil, Nat.reduceBEq, Bool.not_true, Bool.not_false, Bool.and_true, Bool.and_false, Bool.false_and, Bool.true_and, if_true, if_false, Bool.false_eq_true, reduceIte, xc_i, xc_j, xc_r, xc_n, List.nil_append, List.cons_append, Option.toList_some, Option.toList_none, nI_ltJ, nI_leJ, nI_eqJ, nI_ltz, nI_gez, nI_gtz, nI_lez, nI_eqz, m1_ltz, m1_gez, true_imp_iff, false_imp_iff, true_and, and_true, ne_eq, not_false_eq_true, not_true_eq_false, Nat.reduceEqDiff, Nat.reduceLT, Nat.reduceLeDiff]
          with_reducible refine xm_go_blk b_X12_readProgram_125 k_X12_readProgram_125 ?_
          refine by_iload_n rfl ?_
          refine by_iret ry_283 (by first | rfl | assumption) ?_
          exact hp h2 9 S T G2 P12 (Or.inr ⟨hout, Or.inr ⟨nb, Or.inr ⟨hlst, Or.inl ⟨hw'.mp rfl, rfl⟩⟩⟩⟩) (by decide) (fun z => absurd z (by decide)) (fun _ => k2)
      · with_reducible refine xm_go_blk b_X12_readProgram_120 k_X12_readProgram_120 ?_
        refine by_istore_n (by rw [ml_283]; decide) ?_
        refine by_iload_n rfl ?_
        refine by_if_le 127 rfl ?_
        simp (disch := first | exact Nat.ne_of_beq_eq_false rfl | exact rfl | omega) only [nI_add, xa_sub, xa_mul, pk_div, nm_mod, xa_shr, xa_and7, xa_and1, xa_and255, xa_by_and, nI_m1, Nat.add_sub_cancel, Nat.reducePow, Nat.zero_add, Nat.add_zero, Nat.reduceAdd, Nat.reduceMul, Nat.reduceSub, xf_same, xq_ff, xq_fo, xf_1, xf_2, xs_1, xs_2, xs_same, xq_so, xj_1, xj_2, xj_same, xq_jo, xq_sa1, xq_same, xq_other, upd_s, oI_n, oI_s, xv_0, xv_1, xv_2, xv_3, xm_p1, xm_p2, xq_fp, xq_fn, List.filter_nil, Nat.reduceBEq, Bool.not_true, Bool.not_false, Bool.and_true, Bool.and_false, Bool.false_and, Bool.true_and, if_true, if_false, Bool.false_eq_true, reduceIte, xc_i, xc_j, xc_r, xc_n, List.nil_append, List.cons_append, Option.toList_some, Option.toList_none, nI_ltJ, nI_leJ, nI_eqJ, nI_ltz, nI_gez, nI_gtz, nI_lez, nI_eqz, m1_ltz, m1_gez, true_imp_iff, false_imp_iff, true_and, and_true, ne_eq, not_false_eq_true, not_true_eq_false, Nat.reduceEqDiff, Nat.reduceLT, Nat.reduceLeDiff]
        with_reducible refine xm_go_blk b_X12_readProgram_125 k_X12_readProgram_125 ?_
        refine by_iload_n rfl ?_
        refine by_iret ry_283 (by first | rfl | assumption) ?_
        exact hp h2 8 (fun _ => tO) (fun _ => tO) (Fr_tr G1 f2 (by simp [fyR, gaR]) (by simp [fyT, gaT])) (kpT_tr P1 P2) (Or.inr ⟨hout, Or.inr ⟨nb, Or.inl ⟨hno, rfl⟩⟩⟩) (by decide) (fun z => absurd z (by decide)) (fun _ => by rw [f2.2.2 _ _ (by simp [fyT])]; exact k1)
  · with_reducible refine xm_go_blk b_X12_readProgram_95 k_X12_readProgram_95 ?_
    refine by_if_ne 100 rfl ?_
    simp (disch := first | exact Nat.ne_of_beq_eq_false rfl | exact rfl | omega) only [nI_add, xa_sub, xa_mul, pk_div, nm_mod, xa_shr, xa_and7, xa_and1, xa_and255, xa_by_and, nI_m1, Nat.add_sub_cancel, Nat.reducePow, Nat.zero_add, Nat.add_zero, Nat.reduceAdd, Nat.reduceMul, Nat.reduceSub, xf_same, xq_ff, xq_fo, xf_1, xf_2, xs_1, xs_2, xs_same, xq_so, xj_1, xj_2, xj_same, xq_jo, xq_sa1, xq_same, xq_other, upd_s, oI_n, oI_s, xv_0, xv_1, xv_2, xv_3, xm_p1, xm_p2, xq_fp, xq_fn, List.filter_nil, Nat.reduceBEq, Bool.not_true, Bool.not_false, Bool.and_true, Bool.and_false, Bool.false_and, Bool.true_and, if_true, if_false, Bool.false_eq_true, reduceIte, xc_i, xc_j, xc_r, xc_n, List.nil_append, List.cons_append, Option.toList_some, Option.toList_none, nI_ltJ, nI_leJ, nI_eqJ, nI_ltz, nI_gez, nI_gtz, nI_lez, nI_eqz, m1_ltz, m1_gez, true_imp_iff, false_imp_iff, true_and, and_true, ne_eq, not_false_eq_true, not_true_eq_false, Nat.reduceEqDiff, Nat.reduceLT, Nat.reduceLeDiff]
    with_reducible refine xm_go_blk b_X12_readProgram_98 k_X12_readProgram_98 ?_
    refine by_iconst ci_5 ?_
    refine by_iret ry_283 (by first | rfl | assumption) ?_
    exact hp h1 5 (fun _ => tO) (fun _ => tO) (Fr_mo f1 (by simp [gaR]) (by simp [gaT])) (kpT_fr f1 (fun a q1 q2 => by simp; omega)) (Or.inl ⟨fun z => hL (df_out_uniq hout z), rfl⟩) (by decide) (fun z => absurd z (by decide)) (fun _ => f1.2.2 _ _ (by simp))
theorem mp_79 {kb : Int32} {cnt : Nat} {r0 : Except Nat (List pr_D × Nat)} (hr : pr_prog (by_bit l) (8 * l.length) = r0) (hL : mpM h l r0) (h5 : ∀ ps b, r0 = .ok (ps, b) → h.2.2 102 5 = .int (nI ps.length)) (hkb : h.2.2 102 33 = .int kb)
    (hp : ∀ h' f ps a S T, Fr gaR gaT h h' → kpT h h' → LdF l f ps a S T → f ≤ 12 → (f = 0 → PM h' l ps a S T) → (f ≠ 0 → h'.2.2 102 33 = h.2.2 102 33) → post (some (.int (nI f))) h') :
    xm_go (XE sc) (xm_T (XE sc) (d + 6)) 283 post 79 [(0, .ref 102)] [] h := by
  cases r0 with
  | error x =>
    obtain ⟨hx1, a', hS⟩ := hL
    have s5 := hS.2.2.2.2.1
    have s7 := hS.2.2.2.2.2.2
    have e0 : (x = 0) = False := eq_false (by omega)
    with_reducible refine xm_go_blk b_X12_readProgram_79 k_X12_readProgram_79 ?_
    refine by_aload_n rfl ?_
    refine by_getf cn_283 fl_12_330 (by first | exact rfl | assumption) (by decide) ?_
    simp (disch := first | exact Nat.ne_of_beq_eq_false rfl | exact rfl | omega) only [nI_add, xa_sub, xa_mul, pk_div, nm_mod, xa_shr, xa_and7, xa_and1, xa_and255, xa_by_and, nI_m1, Nat.add_sub_cancel, Nat.reducePow, Nat.zero_add, Nat.add_zero, Nat.reduceAdd, Nat.reduceMul, Nat.reduceSub, xf_same, xq_ff, xq_fo, xf_1, xf_2, xs_1, xs_2, xs_same, xq_so, xj_1, xj_2, xj_same, xq_jo, xq_sa1, xq_same, xq_other, upd_s, oI_n, oI_s, s5, e0]
    refine by_if_le 91 rfl ?_
    simp (disch := first | exact Nat.ne_of_beq_eq_false rfl | exact rfl | omega) only [nI_add, xa_sub, xa_mul, pk_div, nm_mod, xa_shr, xa_and7, xa_and1, xa_and255, xa_by_and, nI_m1, Nat.add_sub_cancel, Nat.reducePow, Nat.zero_add, Nat.add_zero, Nat.reduceAdd, Nat.reduceMul, Nat.reduceSub, xf_same, xq_ff, xq_fo, xf_1, xf_2, xs_1, xs_2, xs_same, xq_so, xj_1, xj_2, xj_same, xq_jo, xq_sa1, xq_same, xq_other, upd_s, oI_n, oI_s, xv_0, xv_1, xv_2, xv_3, xm_p1, xm_p2, xq_fp, xq_fn, List.filter_nil, Nat.reduceBEq, Bool.not_true, Bool.not_false, Bool.and_true, Bool.and_false, Bool.false_and, Bool.true_and, if_true, if_false, Bool.false_eq_true, reduceIte, xc_i, xc_j, xc_r, xc_n, List.nil_append, List.cons_append, Option.toList_some, Option.toList_none, nI_ltJ, nI_leJ, nI_eqJ, nI_ltz, nI_gez, nI_gtz, nI_lez, nI_eqz, m1_ltz, m1_gez, true_imp_iff, false_imp_iff, true_and, and_true, ne_eq, not_false_eq_true, not_true_eq_false, Nat.reduceEqDiff, Nat.reduceLT, Nat.reduceLeDiff, s5, e0]
    with_reducible refine xm_go_blk b_X12_readProgram_86 k_X12_readProgram_86 ?_
    refine by_aload_n rfl ?_
    refine by_getf cn_283 fl_12_330 (by first | exact rfl | assumption) (by decide) ?_
    simp (disch := first | exact Nat.ne_of_beq_eq_false rfl | exact rfl | omega) only [nI_add, xa_sub, xa_mul, pk_div, nm_mod, xa_shr, xa_and7, xa_and1, xa_and255, xa_by_and, nI_m1, Nat.add_sub_cancel, Nat.reducePow, Nat.zero_add, Nat.add_zero, Nat.reduceAdd, Nat.reduceMul, Nat.reduceSub, xf_same, xq_ff, xq_fo, xf_1, xf_2, xs_1, xs_2, xs_same, xq_so, xj_1, xj_2, xj_same, xq_jo, xq_sa1, xq_same, xq_other, upd_s, oI_n, oI_s, s5, e0]
    refine by_iret ry_283 (by first | rfl | assumption) ?_
    exact hp h x [] 0 (fun _ => tO) (fun _ => tO) Fr_rf kpT_rf (Or.inl ⟨hx1, hr⟩) s7 (fun z => by omega) (fun _ => rfl)
  | ok r =>
    obtain ⟨ps, b⟩ := r
    obtain ⟨hS, hC⟩ := hL
    have s5 := hS.2.2.2.2.1
    with_reducible refine xm_go_blk b_X12_readProgram_79 k_X12_readProgram_79 ?_
    refine by_aload_n rfl ?_
    refine by_getf cn_283 fl_12_330 (by first | exact rfl | assumption) (by decide) ?_
    simp (disch := first | exact Nat.ne_of_beq_eq_false rfl | exact rfl | omega) only [nI_add, xa_sub, xa_mul, pk_div, nm_mod, xa_shr, xa_and7, xa_and1, xa_and255, xa_by_and, nI_m1, Nat.add_sub_cancel, Nat.reducePow, Nat.zero_add, Nat.add_zero, Nat.reduceAdd, Nat.reduceMul, Nat.reduceSub, xf_same, xq_ff, xq_fo, xf_1, xf_2, xs_1, xs_2, xs_same, xq_so, xj_1, xj_2, xj_same, xq_jo, xq_sa1, xq_same, xq_other, upd_s, oI_n, oI_s, s5]
    refine by_if_le 91 rfl ?_
    simp (disch := first | exact Nat.ne_of_beq_eq_false rfl | exact rfl | omega) only [nI_add, xa_sub, xa_mul, pk_div, nm_mod, xa_shr, xa_and7, xa_and1, xa_and255, xa_by_and, nI_m1, Nat.add_sub_cancel, Nat.reducePow, Nat.zero_add, Nat.add_zero, Nat.reduceAdd, Nat.reduceMul, Nat.reduceSub, xf_same, xq_ff, xq_fo, xf_1, xf_2, xs_1, xs_2, xs_same, xq_so, xj_1, xj_2, xj_same, xq_jo, xq_sa1, xq_same, xq_other, upd_s, oI_n, oI_s, xv_0, xv_1, xv_2, xv_3, xm_p1, xm_p2, xq_fp, xq_fn, List.filter_nil, Nat.reduceBEq, Bool.not_true, Bool.not_false, Bool.and_true, Bool.and_false, Bool.false_and, Bool.true_and, if_true, if_false, Bool.false_eq_true, reduceIte, xc_i, xc_j, xc_r, xc_n, List.nil_append, List.cons_append, Option.toList_some, Option.toList_none, nI_ltJ, nI_leJ, nI_eqJ, nI_ltz, nI_gez, nI_gtz, nI_lez, nI_eqz, m1_ltz, m1_gez, true_imp_iff, false_imp_iff, true_and, and_true, ne_eq, not_false_eq_true, not_true_eq_false, Nat.reduceEqDiff, Nat.reduceLT, Nat.reduceLeDiff, s5]
    exact xm_go_wk (by simp [Value.category]) (mp_91 hr hS hC (h5 ps b rfl) hkb (fun h' f S T hf hk hG hf12 hPM hkb' => hp h' f ps b S T hf hk (Or.inr ⟨hr, hG⟩) hf12 hPM hkb'))
theorem sp_mreadProgram {kb : Int32} (hF : XF h) (hl : mrow h 103 l) (ht : h.2.2 102 2 = .int (nI l.length)) (hkb : h.2.2 102 33 = .int kb)
    (hp : ∀ h' f ps a S T, Fr gaR gaT h h' → kpT h h' → LdF l f ps a S T → f ≤ 12 → (f = 0 → PM h' l ps a S T) → (f ≠ 0 → h'.2.2 102 33 = h.2.2 102 33) → post (some (.int (nI f))) h') :
    xm_T (XE sc) (d + 7) 283 [.ref 102] h post := by
  have hlen := hl.2.2
  refine xq_in rfl ?_
  simp only [xq_a0, xq_aI, xq_aJ, xq_aR, Nat.reduceAdd]
  with_reducible refine xm_go_blk b_X12_readProgram_0 k_X12_readProgram_0 ?_
  refine by_aload_n rfl ?_
  refine by_iconst ci_0 ?_
  refine by_putf cn_283 fl_12_333 (by first | exact rfl | assumption) (by decide) nf_12_65 ft_12_65 (by first | rfl | assumption) (by first | rfl | assumption) ?_
  refine by_aload_n rfl ?_
  refine by_bipush cb_8 ?_
  refine by_aload_n rfl ?_
  refine by_getf cn_283 fl_12_215 (by first | exact rfl | assumption) (by decide) ?_
  simp (disch := first | exact Nat.ne_of_beq_eq_false rfl | exact rfl | omega) only [nI_add, xa_sub, xa_mul, pk_div, nm_mod, xa_shr, xa_and7, xa_and1, xa_and255, xa_by_and, nI_m1, Nat.add_sub_cancel, Nat.reducePow, Nat.zero_add, Nat.add_zero, Nat.reduceAdd, Nat.reduceMul, Nat.reduceSub, xf_same, xq_ff, xq_fo, xf_1, xf_2, xs_1, xs_2, xs_same, xq_so, xj_1, xj_2, xj_same, xq_jo, xq_sa1, xq_same, xq_other, upd_s, oI_n, oI_s, ht]
  refine by_imul ?_
  refine by_putf cn_283 fl_12_336 (by first | exact rfl | assumption) (by decide) nf_12_66 ft_12_66 (by first | rfl | assumption) (by first | rfl | assumption) ?_
  refine by_aload_n rfl ?_
  refine by_iconst ci_0 ?_
  refine by_putf cn_283 fl_12_330 (by first | exact rfl | assumption) (by decide) nf_12_67 ft_12_67 (by first | rfl | assumption) (by first | rfl | assumption) ?_
  refine by_aload_n rfl ?_
  refine by_aload_n rfl ?_
  simp (disch := first | exact Nat.ne_of_beq_eq_false rfl | exact rfl | omega) only [nI_add, xa_sub, xa_mul, pk_div, nm_mod, xa_shr, xa_and7, xa_and1, xa_and255, xa_by_and, nI_m1, Nat.add_sub_cancel, Nat.reducePow, Nat.zero_add, Nat.add_zero, Nat.reduceAdd, Nat.reduceMul, Nat.reduceSub, xf_same, xq_ff, xq_fo, xf_1, xf_2, xs_1, xs_2, xs_same, xq_so, xj_1, xj_2, xj_same, xq_jo, xq_sa1, xq_same, xq_other, upd_s, oI_n, oI_s, xv_0, xv_1, xv_2, xv_3, xm_p1, xm_p2, xq_fp, xq_fn, List.filter_nil, Nat.reduceBEq, Bool.not_true, Bool.not_false, Bool.and_true, Bool.and_false, Bool.false_and, Bool.true_and, if_true, if_false, Bool.false_eq_true, reduceIte, xc_i, xc_j, xc_r, xc_n, List.nil_append, List.cons_append, Option.toList_some, Option.toList_none, ht]
  refine by_inv0 cn_283 lk_12_345 (by rw [xe_cnt]; decide) is_266 np_266 cn_266 (by first | exact rfl | assumption) (Nat.le_of_ble_eq_true rfl) ?_
  have f1 : Fr [] [(102, 65), (102, 66), (102, 67)] h (xm_sf (xm_sf (xm_sf h 102 65 (.int (nI 0))) 102 66 (.int (nI (8 * l.length)))) 102 67 (.int (nI 0))) := Fr_sf (Fr_sf (Fr_sf Fr_rf (by simp)) (by simp)) (by simp)
  have hS1 : mrS (xm_sf (xm_sf (xm_sf h 102 65 (.int (nI 0))) 102 66 (.int (nI (8 * l.length)))) 102 67 (.int (nI 0))) l 0 0 := by
    refine ⟨Fr_XF hF f1 (by decide +kernel), ⟨fun i hi => by rw [f1.1 103 (by simp)]; exact hl.1 i hi, hl.2⟩, ?_, ?_, by simp only [xf_same], Nat.zero_le _, by decide⟩
    · rw [xq_ff (by omega), xq_ff (by omega)]; simp only [xf_same]
    · rw [xq_ff (by omega)]; simp only [xf_same]
  generalize xm_sf (xm_sf (xm_sf h 102 65 (.int (nI 0))) 102 66 (.int (nI (8 * l.length)))) 102 67 (.int (nI 0)) = h1 at *
  refine sp_mnat hS1 (fun y h2 hN2 => ?_)
  obtain ⟨f2, hr2⟩ := hN2
  have f12 : Fr [] [(102, 65), (102, 66), (102, 67)] h h2 := Fr_tr f1 f2 (by simp) (by simp)
  have ends : ∀ h5 r0, pr_prog (by_bit l) (8 * l.length) = r0 → Fr (105 :: 106 :: 107 :: 108 :: 110 :: []) [(102, 5), (102, 65), (102, 66), (102, 67)] h h5 → mpM h5 l r0 → (∀ ps b, r0 = .ok (ps, b) → h5.2.2 102 5 = .int (nI ps.length)) → xm_go (XE sc) (xm_T (XE sc) (d + 6)) 283 post 79 [(0, .ref 102)] [] h5 := by
    intro h5 r0 hr f5 hL h55
    refine mp_79 (cnt := 0) (kb := kb) hr hL h55 (by rw [f5.2.2 _ _ (by simp)]; exact hkb) (fun h' f ps a S T hf hk hG hf12 hPM hkb' => hp h' f ps a S T (Fr_tr (Fr_mo f5 (by simp [gaR]) (by simp [gaT])) hf (fun _ z => z) (fun _ z => z)) (kpT_tr (kpT_fr f5 (fun a q1 q2 => by simp; omega)) hk) hG hf12 hPM (fun z => by rw [hkb' z, f5.2.2 _ _ (by simp)]))
  unfold pr_prog at ends
  have fA : ∀ v, Fr (105 :: 106 :: 107 :: 108 :: 110 :: []) [(102, 5), (102, 65), (102, 66), (102, 67)] h (xm_sf h2 102 5 v) := fun v => Fr_sf (Fr_mo f12 (by simp) (by simp)) (by simp)
  cases er : pr_nat (by_bit l) (8 * l.length) 0 with
  | error x =>
    rw [er] at hr2 ends
    obtain ⟨hx1, a', hS2⟩ := hr2
    obtain ⟨s1, s2, s3, s4, s5, s6, s7⟩ := hS2
    have e0 : (x = 0) = False := eq_false (by omega)
    have f3 : Fr [] [(102, 5)] h2 (xm_sf h2 102 5 (.int y)) := Fr_sf Fr_rf (by simp)
    have s5' : (xm_sf h2 102 5 (.int y)).2.2 102 67 = .int (nI x) := by rw [xq_ff (by omega)]; exact s5
    have hS3 : mrS (xm_sf h2 102 5 (.int y)) l a' x := ⟨Fr_XF s1 f3 (by decide +kernel), s2, by rw [xq_ff (by omega)]; exact s3, by rw [xq_ff (by omega)]; exact s4, s5', s6, s7⟩
    have hg := ends _ (.error x) rfl (fA (.int y)) ⟨hx1, a', hS3⟩ (fun ps b z => by cases z)
    with_reducible refine xm_go_blk b_X12_readProgram_26 k_X12_readProgram_26 ?_
    refine by_putf cn_283 fl_12_223 (by first | exact rfl | assumption) (by decide) nf_12_5 ft_12_5 (by first | rfl | assumption) (by first | rfl | assumption) ?_
    refine by_aload_n rfl ?_
    refine by_getf cn_283 fl_12_330 (by first | exact rfl | assumption) (by decide) ?_
    simp (disch := first | exact Nat.ne_of_beq_eq_false rfl | exact rfl | omega) only [nI_add, xa_sub, xa_mul, pk_div, nm_mod, xa_shr, xa_and7, xa_and1, xa_and255, xa_by_and, nI_m1, Nat.add_sub_cancel, Nat.reducePow, Nat.zero_add, Nat.add_zero, Nat.reduceAdd, Nat.reduceMul, Nat.reduceSub, xf_same, xq_ff, xq_fo, xf_1, xf_2, xs_1, xs_2, xs_same, xq_so, xj_1, xj_2, xj_same, xq_jo, xq_sa1, xq_same, xq_other, upd_s, oI_n, oI_s, s5, e0]
    refine by_if_ne 51 rfl ?_
    simp (disch := first | exact Nat.ne_of_beq_eq_false rfl | exact rfl | omega) only [nI_add, xa_sub, xa_mul, pk_div, nm_mod, xa_shr, xa_and7, xa_and1, xa_and255, xa_by_and, nI_m1, Nat.add_sub_cancel, Nat.reducePow, Nat.zero_add, Nat.add_zero, Nat.reduceAdd, Nat.reduceMul, Nat.reduceSub, xf_same, xq_ff, xq_fo, xf_1, xf_2, xs_1, xs_2, xs_same, xq_so, xj_1, xj_2, xj_same, xq_jo, xq_sa1, xq_same, xq_other, upd_s, oI_n, oI_s, xv_0, xv_1, xv_2, xv_3, xm_p1, xm_p2, xq_fp, xq_fn, List.filter_nil, Nat.reduceBEq, Bool.not_true, Bool.not_false, Bool.and_true, Bool.and_false, Bool.false_and, Bool.true_and, if_true, if_false, Bool.false_eq_true, reduceIte, xc_i, xc_j, xc_r, xc_n, List.nil_append, List.cons_append, Option.toList_some, Option.toList_none, nI_ltJ, nI_leJ, nI_eqJ, nI_ltz, nI_gez, nI_gtz, nI_lez, nI_eqz, m1_ltz, m1_gez, true_imp_iff, false_imp_iff, true_and, and_true, ne_eq, not_false_eq_true, not_true_eq_false, Nat.reduceEqDiff, Nat.reduceLT, Nat.reduceLeDiff, s5, e0]
    with_reducible refine xm_go_blk b_X12_readProgram_51 k_X12_readProgram_51 ?_
    refine by_iconst ci_0 ?_
    refine by_istore_n (by rw [ml_283]; decide) ?_
    refine by_nil ?_
    simp (disch := first | exact Nat.ne_of_beq_eq_false rfl | exact rfl | omega) only [nI_add, xa_sub, xa_mul, pk_div, nm_mod, xa_shr, xa_and7, xa_and1, xa_and255, xa_by_and, nI_m1, Nat.add_sub_cancel, Nat.reducePow, Nat.zero_add, Nat.add_zero, Nat.reduceAdd, Nat.reduceMul, Nat.reduceSub, xf_same, xq_ff, xq_fo, xf_1, xf_2, xs_1, xs_2, xs_same, xq_so, xj_1, xj_2, xj_same, xq_jo, xq_sa1, xq_same, xq_other, upd_s, oI_n, oI_s, xv_0, xv_1, xv_2, xv_3, xm_p1, xm_p2, xq_fp, xq_fn, List.filter_nil, Nat.reduceBEq, Bool.not_true, Bool.not_false, Bool.and_true, Bool.and_false, Bool.false_and, Bool.true_and, if_true, if_false, Bool.false_eq_true, reduceIte, xc_i, xc_j, xc_r, xc_n, List.nil_append, List.cons_append, Option.toList_some, Option.toList_none, s5, e0]
    with_reducible refine xm_go_blk b_X12_readProgram_53 k_X12_readProgram_53 ?_
    refine by_iload_n rfl ?_
    refine by_aload_n rfl ?_
    refine by_getf cn_283 fl_12_223 (by first | exact rfl | assumption) (by decide) ?_
    simp (disch := first | exact Nat.ne_of_beq_eq_false rfl | exact rfl | omega) only [nI_add, xa_sub, xa_mul, pk_div, nm_mod, xa_shr, xa_and7, xa_and1, xa_and255, xa_by_and, nI_m1, Nat.add_sub_cancel, Nat.reducePow, Nat.zero_add, Nat.add_zero, Nat.reduceAdd, Nat.reduceMul, Nat.reduceSub, xf_same, xq_ff, xq_fo, xf_1, xf_2, xs_1, xs_2, xs_same, xq_so, xj_1, xj_2, xj_same, xq_jo, xq_sa1, xq_same, xq_other, upd_s, oI_n, oI_s, s5, e0]
    refine by_ic_ge 79 rfl ?_
    simp (disch := first | exact Nat.ne_of_beq_eq_false rfl | exact rfl | omega) only [nI_add, xa_sub, xa_mul, pk_div, nm_mod, xa_shr, xa_and7, xa_and1, xa_and255, xa_by_and, nI_m1, Nat.add_sub_cancel, Nat.reducePow, Nat.zero_add, Nat.add_zero, Nat.reduceAdd, Nat.reduceMul, Nat.reduceSub, xf_same, xq_ff, xq_fo, xf_1, xf_2, xs_1, xs_2, xs_same, xq_so, xj_1, xj_2, xj_same, xq_jo, xq_sa1, xq_same, xq_other, upd_s, oI_n, oI_s, xv_0, xv_1, xv_2, xv_3, xm_p1, xm_p2, xq_fp, xq_fn, List.filter_nil, Nat.reduceBEq, Bool.not_true, Bool.not_false, Bool.and_true, Bool.and_false, Bool.false_and, Bool.true_and, if_true, if_false, Bool.false_eq_true, reduceIte, xc_i, xc_j, xc_r, xc_n, List.nil_append, List.cons_append, Option.toList_some, Option.toList_none, nI_ltJ, nI_leJ, nI_eqJ, nI_ltz, nI_gez, nI_gtz, nI_lez, nI_eqz, m1_ltz, m1_gez, true_imp_iff, false_imp_iff, true_and, and_true, ne_eq, not_false_eq_true, not_true_eq_false, Nat.reduceEqDiff, Nat.reduceLT, Nat.reduceLeDiff, s5, e0]
    refine ⟨fun c => ?_, fun c => ?_⟩
    · exact xm_go_wk (by simp [Value.category]) hg
    · with_reducible refine xm_go_blk b_X12_readProgram_61 k_X12_readProgram_61 ?_
      refine by_aload_n rfl ?_
      refine by_getf cn_283 fl_12_330 (by first | exact rfl | assumption) (by decide) ?_
      simp (disch := first | exact Nat.ne_of_beq_eq_false rfl | exact rfl | omega) only [nI_add, xa_sub, xa_mul, pk_div, nm_mod, xa_shr, xa_and7, xa_and1, xa_and255, xa_by_and, nI_m1, Nat.add_sub_cancel, Nat.reducePow, Nat.zero_add, Nat.add_zero, Nat.reduceAdd, Nat.reduceMul, Nat.reduceSub, xf_same, xq_ff, xq_fo, xf_1, xf_2, xs_1, xs_2, xs_same, xq_so, xj_1, xj_2, xj_same, xq_jo, xq_sa1, xq_same, xq_other, upd_s, oI_n, oI_s, s5, e0]
      refine by_if_ne 79 rfl ?_
      simp (disch := first | exact Nat.ne_of_beq_eq_false rfl | exact rfl | omega) only [nI_add, xa_sub, xa_mul, pk_div, nm_mod, xa_shr, xa_and7, xa_and1, xa_and255, xa_by_and, nI_m1, Nat.add_sub_cancel, Nat.reducePow, Nat.zero_add, Nat.add_zero, Nat.reduceAdd, Nat.reduceMul, Nat.reduceSub, xf_same, xq_ff, xq_fo, xf_1, xf_2, xs_1, xs_2, xs_same, xq_so, xj_1, xj_2, xj_same, xq_jo, xq_sa1, xq_same, xq_other, upd_s, oI_n, oI_s, xv_0, xv_1, xv_2, xv_3, xm_p1, xm_p2, xq_fp, xq_fn, List.filter_nil, Nat.reduceBEq, Bool.not_true, Bool.not_false, Bool.and_true, Bool.and_false, Bool.false_and, Bool.true_and, if_true, if_false, Bool.false_eq_true, reduceIte, xc_i, xc_j, xc_r, xc_n, List.nil_append, List.cons_append, Option.toList_some, Option.toList_none, nI_ltJ, nI_leJ, nI_eqJ, nI_ltz, nI_gez, nI_gtz, nI_lez, nI_eqz, m1_ltz, m1_gez, true_imp_iff, false_imp_iff, true_and, and_true, ne_eq, not_false_eq_true, not_true_eq_false, Nat.reduceEqDiff, Nat.reduceLT, Nat.reduceLeDiff, s5, e0]
      exact xm_go_wk (by simp [Value.category]) hg
  | ok r =>
    obtain ⟨N, b⟩ := r
    rw [er] at hr2 ends
    obtain ⟨hy, hS2⟩ := hr2
    subst hy
    obtain ⟨s1, s2, s3, s4, s5, s6, s7⟩ := hS2
    obtain ⟨k1, k2, k3, k4⟩ := pr_nat_le (by_bit_lt l) (Nat.zero_le _) er
    have f3 : Fr [] [(102, 5)] h2 (xm_sf h2 102 5 (.int (nI N))) := Fr_sf Fr_rf (by simp)
    have F3 : XF (xm_sf h2 102 5 (.int (nI N))) := Fr_XF s1 f3 (by decide +kernel)
    have s5' : (xm_sf h2 102 5 (.int (nI N))).2.2 102 67 = .int (nI 0) := by rw [xq_ff (by omega)]; exact s5
    have hS3 : mrS (xm_sf h2 102 5 (.int (nI N))) l b 0 := ⟨F3, s2, by rw [xq_ff (by omega)]; exact s3, by rw [xq_ff (by omega)]; exact s4, s5', s6, s7⟩
    have e5 : (xm_sf h2 102 5 (.int (nI N))).2.2 102 5 = .int (nI N) := by simp only [xf_same]
    have fB := fA (.int (nI N))
    simp only at ends
    by_cases q : 400 < N
    · rw [if_pos q] at ends
      have hS4 : mrS (xm_sf (xm_sf h2 102 5 (.int (nI N))) 102 67 (.int (nI 4))) l b 4 := ⟨Fr_XF F3 (Fr_sf (Fr_rf (S := []) (T := [(102, 67)])) (by simp)) (by decide +kernel), s2, by rw [xq_ff (by omega)]; exact hS3.2.2.1, by rw [xq_ff (by omega)]; exact hS3.2.2.2.1, by simp only [xf_same], s6, by decide⟩
      have hg := ends _ (.error 4) rfl (Fr_sf fB (by simp)) ⟨by decide, b, hS4⟩ (fun ps b z => by cases z)
      with_reducible refine xm_go_blk b_X12_readProgram_26 k_X12_readProgram_26 ?_
      refine by_putf cn_283 fl_12_223 (by first | exact rfl | assumption) (by decide) nf_12_5 ft_12_5 (by first | rfl | assumption) (by first | rfl | assumption) ?_
      refine by_aload_n rfl ?_
      refine by_getf cn_283 fl_12_330 (by first | exact rfl | assumption) (by decide) ?_
      simp (disch := first | exact Nat.ne_of_beq_eq_false rfl | exact rfl | omega) only [nI_add, xa_sub, xa_mul, pk_div, nm_mod, xa_shr, xa_and7, xa_and1, xa_and255, xa_by_and, nI_m1, Nat.add_sub_cancel, Nat.reducePow, Nat.zero_add, Nat.add_zero, Nat.reduceAdd, Nat.reduceMul, Nat.reduceSub, xf_same, xq_ff, xq_fo, xf_1, xf_2, xs_1, xs_2, xs_same, xq_so, xj_1, xj_2, xj_same, xq_jo, xq_sa1, xq_same, xq_other, upd_s, oI_n, oI_s, s5]
      refine by_if_ne 51 rfl ?_
      simp (disch := first | exact Nat.ne_of_beq_eq_false rfl | exact rfl | omega) only [nI_add, xa_sub, xa_mul, pk_div, nm_mod, xa_shr, xa_and7, xa_and1, xa_and255, xa_by_and, nI_m1, Nat.add_sub_cancel, Nat.reducePow, Nat.zero_add, Nat.add_zero, Nat.reduceAdd, Nat.reduceMul, Nat.reduceSub, xf_same, xq_ff, xq_fo, xf_1, xf_2, xs_1, xs_2, xs_same, xq_so, xj_1, xj_2, xj_same, xq_jo, xq_sa1, xq_same, xq_other, upd_s, oI_n, oI_s, xv_0, xv_1, xv_2, xv_3, xm_p1, xm_p2, xq_fp, xq_fn, List.filter_nil, Nat.reduceBEq, Bool.not_true, Bool.not_false, Bool.and_true, Bool.and_false, Bool.false_and, Bool.true_and, if_true, if_false, Bool.false_eq_true, reduceIte, xc_i, xc_j, xc_r, xc_n, List.nil_append, List.cons_append, Option.toList_some, Option.toList_none, nI_ltJ, nI_leJ, nI_eqJ, nI_ltz, nI_gez, nI_gtz, nI_lez, nI_eqz, m1_ltz, m1_gez, true_imp_iff, false_imp_iff, true_and, and_true, ne_eq, not_false_eq_true, not_true_eq_false, Nat.reduceEqDiff, Nat.reduceLT, Nat.reduceLeDiff, s5]
      with_reducible refine xm_go_blk b_X12_readProgram_36 k_X12_readProgram_36 ?_
      refine by_aload_n rfl ?_
      refine by_getf cn_283 fl_12_223 (by first | exact rfl | assumption) (by decide) ?_
      refine by_sipush cs_400 ?_
      simp (disch := first | exact Nat.ne_of_beq_eq_false rfl | exact rfl | omega) only [nI_add, xa_sub, xa_mul, pk_div, nm_mod, xa_shr, xa_and7, xa_and1, xa_and255, xa_by_and, nI_m1, Nat.add_sub_cancel, Nat.reducePow, Nat.zero_add, Nat.add_zero, Nat.reduceAdd, Nat.reduceMul, Nat.reduceSub, xf_same, xq_ff, xq_fo, xf_1, xf_2, xs_1, xs_2, xs_same, xq_so, xj_1, xj_2, xj_same, xq_jo, xq_sa1, xq_same, xq_other, upd_s, oI_n, oI_s, s5]
      refine by_ic_le 51 rfl ?_
      simp (disch := first | exact Nat.ne_of_beq_eq_false rfl | exact rfl | omega) only [nI_add, xa_sub, xa_mul, pk_div, nm_mod, xa_shr, xa_and7, xa_and1, xa_and255, xa_by_and, nI_m1, Nat.add_sub_cancel, Nat.reducePow, Nat.zero_add, Nat.add_zero, Nat.reduceAdd, Nat.reduceMul, Nat.reduceSub, xf_same, xq_ff, xq_fo, xf_1, xf_2, xs_1, xs_2, xs_same, xq_so, xj_1, xj_2, xj_same, xq_jo, xq_sa1, xq_same, xq_other, upd_s, oI_n, oI_s, xv_0, xv_1, xv_2, xv_3, xm_p1, xm_p2, xq_fp, xq_fn, List.filter_nil, Nat.reduceBEq, Bool.not_true, Bool.not_false, Bool.and_true, Bool.and_false, Bool.false_and, Bool.true_and, if_true, if_false, Bool.false_eq_true, reduceIte, xc_i, xc_j, xc_r, xc_n, List.nil_append, List.cons_append, Option.toList_some, Option.toList_none, nI_ltJ, nI_leJ, nI_eqJ, nI_ltz, nI_gez, nI_gtz, nI_lez, nI_eqz, m1_ltz, m1_gez, true_imp_iff, false_imp_iff, true_and, and_true, ne_eq, not_false_eq_true, not_true_eq_false, Nat.reduceEqDiff, Nat.reduceLT, Nat.reduceLeDiff, s5]
      refine ⟨fun c => absurd c (by omega), fun c36 => ?_⟩
      with_reducible refine xm_go_blk b_X12_readProgram_46 k_X12_readProgram_46 ?_
      refine by_aload_n rfl ?_
      refine by_iconst ci_4 ?_
      refine by_putf cn_283 fl_12_330 (by first | exact rfl | assumption) (by decide) nf_12_67 ft_12_67 (by first | rfl | assumption) (by first | rfl | assumption) ?_
      refine by_nil ?_
      with_reducible refine xm_go_blk b_X12_readProgram_51 k_X12_readProgram_51 ?_
      refine by_iconst ci_0 ?_
      refine by_istore_n (by rw [ml_283]; decide) ?_
      refine by_nil ?_
      simp (disch := first | exact Nat.ne_of_beq_eq_false rfl | exact rfl | omega) only [nI_add, xa_sub, xa_mul, pk_div, nm_mod, xa_shr, xa_and7, xa_and1, xa_and255, xa_by_and, nI_m1, Nat.add_sub_cancel, Nat.reducePow, Nat.zero_add, Nat.add_zero, Nat.reduceAdd, Nat.reduceMul, Nat.reduceSub, xf_same, xq_ff, xq_fo, xf_1, xf_2, xs_1, xs_2, xs_same, xq_so, xj_1, xj_2, xj_same, xq_jo, xq_sa1, xq_same, xq_other, upd_s, oI_n, oI_s, xv_0, xv_1, xv_2, xv_3, xm_p1, xm_p2, xq_fp, xq_fn, List.filter_nil, Nat.reduceBEq, Bool.not_true, Bool.not_false, Bool.and_true, Bool.and_false, Bool.false_and, Bool.true_and, if_true, if_false, Bool.false_eq_true, reduceIte, xc_i, xc_j, xc_r, xc_n, List.nil_append, List.cons_append, Option.toList_some, Option.toList_none, s5]
      with_reducible refine xm_go_blk b_X12_readProgram_53 k_X12_readProgram_53 ?_
      refine by_iload_n rfl ?_
      refine by_aload_n rfl ?_
      refine by_getf cn_283 fl_12_223 (by first | exact rfl | assumption) (by decide) ?_
      simp (disch := first | exact Nat.ne_of_beq_eq_false rfl | exact rfl | omega) only [nI_add, xa_sub, xa_mul, pk_div, nm_mod, xa_shr, xa_and7, xa_and1, xa_and255, xa_by_and, nI_m1, Nat.add_sub_cancel, Nat.reducePow, Nat.zero_add, Nat.add_zero, Nat.reduceAdd, Nat.reduceMul, Nat.reduceSub, xf_same, xq_ff, xq_fo, xf_1, xf_2, xs_1, xs_2, xs_same, xq_so, xj_1, xj_2, xj_same, xq_jo, xq_sa1, xq_same, xq_other, upd_s, oI_n, oI_s, s5]
      refine by_ic_ge 79 rfl ?_
      simp (disch := first | exact Nat.ne_of_beq_eq_false rfl | exact rfl | omega) only [nI_add, xa_sub, xa_mul, pk_div, nm_mod, xa_shr, xa_and7, xa_and1, xa_and255, xa_by_and, nI_m1, Nat.add_sub_cancel, Nat.reducePow, Nat.zero_add, Nat.add_zero, Nat.reduceAdd, Nat.reduceMul, Nat.reduceSub, xf_same, xq_ff, xq_fo, xf_1, xf_2, xs_1, xs_2, xs_same, xq_so, xj_1, xj_2, xj_same, xq_jo, xq_sa1, xq_same, xq_other, upd_s, oI_n, oI_s, xv_0, xv_1, xv_2, xv_3, xm_p1, xm_p2, xq_fp, xq_fn, List.filter_nil, Nat.reduceBEq, Bool.not_true, Bool.not_false, Bool.and_true, Bool.and_false, Bool.false_and, Bool.true_and, if_true, if_false, Bool.false_eq_true, reduceIte, xc_i, xc_j, xc_r, xc_n, List.nil_append, List.cons_append, Option.toList_some, Option.toList_none, nI_ltJ, nI_leJ, nI_eqJ, nI_ltz, nI_gez, nI_gtz, nI_lez, nI_eqz, m1_ltz, m1_gez, true_imp_iff, false_imp_iff, true_and, and_true, ne_eq, not_false_eq_true, not_true_eq_false, Nat.reduceEqDiff, Nat.reduceLT, Nat.reduceLeDiff, s5]
      refine ⟨fun c => absurd c (by omega), fun c53 => ?_⟩
      with_reducible refine xm_go_blk b_X12_readProgram_61 k_X12_readProgram_61 ?_
      refine by_aload_n rfl ?_
      refine by_getf cn_283 fl_12_330 (by first | exact rfl | assumption) (by decide) ?_
      simp (disch := first | exact Nat.ne_of_beq_eq_false rfl | exact rfl | omega) only [nI_add, xa_sub, xa_mul, pk_div, nm_mod, xa_shr, xa_and7, xa_and1, xa_and255, xa_by_and, nI_m1, Nat.add_sub_cancel, Nat.reducePow, Nat.zero_add, Nat.add_zero, Nat.reduceAdd, Nat.reduceMul, Nat.reduceSub, xf_same, xq_ff, xq_fo, xf_1, xf_2, xs_1, xs_2, xs_same, xq_so, xj_1, xj_2, xj_same, xq_jo, xq_sa1, xq_same, xq_other, upd_s, oI_n, oI_s, s5]
      refine by_if_ne 79 rfl ?_
      simp (disch := first | exact Nat.ne_of_beq_eq_false rfl | exact rfl | omega) only [nI_add, xa_sub, xa_mul, pk_div, nm_mod, xa_shr, xa_and7, xa_and1, xa_and255, xa_by_and, nI_m1, Nat.add_sub_cancel, Nat.reducePow, Nat.zero_add, Nat.add_zero, Nat.reduceAdd, Nat.reduceMul, Nat.reduceSub, xf_same, xq_ff, xq_fo, xf_1, xf_2, xs_1, xs_2, xs_same, xq_so, xj_1, xj_2, xj_same, xq_jo, xq_sa1, xq_same, xq_other, upd_s, oI_n, oI_s, xv_0, xv_1, xv_2, xv_3, xm_p1, xm_p2, xq_fp, xq_fn, List.filter_nil, Nat.reduceBEq, Bool.not_true, Bool.not_false, Bool.and_true, Bool.and_false, Bool.false_and, Bool.true_and, if_true, if_false, Bool.false_eq_true, reduceIte, xc_i, xc_j, xc_r, xc_n, List.nil_append, List.cons_append, Option.toList_some, Option.toList_none, nI_ltJ, nI_leJ, nI_eqJ, nI_ltz, nI_gez, nI_gtz, nI_lez, nI_eqz, m1_ltz, m1_gez, true_imp_iff, false_imp_iff, true_and, and_true, ne_eq, not_false_eq_true, not_true_eq_false, Nat.reduceEqDiff, Nat.reduceLT, Nat.reduceLeDiff, s5]
      exact xm_go_wk (by simp [Value.category]) hg
    · rw [if_neg q] at ends
      have hg := mp_nodes (sc := sc) (d := d) (post := post) (h := xm_sf h2 102 5 (.int (nI N))) (l := l) (cnt := N) (by omega) e5 (r0 := pr_nodes (by_bit l) (8 * l.length) N [] b) (fun h5 f5 hM5 => ends h5 _ rfl (Fr_tr fB f5 (by simp [mrR]) (by simp [mrT])) hM5 (fun ps b' z => by
        have := (psOK_nodes (by_bit_lt l) N [] b (fun n hn => absurd hn (by simp)) z).2
        simp only [List.length_nil, Nat.zero_add] at this
        rw [this, f5.2.2 _ _ (by simp [mrT])]; exact e5)) N [] b _ (by simp) Fr_rf hS3 (fun j hj => absurd hj (by simp)) rfl
      with_reducible refine xm_go_blk b_X12_readProgram_26 k_X12_readProgram_26 ?_
      refine by_putf cn_283 fl_12_223 (by first | exact rfl | assumption) (by decide) nf_12_5 ft_12_5 (by first | rfl | assumption) (by first | rfl | assumption) ?_
      refine by_aload_n rfl ?_
      refine by_getf cn_283 fl_12_330 (by first | exact rfl | assumption) (by decide) ?_
      simp (disch := first | exact Nat.ne_of_beq_eq_false rfl | exact rfl | omega) only [nI_add, xa_sub, xa_mul, pk_div, nm_mod, xa_shr, xa_and7, xa_and1, xa_and255, xa_by_and, nI_m1, Nat.add_sub_cancel, Nat.reducePow, Nat.zero_add, Nat.add_zero, Nat.reduceAdd, Nat.reduceMul, Nat.reduceSub, xf_same, xq_ff, xq_fo, xf_1, xf_2, xs_1, xs_2, xs_same, xq_so, xj_1, xj_2, xj_same, xq_jo, xq_sa1, xq_same, xq_other, upd_s, oI_n, oI_s, s5]
      refine by_if_ne 51 rfl ?_
      simp (disch := first | exact Nat.ne_of_beq_eq_false rfl | exact rfl | omega) only [nI_add, xa_sub, xa_mul, pk_div, nm_mod, xa_shr, xa_and7, xa_and1, xa_and255, xa_by_and, nI_m1, Nat.add_sub_cancel, Nat.reducePow, Nat.zero_add, Nat.add_zero, Nat.reduceAdd, Nat.reduceMul, Nat.reduceSub, xf_same, xq_ff, xq_fo, xf_1, xf_2, xs_1, xs_2, xs_same, xq_so, xj_1, xj_2, xj_same, xq_jo, xq_sa1, xq_same, xq_other, upd_s, oI_n, oI_s, xv_0, xv_1, xv_2, xv_3, xm_p1, xm_p2, xq_fp, xq_fn, List.filter_nil, Nat.reduceBEq, Bool.not_true, Bool.not_false, Bool.and_true, Bool.and_false, Bool.false_and, Bool.true_and, if_true, if_false, Bool.false_eq_true, reduceIte, xc_i, xc_j, xc_r, xc_n, List.nil_append, List.cons_append, Option.toList_some, Option.toList_none, nI_ltJ, nI_leJ, nI_eqJ, nI_ltz, nI_gez, nI_gtz, nI_lez, nI_eqz, m1_ltz, m1_gez, true_imp_iff, false_imp_iff, true_and, and_true, ne_eq, not_false_eq_true, not_true_eq_false, Nat.reduceEqDiff, Nat.reduceLT, Nat.reduceLeDiff, s5]
      with_reducible refine xm_go_blk b_X12_readProgram_36 k_X12_readProgram_36 ?_
      refine by_aload_n rfl ?_
      refine by_getf cn_283 fl_12_223 (by first | exact rfl | assumption) (by decide) ?_
      refine by_sipush cs_400 ?_
      simp (disch := first | exact Nat.ne_of_beq_eq_false rfl | exact rfl | omega) only [nI_add, xa_sub, xa_mul, pk_div, nm_mod, xa_shr, xa_and7, xa_and1, xa_and255, xa_by_and, nI_m1, Nat.add_sub_cancel, Nat.reducePow, Nat.zero_add, Nat.add_zero, Nat.reduceAdd, Nat.reduceMul, Nat.reduceSub, xf_same, xq_ff, xq_fo, xf_1, xf_2, xs_1, xs_2, xs_same, xq_so, xj_1, xj_2, xj_same, xq_jo, xq_sa1, xq_same, xq_other, upd_s, oI_n, oI_s, s5]
      refine by_ic_le 51 rfl ?_
      simp (disch := first | exact Nat.ne_of_beq_eq_false rfl | exact rfl | omega) only [nI_add, xa_sub, xa_mul, pk_div, nm_mod, xa_shr, xa_and7, xa_and1, xa_and255, xa_by_and, nI_m1, Nat.add_sub_cancel, Nat.reducePow, Nat.zero_add, Nat.add_zero, Nat.reduceAdd, Nat.reduceMul, Nat.reduceSub, xf_same, xq_ff, xq_fo, xf_1, xf_2, xs_1, xs_2, xs_same, xq_so, xj_1, xj_2, xj_same, xq_jo, xq_sa1, xq_same, xq_other, upd_s, oI_n, oI_s, xv_0, xv_1, xv_2, xv_3, xm_p1, xm_p2, xq_fp, xq_fn, List.filter_nil, Nat.reduceBEq, Bool.not_true, Bool.not_false, Bool.and_true, Bool.and_false, Bool.false_and, Bool.true_and, if_true, if_false, Bool.false_eq_true, reduceIte, xc_i, xc_j, xc_r, xc_n, List.nil_append, List.cons_append, Option.toList_some, Option.toList_none, nI_ltJ, nI_leJ, nI_eqJ, nI_ltz, nI_gez, nI_gtz, nI_lez, nI_eqz, m1_ltz, m1_gez, true_imp_iff, false_imp_iff, true_and, and_true, ne_eq, not_false_eq_true, not_true_eq_false, Nat.reduceEqDiff, Nat.reduceLT, Nat.reduceLeDiff, s5]
      refine ⟨fun c36 => ?_, fun c => absurd (by omega) c⟩
      with_reducible refine xm_go_blk b_X12_readProgram_51 k_X12_readProgram_51 ?_
      refine by_iconst ci_0 ?_
      refine by_istore_n (by rw [ml_283]; decide) ?_
      refine by_nil ?_
      simp (disch := first | exact Nat.ne_of_beq_eq_false rfl | exact rfl | omega) only [nI_add, xa_sub, xa_mul, pk_div, nm_mod, xa_shr, xa_and7, xa_and1, xa_and255, xa_by_and, nI_m1, Nat.add_sub_cancel, Nat.reducePow, Nat.zero_add, Nat.add_zero, Nat.reduceAdd, Nat.reduceMul, Nat.reduceSub, xf_same, xq_ff, xq_fo, xf_1, xf_2, xs_1, xs_2, xs_same, xq_so, xj_1, xj_2, xj_same, xq_jo, xq_sa1, xq_same, xq_other, upd_s, oI_n, oI_s, xv_0, xv_1, xv_2, xv_3, xm_p1, xm_p2, xq_fp, xq_fn, List.filter_nil, Nat.reduceBEq, Bool.not_true, Bool.not_false, Bool.and_true, Bool.and_false, Bool.false_and, Bool.true_and, if_true, if_false, Bool.false_eq_true, reduceIte, xc_i, xc_j, xc_r, xc_n, List.nil_append, List.cons_append, Option.toList_some, Option.toList_none, s5]
      exact xm_go_wk (by simp [Value.category]) hg
end MP
