/-! ===== say: the reference's speech, whole ===== -/
section SY
variable {sc : xm_Sc} {d cn n : Nat} {t w L L2 bl : List Nat} {NL : List (List Nat × Nat)} {G : sG} {S T tr : Nat → Ty} {K Lf R : Nat → Nat} {h h' : xm_H} {post : xm_Po}
theorem ss_54 (hF : XF h) (hm : mtp h t) (h5 : h.2.2 102 5 = .int (nI (sCt G))) (hM : mG0 h G) (hI : sInv t (NL ++ [(w, n)]) G []) (hT : mtT h cn tr K Lf R) (hcn : cn ≤ 17211) (hY : tyM h (sCd G) L S T cn tr) (hj : ¬ jdW (sCd G) L S T) (hs : h.2.2 102 14 = .int (nI L.length)) (hl : ∀ i, i < L.length → h.1 113 i = nI (L.getD i 0)) (ho : df_out (sC1 G) (sC2 G) n L)
    (hp : ∀ h' a bl, SyT t G L n S T a bl → Fr [106, 107, 113, 114, 115, 116, 145, 147, 161, 162] [(102, 14), (102, 92)] h h' → (a = 0 → mkB h' bl ∧ bl.length ≤ 65536) → a ≤ 11 → post (some (.int (nI a))) h') :
    xm_go (XE sc) (xm_T (XE sc) (d + 5)) 297 post 54 [(1, .int (nI n)), (0, .ref 102)] [] h := by
  obtain ⟨i1, i2, i3, ⟨rk, i4⟩, i5, i6, i7⟩ := sI_all hI
  obtain ⟨lnd, lN, lcl, lm, l1, _⟩ := i7 L ho
  with_reducible refine xm_go_blk b_X12_speech_54 k_X12_speech_54 ?_
  refine by_aload_n rfl ?_
  refine by_aload_n rfl ?_
  refine by_iload_n rfl ?_
  refine by_inv1 cn_297 lk_12_679 (by rw [xe_cnt]; decide) is_261 np_261 cn_261 (by first | exact rfl | assumption) (Nat.le_of_ble_eq_true rfl) ?_
  refine sp_merged (d := d + 2) hF i1 (mG0_ch hI hM) i3 hs hl lN lnd lcl lm (fun h3 tw hJ => ?_)
  obtain ⟨F3, f3, j3, j4, j5⟩ := hJ
  have jw := twR_congr (sm' := smG G S T) j5 (fun a b ha hb => msG_G hI hM hT hcn hY lN ha hb)
  have cN2 := mC_cN lcl lN i3 jw
  have tl := lN _ (j4 n lm).2
  with_reducible refine xm_go_blk b_X12_speech_60 k_X12_speech_60 ?_
  refine by_inv1 cn_297 lk_12_351 (by rw [xe_cnt]; decide) is_225 np_225 cn_225 (by first | exact rfl | assumption) (Nat.le_of_ble_eq_true rfl) ?_
  refine sp_goFrom (d := d + 3) F3 (by rw [f3.2.2 _ _ (by simp)]; exact h5) i1 tl j3 cN2 (fun h4 L2 ho2 f4 hs4 hl4 hrow4 => ?_)
  obtain ⟨l2nd, l2N, l2cl⟩ := df_out_cl cN2 (mC_ac lnd lcl i4 jw) tl ho2
  have l2L := mC_sub lcl jw lm ho2
  have l21 : 1 ≤ L2.length := by
    obtain ⟨o, z⟩ := df_last ho2
    rw [z]; simp
  have f34 : Fr [106, 107, 113, 114, 115, 116, 161] [(102, 14)] h h4 := Fr_tr (Fr_mo f3 (by simp) (by simp)) f4 (by simp) (by simp)
  have X4 : mW h4 t G L2 T cn tr K Lf R := by
    refine ⟨Fr_XF F3 f4 (by decide +kernel), mtp_f2 hm f34 (by simp) (by simp), hs4, hrow4, mtT_fr hT f34 (by simp) (by simp [mtR]), fun m hm2 => ?_⟩
    have hmL := l2L m hm2
    have hmN := lN m hmL
    rw [f34.1 105 (by simp), f34.1 108 (by simp), f34.1 109 (by simp), f34.1 110 (by simp), f34.1 112 (by simp)]
    obtain ⟨a1, a2, a3, a4, a5, a6⟩ := hM m hmN
    refine ⟨by omega, a1, a5, a4, a6, fun e => ?_⟩
    obtain ⟨i, j, b0, b1, b0', b2, b3, b4, b5, b6⟩ := hY m hmL (by omega)
    refine ⟨j, b0', b2, b5, b6, Classical.byContradiction fun z => hj ⟨m, hmL, by omega, Or.inr (by omega)⟩⟩
  refine xm_go_wk (by simp [Value.category]) (ss_63 X4 (chM_f2 j3 f4 (by simp) (by simp) (by simp)) i1 l2N l2nd l2cl hcn l21 (by omega) (fun m hm2 => (i6 m (lN m (l2L m hm2))).1) (fun h5' a bl hS f5 hb ha => hp h5' a bl ⟨tw, L2, jw, ho2, hS⟩ (Fr_tr (Fr_mo f34 (by simp) (by simp)) f5 (by simp) (by simp)) hb ha))
theorem ss_27 (hE : mEd h t (NL ++ [(w, n)]) G) (hI : sInv t (NL ++ [(w, n)]) G [])
    (hp : ∀ h' a bl, SyG t G n a bl → Fr ssR ssT h h' → kpT h h' → h'.2.2 102 36 = h.2.2 102 36 → (a = 0 → mkB h' bl ∧ bl.length ≤ 65536) → a ≤ 11 → post (some (.int (nI a))) h') :
    xm_go (XE sc) (xm_T (XE sc) (d + 5)) 297 post 27 [(1, .int (nI n)), (0, .ref 102)] [] h := by
  obtain ⟨i1, i2, i3, ⟨rk, i4⟩, i5, i6, i7⟩ := sI_all hI
  obtain ⟨F0, hm, htg, hnm, h5, hM, h81⟩ := hE
  have hch := mG0_ch hI hM
  with_reducible refine xm_go_blk b_X12_speech_27 k_X12_speech_27 ?_
  refine by_aload_n rfl ?_
  refine by_iload_n rfl ?_
  refine by_inv1 cn_297 lk_12_351 (by rw [xe_cnt]; decide) is_225 np_225 cn_225 (by first | exact rfl | assumption) (Nat.le_of_ble_eq_true rfl) ?_
  refine sp_goFrom (d := d + 3) F0 h5 i1 i2 hch i3 (fun h1 L ho f1 hs hln hrow => ?_)
  obtain ⟨lnd, lN, lcl, lm, l1, _⟩ := i7 L ho
  have F1 : XF h1 := Fr_XF F0 f1 (by decide +kernel)
  have G1 : Fr ssR ssT h h1 := Fr_mo f1 (by simp [ssR]) (by simp [ssT])
  have P1 : kpT h h1 := kpT_fr f1 (fun a q1 q2 => by simp; omega)
  have M1 := mG0_f2 hM f1 (by decide)
  have k1 : h1.2.2 102 36 = h.2.2 102 36 := f1.2.2 _ _ (by simp)
  with_reducible refine xm_go_blk b_X12_speech_32 k_X12_speech_32 ?_
  refine by_aload_n rfl ?_
  refine by_iload_n rfl ?_
  refine by_inv1 cn_297 lk_12_366 (by rw [xe_cnt]; decide) is_238 np_238 cn_238 (by first | exact rfl | assumption) (Nat.le_of_ble_eq_true rfl) ?_
  refine sp_isWronglyHidden (d := d + 3) (L := L) F1 i1 i2 (mG0_ch hI M1) i3 i5 hs (by omega) hrow lN (fun z => ?_) (fun q1 q2 => ?_)
  · with_reducible refine xm_go_blk b_X12_speech_37 k_X12_speech_37 ?_
    refine by_if_eq 43 rfl ?_
    simp (disch := first | exact Nat.ne_of_beq_eq_false rfl | exact rfl | omega) only [nI_add, xa_sub, xa_mul, pk_div, nm_mod, xa_shr, xa_and7, xa_and1, xa_and255, xa_by_and, nI_m1, Nat.add_sub_cancel, Nat.reducePow, Nat.zero_add, Nat.add_zero, Nat.reduceAdd, Nat.reduceMul, Nat.reduceSub, xf_same, xq_ff, xq_fo, xf_1, xf_2, xs_1, xs_2, xs_same, xq_so, xj_1, xj_2, xj_same, xq_jo, xq_sa1, xq_same, xq_other, upd_s, oI_n, oI_s, xv_0, xv_1, xv_2, xv_3, xm_p1, xm_p2, xq_fp, xq_fn, List.filter_nil, Nat.reduceBEq, Bool.not_true, Bool.not_false, Bool.and_true, Bool.and_false, Bool.false_and, Bool.true_and, if_true, if_false, Bool.false_eq_true, reduceIte, xc_i, xc_j, xc_r, xc_n, List.nil_append, List.cons_append, Option.toList_some, Option.toList_none, nI_ltJ, nI_leJ, nI_eqJ, nI_ltz, nI_gez, nI_gtz, nI_lez, nI_eqz, m1_ltz, m1_gez, true_imp_iff, false_imp_iff, true_and, and_true, ne_eq, not_false_eq_true, not_true_eq_false, Nat.reduceEqDiff, Nat.reduceLT, Nat.reduceLeDiff]
    with_reducible refine xm_go_blk b_X12_speech_40 k_X12_speech_40 ?_
    refine by_bipush cb_7 ?_
    refine by_iret ry_297 (by first | rfl | assumption) ?_
    exact hp h1 7 [] ⟨L, ho, Or.inl ⟨z, rfl⟩⟩ G1 P1 k1 (fun z => by omega) (by decide)
  · have nb : ¬ sBad G L n := by
      rintro (z | ⟨m, m1, m2⟩)
      · exact q1 z
      · rw [q2 m m1] at m2; cases m2
    with_reducible refine xm_go_blk b_X12_speech_37 k_X12_speech_37 ?_
    refine by_if_eq 43 rfl ?_
    simp (disch := first | exact Nat.ne_of_beq_eq_false rfl | exact rfl | omega) only [nI_add, xa_sub, xa_mul, pk_div, nm_mod, xa_shr, xa_and7, xa_and1, xa_and255, xa_by_and, nI_m1, Nat.add_sub_cancel, Nat.reducePow, Nat.zero_add, Nat.add_zero, Nat.reduceAdd, Nat.reduceMul, Nat.reduceSub, xf_same, xq_ff, xq_fo, xf_1, xf_2, xs_1, xs_2, xs_same, xq_so, xj_1, xj_2, xj_same, xq_jo, xq_sa1, xq_same, xq_other, upd_s, oI_n, oI_s, xv_0, xv_1, xv_2, xv_3, xm_p1, xm_p2, xq_fp, xq_fn, List.filter_nil, Nat.reduceBEq, Bool.not_true, Bool.not_false, Bool.and_true, Bool.and_false, Bool.false_and, Bool.true_and, if_true, if_false, Bool.false_eq_true, reduceIte, xc_i, xc_j, xc_r, xc_n, List.nil_append, List.cons_append, Option.toList_some, Option.toList_none, nI_ltJ, nI_leJ, nI_eqJ, nI_ltz, nI_gez, nI_gtz, nI_lez, nI_eqz, m1_ltz, m1_gez, true_imp_iff, false_imp_iff, true_and, and_true, ne_eq, not_false_eq_true, not_true_eq_false, Nat.reduceEqDiff, Nat.reduceLT, Nat.reduceLeDiff]
    with_reducible refine xm_go_blk b_X12_speech_43 k_X12_speech_43 ?_
    refine by_aload_n rfl ?_
    refine by_inv0 cn_297 lk_12_369 (by rw [xe_cnt]; decide) is_224 np_224 cn_224 (by first | exact rfl | assumption) (Nat.le_of_ble_eq_true rfl) ?_
    refine sp_findTypes (d := d) F1 i1 (mG0_R hI M1) (ndL_of i5 lnd lN lcl q2) lN hrow hs (fun h2 S T cn tr K Lf R w2 f2 P2 hlst hT hcn0 hY hw hw' => ?_) (fun h2 f2 P2 hno => ?_)
    · have L2000 := Nat.le_trans (nd_len (sCt G) L lnd lN) i1
      have F2 : XF h2 := Fr_XF F1 f2 fy_fin
      have G2 : Fr ssR ssT h h2 := Fr_tr G1 f2 (by simp [fyR, ssR]) (by simp [fyT, ssT])
      have P12 := kpT_tr P1 P2
      have k2 : h2.2.2 102 36 = h.2.2 102 36 := by rw [f2.2.2 _ _ (by simp [fyT])]; exact k1
      rcases hw with rfl | rfl
      · have nw : ¬ jdW (sCd G) L S T := fun z => absurd (hw'.mpr z) (by decide)
        with_reducible refine xm_go_blk b_X12_speech_47 k_X12_speech_47 ?_
        refine by_istore_n (by rw [ml_297]; decide) ?_
        refine by_iload_n rfl ?_
        refine by_if_le 54 rfl ?_
        simp (disch := first | exact Nat.ne_of_beq_eq_false rfl | exact rfl | omega) only [nI_add, xa_sub, xa_mul, pk_div, nm_mod, xa_shr, xa_and7, xa_and1, xa_and255, xa_by_and, nI_m1, Nat.add_sub_cancel, Nat.reducePow, Nat.zero_add, Nat.add_zero, Nat.reduceAdd, Nat.reduceMul, Nat.reduceSub, xf_same, xq_ff, xq_fo, xf_1, xf_2, xs_1, xs_2, xs_same, xq_so, xj_1, xj_2, xj_same, xq_jo, xq_sa1, xq_same, xq_other, upd_s, oI_n, oI_s, xv_0, xv_1, xv_2, xv_3, xm_p1, xm_p2, xq_fp, xq_fn, List.filter_nil, Nat.reduceBEq, Bool.not_true, Bool.not_false, Bool.and_true, Bool.and_false, Bool.false_and, Bool.true_and, if_true, if_false, Bool.false_eq_true, reduceIte, xc_i, xc_j, xc_r, xc_n, List.nil_append, List.cons_append, Option.toList_some, Option.toList_none, nI_ltJ, nI_leJ, nI_eqJ, nI_ltz, nI_gez, nI_gtz, nI_lez, nI_eqz, m1_ltz, m1_gez, true_imp_iff, false_imp_iff, true_and, and_true, ne_eq, not_false_eq_true, not_true_eq_false, Nat.reduceEqDiff, Nat.reduceLT, Nat.reduceLeDiff]
        refine xm_go_wk (by simp [Value.category]) (ss_54 (d := d) F2 (mtp_f2 (mtp_f2 hm f1 (by simp) (by simp)) f2 (by simp [fyR]) (by simp [fyT])) (by rw [f2.2.2 _ _ (by simp [fyT]), f1.2.2 _ _ (by simp)]; exact h5) (mG0_f2 M1 f2 (by decide)) hI hT (by omega) hY nw (by rw [f2.2.2 _ _ (by simp [fyT])]; exact hs) (fun i hi => by rw [f2.1 _ (by simp [fyR])]; exact hrow i hi) ho (fun h3 a bl hS f3 hb ha => ?_))
        exact hp h3 a bl ⟨L, ho, Or.inr ⟨nb, Or.inr ⟨S, T, hlst, Or.inr ⟨nw, hS⟩⟩⟩⟩ (Fr_tr G2 f3 (by simp [ssR]) (by simp [ssT])) (kpT_tr P12 (kpT_fr f3 (fun a q1 q2 => by simp; omega))) (by rw [f3.2.2 _ _ (by simp)]; exact k2) hb ha
      · with_reducible refine xm_go_blk b_X12_speech_47 k_X12_speech_47 ?_
        refine by_istore_n (by rw [ml_297]; decide) ?_
        refine by_iload_n rfl ?_
        refine by_if_le 54 rfl ?_
        simp (disch := first | exact Nat.ne_of_beq_eq_false rfl | exact rfl | omega) only [nI_add, xa_sub, xa_mul, pk_div, nm_mod, xa_shr, xa_and7, xa_and1, xa_and255, xa_by_and, nI_m1, Nat.add_sub_cancel, Nat.reducePow, Nat.zero_add, Nat.add_zero, Nat.reduceAdd, Nat.reduceMul, Nat.reduceSub, xf_same, xq_ff, xq_fo, xf_1, xf_2, xs_1, xs_2, xs_same, xq_so, xj_1, xj_2, xj_same, xq_jo, xq_sa1, xq_same, xq_other, upd_s, oI_n, oI_s, xv_0, xv_1, xv_2, xv_3, xm_p1, xm_p2, xq_fp, xq_fn, List.filter_nil, Nat.reduceBEq, Bool.not_true, Bool.not_false, Bool.and_true, Bool.and_false, Bool.false_and, Bool.true_and, if_true, if_false, Bool.false_eq_true, reduceIte, xc_i, xc_j, xc_r, xc_n, List.nil_append, List.cons_append, Option.toList_some, Option.toList_none, nI_ltJ, nI_leJ, nI_eqJ, nI_ltz, nI_gez, nI_gtz, nI_lez, nI_eqz, m1_ltz, m1_gez, true_imp_iff, false_imp_iff, true_and, and_true, ne_eq, not_false_eq_true, not_true_eq_false, Nat.reduceEqDiff, Nat.reduceLT, Nat.reduceLeDiff]
        with_reducible refine xm_go_blk b_X12_speech_52 k_X12_speech_52 ?_
        refine by_iload_n rfl ?_
        refine by_iret ry_297 (by first | rfl | assumption) ?_
        exact hp h2 9 [] ⟨L, ho, Or.inr ⟨nb, Or.inr ⟨S, T, hlst, Or.inl ⟨hw'.mp rfl, rfl⟩⟩⟩⟩ G2 P12 k2 (fun z => by omega) (by decide)
    · with_reducible refine xm_go_blk b_X12_speech_47 k_X12_speech_47 ?_
      refine by_istore_n (by rw [ml_297]; decide) ?_
      refine by_iload_n rfl ?_
      refine by_if_le 54 rfl ?_
      simp (disch := first | exact Nat.ne_of_beq_eq_false rfl | exact rfl | omega) only [nI_add, xa_sub, xa_mul, pk_div, nm_mod, xa_shr, xa_and7, xa_and1, xa_and255, xa_by_and, nI_m1, Nat.add_sub_cancel, Nat.reducePow, Nat.zero_add, Nat.add_zero, Nat.reduceAdd, Nat.reduceMul, Nat.reduceSub, xf_same, xq_ff, xq_fo, xf_1, xf_2, xs_1, xs_2, xs_same, xq_so, xj_1, xj_2, xj_same, xq_jo, xq_sa1, xq_same, xq_other, upd_s, oI_n, oI_s, xv_0, xv_1, xv_2, xv_3, xm_p1, xm_p2, xq_fp, xq_fn, List.filter_nil, Nat.reduceBEq, Bool.not_true, Bool.not_false, Bool.and_true, Bool.and_false, Bool.false_and, Bool.true_and, if_true, if_false, Bool.false_eq_true, reduceIte, xc_i, xc_j, xc_r, xc_n, List.nil_append, List.cons_append, Option.toList_some, Option.toList_none, nI_ltJ, nI_leJ, nI_eqJ, nI_ltz, nI_gez, nI_gtz, nI_lez, nI_eqz, m1_ltz, m1_gez, true_imp_iff, false_imp_iff, true_and, and_true, ne_eq, not_false_eq_true, not_true_eq_false, Nat.reduceEqDiff, Nat.reduceLT, Nat.reduceLeDiff]
      with_reducible refine xm_go_blk b_X12_speech_52 k_X12_speech_52 ?_
      refine by_iload_n rfl ?_
      refine by_iret ry_297 (by first | rfl | assumption) ?_
      exact hp h2 8 [] ⟨L, ho, Or.inr ⟨nb, Or.inl ⟨hno, rfl⟩⟩⟩ (Fr_tr G1 f2 (by simp [fyR, ssR]) (by simp [fyT, ssT])) (kpT_tr P1 P2) (by rw [f2.2.2 _ _ (by simp [fyT])]; exact k1) (fun z => by omega) (by decide)
theorem sp_speech (hF : XF h) (hm : mtp h t) (htg : tgM h)
    (hp : ∀ h' a f bl, SyF t a f bl → Fr ssR ssT h h' → kpT h h' → a < 2000 → h'.2.2 102 36 = .int (nI f) → (a = 0 → mkB h' bl ∧ bl.length ≤ 65536) → post (some (.int (nI a))) h') : xm_T (XE sc) (d + 9) 297 [.ref 102] h post := by
  have f0 : Fr [] [(102, 81), (102, 36)] h (xm_sf (xm_sf h 102 81 (.int (nI 0))) 102 36 (.int (nI 0))) := Fr_sf (Fr_sf Fr_rf (by simp)) (by simp)
  have e81 : (xm_sf (xm_sf h 102 81 (.int (nI 0))) 102 36 (.int (nI 0))).2.2 102 81 = .int (nI 0) := by rw [xq_ff (by omega)]; simp only [xf_same]
  have e36 : (xm_sf (xm_sf h 102 81 (.int (nI 0))) 102 36 (.int (nI 0))).2.2 102 36 = .int (nI 0) := by simp only [xf_same]
  have P0 : kpT h (xm_sf (xm_sf h 102 81 (.int (nI 0))) 102 36 (.int (nI 0))) := kpT_fr f0 (fun a q1 q2 => by simp)
  have T0 : tgM (xm_sf (xm_sf h 102 81 (.int (nI 0))) 102 36 (.int (nI 0))) := htg
  refine xq_in rfl ?_
  simp only [xq_a0, xq_aI, xq_aJ, xq_aR, Nat.reduceAdd]
  with_reducible refine xm_go_blk b_X12_speech_0 k_X12_speech_0 ?_
  refine by_aload_n rfl ?_
  refine by_iconst ci_0 ?_
  refine by_putf cn_297 fl_12_592 (by first | exact rfl | assumption) (by decide) nf_12_81 ft_12_81 (by first | rfl | assumption) (by first | rfl | assumption) ?_
  refine by_aload_n rfl ?_
  refine by_iconst ci_0 ?_
  refine by_putf cn_297 fl_12_577 (by first | exact rfl | assumption) (by decide) nf_12_36 ft_12_36 (by first | rfl | assumption) (by first | rfl | assumption) ?_
  refine by_aload_n rfl ?_
  refine by_inv0 cn_297 lk_12_676 (by rw [xe_cnt]; decide) is_216 np_216 cn_216 (by first | exact rfl | assumption) (Nat.le_of_ble_eq_true rfl) ?_
  generalize xm_sf (xm_sf h 102 81 (.int (nI 0))) 102 36 (.int (nI 0)) = h1 at *
  have F1 : XF h1 := Fr_XF hF f0 (by decide +kernel)
  have G0 : Fr ssR ssT h h1 := Fr_mo f0 (by simp) (by simp [ssT])
  refine sp_definitions (d := d) F1 (mtp_f2 hm f0 (by simp) (by simp)) T0 e81 (fun e f h2 v hx f2 s81 e1 e2 s36 => ?_) (fun G NL w n h2 hx f2 hE hI s36 => ?_)
  · have G2 : Fr ssR ssT h h2 := Fr_tr G0 f2 (by simp [smdR, ssR]) (by simp [smdT, ssT])
    with_reducible refine xm_go_blk b_X12_speech_14 k_X12_speech_14 ?_
    refine by_istore_n (by rw [ml_297]; decide) ?_
    refine by_aload_n rfl ?_
    refine by_getf cn_297 fl_12_592 (by first | exact rfl | assumption) (by decide) ?_
    simp (disch := first | exact Nat.ne_of_beq_eq_false rfl | exact rfl | omega) only [nI_add, xa_sub, xa_mul, pk_div, nm_mod, xa_shr, xa_and7, xa_and1, xa_and255, xa_by_and, nI_m1, Nat.add_sub_cancel, Nat.reducePow, Nat.zero_add, Nat.add_zero, Nat.reduceAdd, Nat.reduceMul, Nat.reduceSub, xf_same, xq_ff, xq_fo, xf_1, xf_2, xs_1, xs_2, xs_same, xq_so, xj_1, xj_2, xj_same, xq_jo, xq_sa1, xq_same, xq_other, upd_s, oI_n, oI_s, s81]
    refine by_if_le 27 rfl ?_
    simp (disch := first | exact Nat.ne_of_beq_eq_false rfl | exact rfl | omega) only [nI_add, xa_sub, xa_mul, pk_div, nm_mod, xa_shr, xa_and7, xa_and1, xa_and255, xa_by_and, nI_m1, Nat.add_sub_cancel, Nat.reducePow, Nat.zero_add, Nat.add_zero, Nat.reduceAdd, Nat.reduceMul, Nat.reduceSub, xf_same, xq_ff, xq_fo, xf_1, xf_2, xs_1, xs_2, xs_same, xq_so, xj_1, xj_2, xj_same, xq_jo, xq_sa1, xq_same, xq_other, upd_s, oI_n, oI_s, xv_0, xv_1, xv_2, xv_3, xm_p1, xm_p2, xq_fp, xq_fn, List.filter_nil, Nat.reduceBEq, Bool.not_true, Bool.not_false, Bool.and_true, Bool.and_false, Bool.false_and, Bool.true_and, if_true, if_false, Bool.false_eq_true, reduceIte, xc_i, xc_j, xc_r, xc_n, List.nil_append, List.cons_append, Option.toList_some, Option.toList_none, nI_ltJ, nI_leJ, nI_eqJ, nI_ltz, nI_gez, nI_gtz, nI_lez, nI_eqz, m1_ltz, m1_gez, true_imp_iff, false_imp_iff, true_and, and_true, ne_eq, not_false_eq_true, not_true_eq_false, Nat.reduceEqDiff, Nat.reduceLT, Nat.reduceLeDiff, s81]
    refine ⟨fun c => absurd c (by omega), fun c14 => ?_⟩
    with_reducible refine xm_go_blk b_X12_speech_22 k_X12_speech_22 ?_
    refine by_aload_n rfl ?_
    refine by_getf cn_297 fl_12_592 (by first | exact rfl | assumption) (by decide) ?_
    simp (disch := first | exact Nat.ne_of_beq_eq_false rfl | exact rfl | omega) only [nI_add, xa_sub, xa_mul, pk_div, nm_mod, xa_shr, xa_and7, xa_and1, xa_and255, xa_by_and, nI_m1, Nat.add_sub_cancel, Nat.reducePow, Nat.zero_add, Nat.add_zero, Nat.reduceAdd, Nat.reduceMul, Nat.reduceSub, xf_same, xq_ff, xq_fo, xf_1, xf_2, xs_1, xs_2, xs_same, xq_so, xj_1, xj_2, xj_same, xq_jo, xq_sa1, xq_same, xq_other, upd_s, oI_n, oI_s, s81]
    refine by_iret ry_297 (by first | rfl | assumption) ?_
    obtain ⟨k, hk⟩ := hx
    exact hp h2 e f [] ⟨k, Or.inl hk⟩ G2 (kpT_tr P0 (kpT_fr f2 (fun a q1 q2 => by simp [smdR]; omega))) e2 s36 (fun z => by omega)
  · have G2 : Fr ssR ssT h h2 := Fr_tr G0 f2 (by simp [smdR, ssR]) (by simp [smdT, ssT])
    have s81 := hE.2.2.2.2.2.2
    rw [e36] at s36
    obtain ⟨k, hk⟩ := hx
    with_reducible refine xm_go_blk b_X12_speech_14 k_X12_speech_14 ?_
    refine by_istore_n (by rw [ml_297]; decide) ?_
    refine by_aload_n rfl ?_
    refine by_getf cn_297 fl_12_592 (by first | exact rfl | assumption) (by decide) ?_
    simp (disch := first | exact Nat.ne_of_beq_eq_false rfl | exact rfl | omega) only [nI_add, xa_sub, xa_mul, pk_div, nm_mod, xa_shr, xa_and7, xa_and1, xa_and255, xa_by_and, nI_m1, Nat.add_sub_cancel, Nat.reducePow, Nat.zero_add, Nat.add_zero, Nat.reduceAdd, Nat.reduceMul, Nat.reduceSub, xf_same, xq_ff, xq_fo, xf_1, xf_2, xs_1, xs_2, xs_same, xq_so, xj_1, xj_2, xj_same, xq_jo, xq_sa1, xq_same, xq_other, upd_s, oI_n, oI_s, s81]
    refine by_if_le 27 rfl ?_
    simp (disch := first | exact Nat.ne_of_beq_eq_false rfl | exact rfl | omega) only [nI_add, xa_sub, xa_mul, pk_div, nm_mod, xa_shr, xa_and7, xa_and1, xa_and255, xa_by_and, nI_m1, Nat.add_sub_cancel, Nat.reducePow, Nat.zero_add, Nat.add_zero, Nat.reduceAdd, Nat.reduceMul, Nat.reduceSub, xf_same, xq_ff, xq_fo, xf_1, xf_2, xs_1, xs_2, xs_same, xq_so, xj_1, xj_2, xj_same, xq_jo, xq_sa1, xq_same, xq_other, upd_s, oI_n, oI_s, xv_0, xv_1, xv_2, xv_3, xm_p1, xm_p2, xq_fp, xq_fn, List.filter_nil, Nat.reduceBEq, Bool.not_true, Bool.not_false, Bool.and_true, Bool.and_false, Bool.false_and, Bool.true_and, if_true, if_false, Bool.false_eq_true, reduceIte, xc_i, xc_j, xc_r, xc_n, List.nil_append, List.cons_append, Option.toList_some, Option.toList_none, nI_ltJ, nI_leJ, nI_eqJ, nI_ltz, nI_gez, nI_gtz, nI_lez, nI_eqz, m1_ltz, m1_gez, true_imp_iff, false_imp_iff, true_and, and_true, ne_eq, not_false_eq_true, not_true_eq_false, Nat.reduceEqDiff, Nat.reduceLT, Nat.reduceLeDiff, s81]
    refine xm_go_wk (by simp [Value.category]) (ss_27 (d := d + 3) hE hI (fun h3 a bl hS f3 P3 k3 hb ha => ?_))
    exact hp h3 a 0 bl ⟨k, Or.inr ⟨G, NL, w, n, hk, hI, hS, rfl⟩⟩ (Fr_tr G2 f3 (fun _ z => z) (fun _ z => z)) (kpT_tr (kpT_tr P0 (kpT_fr f2 (fun a q1 q2 => by simp [smdR]; omega))) P3) (by omega) (by rw [k3]; exact s36) hb
end SY
