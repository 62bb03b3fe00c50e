/-! ===== the machine works a node: PAIR, CASE, and nodes with one child ===== -/
section BG
variable {sc : xm_Sc} {d pp df : Nat} {A : mc_A} {w : mc_W} {H0 : xm_H} {post : xm_Po}
theorem mN_set {h : xm_H} {n n' f f' t t' b g : Nat} (hN : mNd h n f t b g) : mNd (xm_sf (xm_sf (xm_sf h 32 12 (.int (nI f'))) 32 13 (.int (nI t'))) 32 11 (.int (nI n'))) n' f' t' b g := by
  obtain ⟨n1, n2, n3, n4, n5⟩ := hN
  exact ⟨by simp [xm_sf, updV], by simp [xm_sf, updV], by simp [xm_sf, updV], by rw [← n4]; simp [xm_sf, updV], by rw [← n5]; simp [xm_sf, updV]⟩
theorem bg_pair {n x y k : Nat} {rx ry : (Nat → Bool) → Option mc_V} (hpp : pp = 52 ∨ pp = 77) (hc : cdN H0 A n) (he : mc_op A n = 2) (ex : mc_on A n = x) (ey : mc_tw A n = y) (ek : mc_sk A n = k) (hx : Bg sc d pp df w H0 post x rx) (hy : Bg sc d pp df w H0 post y ry) (lx : Lr w x rx) (ly : Lr w y ry)
    (a1 : w_s w x ≤ w_s w n) (a2 : w_t w x = k) (a3 : w_s w y ≤ w_s w n) (a4 : k + w_t w y = w_t w n) (a5 : 1 + w_b w x + w_b w y ≤ w_b w n) (a6 : 1 + w_d w x ≤ w_d w n) (a7 : w_d w y ≤ w_d w n) (a8 : w_c w x ≤ w_c w n) (a9 : w_c w y ≤ w_c w n) (a10 : w_f w x ≤ w_f w n) (a11 : w_f w y ≤ w_f w n) (a12 : w_r w x < w_r w n) (a13 : w_r w y < 8000) :
    Bg sc d pp df w H0 post n (fun u => match rx u with
      | some (a, s1, c1, g1) => match ry u with
        | some (b, s2, c2, g2) => some (a ++ b, 1 + s1 + s2, max c1 c2, max g1 g2)
        | none => none
      | none => none) := by
  intro h f t b g K pc pf sp tn kk hF hf hN hS q1 q2 q3 q4 q5 q6 q7 q8 q8b q9 q10 q11 hyes hno
  obtain ⟨v1, v2, v3, v4, v5, v6, v7, v8⟩ := cdN_fr hc hf
  have v5' := v5 (by omega)
  have v6' := v6 (by omega)
  rw [ex] at v5'
  rw [ey] at v6'
  rw [ek] at v3
  rw [he] at v2
  have hN' := hN
  obtain ⟨n1, n2, n3, n4, n5⟩ := hN
  have s5 := hS.2.2.2.2
  unfold Fw
  have f1 : Fr mcR mcT h (xm_sf h 32 16 (.long (lN (sp + 1)))) := Fr_sf Fr_rf (by simp [mcT])
  have F1 : XF (xm_sf h 32 16 (.long (lN (sp + 1)))) := Fr_XF hF f1 mcT_fin
  with_reducible refine xm_go_blk b_X4_follow_2 k_X4_follow_2 ?_
  refine by_iload_n rfl ?_
  refine by_sipush cs_8000 ?_
  refine by_ic_ge 466 rfl ?_
  simp (disch := first | exact Nat.ne_of_beq_eq_false rfl | exact rfl | omega) only [nI_add, xa_sub, xa_mul, pk_div, nm_mod, xa_shr, xa_and7, xa_and1, xa_and255, xa_by_and, nI_m1, Nat.add_sub_cancel, Nat.reducePow, Nat.zero_add, Nat.add_zero, Nat.reduceAdd, Nat.reduceMul, Nat.reduceSub, xf_same, xq_ff, xq_fo, xf_1, xf_2, xs_1, xs_2, xs_same, xq_so, xj_1, xj_2, xj_same, xq_jo, xq_sa1, xq_same, xq_other, upd_s, oI_n, oI_s, xv_0, xv_1, xv_2, xv_3, xm_p1, xm_p2, xq_fp, xq_fn, List.filter_nil, Nat.reduceBEq, Bool.not_true, Bool.not_false, Bool.and_true, Bool.and_false, Bool.false_and, Bool.true_and, if_true, if_false, Bool.false_eq_true, reduceIte, xc_i, xc_j, xc_r, xc_n, List.nil_append, List.cons_append, Option.toList_some, Option.toList_none, nI_ltJ, nI_leJ, nI_eqJ, nI_ltz, nI_gez, nI_gtz, nI_lez, nI_eqz, m1_ltz, m1_gez, true_imp_iff, false_imp_iff, true_and, and_true, ne_eq, not_false_eq_true, not_true_eq_false, Nat.reduceEqDiff, Nat.reduceLT, Nat.reduceLeDiff, xf_32_2 hF, xf_22_3 hF, n1, v3, s5, lN_pl, xf_22_0 hF, v2, xf_22_2 hF, v6', n2, n3, n4, n5]
  refine ⟨fun c => absurd c (by omega), fun c2 => ?_⟩
  with_reducible refine xm_go_blk b_X4_follow_9 k_X4_follow_9 ?_
  refine by_aload_n rfl ?_
  refine by_getf cn_82 fl_4_38 (by first | exact rfl | assumption) (by decide) ?_
  simp (disch := first | exact Nat.ne_of_beq_eq_false rfl | exact rfl | omega) only [nI_add, xa_sub, xa_mul, pk_div, nm_mod, xa_shr, xa_and7, xa_and1, xa_and255, xa_by_and, nI_m1, Nat.add_sub_cancel, Nat.reducePow, Nat.zero_add, Nat.add_zero, Nat.reduceAdd, Nat.reduceMul, Nat.reduceSub, xf_same, xq_ff, xq_fo, xf_1, xf_2, xs_1, xs_2, xs_same, xq_so, xj_1, xj_2, xj_same, xq_jo, xq_sa1, xq_same, xq_other, upd_s, oI_n, oI_s, xf_32_2 hF, xf_22_3 hF, n1, v3, s5, lN_pl, xf_22_0 hF, v2, xf_22_2 hF, v6', n2, n3, n4, n5]
  refine by_getf cn_82 fl_4_129 (by first | exact rfl | assumption) (by decide) ?_
  refine by_aload_n rfl ?_
  refine by_getf cn_82 fl_4_110 (by first | exact rfl | assumption) (by decide) ?_
  simp (disch := first | exact Nat.ne_of_beq_eq_false rfl | exact rfl | omega) only [nI_add, xa_sub, xa_mul, pk_div, nm_mod, xa_shr, xa_and7, xa_and1, xa_and255, xa_by_and, nI_m1, Nat.add_sub_cancel, Nat.reducePow, Nat.zero_add, Nat.add_zero, Nat.reduceAdd, Nat.reduceMul, Nat.reduceSub, xf_same, xq_ff, xq_fo, xf_1, xf_2, xs_1, xs_2, xs_same, xq_so, xj_1, xj_2, xj_same, xq_jo, xq_sa1, xq_same, xq_other, upd_s, oI_n, oI_s, xf_32_2 hF, xf_22_3 hF, n1, v3, s5, lN_pl, xf_22_0 hF, v2, xf_22_2 hF, v6', n2, n3, n4, n5]
  first | refine by_iald (by first | exact rfl | assumption | exact ps_1 hpp | exact ps_2 hpp | exact ps_3 hpp | exact ps_4 hpp | exact ps_5 hpp | exact ps_6 hpp | exact ps_7 hpp | exact ps_8 hpp | exact ps_9 hpp | exact ps_10 hpp | exact ps_11 hpp | exact ps_15 hpp | exact ps_16 hpp | exact ps_17 hpp | exact ps_18 hpp | exact ps_19 hpp | exact ps_21 hpp | exact ps_22 hpp | exact ps_23 hpp | exact ps_24 hpp) ⟨by omega, by omega⟩ ?_ | refine by_tald rfl rfl ⟨by omega, by omega⟩ ?_
  refine by_istore (by rw [ml_82]; decide) ?_
  refine by_aload_n rfl ?_
  refine by_dup rfl ?_
  refine by_getf cn_82 fl_4_42 (by first | exact rfl | assumption) (by decide) ?_
  refine by_lconst cl_1 ?_
  simp (disch := first | exact Nat.ne_of_beq_eq_false rfl | exact rfl | omega) only [nI_add, xa_sub, xa_mul, pk_div, nm_mod, xa_shr, xa_and7, xa_and1, xa_and255, xa_by_and, nI_m1, Nat.add_sub_cancel, Nat.reducePow, Nat.zero_add, Nat.add_zero, Nat.reduceAdd, Nat.reduceMul, Nat.reduceSub, xf_same, xq_ff, xq_fo, xf_1, xf_2, xs_1, xs_2, xs_same, xq_so, xj_1, xj_2, xj_same, xq_jo, xq_sa1, xq_same, xq_other, upd_s, oI_n, oI_s, xf_32_2 hF, xf_22_3 hF, n1, v3, s5, lN_pl, xf_22_0 hF, v2, xf_22_2 hF, v6', n2, n3, n4, n5]
  refine by_ladd ?_
  refine by_putf cn_82 fl_4_42 (by first | exact rfl | assumption) (by decide) nf_4_16 ft_4_16 (by first | rfl | assumption) (by first | rfl | assumption) ?_
  refine by_aload_n rfl ?_
  refine by_getf cn_82 fl_4_38 (by first | exact rfl | assumption) (by decide) ?_
  simp (disch := first | exact Nat.ne_of_beq_eq_false rfl | exact rfl | omega) only [nI_add, xa_sub, xa_mul, pk_div, nm_mod, xa_shr, xa_and7, xa_and1, xa_and255, xa_by_and, nI_m1, Nat.add_sub_cancel, Nat.reducePow, Nat.zero_add, Nat.add_zero, Nat.reduceAdd, Nat.reduceMul, Nat.reduceSub, xf_same, xq_ff, xq_fo, xf_1, xf_2, xs_1, xs_2, xs_same, xq_so, xj_1, xj_2, xj_same, xq_jo, xq_sa1, xq_same, xq_other, upd_s, oI_n, oI_s, xf_32_2 hF, xf_22_3 hF, n1, v3, s5, lN_pl, xf_22_0 hF, v2, xf_22_2 hF, v6', n2, n3, n4, n5]
  refine by_getf cn_82 fl_4_132 (by first | exact rfl | assumption) (by decide) ?_
  refine by_aload_n rfl ?_
  refine by_getf cn_82 fl_4_110 (by first | exact rfl | assumption) (by decide) ?_
  simp (disch := first | exact Nat.ne_of_beq_eq_false rfl | exact rfl | omega) only [nI_add, xa_sub, xa_mul, pk_div, nm_mod, xa_shr, xa_and7, xa_and1, xa_and255, xa_by_and, nI_m1, Nat.add_sub_cancel, Nat.reducePow, Nat.zero_add, Nat.add_zero, Nat.reduceAdd, Nat.reduceMul, Nat.reduceSub, xf_same, xq_ff, xq_fo, xf_1, xf_2, xs_1, xs_2, xs_same, xq_so, xj_1, xj_2, xj_same, xq_jo, xq_sa1, xq_same, xq_other, upd_s, oI_n, oI_s, xf_32_2 hF, xf_22_3 hF, n1, v3, s5, lN_pl, xf_22_0 hF, v2, xf_22_2 hF, v6', n2, n3, n4, n5]
  first | refine by_iald (by first | exact rfl | assumption | exact ps_1 hpp | exact ps_2 hpp | exact ps_3 hpp | exact ps_4 hpp | exact ps_5 hpp | exact ps_6 hpp | exact ps_7 hpp | exact ps_8 hpp | exact ps_9 hpp | exact ps_10 hpp | exact ps_11 hpp | exact ps_15 hpp | exact ps_16 hpp | exact ps_17 hpp | exact ps_18 hpp | exact ps_19 hpp | exact ps_21 hpp | exact ps_22 hpp | exact ps_23 hpp | exact ps_24 hpp) ⟨by omega, by omega⟩ ?_ | refine by_tald rfl rfl ⟨by omega, by omega⟩ ?_
  simp (disch := first | exact Nat.ne_of_beq_eq_false rfl | exact rfl | omega) only [nI_add, xa_sub, xa_mul, pk_div, nm_mod, xa_shr, xa_and7, xa_and1, xa_and255, xa_by_and, nI_m1, Nat.add_sub_cancel, Nat.reducePow, Nat.zero_add, Nat.add_zero, Nat.reduceAdd, Nat.reduceMul, Nat.reduceSub, xf_same, xq_ff, xq_fo, xf_1, xf_2, xs_1, xs_2, xs_same, xq_so, xj_1, xj_2, xj_same, xq_jo, xq_sa1, xq_same, xq_other, upd_s, oI_n, oI_s, xf_32_2 hF, xf_22_3 hF, n1, v3, s5, lN_pl, xf_22_0 hF, v2, xf_22_2 hF, v6', n2, n3, n4, n5]
  refine by_sw ?_
  simp (disch := first | exact Nat.ne_of_beq_eq_false rfl | exact rfl | omega) only [nI_add, xa_sub, xa_mul, pk_div, nm_mod, xa_shr, xa_and7, xa_and1, xa_and255, xa_by_and, nI_m1, Nat.add_sub_cancel, Nat.reducePow, Nat.zero_add, Nat.add_zero, Nat.reduceAdd, Nat.reduceMul, Nat.reduceSub, xf_same, xq_ff, xq_fo, xf_1, xf_2, xs_1, xs_2, xs_same, xq_so, xj_1, xj_2, xj_same, xq_jo, xq_sa1, xq_same, xq_other, upd_s, oI_n, oI_s, xv_0, xv_1, xv_2, xv_3, xm_p1, xm_p2, xq_fp, xq_fn, List.filter_nil, Nat.reduceBEq, Bool.not_true, Bool.not_false, Bool.and_true, Bool.and_false, Bool.false_and, Bool.true_and, if_true, if_false, Bool.false_eq_true, reduceIte, xc_i, xc_j, xc_r, xc_n, List.nil_append, List.cons_append, Option.toList_some, Option.toList_none, xf_32_2 hF, xf_22_3 hF, n1, v3, s5, lN_pl, xf_22_0 hF, v2, xf_22_2 hF, v6', n2, n3, n4, n5]
  refine xq_sw 212 (by decide) (by decide) ?_
  with_reducible refine xm_go_blk b_X4_follow_212 k_X4_follow_212 ?_
  refine by_aload_n rfl ?_
  refine by_aload_n rfl ?_
  refine by_getf cn_82 fl_4_38 (by first | exact rfl | assumption) (by decide) ?_
  simp (disch := first | exact Nat.ne_of_beq_eq_false rfl | exact rfl | omega) only [nI_add, xa_sub, xa_mul, pk_div, nm_mod, xa_shr, xa_and7, xa_and1, xa_and255, xa_by_and, nI_m1, Nat.add_sub_cancel, Nat.reducePow, Nat.zero_add, Nat.add_zero, Nat.reduceAdd, Nat.reduceMul, Nat.reduceSub, xf_same, xq_ff, xq_fo, xf_1, xf_2, xs_1, xs_2, xs_same, xq_so, xj_1, xj_2, xj_same, xq_jo, xq_sa1, xq_same, xq_other, upd_s, oI_n, oI_s, xf_32_2 hF, xf_22_3 hF, n1, v3, s5, lN_pl, xf_22_0 hF, v2, xf_22_2 hF, v6', n2, n3, n4, n5]
  refine by_getf cn_82 fl_4_145 (by first | exact rfl | assumption) (by decide) ?_
  refine by_aload_n rfl ?_
  refine by_getf cn_82 fl_4_110 (by first | exact rfl | assumption) (by decide) ?_
  simp (disch := first | exact Nat.ne_of_beq_eq_false rfl | exact rfl | omega) only [nI_add, xa_sub, xa_mul, pk_div, nm_mod, xa_shr, xa_and7, xa_and1, xa_and255, xa_by_and, nI_m1, Nat.add_sub_cancel, Nat.reducePow, Nat.zero_add, Nat.add_zero, Nat.reduceAdd, Nat.reduceMul, Nat.reduceSub, xf_same, xq_ff, xq_fo, xf_1, xf_2, xs_1, xs_2, xs_same, xq_so, xj_1, xj_2, xj_same, xq_jo, xq_sa1, xq_same, xq_other, upd_s, oI_n, oI_s, xf_32_2 hF, xf_22_3 hF, n1, v3, s5, lN_pl, xf_22_0 hF, v2, xf_22_2 hF, v6', n2, n3, n4, n5]
  first | refine by_iald (by first | exact rfl | assumption | exact ps_1 hpp | exact ps_2 hpp | exact ps_3 hpp | exact ps_4 hpp | exact ps_5 hpp | exact ps_6 hpp | exact ps_7 hpp | exact ps_8 hpp | exact ps_9 hpp | exact ps_10 hpp | exact ps_11 hpp | exact ps_15 hpp | exact ps_16 hpp | exact ps_17 hpp | exact ps_18 hpp | exact ps_19 hpp | exact ps_21 hpp | exact ps_22 hpp | exact ps_23 hpp | exact ps_24 hpp) ⟨by omega, by omega⟩ ?_ | refine by_tald rfl rfl ⟨by omega, by omega⟩ ?_
  refine by_aload_n rfl ?_
  refine by_getf cn_82 fl_4_59 (by first | exact rfl | assumption) (by decide) ?_
  refine by_aload_n rfl ?_
  refine by_getf cn_82 fl_4_55 (by first | exact rfl | assumption) (by decide) ?_
  refine by_iload rfl ?_
  simp (disch := first | exact Nat.ne_of_beq_eq_false rfl | exact rfl | omega) only [nI_add, xa_sub, xa_mul, pk_div, nm_mod, xa_shr, xa_and7, xa_and1, xa_and255, xa_by_and, nI_m1, Nat.add_sub_cancel, Nat.reducePow, Nat.zero_add, Nat.add_zero, Nat.reduceAdd, Nat.reduceMul, Nat.reduceSub, xf_same, xq_ff, xq_fo, xf_1, xf_2, xs_1, xs_2, xs_same, xq_so, xj_1, xj_2, xj_same, xq_jo, xq_sa1, xq_same, xq_other, upd_s, oI_n, oI_s, xf_32_2 hF, xf_22_3 hF, n1, v3, s5, lN_pl, xf_22_0 hF, v2, xf_22_2 hF, v6', n2, n3, n4, n5]
  refine by_iadd ?_
  refine by_aload_n rfl ?_
  refine by_getf cn_82 fl_4_113 (by first | exact rfl | assumption) (by decide) ?_
  refine by_aload_n rfl ?_
  refine by_getf cn_82 fl_4_116 (by first | exact rfl | assumption) (by decide) ?_
  simp (disch := first | exact Nat.ne_of_beq_eq_false rfl | exact rfl | omega) only [nI_add, xa_sub, xa_mul, pk_div, nm_mod, xa_shr, xa_and7, xa_and1, xa_and255, xa_by_and, nI_m1, Nat.add_sub_cancel, Nat.reducePow, Nat.zero_add, Nat.add_zero, Nat.reduceAdd, Nat.reduceMul, Nat.reduceSub, xf_same, xq_ff, xq_fo, xf_1, xf_2, xs_1, xs_2, xs_same, xq_so, xj_1, xj_2, xj_same, xq_jo, xq_sa1, xq_same, xq_other, upd_s, oI_n, oI_s, xv_0, xv_1, xv_2, xv_3, xm_p1, xm_p2, xq_fp, xq_fn, List.filter_nil, Nat.reduceBEq, Bool.not_true, Bool.not_false, Bool.and_true, Bool.and_false, Bool.false_and, Bool.true_and, if_true, if_false, Bool.false_eq_true, reduceIte, xc_i, xc_j, xc_r, xc_n, List.nil_append, List.cons_append, Option.toList_some, Option.toList_none, xf_32_2 hF, xf_22_3 hF, n1, v3, s5, lN_pl, xf_22_0 hF, v2, xf_22_2 hF, v6', n2, n3, n4, n5]
  refine by_inv5 cn_82 lk_4_104 (by rw [xe_cnt]; decide) is_77 np_77 cn_77 (by first | exact rfl | assumption) (Nat.le_of_ble_eq_true rfl) ?_
  refine sp_await (K := K) F1 (by omega) (mS_1 hS) (fun h2 f2 S2 => ?_)
  have F2 := Fr_XF F1 f2 (by decide +kernel)
  have m2 : mB h2 = mB h := (mB_fr f2 (by simp)).trans (show mB (xm_sf h 32 16 (.long (lN (sp + 1)))) = mB h from rfl)
  obtain ⟨u1, u2, u3, u4, u5⟩ := mN_1 (s' := sp + 1) hN'
  have e11 : h2.2.2 32 11 = .int (nI n) := by rw [f2.2.2 _ _ (by simp)]; exact u1
  have e24 : h2.1 24 n = nI x := by rw [f2.1 24 (by simp)]; exact v5'
  with_reducible refine xm_go_blk b_X4_follow_247 k_X4_follow_247 ?_
  refine by_aload_n rfl ?_
  refine by_aload_n rfl ?_
  refine by_getf cn_82 fl_4_38 (by first | exact rfl | assumption) (by decide) ?_
  simp (disch := first | exact Nat.ne_of_beq_eq_false rfl | exact rfl | omega) only [nI_add, xa_sub, xa_mul, pk_div, nm_mod, xa_shr, xa_and7, xa_and1, xa_and255, xa_by_and, nI_m1, Nat.add_sub_cancel, Nat.reducePow, Nat.zero_add, Nat.add_zero, Nat.reduceAdd, Nat.reduceMul, Nat.reduceSub, xf_same, xq_ff, xq_fo, xf_1, xf_2, xs_1, xs_2, xs_same, xq_so, xj_1, xj_2, xj_same, xq_jo, xq_sa1, xq_same, xq_other, upd_s, oI_n, oI_s, e11, xf_32_2 F2, xf_22_1 F2, e24]
  refine by_getf cn_82 fl_4_142 (by first | exact rfl | assumption) (by decide) ?_
  refine by_aload_n rfl ?_
  refine by_getf cn_82 fl_4_110 (by first | exact rfl | assumption) (by decide) ?_
  simp (disch := first | exact Nat.ne_of_beq_eq_false rfl | exact rfl | omega) only [nI_add, xa_sub, xa_mul, pk_div, nm_mod, xa_shr, xa_and7, xa_and1, xa_and255, xa_by_and, nI_m1, Nat.add_sub_cancel, Nat.reducePow, Nat.zero_add, Nat.add_zero, Nat.reduceAdd, Nat.reduceMul, Nat.reduceSub, xf_same, xq_ff, xq_fo, xf_1, xf_2, xs_1, xs_2, xs_same, xq_so, xj_1, xj_2, xj_same, xq_jo, xq_sa1, xq_same, xq_other, upd_s, oI_n, oI_s, e11, xf_32_2 F2, xf_22_1 F2, e24]
  first | refine by_iald (by first | exact rfl | assumption | exact ps_1 hpp | exact ps_2 hpp | exact ps_3 hpp | exact ps_4 hpp | exact ps_5 hpp | exact ps_6 hpp | exact ps_7 hpp | exact ps_8 hpp | exact ps_9 hpp | exact ps_10 hpp | exact ps_11 hpp | exact ps_15 hpp | exact ps_16 hpp | exact ps_17 hpp | exact ps_18 hpp | exact ps_19 hpp | exact ps_21 hpp | exact ps_22 hpp | exact ps_23 hpp | exact ps_24 hpp) ⟨by omega, by omega⟩ ?_ | refine by_tald rfl rfl ⟨by omega, by omega⟩ ?_
  refine by_putf cn_82 fl_4_110 (by first | exact rfl | assumption) (by decide) nf_4_11 ft_4_11 (by first | rfl | assumption) (by first | rfl | assumption) ?_
  refine by_goto 460 rfl ?_
  try simp (disch := first | exact Nat.ne_of_beq_eq_false rfl | exact rfl | omega) only [nI_add, xa_sub, xa_mul, pk_div, nm_mod, xa_shr, xa_and7, xa_and1, xa_and255, xa_by_and, nI_m1, Nat.add_sub_cancel, Nat.reducePow, Nat.zero_add, Nat.add_zero, Nat.reduceAdd, Nat.reduceMul, Nat.reduceSub, xf_same, xq_ff, xq_fo, xf_1, xf_2, xs_1, xs_2, xs_same, xq_so, xj_1, xj_2, xj_same, xq_jo, xq_sa1, xq_same, xq_other, upd_s, oI_n, oI_s, xv_0, xv_1, xv_2, xv_3, xm_p1, xm_p2, xq_fp, xq_fn, List.filter_nil, Nat.reduceBEq, Bool.not_true, Bool.not_false, Bool.and_true, Bool.and_false, Bool.false_and, Bool.true_and, if_true, if_false, Bool.false_eq_true, reduceIte, xc_i, xc_j, xc_r, xc_n, List.nil_append, List.cons_append, Option.toList_some, Option.toList_none, e11, xf_32_2 F2, xf_22_1 F2, e24]
  with_reducible refine xm_go_blk b_X4_follow_460 k_X4_follow_460 ?_
  refine by_iinc (by rw [ml_82]; decide) rfl ci_1 ?_
  refine by_goto 2 rfl ?_
  try simp (disch := first | exact Nat.ne_of_beq_eq_false rfl | exact rfl | omega) only [nI_add, xa_sub, xa_mul, pk_div, nm_mod, xa_shr, xa_and7, xa_and1, xa_and255, xa_by_and, nI_m1, Nat.add_sub_cancel, Nat.reducePow, Nat.zero_add, Nat.add_zero, Nat.reduceAdd, Nat.reduceMul, Nat.reduceSub, xf_same, xq_ff, xq_fo, xf_1, xf_2, xs_1, xs_2, xs_same, xq_so, xj_1, xj_2, xj_same, xq_jo, xq_sa1, xq_same, xq_other, upd_s, oI_n, oI_s, xv_0, xv_1, xv_2, xv_3, xm_p1, xm_p2, xq_fp, xq_fn, List.filter_nil, Nat.reduceBEq, Bool.not_true, Bool.not_false, Bool.and_true, Bool.and_false, Bool.false_and, Bool.true_and, if_true, if_false, Bool.false_eq_true, reduceIte, xc_i, xc_j, xc_r, xc_n, List.nil_append, List.cons_append, Option.toList_some, Option.toList_none, e11, xf_32_2 F2, xf_22_1 F2, e24]
  have f3 : Fr [] [(32, 11)] h2 (xm_sf h2 32 11 (.int (nI x))) := Fr_sf Fr_rf (by simp)
  have F3 := Fr_XF F2 f3 (by decide +kernel)
  have f03 : Fr mcR mcT H0 (xm_sf h2 32 11 (.int (nI x))) := Fr_tr (Fr_tr (Fr_tr hf f1 (fun _ z => z) (fun _ z => z)) f2 (by simp [mcR]) (by simp [mcT])) f3 (by simp) (by simp [mcT])
  have N3 : mNd (xm_sf h2 32 11 (.int (nI x))) x f t b g := ⟨by simp [xm_sf, updV], by rw [f3.2.2 _ _ (by simp), f2.2.2 _ _ (by simp)]; exact u2, by rw [f3.2.2 _ _ (by simp), f2.2.2 _ _ (by simp)]; exact u3, by rw [f3.2.2 _ _ (by simp), f2.2.2 _ _ (by simp)]; exact u4, by rw [f3.2.2 _ _ (by simp), f2.2.2 _ _ (by simp)]; exact u5⟩
  have S3 := mSt_fr S2 f3 (by simp) (by simp) (by simp) (by simp) (by simp) (by simp) (by simp) (by simp) (by simp)
  have m3 : mB (xm_sf h2 32 11 (.int (nI x))) = mB h := (mB_fr f3 (by simp)).trans m2
  refine xm_go_wk (by simp [Value.category]) (hx _ f t b g ((y, f, t + k, b, g) :: K) pc pf (sp + 1) tn (kk + 1) F3 f03 N3 S3 (by omega) (by omega) (by omega) (by omega) q5 q6 q7 q8 (by omega) (by simp only [List.length_cons]; omega) (by omega) (by omega) (fun a s c e hr h4 tn4 ht4 F4 f04 S4 b4 o4 => ?_) (fun hr h4 F4 f04 => ?_))
  · rw [m3] at hr o4
    obtain ⟨la, lc, le⟩ := lx.2 _ _ _ _ _ hr
    refine Wk_pop F4 hpp S4 (by omega) (by omega) (fun h5 F5 f5 N5 S5 => ?_)
    have m5 : mB h5 = mB h4 := mB_fr f5 (by simp)
    have er : ry (mc_sh (mB h5) f) = ry (mc_sh (mB h) f) := ly.1 _ _ (fun i hi => by
      show mB h5 (f + i) = mB h (f + i)
      rw [m5]; exact o4 _ (by omega) (by omega))
    refine hy h5 f (t + k) b g K _ _ (sp + 1 + s) tn4 0 F5 (Fr_tr f04 f5 (by simp) (by simp [mcT])) N5 S5 (by omega) (by omega) (by omega) (by omega) (by omega) (by omega) (by omega) (by omega) (by omega) (by omega) (by omega) (by omega) (fun a' s' c' e' hr' h6 tn6 ht6 F6 f06 S6 b6 o6 => ?_) (fun hr' h6 F6 f06 => ?_)
    · rw [er] at hr'
      obtain ⟨la', lc', le'⟩ := ly.2 _ _ _ _ _ hr'
      refine hyes (a ++ a') (1 + s + s') (max c c') (max e e') (by simp only [hr, hr']) h6 tn6 (by omega) F6 f06 ?_ (fun i hi => ?_) (fun i hi hi2 => ?_)
      · rw [show max pc (b + max c c') = max (max pc (b + c)) (b + c') by omega, show max pf (g + max e e') = max (max pf (g + e)) (g + e') by omega, show sp + (1 + s + s') = sp + 1 + s + s' by omega]
        exact S6
      · by_cases z : i < k
        · rw [gd_l (by omega), ← b4 i (by omega), o6 (t + i) (by omega) (by omega), m5]
        · rw [gd_r (by omega), la, a2]
          have := b6 (i - k) (by omega)
          rw [show t + k + (i - k) = t + i by omega] at this
          exact this
      · rw [o6 i hi (by omega), m5, o4 i hi (by omega)]
    · rw [er] at hr'
      exact hno (by simp only [hr, hr']) h6 F6 f06
  · rw [m3] at hr
    exact hno (by simp only [hr]) h4 F4 f04
/-- a node with one child, which is worked at another place, behind bits that are written -/
theorem bg_one {h h1 : xm_H} {n x f f' t b g k' pc pf sp tn : Nat} {wr : List Bool} {K : List mc_F} {rx : (Nat → Bool) → Option mc_V} (hf : Fr mcR mcT H0 h1) (F1 : XF h1) (hN : mNd h1 x f' (t + wr.length) b g) (hS : mSt h1 K pc pf (sp + 1)) (hm : mB h1 = mc_wr (mB h) t wr) (hx : Bg sc d pp df w H0 post x rx) (lx : Lr w x rx)
    (hff : f ≤ f') (a1 : f' + w_s w x ≤ f + w_s w n) (a2 : w_t w n = wr.length + w_t w x) (a3 : 1 + w_b w x ≤ w_b w n) (a4 : w_d w x ≤ w_d w n) (a5 : w_c w x ≤ w_c w n) (a6 : w_f w x ≤ w_f w n) (a12 : k' + w_r w x < 8000)
    (q1 : f + w_s w n ≤ b) (q2 : t + w_t w n ≤ b) (q3 : f + w_s w n ≤ t ∨ t + w_t w n ≤ f) (q4 : b + w_c w n ≤ 839680) (q5 : b ≤ pc) (q6 : g ≤ pf) (q7 : pc ≤ 839680) (q8 : pf ≤ 100000) (q8b : g + w_f w n ≤ 100000) (q9 : K.length + w_d w n ≤ 1600) (q11 : tn + w_b w n ≤ 1099511627776)
    (hyes : ∀ a s c e, rx (mc_sh (mB h) f') = some (a, s, c, e) → ∀ h' tn', tn' ≤ tn + w_b w n → XF h' → Fr mcR mcT H0 h' → mSt h' K (max pc (b + c)) (max pf (g + e)) (sp + (1 + s)) → (∀ i, i < w_t w n → mB h' (t + i) = (wr ++ a).getD i false) → (∀ i, i < b → (i < t ∨ t + w_t w n ≤ i) → mB h' i = mB h i) → Wk sc d pp df post tn' h')
    (hno : rx (mc_sh (mB h) f') = none → ∀ h', XF h' → Fr mcR mcT H0 h' → post (some (.int (nI 0))) h') : Fw sc d pp df post tn k' h1 := by
  have er : rx (mc_sh (mB h1) f') = rx (mc_sh (mB h) f') := lx.1 _ _ (fun i hi => by
    show mB h1 (f' + i) = mB h (f' + i)
    rw [hm]; exact mc_wr_out (by omega))
  refine hx h1 f' (t + wr.length) b g K pc pf (sp + 1) tn k' F1 hf hN hS (by omega) (by omega) (by omega) (by omega) q5 q6 q7 q8 (by omega) (by omega) a12 (by omega) (fun a s c e hr h' tn' ht F' f' S' b' o' => ?_) (fun hr h' F' f' => ?_)
  · rw [er] at hr
    obtain ⟨la, lc, le⟩ := lx.2 _ _ _ _ _ hr
    refine hyes a s c e hr h' tn' (by omega) F' f' (by rw [show sp + (1 + s) = sp + 1 + s by omega]; exact S') (fun i hi => ?_) (fun i hi hi2 => ?_)
    · by_cases z : i < wr.length
      · rw [gd_l z, o' (t + i) (by omega) (by omega), hm, mc_wr_in z]
      · rw [gd_r (by omega)]
        have := b' (i - wr.length) (by omega)
        rw [show t + wr.length + (i - wr.length) = t + i by omega] at this
        exact this
    · rw [o' i hi (by omega), hm, mc_wr_out (by omega)]
  · rw [er] at hr
    exact hno hr h' F' f'
end BG
