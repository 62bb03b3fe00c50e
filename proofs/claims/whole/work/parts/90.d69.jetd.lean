/-! ===== jets: their widths; the machine works a JET whose code stands for itself ===== -/
theorem ty_wd_w : ∀ k, ty_w (ty_wd k) = 2 ^ k
  | 0 => rfl
  | k + 1 => by show ty_w (ty_wd k) + ty_w (ty_wd k) = _; rw [ty_wd_w k, Nat.pow_succ]; omega
theorem jW_js {num : Nat} (hn : num < 168) : jWs (jt_S (num / 4)) (8 * 2 ^ (num % 4)) = ty_w (ty_js num) := by
  unfold ty_js
  have hm : num % 4 = 0 ∨ num % 4 = 1 ∨ num % 4 = 2 ∨ num % 4 = 3 := by omega
  rcases jS_in (num / 4) (by omega) with e | e | e | e | e | e | e | e <;> rcases hm with q | q | q | q <;> rw [e, q] <;> decide
theorem jW_jt {num : Nat} (hn : num < 168) : jWt (jt_T (num / 4)) (8 * 2 ^ (num % 4)) = ty_w (ty_jt num) := by
  unfold ty_jt
  have hm : num % 4 = 0 ∨ num % 4 = 1 ∨ num % 4 = 2 ∨ num % 4 = 3 := by omega
  rcases jT_in (num / 4) (by omega) with e | e | e | e | e | e <;> rcases hm with q | q | q | q <;> rw [e, q] <;> decide
theorem jL_len {k w c x y z v : Nat} (hk : k < 42) : (jL k w c x y z v).length = jWt (jt_T k) w := by
  rcases (by omega : k = 0 ∨ k = 1 ∨ k = 2 ∨ k = 3 ∨ k = 4 ∨ k = 5 ∨ k = 6 ∨ k = 7 ∨ k = 8 ∨ k = 9 ∨ k = 10 ∨ k = 11 ∨ k = 12 ∨ k = 13 ∨ k = 14 ∨ k = 15 ∨ k = 16 ∨ k = 17 ∨ k = 18 ∨ k = 19 ∨ k = 20 ∨ k = 21 ∨ k = 22 ∨ k = 23 ∨ k = 24 ∨ k = 25 ∨ k = 26 ∨ k = 27 ∨ k = 28 ∨ k = 29 ∨ k = 30 ∨ k = 31 ∨ k = 32 ∨ k = 33 ∨ k = 34 ∨ k = 35 ∨ k = 36 ∨ k = 37 ∨ k = 38 ∨ k = 39 ∨ k = 40 ∨ k = 41) with rfl | rfl | rfl | rfl | rfl | rfl | rfl | rfl | rfl | rfl | rfl | rfl | rfl | rfl | rfl | rfl | rfl | rfl | rfl | rfl | rfl | rfl | rfl | rfl | rfl | rfl | rfl | rfl | rfl | rfl | rfl | rfl | rfl | rfl | rfl | rfl | rfl | rfl | rfl | rfl | rfl | rfl <;> simp [jL, jWt, jt_T, bbits_len]
theorem jtL_len {num : Nat} {u : Nat → Bool} (hn : num < 168) : (jtL num u).length = ty_w (ty_jt num) := by
  unfold jtL
  rw [jL_len (by omega), jW_jt hn]
theorem mc_n_cg {u u' : Nat → Bool} {p n m : Nat} (h : ∀ i, i < m → u i = u' i) (hm : p + n ≤ m) : mc_n u p n = mc_n u' p n := by
  unfold mc_n
  rw [mc_rd_congr (fun i hi => h (p + i) (by omega))]
theorem jtL_cg {num : Nat} {u u' : Nat → Bool} (hn : num < 168) (h : ∀ i, i < ty_w (ty_js num) → u i = u' i) : jtL num u = jtL num u' := by
  rw [← jW_js hn] at h
  unfold jtL
  generalize 8 * 2 ^ (num % 4) = w at *
  have hs := jS_in (num / 4) (by omega)
  generalize jt_S (num / 4) = s at *
  have key : jc u s = jc u' s ∧ jx u s w = jx u' s w ∧ jy u s w = jy u' s w ∧ jz u s w = jz u' s w ∧ jv u s w = jv u' s w := by
    rcases hs with rfl | rfl | rfl | rfl | rfl | rfl | rfl | rfl
    · exact ⟨rfl, rfl, rfl, rfl, rfl⟩
    · exact ⟨rfl, mc_n_cg h (by show 0 + w / 2 ≤ w / 2; omega), rfl, rfl, rfl⟩
    · exact ⟨rfl, mc_n_cg h (by show 0 + w ≤ w; omega), rfl, rfl, rfl⟩
    · exact ⟨rfl, mc_n_cg h (by show 0 + w ≤ 2 * w; omega), mc_n_cg h (by show 0 + w + w ≤ 2 * w; omega), rfl, rfl⟩
    · exact ⟨rfl, mc_n_cg h (by show 0 + w ≤ 4 * w; omega), mc_n_cg h (by show 0 + w + w ≤ 4 * w; omega), mc_n_cg h (by show 0 + 2 * w + w ≤ 4 * w; omega), mc_n_cg h (by show 0 + 3 * w + w ≤ 4 * w; omega)⟩
    · exact ⟨mc_n_cg h (by show 0 + 1 ≤ 1 + 2 * w; omega), mc_n_cg h (by show 1 + w ≤ 1 + 2 * w; omega), mc_n_cg h (by show 1 + w + w ≤ 1 + 2 * w; omega), rfl, rfl⟩
    · exact ⟨rfl, mc_n_cg h (by show 0 + w ≤ 3 * w; omega), mc_n_cg h (by show 0 + w + w ≤ 3 * w; omega), mc_n_cg h (by show 0 + 2 * w + w ≤ 3 * w; omega), rfl⟩
    · exact ⟨mc_n_cg h (by show 0 + 8 ≤ 8 + w; omega), mc_n_cg h (by show 8 + w ≤ 8 + w; omega), rfl, rfl, rfl⟩
  rw [key.1, key.2.1, key.2.2.1, key.2.2.2.1, key.2.2.2.2]
section JD
variable {sc : xm_Sc} {d pp df : Nat} {A : mc_A} {w : mc_W} {H0 : xm_H} {post : xm_Po}
theorem bg_jet0 {n num o : Nat} (hbc : bcOK sc) (hc : cdN H0 A n) (he : mc_op A n = 12) (ek : mc_sk A n = num) (eo : mc_ot A n = o) (hnum : num < 168) (hs : ty_w (ty_js num) ≤ w_s w n) (ht : w_t w n = ty_w (ty_jt num)) (hb : 1 ≤ w_b w n) : Bg sc d pp 0 w H0 post n (fun u => some (jtL num u, 1 + o, 0, 0)) := by
  intro h f t b g K pc pf sp tn kk hF hf hN hS q1 q2 q3 q4 q5 q6 q7 q8 q8b q9 q10 q11 hyes hno
  obtain ⟨v1, v2, v3, v4, v5, v6, v7, v8⟩ := cdN_fr hc hf
  rw [he] at v2
  rw [ek] at v3 v7
  rw [eo] at v4 v8
  obtain ⟨n1, n2, n3, n4, n5⟩ := hN
  have s5 := hS.2.2.2.2
  obtain ⟨s1, s2, s3, s4, _⟩ := hS
  unfold Fw
  with_reducible refine xm_go_blk b_X4_follow_2 k_X4_follow_2 ?_
  refine by_iload_n rfl ?_
  refine by_sipush cs_8000 ?_
  refine by_ic_ge 466 rfl ?_
  simp (disch := first | exact Nat.ne_of_beq_eq_false rfl | exact rfl | omega) only [nI_add, xa_sub, xa_mul, pk_div, nm_mod, xa_shr, xa_and7, xa_and1, xa_and255, xa_by_and, nI_m1, Nat.add_sub_cancel, Nat.reducePow, Nat.zero_add, Nat.add_zero, Nat.reduceAdd, Nat.reduceMul, Nat.reduceSub, xf_same, xq_ff, xq_fo, xf_1, xf_2, xs_1, xs_2, xs_same, xq_so, xj_1, xj_2, xj_same, xq_jo, xq_sa1, xq_same, xq_other, upd_s, oI_n, oI_s, xv_0, xv_1, xv_2, xv_3, xm_p1, xm_p2, xq_fp, xq_fn, List.filter_nil, Nat.reduceBEq, Bool.not_true, Bool.not_false, Bool.and_true, Bool.and_false, Bool.false_and, Bool.true_and, if_true, if_false, Bool.false_eq_true, reduceIte, xc_i, xc_j, xc_r, xc_n, List.nil_append, List.cons_append, Option.toList_some, Option.toList_none, nI_ltJ, nI_leJ, nI_eqJ, nI_ltz, nI_gez, nI_gtz, nI_lez, nI_eqz, m1_ltz, m1_gez, true_imp_iff, false_imp_iff, true_and, and_true, ne_eq, not_false_eq_true, not_true_eq_false, Nat.reduceEqDiff, Nat.reduceLT, Nat.reduceLeDiff, xf_32_2 hF, xf_22_3 hF, n1, v3, s5, lN_pl, xf_22_0 hF, v2, i2l_n, n2, n3, xf_22_4 hF, v4, xf_32_3 hF]
  refine ⟨fun c => absurd c (by omega), fun c2 => ?_⟩
  with_reducible refine xm_go_blk b_X4_follow_9 k_X4_follow_9 ?_
  refine by_aload_n rfl ?_
  refine by_getf cn_82 fl_4_38 (by first | exact rfl | assumption) (by decide) ?_
  simp (disch := first | exact Nat.ne_of_beq_eq_false rfl | exact rfl | omega) only [nI_add, xa_sub, xa_mul, pk_div, nm_mod, xa_shr, xa_and7, xa_and1, xa_and255, xa_by_and, nI_m1, Nat.add_sub_cancel, Nat.reducePow, Nat.zero_add, Nat.add_zero, Nat.reduceAdd, Nat.reduceMul, Nat.reduceSub, xf_same, xq_ff, xq_fo, xf_1, xf_2, xs_1, xs_2, xs_same, xq_so, xj_1, xj_2, xj_same, xq_jo, xq_sa1, xq_same, xq_other, upd_s, oI_n, oI_s, xf_32_2 hF, xf_22_3 hF, n1, v3, s5, lN_pl, xf_22_0 hF, v2, i2l_n, n2, n3, xf_22_4 hF, v4, xf_32_3 hF]
  refine by_getf cn_82 fl_4_129 (by first | exact rfl | assumption) (by decide) ?_
  refine by_aload_n rfl ?_
  refine by_getf cn_82 fl_4_110 (by first | exact rfl | assumption) (by decide) ?_
  simp (disch := first | exact Nat.ne_of_beq_eq_false rfl | exact rfl | omega) only [nI_add, xa_sub, xa_mul, pk_div, nm_mod, xa_shr, xa_and7, xa_and1, xa_and255, xa_by_and, nI_m1, Nat.add_sub_cancel, Nat.reducePow, Nat.zero_add, Nat.add_zero, Nat.reduceAdd, Nat.reduceMul, Nat.reduceSub, xf_same, xq_ff, xq_fo, xf_1, xf_2, xs_1, xs_2, xs_same, xq_so, xj_1, xj_2, xj_same, xq_jo, xq_sa1, xq_same, xq_other, upd_s, oI_n, oI_s, xf_32_2 hF, xf_22_3 hF, n1, v3, s5, lN_pl, xf_22_0 hF, v2, i2l_n, n2, n3, xf_22_4 hF, v4, xf_32_3 hF]
  first | refine by_iald (by first | exact rfl | assumption | exact ps_1 hpp | exact ps_2 hpp | exact ps_3 hpp | exact ps_4 hpp | exact ps_5 hpp | exact ps_6 hpp | exact ps_7 hpp | exact ps_8 hpp | exact ps_9 hpp | exact ps_10 hpp | exact ps_11 hpp | exact ps_15 hpp | exact ps_16 hpp | exact ps_17 hpp | exact ps_18 hpp | exact ps_19 hpp | exact ps_21 hpp | exact ps_22 hpp | exact ps_23 hpp | exact ps_24 hpp) ⟨by omega, by omega⟩ ?_ | refine by_tald rfl rfl ⟨by omega, by omega⟩ ?_
  refine by_istore (by rw [ml_82]; decide) ?_
  refine by_aload_n rfl ?_
  refine by_dup rfl ?_
  refine by_getf cn_82 fl_4_42 (by first | exact rfl | assumption) (by decide) ?_
  refine by_lconst cl_1 ?_
  simp (disch := first | exact Nat.ne_of_beq_eq_false rfl | exact rfl | omega) only [nI_add, xa_sub, xa_mul, pk_div, nm_mod, xa_shr, xa_and7, xa_and1, xa_and255, xa_by_and, nI_m1, Nat.add_sub_cancel, Nat.reducePow, Nat.zero_add, Nat.add_zero, Nat.reduceAdd, Nat.reduceMul, Nat.reduceSub, xf_same, xq_ff, xq_fo, xf_1, xf_2, xs_1, xs_2, xs_same, xq_so, xj_1, xj_2, xj_same, xq_jo, xq_sa1, xq_same, xq_other, upd_s, oI_n, oI_s, xf_32_2 hF, xf_22_3 hF, n1, v3, s5, lN_pl, xf_22_0 hF, v2, i2l_n, n2, n3, xf_22_4 hF, v4, xf_32_3 hF]
  refine by_ladd ?_
  refine by_putf cn_82 fl_4_42 (by first | exact rfl | assumption) (by decide) nf_4_16 ft_4_16 (by first | rfl | assumption) (by first | rfl | assumption) ?_
  refine by_aload_n rfl ?_
  refine by_getf cn_82 fl_4_38 (by first | exact rfl | assumption) (by decide) ?_
  simp (disch := first | exact Nat.ne_of_beq_eq_false rfl | exact rfl | omega) only [nI_add, xa_sub, xa_mul, pk_div, nm_mod, xa_shr, xa_and7, xa_and1, xa_and255, xa_by_and, nI_m1, Nat.add_sub_cancel, Nat.reducePow, Nat.zero_add, Nat.add_zero, Nat.reduceAdd, Nat.reduceMul, Nat.reduceSub, xf_same, xq_ff, xq_fo, xf_1, xf_2, xs_1, xs_2, xs_same, xq_so, xj_1, xj_2, xj_same, xq_jo, xq_sa1, xq_same, xq_other, upd_s, oI_n, oI_s, xf_32_2 hF, xf_22_3 hF, n1, v3, s5, lN_pl, xf_22_0 hF, v2, i2l_n, n2, n3, xf_22_4 hF, v4, xf_32_3 hF]
  refine by_getf cn_82 fl_4_132 (by first | exact rfl | assumption) (by decide) ?_
  refine by_aload_n rfl ?_
  refine by_getf cn_82 fl_4_110 (by first | exact rfl | assumption) (by decide) ?_
  simp (disch := first | exact Nat.ne_of_beq_eq_false rfl | exact rfl | omega) only [nI_add, xa_sub, xa_mul, pk_div, nm_mod, xa_shr, xa_and7, xa_and1, xa_and255, xa_by_and, nI_m1, Nat.add_sub_cancel, Nat.reducePow, Nat.zero_add, Nat.add_zero, Nat.reduceAdd, Nat.reduceMul, Nat.reduceSub, xf_same, xq_ff, xq_fo, xf_1, xf_2, xs_1, xs_2, xs_same, xq_so, xj_1, xj_2, xj_same, xq_jo, xq_sa1, xq_same, xq_other, upd_s, oI_n, oI_s, xf_32_2 hF, xf_22_3 hF, n1, v3, s5, lN_pl, xf_22_0 hF, v2, i2l_n, n2, n3, xf_22_4 hF, v4, xf_32_3 hF]
  first | refine by_iald (by first | exact rfl | assumption | exact ps_1 hpp | exact ps_2 hpp | exact ps_3 hpp | exact ps_4 hpp | exact ps_5 hpp | exact ps_6 hpp | exact ps_7 hpp | exact ps_8 hpp | exact ps_9 hpp | exact ps_10 hpp | exact ps_11 hpp | exact ps_15 hpp | exact ps_16 hpp | exact ps_17 hpp | exact ps_18 hpp | exact ps_19 hpp | exact ps_21 hpp | exact ps_22 hpp | exact ps_23 hpp | exact ps_24 hpp) ⟨by omega, by omega⟩ ?_ | refine by_tald rfl rfl ⟨by omega, by omega⟩ ?_
  simp (disch := first | exact Nat.ne_of_beq_eq_false rfl | exact rfl | omega) only [nI_add, xa_sub, xa_mul, pk_div, nm_mod, xa_shr, xa_and7, xa_and1, xa_and255, xa_by_and, nI_m1, Nat.add_sub_cancel, Nat.reducePow, Nat.zero_add, Nat.add_zero, Nat.reduceAdd, Nat.reduceMul, Nat.reduceSub, xf_same, xq_ff, xq_fo, xf_1, xf_2, xs_1, xs_2, xs_same, xq_so, xj_1, xj_2, xj_same, xq_jo, xq_sa1, xq_same, xq_other, upd_s, oI_n, oI_s, xf_32_2 hF, xf_22_3 hF, n1, v3, s5, lN_pl, xf_22_0 hF, v2, i2l_n, n2, n3, xf_22_4 hF, v4, xf_32_3 hF]
  refine by_sw ?_
  simp (disch := first | exact Nat.ne_of_beq_eq_false rfl | exact rfl | omega) only [nI_add, xa_sub, xa_mul, pk_div, nm_mod, xa_shr, xa_and7, xa_and1, xa_and255, xa_by_and, nI_m1, Nat.add_sub_cancel, Nat.reducePow, Nat.zero_add, Nat.add_zero, Nat.reduceAdd, Nat.reduceMul, Nat.reduceSub, xf_same, xq_ff, xq_fo, xf_1, xf_2, xs_1, xs_2, xs_same, xq_so, xj_1, xj_2, xj_same, xq_jo, xq_sa1, xq_same, xq_other, upd_s, oI_n, oI_s, xv_0, xv_1, xv_2, xv_3, xm_p1, xm_p2, xq_fp, xq_fn, List.filter_nil, Nat.reduceBEq, Bool.not_true, Bool.not_false, Bool.and_true, Bool.and_false, Bool.false_and, Bool.true_and, if_true, if_false, Bool.false_eq_true, reduceIte, xc_i, xc_j, xc_r, xc_n, List.nil_append, List.cons_append, Option.toList_some, Option.toList_none, xf_32_2 hF, xf_22_3 hF, n1, v3, s5, lN_pl, xf_22_0 hF, v2, i2l_n, n2, n3, xf_22_4 hF, v4, xf_32_3 hF]
  refine xq_sw 389 (by decide) (by decide) ?_
  with_reducible refine xm_go_blk b_X4_follow_389 k_X4_follow_389 ?_
  refine by_iload_n rfl ?_
  refine by_if_ne 435 rfl ?_
  simp (disch := first | exact Nat.ne_of_beq_eq_false rfl | exact rfl | omega) only [nI_add, xa_sub, xa_mul, pk_div, nm_mod, xa_shr, xa_and7, xa_and1, xa_and255, xa_by_and, nI_m1, Nat.add_sub_cancel, Nat.reducePow, Nat.zero_add, Nat.add_zero, Nat.reduceAdd, Nat.reduceMul, Nat.reduceSub, xf_same, xq_ff, xq_fo, xf_1, xf_2, xs_1, xs_2, xs_same, xq_so, xj_1, xj_2, xj_same, xq_jo, xq_sa1, xq_same, xq_other, upd_s, oI_n, oI_s, xv_0, xv_1, xv_2, xv_3, xm_p1, xm_p2, xq_fp, xq_fn, List.filter_nil, Nat.reduceBEq, Bool.not_true, Bool.not_false, Bool.and_true, Bool.and_false, Bool.false_and, Bool.true_and, if_true, if_false, Bool.false_eq_true, reduceIte, xc_i, xc_j, xc_r, xc_n, List.nil_append, List.cons_append, Option.toList_some, Option.toList_none, nI_ltJ, nI_leJ, nI_eqJ, nI_ltz, nI_gez, nI_gtz, nI_lez, nI_eqz, m1_ltz, m1_gez, true_imp_iff, false_imp_iff, true_and, and_true, ne_eq, not_false_eq_true, not_true_eq_false, Nat.reduceEqDiff, Nat.reduceLT, Nat.reduceLeDiff, xf_32_2 hF, xf_22_3 hF, n1, v3, s5, lN_pl, xf_22_0 hF, v2, i2l_n, n2, n3, xf_22_4 hF, v4, xf_32_3 hF]
  with_reducible refine xm_go_blk b_X4_follow_393 k_X4_follow_393 ?_
  refine by_aload_n rfl ?_
  refine by_dup rfl ?_
  refine by_getf cn_82 fl_4_42 (by first | exact rfl | assumption) (by decide) ?_
  refine by_aload_n rfl ?_
  refine by_getf cn_82 fl_4_38 (by first | exact rfl | assumption) (by decide) ?_
  simp (disch := first | exact Nat.ne_of_beq_eq_false rfl | exact rfl | omega) only [nI_add, xa_sub, xa_mul, pk_div, nm_mod, xa_shr, xa_and7, xa_and1, xa_and255, xa_by_and, nI_m1, Nat.add_sub_cancel, Nat.reducePow, Nat.zero_add, Nat.add_zero, Nat.reduceAdd, Nat.reduceMul, Nat.reduceSub, xf_same, xq_ff, xq_fo, xf_1, xf_2, xs_1, xs_2, xs_same, xq_so, xj_1, xj_2, xj_same, xq_jo, xq_sa1, xq_same, xq_other, upd_s, oI_n, oI_s, xf_32_2 hF, xf_22_3 hF, n1, v3, s5, lN_pl, xf_22_0 hF, v2, i2l_n, n2, n3, xf_22_4 hF, v4, xf_32_3 hF]
  refine by_getf cn_82 fl_4_139 (by first | exact rfl | assumption) (by decide) ?_
  refine by_aload_n rfl ?_
  refine by_getf cn_82 fl_4_110 (by first | exact rfl | assumption) (by decide) ?_
  simp (disch := first | exact Nat.ne_of_beq_eq_false rfl | exact rfl | omega) only [nI_add, xa_sub, xa_mul, pk_div, nm_mod, xa_shr, xa_and7, xa_and1, xa_and255, xa_by_and, nI_m1, Nat.add_sub_cancel, Nat.reducePow, Nat.zero_add, Nat.add_zero, Nat.reduceAdd, Nat.reduceMul, Nat.reduceSub, xf_same, xq_ff, xq_fo, xf_1, xf_2, xs_1, xs_2, xs_same, xq_so, xj_1, xj_2, xj_same, xq_jo, xq_sa1, xq_same, xq_other, upd_s, oI_n, oI_s, xf_32_2 hF, xf_22_3 hF, n1, v3, s5, lN_pl, xf_22_0 hF, v2, i2l_n, n2, n3, xf_22_4 hF, v4, xf_32_3 hF]
  first | refine by_iald (by first | exact rfl | assumption | exact ps_1 hpp | exact ps_2 hpp | exact ps_3 hpp | exact ps_4 hpp | exact ps_5 hpp | exact ps_6 hpp | exact ps_7 hpp | exact ps_8 hpp | exact ps_9 hpp | exact ps_10 hpp | exact ps_11 hpp | exact ps_15 hpp | exact ps_16 hpp | exact ps_17 hpp | exact ps_18 hpp | exact ps_19 hpp | exact ps_21 hpp | exact ps_22 hpp | exact ps_23 hpp | exact ps_24 hpp) ⟨by omega, by omega⟩ ?_ | refine by_tald rfl rfl ⟨by omega, by omega⟩ ?_
  refine by_i2l ?_
  refine by_ladd ?_
  refine by_putf cn_82 fl_4_42 (by first | exact rfl | assumption) (by decide) nf_4_16 ft_4_16 (by first | rfl | assumption) (by first | rfl | assumption) ?_
  refine by_aload_n rfl ?_
  refine by_getf cn_82 fl_4_12 (by first | exact rfl | assumption) (by decide) ?_
  refine by_iload rfl ?_
  refine by_aload_n rfl ?_
  refine by_aload_n rfl ?_
  refine by_getf cn_82 fl_4_59 (by first | exact rfl | assumption) (by decide) ?_
  refine by_aload_n rfl ?_
  refine by_getf cn_82 fl_4_55 (by first | exact rfl | assumption) (by decide) ?_
  simp (disch := first | exact Nat.ne_of_beq_eq_false rfl | exact rfl | omega) only [nI_add, xa_sub, xa_mul, pk_div, nm_mod, xa_shr, xa_and7, xa_and1, xa_and255, xa_by_and, nI_m1, Nat.add_sub_cancel, Nat.reducePow, Nat.zero_add, Nat.add_zero, Nat.reduceAdd, Nat.reduceMul, Nat.reduceSub, xf_same, xq_ff, xq_fo, xf_1, xf_2, xs_1, xs_2, xs_same, xq_so, xj_1, xj_2, xj_same, xq_jo, xq_sa1, xq_same, xq_other, upd_s, oI_n, oI_s, xv_0, xv_1, xv_2, xv_3, xm_p1, xm_p2, xq_fp, xq_fn, List.filter_nil, Nat.reduceBEq, Bool.not_true, Bool.not_false, Bool.and_true, Bool.and_false, Bool.false_and, Bool.true_and, if_true, if_false, Bool.false_eq_true, reduceIte, xc_i, xc_j, xc_r, xc_n, List.nil_append, List.cons_append, Option.toList_some, Option.toList_none, xf_32_2 hF, xf_22_3 hF, n1, v3, s5, lN_pl, xf_22_0 hF, v2, i2l_n, n2, n3, xf_22_4 hF, v4, xf_32_3 hF]
  refine by_inv4 cn_82 lk_4_152 (by rw [xe_cnt]; decide) is_62 np_62 cn_62 (by first | exact rfl | assumption) (Nat.le_of_ble_eq_true rfl) ?_
  have f1 : Fr mcR mcT h (xm_sf (xm_sf h 32 16 (.long (lN (sp + 1)))) 32 16 (.long (lN (sp + 1 + o)))) := Fr_sf (Fr_sf Fr_rf (by simp [mcT])) (by simp [mcT])
  have F1 := Fr_XF hF f1 mcT_fin
  refine sp_perform (d := d + 1) hbc F1 hnum (by rw [jW_js hnum]; omega) (by rw [jW_jt hnum]; omega) (by omega) (fun h2 f2 b2 => ?_)
  with_reducible refine xm_go_blk b_X4_follow_433 k_X4_follow_433 ?_
  refine by_iconst ci_1 ?_
  refine by_iret ry_82 (by first | rfl | assumption) ?_
  have b2' : mB h2 = mc_wr (mB h) t (jtL num (mc_sh (mB h) f)) := b2
  refine bg_leaf (h := h) (n := n) (t := t) (b := b) (g := g) (s := 1 + o) (sp := sp) (Fr_tr (Fr_tr hf f1 (fun _ z => z) (fun _ z => z)) f2 (by simp [mcR]) (by simp [mcT, jpT])) (Fr_XF F1 f2 (by decide +kernel)) (mSt_fr (h := xm_sf (xm_sf h 32 16 (.long (lN (sp + 1)))) 32 16 (.long (lN (sp + 1 + o)))) ⟨by rw [← s1]; simp [xm_sf, updV], wtS_o s2 (fun _ _ => ⟨rfl, rfl, rfl, rfl, rfl⟩), by rw [← s3]; simp [xm_sf, updV], by rw [← s4]; simp [xm_sf, updV], by rw [show sp + (1 + o) = sp + 1 + o by omega]; simp [xm_sf, updV]⟩ f2 (by simp) (by simp) (by simp) (by simp) (by simp) (by simp [jpT]) (by simp [jpT]) (by simp [jpT]) (by simp [jpT])) b2' (by rw [jtL_len hnum, ht]) hb q5 q6 (fun h' tn' ht' F' f' S' b' o' => hyes _ _ 0 0 rfl h' tn' ht' F' f' S' b' o')
theorem lr_jet0 {n num o : Nat} (hnum : num < 168) (hs : ty_w (ty_js num) ≤ w_s w n) (ht : w_t w n = ty_w (ty_jt num)) : Lr w n (fun u => some (jtL num u, 1 + o, 0, 0)) := by
  refine ⟨fun u u' hu => ?_, fun u a s c g h => ?_⟩
  · simp only [jtL_cg hnum (fun i hi => hu i (by omega))]
  · simp only [Option.some.injEq, Prod.mk.injEq] at h
    obtain ⟨rfl, rfl, rfl, rfl⟩ := h
    exact ⟨by rw [jtL_len hnum, ht], Nat.zero_le _, Nat.zero_le _⟩
end JD
