/-! ===== definitions of jets: those that move by a byte; all of them ===== -/
section CD
variable {sc : xm_Sc}
theorem jd_32 {l : Nat} (hl3 : 3 ≤ l) (hl : l < 7) : JdOK sc 32 l := by
  intro d c m h G post hP hd hF hI hm hp
  have hJ : ∀ j ∈ ([] : List Nat), 11 ≤ pH j := fun j hj => absurd hj (by simp)
  have ho : oj 32 l = bm32 l 8 + 6 := (by decide : ∀ l, l < 7 → 3 ≤ l → oj 32 l = bm32 l 8 + 6) l hl hl3
  rw [ho] at hm hp
  have hsh := pw_sh l hl
  have hw64 := pw_l7 hl
  unfold jPo gJ at hp
  show xm_T (XE sc) (d + 7) 2 _ h post
  obtain ⟨w, hw⟩ : ∃ w, 2 ^ l = w := ⟨_, rfl⟩
  rw [hw] at hsh hw64 hp
  refine xq_in rfl ?_
  simp only [xq_a0, xq_aI, xq_aJ, xq_aR, Nat.reduceAdd]
  have E : cE h G c h G c := cE_rf
  with_reducible refine xm_go_blk b_X0_barrel_0 k_X0_barrel_0 ?_
  refine by_iconst ci_1 ?_
  refine by_iload_n rfl ?_
  refine by_ishl ?_
  refine by_istore_n (by rw [ml_2]; decide) ?_
  refine by_iload_n rfl ?_
  refine by_bipush cb_33 ?_
  refine by_ic_ne 19 rfl ?_
  simp (disch := first | exact Nat.ne_of_beq_eq_false rfl | exact rfl | omega) only [nI_add, xa_sub, xa_mul, pk_div, nm_mod, xa_shr, xa_and7, xa_and1, xa_and255, xa_by_and, nI_m1, Nat.add_sub_cancel, Nat.reducePow, Nat.zero_add, Nat.add_zero, Nat.reduceAdd, Nat.reduceMul, Nat.reduceSub, xf_same, xq_ff, xq_fo, xf_1, xf_2, xs_1, xs_2, xs_same, xq_so, xj_1, xj_2, xj_same, xq_jo, xq_sa1, xq_same, xq_other, upd_s, oI_n, oI_s, xv_0, xv_1, xv_2, xv_3, xm_p1, xm_p2, xq_fp, xq_fn, List.filter_nil, Nat.reduceBEq, Bool.not_true, Bool.not_false, Bool.and_true, Bool.and_false, Bool.false_and, Bool.true_and, if_true, if_false, Bool.false_eq_true, reduceIte, xc_i, xc_j, xc_r, xc_n, List.nil_append, List.cons_append, Option.toList_some, Option.toList_none, nI_ltJ, nI_leJ, nI_eqJ, nI_ltz, nI_gez, nI_gtz, nI_lez, nI_eqz, m1_ltz, m1_gez, true_imp_iff, false_imp_iff, true_and, and_true, ne_eq, not_false_eq_true, not_true_eq_false, Nat.reduceEqDiff, Nat.reduceLT, Nat.reduceLeDiff, hsh]
  with_reducible refine xm_go_blk b_X0_barrel_19 k_X0_barrel_19 ?_
  refine by_aload_n rfl ?_
  refine by_iload_n rfl ?_
  refine by_inv1 cn_2 lk_0_76 (by rw [xe_cnt]; decide) is_18 np_18 cn_18 (by first | exact rfl | assumption) (Nat.le_of_ble_eq_true rfl) ?_
  refine sp_iden hF hI (by omega) (by omega) (fun h1 G1 c1 n1 F1 I1 e1 v1 => ?_)
  replace E := cE_tr E e1
  with_reducible refine xm_go_blk b_X0_barrel_24 k_X0_barrel_24 ?_
  refine by_istore (by rw [ml_2]; decide) ?_
  refine by_iload_n rfl ?_
  refine by_bipush cb_32 ?_
  refine by_ic_ne 41 rfl ?_
  simp (disch := first | exact Nat.ne_of_beq_eq_false rfl | exact rfl | omega) only [nI_add, xa_sub, xa_mul, pk_div, nm_mod, xa_shr, xa_and7, xa_and1, xa_and255, xa_by_and, nI_m1, Nat.add_sub_cancel, Nat.reducePow, Nat.zero_add, Nat.add_zero, Nat.reduceAdd, Nat.reduceMul, Nat.reduceSub, xf_same, xq_ff, xq_fo, xf_1, xf_2, xs_1, xs_2, xs_same, xq_so, xj_1, xj_2, xj_same, xq_jo, xq_sa1, xq_same, xq_other, upd_s, oI_n, oI_s, xv_0, xv_1, xv_2, xv_3, xm_p1, xm_p2, xq_fp, xq_fn, List.filter_nil, Nat.reduceBEq, Bool.not_true, Bool.not_false, Bool.and_true, Bool.and_false, Bool.false_and, Bool.true_and, if_true, if_false, Bool.false_eq_true, reduceIte, xc_i, xc_j, xc_r, xc_n, List.nil_append, List.cons_append, Option.toList_some, Option.toList_none, nI_ltJ, nI_leJ, nI_eqJ, nI_ltz, nI_gez, nI_gtz, nI_lez, nI_eqz, m1_ltz, m1_gez, true_imp_iff, false_imp_iff, true_and, and_true, ne_eq, not_false_eq_true, not_true_eq_false, Nat.reduceEqDiff, Nat.reduceLT, Nat.reduceLeDiff, hsh]
  with_reducible refine xm_go_blk b_X0_barrel_32 k_X0_barrel_32 ?_
  refine by_aload_n rfl ?_
  refine by_iload_n rfl ?_
  refine by_iload_n rfl ?_
  refine by_inv2 cn_2 lk_0_89 (by rw [xe_cnt]; decide) is_38 np_38 cn_38 (by first | exact rfl | assumption) (Nat.le_of_ble_eq_true rfl) ?_
  refine sp_zeros hP (by omega) (by omega) hJ (by omega) F1 I1 (by omega) (by omega) (fun h2 G2 c2 n2 F2 I2 e2 v2 => ?_)
  replace v1 := nG_up v1 e2
  replace E := cE_tr E e2
  with_reducible refine xm_go_blk b_X0_barrel_38 k_X0_barrel_38 ?_
  refine by_goto 46 rfl ?_
  with_reducible refine xm_go_blk b_X0_barrel_46 k_X0_barrel_46 ?_
  refine by_istore (by rw [ml_2]; decide) ?_
  refine by_aload_n rfl ?_
  refine by_bipush cb_8 ?_
  refine by_iload_n rfl ?_
  refine by_iadd ?_
  simp (disch := first | exact Nat.ne_of_beq_eq_false rfl | exact rfl | omega) only [nI_add, xa_sub, xa_mul, pk_div, nm_mod, xa_shr, xa_and7, xa_and1, xa_and255, xa_by_and, nI_m1, Nat.add_sub_cancel, Nat.reducePow, Nat.zero_add, Nat.add_zero, Nat.reduceAdd, Nat.reduceMul, Nat.reduceSub, xf_same, xq_ff, xq_fo, xf_1, xf_2, xs_1, xs_2, xs_same, xq_so, xj_1, xj_2, xj_same, xq_jo, xq_sa1, xq_same, xq_other, upd_s, oI_n, oI_s, xv_0, xv_1, xv_2, xv_3, xm_p1, xm_p2, xq_fp, xq_fn, List.filter_nil, Nat.reduceBEq, Bool.not_true, Bool.not_false, Bool.and_true, Bool.and_false, Bool.false_and, Bool.true_and, if_true, if_false, Bool.false_eq_true, reduceIte, xc_i, xc_j, xc_r, xc_n, List.nil_append, List.cons_append, Option.toList_some, Option.toList_none, hsh]
  refine by_inv1 cn_2 lk_0_76 (by rw [xe_cnt]; decide) is_18 np_18 cn_18 (by first | exact rfl | assumption) (Nat.le_of_ble_eq_true rfl) ?_
  refine sp_iden F2 I2 (by omega) (by omega) (fun h3 G3 c3 n3 F3 I3 e3 v3 => ?_)
  replace v1 := nG_up v1 e3
  replace v2 := nG_up v2 e3
  replace E := cE_tr E e3
  with_reducible refine xm_go_blk b_X0_barrel_56 k_X0_barrel_56 ?_
  refine by_istore (by rw [ml_2]; decide) ?_
  refine by_iconst ci_0 ?_
  refine by_istore (by rw [ml_2]; decide) ?_
  refine by_nil ?_
  try simp (disch := first | exact Nat.ne_of_beq_eq_false rfl | exact rfl | omega) only [nI_add, xa_sub, xa_mul, pk_div, nm_mod, xa_shr, xa_and7, xa_and1, xa_and255, xa_by_and, nI_m1, Nat.add_sub_cancel, Nat.reducePow, Nat.zero_add, Nat.add_zero, Nat.reduceAdd, Nat.reduceMul, Nat.reduceSub, xf_same, xq_ff, xq_fo, xf_1, xf_2, xs_1, xs_2, xs_same, xq_so, xj_1, xj_2, xj_same, xq_jo, xq_sa1, xq_same, xq_other, upd_s, oI_n, oI_s, xv_0, xv_1, xv_2, xv_3, xm_p1, xm_p2, xq_fp, xq_fn, List.filter_nil, Nat.reduceBEq, Bool.not_true, Bool.not_false, Bool.and_true, Bool.and_false, Bool.false_and, Bool.true_and, if_true, if_false, Bool.false_eq_true, reduceIte, xc_i, xc_j, xc_r, xc_n, List.nil_append, List.cons_append, Option.toList_some, Option.toList_none, hsh]
  refine xm_go_wk (by simp [Value.category]) (br_32 (f := fun x => x) hl3 hl hw hP hd 8 0 _ (m + 3) _ _ _ h3 G3 rfl F3 (cI_mono I3 (by omega) (by omega)) (by omega) v1 (nG_cg v2 (by omega) (by omega) (fun _ _ => by rw [hw]) (qle_rf _)) (nG_cg v3 (by omega) (by omega) (fun _ _ => rfl) (qle_rf _)) (fun b x _ _ => rfl) (fun F hF' h' G' c' n' k1 k2 k3 k4 => hp h' G' c' n' k1 (cI_mono k2 (by omega) hm) (cE_tr E k3) ⟨F, nG_cg k4 rfl rfl (fun _ _ => rfl) ?_, jsp_10 rfl ?_⟩))
  · subst hw
    rcases (by omega : l = 3 ∨ l = 4 ∨ l = 5 ∨ l = 6) with rfl | rfl | rfl | rfl <;> decide
  · intro b x hb hx
    rw [hF' b x hb hx]
    show _ = bbits w (if w ≤ bnum b then 0 else bnum x * 2 ^ bnum b)
    exact br_32' hw hb hx
theorem jd_33 {l : Nat} (hl3 : 3 ≤ l) (hl : l < 7) : JdOK sc 33 l := by
  intro d c m h G post hP hd hF hI hm hp
  have hJ : ∀ j ∈ ([] : List Nat), 11 ≤ pH j := fun j hj => absurd hj (by simp)
  have ho : oj 33 l = bm33 l 8 + 6 := (by decide : ∀ l, l < 7 → 3 ≤ l → oj 33 l = bm33 l 8 + 6) l hl hl3
  rw [ho] at hm hp
  have hsh := pw_sh l hl
  have hw64 := pw_l7 hl
  unfold jPo gJ at hp
  show xm_T (XE sc) (d + 7) 2 _ h post
  obtain ⟨w, hw⟩ : ∃ w, 2 ^ l = w := ⟨_, rfl⟩
  rw [hw] at hsh hw64 hp
  refine xq_in rfl ?_
  simp only [xq_a0, xq_aI, xq_aJ, xq_aR, Nat.reduceAdd]
  have E : cE h G c h G c := cE_rf
  with_reducible refine xm_go_blk b_X0_barrel_0 k_X0_barrel_0 ?_
  refine by_iconst ci_1 ?_
  refine by_iload_n rfl ?_
  refine by_ishl ?_
  refine by_istore_n (by rw [ml_2]; decide) ?_
  refine by_iload_n rfl ?_
  refine by_bipush cb_33 ?_
  refine by_ic_ne 19 rfl ?_
  simp (disch := first | exact Nat.ne_of_beq_eq_false rfl | exact rfl | omega) only [nI_add, xa_sub, xa_mul, pk_div, nm_mod, xa_shr, xa_and7, xa_and1, xa_and255, xa_by_and, nI_m1, Nat.add_sub_cancel, Nat.reducePow, Nat.zero_add, Nat.add_zero, Nat.reduceAdd, Nat.reduceMul, Nat.reduceSub, xf_same, xq_ff, xq_fo, xf_1, xf_2, xs_1, xs_2, xs_same, xq_so, xj_1, xj_2, xj_same, xq_jo, xq_sa1, xq_same, xq_other, upd_s, oI_n, oI_s, xv_0, xv_1, xv_2, xv_3, xm_p1, xm_p2, xq_fp, xq_fn, List.filter_nil, Nat.reduceBEq, Bool.not_true, Bool.not_false, Bool.and_true, Bool.and_false, Bool.false_and, Bool.true_and, if_true, if_false, Bool.false_eq_true, reduceIte, xc_i, xc_j, xc_r, xc_n, List.nil_append, List.cons_append, Option.toList_some, Option.toList_none, nI_ltJ, nI_leJ, nI_eqJ, nI_ltz, nI_gez, nI_gtz, nI_lez, nI_eqz, m1_ltz, m1_gez, true_imp_iff, false_imp_iff, true_and, and_true, ne_eq, not_false_eq_true, not_true_eq_false, Nat.reduceEqDiff, Nat.reduceLT, Nat.reduceLeDiff, hsh]
  with_reducible refine xm_go_blk b_X0_barrel_10 k_X0_barrel_10 ?_
  refine by_aload_n rfl ?_
  refine by_iload_n rfl ?_
  refine by_iload_n rfl ?_
  refine by_inv2 cn_2 lk_0_89 (by rw [xe_cnt]; decide) is_38 np_38 cn_38 (by first | exact rfl | assumption) (Nat.le_of_ble_eq_true rfl) ?_
  refine sp_zeros hP (by omega) (by omega) hJ (by omega) hF hI (by omega) (by omega) (fun h1 G1 c1 n1 F1 I1 e1 v1 => ?_)
  replace E := cE_tr E e1
  with_reducible refine xm_go_blk b_X0_barrel_16 k_X0_barrel_16 ?_
  refine by_goto 24 rfl ?_
  with_reducible refine xm_go_blk b_X0_barrel_24 k_X0_barrel_24 ?_
  refine by_istore (by rw [ml_2]; decide) ?_
  refine by_iload_n rfl ?_
  refine by_bipush cb_32 ?_
  refine by_ic_ne 41 rfl ?_
  simp (disch := first | exact Nat.ne_of_beq_eq_false rfl | exact rfl | omega) only [nI_add, xa_sub, xa_mul, pk_div, nm_mod, xa_shr, xa_and7, xa_and1, xa_and255, xa_by_and, nI_m1, Nat.add_sub_cancel, Nat.reducePow, Nat.zero_add, Nat.add_zero, Nat.reduceAdd, Nat.reduceMul, Nat.reduceSub, xf_same, xq_ff, xq_fo, xf_1, xf_2, xs_1, xs_2, xs_same, xq_so, xj_1, xj_2, xj_same, xq_jo, xq_sa1, xq_same, xq_other, upd_s, oI_n, oI_s, xv_0, xv_1, xv_2, xv_3, xm_p1, xm_p2, xq_fp, xq_fn, List.filter_nil, Nat.reduceBEq, Bool.not_true, Bool.not_false, Bool.and_true, Bool.and_false, Bool.false_and, Bool.true_and, if_true, if_false, Bool.false_eq_true, reduceIte, xc_i, xc_j, xc_r, xc_n, List.nil_append, List.cons_append, Option.toList_some, Option.toList_none, nI_ltJ, nI_leJ, nI_eqJ, nI_ltz, nI_gez, nI_gtz, nI_lez, nI_eqz, m1_ltz, m1_gez, true_imp_iff, false_imp_iff, true_and, and_true, ne_eq, not_false_eq_true, not_true_eq_false, Nat.reduceEqDiff, Nat.reduceLT, Nat.reduceLeDiff, hsh]
  with_reducible refine xm_go_blk b_X0_barrel_41 k_X0_barrel_41 ?_
  refine by_aload_n rfl ?_
  refine by_iload_n rfl ?_
  refine by_inv1 cn_2 lk_0_76 (by rw [xe_cnt]; decide) is_18 np_18 cn_18 (by first | exact rfl | assumption) (Nat.le_of_ble_eq_true rfl) ?_
  refine sp_iden F1 I1 (by omega) (by omega) (fun h2 G2 c2 n2 F2 I2 e2 v2 => ?_)
  replace v1 := nG_up v1 e2
  replace E := cE_tr E e2
  with_reducible refine xm_go_blk b_X0_barrel_46 k_X0_barrel_46 ?_
  refine by_istore (by rw [ml_2]; decide) ?_
  refine by_aload_n rfl ?_
  refine by_bipush cb_8 ?_
  refine by_iload_n rfl ?_
  refine by_iadd ?_
  simp (disch := first | exact Nat.ne_of_beq_eq_false rfl | exact rfl | omega) only [nI_add, xa_sub, xa_mul, pk_div, nm_mod, xa_shr, xa_and7, xa_and1, xa_and255, xa_by_and, nI_m1, Nat.add_sub_cancel, Nat.reducePow, Nat.zero_add, Nat.add_zero, Nat.reduceAdd, Nat.reduceMul, Nat.reduceSub, xf_same, xq_ff, xq_fo, xf_1, xf_2, xs_1, xs_2, xs_same, xq_so, xj_1, xj_2, xj_same, xq_jo, xq_sa1, xq_same, xq_other, upd_s, oI_n, oI_s, xv_0, xv_1, xv_2, xv_3, xm_p1, xm_p2, xq_fp, xq_fn, List.filter_nil, Nat.reduceBEq, Bool.not_true, Bool.not_false, Bool.and_true, Bool.and_false, Bool.false_and, Bool.true_and, if_true, if_false, Bool.false_eq_true, reduceIte, xc_i, xc_j, xc_r, xc_n, List.nil_append, List.cons_append, Option.toList_some, Option.toList_none, hsh]
  refine by_inv1 cn_2 lk_0_76 (by rw [xe_cnt]; decide) is_18 np_18 cn_18 (by first | exact rfl | assumption) (Nat.le_of_ble_eq_true rfl) ?_
  refine sp_iden F2 I2 (by omega) (by omega) (fun h3 G3 c3 n3 F3 I3 e3 v3 => ?_)
  replace v1 := nG_up v1 e3
  replace v2 := nG_up v2 e3
  replace E := cE_tr E e3
  with_reducible refine xm_go_blk b_X0_barrel_56 k_X0_barrel_56 ?_
  refine by_istore (by rw [ml_2]; decide) ?_
  refine by_iconst ci_0 ?_
  refine by_istore (by rw [ml_2]; decide) ?_
  refine by_nil ?_
  try simp (disch := first | exact Nat.ne_of_beq_eq_false rfl | exact rfl | omega) only [nI_add, xa_sub, xa_mul, pk_div, nm_mod, xa_shr, xa_and7, xa_and1, xa_and255, xa_by_and, nI_m1, Nat.add_sub_cancel, Nat.reducePow, Nat.zero_add, Nat.add_zero, Nat.reduceAdd, Nat.reduceMul, Nat.reduceSub, xf_same, xq_ff, xq_fo, xf_1, xf_2, xs_1, xs_2, xs_same, xq_so, xj_1, xj_2, xj_same, xq_jo, xq_sa1, xq_same, xq_other, upd_s, oI_n, oI_s, xv_0, xv_1, xv_2, xv_3, xm_p1, xm_p2, xq_fp, xq_fn, List.filter_nil, Nat.reduceBEq, Bool.not_true, Bool.not_false, Bool.and_true, Bool.and_false, Bool.false_and, Bool.true_and, if_true, if_false, Bool.false_eq_true, reduceIte, xc_i, xc_j, xc_r, xc_n, List.nil_append, List.cons_append, Option.toList_some, Option.toList_none, hsh]
  refine xm_go_wk (by simp [Value.category]) (br_33 (f := fun x => x) hl3 hl hw hP hd 8 0 _ (m + 3) _ _ _ h3 G3 rfl F3 (cI_mono I3 (by omega) (by omega)) (by omega) (nG_cg v1 (by omega) (by omega) (fun _ _ => by rw [hw]) (qle_rf _)) v2 (nG_cg v3 (by omega) (by omega) (fun _ _ => rfl) (qle_rf _)) (fun b x _ _ => rfl) (fun F hF' h' G' c' n' k1 k2 k3 k4 => hp h' G' c' n' k1 (cI_mono k2 (by omega) hm) (cE_tr E k3) ⟨F, nG_cg k4 rfl rfl (fun _ _ => rfl) ?_, jsp_10 rfl ?_⟩))
  · subst hw
    rcases (by omega : l = 3 ∨ l = 4 ∨ l = 5 ∨ l = 6) with rfl | rfl | rfl | rfl <;> decide
  · intro b x hb hx
    rw [hF' b x hb hx]
    show _ = bbits w (if w ≤ bnum b then 0 else bnum x / 2 ^ bnum b)
    exact br_33' hw hb hx
theorem jd_34 {l : Nat} (hl3 : 3 ≤ l) (hl : l < 7) : JdOK sc 34 l := by
  intro d c m h G post hP hd hF hI hm hp
  have hJ : ∀ j ∈ ([] : List Nat), 11 ≤ pH j := fun j hj => absurd hj (by simp)
  have ho : oj 34 l = bm34 l 8 + 6 := (by decide : ∀ l, l < 7 → 3 ≤ l → oj 34 l = bm34 l 8 + 6) l hl hl3
  rw [ho] at hm hp
  have hsh := pw_sh l hl
  have hw64 := pw_l7 hl
  unfold jPo gJ at hp
  show xm_T (XE sc) (d + 7) 2 _ h post
  obtain ⟨w, hw⟩ : ∃ w, 2 ^ l = w := ⟨_, rfl⟩
  rw [hw] at hsh hw64 hp
  refine xq_in rfl ?_
  simp only [xq_a0, xq_aI, xq_aJ, xq_aR, Nat.reduceAdd]
  have E : cE h G c h G c := cE_rf
  with_reducible refine xm_go_blk b_X0_barrel_0 k_X0_barrel_0 ?_
  refine by_iconst ci_1 ?_
  refine by_iload_n rfl ?_
  refine by_ishl ?_
  refine by_istore_n (by rw [ml_2]; decide) ?_
  refine by_iload_n rfl ?_
  refine by_bipush cb_33 ?_
  refine by_ic_ne 19 rfl ?_
  simp (disch := first | exact Nat.ne_of_beq_eq_false rfl | exact rfl | omega) only [nI_add, xa_sub, xa_mul, pk_div, nm_mod, xa_shr, xa_and7, xa_and1, xa_and255, xa_by_and, nI_m1, Nat.add_sub_cancel, Nat.reducePow, Nat.zero_add, Nat.add_zero, Nat.reduceAdd, Nat.reduceMul, Nat.reduceSub, xf_same, xq_ff, xq_fo, xf_1, xf_2, xs_1, xs_2, xs_same, xq_so, xj_1, xj_2, xj_same, xq_jo, xq_sa1, xq_same, xq_other, upd_s, oI_n, oI_s, xv_0, xv_1, xv_2, xv_3, xm_p1, xm_p2, xq_fp, xq_fn, List.filter_nil, Nat.reduceBEq, Bool.not_true, Bool.not_false, Bool.and_true, Bool.and_false, Bool.false_and, Bool.true_and, if_true, if_false, Bool.false_eq_true, reduceIte, xc_i, xc_j, xc_r, xc_n, List.nil_append, List.cons_append, Option.toList_some, Option.toList_none, nI_ltJ, nI_leJ, nI_eqJ, nI_ltz, nI_gez, nI_gtz, nI_lez, nI_eqz, m1_ltz, m1_gez, true_imp_iff, false_imp_iff, true_and, and_true, ne_eq, not_false_eq_true, not_true_eq_false, Nat.reduceEqDiff, Nat.reduceLT, Nat.reduceLeDiff, hsh]
  with_reducible refine xm_go_blk b_X0_barrel_19 k_X0_barrel_19 ?_
  refine by_aload_n rfl ?_
  refine by_iload_n rfl ?_
  refine by_inv1 cn_2 lk_0_76 (by rw [xe_cnt]; decide) is_18 np_18 cn_18 (by first | exact rfl | assumption) (Nat.le_of_ble_eq_true rfl) ?_
  refine sp_iden hF hI (by omega) (by omega) (fun h1 G1 c1 n1 F1 I1 e1 v1 => ?_)
  replace E := cE_tr E e1
  with_reducible refine xm_go_blk b_X0_barrel_24 k_X0_barrel_24 ?_
  refine by_istore (by rw [ml_2]; decide) ?_
  refine by_iload_n rfl ?_
  refine by_bipush cb_32 ?_
  refine by_ic_ne 41 rfl ?_
  simp (disch := first | exact Nat.ne_of_beq_eq_false rfl | exact rfl | omega) only [nI_add, xa_sub, xa_mul, pk_div, nm_mod, xa_shr, xa_and7, xa_and1, xa_and255, xa_by_and, nI_m1, Nat.add_sub_cancel, Nat.reducePow, Nat.zero_add, Nat.add_zero, Nat.reduceAdd, Nat.reduceMul, Nat.reduceSub, xf_same, xq_ff, xq_fo, xf_1, xf_2, xs_1, xs_2, xs_same, xq_so, xj_1, xj_2, xj_same, xq_jo, xq_sa1, xq_same, xq_other, upd_s, oI_n, oI_s, xv_0, xv_1, xv_2, xv_3, xm_p1, xm_p2, xq_fp, xq_fn, List.filter_nil, Nat.reduceBEq, Bool.not_true, Bool.not_false, Bool.and_true, Bool.and_false, Bool.false_and, Bool.true_and, if_true, if_false, Bool.false_eq_true, reduceIte, xc_i, xc_j, xc_r, xc_n, List.nil_append, List.cons_append, Option.toList_some, Option.toList_none, nI_ltJ, nI_leJ, nI_eqJ, nI_ltz, nI_gez, nI_gtz, nI_lez, nI_eqz, m1_ltz, m1_gez, true_imp_iff, false_imp_iff, true_and, and_true, ne_eq, not_false_eq_true, not_true_eq_false, Nat.reduceEqDiff, Nat.reduceLT, Nat.reduceLeDiff, hsh]
  with_reducible refine xm_go_blk b_X0_barrel_41 k_X0_barrel_41 ?_
  refine by_aload_n rfl ?_
  refine by_iload_n rfl ?_
  refine by_inv1 cn_2 lk_0_76 (by rw [xe_cnt]; decide) is_18 np_18 cn_18 (by first | exact rfl | assumption) (Nat.le_of_ble_eq_true rfl) ?_
  refine sp_iden F1 I1 (by omega) (by omega) (fun h2 G2 c2 n2 F2 I2 e2 v2 => ?_)
  replace v1 := nG_up v1 e2
  replace E := cE_tr E e2
  with_reducible refine xm_go_blk b_X0_barrel_46 k_X0_barrel_46 ?_
  refine by_istore (by rw [ml_2]; decide) ?_
  refine by_aload_n rfl ?_
  refine by_bipush cb_8 ?_
  refine by_iload_n rfl ?_
  refine by_iadd ?_
  simp (disch := first | exact Nat.ne_of_beq_eq_false rfl | exact rfl | omega) only [nI_add, xa_sub, xa_mul, pk_div, nm_mod, xa_shr, xa_and7, xa_and1, xa_and255, xa_by_and, nI_m1, Nat.add_sub_cancel, Nat.reducePow, Nat.zero_add, Nat.add_zero, Nat.reduceAdd, Nat.reduceMul, Nat.reduceSub, xf_same, xq_ff, xq_fo, xf_1, xf_2, xs_1, xs_2, xs_same, xq_so, xj_1, xj_2, xj_same, xq_jo, xq_sa1, xq_same, xq_other, upd_s, oI_n, oI_s, xv_0, xv_1, xv_2, xv_3, xm_p1, xm_p2, xq_fp, xq_fn, List.filter_nil, Nat.reduceBEq, Bool.not_true, Bool.not_false, Bool.and_true, Bool.and_false, Bool.false_and, Bool.true_and, if_true, if_false, Bool.false_eq_true, reduceIte, xc_i, xc_j, xc_r, xc_n, List.nil_append, List.cons_append, Option.toList_some, Option.toList_none, hsh]
  refine by_inv1 cn_2 lk_0_76 (by rw [xe_cnt]; decide) is_18 np_18 cn_18 (by first | exact rfl | assumption) (Nat.le_of_ble_eq_true rfl) ?_
  refine sp_iden F2 I2 (by omega) (by omega) (fun h3 G3 c3 n3 F3 I3 e3 v3 => ?_)
  replace v1 := nG_up v1 e3
  replace v2 := nG_up v2 e3
  replace E := cE_tr E e3
  with_reducible refine xm_go_blk b_X0_barrel_56 k_X0_barrel_56 ?_
  refine by_istore (by rw [ml_2]; decide) ?_
  refine by_iconst ci_0 ?_
  refine by_istore (by rw [ml_2]; decide) ?_
  refine by_nil ?_
  try simp (disch := first | exact Nat.ne_of_beq_eq_false rfl | exact rfl | omega) only [nI_add, xa_sub, xa_mul, pk_div, nm_mod, xa_shr, xa_and7, xa_and1, xa_and255, xa_by_and, nI_m1, Nat.add_sub_cancel, Nat.reducePow, Nat.zero_add, Nat.add_zero, Nat.reduceAdd, Nat.reduceMul, Nat.reduceSub, xf_same, xq_ff, xq_fo, xf_1, xf_2, xs_1, xs_2, xs_same, xq_so, xj_1, xj_2, xj_same, xq_jo, xq_sa1, xq_same, xq_other, upd_s, oI_n, oI_s, xv_0, xv_1, xv_2, xv_3, xm_p1, xm_p2, xq_fp, xq_fn, List.filter_nil, Nat.reduceBEq, Bool.not_true, Bool.not_false, Bool.and_true, Bool.and_false, Bool.false_and, Bool.true_and, if_true, if_false, Bool.false_eq_true, reduceIte, xc_i, xc_j, xc_r, xc_n, List.nil_append, List.cons_append, Option.toList_some, Option.toList_none, hsh]
  refine xm_go_wk (by simp [Value.category]) (br_34 (f := fun x => x) hl3 hl hw hP hd 8 0 _ (m + 3) _ _ _ h3 G3 rfl F3 (cI_mono I3 (by omega) (by omega)) (by omega) v1 v2 (nG_cg v3 (by omega) (by omega) (fun _ _ => rfl) (qle_rf _)) (fun b x _ _ => rfl) (fun F hF' h' G' c' n' k1 k2 k3 k4 => hp h' G' c' n' k1 (cI_mono k2 (by omega) hm) (cE_tr E k3) ⟨F, nG_cg k4 rfl rfl (fun _ _ => rfl) ?_, jsp_10 rfl ?_⟩))
  · subst hw
    rcases (by omega : l = 3 ∨ l = 4 ∨ l = 5 ∨ l = 6) with rfl | rfl | rfl | rfl <;> decide
  · intro b x hb hx
    rw [hF' b x hb hx]
    show _ = bbits w (bnum x * 2 ^ (bnum b % w) + bnum x / 2 ^ (w - bnum b % w))
    exact br_34' hw (by omega) hb hx
theorem jd_35 {l : Nat} (hl3 : 3 ≤ l) (hl : l < 7) : JdOK sc 35 l := by
  intro d c m h G post hP hd hF hI hm hp
  have hJ : ∀ j ∈ ([] : List Nat), 11 ≤ pH j := fun j hj => absurd hj (by simp)
  have ho : oj 35 l = bm35 l 8 + 6 := (by decide : ∀ l, l < 7 → 3 ≤ l → oj 35 l = bm35 l 8 + 6) l hl hl3
  rw [ho] at hm hp
  have hsh := pw_sh l hl
  have hw64 := pw_l7 hl
  unfold jPo gJ at hp
  show xm_T (XE sc) (d + 7) 2 _ h post
  obtain ⟨w, hw⟩ : ∃ w, 2 ^ l = w := ⟨_, rfl⟩
  rw [hw] at hsh hw64 hp
  refine xq_in rfl ?_
  simp only [xq_a0, xq_aI, xq_aJ, xq_aR, Nat.reduceAdd]
  have E : cE h G c h G c := cE_rf
  with_reducible refine xm_go_blk b_X0_barrel_0 k_X0_barrel_0 ?_
  refine by_iconst ci_1 ?_
  refine by_iload_n rfl ?_
  refine by_ishl ?_
  refine by_istore_n (by rw [ml_2]; decide) ?_
  refine by_iload_n rfl ?_
  refine by_bipush cb_33 ?_
  refine by_ic_ne 19 rfl ?_
  simp (disch := first | exact Nat.ne_of_beq_eq_false rfl | exact rfl | omega) only [nI_add, xa_sub, xa_mul, pk_div, nm_mod, xa_shr, xa_and7, xa_and1, xa_and255, xa_by_and, nI_m1, Nat.add_sub_cancel, Nat.reducePow, Nat.zero_add, Nat.add_zero, Nat.reduceAdd, Nat.reduceMul, Nat.reduceSub, xf_same, xq_ff, xq_fo, xf_1, xf_2, xs_1, xs_2, xs_same, xq_so, xj_1, xj_2, xj_same, xq_jo, xq_sa1, xq_same, xq_other, upd_s, oI_n, oI_s, xv_0, xv_1, xv_2, xv_3, xm_p1, xm_p2, xq_fp, xq_fn, List.filter_nil, Nat.reduceBEq, Bool.not_true, Bool.not_false, Bool.and_true, Bool.and_false, Bool.false_and, Bool.true_and, if_true, if_false, Bool.false_eq_true, reduceIte, xc_i, xc_j, xc_r, xc_n, List.nil_append, List.cons_append, Option.toList_some, Option.toList_none, nI_ltJ, nI_leJ, nI_eqJ, nI_ltz, nI_gez, nI_gtz, nI_lez, nI_eqz, m1_ltz, m1_gez, true_imp_iff, false_imp_iff, true_and, and_true, ne_eq, not_false_eq_true, not_true_eq_false, Nat.reduceEqDiff, Nat.reduceLT, Nat.reduceLeDiff, hsh]
  with_reducible refine xm_go_blk b_X0_barrel_19 k_X0_barrel_19 ?_
  refine by_aload_n rfl ?_
  refine by_iload_n rfl ?_
  refine by_inv1 cn_2 lk_0_76 (by rw [xe_cnt]; decide) is_18 np_18 cn_18 (by first | exact rfl | assumption) (Nat.le_of_ble_eq_true rfl) ?_
  refine sp_iden hF hI (by omega) (by omega) (fun h1 G1 c1 n1 F1 I1 e1 v1 => ?_)
  replace E := cE_tr E e1
  with_reducible refine xm_go_blk b_X0_barrel_24 k_X0_barrel_24 ?_
  refine by_istore (by rw [ml_2]; decide) ?_
  refine by_iload_n rfl ?_
  refine by_bipush cb_32 ?_
  refine by_ic_ne 41 rfl ?_
  simp (disch := first | exact Nat.ne_of_beq_eq_false rfl | exact rfl | omega) only [nI_add, xa_sub, xa_mul, pk_div, nm_mod, xa_shr, xa_and7, xa_and1, xa_and255, xa_by_and, nI_m1, Nat.add_sub_cancel, Nat.reducePow, Nat.zero_add, Nat.add_zero, Nat.reduceAdd, Nat.reduceMul, Nat.reduceSub, xf_same, xq_ff, xq_fo, xf_1, xf_2, xs_1, xs_2, xs_same, xq_so, xj_1, xj_2, xj_same, xq_jo, xq_sa1, xq_same, xq_other, upd_s, oI_n, oI_s, xv_0, xv_1, xv_2, xv_3, xm_p1, xm_p2, xq_fp, xq_fn, List.filter_nil, Nat.reduceBEq, Bool.not_true, Bool.not_false, Bool.and_true, Bool.and_false, Bool.false_and, Bool.true_and, if_true, if_false, Bool.false_eq_true, reduceIte, xc_i, xc_j, xc_r, xc_n, List.nil_append, List.cons_append, Option.toList_some, Option.toList_none, nI_ltJ, nI_leJ, nI_eqJ, nI_ltz, nI_gez, nI_gtz, nI_lez, nI_eqz, m1_ltz, m1_gez, true_imp_iff, false_imp_iff, true_and, and_true, ne_eq, not_false_eq_true, not_true_eq_false, Nat.reduceEqDiff, Nat.reduceLT, Nat.reduceLeDiff, hsh]
  with_reducible refine xm_go_blk b_X0_barrel_41 k_X0_barrel_41 ?_
  refine by_aload_n rfl ?_
  refine by_iload_n rfl ?_
  refine by_inv1 cn_2 lk_0_76 (by rw [xe_cnt]; decide) is_18 np_18 cn_18 (by first | exact rfl | assumption) (Nat.le_of_ble_eq_true rfl) ?_
  refine sp_iden F1 I1 (by omega) (by omega) (fun h2 G2 c2 n2 F2 I2 e2 v2 => ?_)
  replace v1 := nG_up v1 e2
  replace E := cE_tr E e2
  with_reducible refine xm_go_blk b_X0_barrel_46 k_X0_barrel_46 ?_
  refine by_istore (by rw [ml_2]; decide) ?_
  refine by_aload_n rfl ?_
  refine by_bipush cb_8 ?_
  refine by_iload_n rfl ?_
  refine by_iadd ?_
  simp (disch := first | exact Nat.ne_of_beq_eq_false rfl | exact rfl | omega) only [nI_add, xa_sub, xa_mul, pk_div, nm_mod, xa_shr, xa_and7, xa_and1, xa_and255, xa_by_and, nI_m1, Nat.add_sub_cancel, Nat.reducePow, Nat.zero_add, Nat.add_zero, Nat.reduceAdd, Nat.reduceMul, Nat.reduceSub, xf_same, xq_ff, xq_fo, xf_1, xf_2, xs_1, xs_2, xs_same, xq_so, xj_1, xj_2, xj_same, xq_jo, xq_sa1, xq_same, xq_other, upd_s, oI_n, oI_s, xv_0, xv_1, xv_2, xv_3, xm_p1, xm_p2, xq_fp, xq_fn, List.filter_nil, Nat.reduceBEq, Bool.not_true, Bool.not_false, Bool.and_true, Bool.and_false, Bool.false_and, Bool.true_and, if_true, if_false, Bool.false_eq_true, reduceIte, xc_i, xc_j, xc_r, xc_n, List.nil_append, List.cons_append, Option.toList_some, Option.toList_none, hsh]
  refine by_inv1 cn_2 lk_0_76 (by rw [xe_cnt]; decide) is_18 np_18 cn_18 (by first | exact rfl | assumption) (Nat.le_of_ble_eq_true rfl) ?_
  refine sp_iden F2 I2 (by omega) (by omega) (fun h3 G3 c3 n3 F3 I3 e3 v3 => ?_)
  replace v1 := nG_up v1 e3
  replace v2 := nG_up v2 e3
  replace E := cE_tr E e3
  with_reducible refine xm_go_blk b_X0_barrel_56 k_X0_barrel_56 ?_
  refine by_istore (by rw [ml_2]; decide) ?_
  refine by_iconst ci_0 ?_
  refine by_istore (by rw [ml_2]; decide) ?_
  refine by_nil ?_
  try simp (disch := first | exact Nat.ne_of_beq_eq_false rfl | exact rfl | omega) only [nI_add, xa_sub, xa_mul, pk_div, nm_mod, xa_shr, xa_and7, xa_and1, xa_and255, xa_by_and, nI_m1, Nat.add_sub_cancel, Nat.reducePow, Nat.zero_add, Nat.add_zero, Nat.reduceAdd, Nat.reduceMul, Nat.reduceSub, xf_same, xq_ff, xq_fo, xf_1, xf_2, xs_1, xs_2, xs_same, xq_so, xj_1, xj_2, xj_same, xq_jo, xq_sa1, xq_same, xq_other, upd_s, oI_n, oI_s, xv_0, xv_1, xv_2, xv_3, xm_p1, xm_p2, xq_fp, xq_fn, List.filter_nil, Nat.reduceBEq, Bool.not_true, Bool.not_false, Bool.and_true, Bool.and_false, Bool.false_and, Bool.true_and, if_true, if_false, Bool.false_eq_true, reduceIte, xc_i, xc_j, xc_r, xc_n, List.nil_append, List.cons_append, Option.toList_some, Option.toList_none, hsh]
  refine xm_go_wk (by simp [Value.category]) (br_35 (f := fun x => x) hl3 hl hw hP hd 8 0 _ (m + 3) _ _ _ h3 G3 rfl F3 (cI_mono I3 (by omega) (by omega)) (by omega) v1 v2 (nG_cg v3 (by omega) (by omega) (fun _ _ => rfl) (qle_rf _)) (fun b x _ _ => rfl) (fun F hF' h' G' c' n' k1 k2 k3 k4 => hp h' G' c' n' k1 (cI_mono k2 (by omega) hm) (cE_tr E k3) ⟨F, nG_cg k4 rfl rfl (fun _ _ => rfl) ?_, jsp_10 rfl ?_⟩))
  · subst hw
    rcases (by omega : l = 3 ∨ l = 4 ∨ l = 5 ∨ l = 6) with rfl | rfl | rfl | rfl <;> decide
  · intro b x hb hx
    rw [hF' b x hb hx]
    show _ = bbits w (bnum x / 2 ^ (bnum b % w) + bnum x * 2 ^ (w - bnum b % w))
    exact br_35' hw (by omega) hb hx
theorem jd_all {k l : Nat} (hk : k < 42) (h3 : 3 ≤ l) (hl : l < 7) : JdOK sc k l := by
  match k, hk with
  | 0, _ => exact jd_0 h3 hl
  | 1, _ => exact jd_1 h3 hl
  | 2, _ => exact jd_2 h3 hl
  | 3, _ => exact jd_3 h3 hl
  | 4, _ => exact jd_4 h3 hl
  | 5, _ => exact jd_5 h3 hl
  | 6, _ => exact jd_6 h3 hl
  | 7, _ => exact jd_7 h3 hl
  | 8, _ => exact jd_8 h3 hl
  | 9, _ => exact jd_9 h3 hl
  | 10, _ => exact jd_10 h3 hl
  | 11, _ => exact jd_11 h3 hl
  | 12, _ => exact jd_12 h3 hl
  | 13, _ => exact jd_13 h3 hl
  | 14, _ => exact jd_14 h3 hl
  | 15, _ => exact jd_15 h3 hl
  | 16, _ => exact jd_16 h3 hl
  | 17, _ => exact jd_17 h3 hl
  | 18, _ => exact jd_18 h3 hl
  | 19, _ => exact jd_19 h3 hl
  | 20, _ => exact jd_20 h3 hl
  | 21, _ => exact jd_21 h3 hl
  | 22, _ => exact jd_22 h3 hl
  | 23, _ => exact jd_23 h3 hl
  | 24, _ => exact jd_24 h3 hl
  | 25, _ => exact jd_25 h3 hl
  | 26, _ => exact jd_26x h3 hl
  | 27, _ => exact jd_27 h3 hl
  | 28, _ => exact jd_28 h3 hl
  | 29, _ => exact jd_29 h3 hl
  | 30, _ => exact jd_30 h3 hl
  | 31, _ => exact jd_31 h3 hl
  | 32, _ => exact jd_32 h3 hl
  | 33, _ => exact jd_33 h3 hl
  | 34, _ => exact jd_34 h3 hl
  | 35, _ => exact jd_35 h3 hl
  | 36, _ => exact jd_36 h3 hl
  | 37, _ => exact jd_37 h3 hl
  | 38, _ => exact jd_38 h3 hl
  | 39, _ => exact jd_39 h3 hl
  | 40, _ => exact jd_40 h3 hl
  | 41, _ => exact jd_41 h3 hl
  | k + 42, hk => exact absurd hk (by omega)
theorem bd_all {k l : Nat} (hk : pok k l) : BdOK sc k l := by
  obtain ⟨hk, hl, h20⟩ := hk
  match k, hk with
  | 0, _ =>
    match l, hl with
    | 0, _ => exact bl_0
    | l + 1, hl => exact bg_0 (by omega)
  | 1, _ =>
    match l, hl with
    | 0, _ => exact bl_1
    | l + 1, hl => exact bg_1 (by omega)
  | 2, _ =>
    match l, hl with
    | 0, _ => exact bl_2
    | l + 1, hl => exact bg_2 (by omega)
  | 3, _ =>
    match l, hl with
    | 0, _ => exact bl_3
    | l + 1, hl => exact bg_3 (by omega)
  | 4, _ =>
    match l, hl with
    | 0, _ => exact bl_4
    | l + 1, hl => exact bg_4 (by omega)
  | 5, _ =>
    match l, hl with
    | 0, _ => exact bl_5
    | l + 1, hl => exact bg_5 (by omega)
  | 6, _ =>
    match l, hl with
    | 0, _ => exact bl_6
    | l + 1, hl => exact bg_6 (by omega)
  | 7, _ =>
    match l, hl with
    | 0, _ => exact bl_7
    | l + 1, hl => exact bg_7 (by omega)
  | 8, _ =>
    match l, hl with
    | 0, _ => exact bl_8
    | l + 1, hl => exact bg_8 (by omega)
  | 9, _ =>
    match l, hl with
    | 0, _ => exact bl_9
    | l + 1, hl => exact bg_9 (by omega)
  | 10, _ =>
    match l, hl with
    | 0, _ => exact bl_10
    | l + 1, hl => exact bg_10 (by omega)
  | 11, _ =>
    match l, hl with
    | 0, _ => exact bl_11
    | l + 1, hl => exact bg_11 (by omega)
  | 12, _ =>
    match l, hl with
    | 0, _ => exact bl_12
    | l + 1, hl => exact bg_12 (by omega)
  | 13, _ =>
    match l, hl with
    | 0, _ => exact bl_13
    | l + 1, hl => exact bg_13 (by omega)
  | 14, _ =>
    match l, hl with
    | 0, _ => exact bl_14
    | l + 1, hl => exact bg_14 (by omega)
  | 15, _ =>
    match l, hl with
    | 0, _ => exact bl_15
    | l + 1, hl => exact bg_15 (by omega)
  | 16, _ =>
    match l, hl with
    | 0, _ => exact bl_16
    | l + 1, hl => exact bg_16 (by omega)
  | 17, _ =>
    match l, hl with
    | 0, _ => exact bl_17
    | l + 1, hl => exact bg_17 (by omega)
  | 18, _ =>
    match l, hl with
    | 0, _ => exact bl_18
    | l + 1, hl => exact bg_18 (by omega)
  | 19, _ =>
    match l, hl with
    | 0, _ => exact bl_19
    | l + 1, hl => exact bg_19 (by omega)
  | 20, _ => exact bj_20 (h20 (by omega)) hl
  | 21, _ => exact bj_21 (h20 (by omega)) hl
  | 22, _ => exact bj_22 (h20 (by omega)) hl
  | 23, _ => exact bj_23 (h20 (by omega)) hl
  | 24, _ => exact bj_24 (h20 (by omega)) hl
  | 25, _ => exact bj_25 (h20 (by omega)) hl
  | 26, _ => exact bj_26 (h20 (by omega)) hl
  | k + 27, hk => exact absurd hk (by omega)
theorem pc_ok {r : Nat} : aOK sc r := pc_all (fun _ _ hk => bd_all hk) r
end CD
