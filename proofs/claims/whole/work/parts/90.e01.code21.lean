/-! ===== definitions of jets: those that compare ===== -/
section CD
variable {sc : xm_Sc}
theorem jd_9 {l : Nat} (h3 : 3 ≤ l) (hl : l < 7) : JdOK sc 9 l := by
  intro d c m h G post hP hd hF hI hm hp
  have hr' : (11 : Nat) = 11 := rfl
  have hJ : ∀ j ∈ ([] : List Nat), 11 ≤ pH j := fun j hj => absurd hj (by simp)
  have ho : oj 9 l = 13 := (by decide : ∀ l, l < 7 → 3 ≤ l → oj 9 l = 13) l hl h3
  rw [ho] at hm hp
  have hsh := pw_sh l hl
  have hw64 := pw_l7 hl
  have hwe := pw_ev h3
  unfold jPo gJ at hp
  show xm_T (XE sc) (d + 7) 8 _ h post
  obtain ⟨w, hw⟩ : ∃ w, 2 ^ l = w := ⟨_, rfl⟩
  rw [hw] at hsh hw64 hp hwe
  refine xq_in rfl ?_
  simp only [xq_a0, xq_aI, xq_aJ, xq_aR, Nat.reduceAdd]
  have E : cE h G c h G c := cE_rf
  with_reducible refine xm_go_blk b_X0_comparing_0 k_X0_comparing_0 ?_
  refine by_iconst ci_1 ?_
  refine by_iload_n rfl ?_
  refine by_ishl ?_
  refine by_istore_n (by rw [ml_8]; decide) ?_
  refine by_aload_n rfl ?_
  refine by_aload_n rfl ?_
  refine by_iload_n rfl ?_
  refine by_iload_n rfl ?_
  simp (disch := first | exact Nat.ne_of_beq_eq_false rfl | exact rfl | omega) only [nI_add, xa_sub, xa_mul, pk_div, nm_mod, xa_shr, xa_and7, xa_and1, xa_and255, xa_by_and, nI_m1, Nat.add_sub_cancel, Nat.reducePow, Nat.zero_add, Nat.add_zero, Nat.reduceAdd, Nat.reduceMul, Nat.reduceSub, xf_same, xq_ff, xq_fo, xf_1, xf_2, xs_1, xs_2, xs_same, xq_so, xj_1, xj_2, xj_same, xq_jo, xq_sa1, xq_same, xq_other, upd_s, oI_n, oI_s, xv_0, xv_1, xv_2, xv_3, xm_p1, xm_p2, xq_fp, xq_fn, List.filter_nil, Nat.reduceBEq, Bool.not_true, Bool.not_false, Bool.and_true, Bool.and_false, Bool.false_and, Bool.true_and, if_true, if_false, Bool.false_eq_true, reduceIte, xc_i, xc_j, xc_r, xc_n, List.nil_append, List.cons_append, Option.toList_some, Option.toList_none, hsh]
  refine by_inv2 cn_8 lk_0_92 (by rw [xe_cnt]; decide) is_32 np_32 cn_32 (by first | exact rfl | assumption) (Nat.le_of_ble_eq_true rfl) ?_
  refine sp_second hF hI (by omega) (by omega) (fun h1 G1 c1 n1 F1 I1 e1 v1 => ?_)
  replace E := cE_tr E e1
  with_reducible refine xm_go_blk b_X0_comparing_11 k_X0_comparing_11 ?_
  refine by_aload_n rfl ?_
  refine by_iload_n rfl ?_
  refine by_iload_n rfl ?_
  refine by_inv2 cn_8 lk_0_95 (by rw [xe_cnt]; decide) is_15 np_15 cn_15 (by first | exact rfl | assumption) (Nat.le_of_ble_eq_true rfl) ?_
  refine sp_first F1 I1 (by omega) (by omega) (fun h2 G2 c2 n2 F2 I2 e2 v2 => ?_)
  replace v1 := nG_up v1 e2
  replace E := cE_tr E e2
  with_reducible refine xm_go_blk b_X0_comparing_17 k_X0_comparing_17 ?_
  refine by_inv2 cn_8 lk_0_80 (by rw [xe_cnt]; decide) is_25 np_25 cn_25 (by first | exact rfl | assumption) (Nat.le_of_ble_eq_true rfl) ?_
  refine sp_gpair F2 I2 (by omega) v1 v2 (by omega) (by omega) (fun h3 G3 c3 n3 F3 I3 e3 v3 => ?_)
  replace E := cE_tr E e3
  with_reducible refine xm_go_blk b_X0_comparing_20 k_X0_comparing_20 ?_
  refine by_istore (by rw [ml_8]; decide) ?_
  refine by_iload_n rfl ?_
  simp (disch := first | exact Nat.ne_of_beq_eq_false rfl | exact rfl | omega) only [nI_add, xa_sub, xa_mul, pk_div, nm_mod, xa_shr, xa_and7, xa_and1, xa_and255, xa_by_and, nI_m1, Nat.add_sub_cancel, Nat.reducePow, Nat.zero_add, Nat.add_zero, Nat.reduceAdd, Nat.reduceMul, Nat.reduceSub, xf_same, xq_ff, xq_fo, xf_1, xf_2, xs_1, xs_2, xs_same, xq_so, xj_1, xj_2, xj_same, xq_jo, xq_sa1, xq_same, xq_other, upd_s, oI_n, oI_s, hsh]
  refine by_sw ?_
  simp (disch := first | exact Nat.ne_of_beq_eq_false rfl | exact rfl | omega) only [nI_add, xa_sub, xa_mul, pk_div, nm_mod, xa_shr, xa_and7, xa_and1, xa_and255, xa_by_and, nI_m1, Nat.add_sub_cancel, Nat.reducePow, Nat.zero_add, Nat.add_zero, Nat.reduceAdd, Nat.reduceMul, Nat.reduceSub, xf_same, xq_ff, xq_fo, xf_1, xf_2, xs_1, xs_2, xs_same, xq_so, xj_1, xj_2, xj_same, xq_jo, xq_sa1, xq_same, xq_other, upd_s, oI_n, oI_s, xv_0, xv_1, xv_2, xv_3, xm_p1, xm_p2, xq_fp, xq_fn, List.filter_nil, Nat.reduceBEq, Bool.not_true, Bool.not_false, Bool.and_true, Bool.and_false, Bool.false_and, Bool.true_and, if_true, if_false, Bool.false_eq_true, reduceIte, xc_i, xc_j, xc_r, xc_n, List.nil_append, List.cons_append, Option.toList_some, Option.toList_none, hsh]
  refine xq_sw 72 (by decide) (by decide) ?_
  with_reducible refine xm_go_blk b_X0_comparing_72 k_X0_comparing_72 ?_
  refine by_aload_n rfl ?_
  refine by_aload_n rfl ?_
  refine by_bipush cb_22 ?_
  refine by_iload_n rfl ?_
  refine by_inv2 cn_8 lk_0_83 (by rw [xe_cnt]; decide) is_26 np_26 cn_26 (by first | exact rfl | assumption) (Nat.le_of_ble_eq_true rfl) ?_
  refine sp_pc (a := 3) hP ⟨by omega, by omega, by omega⟩ rfl (by omega) hJ (by omega) F3 I3 (fun h4 G4 c4 n4 F4 I4 e4 p4 => ?_)
  obtain ⟨f4, v4, s4⟩ := p4
  simp only [pS, pT, pSp, Nat.reducePow, hw] at v4 s4
  replace E := cE_tr E e4
  with_reducible refine xm_go_blk b_X0_comparing_80 k_X0_comparing_80 ?_
  refine by_aload_n rfl ?_
  refine by_iload_n rfl ?_
  refine by_iload_n rfl ?_
  refine by_inv2 cn_8 lk_0_95 (by rw [xe_cnt]; decide) is_15 np_15 cn_15 (by first | exact rfl | assumption) (Nat.le_of_ble_eq_true rfl) ?_
  refine sp_first F4 I4 (by omega) (by omega) (fun h5 G5 c5 n5 F5 I5 e5 v5 => ?_)
  replace v4 := nG_up v4 e5
  replace E := cE_tr E e5
  with_reducible refine xm_go_blk b_X0_comparing_86 k_X0_comparing_86 ?_
  refine by_inv2 cn_8 lk_0_86 (by rw [xe_cnt]; decide) is_7 np_7 cn_7 (by first | exact rfl | assumption) (Nat.le_of_ble_eq_true rfl) ?_
  refine sp_gcomp F5 I5 (by omega) v4 v5 (by omega) (fun h6 G6 c6 n6 F6 I6 e6 v6 => ?_)
  replace E := cE_tr E e6
  with_reducible refine xm_go_blk b_X0_comparing_89 k_X0_comparing_89 ?_
  refine by_istore (by rw [ml_8]; decide) ?_
  refine by_aload_n rfl ?_
  refine by_aload_n rfl ?_
  refine by_aload_n rfl ?_
  refine by_iload_n rfl ?_
  refine by_aload_n rfl ?_
  refine by_iconst ci_4 ?_
  refine by_iload_n rfl ?_
  simp (disch := first | exact Nat.ne_of_beq_eq_false rfl | exact rfl | omega) only [nI_add, xa_sub, xa_mul, pk_div, nm_mod, xa_shr, xa_and7, xa_and1, xa_and255, xa_by_and, nI_m1, Nat.add_sub_cancel, Nat.reducePow, Nat.zero_add, Nat.add_zero, Nat.reduceAdd, Nat.reduceMul, Nat.reduceSub, xf_same, xq_ff, xq_fo, xf_1, xf_2, xs_1, xs_2, xs_same, xq_so, xj_1, xj_2, xj_same, xq_jo, xq_sa1, xq_same, xq_other, upd_s, oI_n, oI_s, xv_0, xv_1, xv_2, xv_3, xm_p1, xm_p2, xq_fp, xq_fn, List.filter_nil, Nat.reduceBEq, Bool.not_true, Bool.not_false, Bool.and_true, Bool.and_false, Bool.false_and, Bool.true_and, if_true, if_false, Bool.false_eq_true, reduceIte, xc_i, xc_j, xc_r, xc_n, List.nil_append, List.cons_append, Option.toList_some, Option.toList_none, hsh]
  refine by_inv2 cn_8 lk_0_83 (by rw [xe_cnt]; decide) is_26 np_26 cn_26 (by first | exact rfl | assumption) (Nat.le_of_ble_eq_true rfl) ?_
  refine sp_pc (a := 0) hP ⟨by omega, by omega, by omega⟩ rfl (by omega) hJ (by omega) F6 I6 (fun h7 G7 c7 n7 F7 I7 e7 p7 => ?_)
  obtain ⟨f7, v7, s7⟩ := p7
  simp only [pS, pT, pSp, Nat.reducePow, hw] at v7 s7
  replace v7 := nG_cg v7 rfl rfl (fun x hx => s7 x hx) (qle_rf _)
  replace v6 := nG_up v6 e7
  replace E := cE_tr E e7
  with_reducible refine xm_go_blk b_X0_comparing_101 k_X0_comparing_101 ?_
  refine by_inv2 cn_8 lk_0_47 (by rw [xe_cnt]; decide) is_12 np_12 cn_12 (by first | exact rfl | assumption) (Nat.le_of_ble_eq_true rfl) ?_
  refine sp_gdrop F7 I7 (by omega) v7 (by omega) (fun h8 G8 c8 n8 F8 I8 e8 v8 => ?_)
  replace v6 := nG_up v6 e8
  replace E := cE_tr E e8
  with_reducible refine xm_go_blk b_X0_comparing_104 k_X0_comparing_104 ?_
  refine by_aload_n rfl ?_
  refine by_iconst ci_2 ?_
  refine by_iload_n rfl ?_
  refine by_imul ?_
  simp (disch := first | exact Nat.ne_of_beq_eq_false rfl | exact rfl | omega) only [nI_add, xa_sub, xa_mul, pk_div, nm_mod, xa_shr, xa_and7, xa_and1, xa_and255, xa_by_and, nI_m1, Nat.add_sub_cancel, Nat.reducePow, Nat.zero_add, Nat.add_zero, Nat.reduceAdd, Nat.reduceMul, Nat.reduceSub, xf_same, xq_ff, xq_fo, xf_1, xf_2, xs_1, xs_2, xs_same, xq_so, xj_1, xj_2, xj_same, xq_jo, xq_sa1, xq_same, xq_other, upd_s, oI_n, oI_s, xv_0, xv_1, xv_2, xv_3, xm_p1, xm_p2, xq_fp, xq_fn, List.filter_nil, Nat.reduceBEq, Bool.not_true, Bool.not_false, Bool.and_true, Bool.and_false, Bool.false_and, Bool.true_and, if_true, if_false, Bool.false_eq_true, reduceIte, xc_i, xc_j, xc_r, xc_n, List.nil_append, List.cons_append, Option.toList_some, Option.toList_none, hsh]
  refine by_inv1 cn_8 lk_0_76 (by rw [xe_cnt]; decide) is_18 np_18 cn_18 (by first | exact rfl | assumption) (Nat.le_of_ble_eq_true rfl) ?_
  refine sp_iden F8 I8 (by omega) (by omega) (fun h9 G9 c9 n9 F9 I9 e9 v9 => ?_)
  replace v6 := nG_up v6 e9
  replace v8 := nG_up v8 e9
  replace E := cE_tr E e9
  with_reducible refine xm_go_blk b_X0_comparing_111 k_X0_comparing_111 ?_
  refine by_inv2 cn_8 lk_0_80 (by rw [xe_cnt]; decide) is_25 np_25 cn_25 (by first | exact rfl | assumption) (Nat.le_of_ble_eq_true rfl) ?_
  refine sp_gpair F9 I9 (by omega) v8 v9 (by omega) (by omega) (fun h10 G10 c10 n10 F10 I10 e10 v10 => ?_)
  replace v6 := nG_up v6 e10
  replace E := cE_tr E e10
  with_reducible refine xm_go_blk b_X0_comparing_114 k_X0_comparing_114 ?_
  refine by_aload_n rfl ?_
  refine by_aload_n rfl ?_
  refine by_iload_n rfl ?_
  refine by_iconst ci_2 ?_
  refine by_iload_n rfl ?_
  refine by_imul ?_
  simp (disch := first | exact Nat.ne_of_beq_eq_false rfl | exact rfl | omega) only [nI_add, xa_sub, xa_mul, pk_div, nm_mod, xa_shr, xa_and7, xa_and1, xa_and255, xa_by_and, nI_m1, Nat.add_sub_cancel, Nat.reducePow, Nat.zero_add, Nat.add_zero, Nat.reduceAdd, Nat.reduceMul, Nat.reduceSub, xf_same, xq_ff, xq_fo, xf_1, xf_2, xs_1, xs_2, xs_same, xq_so, xj_1, xj_2, xj_same, xq_jo, xq_sa1, xq_same, xq_other, upd_s, oI_n, oI_s, xv_0, xv_1, xv_2, xv_3, xm_p1, xm_p2, xq_fp, xq_fn, List.filter_nil, Nat.reduceBEq, Bool.not_true, Bool.not_false, Bool.and_true, Bool.and_false, Bool.false_and, Bool.true_and, if_true, if_false, Bool.false_eq_true, reduceIte, xc_i, xc_j, xc_r, xc_n, List.nil_append, List.cons_append, Option.toList_some, Option.toList_none, hsh]
  refine by_inv2 cn_8 lk_0_89 (by rw [xe_cnt]; decide) is_38 np_38 cn_38 (by first | exact rfl | assumption) (Nat.le_of_ble_eq_true rfl) ?_
  refine sp_zeros hP (by omega) (by omega) hJ (by omega) F10 I10 (by omega) (by omega) (fun h11 G11 c11 n11 F11 I11 e11 v11 => ?_)
  replace v10 := nG_up v10 e11
  replace v6 := nG_up v6 e11
  replace E := cE_tr E e11
  with_reducible refine xm_go_blk b_X0_comparing_123 k_X0_comparing_123 ?_
  refine by_iload rfl ?_
  refine by_inv2 cn_8 lk_0_98 (by rw [xe_cnt]; decide) is_6 np_6 cn_6 (by first | exact rfl | assumption) (Nat.le_of_ble_eq_true rfl) ?_
  refine sp_choose F11 I11 (by omega) v11 v6 (by omega) (by omega) (by omega) (fun h12 G12 c12 n12 F12 I12 e12 v12 => ?_)
  replace v10 := nG_up v10 e12
  replace E := cE_tr E e12
  with_reducible refine xm_go_blk b_X0_comparing_128 k_X0_comparing_128 ?_
  refine by_inv2 cn_8 lk_0_86 (by rw [xe_cnt]; decide) is_7 np_7 cn_7 (by first | exact rfl | assumption) (Nat.le_of_ble_eq_true rfl) ?_
  refine sp_gcomp F12 I12 (by omega) v10 v12 (by omega) (fun h13 G13 c13 n13 F13 I13 e13 v13 => ?_)
  replace E := cE_tr E e13
  with_reducible refine xm_go_blk b_X0_comparing_131 k_X0_comparing_131 ?_
  refine by_iret ry_8 (by first | rfl | assumption) ?_
  refine hp _ _ _ _ F13 (cI_mono I13 (by omega) hm) E ⟨_, nG_cg v13 (by show _ = 2 * w; omega) (by show _ = w; omega) (fun _ _ => rfl) ?_, jsp_4 rfl ?_⟩
  · subst hw
    rcases (by omega : l = 3 ∨ l = 4 ∨ l = 5 ∨ l = 6) with rfl | rfl | rfl | rfl <;> decide
  · intro x y hx hy
    show (if ([((x ++ y).drop w).any id] ++ (x ++ y)).getD 0 false = false then List.replicate (2 ^ l) false else (f4 (x ++ y)).take w) = bbits w (bnum x / bnum y)
    obtain ⟨q, hq, e1, e2⟩ := s4 x y hx hy
    rw [li_da hx.symm, bn_any, e1, li_ka hq.symm]
    by_cases e : bnum y = 0
    · rw [e, Nat.div_zero, bb_0, hw]
      rfl
    · rw [decide_eq_true e, e2 (by omega)]
      rfl
theorem jd_10 {l : Nat} (h3 : 3 ≤ l) (hl : l < 7) : JdOK sc 10 l := by
  intro d c m h G post hP hd hF hI hm hp
  have hr' : (11 : Nat) = 11 := rfl
  have hJ : ∀ j ∈ ([] : List Nat), 11 ≤ pH j := fun j hj => absurd hj (by simp)
  have ho : oj 10 l = 6 := (by decide : ∀ l, l < 7 → 3 ≤ l → oj 10 l = 6) l hl h3
  rw [ho] at hm hp
  have hsh := pw_sh l hl
  have hw64 := pw_l7 hl
  have hwe := pw_ev h3
  unfold jPo gJ at hp
  show xm_T (XE sc) (d + 7) 8 _ h post
  obtain ⟨w, hw⟩ : ∃ w, 2 ^ l = w := ⟨_, rfl⟩
  rw [hw] at hsh hw64 hp hwe
  refine xq_in rfl ?_
  simp only [xq_a0, xq_aI, xq_aJ, xq_aR, Nat.reduceAdd]
  have E : cE h G c h G c := cE_rf
  with_reducible refine xm_go_blk b_X0_comparing_0 k_X0_comparing_0 ?_
  refine by_iconst ci_1 ?_
  refine by_iload_n rfl ?_
  refine by_ishl ?_
  refine by_istore_n (by rw [ml_8]; decide) ?_
  refine by_aload_n rfl ?_
  refine by_aload_n rfl ?_
  refine by_iload_n rfl ?_
  refine by_iload_n rfl ?_
  simp (disch := first | exact Nat.ne_of_beq_eq_false rfl | exact rfl | omega) only [nI_add, xa_sub, xa_mul, pk_div, nm_mod, xa_shr, xa_and7, xa_and1, xa_and255, xa_by_and, nI_m1, Nat.add_sub_cancel, Nat.reducePow, Nat.zero_add, Nat.add_zero, Nat.reduceAdd, Nat.reduceMul, Nat.reduceSub, xf_same, xq_ff, xq_fo, xf_1, xf_2, xs_1, xs_2, xs_same, xq_so, xj_1, xj_2, xj_same, xq_jo, xq_sa1, xq_same, xq_other, upd_s, oI_n, oI_s, xv_0, xv_1, xv_2, xv_3, xm_p1, xm_p2, xq_fp, xq_fn, List.filter_nil, Nat.reduceBEq, Bool.not_true, Bool.not_false, Bool.and_true, Bool.and_false, Bool.false_and, Bool.true_and, if_true, if_false, Bool.false_eq_true, reduceIte, xc_i, xc_j, xc_r, xc_n, List.nil_append, List.cons_append, Option.toList_some, Option.toList_none, hsh]
  refine by_inv2 cn_8 lk_0_92 (by rw [xe_cnt]; decide) is_32 np_32 cn_32 (by first | exact rfl | assumption) (Nat.le_of_ble_eq_true rfl) ?_
  refine sp_second hF hI (by omega) (by omega) (fun h1 G1 c1 n1 F1 I1 e1 v1 => ?_)
  replace E := cE_tr E e1
  with_reducible refine xm_go_blk b_X0_comparing_11 k_X0_comparing_11 ?_
  refine by_aload_n rfl ?_
  refine by_iload_n rfl ?_
  refine by_iload_n rfl ?_
  refine by_inv2 cn_8 lk_0_95 (by rw [xe_cnt]; decide) is_15 np_15 cn_15 (by first | exact rfl | assumption) (Nat.le_of_ble_eq_true rfl) ?_
  refine sp_first F1 I1 (by omega) (by omega) (fun h2 G2 c2 n2 F2 I2 e2 v2 => ?_)
  replace v1 := nG_up v1 e2
  replace E := cE_tr E e2
  with_reducible refine xm_go_blk b_X0_comparing_17 k_X0_comparing_17 ?_
  refine by_inv2 cn_8 lk_0_80 (by rw [xe_cnt]; decide) is_25 np_25 cn_25 (by first | exact rfl | assumption) (Nat.le_of_ble_eq_true rfl) ?_
  refine sp_gpair F2 I2 (by omega) v1 v2 (by omega) (by omega) (fun h3 G3 c3 n3 F3 I3 e3 v3 => ?_)
  replace E := cE_tr E e3
  with_reducible refine xm_go_blk b_X0_comparing_20 k_X0_comparing_20 ?_
  refine by_istore (by rw [ml_8]; decide) ?_
  refine by_iload_n rfl ?_
  simp (disch := first | exact Nat.ne_of_beq_eq_false rfl | exact rfl | omega) only [nI_add, xa_sub, xa_mul, pk_div, nm_mod, xa_shr, xa_and7, xa_and1, xa_and255, xa_by_and, nI_m1, Nat.add_sub_cancel, Nat.reducePow, Nat.zero_add, Nat.add_zero, Nat.reduceAdd, Nat.reduceMul, Nat.reduceSub, xf_same, xq_ff, xq_fo, xf_1, xf_2, xs_1, xs_2, xs_same, xq_so, xj_1, xj_2, xj_same, xq_jo, xq_sa1, xq_same, xq_other, upd_s, oI_n, oI_s, hsh]
  refine by_sw ?_
  simp (disch := first | exact Nat.ne_of_beq_eq_false rfl | exact rfl | omega) only [nI_add, xa_sub, xa_mul, pk_div, nm_mod, xa_shr, xa_and7, xa_and1, xa_and255, xa_by_and, nI_m1, Nat.add_sub_cancel, Nat.reducePow, Nat.zero_add, Nat.add_zero, Nat.reduceAdd, Nat.reduceMul, Nat.reduceSub, xf_same, xq_ff, xq_fo, xf_1, xf_2, xs_1, xs_2, xs_same, xq_so, xj_1, xj_2, xj_same, xq_jo, xq_sa1, xq_same, xq_other, upd_s, oI_n, oI_s, xv_0, xv_1, xv_2, xv_3, xm_p1, xm_p2, xq_fp, xq_fn, List.filter_nil, Nat.reduceBEq, Bool.not_true, Bool.not_false, Bool.and_true, Bool.and_false, Bool.false_and, Bool.true_and, if_true, if_false, Bool.false_eq_true, reduceIte, xc_i, xc_j, xc_r, xc_n, List.nil_append, List.cons_append, Option.toList_some, Option.toList_none, hsh]
  refine xq_sw 132 (by decide) (by decide) ?_
  with_reducible refine xm_go_blk b_X0_comparing_132 k_X0_comparing_132 ?_
  refine by_aload_n rfl ?_
  refine by_aload_n rfl ?_
  refine by_bipush cb_22 ?_
  refine by_iload_n rfl ?_
  refine by_inv2 cn_8 lk_0_83 (by rw [xe_cnt]; decide) is_26 np_26 cn_26 (by first | exact rfl | assumption) (Nat.le_of_ble_eq_true rfl) ?_
  refine sp_pc (a := 3) hP ⟨by omega, by omega, by omega⟩ rfl (by omega) hJ (by omega) F3 I3 (fun h4 G4 c4 n4 F4 I4 e4 p4 => ?_)
  obtain ⟨f4, v4, s4⟩ := p4
  simp only [pS, pT, pSp, Nat.reducePow, hw] at v4 s4
  replace E := cE_tr E e4
  with_reducible refine xm_go_blk b_X0_comparing_140 k_X0_comparing_140 ?_
  refine by_aload_n rfl ?_
  refine by_iload_n rfl ?_
  refine by_iload_n rfl ?_
  refine by_inv2 cn_8 lk_0_92 (by rw [xe_cnt]; decide) is_32 np_32 cn_32 (by first | exact rfl | assumption) (Nat.le_of_ble_eq_true rfl) ?_
  refine sp_second F4 I4 (by omega) (by omega) (fun h5 G5 c5 n5 F5 I5 e5 v5 => ?_)
  replace v4 := nG_up v4 e5
  replace E := cE_tr E e5
  with_reducible refine xm_go_blk b_X0_comparing_146 k_X0_comparing_146 ?_
  refine by_inv2 cn_8 lk_0_86 (by rw [xe_cnt]; decide) is_7 np_7 cn_7 (by first | exact rfl | assumption) (Nat.le_of_ble_eq_true rfl) ?_
  refine sp_gcomp F5 I5 (by omega) v4 v5 (by omega) (fun h6 G6 c6 n6 F6 I6 e6 v6 => ?_)
  replace E := cE_tr E e6
  with_reducible refine xm_go_blk b_X0_comparing_149 k_X0_comparing_149 ?_
  refine by_iret ry_8 (by first | rfl | assumption) ?_
  refine hp _ _ _ _ F6 (cI_mono I6 (by omega) hm) E ⟨_, nG_cg v6 (by show _ = 2 * w; omega) (by show _ = w; omega) (fun _ _ => rfl) ?_, jsp_4 rfl ?_⟩
  · subst hw
    rcases (by omega : l = 3 ∨ l = 4 ∨ l = 5 ∨ l = 6) with rfl | rfl | rfl | rfl <;> decide
  · intro x y hx hy
    show (f4 (x ++ y)).drop w = bbits w (bnum x % bnum y)
    obtain ⟨q, hq, e1, e2⟩ := s4 x y hx hy
    rw [e1, li_da hq.symm]
theorem jd_11 {l : Nat} (h3 : 3 ≤ l) (hl : l < 7) : JdOK sc 11 l := by
  intro d c m h G post hP hd hF hI hm hp
  have hr' : (11 : Nat) = 11 := rfl
  have hJ : ∀ j ∈ ([] : List Nat), 11 ≤ pH j := fun j hj => absurd hj (by simp)
  have ho : oj 11 l = 12 := (by decide : ∀ l, l < 7 → 3 ≤ l → oj 11 l = 12) l hl h3
  rw [ho] at hm hp
  have hsh := pw_sh l hl
  have hw64 := pw_l7 hl
  have hwe := pw_ev h3
  unfold jPo gJ at hp
  show xm_T (XE sc) (d + 7) 8 _ h post
  obtain ⟨w, hw⟩ : ∃ w, 2 ^ l = w := ⟨_, rfl⟩
  rw [hw] at hsh hw64 hp hwe
  refine xq_in rfl ?_
  simp only [xq_a0, xq_aI, xq_aJ, xq_aR, Nat.reduceAdd]
  have E : cE h G c h G c := cE_rf
  with_reducible refine xm_go_blk b_X0_comparing_0 k_X0_comparing_0 ?_
  refine by_iconst ci_1 ?_
  refine by_iload_n rfl ?_
  refine by_ishl ?_
  refine by_istore_n (by rw [ml_8]; decide) ?_
  refine by_aload_n rfl ?_
  refine by_aload_n rfl ?_
  refine by_iload_n rfl ?_
  refine by_iload_n rfl ?_
  simp (disch := first | exact Nat.ne_of_beq_eq_false rfl | exact rfl | omega) only [nI_add, xa_sub, xa_mul, pk_div, nm_mod, xa_shr, xa_and7, xa_and1, xa_and255, xa_by_and, nI_m1, Nat.add_sub_cancel, Nat.reducePow, Nat.zero_add, Nat.add_zero, Nat.reduceAdd, Nat.reduceMul, Nat.reduceSub, xf_same, xq_ff, xq_fo, xf_1, xf_2, xs_1, xs_2, xs_same, xq_so, xj_1, xj_2, xj_same, xq_jo, xq_sa1, xq_same, xq_other, upd_s, oI_n, oI_s, xv_0, xv_1, xv_2, xv_3, xm_p1, xm_p2, xq_fp, xq_fn, List.filter_nil, Nat.reduceBEq, Bool.not_true, Bool.not_false, Bool.and_true, Bool.and_false, Bool.false_and, Bool.true_and, if_true, if_false, Bool.false_eq_true, reduceIte, xc_i, xc_j, xc_r, xc_n, List.nil_append, List.cons_append, Option.toList_some, Option.toList_none, hsh]
  refine by_inv2 cn_8 lk_0_92 (by rw [xe_cnt]; decide) is_32 np_32 cn_32 (by first | exact rfl | assumption) (Nat.le_of_ble_eq_true rfl) ?_
  refine sp_second hF hI (by omega) (by omega) (fun h1 G1 c1 n1 F1 I1 e1 v1 => ?_)
  replace E := cE_tr E e1
  with_reducible refine xm_go_blk b_X0_comparing_11 k_X0_comparing_11 ?_
  refine by_aload_n rfl ?_
  refine by_iload_n rfl ?_
  refine by_iload_n rfl ?_
  refine by_inv2 cn_8 lk_0_95 (by rw [xe_cnt]; decide) is_15 np_15 cn_15 (by first | exact rfl | assumption) (Nat.le_of_ble_eq_true rfl) ?_
  refine sp_first F1 I1 (by omega) (by omega) (fun h2 G2 c2 n2 F2 I2 e2 v2 => ?_)
  replace v1 := nG_up v1 e2
  replace E := cE_tr E e2
  with_reducible refine xm_go_blk b_X0_comparing_17 k_X0_comparing_17 ?_
  refine by_inv2 cn_8 lk_0_80 (by rw [xe_cnt]; decide) is_25 np_25 cn_25 (by first | exact rfl | assumption) (Nat.le_of_ble_eq_true rfl) ?_
  refine sp_gpair F2 I2 (by omega) v1 v2 (by omega) (by omega) (fun h3 G3 c3 n3 F3 I3 e3 v3 => ?_)
  replace E := cE_tr E e3
  with_reducible refine xm_go_blk b_X0_comparing_20 k_X0_comparing_20 ?_
  refine by_istore (by rw [ml_8]; decide) ?_
  refine by_iload_n rfl ?_
  simp (disch := first | exact Nat.ne_of_beq_eq_false rfl | exact rfl | omega) only [nI_add, xa_sub, xa_mul, pk_div, nm_mod, xa_shr, xa_and7, xa_and1, xa_and255, xa_by_and, nI_m1, Nat.add_sub_cancel, Nat.reducePow, Nat.zero_add, Nat.add_zero, Nat.reduceAdd, Nat.reduceMul, Nat.reduceSub, xf_same, xq_ff, xq_fo, xf_1, xf_2, xs_1, xs_2, xs_same, xq_so, xj_1, xj_2, xj_same, xq_jo, xq_sa1, xq_same, xq_other, upd_s, oI_n, oI_s, hsh]
  refine by_sw ?_
  simp (disch := first | exact Nat.ne_of_beq_eq_false rfl | exact rfl | omega) only [nI_add, xa_sub, xa_mul, pk_div, nm_mod, xa_shr, xa_and7, xa_and1, xa_and255, xa_by_and, nI_m1, Nat.add_sub_cancel, Nat.reducePow, Nat.zero_add, Nat.add_zero, Nat.reduceAdd, Nat.reduceMul, Nat.reduceSub, xf_same, xq_ff, xq_fo, xf_1, xf_2, xs_1, xs_2, xs_same, xq_so, xj_1, xj_2, xj_same, xq_jo, xq_sa1, xq_same, xq_other, upd_s, oI_n, oI_s, xv_0, xv_1, xv_2, xv_3, xm_p1, xm_p2, xq_fp, xq_fn, List.filter_nil, Nat.reduceBEq, Bool.not_true, Bool.not_false, Bool.and_true, Bool.and_false, Bool.false_and, Bool.true_and, if_true, if_false, Bool.false_eq_true, reduceIte, xc_i, xc_j, xc_r, xc_n, List.nil_append, List.cons_append, Option.toList_some, Option.toList_none, hsh]
  refine xq_sw 150 (by decide) (by decide) ?_
  with_reducible refine xm_go_blk b_X0_comparing_150 k_X0_comparing_150 ?_
  refine by_aload_n rfl ?_
  refine by_aload_n rfl ?_
  refine by_bipush cb_22 ?_
  refine by_iload_n rfl ?_
  refine by_inv2 cn_8 lk_0_83 (by rw [xe_cnt]; decide) is_26 np_26 cn_26 (by first | exact rfl | assumption) (Nat.le_of_ble_eq_true rfl) ?_
  refine sp_pc (a := 3) hP ⟨by omega, by omega, by omega⟩ rfl (by omega) hJ (by omega) F3 I3 (fun h4 G4 c4 n4 F4 I4 e4 p4 => ?_)
  obtain ⟨f4, v4, s4⟩ := p4
  simp only [pS, pT, pSp, Nat.reducePow, hw] at v4 s4
  replace v3 := nG_up v3 e4
  replace E := cE_tr E e4
  with_reducible refine xm_go_blk b_X0_comparing_158 k_X0_comparing_158 ?_
  refine by_aload_n rfl ?_
  refine by_iload_n rfl ?_
  refine by_iload_n rfl ?_
  refine by_inv2 cn_8 lk_0_92 (by rw [xe_cnt]; decide) is_32 np_32 cn_32 (by first | exact rfl | assumption) (Nat.le_of_ble_eq_true rfl) ?_
  refine sp_second F4 I4 (by omega) (by omega) (fun h5 G5 c5 n5 F5 I5 e5 v5 => ?_)
  replace v3 := nG_up v3 e5
  replace v4 := nG_up v4 e5
  replace E := cE_tr E e5
  with_reducible refine xm_go_blk b_X0_comparing_164 k_X0_comparing_164 ?_
  refine by_inv2 cn_8 lk_0_86 (by rw [xe_cnt]; decide) is_7 np_7 cn_7 (by first | exact rfl | assumption) (Nat.le_of_ble_eq_true rfl) ?_
  refine sp_gcomp F5 I5 (by omega) v4 v5 (by omega) (fun h6 G6 c6 n6 F6 I6 e6 v6 => ?_)
  replace v3 := nG_up v3 e6
  replace E := cE_tr E e6
  with_reducible refine xm_go_blk b_X0_comparing_167 k_X0_comparing_167 ?_
  refine by_istore (by rw [ml_8]; decide) ?_
  refine by_aload_n rfl ?_
  refine by_iload rfl ?_
  refine by_aload_n rfl ?_
  refine by_iload rfl ?_
  refine by_aload_n rfl ?_
  refine by_aload_n rfl ?_
  refine by_iconst ci_4 ?_
  refine by_iload_n rfl ?_
  simp (disch := first | exact Nat.ne_of_beq_eq_false rfl | exact rfl | omega) only [nI_add, xa_sub, xa_mul, pk_div, nm_mod, xa_shr, xa_and7, xa_and1, xa_and255, xa_by_and, nI_m1, Nat.add_sub_cancel, Nat.reducePow, Nat.zero_add, Nat.add_zero, Nat.reduceAdd, Nat.reduceMul, Nat.reduceSub, xf_same, xq_ff, xq_fo, xf_1, xf_2, xs_1, xs_2, xs_same, xq_so, xj_1, xj_2, xj_same, xq_jo, xq_sa1, xq_same, xq_other, upd_s, oI_n, oI_s, xv_0, xv_1, xv_2, xv_3, xm_p1, xm_p2, xq_fp, xq_fn, List.filter_nil, Nat.reduceBEq, Bool.not_true, Bool.not_false, Bool.and_true, Bool.and_false, Bool.false_and, Bool.true_and, if_true, if_false, Bool.false_eq_true, reduceIte, xc_i, xc_j, xc_r, xc_n, List.nil_append, List.cons_append, Option.toList_some, Option.toList_none, hsh]
  refine by_inv2 cn_8 lk_0_83 (by rw [xe_cnt]; decide) is_26 np_26 cn_26 (by first | exact rfl | assumption) (Nat.le_of_ble_eq_true rfl) ?_
  refine sp_pc (a := 0) hP ⟨by omega, by omega, by omega⟩ rfl (by omega) hJ (by omega) F6 I6 (fun h7 G7 c7 n7 F7 I7 e7 p7 => ?_)
  obtain ⟨f7, v7, s7⟩ := p7
  simp only [pS, pT, pSp, Nat.reducePow, hw] at v7 s7
  replace v7 := nG_cg v7 rfl rfl (fun x hx => s7 x hx) (qle_rf _)
  replace v3 := nG_up v3 e7
  replace v6 := nG_up v6 e7
  replace E := cE_tr E e7
  with_reducible refine xm_go_blk b_X0_comparing_182 k_X0_comparing_182 ?_
  refine by_aload_n rfl ?_
  refine by_bipush cb_6 ?_
  refine by_iconst ci_0 ?_
  refine by_inv2 cn_8 lk_0_83 (by rw [xe_cnt]; decide) is_26 np_26 cn_26 (by first | exact rfl | assumption) (Nat.le_of_ble_eq_true rfl) ?_
  refine sp_pc (a := 0) hP ⟨by omega, by omega, by omega⟩ rfl (by omega) hJ (by omega) F7 I7 (fun h8 G8 c8 n8 F8 I8 e8 p8 => ?_)
  obtain ⟨f8, v8, s8⟩ := p8
  simp only [pS, pT, pSp, Nat.reducePow, hw] at v8 s8
  replace v8 := nG_cg v8 rfl rfl (fun x hx => s8 x hx) (qle_rf _)
  replace v3 := nG_up v3 e8
  replace v6 := nG_up v6 e8
  replace v7 := nG_up v7 e8
  replace E := cE_tr E e8
  with_reducible refine xm_go_blk b_X0_comparing_189 k_X0_comparing_189 ?_
  refine by_inv2 cn_8 lk_0_86 (by rw [xe_cnt]; decide) is_7 np_7 cn_7 (by first | exact rfl | assumption) (Nat.le_of_ble_eq_true rfl) ?_
  refine sp_gcomp F8 I8 (by omega) v7 v8 (by omega) (fun h9 G9 c9 n9 F9 I9 e9 v9 => ?_)
  replace v3 := nG_up v3 e9
  replace v6 := nG_up v6 e9
  replace E := cE_tr E e9
  with_reducible refine xm_go_blk b_X0_comparing_192 k_X0_comparing_192 ?_
  refine by_inv2 cn_8 lk_0_86 (by rw [xe_cnt]; decide) is_7 np_7 cn_7 (by first | exact rfl | assumption) (Nat.le_of_ble_eq_true rfl) ?_
  refine sp_gcomp F9 I9 (by omega) v6 v9 (by omega) (fun h10 G10 c10 n10 F10 I10 e10 v10 => ?_)
  replace v3 := nG_up v3 e10
  replace E := cE_tr E e10
  with_reducible refine xm_go_blk b_X0_comparing_195 k_X0_comparing_195 ?_
  refine by_inv2 cn_8 lk_0_86 (by rw [xe_cnt]; decide) is_7 np_7 cn_7 (by first | exact rfl | assumption) (Nat.le_of_ble_eq_true rfl) ?_
  refine sp_gcomp F10 I10 (by omega) v3 v10 (by omega) (fun h11 G11 c11 n11 F11 I11 e11 v11 => ?_)
  replace E := cE_tr E e11
  with_reducible refine xm_go_blk b_X0_comparing_198 k_X0_comparing_198 ?_
  refine by_iret ry_8 (by first | rfl | assumption) ?_
  refine hp _ _ _ _ F11 (cI_mono I11 (by omega) hm) E ⟨_, nG_cg v11 (by show _ = 2 * w; omega) (by show _ = 1; omega) (fun _ _ => rfl) ?_, jsp_4 rfl ?_⟩
  · subst hw
    rcases (by omega : l = 3 ∨ l = 4 ∨ l = 5 ∨ l = 6) with rfl | rfl | rfl | rfl <;> decide
  · intro x y hx hy
    show [((f4 ((x ++ y).drop w ++ (x ++ y).take w)).drop w).any id].map not = bbits 1 (if bnum y % bnum x = 0 then 1 else 0)
    obtain ⟨q, hq, e1, e2⟩ := s4 y x hy hx
    rw [li_da hx.symm, li_ka hx.symm, e1, li_da hq.symm, bn_any, bnum_bbits, Nat.mod_eq_of_lt (Nat.lt_of_le_of_lt (Nat.mod_le _ _) (bn_lt hy)), b1_d]
    simp
theorem jd_12 {l : Nat} (h3 : 3 ≤ l) (hl : l < 7) : JdOK sc 12 l := by
  intro d c m h G post hP hd hF hI hm hp
  have hr' : (11 : Nat) = 11 := rfl
  have hJ : ∀ j ∈ ([] : List Nat), 11 ≤ pH j := fun j hj => absurd hj (by simp)
  have ho : oj 12 l = 3 := (by decide : ∀ l, l < 7 → 3 ≤ l → oj 12 l = 3) l hl h3
  rw [ho] at hm hp
  have hsh := pw_sh l hl
  have hw64 := pw_l7 hl
  have hwe := pw_ev h3
  unfold jPo gJ at hp
  show xm_T (XE sc) (d + 7) 8 _ h post
  obtain ⟨w, hw⟩ : ∃ w, 2 ^ l = w := ⟨_, rfl⟩
  rw [hw] at hsh hw64 hp hwe
  refine xq_in rfl ?_
  simp only [xq_a0, xq_aI, xq_aJ, xq_aR, Nat.reduceAdd]
  have E : cE h G c h G c := cE_rf
  with_reducible refine xm_go_blk b_X0_comparing_0 k_X0_comparing_0 ?_
  refine by_iconst ci_1 ?_
  refine by_iload_n rfl ?_
  refine by_ishl ?_
  refine by_istore_n (by rw [ml_8]; decide) ?_
  refine by_aload_n rfl ?_
  refine by_aload_n rfl ?_
  refine by_iload_n rfl ?_
  refine by_iload_n rfl ?_
  simp (disch := first | exact Nat.ne_of_beq_eq_false rfl | exact rfl | omega) only [nI_add, xa_sub, xa_mul, pk_div, nm_mod, xa_shr, xa_and7, xa_and1, xa_and255, xa_by_and, nI_m1, Nat.add_sub_cancel, Nat.reducePow, Nat.zero_add, Nat.add_zero, Nat.reduceAdd, Nat.reduceMul, Nat.reduceSub, xf_same, xq_ff, xq_fo, xf_1, xf_2, xs_1, xs_2, xs_same, xq_so, xj_1, xj_2, xj_same, xq_jo, xq_sa1, xq_same, xq_other, upd_s, oI_n, oI_s, xv_0, xv_1, xv_2, xv_3, xm_p1, xm_p2, xq_fp, xq_fn, List.filter_nil, Nat.reduceBEq, Bool.not_true, Bool.not_false, Bool.and_true, Bool.and_false, Bool.false_and, Bool.true_and, if_true, if_false, Bool.false_eq_true, reduceIte, xc_i, xc_j, xc_r, xc_n, List.nil_append, List.cons_append, Option.toList_some, Option.toList_none, hsh]
  refine by_inv2 cn_8 lk_0_92 (by rw [xe_cnt]; decide) is_32 np_32 cn_32 (by first | exact rfl | assumption) (Nat.le_of_ble_eq_true rfl) ?_
  refine sp_second hF hI (by omega) (by omega) (fun h1 G1 c1 n1 F1 I1 e1 v1 => ?_)
  replace E := cE_tr E e1
  with_reducible refine xm_go_blk b_X0_comparing_11 k_X0_comparing_11 ?_
  refine by_aload_n rfl ?_
  refine by_iload_n rfl ?_
  refine by_iload_n rfl ?_
  refine by_inv2 cn_8 lk_0_95 (by rw [xe_cnt]; decide) is_15 np_15 cn_15 (by first | exact rfl | assumption) (Nat.le_of_ble_eq_true rfl) ?_
  refine sp_first F1 I1 (by omega) (by omega) (fun h2 G2 c2 n2 F2 I2 e2 v2 => ?_)
  replace v1 := nG_up v1 e2
  replace E := cE_tr E e2
  with_reducible refine xm_go_blk b_X0_comparing_17 k_X0_comparing_17 ?_
  refine by_inv2 cn_8 lk_0_80 (by rw [xe_cnt]; decide) is_25 np_25 cn_25 (by first | exact rfl | assumption) (Nat.le_of_ble_eq_true rfl) ?_
  refine sp_gpair F2 I2 (by omega) v1 v2 (by omega) (by omega) (fun h3 G3 c3 n3 F3 I3 e3 v3 => ?_)
  replace E := cE_tr E e3
  with_reducible refine xm_go_blk b_X0_comparing_20 k_X0_comparing_20 ?_
  refine by_istore (by rw [ml_8]; decide) ?_
  refine by_iload_n rfl ?_
  simp (disch := first | exact Nat.ne_of_beq_eq_false rfl | exact rfl | omega) only [nI_add, xa_sub, xa_mul, pk_div, nm_mod, xa_shr, xa_and7, xa_and1, xa_and255, xa_by_and, nI_m1, Nat.add_sub_cancel, Nat.reducePow, Nat.zero_add, Nat.add_zero, Nat.reduceAdd, Nat.reduceMul, Nat.reduceSub, xf_same, xq_ff, xq_fo, xf_1, xf_2, xs_1, xs_2, xs_same, xq_so, xj_1, xj_2, xj_same, xq_jo, xq_sa1, xq_same, xq_other, upd_s, oI_n, oI_s, hsh]
  refine by_sw ?_
  simp (disch := first | exact Nat.ne_of_beq_eq_false rfl | exact rfl | omega) only [nI_add, xa_sub, xa_mul, pk_div, nm_mod, xa_shr, xa_and7, xa_and1, xa_and255, xa_by_and, nI_m1, Nat.add_sub_cancel, Nat.reducePow, Nat.zero_add, Nat.add_zero, Nat.reduceAdd, Nat.reduceMul, Nat.reduceSub, xf_same, xq_ff, xq_fo, xf_1, xf_2, xs_1, xs_2, xs_same, xq_so, xj_1, xj_2, xj_same, xq_jo, xq_sa1, xq_same, xq_other, upd_s, oI_n, oI_s, xv_0, xv_1, xv_2, xv_3, xm_p1, xm_p2, xq_fp, xq_fn, List.filter_nil, Nat.reduceBEq, Bool.not_true, Bool.not_false, Bool.and_true, Bool.and_false, Bool.false_and, Bool.true_and, if_true, if_false, Bool.false_eq_true, reduceIte, xc_i, xc_j, xc_r, xc_n, List.nil_append, List.cons_append, Option.toList_some, Option.toList_none, hsh]
  refine xq_sw 199 (by decide) (by decide) ?_
  with_reducible refine xm_go_blk b_X0_comparing_199 k_X0_comparing_199 ?_
  refine by_aload_n rfl ?_
  refine by_bipush cb_23 ?_
  refine by_iload_n rfl ?_
  refine by_inv2 cn_8 lk_0_83 (by rw [xe_cnt]; decide) is_26 np_26 cn_26 (by first | exact rfl | assumption) (Nat.le_of_ble_eq_true rfl) ?_
  refine sp_pc (a := 2) hP ⟨by omega, by omega, by omega⟩ rfl (by omega) hJ (by omega) F3 I3 (fun h4 G4 c4 n4 F4 I4 e4 p4 => ?_)
  obtain ⟨f4, v4, s4⟩ := p4
  simp only [pS, pT, pSp, Nat.reducePow, hw] at v4 s4
  replace E := cE_tr E e4
  with_reducible refine xm_go_blk b_X0_comparing_206 k_X0_comparing_206 ?_
  refine by_iret ry_8 (by first | rfl | assumption) ?_
  refine hp _ _ _ _ F4 (cI_mono I4 (by omega) hm) E ⟨_, nG_cg v4 (by show _ = 2 * w; omega) (by show _ = 1; omega) (fun _ _ => rfl) ?_, jsp_4 rfl ?_⟩
  · subst hw
    rcases (by omega : l = 3 ∨ l = 4 ∨ l = 5 ∨ l = 6) with rfl | rfl | rfl | rfl <;> decide
  · intro x y hx hy
    show f4 (x ++ y) = bbits 1 (if bnum x = bnum y then 1 else 0)
    rw [s4 x y hx hy, b1_d, bn_eq (by omega)]
theorem jd_13 {l : Nat} (h3 : 3 ≤ l) (hl : l < 7) : JdOK sc 13 l := by
  intro d c m h G post hP hd hF hI hm hp
  have hr' : (11 : Nat) = 11 := rfl
  have hJ : ∀ j ∈ ([] : List Nat), 11 ≤ pH j := fun j hj => absurd hj (by simp)
  have ho : oj 13 l = 3 := (by decide : ∀ l, l < 7 → 3 ≤ l → oj 13 l = 3) l hl h3
  rw [ho] at hm hp
  have hsh := pw_sh l hl
  have hw64 := pw_l7 hl
  have hwe := pw_ev h3
  unfold jPo gJ at hp
  show xm_T (XE sc) (d + 7) 8 _ h post
  obtain ⟨w, hw⟩ : ∃ w, 2 ^ l = w := ⟨_, rfl⟩
  rw [hw] at hsh hw64 hp hwe
  refine xq_in rfl ?_
  simp only [xq_a0, xq_aI, xq_aJ, xq_aR, Nat.reduceAdd]
  have E : cE h G c h G c := cE_rf
  with_reducible refine xm_go_blk b_X0_comparing_0 k_X0_comparing_0 ?_
  refine by_iconst ci_1 ?_
  refine by_iload_n rfl ?_
  refine by_ishl ?_
  refine by_istore_n (by rw [ml_8]; decide) ?_
  refine by_aload_n rfl ?_
  refine by_aload_n rfl ?_
  refine by_iload_n rfl ?_
  refine by_iload_n rfl ?_
  simp (disch := first | exact Nat.ne_of_beq_eq_false rfl | exact rfl | omega) only [nI_add, xa_sub, xa_mul, pk_div, nm_mod, xa_shr, xa_and7, xa_and1, xa_and255, xa_by_and, nI_m1, Nat.add_sub_cancel, Nat.reducePow, Nat.zero_add, Nat.add_zero, Nat.reduceAdd, Nat.reduceMul, Nat.reduceSub, xf_same, xq_ff, xq_fo, xf_1, xf_2, xs_1, xs_2, xs_same, xq_so, xj_1, xj_2, xj_same, xq_jo, xq_sa1, xq_same, xq_other, upd_s, oI_n, oI_s, xv_0, xv_1, xv_2, xv_3, xm_p1, xm_p2, xq_fp, xq_fn, List.filter_nil, Nat.reduceBEq, Bool.not_true, Bool.not_false, Bool.and_true, Bool.and_false, Bool.false_and, Bool.true_and, if_true, if_false, Bool.false_eq_true, reduceIte, xc_i, xc_j, xc_r, xc_n, List.nil_append, List.cons_append, Option.toList_some, Option.toList_none, hsh]
  refine by_inv2 cn_8 lk_0_92 (by rw [xe_cnt]; decide) is_32 np_32 cn_32 (by first | exact rfl | assumption) (Nat.le_of_ble_eq_true rfl) ?_
  refine sp_second hF hI (by omega) (by omega) (fun h1 G1 c1 n1 F1 I1 e1 v1 => ?_)
  replace E := cE_tr E e1
  with_reducible refine xm_go_blk b_X0_comparing_11 k_X0_comparing_11 ?_
  refine by_aload_n rfl ?_
  refine by_iload_n rfl ?_
  refine by_iload_n rfl ?_
  refine by_inv2 cn_8 lk_0_95 (by rw [xe_cnt]; decide) is_15 np_15 cn_15 (by first | exact rfl | assumption) (Nat.le_of_ble_eq_true rfl) ?_
  refine sp_first F1 I1 (by omega) (by omega) (fun h2 G2 c2 n2 F2 I2 e2 v2 => ?_)
  replace v1 := nG_up v1 e2
  replace E := cE_tr E e2
  with_reducible refine xm_go_blk b_X0_comparing_17 k_X0_comparing_17 ?_
  refine by_inv2 cn_8 lk_0_80 (by rw [xe_cnt]; decide) is_25 np_25 cn_25 (by first | exact rfl | assumption) (Nat.le_of_ble_eq_true rfl) ?_
  refine sp_gpair F2 I2 (by omega) v1 v2 (by omega) (by omega) (fun h3 G3 c3 n3 F3 I3 e3 v3 => ?_)
  replace E := cE_tr E e3
  with_reducible refine xm_go_blk b_X0_comparing_20 k_X0_comparing_20 ?_
  refine by_istore (by rw [ml_8]; decide) ?_
  refine by_iload_n rfl ?_
  simp (disch := first | exact Nat.ne_of_beq_eq_false rfl | exact rfl | omega) only [nI_add, xa_sub, xa_mul, pk_div, nm_mod, xa_shr, xa_and7, xa_and1, xa_and255, xa_by_and, nI_m1, Nat.add_sub_cancel, Nat.reducePow, Nat.zero_add, Nat.add_zero, Nat.reduceAdd, Nat.reduceMul, Nat.reduceSub, xf_same, xq_ff, xq_fo, xf_1, xf_2, xs_1, xs_2, xs_same, xq_so, xj_1, xj_2, xj_same, xq_jo, xq_sa1, xq_same, xq_other, upd_s, oI_n, oI_s, hsh]
  refine by_sw ?_
  simp (disch := first | exact Nat.ne_of_beq_eq_false rfl | exact rfl | omega) only [nI_add, xa_sub, xa_mul, pk_div, nm_mod, xa_shr, xa_and7, xa_and1, xa_and255, xa_by_and, nI_m1, Nat.add_sub_cancel, Nat.reducePow, Nat.zero_add, Nat.add_zero, Nat.reduceAdd, Nat.reduceMul, Nat.reduceSub, xf_same, xq_ff, xq_fo, xf_1, xf_2, xs_1, xs_2, xs_same, xq_so, xj_1, xj_2, xj_same, xq_jo, xq_sa1, xq_same, xq_other, upd_s, oI_n, oI_s, xv_0, xv_1, xv_2, xv_3, xm_p1, xm_p2, xq_fp, xq_fn, List.filter_nil, Nat.reduceBEq, Bool.not_true, Bool.not_false, Bool.and_true, Bool.and_false, Bool.false_and, Bool.true_and, if_true, if_false, Bool.false_eq_true, reduceIte, xc_i, xc_j, xc_r, xc_n, List.nil_append, List.cons_append, Option.toList_some, Option.toList_none, hsh]
  refine xq_sw 207 (by decide) (by decide) ?_
  with_reducible refine xm_go_blk b_X0_comparing_207 k_X0_comparing_207 ?_
  refine by_aload_n rfl ?_
  refine by_bipush cb_24 ?_
  refine by_iload_n rfl ?_
  refine by_inv2 cn_8 lk_0_83 (by rw [xe_cnt]; decide) is_26 np_26 cn_26 (by first | exact rfl | assumption) (Nat.le_of_ble_eq_true rfl) ?_
  refine sp_pc (a := 2) hP ⟨by omega, by omega, by omega⟩ rfl (by omega) hJ (by omega) F3 I3 (fun h4 G4 c4 n4 F4 I4 e4 p4 => ?_)
  obtain ⟨f4, v4, s4⟩ := p4
  simp only [pS, pT, pSp, Nat.reducePow, hw] at v4 s4
  replace E := cE_tr E e4
  with_reducible refine xm_go_blk b_X0_comparing_214 k_X0_comparing_214 ?_
  refine by_iret ry_8 (by first | rfl | assumption) ?_
  refine hp _ _ _ _ F4 (cI_mono I4 (by omega) hm) E ⟨_, nG_cg v4 (by show _ = 2 * w; omega) (by show _ = 1; omega) (fun _ _ => rfl) ?_, jsp_4 rfl ?_⟩
  · subst hw
    rcases (by omega : l = 3 ∨ l = 4 ∨ l = 5 ∨ l = 6) with rfl | rfl | rfl | rfl <;> decide
  · intro x y hx hy
    show f4 (x ++ y) = bbits 1 (if bnum x < bnum y then 1 else 0)
    rw [s4 x y hx hy, b1_d]
theorem jd_14 {l : Nat} (h3 : 3 ≤ l) (hl : l < 7) : JdOK sc 14 l := by
  intro d c m h G post hP hd hF hI hm hp
  have hr' : (11 : Nat) = 11 := rfl
  have hJ : ∀ j ∈ ([] : List Nat), 11 ≤ pH j := fun j hj => absurd hj (by simp)
  have ho : oj 14 l = 7 := (by decide : ∀ l, l < 7 → 3 ≤ l → oj 14 l = 7) l hl h3
  rw [ho] at hm hp
  have hsh := pw_sh l hl
  have hw64 := pw_l7 hl
  have hwe := pw_ev h3
  unfold jPo gJ at hp
  show xm_T (XE sc) (d + 7) 8 _ h post
  obtain ⟨w, hw⟩ : ∃ w, 2 ^ l = w := ⟨_, rfl⟩
  rw [hw] at hsh hw64 hp hwe
  refine xq_in rfl ?_
  simp only [xq_a0, xq_aI, xq_aJ, xq_aR, Nat.reduceAdd]
  have E : cE h G c h G c := cE_rf
  with_reducible refine xm_go_blk b_X0_comparing_0 k_X0_comparing_0 ?_
  refine by_iconst ci_1 ?_
  refine by_iload_n rfl ?_
  refine by_ishl ?_
  refine by_istore_n (by rw [ml_8]; decide) ?_
  refine by_aload_n rfl ?_
  refine by_aload_n rfl ?_
  refine by_iload_n rfl ?_
  refine by_iload_n rfl ?_
  simp (disch := first | exact Nat.ne_of_beq_eq_false rfl | exact rfl | omega) only [nI_add, xa_sub, xa_mul, pk_div, nm_mod, xa_shr, xa_and7, xa_and1, xa_and255, xa_by_and, nI_m1, Nat.add_sub_cancel, Nat.reducePow, Nat.zero_add, Nat.add_zero, Nat.reduceAdd, Nat.reduceMul, Nat.reduceSub, xf_same, xq_ff, xq_fo, xf_1, xf_2, xs_1, xs_2, xs_same, xq_so, xj_1, xj_2, xj_same, xq_jo, xq_sa1, xq_same, xq_other, upd_s, oI_n, oI_s, xv_0, xv_1, xv_2, xv_3, xm_p1, xm_p2, xq_fp, xq_fn, List.filter_nil, Nat.reduceBEq, Bool.not_true, Bool.not_false, Bool.and_true, Bool.and_false, Bool.false_and, Bool.true_and, if_true, if_false, Bool.false_eq_true, reduceIte, xc_i, xc_j, xc_r, xc_n, List.nil_append, List.cons_append, Option.toList_some, Option.toList_none, hsh]
  refine by_inv2 cn_8 lk_0_92 (by rw [xe_cnt]; decide) is_32 np_32 cn_32 (by first | exact rfl | assumption) (Nat.le_of_ble_eq_true rfl) ?_
  refine sp_second hF hI (by omega) (by omega) (fun h1 G1 c1 n1 F1 I1 e1 v1 => ?_)
  replace E := cE_tr E e1
  with_reducible refine xm_go_blk b_X0_comparing_11 k_X0_comparing_11 ?_
  refine by_aload_n rfl ?_
  refine by_iload_n rfl ?_
  refine by_iload_n rfl ?_
  refine by_inv2 cn_8 lk_0_95 (by rw [xe_cnt]; decide) is_15 np_15 cn_15 (by first | exact rfl | assumption) (Nat.le_of_ble_eq_true rfl) ?_
  refine sp_first F1 I1 (by omega) (by omega) (fun h2 G2 c2 n2 F2 I2 e2 v2 => ?_)
  replace v1 := nG_up v1 e2
  replace E := cE_tr E e2
  with_reducible refine xm_go_blk b_X0_comparing_17 k_X0_comparing_17 ?_
  refine by_inv2 cn_8 lk_0_80 (by rw [xe_cnt]; decide) is_25 np_25 cn_25 (by first | exact rfl | assumption) (Nat.le_of_ble_eq_true rfl) ?_
  refine sp_gpair F2 I2 (by omega) v1 v2 (by omega) (by omega) (fun h3 G3 c3 n3 F3 I3 e3 v3 => ?_)
  replace E := cE_tr E e3
  with_reducible refine xm_go_blk b_X0_comparing_20 k_X0_comparing_20 ?_
  refine by_istore (by rw [ml_8]; decide) ?_
  refine by_iload_n rfl ?_
  simp (disch := first | exact Nat.ne_of_beq_eq_false rfl | exact rfl | omega) only [nI_add, xa_sub, xa_mul, pk_div, nm_mod, xa_shr, xa_and7, xa_and1, xa_and255, xa_by_and, nI_m1, Nat.add_sub_cancel, Nat.reducePow, Nat.zero_add, Nat.add_zero, Nat.reduceAdd, Nat.reduceMul, Nat.reduceSub, xf_same, xq_ff, xq_fo, xf_1, xf_2, xs_1, xs_2, xs_same, xq_so, xj_1, xj_2, xj_same, xq_jo, xq_sa1, xq_same, xq_other, upd_s, oI_n, oI_s, hsh]
  refine by_sw ?_
  simp (disch := first | exact Nat.ne_of_beq_eq_false rfl | exact rfl | omega) only [nI_add, xa_sub, xa_mul, pk_div, nm_mod, xa_shr, xa_and7, xa_and1, xa_and255, xa_by_and, nI_m1, Nat.add_sub_cancel, Nat.reducePow, Nat.zero_add, Nat.add_zero, Nat.reduceAdd, Nat.reduceMul, Nat.reduceSub, xf_same, xq_ff, xq_fo, xf_1, xf_2, xs_1, xs_2, xs_same, xq_so, xj_1, xj_2, xj_same, xq_jo, xq_sa1, xq_same, xq_other, upd_s, oI_n, oI_s, xv_0, xv_1, xv_2, xv_3, xm_p1, xm_p2, xq_fp, xq_fn, List.filter_nil, Nat.reduceBEq, Bool.not_true, Bool.not_false, Bool.and_true, Bool.and_false, Bool.false_and, Bool.true_and, if_true, if_false, Bool.false_eq_true, reduceIte, xc_i, xc_j, xc_r, xc_n, List.nil_append, List.cons_append, Option.toList_some, Option.toList_none, hsh]
  refine xq_sw 215 (by decide) (by decide) ?_
  with_reducible refine xm_go_blk b_X0_comparing_215 k_X0_comparing_215 ?_
  refine by_aload_n rfl ?_
  refine by_iload rfl ?_
  refine by_aload_n rfl ?_
  refine by_aload_n rfl ?_
  refine by_bipush cb_24 ?_
  refine by_iload_n rfl ?_
  refine by_inv2 cn_8 lk_0_83 (by rw [xe_cnt]; decide) is_26 np_26 cn_26 (by first | exact rfl | assumption) (Nat.le_of_ble_eq_true rfl) ?_
  refine sp_pc (a := 2) hP ⟨by omega, by omega, by omega⟩ rfl (by omega) hJ (by omega) F3 I3 (fun h4 G4 c4 n4 F4 I4 e4 p4 => ?_)
  obtain ⟨f4, v4, s4⟩ := p4
  simp only [pS, pT, pSp, Nat.reducePow, hw] at v4 s4
  replace v3 := nG_up v3 e4
  replace E := cE_tr E e4
  with_reducible refine xm_go_blk b_X0_comparing_226 k_X0_comparing_226 ?_
  refine by_aload_n rfl ?_
  refine by_bipush cb_6 ?_
  refine by_iconst ci_0 ?_
  refine by_inv2 cn_8 lk_0_83 (by rw [xe_cnt]; decide) is_26 np_26 cn_26 (by first | exact rfl | assumption) (Nat.le_of_ble_eq_true rfl) ?_
  refine sp_pc (a := 0) hP ⟨by omega, by omega, by omega⟩ rfl (by omega) hJ (by omega) F4 I4 (fun h5 G5 c5 n5 F5 I5 e5 p5 => ?_)
  obtain ⟨f5, v5, s5⟩ := p5
  simp only [pS, pT, pSp, Nat.reducePow, hw] at v5 s5
  replace v5 := nG_cg v5 rfl rfl (fun x hx => s5 x hx) (qle_rf _)
  replace v3 := nG_up v3 e5
  replace v4 := nG_up v4 e5
  replace E := cE_tr E e5
  with_reducible refine xm_go_blk b_X0_comparing_233 k_X0_comparing_233 ?_
  refine by_inv2 cn_8 lk_0_86 (by rw [xe_cnt]; decide) is_7 np_7 cn_7 (by first | exact rfl | assumption) (Nat.le_of_ble_eq_true rfl) ?_
  refine sp_gcomp F5 I5 (by omega) v4 v5 (by omega) (fun h6 G6 c6 n6 F6 I6 e6 v6 => ?_)
  replace v3 := nG_up v3 e6
  replace E := cE_tr E e6
  with_reducible refine xm_go_blk b_X0_comparing_236 k_X0_comparing_236 ?_
  refine by_inv2 cn_8 lk_0_86 (by rw [xe_cnt]; decide) is_7 np_7 cn_7 (by first | exact rfl | assumption) (Nat.le_of_ble_eq_true rfl) ?_
  refine sp_gcomp F6 I6 (by omega) v3 v6 (by omega) (fun h7 G7 c7 n7 F7 I7 e7 v7 => ?_)
  replace E := cE_tr E e7
  with_reducible refine xm_go_blk b_X0_comparing_239 k_X0_comparing_239 ?_
  refine by_iret ry_8 (by first | rfl | assumption) ?_
  refine hp _ _ _ _ F7 (cI_mono I7 (by omega) hm) E ⟨_, nG_cg v7 (by show _ = 2 * w; omega) (by show _ = 1; omega) (fun _ _ => rfl) ?_, jsp_4 rfl ?_⟩
  · subst hw
    rcases (by omega : l = 3 ∨ l = 4 ∨ l = 5 ∨ l = 6) with rfl | rfl | rfl | rfl <;> decide
  · intro x y hx hy
    show (f4 ((x ++ y).drop w ++ (x ++ y).take w)).map not = bbits 1 (if bnum x ≤ bnum y then 1 else 0)
    rw [li_da hx.symm, li_ka hx.symm, s4 y x hy hx, b1_d]
    by_cases e : bnum y < bnum x
    · have : ¬ bnum x ≤ bnum y := by omega
      simp [e, this]
    · have : bnum x ≤ bnum y := by omega
      simp [e, this]
theorem jd_15 {l : Nat} (h3 : 3 ≤ l) (hl : l < 7) : JdOK sc 15 l := by
  intro d c m h G post hP hd hF hI hm hp
  have hr' : (11 : Nat) = 11 := rfl
  have hJ : ∀ j ∈ ([] : List Nat), 11 ≤ pH j := fun j hj => absurd hj (by simp)
  have ho : oj 15 l = 8 := (by decide : ∀ l, l < 7 → 3 ≤ l → oj 15 l = 8) l hl h3
  rw [ho] at hm hp
  have hsh := pw_sh l hl
  have hw64 := pw_l7 hl
  have hwe := pw_ev h3
  unfold jPo gJ at hp
  show xm_T (XE sc) (d + 7) 8 _ h post
  obtain ⟨w, hw⟩ : ∃ w, 2 ^ l = w := ⟨_, rfl⟩
  rw [hw] at hsh hw64 hp hwe
  refine xq_in rfl ?_
  simp only [xq_a0, xq_aI, xq_aJ, xq_aR, Nat.reduceAdd]
  have E : cE h G c h G c := cE_rf
  with_reducible refine xm_go_blk b_X0_comparing_0 k_X0_comparing_0 ?_
  refine by_iconst ci_1 ?_
  refine by_iload_n rfl ?_
  refine by_ishl ?_
  refine by_istore_n (by rw [ml_8]; decide) ?_
  refine by_aload_n rfl ?_
  refine by_aload_n rfl ?_
  refine by_iload_n rfl ?_
  refine by_iload_n rfl ?_
  simp (disch := first | exact Nat.ne_of_beq_eq_false rfl | exact rfl | omega) only [nI_add, xa_sub, xa_mul, pk_div, nm_mod, xa_shr, xa_and7, xa_and1, xa_and255, xa_by_and, nI_m1, Nat.add_sub_cancel, Nat.reducePow, Nat.zero_add, Nat.add_zero, Nat.reduceAdd, Nat.reduceMul, Nat.reduceSub, xf_same, xq_ff, xq_fo, xf_1, xf_2, xs_1, xs_2, xs_same, xq_so, xj_1, xj_2, xj_same, xq_jo, xq_sa1, xq_same, xq_other, upd_s, oI_n, oI_s, xv_0, xv_1, xv_2, xv_3, xm_p1, xm_p2, xq_fp, xq_fn, List.filter_nil, Nat.reduceBEq, Bool.not_true, Bool.not_false, Bool.and_true, Bool.and_false, Bool.false_and, Bool.true_and, if_true, if_false, Bool.false_eq_true, reduceIte, xc_i, xc_j, xc_r, xc_n, List.nil_append, List.cons_append, Option.toList_some, Option.toList_none, hsh]
  refine by_inv2 cn_8 lk_0_92 (by rw [xe_cnt]; decide) is_32 np_32 cn_32 (by first | exact rfl | assumption) (Nat.le_of_ble_eq_true rfl) ?_
  refine sp_second hF hI (by omega) (by omega) (fun h1 G1 c1 n1 F1 I1 e1 v1 => ?_)
  replace E := cE_tr E e1
  with_reducible refine xm_go_blk b_X0_comparing_11 k_X0_comparing_11 ?_
  refine by_aload_n rfl ?_
  refine by_iload_n rfl ?_
  refine by_iload_n rfl ?_
  refine by_inv2 cn_8 lk_0_95 (by rw [xe_cnt]; decide) is_15 np_15 cn_15 (by first | exact rfl | assumption) (Nat.le_of_ble_eq_true rfl) ?_
  refine sp_first F1 I1 (by omega) (by omega) (fun h2 G2 c2 n2 F2 I2 e2 v2 => ?_)
  replace v1 := nG_up v1 e2
  replace E := cE_tr E e2
  with_reducible refine xm_go_blk b_X0_comparing_17 k_X0_comparing_17 ?_
  refine by_inv2 cn_8 lk_0_80 (by rw [xe_cnt]; decide) is_25 np_25 cn_25 (by first | exact rfl | assumption) (Nat.le_of_ble_eq_true rfl) ?_
  refine sp_gpair F2 I2 (by omega) v1 v2 (by omega) (by omega) (fun h3 G3 c3 n3 F3 I3 e3 v3 => ?_)
  replace E := cE_tr E e3
  with_reducible refine xm_go_blk b_X0_comparing_20 k_X0_comparing_20 ?_
  refine by_istore (by rw [ml_8]; decide) ?_
  refine by_iload_n rfl ?_
  simp (disch := first | exact Nat.ne_of_beq_eq_false rfl | exact rfl | omega) only [nI_add, xa_sub, xa_mul, pk_div, nm_mod, xa_shr, xa_and7, xa_and1, xa_and255, xa_by_and, nI_m1, Nat.add_sub_cancel, Nat.reducePow, Nat.zero_add, Nat.add_zero, Nat.reduceAdd, Nat.reduceMul, Nat.reduceSub, xf_same, xq_ff, xq_fo, xf_1, xf_2, xs_1, xs_2, xs_same, xq_so, xj_1, xj_2, xj_same, xq_jo, xq_sa1, xq_same, xq_other, upd_s, oI_n, oI_s, hsh]
  refine by_sw ?_
  simp (disch := first | exact Nat.ne_of_beq_eq_false rfl | exact rfl | omega) only [nI_add, xa_sub, xa_mul, pk_div, nm_mod, xa_shr, xa_and7, xa_and1, xa_and255, xa_by_and, nI_m1, Nat.add_sub_cancel, Nat.reducePow, Nat.zero_add, Nat.add_zero, Nat.reduceAdd, Nat.reduceMul, Nat.reduceSub, xf_same, xq_ff, xq_fo, xf_1, xf_2, xs_1, xs_2, xs_same, xq_so, xj_1, xj_2, xj_same, xq_jo, xq_sa1, xq_same, xq_other, upd_s, oI_n, oI_s, xv_0, xv_1, xv_2, xv_3, xm_p1, xm_p2, xq_fp, xq_fn, List.filter_nil, Nat.reduceBEq, Bool.not_true, Bool.not_false, Bool.and_true, Bool.and_false, Bool.false_and, Bool.true_and, if_true, if_false, Bool.false_eq_true, reduceIte, xc_i, xc_j, xc_r, xc_n, List.nil_append, List.cons_append, Option.toList_some, Option.toList_none, hsh]
  refine xq_sw 240 (by decide) (by decide) ?_
  with_reducible refine xm_go_blk b_X0_comparing_240 k_X0_comparing_240 ?_
  refine by_aload_n rfl ?_
  refine by_bipush cb_15 ?_
  refine by_iload_n rfl ?_
  refine by_inv2 cn_8 lk_0_83 (by rw [xe_cnt]; decide) is_26 np_26 cn_26 (by first | exact rfl | assumption) (Nat.le_of_ble_eq_true rfl) ?_
  refine sp_pc (a := 0) hP ⟨by omega, by omega, by omega⟩ rfl (by omega) hJ (by omega) F3 I3 (fun h4 G4 c4 n4 F4 I4 e4 p4 => ?_)
  obtain ⟨f4, v4, s4⟩ := p4
  simp only [pS, pT, pSp, Nat.reducePow, hw] at v4 s4
  replace v4 := nG_cg v4 rfl rfl (fun x hx => s4 x hx) (qle_rf _)
  replace E := cE_tr E e4
  with_reducible refine xm_go_blk b_X0_comparing_247 k_X0_comparing_247 ?_
  refine by_istore (by rw [ml_8]; decide) ?_
  refine by_aload_n rfl ?_
  refine by_aload_n rfl ?_
  refine by_aload_n rfl ?_
  refine by_iload rfl ?_
  refine by_iload_n rfl ?_
  simp (disch := first | exact Nat.ne_of_beq_eq_false rfl | exact rfl | omega) only [nI_add, xa_sub, xa_mul, pk_div, nm_mod, xa_shr, xa_and7, xa_and1, xa_and255, xa_by_and, nI_m1, Nat.add_sub_cancel, Nat.reducePow, Nat.zero_add, Nat.add_zero, Nat.reduceAdd, Nat.reduceMul, Nat.reduceSub, xf_same, xq_ff, xq_fo, xf_1, xf_2, xs_1, xs_2, xs_same, xq_so, xj_1, xj_2, xj_same, xq_jo, xq_sa1, xq_same, xq_other, upd_s, oI_n, oI_s, xv_0, xv_1, xv_2, xv_3, xm_p1, xm_p2, xq_fp, xq_fn, List.filter_nil, Nat.reduceBEq, Bool.not_true, Bool.not_false, Bool.and_true, Bool.and_false, Bool.false_and, Bool.true_and, if_true, if_false, Bool.false_eq_true, reduceIte, xc_i, xc_j, xc_r, xc_n, List.nil_append, List.cons_append, Option.toList_some, Option.toList_none, hsh]
  refine by_inv2 cn_8 lk_0_101 (by rw [xe_cnt]; decide) is_33 np_33 cn_33 (by first | exact rfl | assumption) (Nat.le_of_ble_eq_true rfl) ?_
  refine sp_gtake F4 I4 (by omega) v4 (by omega) (fun h5 G5 c5 n5 F5 I5 e5 v5 => ?_)
  replace v4 := nG_up v4 e5
  replace E := cE_tr E e5
  with_reducible refine xm_go_blk b_X0_comparing_258 k_X0_comparing_258 ?_
  refine by_aload_n rfl ?_
  refine by_iload_n rfl ?_
  refine by_iload rfl ?_
  refine by_inv2 cn_8 lk_0_47 (by rw [xe_cnt]; decide) is_12 np_12 cn_12 (by first | exact rfl | assumption) (Nat.le_of_ble_eq_true rfl) ?_
  refine sp_gdrop F5 I5 (by omega) v4 (by omega) (fun h6 G6 c6 n6 F6 I6 e6 v6 => ?_)
  replace v5 := nG_up v5 e6
  replace E := cE_tr E e6
  with_reducible refine xm_go_blk b_X0_comparing_265 k_X0_comparing_265 ?_
  refine by_inv2 cn_8 lk_0_80 (by rw [xe_cnt]; decide) is_25 np_25 cn_25 (by first | exact rfl | assumption) (Nat.le_of_ble_eq_true rfl) ?_
  refine sp_gpair F6 I6 (by omega) v5 v6 (by omega) (by omega) (fun h7 G7 c7 n7 F7 I7 e7 v7 => ?_)
  replace E := cE_tr E e7
  with_reducible refine xm_go_blk b_X0_comparing_268 k_X0_comparing_268 ?_
  refine by_aload_n rfl ?_
  refine by_bipush cb_24 ?_
  refine by_iload_n rfl ?_
  refine by_inv2 cn_8 lk_0_83 (by rw [xe_cnt]; decide) is_26 np_26 cn_26 (by first | exact rfl | assumption) (Nat.le_of_ble_eq_true rfl) ?_
  refine sp_pc (a := 2) hP ⟨by omega, by omega, by omega⟩ rfl (by omega) hJ (by omega) F7 I7 (fun h8 G8 c8 n8 F8 I8 e8 p8 => ?_)
  obtain ⟨f8, v8, s8⟩ := p8
  simp only [pS, pT, pSp, Nat.reducePow, hw] at v8 s8
  replace v7 := nG_up v7 e8
  replace E := cE_tr E e8
  with_reducible refine xm_go_blk b_X0_comparing_275 k_X0_comparing_275 ?_
  refine by_inv2 cn_8 lk_0_86 (by rw [xe_cnt]; decide) is_7 np_7 cn_7 (by first | exact rfl | assumption) (Nat.le_of_ble_eq_true rfl) ?_
  refine sp_gcomp F8 I8 (by omega) v7 v8 (by omega) (fun h9 G9 c9 n9 F9 I9 e9 v9 => ?_)
  replace E := cE_tr E e9
  with_reducible refine xm_go_blk b_X0_comparing_278 k_X0_comparing_278 ?_
  refine by_iret ry_8 (by first | rfl | assumption) ?_
  refine hp _ _ _ _ F9 (cI_mono I9 (by omega) hm) E ⟨_, nG_cg v9 (by show _ = 2 * w; omega) (by show _ = 1; omega) (fun _ _ => rfl) ?_, jsp_4 rfl ?_⟩
  · subst hw
    rcases (by omega : l = 3 ∨ l = 4 ∨ l = 5 ∨ l = 6) with rfl | rfl | rfl | rfl <;> decide
  · intro x y hx hy
    show f8 (((((x ++ y).take w).take 1).map not ++ ((x ++ y).take w).drop 1) ++ ((((x ++ y).drop w).take 1).map not ++ ((x ++ y).drop w).drop 1)) = bbits 1 (if (bnum x + 2 ^ (w - 1)) % 2 ^ w < (bnum y + 2 ^ (w - 1)) % 2 ^ w then 1 else 0)
    rw [li_ka hx.symm, li_da hx.symm, s8 _ _ (by simp; omega) (by simp; omega), b1_d, bn_flip hx (by omega), bn_flip hy (by omega)]
theorem jd_16 {l : Nat} (h3 : 3 ≤ l) (hl : l < 7) : JdOK sc 16 l := by
  intro d c m h G post hP hd hF hI hm hp
  have hr' : (11 : Nat) = 11 := rfl
  have hJ : ∀ j ∈ ([] : List Nat), 11 ≤ pH j := fun j hj => absurd hj (by simp)
  have ho : oj 16 l = 3 := (by decide : ∀ l, l < 7 → 3 ≤ l → oj 16 l = 3) l hl h3
  rw [ho] at hm hp
  have hsh := pw_sh l hl
  have hw64 := pw_l7 hl
  have hwe := pw_ev h3
  unfold jPo gJ at hp
  show xm_T (XE sc) (d + 7) 8 _ h post
  obtain ⟨w, hw⟩ : ∃ w, 2 ^ l = w := ⟨_, rfl⟩
  rw [hw] at hsh hw64 hp hwe
  refine xq_in rfl ?_
  simp only [xq_a0, xq_aI, xq_aJ, xq_aR, Nat.reduceAdd]
  have E : cE h G c h G c := cE_rf
  with_reducible refine xm_go_blk b_X0_comparing_0 k_X0_comparing_0 ?_
  refine by_iconst ci_1 ?_
  refine by_iload_n rfl ?_
  refine by_ishl ?_
  refine by_istore_n (by rw [ml_8]; decide) ?_
  refine by_aload_n rfl ?_
  refine by_aload_n rfl ?_
  refine by_iload_n rfl ?_
  refine by_iload_n rfl ?_
  simp (disch := first | exact Nat.ne_of_beq_eq_false rfl | exact rfl | omega) only [nI_add, xa_sub, xa_mul, pk_div, nm_mod, xa_shr, xa_and7, xa_and1, xa_and255, xa_by_and, nI_m1, Nat.add_sub_cancel, Nat.reducePow, Nat.zero_add, Nat.add_zero, Nat.reduceAdd, Nat.reduceMul, Nat.reduceSub, xf_same, xq_ff, xq_fo, xf_1, xf_2, xs_1, xs_2, xs_same, xq_so, xj_1, xj_2, xj_same, xq_jo, xq_sa1, xq_same, xq_other, upd_s, oI_n, oI_s, xv_0, xv_1, xv_2, xv_3, xm_p1, xm_p2, xq_fp, xq_fn, List.filter_nil, Nat.reduceBEq, Bool.not_true, Bool.not_false, Bool.and_true, Bool.and_false, Bool.false_and, Bool.true_and, if_true, if_false, Bool.false_eq_true, reduceIte, xc_i, xc_j, xc_r, xc_n, List.nil_append, List.cons_append, Option.toList_some, Option.toList_none, hsh]
  refine by_inv2 cn_8 lk_0_92 (by rw [xe_cnt]; decide) is_32 np_32 cn_32 (by first | exact rfl | assumption) (Nat.le_of_ble_eq_true rfl) ?_
  refine sp_second hF hI (by omega) (by omega) (fun h1 G1 c1 n1 F1 I1 e1 v1 => ?_)
  replace E := cE_tr E e1
  with_reducible refine xm_go_blk b_X0_comparing_11 k_X0_comparing_11 ?_
  refine by_aload_n rfl ?_
  refine by_iload_n rfl ?_
  refine by_iload_n rfl ?_
  refine by_inv2 cn_8 lk_0_95 (by rw [xe_cnt]; decide) is_15 np_15 cn_15 (by first | exact rfl | assumption) (Nat.le_of_ble_eq_true rfl) ?_
  refine sp_first F1 I1 (by omega) (by omega) (fun h2 G2 c2 n2 F2 I2 e2 v2 => ?_)
  replace v1 := nG_up v1 e2
  replace E := cE_tr E e2
  with_reducible refine xm_go_blk b_X0_comparing_17 k_X0_comparing_17 ?_
  refine by_inv2 cn_8 lk_0_80 (by rw [xe_cnt]; decide) is_25 np_25 cn_25 (by first | exact rfl | assumption) (Nat.le_of_ble_eq_true rfl) ?_
  refine sp_gpair F2 I2 (by omega) v1 v2 (by omega) (by omega) (fun h3 G3 c3 n3 F3 I3 e3 v3 => ?_)
  replace E := cE_tr E e3
  with_reducible refine xm_go_blk b_X0_comparing_20 k_X0_comparing_20 ?_
  refine by_istore (by rw [ml_8]; decide) ?_
  refine by_iload_n rfl ?_
  simp (disch := first | exact Nat.ne_of_beq_eq_false rfl | exact rfl | omega) only [nI_add, xa_sub, xa_mul, pk_div, nm_mod, xa_shr, xa_and7, xa_and1, xa_and255, xa_by_and, nI_m1, Nat.add_sub_cancel, Nat.reducePow, Nat.zero_add, Nat.add_zero, Nat.reduceAdd, Nat.reduceMul, Nat.reduceSub, xf_same, xq_ff, xq_fo, xf_1, xf_2, xs_1, xs_2, xs_same, xq_so, xj_1, xj_2, xj_same, xq_jo, xq_sa1, xq_same, xq_other, upd_s, oI_n, oI_s, hsh]
  refine by_sw ?_
  simp (disch := first | exact Nat.ne_of_beq_eq_false rfl | exact rfl | omega) only [nI_add, xa_sub, xa_mul, pk_div, nm_mod, xa_shr, xa_and7, xa_and1, xa_and255, xa_by_and, nI_m1, Nat.add_sub_cancel, Nat.reducePow, Nat.zero_add, Nat.add_zero, Nat.reduceAdd, Nat.reduceMul, Nat.reduceSub, xf_same, xq_ff, xq_fo, xf_1, xf_2, xs_1, xs_2, xs_same, xq_so, xj_1, xj_2, xj_same, xq_jo, xq_sa1, xq_same, xq_other, upd_s, oI_n, oI_s, xv_0, xv_1, xv_2, xv_3, xm_p1, xm_p2, xq_fp, xq_fn, List.filter_nil, Nat.reduceBEq, Bool.not_true, Bool.not_false, Bool.and_true, Bool.and_false, Bool.false_and, Bool.true_and, if_true, if_false, Bool.false_eq_true, reduceIte, xc_i, xc_j, xc_r, xc_n, List.nil_append, List.cons_append, Option.toList_some, Option.toList_none, hsh]
  refine xq_sw 279 (by decide) (by decide) ?_
  with_reducible refine xm_go_blk b_X0_comparing_279 k_X0_comparing_279 ?_
  refine by_aload_n rfl ?_
  refine by_bipush cb_25 ?_
  refine by_iload_n rfl ?_
  refine by_inv2 cn_8 lk_0_83 (by rw [xe_cnt]; decide) is_26 np_26 cn_26 (by first | exact rfl | assumption) (Nat.le_of_ble_eq_true rfl) ?_
  refine sp_pc (a := 3) hP ⟨by omega, by omega, by omega⟩ rfl (by omega) hJ (by omega) F3 I3 (fun h4 G4 c4 n4 F4 I4 e4 p4 => ?_)
  obtain ⟨f4, v4, s4⟩ := p4
  simp only [pS, pT, pSp, Nat.reducePow, hw] at v4 s4
  replace E := cE_tr E e4
  with_reducible refine xm_go_blk b_X0_comparing_286 k_X0_comparing_286 ?_
  refine by_iret ry_8 (by first | rfl | assumption) ?_
  refine hp _ _ _ _ F4 (cI_mono I4 (by omega) hm) E ⟨_, nG_cg v4 (by show _ = 2 * w; omega) (by show _ = w; omega) (fun _ _ => rfl) ?_, jsp_4 rfl ?_⟩
  · subst hw
    rcases (by omega : l = 3 ∨ l = 4 ∨ l = 5 ∨ l = 6) with rfl | rfl | rfl | rfl <;> decide
  · intro x y hx hy
    show f4 (x ++ y) = bbits w (min (bnum x) (bnum y))
    rw [s4 x y hx hy]
    split
    · exact bb_self hx (by omega)
    · exact bb_self hy (by omega)
theorem jd_17 {l : Nat} (h3 : 3 ≤ l) (hl : l < 7) : JdOK sc 17 l := by
  intro d c m h G post hP hd hF hI hm hp
  have hr' : (11 : Nat) = 11 := rfl
  have hJ : ∀ j ∈ ([] : List Nat), 11 ≤ pH j := fun j hj => absurd hj (by simp)
  have ho : oj 17 l = 3 := (by decide : ∀ l, l < 7 → 3 ≤ l → oj 17 l = 3) l hl h3
  rw [ho] at hm hp
  have hsh := pw_sh l hl
  have hw64 := pw_l7 hl
  have hwe := pw_ev h3
  unfold jPo gJ at hp
  show xm_T (XE sc) (d + 7) 8 _ h post
  obtain ⟨w, hw⟩ : ∃ w, 2 ^ l = w := ⟨_, rfl⟩
  rw [hw] at hsh hw64 hp hwe
  refine xq_in rfl ?_
  simp only [xq_a0, xq_aI, xq_aJ, xq_aR, Nat.reduceAdd]
  have E : cE h G c h G c := cE_rf
  with_reducible refine xm_go_blk b_X0_comparing_0 k_X0_comparing_0 ?_
  refine by_iconst ci_1 ?_
  refine by_iload_n rfl ?_
  refine by_ishl ?_
  refine by_istore_n (by rw [ml_8]; decide) ?_
  refine by_aload_n rfl ?_
  refine by_aload_n rfl ?_
  refine by_iload_n rfl ?_
  refine by_iload_n rfl ?_
  simp (disch := first | exact Nat.ne_of_beq_eq_false rfl | exact rfl | omega) only [nI_add, xa_sub, xa_mul, pk_div, nm_mod, xa_shr, xa_and7, xa_and1, xa_and255, xa_by_and, nI_m1, Nat.add_sub_cancel, Nat.reducePow, Nat.zero_add, Nat.add_zero, Nat.reduceAdd, Nat.reduceMul, Nat.reduceSub, xf_same, xq_ff, xq_fo, xf_1, xf_2, xs_1, xs_2, xs_same, xq_so, xj_1, xj_2, xj_same, xq_jo, xq_sa1, xq_same, xq_other, upd_s, oI_n, oI_s, xv_0, xv_1, xv_2, xv_3, xm_p1, xm_p2, xq_fp, xq_fn, List.filter_nil, Nat.reduceBEq, Bool.not_true, Bool.not_false, Bool.and_true, Bool.and_false, Bool.false_and, Bool.true_and, if_true, if_false, Bool.false_eq_true, reduceIte, xc_i, xc_j, xc_r, xc_n, List.nil_append, List.cons_append, Option.toList_some, Option.toList_none, hsh]
  refine by_inv2 cn_8 lk_0_92 (by rw [xe_cnt]; decide) is_32 np_32 cn_32 (by first | exact rfl | assumption) (Nat.le_of_ble_eq_true rfl) ?_
  refine sp_second hF hI (by omega) (by omega) (fun h1 G1 c1 n1 F1 I1 e1 v1 => ?_)
  replace E := cE_tr E e1
  with_reducible refine xm_go_blk b_X0_comparing_11 k_X0_comparing_11 ?_
  refine by_aload_n rfl ?_
  refine by_iload_n rfl ?_
  refine by_iload_n rfl ?_
  refine by_inv2 cn_8 lk_0_95 (by rw [xe_cnt]; decide) is_15 np_15 cn_15 (by first | exact rfl | assumption) (Nat.le_of_ble_eq_true rfl) ?_
  refine sp_first F1 I1 (by omega) (by omega) (fun h2 G2 c2 n2 F2 I2 e2 v2 => ?_)
  replace v1 := nG_up v1 e2
  replace E := cE_tr E e2
  with_reducible refine xm_go_blk b_X0_comparing_17 k_X0_comparing_17 ?_
  refine by_inv2 cn_8 lk_0_80 (by rw [xe_cnt]; decide) is_25 np_25 cn_25 (by first | exact rfl | assumption) (Nat.le_of_ble_eq_true rfl) ?_
  refine sp_gpair F2 I2 (by omega) v1 v2 (by omega) (by omega) (fun h3 G3 c3 n3 F3 I3 e3 v3 => ?_)
  replace E := cE_tr E e3
  with_reducible refine xm_go_blk b_X0_comparing_20 k_X0_comparing_20 ?_
  refine by_istore (by rw [ml_8]; decide) ?_
  refine by_iload_n rfl ?_
  simp (disch := first | exact Nat.ne_of_beq_eq_false rfl | exact rfl | omega) only [nI_add, xa_sub, xa_mul, pk_div, nm_mod, xa_shr, xa_and7, xa_and1, xa_and255, xa_by_and, nI_m1, Nat.add_sub_cancel, Nat.reducePow, Nat.zero_add, Nat.add_zero, Nat.reduceAdd, Nat.reduceMul, Nat.reduceSub, xf_same, xq_ff, xq_fo, xf_1, xf_2, xs_1, xs_2, xs_same, xq_so, xj_1, xj_2, xj_same, xq_jo, xq_sa1, xq_same, xq_other, upd_s, oI_n, oI_s, hsh]
  refine by_sw ?_
  simp (disch := first | exact Nat.ne_of_beq_eq_false rfl | exact rfl | omega) only [nI_add, xa_sub, xa_mul, pk_div, nm_mod, xa_shr, xa_and7, xa_and1, xa_and255, xa_by_and, nI_m1, Nat.add_sub_cancel, Nat.reducePow, Nat.zero_add, Nat.add_zero, Nat.reduceAdd, Nat.reduceMul, Nat.reduceSub, xf_same, xq_ff, xq_fo, xf_1, xf_2, xs_1, xs_2, xs_same, xq_so, xj_1, xj_2, xj_same, xq_jo, xq_sa1, xq_same, xq_other, upd_s, oI_n, oI_s, xv_0, xv_1, xv_2, xv_3, xm_p1, xm_p2, xq_fp, xq_fn, List.filter_nil, Nat.reduceBEq, Bool.not_true, Bool.not_false, Bool.and_true, Bool.and_false, Bool.false_and, Bool.true_and, if_true, if_false, Bool.false_eq_true, reduceIte, xc_i, xc_j, xc_r, xc_n, List.nil_append, List.cons_append, Option.toList_some, Option.toList_none, hsh]
  refine xq_sw 287 (by decide) (by decide) ?_
  with_reducible refine xm_go_blk b_X0_comparing_287 k_X0_comparing_287 ?_
  refine by_aload_n rfl ?_
  refine by_bipush cb_26 ?_
  refine by_iload_n rfl ?_
  refine by_inv2 cn_8 lk_0_83 (by rw [xe_cnt]; decide) is_26 np_26 cn_26 (by first | exact rfl | assumption) (Nat.le_of_ble_eq_true rfl) ?_
  refine sp_pc (a := 3) hP ⟨by omega, by omega, by omega⟩ rfl (by omega) hJ (by omega) F3 I3 (fun h4 G4 c4 n4 F4 I4 e4 p4 => ?_)
  obtain ⟨f4, v4, s4⟩ := p4
  simp only [pS, pT, pSp, Nat.reducePow, hw] at v4 s4
  replace E := cE_tr E e4
  with_reducible refine xm_go_blk b_X0_comparing_294 k_X0_comparing_294 ?_
  refine by_iret ry_8 (by first | rfl | assumption) ?_
  refine hp _ _ _ _ F4 (cI_mono I4 (by omega) hm) E ⟨_, nG_cg v4 (by show _ = 2 * w; omega) (by show _ = w; omega) (fun _ _ => rfl) ?_, jsp_4 rfl ?_⟩
  · subst hw
    rcases (by omega : l = 3 ∨ l = 4 ∨ l = 5 ∨ l = 6) with rfl | rfl | rfl | rfl <;> decide
  · intro x y hx hy
    show f4 (x ++ y) = bbits w (max (bnum x) (bnum y))
    rw [s4 x y hx hy]
    split
    · exact bb_self hy (by omega)
    · exact bb_self hx (by omega)
theorem jd_18 {l : Nat} (h3 : 3 ≤ l) (hl : l < 7) : JdOK sc 18 l := by
  intro d c m h G post hP hd hF hI hm hp
  have hr' : (11 : Nat) = 11 := rfl
  have hJ : ∀ j ∈ ([] : List Nat), 11 ≤ pH j := fun j hj => absurd hj (by simp)
  have ho : oj 18 l = 15 := (by decide : ∀ l, l < 7 → 3 ≤ l → oj 18 l = 15) l hl h3
  rw [ho] at hm hp
  have hsh := pw_sh l hl
  have hw64 := pw_l7 hl
  have hwe := pw_ev h3
  unfold jPo gJ at hp
  show xm_T (XE sc) (d + 7) 8 _ h post
  obtain ⟨w, hw⟩ : ∃ w, 2 ^ l = w := ⟨_, rfl⟩
  rw [hw] at hsh hw64 hp hwe
  refine xq_in rfl ?_
  simp only [xq_a0, xq_aI, xq_aJ, xq_aR, Nat.reduceAdd]
  have E : cE h G c h G c := cE_rf
  with_reducible refine xm_go_blk b_X0_comparing_0 k_X0_comparing_0 ?_
  refine by_iconst ci_1 ?_
  refine by_iload_n rfl ?_
  refine by_ishl ?_
  refine by_istore_n (by rw [ml_8]; decide) ?_
  refine by_aload_n rfl ?_
  refine by_aload_n rfl ?_
  refine by_iload_n rfl ?_
  refine by_iload_n rfl ?_
  simp (disch := first | exact Nat.ne_of_beq_eq_false rfl | exact rfl | omega) only [nI_add, xa_sub, xa_mul, pk_div, nm_mod, xa_shr, xa_and7, xa_and1, xa_and255, xa_by_and, nI_m1, Nat.add_sub_cancel, Nat.reducePow, Nat.zero_add, Nat.add_zero, Nat.reduceAdd, Nat.reduceMul, Nat.reduceSub, xf_same, xq_ff, xq_fo, xf_1, xf_2, xs_1, xs_2, xs_same, xq_so, xj_1, xj_2, xj_same, xq_jo, xq_sa1, xq_same, xq_other, upd_s, oI_n, oI_s, xv_0, xv_1, xv_2, xv_3, xm_p1, xm_p2, xq_fp, xq_fn, List.filter_nil, Nat.reduceBEq, Bool.not_true, Bool.not_false, Bool.and_true, Bool.and_false, Bool.false_and, Bool.true_and, if_true, if_false, Bool.false_eq_true, reduceIte, xc_i, xc_j, xc_r, xc_n, List.nil_append, List.cons_append, Option.toList_some, Option.toList_none, hsh]
  refine by_inv2 cn_8 lk_0_92 (by rw [xe_cnt]; decide) is_32 np_32 cn_32 (by first | exact rfl | assumption) (Nat.le_of_ble_eq_true rfl) ?_
  refine sp_second hF hI (by omega) (by omega) (fun h1 G1 c1 n1 F1 I1 e1 v1 => ?_)
  replace E := cE_tr E e1
  with_reducible refine xm_go_blk b_X0_comparing_11 k_X0_comparing_11 ?_
  refine by_aload_n rfl ?_
  refine by_iload_n rfl ?_
  refine by_iload_n rfl ?_
  refine by_inv2 cn_8 lk_0_95 (by rw [xe_cnt]; decide) is_15 np_15 cn_15 (by first | exact rfl | assumption) (Nat.le_of_ble_eq_true rfl) ?_
  refine sp_first F1 I1 (by omega) (by omega) (fun h2 G2 c2 n2 F2 I2 e2 v2 => ?_)
  replace v1 := nG_up v1 e2
  replace E := cE_tr E e2
  with_reducible refine xm_go_blk b_X0_comparing_17 k_X0_comparing_17 ?_
  refine by_inv2 cn_8 lk_0_80 (by rw [xe_cnt]; decide) is_25 np_25 cn_25 (by first | exact rfl | assumption) (Nat.le_of_ble_eq_true rfl) ?_
  refine sp_gpair F2 I2 (by omega) v1 v2 (by omega) (by omega) (fun h3 G3 c3 n3 F3 I3 e3 v3 => ?_)
  replace E := cE_tr E e3
  with_reducible refine xm_go_blk b_X0_comparing_20 k_X0_comparing_20 ?_
  refine by_istore (by rw [ml_8]; decide) ?_
  refine by_iload_n rfl ?_
  simp (disch := first | exact Nat.ne_of_beq_eq_false rfl | exact rfl | omega) only [nI_add, xa_sub, xa_mul, pk_div, nm_mod, xa_shr, xa_and7, xa_and1, xa_and255, xa_by_and, nI_m1, Nat.add_sub_cancel, Nat.reducePow, Nat.zero_add, Nat.add_zero, Nat.reduceAdd, Nat.reduceMul, Nat.reduceSub, xf_same, xq_ff, xq_fo, xf_1, xf_2, xs_1, xs_2, xs_same, xq_so, xj_1, xj_2, xj_same, xq_jo, xq_sa1, xq_same, xq_other, upd_s, oI_n, oI_s, hsh]
  refine by_sw ?_
  simp (disch := first | exact Nat.ne_of_beq_eq_false rfl | exact rfl | omega) only [nI_add, xa_sub, xa_mul, pk_div, nm_mod, xa_shr, xa_and7, xa_and1, xa_and255, xa_by_and, nI_m1, Nat.add_sub_cancel, Nat.reducePow, Nat.zero_add, Nat.add_zero, Nat.reduceAdd, Nat.reduceMul, Nat.reduceSub, xf_same, xq_ff, xq_fo, xf_1, xf_2, xs_1, xs_2, xs_same, xq_so, xj_1, xj_2, xj_same, xq_jo, xq_sa1, xq_same, xq_other, upd_s, oI_n, oI_s, xv_0, xv_1, xv_2, xv_3, xm_p1, xm_p2, xq_fp, xq_fn, List.filter_nil, Nat.reduceBEq, Bool.not_true, Bool.not_false, Bool.and_true, Bool.and_false, Bool.false_and, Bool.true_and, if_true, if_false, Bool.false_eq_true, reduceIte, xc_i, xc_j, xc_r, xc_n, List.nil_append, List.cons_append, Option.toList_some, Option.toList_none, hsh]
  refine xq_sw 295 (by decide) (by decide) ?_
  with_reducible refine xm_go_blk b_X0_comparing_295 k_X0_comparing_295 ?_
  refine by_aload_n rfl ?_
  refine by_aload_n rfl ?_
  refine by_bipush cb_25 ?_
  refine by_iload_n rfl ?_
  refine by_inv2 cn_8 lk_0_83 (by rw [xe_cnt]; decide) is_26 np_26 cn_26 (by first | exact rfl | assumption) (Nat.le_of_ble_eq_true rfl) ?_
  refine sp_pc (a := 3) hP ⟨by omega, by omega, by omega⟩ rfl (by omega) hJ (by omega) F3 I3 (fun h4 G4 c4 n4 F4 I4 e4 p4 => ?_)
  obtain ⟨f4, v4, s4⟩ := p4
  simp only [pS, pT, pSp, Nat.reducePow, hw] at v4 s4
  replace E := cE_tr E e4
  with_reducible refine xm_go_blk b_X0_comparing_303 k_X0_comparing_303 ?_
  refine by_aload_n rfl ?_
  refine by_bipush cb_26 ?_
  refine by_iload_n rfl ?_
  refine by_inv2 cn_8 lk_0_83 (by rw [xe_cnt]; decide) is_26 np_26 cn_26 (by first | exact rfl | assumption) (Nat.le_of_ble_eq_true rfl) ?_
  refine sp_pc (a := 3) hP ⟨by omega, by omega, by omega⟩ rfl (by omega) hJ (by omega) F4 I4 (fun h5 G5 c5 n5 F5 I5 e5 p5 => ?_)
  obtain ⟨f5, v5, s5⟩ := p5
  simp only [pS, pT, pSp, Nat.reducePow, hw] at v5 s5
  replace v4 := nG_up v4 e5
  replace E := cE_tr E e5
  with_reducible refine xm_go_blk b_X0_comparing_310 k_X0_comparing_310 ?_
  refine by_iload_n rfl ?_
  refine by_inv3 cn_8 lk_0_104 (by rw [xe_cnt]; decide) is_22 np_22 cn_22 (by first | exact rfl | assumption) (Nat.le_of_ble_eq_true rfl) ?_
  refine xq_in rfl ?_
  simp only [xq_a0, xq_aI, xq_aJ, xq_aR, Nat.reduceAdd]
  with_reducible refine xm_go_blk b_X0_middle_0 k_X0_middle_0 ?_
  refine by_aload_n rfl ?_
  refine by_aload_n rfl ?_
  refine by_iload_n rfl ?_
  refine by_iload_n rfl ?_
  refine by_inv2 cn_22 lk_0_47 (by rw [xe_cnt]; decide) is_12 np_12 cn_12 (by first | exact rfl | assumption) (Nat.le_of_ble_eq_true rfl) ?_
  refine sp_gdrop F5 I5 (by omega) v4 (by omega) (fun h6 G6 c6 n6 F6 I6 e6 v6 => ?_)
  replace v4 := nG_up v4 e6
  replace v5 := nG_up v5 e6
  replace E := cE_tr E e6
  with_reducible refine xm_go_blk b_X0_middle_7 k_X0_middle_7 ?_
  refine by_aload_n rfl ?_
  refine by_aload_n rfl ?_
  refine by_iload_n rfl ?_
  refine by_iconst ci_2 ?_
  refine by_iload_n rfl ?_
  refine by_imul ?_
  simp (disch := first | exact Nat.ne_of_beq_eq_false rfl | exact rfl | omega) only [nI_add, xa_sub, xa_mul, pk_div, nm_mod, xa_shr, xa_and7, xa_and1, xa_and255, xa_by_and, nI_m1, Nat.add_sub_cancel, Nat.reducePow, Nat.zero_add, Nat.add_zero, Nat.reduceAdd, Nat.reduceMul, Nat.reduceSub, xf_same, xq_ff, xq_fo, xf_1, xf_2, xs_1, xs_2, xs_same, xq_so, xj_1, xj_2, xj_same, xq_jo, xq_sa1, xq_same, xq_other, upd_s, oI_n, oI_s, xv_0, xv_1, xv_2, xv_3, xm_p1, xm_p2, xq_fp, xq_fn, List.filter_nil, Nat.reduceBEq, Bool.not_true, Bool.not_false, Bool.and_true, Bool.and_false, Bool.false_and, Bool.true_and, if_true, if_false, Bool.false_eq_true, reduceIte, xc_i, xc_j, xc_r, xc_n, List.nil_append, List.cons_append, Option.toList_some, Option.toList_none, hsh]
  refine by_inv2 cn_22 lk_0_95 (by rw [xe_cnt]; decide) is_15 np_15 cn_15 (by first | exact rfl | assumption) (Nat.le_of_ble_eq_true rfl) ?_
  refine sp_first F6 I6 (by omega) (by omega) (fun h7 G7 c7 n7 F7 I7 e7 v7 => ?_)
  replace v4 := nG_up v4 e7
  replace v5 := nG_up v5 e7
  replace v6 := nG_up v6 e7
  replace E := cE_tr E e7
  with_reducible refine xm_go_blk b_X0_middle_16 k_X0_middle_16 ?_
  refine by_aload_n rfl ?_
  refine by_iload_n rfl ?_
  refine by_iload_n rfl ?_
  refine by_inv2 cn_22 lk_0_47 (by rw [xe_cnt]; decide) is_12 np_12 cn_12 (by first | exact rfl | assumption) (Nat.le_of_ble_eq_true rfl) ?_
  refine sp_gdrop F7 I7 (by omega) v5 (by omega) (fun h8 G8 c8 n8 F8 I8 e8 v8 => ?_)
  replace v4 := nG_up v4 e8
  replace v5 := nG_up v5 e8
  replace v6 := nG_up v6 e8
  replace v7 := nG_up v7 e8
  replace E := cE_tr E e8
  with_reducible refine xm_go_blk b_X0_middle_22 k_X0_middle_22 ?_
  refine by_inv2 cn_22 lk_0_80 (by rw [xe_cnt]; decide) is_25 np_25 cn_25 (by first | exact rfl | assumption) (Nat.le_of_ble_eq_true rfl) ?_
  refine sp_gpair F8 I8 (by omega) v7 v8 (by omega) (by omega) (fun h9 G9 c9 n9 F9 I9 e9 v9 => ?_)
  replace v4 := nG_up v4 e9
  replace v5 := nG_up v5 e9
  replace v6 := nG_up v6 e9
  replace E := cE_tr E e9
  with_reducible refine xm_go_blk b_X0_middle_25 k_X0_middle_25 ?_
  refine by_inv2 cn_22 lk_0_80 (by rw [xe_cnt]; decide) is_25 np_25 cn_25 (by first | exact rfl | assumption) (Nat.le_of_ble_eq_true rfl) ?_
  refine sp_gpair F9 I9 (by omega) v6 v9 (by omega) (by omega) (fun h10 G10 c10 n10 F10 I10 e10 v10 => ?_)
  replace v4 := nG_up v4 e10
  replace v5 := nG_up v5 e10
  replace E := cE_tr E e10
  with_reducible refine xm_go_blk b_X0_middle_28 k_X0_middle_28 ?_
  refine by_istore (by rw [ml_22]; decide) ?_
  refine by_aload_n rfl ?_
  refine by_iload rfl ?_
  refine by_aload_n rfl ?_
  refine by_aload_n rfl ?_
  refine by_aload_n rfl ?_
  refine by_iload_n rfl ?_
  refine by_iconst ci_2 ?_
  refine by_iload_n rfl ?_
  refine by_imul ?_
  simp (disch := first | exact Nat.ne_of_beq_eq_false rfl | exact rfl | omega) only [nI_add, xa_sub, xa_mul, pk_div, nm_mod, xa_shr, xa_and7, xa_and1, xa_and255, xa_by_and, nI_m1, Nat.add_sub_cancel, Nat.reducePow, Nat.zero_add, Nat.add_zero, Nat.reduceAdd, Nat.reduceMul, Nat.reduceSub, xf_same, xq_ff, xq_fo, xf_1, xf_2, xs_1, xs_2, xs_same, xq_so, xj_1, xj_2, xj_same, xq_jo, xq_sa1, xq_same, xq_other, upd_s, oI_n, oI_s, xv_0, xv_1, xv_2, xv_3, xm_p1, xm_p2, xq_fp, xq_fn, List.filter_nil, Nat.reduceBEq, Bool.not_true, Bool.not_false, Bool.and_true, Bool.and_false, Bool.false_and, Bool.true_and, if_true, if_false, Bool.false_eq_true, reduceIte, xc_i, xc_j, xc_r, xc_n, List.nil_append, List.cons_append, Option.toList_some, Option.toList_none, hsh]
  refine by_inv2 cn_22 lk_0_95 (by rw [xe_cnt]; decide) is_15 np_15 cn_15 (by first | exact rfl | assumption) (Nat.le_of_ble_eq_true rfl) ?_
  refine sp_first F10 I10 (by omega) (by omega) (fun h11 G11 c11 n11 F11 I11 e11 v11 => ?_)
  replace v10 := nG_up v10 e11
  replace v4 := nG_up v4 e11
  replace v5 := nG_up v5 e11
  replace E := cE_tr E e11
  with_reducible refine xm_go_blk b_X0_middle_43 k_X0_middle_43 ?_
  refine by_aload_n rfl ?_
  refine by_iload_n rfl ?_
  refine by_iload_n rfl ?_
  refine by_inv2 cn_22 lk_0_47 (by rw [xe_cnt]; decide) is_12 np_12 cn_12 (by first | exact rfl | assumption) (Nat.le_of_ble_eq_true rfl) ?_
  refine sp_gdrop F11 I11 (by omega) v4 (by omega) (fun h12 G12 c12 n12 F12 I12 e12 v12 => ?_)
  replace v10 := nG_up v10 e12
  replace v11 := nG_up v11 e12
  replace v5 := nG_up v5 e12
  replace E := cE_tr E e12
  with_reducible refine xm_go_blk b_X0_middle_49 k_X0_middle_49 ?_
  refine by_inv2 cn_22 lk_0_80 (by rw [xe_cnt]; decide) is_25 np_25 cn_25 (by first | exact rfl | assumption) (Nat.le_of_ble_eq_true rfl) ?_
  refine sp_gpair F12 I12 (by omega) v11 v12 (by omega) (by omega) (fun h13 G13 c13 n13 F13 I13 e13 v13 => ?_)
  replace v10 := nG_up v10 e13
  replace v5 := nG_up v5 e13
  replace E := cE_tr E e13
  with_reducible refine xm_go_blk b_X0_middle_52 k_X0_middle_52 ?_
  refine by_iload_n rfl ?_
  refine by_inv2 cn_22 lk_0_86 (by rw [xe_cnt]; decide) is_7 np_7 cn_7 (by first | exact rfl | assumption) (Nat.le_of_ble_eq_true rfl) ?_
  refine sp_gcomp F13 I13 (by omega) v13 v5 (by omega) (fun h14 G14 c14 n14 F14 I14 e14 v14 => ?_)
  replace v10 := nG_up v10 e14
  replace E := cE_tr E e14
  with_reducible refine xm_go_blk b_X0_middle_56 k_X0_middle_56 ?_
  refine by_inv2 cn_22 lk_0_86 (by rw [xe_cnt]; decide) is_7 np_7 cn_7 (by first | exact rfl | assumption) (Nat.le_of_ble_eq_true rfl) ?_
  refine sp_gcomp F14 I14 (by omega) v10 v14 (by omega) (fun h15 G15 c15 n15 F15 I15 e15 v15 => ?_)
  replace E := cE_tr E e15
  with_reducible refine xm_go_blk b_X0_middle_59 k_X0_middle_59 ?_
  refine by_iret ry_22 (by first | rfl | assumption) ?_
  with_reducible refine xm_go_blk b_X0_comparing_314 k_X0_comparing_314 ?_
  refine by_iret ry_8 (by first | rfl | assumption) ?_
  refine hp _ _ _ _ F15 (cI_mono I15 (by omega) hm) E ⟨_, nG_cg v15 (by show _ = 3 * w; omega) (by show _ = w; omega) (fun _ _ => rfl) ?_, jsp_9 rfl ?_⟩
  · subst hw
    rcases (by omega : l = 3 ∨ l = 4 ∨ l = 5 ∨ l = 6) with rfl | rfl | rfl | rfl <;> decide
  · intro x y z hx hy hz
    have g4 : ∀ a b : List Bool, a.length = w → b.length = w → (f4 (a ++ b)).length = w ∧ bnum (f4 (a ++ b)) = min (bnum a) (bnum b) := fun a b ha hb => by
      rw [s4 a b ha hb]
      split
      · exact ⟨ha, by omega⟩
      · exact ⟨hb, by omega⟩
    have g5 : ∀ a b : List Bool, a.length = w → b.length = w → (f5 (a ++ b)).length = w ∧ bnum (f5 (a ++ b)) = max (bnum a) (bnum b) := fun a b ha hb => by
      rw [s5 a b ha hb]
      split
      · exact ⟨hb, by omega⟩
      · exact ⟨ha, by omega⟩
    obtain ⟨l1, n1⟩ := g4 y z hy hz
    obtain ⟨l2, n2⟩ := g5 y z hy hz
    generalize e1 : f4 (y ++ z) = mn at *
    generalize e2 : f5 (y ++ z) = mx at *
    simp (disch := ((try simp only [List.length_append]); omega)) only [List.append_assoc, List.drop_zero, li_ka, li_da, li_kb, li_db, li_kw, li_dz, e1, e2]
    obtain ⟨l3, n3⟩ := g4 x mx hx l2
    obtain ⟨l4, n4⟩ := g5 mn (f4 (x ++ mx)) l1 l3
    show _ = bbits w (max (min (bnum x) (bnum y)) (min (max (bnum x) (bnum y)) (bnum z)))
    exact bb_self l4 (by rw [n4, n3, n1, n2]; omega)
end CD
