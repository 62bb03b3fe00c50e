/-! ===== definitions of jets: greater pieces ===== -/
section CD
variable {sc : xm_Sc} {l : Nat}
theorem pw_le {l : Nat} (h : l < 6) : 1 ≤ 2 ^ l ∧ 2 ^ l ≤ 32 := (by decide : ∀ l, l < 6 → 1 ≤ 2 ^ l ∧ 2 ^ l ≤ 32) l h
theorem bg_0 (hl : l < 6) : BdOK sc 0 (l + 1) := by
  intro r d c m h G J post hP hr hd hF hI hJ hm hp
  rw [pH_e (by omega)] at hr
  have hr' : r = 1 + (l + 1) := hr
  have ho : oc 0 (l + 1) = 35 := (by decide : ∀ l, l < 6 → oc 0 (l + 1) = 35) l hl
  rw [ho] at hm hp
  have hsh := pw_sh l (by omega)
  have hw32 := pw_le hl
  rw [if_neg (by decide), if_neg (by omega)]
  unfold bPo gP at hp
  rw [Nat.pow_succ, Nat.mul_comm] at hp
  obtain ⟨w, hw⟩ : ∃ w, 2 ^ l = w := ⟨_, rfl⟩
  rw [hw] at hsh hw32 hp
  refine xq_in rfl ?_
  simp only [xq_a0, xq_aI, xq_aJ, xq_aR, Nat.reduceAdd]
  have E : cE h G c h G c := cE_rf
  with_reducible refine xm_go_blk b_X0_greaterPiece_0 k_X0_greaterPiece_0 ?_
  refine by_iconst ci_1 ?_
  refine by_iload_n rfl ?_
  refine by_iconst ci_1 ?_
  refine by_isub ?_
  refine by_ishl ?_
  refine by_istore_n (by rw [ml_16]; decide) ?_
  refine by_aload_n rfl ?_
  refine by_iload_n rfl ?_
  refine by_iload_n rfl ?_
  refine by_iconst ci_1 ?_
  refine by_isub ?_
  simp (disch := first | exact Nat.ne_of_beq_eq_false rfl | exact rfl | omega) only [nI_add, xa_sub, xa_mul, pk_div, nm_mod, xa_shr, xa_and7, xa_and1, xa_and255, xa_by_and, nI_m1, Nat.add_sub_cancel, Nat.reducePow, Nat.zero_add, Nat.add_zero, Nat.reduceAdd, Nat.reduceMul, Nat.reduceSub, xf_same, xq_ff, xq_fo, xf_1, xf_2, xs_1, xs_2, xs_same, xq_so, xj_1, xj_2, xj_same, xq_jo, xq_sa1, xq_same, xq_other, upd_s, oI_n, oI_s, xv_0, xv_1, xv_2, xv_3, xm_p1, xm_p2, xq_fp, xq_fn, List.filter_nil, Nat.reduceBEq, Bool.not_true, Bool.not_false, Bool.and_true, Bool.and_false, Bool.false_and, Bool.true_and, if_true, if_false, Bool.false_eq_true, reduceIte, xc_i, xc_j, xc_r, xc_n, List.nil_append, List.cons_append, Option.toList_some, Option.toList_none, hsh]
  refine by_inv2 cn_16 lk_0_83 (by rw [xe_cnt]; decide) is_26 np_26 cn_26 (by first | exact rfl | assumption) (Nat.le_of_ble_eq_true rfl) ?_
  refine sp_pc (a := 1) hP ⟨by omega, by omega, by omega⟩ rfl (by omega) hJ (by omega) hF hI (fun h1 G1 c1 n1 F1 I1 e1 p1 => ?_)
  obtain ⟨f1, v1, s1⟩ := p1
  simp only [pS, pT, pSp, Nat.reducePow, hw] at v1 s1
  replace E := cE_tr E e1
  with_reducible refine xm_go_blk b_X0_greaterPiece_14 k_X0_greaterPiece_14 ?_
  refine by_istore (by rw [ml_16]; decide) ?_
  refine by_iload_n rfl ?_
  simp (disch := first | exact Nat.ne_of_beq_eq_false rfl | exact rfl | omega) only [nI_add, xa_sub, xa_mul, pk_div, nm_mod, xa_shr, xa_and7, xa_and1, xa_and255, xa_by_and, nI_m1, Nat.add_sub_cancel, Nat.reducePow, Nat.zero_add, Nat.add_zero, Nat.reduceAdd, Nat.reduceMul, Nat.reduceSub, xf_same, xq_ff, xq_fo, xf_1, xf_2, xs_1, xs_2, xs_same, xq_so, xj_1, xj_2, xj_same, xq_jo, xq_sa1, xq_same, xq_other, upd_s, oI_n, oI_s, hsh]
  refine by_sw ?_
  simp (disch := first | exact Nat.ne_of_beq_eq_false rfl | exact rfl | omega) only [nI_add, xa_sub, xa_mul, pk_div, nm_mod, xa_shr, xa_and7, xa_and1, xa_and255, xa_by_and, nI_m1, Nat.add_sub_cancel, Nat.reducePow, Nat.zero_add, Nat.add_zero, Nat.reduceAdd, Nat.reduceMul, Nat.reduceSub, xf_same, xq_ff, xq_fo, xf_1, xf_2, xs_1, xs_2, xs_same, xq_so, xj_1, xj_2, xj_same, xq_jo, xq_sa1, xq_same, xq_other, upd_s, oI_n, oI_s, xv_0, xv_1, xv_2, xv_3, xm_p1, xm_p2, xq_fp, xq_fn, List.filter_nil, Nat.reduceBEq, Bool.not_true, Bool.not_false, Bool.and_true, Bool.and_false, Bool.false_and, Bool.true_and, if_true, if_false, Bool.false_eq_true, reduceIte, xc_i, xc_j, xc_r, xc_n, List.nil_append, List.cons_append, Option.toList_some, Option.toList_none, hsh]
  refine xq_sw 112 (by decide) (by decide) ?_
  with_reducible refine xm_go_blk b_X0_greaterPiece_112 k_X0_greaterPiece_112 ?_
  refine by_aload_n rfl ?_
  refine by_iload rfl ?_
  refine by_iload_n rfl ?_
  refine by_inv2 cn_16 lk_0_130 (by rw [xe_cnt]; decide) is_31 np_31 cn_31 (by first | exact rfl | assumption) (Nat.le_of_ble_eq_true rfl) ?_
  refine sp_ripple F1 I1 (by omega) v1 (by omega) (fun f2 s2 h2 G2 c2 n2 F2 I2 e2 v2 => ?_)
  replace E := cE_tr E e2
  with_reducible refine xm_go_blk b_X0_greaterPiece_119 k_X0_greaterPiece_119 ?_
  refine by_iret ry_16 (by first | rfl | assumption) ?_
  refine hp _ _ _ _ F2 (cI_mono I2 (by omega) hm) E ⟨_, nG_cg v2 (by simp only [pS] <;> omega) (by simp only [pT] <;> omega) (fun _ _ => rfl) ?_, ?_⟩
  · subst hw
    rcases (by omega : l = 0 ∨ l = 1 ∨ l = 2 ∨ l = 3 ∨ l = 4 ∨ l = 5) with rfl | rfl | rfl | rfl | rfl | rfl <;> decide
  · exact ad_pure s1 s2
theorem bg_1 (hl : l < 6) : BdOK sc 1 (l + 1) := by
  intro r d c m h G J post hP hr hd hF hI hJ hm hp
  rw [pH_e (by omega)] at hr
  have hr' : r = 1 + (l + 1) := hr
  have ho : oc 1 (l + 1) = 35 := (by decide : ∀ l, l < 6 → oc 1 (l + 1) = 35) l hl
  rw [ho] at hm hp
  have hsh := pw_sh l (by omega)
  have hw32 := pw_le hl
  rw [if_neg (by decide), if_neg (by omega)]
  unfold bPo gP at hp
  rw [Nat.pow_succ, Nat.mul_comm] at hp
  obtain ⟨w, hw⟩ : ∃ w, 2 ^ l = w := ⟨_, rfl⟩
  rw [hw] at hsh hw32 hp
  refine xq_in rfl ?_
  simp only [xq_a0, xq_aI, xq_aJ, xq_aR, Nat.reduceAdd]
  have E : cE h G c h G c := cE_rf
  with_reducible refine xm_go_blk b_X0_greaterPiece_0 k_X0_greaterPiece_0 ?_
  refine by_iconst ci_1 ?_
  refine by_iload_n rfl ?_
  refine by_iconst ci_1 ?_
  refine by_isub ?_
  refine by_ishl ?_
  refine by_istore_n (by rw [ml_16]; decide) ?_
  refine by_aload_n rfl ?_
  refine by_iload_n rfl ?_
  refine by_iload_n rfl ?_
  refine by_iconst ci_1 ?_
  refine by_isub ?_
  simp (disch := first | exact Nat.ne_of_beq_eq_false rfl | exact rfl | omega) only [nI_add, xa_sub, xa_mul, pk_div, nm_mod, xa_shr, xa_and7, xa_and1, xa_and255, xa_by_and, nI_m1, Nat.add_sub_cancel, Nat.reducePow, Nat.zero_add, Nat.add_zero, Nat.reduceAdd, Nat.reduceMul, Nat.reduceSub, xf_same, xq_ff, xq_fo, xf_1, xf_2, xs_1, xs_2, xs_same, xq_so, xj_1, xj_2, xj_same, xq_jo, xq_sa1, xq_same, xq_other, upd_s, oI_n, oI_s, xv_0, xv_1, xv_2, xv_3, xm_p1, xm_p2, xq_fp, xq_fn, List.filter_nil, Nat.reduceBEq, Bool.not_true, Bool.not_false, Bool.and_true, Bool.and_false, Bool.false_and, Bool.true_and, if_true, if_false, Bool.false_eq_true, reduceIte, xc_i, xc_j, xc_r, xc_n, List.nil_append, List.cons_append, Option.toList_some, Option.toList_none, hsh]
  refine by_inv2 cn_16 lk_0_83 (by rw [xe_cnt]; decide) is_26 np_26 cn_26 (by first | exact rfl | assumption) (Nat.le_of_ble_eq_true rfl) ?_
  refine sp_pc (a := 1) hP ⟨by omega, by omega, by omega⟩ rfl (by omega) hJ (by omega) hF hI (fun h1 G1 c1 n1 F1 I1 e1 p1 => ?_)
  obtain ⟨f1, v1, s1⟩ := p1
  simp only [pS, pT, pSp, Nat.reducePow, hw] at v1 s1
  replace E := cE_tr E e1
  with_reducible refine xm_go_blk b_X0_greaterPiece_14 k_X0_greaterPiece_14 ?_
  refine by_istore (by rw [ml_16]; decide) ?_
  refine by_iload_n rfl ?_
  simp (disch := first | exact Nat.ne_of_beq_eq_false rfl | exact rfl | omega) only [nI_add, xa_sub, xa_mul, pk_div, nm_mod, xa_shr, xa_and7, xa_and1, xa_and255, xa_by_and, nI_m1, Nat.add_sub_cancel, Nat.reducePow, Nat.zero_add, Nat.add_zero, Nat.reduceAdd, Nat.reduceMul, Nat.reduceSub, xf_same, xq_ff, xq_fo, xf_1, xf_2, xs_1, xs_2, xs_same, xq_so, xj_1, xj_2, xj_same, xq_jo, xq_sa1, xq_same, xq_other, upd_s, oI_n, oI_s, hsh]
  refine by_sw ?_
  simp (disch := first | exact Nat.ne_of_beq_eq_false rfl | exact rfl | omega) only [nI_add, xa_sub, xa_mul, pk_div, nm_mod, xa_shr, xa_and7, xa_and1, xa_and255, xa_by_and, nI_m1, Nat.add_sub_cancel, Nat.reducePow, Nat.zero_add, Nat.add_zero, Nat.reduceAdd, Nat.reduceMul, Nat.reduceSub, xf_same, xq_ff, xq_fo, xf_1, xf_2, xs_1, xs_2, xs_same, xq_so, xj_1, xj_2, xj_same, xq_jo, xq_sa1, xq_same, xq_other, upd_s, oI_n, oI_s, xv_0, xv_1, xv_2, xv_3, xm_p1, xm_p2, xq_fp, xq_fn, List.filter_nil, Nat.reduceBEq, Bool.not_true, Bool.not_false, Bool.and_true, Bool.and_false, Bool.false_and, Bool.true_and, if_true, if_false, Bool.false_eq_true, reduceIte, xc_i, xc_j, xc_r, xc_n, List.nil_append, List.cons_append, Option.toList_some, Option.toList_none, hsh]
  refine xq_sw 112 (by decide) (by decide) ?_
  with_reducible refine xm_go_blk b_X0_greaterPiece_112 k_X0_greaterPiece_112 ?_
  refine by_aload_n rfl ?_
  refine by_iload rfl ?_
  refine by_iload_n rfl ?_
  refine by_inv2 cn_16 lk_0_130 (by rw [xe_cnt]; decide) is_31 np_31 cn_31 (by first | exact rfl | assumption) (Nat.le_of_ble_eq_true rfl) ?_
  refine sp_ripple F1 I1 (by omega) v1 (by omega) (fun f2 s2 h2 G2 c2 n2 F2 I2 e2 v2 => ?_)
  replace E := cE_tr E e2
  with_reducible refine xm_go_blk b_X0_greaterPiece_119 k_X0_greaterPiece_119 ?_
  refine by_iret ry_16 (by first | rfl | assumption) ?_
  refine hp _ _ _ _ F2 (cI_mono I2 (by omega) hm) E ⟨_, nG_cg v2 (by simp only [pS] <;> omega) (by simp only [pT] <;> omega) (fun _ _ => rfl) ?_, ?_⟩
  · subst hw
    rcases (by omega : l = 0 ∨ l = 1 ∨ l = 2 ∨ l = 3 ∨ l = 4 ∨ l = 5) with rfl | rfl | rfl | rfl | rfl | rfl <;> decide
  · exact sb_pure s1 s2
theorem bg_2 (hl : l < 6) : BdOK sc 2 (l + 1) := by
  intro r d c m h G J post hP hr hd hF hI hJ hm hp
  rw [pH_e (by omega)] at hr
  have hr' : r = 0 + (l + 1) := hr
  have ho : oc 2 (l + 1) = 9 := (by decide : ∀ l, l < 6 → oc 2 (l + 1) = 9) l hl
  rw [ho] at hm hp
  have hsh := pw_sh l (by omega)
  have hw32 := pw_le hl
  rw [if_neg (by decide), if_neg (by omega)]
  unfold bPo gP at hp
  rw [Nat.pow_succ, Nat.mul_comm] at hp
  obtain ⟨w, hw⟩ : ∃ w, 2 ^ l = w := ⟨_, rfl⟩
  rw [hw] at hsh hw32 hp
  refine xq_in rfl ?_
  simp only [xq_a0, xq_aI, xq_aJ, xq_aR, Nat.reduceAdd]
  have E : cE h G c h G c := cE_rf
  with_reducible refine xm_go_blk b_X0_greaterPiece_0 k_X0_greaterPiece_0 ?_
  refine by_iconst ci_1 ?_
  refine by_iload_n rfl ?_
  refine by_iconst ci_1 ?_
  refine by_isub ?_
  refine by_ishl ?_
  refine by_istore_n (by rw [ml_16]; decide) ?_
  refine by_aload_n rfl ?_
  refine by_iload_n rfl ?_
  refine by_iload_n rfl ?_
  refine by_iconst ci_1 ?_
  refine by_isub ?_
  simp (disch := first | exact Nat.ne_of_beq_eq_false rfl | exact rfl | omega) only [nI_add, xa_sub, xa_mul, pk_div, nm_mod, xa_shr, xa_and7, xa_and1, xa_and255, xa_by_and, nI_m1, Nat.add_sub_cancel, Nat.reducePow, Nat.zero_add, Nat.add_zero, Nat.reduceAdd, Nat.reduceMul, Nat.reduceSub, xf_same, xq_ff, xq_fo, xf_1, xf_2, xs_1, xs_2, xs_same, xq_so, xj_1, xj_2, xj_same, xq_jo, xq_sa1, xq_same, xq_other, upd_s, oI_n, oI_s, xv_0, xv_1, xv_2, xv_3, xm_p1, xm_p2, xq_fp, xq_fn, List.filter_nil, Nat.reduceBEq, Bool.not_true, Bool.not_false, Bool.and_true, Bool.and_false, Bool.false_and, Bool.true_and, if_true, if_false, Bool.false_eq_true, reduceIte, xc_i, xc_j, xc_r, xc_n, List.nil_append, List.cons_append, Option.toList_some, Option.toList_none, hsh]
  refine by_inv2 cn_16 lk_0_83 (by rw [xe_cnt]; decide) is_26 np_26 cn_26 (by first | exact rfl | assumption) (Nat.le_of_ble_eq_true rfl) ?_
  refine sp_pc (a := 0) hP ⟨by omega, by omega, by omega⟩ rfl (by omega) hJ (by omega) hF hI (fun h1 G1 c1 n1 F1 I1 e1 p1 => ?_)
  obtain ⟨f1, v1, s1⟩ := p1
  simp only [pS, pT, pSp, Nat.reducePow, hw] at v1 s1
  replace E := cE_tr E e1
  with_reducible refine xm_go_blk b_X0_greaterPiece_14 k_X0_greaterPiece_14 ?_
  refine by_istore (by rw [ml_16]; decide) ?_
  refine by_iload_n rfl ?_
  simp (disch := first | exact Nat.ne_of_beq_eq_false rfl | exact rfl | omega) only [nI_add, xa_sub, xa_mul, pk_div, nm_mod, xa_shr, xa_and7, xa_and1, xa_and255, xa_by_and, nI_m1, Nat.add_sub_cancel, Nat.reducePow, Nat.zero_add, Nat.add_zero, Nat.reduceAdd, Nat.reduceMul, Nat.reduceSub, xf_same, xq_ff, xq_fo, xf_1, xf_2, xs_1, xs_2, xs_same, xq_so, xj_1, xj_2, xj_same, xq_jo, xq_sa1, xq_same, xq_other, upd_s, oI_n, oI_s, hsh]
  refine by_sw ?_
  simp (disch := first | exact Nat.ne_of_beq_eq_false rfl | exact rfl | omega) only [nI_add, xa_sub, xa_mul, pk_div, nm_mod, xa_shr, xa_and7, xa_and1, xa_and255, xa_by_and, nI_m1, Nat.add_sub_cancel, Nat.reducePow, Nat.zero_add, Nat.add_zero, Nat.reduceAdd, Nat.reduceMul, Nat.reduceSub, xf_same, xq_ff, xq_fo, xf_1, xf_2, xs_1, xs_2, xs_same, xq_so, xj_1, xj_2, xj_same, xq_jo, xq_sa1, xq_same, xq_other, upd_s, oI_n, oI_s, xv_0, xv_1, xv_2, xv_3, xm_p1, xm_p2, xq_fp, xq_fn, List.filter_nil, Nat.reduceBEq, Bool.not_true, Bool.not_false, Bool.and_true, Bool.and_false, Bool.false_and, Bool.true_and, if_true, if_false, Bool.false_eq_true, reduceIte, xc_i, xc_j, xc_r, xc_n, List.nil_append, List.cons_append, Option.toList_some, Option.toList_none, hsh]
  refine xq_sw 120 (by decide) (by decide) ?_
  with_reducible refine xm_go_blk b_X0_greaterPiece_120 k_X0_greaterPiece_120 ?_
  refine by_aload_n rfl ?_
  refine by_aload_n rfl ?_
  refine by_aload_n rfl ?_
  refine by_iconst ci_1 ?_
  refine by_iconst ci_2 ?_
  refine by_iload_n rfl ?_
  refine by_imul ?_
  simp (disch := first | exact Nat.ne_of_beq_eq_false rfl | exact rfl | omega) only [nI_add, xa_sub, xa_mul, pk_div, nm_mod, xa_shr, xa_and7, xa_and1, xa_and255, xa_by_and, nI_m1, Nat.add_sub_cancel, Nat.reducePow, Nat.zero_add, Nat.add_zero, Nat.reduceAdd, Nat.reduceMul, Nat.reduceSub, xf_same, xq_ff, xq_fo, xf_1, xf_2, xs_1, xs_2, xs_same, xq_so, xj_1, xj_2, xj_same, xq_jo, xq_sa1, xq_same, xq_other, upd_s, oI_n, oI_s, xv_0, xv_1, xv_2, xv_3, xm_p1, xm_p2, xq_fp, xq_fn, List.filter_nil, Nat.reduceBEq, Bool.not_true, Bool.not_false, Bool.and_true, Bool.and_false, Bool.false_and, Bool.true_and, if_true, if_false, Bool.false_eq_true, reduceIte, xc_i, xc_j, xc_r, xc_n, List.nil_append, List.cons_append, Option.toList_some, Option.toList_none, hsh]
  refine by_inv2 cn_16 lk_0_95 (by rw [xe_cnt]; decide) is_15 np_15 cn_15 (by first | exact rfl | assumption) (Nat.le_of_ble_eq_true rfl) ?_
  refine sp_first F1 I1 (by omega) (by omega) (fun h2 G2 c2 n2 F2 I2 e2 v2 => ?_)
  replace v1 := nG_up v1 e2
  replace E := cE_tr E e2
  with_reducible refine xm_go_blk b_X0_greaterPiece_130 k_X0_greaterPiece_130 ?_
  refine by_aload_n rfl ?_
  refine by_iconst ci_1 ?_
  refine by_aload_n rfl ?_
  refine by_iload_n rfl ?_
  refine by_iload_n rfl ?_
  refine by_inv2 cn_16 lk_0_95 (by rw [xe_cnt]; decide) is_15 np_15 cn_15 (by first | exact rfl | assumption) (Nat.le_of_ble_eq_true rfl) ?_
  refine sp_first F2 I2 (by omega) (by omega) (fun h3 G3 c3 n3 F3 I3 e3 v3 => ?_)
  replace v1 := nG_up v1 e3
  replace v2 := nG_up v2 e3
  replace E := cE_tr E e3
  with_reducible refine xm_go_blk b_X0_greaterPiece_138 k_X0_greaterPiece_138 ?_
  refine by_inv2 cn_16 lk_0_47 (by rw [xe_cnt]; decide) is_12 np_12 cn_12 (by first | exact rfl | assumption) (Nat.le_of_ble_eq_true rfl) ?_
  refine sp_gdrop F3 I3 (by omega) v3 (by omega) (fun h4 G4 c4 n4 F4 I4 e4 v4 => ?_)
  replace v1 := nG_up v1 e4
  replace v2 := nG_up v2 e4
  replace E := cE_tr E e4
  with_reducible refine xm_go_blk b_X0_greaterPiece_141 k_X0_greaterPiece_141 ?_
  refine by_inv2 cn_16 lk_0_80 (by rw [xe_cnt]; decide) is_25 np_25 cn_25 (by first | exact rfl | assumption) (Nat.le_of_ble_eq_true rfl) ?_
  refine sp_gpair F4 I4 (by omega) v2 v4 (by omega) (by omega) (fun h5 G5 c5 n5 F5 I5 e5 v5 => ?_)
  replace v1 := nG_up v1 e5
  replace E := cE_tr E e5
  with_reducible refine xm_go_blk b_X0_greaterPiece_144 k_X0_greaterPiece_144 ?_
  refine by_iload rfl ?_
  refine by_inv2 cn_16 lk_0_86 (by rw [xe_cnt]; decide) is_7 np_7 cn_7 (by first | exact rfl | assumption) (Nat.le_of_ble_eq_true rfl) ?_
  refine sp_gcomp F5 I5 (by omega) v5 v1 (by omega) (fun h6 G6 c6 n6 F6 I6 e6 v6 => ?_)
  replace E := cE_tr E e6
  with_reducible refine xm_go_blk b_X0_greaterPiece_149 k_X0_greaterPiece_149 ?_
  refine by_istore (by rw [ml_16]; decide) ?_
  refine by_aload_n rfl ?_
  refine by_iload rfl ?_
  refine by_aload_n rfl ?_
  refine by_iconst ci_1 ?_
  refine by_aload_n rfl ?_
  refine by_iload_n rfl ?_
  refine by_iload_n rfl ?_
  simp (disch := first | exact Nat.ne_of_beq_eq_false rfl | exact rfl | omega) only [nI_add, xa_sub, xa_mul, pk_div, nm_mod, xa_shr, xa_and7, xa_and1, xa_and255, xa_by_and, nI_m1, Nat.add_sub_cancel, Nat.reducePow, Nat.zero_add, Nat.add_zero, Nat.reduceAdd, Nat.reduceMul, Nat.reduceSub, xf_same, xq_ff, xq_fo, xf_1, xf_2, xs_1, xs_2, xs_same, xq_so, xj_1, xj_2, xj_same, xq_jo, xq_sa1, xq_same, xq_other, upd_s, oI_n, oI_s, xv_0, xv_1, xv_2, xv_3, xm_p1, xm_p2, xq_fp, xq_fn, List.filter_nil, Nat.reduceBEq, Bool.not_true, Bool.not_false, Bool.and_true, Bool.and_false, Bool.false_and, Bool.true_and, if_true, if_false, Bool.false_eq_true, reduceIte, xc_i, xc_j, xc_r, xc_n, List.nil_append, List.cons_append, Option.toList_some, Option.toList_none, hsh]
  refine by_inv2 cn_16 lk_0_92 (by rw [xe_cnt]; decide) is_32 np_32 cn_32 (by first | exact rfl | assumption) (Nat.le_of_ble_eq_true rfl) ?_
  refine sp_second F6 I6 (by omega) (by omega) (fun h7 G7 c7 n7 F7 I7 e7 v7 => ?_)
  replace v6 := nG_up v6 e7
  replace E := cE_tr E e7
  with_reducible refine xm_go_blk b_X0_greaterPiece_162 k_X0_greaterPiece_162 ?_
  refine by_inv2 cn_16 lk_0_47 (by rw [xe_cnt]; decide) is_12 np_12 cn_12 (by first | exact rfl | assumption) (Nat.le_of_ble_eq_true rfl) ?_
  refine sp_gdrop F7 I7 (by omega) v7 (by omega) (fun h8 G8 c8 n8 F8 I8 e8 v8 => ?_)
  replace v6 := nG_up v6 e8
  replace E := cE_tr E e8
  with_reducible refine xm_go_blk b_X0_greaterPiece_165 k_X0_greaterPiece_165 ?_
  refine by_inv2 cn_16 lk_0_80 (by rw [xe_cnt]; decide) is_25 np_25 cn_25 (by first | exact rfl | assumption) (Nat.le_of_ble_eq_true rfl) ?_
  refine sp_gpair F8 I8 (by omega) v6 v8 (by omega) (by omega) (fun h9 G9 c9 n9 F9 I9 e9 v9 => ?_)
  replace E := cE_tr E e9
  with_reducible refine xm_go_blk b_X0_greaterPiece_168 k_X0_greaterPiece_168 ?_
  refine by_iret ry_16 (by first | rfl | assumption) ?_
  refine hp _ _ _ _ F9 (cI_mono I9 (by omega) hm) E ⟨_, nG_cg v9 (by simp only [pS] <;> omega) (by simp only [pT] <;> omega) (fun _ _ => rfl) ?_, ?_⟩
  · subst hw
    rcases (by omega : l = 0 ∨ l = 1 ∨ l = 2 ∨ l = 3 ∨ l = 4 ∨ l = 5) with rfl | rfl | rfl | rfl | rfl | rfl <;> decide
  · intro c x hc hx
    obtain ⟨x1, x0, rfl, a1, a0⟩ := li_s2 (x := x) (w := w) (by omega)
    simp (disch := ((try simp only [List.length_append]); omega)) only [List.append_assoc, li_ka, li_da, li_kb, li_db, li_kw, li_dz]
    rw [s1 c x1 hc a1, List.append_assoc, List.drop_append_of_le_length (by omega)]
theorem bg_3 (hl : l < 6) : BdOK sc 3 (l + 1) := by
  intro r d c m h G J post hP hr hd hF hI hJ hm hp
  rw [pH_e (by omega)] at hr
  have hr' : r = 2 + (l + 1) := hr
  have ho : oc 3 (l + 1) = 89 := (by decide : ∀ l, l < 6 → oc 3 (l + 1) = 89) l hl
  rw [ho] at hm hp
  have hsh := pw_sh l (by omega)
  have hw32 := pw_le hl
  rw [if_neg (by decide), if_neg (by omega)]
  unfold bPo gP at hp
  rw [Nat.pow_succ, Nat.mul_comm] at hp
  obtain ⟨w, hw⟩ : ∃ w, 2 ^ l = w := ⟨_, rfl⟩
  rw [hw] at hsh hw32 hp
  refine xq_in rfl ?_
  simp only [xq_a0, xq_aI, xq_aJ, xq_aR, Nat.reduceAdd]
  have E : cE h G c h G c := cE_rf
  with_reducible refine xm_go_blk b_X0_greaterPiece_0 k_X0_greaterPiece_0 ?_
  refine by_iconst ci_1 ?_
  refine by_iload_n rfl ?_
  refine by_iconst ci_1 ?_
  refine by_isub ?_
  refine by_ishl ?_
  refine by_istore_n (by rw [ml_16]; decide) ?_
  refine by_aload_n rfl ?_
  refine by_iload_n rfl ?_
  refine by_iload_n rfl ?_
  refine by_iconst ci_1 ?_
  refine by_isub ?_
  simp (disch := first | exact Nat.ne_of_beq_eq_false rfl | exact rfl | omega) only [nI_add, xa_sub, xa_mul, pk_div, nm_mod, xa_shr, xa_and7, xa_and1, xa_and255, xa_by_and, nI_m1, Nat.add_sub_cancel, Nat.reducePow, Nat.zero_add, Nat.add_zero, Nat.reduceAdd, Nat.reduceMul, Nat.reduceSub, xf_same, xq_ff, xq_fo, xf_1, xf_2, xs_1, xs_2, xs_same, xq_so, xj_1, xj_2, xj_same, xq_jo, xq_sa1, xq_same, xq_other, upd_s, oI_n, oI_s, xv_0, xv_1, xv_2, xv_3, xm_p1, xm_p2, xq_fp, xq_fn, List.filter_nil, Nat.reduceBEq, Bool.not_true, Bool.not_false, Bool.and_true, Bool.and_false, Bool.false_and, Bool.true_and, if_true, if_false, Bool.false_eq_true, reduceIte, xc_i, xc_j, xc_r, xc_n, List.nil_append, List.cons_append, Option.toList_some, Option.toList_none, hsh]
  refine by_inv2 cn_16 lk_0_83 (by rw [xe_cnt]; decide) is_26 np_26 cn_26 (by first | exact rfl | assumption) (Nat.le_of_ble_eq_true rfl) ?_
  refine sp_pc (a := 2) hP ⟨by omega, by omega, by omega⟩ rfl (by omega) hJ (by omega) hF hI (fun h1 G1 c1 n1 F1 I1 e1 p1 => ?_)
  obtain ⟨f1, v1, s1⟩ := p1
  simp only [pS, pT, pSp, Nat.reducePow, hw] at v1 s1
  replace E := cE_tr E e1
  with_reducible refine xm_go_blk b_X0_greaterPiece_14 k_X0_greaterPiece_14 ?_
  refine by_istore (by rw [ml_16]; decide) ?_
  refine by_iload_n rfl ?_
  simp (disch := first | exact Nat.ne_of_beq_eq_false rfl | exact rfl | omega) only [nI_add, xa_sub, xa_mul, pk_div, nm_mod, xa_shr, xa_and7, xa_and1, xa_and255, xa_by_and, nI_m1, Nat.add_sub_cancel, Nat.reducePow, Nat.zero_add, Nat.add_zero, Nat.reduceAdd, Nat.reduceMul, Nat.reduceSub, xf_same, xq_ff, xq_fo, xf_1, xf_2, xs_1, xs_2, xs_same, xq_so, xj_1, xj_2, xj_same, xq_jo, xq_sa1, xq_same, xq_other, upd_s, oI_n, oI_s, hsh]
  refine by_sw ?_
  simp (disch := first | exact Nat.ne_of_beq_eq_false rfl | exact rfl | omega) only [nI_add, xa_sub, xa_mul, pk_div, nm_mod, xa_shr, xa_and7, xa_and1, xa_and255, xa_by_and, nI_m1, Nat.add_sub_cancel, Nat.reducePow, Nat.zero_add, Nat.add_zero, Nat.reduceAdd, Nat.reduceMul, Nat.reduceSub, xf_same, xq_ff, xq_fo, xf_1, xf_2, xs_1, xs_2, xs_same, xq_so, xj_1, xj_2, xj_same, xq_jo, xq_sa1, xq_same, xq_other, upd_s, oI_n, oI_s, xv_0, xv_1, xv_2, xv_3, xm_p1, xm_p2, xq_fp, xq_fn, List.filter_nil, Nat.reduceBEq, Bool.not_true, Bool.not_false, Bool.and_true, Bool.and_false, Bool.false_and, Bool.true_and, if_true, if_false, Bool.false_eq_true, reduceIte, xc_i, xc_j, xc_r, xc_n, List.nil_append, List.cons_append, Option.toList_some, Option.toList_none, hsh]
  refine xq_sw 202 (by decide) (by decide) ?_
  with_reducible refine xm_go_blk b_X0_greaterPiece_202 k_X0_greaterPiece_202 ?_
  refine by_aload_n rfl ?_
  refine by_iload rfl ?_
  refine by_iload_n rfl ?_
  refine by_inv2 cn_16 lk_0_136 (by rw [xe_cnt]; decide) is_28 np_28 cn_28 (by first | exact rfl | assumption) (Nat.le_of_ble_eq_true rfl) ?_
  refine sp_product F1 I1 (by omega) v1 (by omega) (fun f2 s2 h2 G2 c2 n2 F2 I2 e2 v2 => ?_)
  replace E := cE_tr E e2
  with_reducible refine xm_go_blk b_X0_greaterPiece_209 k_X0_greaterPiece_209 ?_
  refine by_iret ry_16 (by first | rfl | assumption) ?_
  refine hp _ _ _ _ F2 (cI_mono I2 (by omega) hm) E ⟨_, nG_cg v2 (by simp only [pS] <;> omega) (by simp only [pT] <;> omega) (fun _ _ => rfl) ?_, ?_⟩
  · subst hw
    rcases (by omega : l = 0 ∨ l = 1 ∨ l = 2 ∨ l = 3 ∨ l = 4 ∨ l = 5) with rfl | rfl | rfl | rfl | rfl | rfl <;> decide
  · exact mu_pure s1 s2
theorem bg_4 (hl : l < 6) : BdOK sc 4 (l + 1) := by
  intro r d c m h G J post hP hr hd hF hI hJ hm hp
  rw [pH_e (by omega)] at hr
  have hr' : r = 0 + (l + 1) := hr
  have ho : oc 4 (l + 1) = 8 := (by decide : ∀ l, l < 6 → oc 4 (l + 1) = 8) l hl
  rw [ho] at hm hp
  have hsh := pw_sh l (by omega)
  have hw32 := pw_le hl
  rw [if_neg (by decide), if_neg (by omega)]
  unfold bPo gP at hp
  rw [Nat.pow_succ, Nat.mul_comm] at hp
  obtain ⟨w, hw⟩ : ∃ w, 2 ^ l = w := ⟨_, rfl⟩
  rw [hw] at hsh hw32 hp
  refine xq_in rfl ?_
  simp only [xq_a0, xq_aI, xq_aJ, xq_aR, Nat.reduceAdd]
  have E : cE h G c h G c := cE_rf
  with_reducible refine xm_go_blk b_X0_greaterPiece_0 k_X0_greaterPiece_0 ?_
  refine by_iconst ci_1 ?_
  refine by_iload_n rfl ?_
  refine by_iconst ci_1 ?_
  refine by_isub ?_
  refine by_ishl ?_
  refine by_istore_n (by rw [ml_16]; decide) ?_
  refine by_aload_n rfl ?_
  refine by_iload_n rfl ?_
  refine by_iload_n rfl ?_
  refine by_iconst ci_1 ?_
  refine by_isub ?_
  simp (disch := first | exact Nat.ne_of_beq_eq_false rfl | exact rfl | omega) only [nI_add, xa_sub, xa_mul, pk_div, nm_mod, xa_shr, xa_and7, xa_and1, xa_and255, xa_by_and, nI_m1, Nat.add_sub_cancel, Nat.reducePow, Nat.zero_add, Nat.add_zero, Nat.reduceAdd, Nat.reduceMul, Nat.reduceSub, xf_same, xq_ff, xq_fo, xf_1, xf_2, xs_1, xs_2, xs_same, xq_so, xj_1, xj_2, xj_same, xq_jo, xq_sa1, xq_same, xq_other, upd_s, oI_n, oI_s, xv_0, xv_1, xv_2, xv_3, xm_p1, xm_p2, xq_fp, xq_fn, List.filter_nil, Nat.reduceBEq, Bool.not_true, Bool.not_false, Bool.and_true, Bool.and_false, Bool.false_and, Bool.true_and, if_true, if_false, Bool.false_eq_true, reduceIte, xc_i, xc_j, xc_r, xc_n, List.nil_append, List.cons_append, Option.toList_some, Option.toList_none, hsh]
  refine by_inv2 cn_16 lk_0_83 (by rw [xe_cnt]; decide) is_26 np_26 cn_26 (by first | exact rfl | assumption) (Nat.le_of_ble_eq_true rfl) ?_
  refine sp_pc (a := 0) hP ⟨by omega, by omega, by omega⟩ rfl (by omega) hJ (by omega) hF hI (fun h1 G1 c1 n1 F1 I1 e1 p1 => ?_)
  obtain ⟨f1, v1, s1⟩ := p1
  simp only [pS, pT, pSp, Nat.reducePow, hw] at v1 s1
  replace v1 := nG_cg v1 rfl rfl (fun x hx => s1 x hx) (qle_rf _)
  replace E := cE_tr E e1
  with_reducible refine xm_go_blk b_X0_greaterPiece_14 k_X0_greaterPiece_14 ?_
  refine by_istore (by rw [ml_16]; decide) ?_
  refine by_iload_n rfl ?_
  simp (disch := first | exact Nat.ne_of_beq_eq_false rfl | exact rfl | omega) only [nI_add, xa_sub, xa_mul, pk_div, nm_mod, xa_shr, xa_and7, xa_and1, xa_and255, xa_by_and, nI_m1, Nat.add_sub_cancel, Nat.reducePow, Nat.zero_add, Nat.add_zero, Nat.reduceAdd, Nat.reduceMul, Nat.reduceSub, xf_same, xq_ff, xq_fo, xf_1, xf_2, xs_1, xs_2, xs_same, xq_so, xj_1, xj_2, xj_same, xq_jo, xq_sa1, xq_same, xq_other, upd_s, oI_n, oI_s, hsh]
  refine by_sw ?_
  simp (disch := first | exact Nat.ne_of_beq_eq_false rfl | exact rfl | omega) only [nI_add, xa_sub, xa_mul, pk_div, nm_mod, xa_shr, xa_and7, xa_and1, xa_and255, xa_by_and, nI_m1, Nat.add_sub_cancel, Nat.reducePow, Nat.zero_add, Nat.add_zero, Nat.reduceAdd, Nat.reduceMul, Nat.reduceSub, xf_same, xq_ff, xq_fo, xf_1, xf_2, xs_1, xs_2, xs_same, xq_so, xj_1, xj_2, xj_same, xq_jo, xq_sa1, xq_same, xq_other, upd_s, oI_n, oI_s, xv_0, xv_1, xv_2, xv_3, xm_p1, xm_p2, xq_fp, xq_fn, List.filter_nil, Nat.reduceBEq, Bool.not_true, Bool.not_false, Bool.and_true, Bool.and_false, Bool.false_and, Bool.true_and, if_true, if_false, Bool.false_eq_true, reduceIte, xc_i, xc_j, xc_r, xc_n, List.nil_append, List.cons_append, Option.toList_some, Option.toList_none, hsh]
  refine xq_sw 210 (by decide) (by decide) ?_
  with_reducible refine xm_go_blk b_X0_greaterPiece_210 k_X0_greaterPiece_210 ?_
  refine by_aload_n rfl ?_
  refine by_aload_n rfl ?_
  refine by_aload_n rfl ?_
  refine by_iload rfl ?_
  refine by_iload_n rfl ?_
  refine by_inv2 cn_16 lk_0_101 (by rw [xe_cnt]; decide) is_33 np_33 cn_33 (by first | exact rfl | assumption) (Nat.le_of_ble_eq_true rfl) ?_
  refine sp_gtake F1 I1 (by omega) v1 (by omega) (fun h2 G2 c2 n2 F2 I2 e2 v2 => ?_)
  replace v1 := nG_up v1 e2
  replace E := cE_tr E e2
  with_reducible refine xm_go_blk b_X0_greaterPiece_219 k_X0_greaterPiece_219 ?_
  refine by_aload_n rfl ?_
  refine by_iload_n rfl ?_
  refine by_iload_n rfl ?_
  refine by_inv2 cn_16 lk_0_92 (by rw [xe_cnt]; decide) is_32 np_32 cn_32 (by first | exact rfl | assumption) (Nat.le_of_ble_eq_true rfl) ?_
  refine sp_second F2 I2 (by omega) (by omega) (fun h3 G3 c3 n3 F3 I3 e3 v3 => ?_)
  replace v1 := nG_up v1 e3
  replace v2 := nG_up v2 e3
  replace E := cE_tr E e3
  with_reducible refine xm_go_blk b_X0_greaterPiece_225 k_X0_greaterPiece_225 ?_
  refine by_inv2 cn_16 lk_0_80 (by rw [xe_cnt]; decide) is_25 np_25 cn_25 (by first | exact rfl | assumption) (Nat.le_of_ble_eq_true rfl) ?_
  refine sp_gpair F3 I3 (by omega) v2 v3 (by omega) (by omega) (fun h4 G4 c4 n4 F4 I4 e4 v4 => ?_)
  replace v1 := nG_up v1 e4
  replace E := cE_tr E e4
  with_reducible refine xm_go_blk b_X0_greaterPiece_228 k_X0_greaterPiece_228 ?_
  refine by_aload_n rfl ?_
  refine by_iload rfl ?_
  refine by_aload_n rfl ?_
  refine by_iconst ci_1 ?_
  refine by_iload_n rfl ?_
  refine by_inv2 cn_16 lk_0_73 (by rw [xe_cnt]; decide) is_3 np_3 cn_3 (by first | exact rfl | assumption) (Nat.le_of_ble_eq_true rfl) ?_
  refine sp_gbit (by omega) F4 I4 (by omega) (by omega) (fun h5 G5 c5 n5 F5 I5 e5 v5 => ?_)
  replace v1 := nG_up v1 e5
  replace v4 := nG_up v4 e5
  replace E := cE_tr E e5
  with_reducible refine xm_go_blk b_X0_greaterPiece_237 k_X0_greaterPiece_237 ?_
  refine by_inv2 cn_16 lk_0_98 (by rw [xe_cnt]; decide) is_6 np_6 cn_6 (by first | exact rfl | assumption) (Nat.le_of_ble_eq_true rfl) ?_
  refine sp_choose F5 I5 (by omega) v1 v5 (by omega) (by omega) (by omega) (fun h6 G6 c6 n6 F6 I6 e6 v6 => ?_)
  replace v4 := nG_up v4 e6
  replace E := cE_tr E e6
  with_reducible refine xm_go_blk b_X0_greaterPiece_240 k_X0_greaterPiece_240 ?_
  refine by_inv2 cn_16 lk_0_86 (by rw [xe_cnt]; decide) is_7 np_7 cn_7 (by first | exact rfl | assumption) (Nat.le_of_ble_eq_true rfl) ?_
  refine sp_gcomp F6 I6 (by omega) v4 v6 (by omega) (fun h7 G7 c7 n7 F7 I7 e7 v7 => ?_)
  replace E := cE_tr E e7
  with_reducible refine xm_go_blk b_X0_greaterPiece_243 k_X0_greaterPiece_243 ?_
  refine by_iret ry_16 (by first | rfl | assumption) ?_
  refine hp _ _ _ _ F7 (cI_mono I7 (by omega) hm) E ⟨_, nG_cg v7 (by simp only [pS] <;> omega) (by simp only [pT] <;> omega) (fun _ _ => rfl) ?_, ?_⟩
  · subst hw
    rcases (by omega : l = 0 ∨ l = 1 ∨ l = 2 ∨ l = 3 ∨ l = 4 ∨ l = 5) with rfl | rfl | rfl | rfl | rfl | rfl <;> decide
  · intro x hx
    obtain ⟨x1, x0, rfl, a1, a0⟩ := li_s2 (x := x) (w := w) (by omega)
    simp (disch := ((try simp only [List.length_append]); omega)) only [List.append_assoc, li_ka, li_da, li_kb, li_db, li_kw, li_dz]
    rw [List.any_append]
    cases x1.any id <;> simp
theorem bg_5 (hl : l < 6) : BdOK sc 5 (l + 1) := by
  intro r d c m h G J post hP hr hd hF hI hJ hm hp
  rw [pH_e (by omega)] at hr
  have hr' : r = 0 + (l + 1) := hr
  have ho : oc 5 (l + 1) = 8 := (by decide : ∀ l, l < 6 → oc 5 (l + 1) = 8) l hl
  rw [ho] at hm hp
  have hsh := pw_sh l (by omega)
  have hw32 := pw_le hl
  rw [if_neg (by decide), if_neg (by omega)]
  unfold bPo gP at hp
  rw [Nat.pow_succ, Nat.mul_comm] at hp
  obtain ⟨w, hw⟩ : ∃ w, 2 ^ l = w := ⟨_, rfl⟩
  rw [hw] at hsh hw32 hp
  refine xq_in rfl ?_
  simp only [xq_a0, xq_aI, xq_aJ, xq_aR, Nat.reduceAdd]
  have E : cE h G c h G c := cE_rf
  with_reducible refine xm_go_blk b_X0_greaterPiece_0 k_X0_greaterPiece_0 ?_
  refine by_iconst ci_1 ?_
  refine by_iload_n rfl ?_
  refine by_iconst ci_1 ?_
  refine by_isub ?_
  refine by_ishl ?_
  refine by_istore_n (by rw [ml_16]; decide) ?_
  refine by_aload_n rfl ?_
  refine by_iload_n rfl ?_
  refine by_iload_n rfl ?_
  refine by_iconst ci_1 ?_
  refine by_isub ?_
  simp (disch := first | exact Nat.ne_of_beq_eq_false rfl | exact rfl | omega) only [nI_add, xa_sub, xa_mul, pk_div, nm_mod, xa_shr, xa_and7, xa_and1, xa_and255, xa_by_and, nI_m1, Nat.add_sub_cancel, Nat.reducePow, Nat.zero_add, Nat.add_zero, Nat.reduceAdd, Nat.reduceMul, Nat.reduceSub, xf_same, xq_ff, xq_fo, xf_1, xf_2, xs_1, xs_2, xs_same, xq_so, xj_1, xj_2, xj_same, xq_jo, xq_sa1, xq_same, xq_other, upd_s, oI_n, oI_s, xv_0, xv_1, xv_2, xv_3, xm_p1, xm_p2, xq_fp, xq_fn, List.filter_nil, Nat.reduceBEq, Bool.not_true, Bool.not_false, Bool.and_true, Bool.and_false, Bool.false_and, Bool.true_and, if_true, if_false, Bool.false_eq_true, reduceIte, xc_i, xc_j, xc_r, xc_n, List.nil_append, List.cons_append, Option.toList_some, Option.toList_none, hsh]
  refine by_inv2 cn_16 lk_0_83 (by rw [xe_cnt]; decide) is_26 np_26 cn_26 (by first | exact rfl | assumption) (Nat.le_of_ble_eq_true rfl) ?_
  refine sp_pc (a := 0) hP ⟨by omega, by omega, by omega⟩ rfl (by omega) hJ (by omega) hF hI (fun h1 G1 c1 n1 F1 I1 e1 p1 => ?_)
  obtain ⟨f1, v1, s1⟩ := p1
  simp only [pS, pT, pSp, Nat.reducePow, hw] at v1 s1
  replace v1 := nG_cg v1 rfl rfl (fun x hx => s1 x hx) (qle_rf _)
  replace E := cE_tr E e1
  with_reducible refine xm_go_blk b_X0_greaterPiece_14 k_X0_greaterPiece_14 ?_
  refine by_istore (by rw [ml_16]; decide) ?_
  refine by_iload_n rfl ?_
  simp (disch := first | exact Nat.ne_of_beq_eq_false rfl | exact rfl | omega) only [nI_add, xa_sub, xa_mul, pk_div, nm_mod, xa_shr, xa_and7, xa_and1, xa_and255, xa_by_and, nI_m1, Nat.add_sub_cancel, Nat.reducePow, Nat.zero_add, Nat.add_zero, Nat.reduceAdd, Nat.reduceMul, Nat.reduceSub, xf_same, xq_ff, xq_fo, xf_1, xf_2, xs_1, xs_2, xs_same, xq_so, xj_1, xj_2, xj_same, xq_jo, xq_sa1, xq_same, xq_other, upd_s, oI_n, oI_s, hsh]
  refine by_sw ?_
  simp (disch := first | exact Nat.ne_of_beq_eq_false rfl | exact rfl | omega) only [nI_add, xa_sub, xa_mul, pk_div, nm_mod, xa_shr, xa_and7, xa_and1, xa_and255, xa_by_and, nI_m1, Nat.add_sub_cancel, Nat.reducePow, Nat.zero_add, Nat.add_zero, Nat.reduceAdd, Nat.reduceMul, Nat.reduceSub, xf_same, xq_ff, xq_fo, xf_1, xf_2, xs_1, xs_2, xs_same, xq_so, xj_1, xj_2, xj_same, xq_jo, xq_sa1, xq_same, xq_other, upd_s, oI_n, oI_s, xv_0, xv_1, xv_2, xv_3, xm_p1, xm_p2, xq_fp, xq_fn, List.filter_nil, Nat.reduceBEq, Bool.not_true, Bool.not_false, Bool.and_true, Bool.and_false, Bool.false_and, Bool.true_and, if_true, if_false, Bool.false_eq_true, reduceIte, xc_i, xc_j, xc_r, xc_n, List.nil_append, List.cons_append, Option.toList_some, Option.toList_none, hsh]
  refine xq_sw 244 (by decide) (by decide) ?_
  with_reducible refine xm_go_blk b_X0_greaterPiece_244 k_X0_greaterPiece_244 ?_
  refine by_aload_n rfl ?_
  refine by_aload_n rfl ?_
  refine by_aload_n rfl ?_
  refine by_iload rfl ?_
  refine by_iload_n rfl ?_
  refine by_inv2 cn_16 lk_0_101 (by rw [xe_cnt]; decide) is_33 np_33 cn_33 (by first | exact rfl | assumption) (Nat.le_of_ble_eq_true rfl) ?_
  refine sp_gtake F1 I1 (by omega) v1 (by omega) (fun h2 G2 c2 n2 F2 I2 e2 v2 => ?_)
  replace v1 := nG_up v1 e2
  replace E := cE_tr E e2
  with_reducible refine xm_go_blk b_X0_greaterPiece_253 k_X0_greaterPiece_253 ?_
  refine by_aload_n rfl ?_
  refine by_iload_n rfl ?_
  refine by_iload_n rfl ?_
  refine by_inv2 cn_16 lk_0_92 (by rw [xe_cnt]; decide) is_32 np_32 cn_32 (by first | exact rfl | assumption) (Nat.le_of_ble_eq_true rfl) ?_
  refine sp_second F2 I2 (by omega) (by omega) (fun h3 G3 c3 n3 F3 I3 e3 v3 => ?_)
  replace v1 := nG_up v1 e3
  replace v2 := nG_up v2 e3
  replace E := cE_tr E e3
  with_reducible refine xm_go_blk b_X0_greaterPiece_259 k_X0_greaterPiece_259 ?_
  refine by_inv2 cn_16 lk_0_80 (by rw [xe_cnt]; decide) is_25 np_25 cn_25 (by first | exact rfl | assumption) (Nat.le_of_ble_eq_true rfl) ?_
  refine sp_gpair F3 I3 (by omega) v2 v3 (by omega) (by omega) (fun h4 G4 c4 n4 F4 I4 e4 v4 => ?_)
  replace v1 := nG_up v1 e4
  replace E := cE_tr E e4
  with_reducible refine xm_go_blk b_X0_greaterPiece_262 k_X0_greaterPiece_262 ?_
  refine by_aload_n rfl ?_
  refine by_aload_n rfl ?_
  refine by_iconst ci_0 ?_
  refine by_iload_n rfl ?_
  refine by_inv2 cn_16 lk_0_73 (by rw [xe_cnt]; decide) is_3 np_3 cn_3 (by first | exact rfl | assumption) (Nat.le_of_ble_eq_true rfl) ?_
  refine sp_gbit (by omega) F4 I4 (by omega) (by omega) (fun h5 G5 c5 n5 F5 I5 e5 v5 => ?_)
  replace v1 := nG_up v1 e5
  replace v4 := nG_up v4 e5
  replace E := cE_tr E e5
  with_reducible refine xm_go_blk b_X0_greaterPiece_269 k_X0_greaterPiece_269 ?_
  refine by_iload rfl ?_
  refine by_inv2 cn_16 lk_0_98 (by rw [xe_cnt]; decide) is_6 np_6 cn_6 (by first | exact rfl | assumption) (Nat.le_of_ble_eq_true rfl) ?_
  refine sp_choose F5 I5 (by omega) v5 v1 (by omega) (by omega) (by omega) (fun h6 G6 c6 n6 F6 I6 e6 v6 => ?_)
  replace v4 := nG_up v4 e6
  replace E := cE_tr E e6
  with_reducible refine xm_go_blk b_X0_greaterPiece_274 k_X0_greaterPiece_274 ?_
  refine by_inv2 cn_16 lk_0_86 (by rw [xe_cnt]; decide) is_7 np_7 cn_7 (by first | exact rfl | assumption) (Nat.le_of_ble_eq_true rfl) ?_
  refine sp_gcomp F6 I6 (by omega) v4 v6 (by omega) (fun h7 G7 c7 n7 F7 I7 e7 v7 => ?_)
  replace E := cE_tr E e7
  with_reducible refine xm_go_blk b_X0_greaterPiece_277 k_X0_greaterPiece_277 ?_
  refine by_iret ry_16 (by first | rfl | assumption) ?_
  refine hp _ _ _ _ F7 (cI_mono I7 (by omega) hm) E ⟨_, nG_cg v7 (by simp only [pS] <;> omega) (by simp only [pT] <;> omega) (fun _ _ => rfl) ?_, ?_⟩
  · subst hw
    rcases (by omega : l = 0 ∨ l = 1 ∨ l = 2 ∨ l = 3 ∨ l = 4 ∨ l = 5) with rfl | rfl | rfl | rfl | rfl | rfl <;> decide
  · intro x hx
    obtain ⟨x1, x0, rfl, a1, a0⟩ := li_s2 (x := x) (w := w) (by omega)
    simp (disch := ((try simp only [List.length_append]); omega)) only [List.append_assoc, li_ka, li_da, li_kb, li_db, li_kw, li_dz]
    rw [List.all_append]
    cases x1.all id <;> simp
theorem bg_6 (hl : l < 6) : BdOK sc 6 (l + 1) := by
  intro r d c m h G J post hP hr hd hF hI hJ hm hp
  rw [pH_e (by omega)] at hr
  have hr' : r = 0 + (l + 1) := hr
  have ho : oc 6 (l + 1) = 3 := (by decide : ∀ l, l < 6 → oc 6 (l + 1) = 3) l hl
  rw [ho] at hm hp
  have hsh := pw_sh l (by omega)
  have hw32 := pw_le hl
  rw [if_neg (by decide), if_neg (by omega)]
  unfold bPo gP at hp
  rw [Nat.pow_succ, Nat.mul_comm] at hp
  obtain ⟨w, hw⟩ : ∃ w, 2 ^ l = w := ⟨_, rfl⟩
  rw [hw] at hsh hw32 hp
  refine xq_in rfl ?_
  simp only [xq_a0, xq_aI, xq_aJ, xq_aR, Nat.reduceAdd]
  have E : cE h G c h G c := cE_rf
  with_reducible refine xm_go_blk b_X0_greaterPiece_0 k_X0_greaterPiece_0 ?_
  refine by_iconst ci_1 ?_
  refine by_iload_n rfl ?_
  refine by_iconst ci_1 ?_
  refine by_isub ?_
  refine by_ishl ?_
  refine by_istore_n (by rw [ml_16]; decide) ?_
  refine by_aload_n rfl ?_
  refine by_iload_n rfl ?_
  refine by_iload_n rfl ?_
  refine by_iconst ci_1 ?_
  refine by_isub ?_
  simp (disch := first | exact Nat.ne_of_beq_eq_false rfl | exact rfl | omega) only [nI_add, xa_sub, xa_mul, pk_div, nm_mod, xa_shr, xa_and7, xa_and1, xa_and255, xa_by_and, nI_m1, Nat.add_sub_cancel, Nat.reducePow, Nat.zero_add, Nat.add_zero, Nat.reduceAdd, Nat.reduceMul, Nat.reduceSub, xf_same, xq_ff, xq_fo, xf_1, xf_2, xs_1, xs_2, xs_same, xq_so, xj_1, xj_2, xj_same, xq_jo, xq_sa1, xq_same, xq_other, upd_s, oI_n, oI_s, xv_0, xv_1, xv_2, xv_3, xm_p1, xm_p2, xq_fp, xq_fn, List.filter_nil, Nat.reduceBEq, Bool.not_true, Bool.not_false, Bool.and_true, Bool.and_false, Bool.false_and, Bool.true_and, if_true, if_false, Bool.false_eq_true, reduceIte, xc_i, xc_j, xc_r, xc_n, List.nil_append, List.cons_append, Option.toList_some, Option.toList_none, hsh]
  refine by_inv2 cn_16 lk_0_83 (by rw [xe_cnt]; decide) is_26 np_26 cn_26 (by first | exact rfl | assumption) (Nat.le_of_ble_eq_true rfl) ?_
  refine sp_pc (a := 0) hP ⟨by omega, by omega, by omega⟩ rfl (by omega) hJ (by omega) hF hI (fun h1 G1 c1 n1 F1 I1 e1 p1 => ?_)
  obtain ⟨f1, v1, s1⟩ := p1
  simp only [pS, pT, pSp, Nat.reducePow, hw] at v1 s1
  replace v1 := nG_cg v1 rfl rfl (fun x hx => s1 x hx) (qle_rf _)
  replace E := cE_tr E e1
  with_reducible refine xm_go_blk b_X0_greaterPiece_14 k_X0_greaterPiece_14 ?_
  refine by_istore (by rw [ml_16]; decide) ?_
  refine by_iload_n rfl ?_
  simp (disch := first | exact Nat.ne_of_beq_eq_false rfl | exact rfl | omega) only [nI_add, xa_sub, xa_mul, pk_div, nm_mod, xa_shr, xa_and7, xa_and1, xa_and255, xa_by_and, nI_m1, Nat.add_sub_cancel, Nat.reducePow, Nat.zero_add, Nat.add_zero, Nat.reduceAdd, Nat.reduceMul, Nat.reduceSub, xf_same, xq_ff, xq_fo, xf_1, xf_2, xs_1, xs_2, xs_same, xq_so, xj_1, xj_2, xj_same, xq_jo, xq_sa1, xq_same, xq_other, upd_s, oI_n, oI_s, hsh]
  refine by_sw ?_
  simp (disch := first | exact Nat.ne_of_beq_eq_false rfl | exact rfl | omega) only [nI_add, xa_sub, xa_mul, pk_div, nm_mod, xa_shr, xa_and7, xa_and1, xa_and255, xa_by_and, nI_m1, Nat.add_sub_cancel, Nat.reducePow, Nat.zero_add, Nat.add_zero, Nat.reduceAdd, Nat.reduceMul, Nat.reduceSub, xf_same, xq_ff, xq_fo, xf_1, xf_2, xs_1, xs_2, xs_same, xq_so, xj_1, xj_2, xj_same, xq_jo, xq_sa1, xq_same, xq_other, upd_s, oI_n, oI_s, xv_0, xv_1, xv_2, xv_3, xm_p1, xm_p2, xq_fp, xq_fn, List.filter_nil, Nat.reduceBEq, Bool.not_true, Bool.not_false, Bool.and_true, Bool.and_false, Bool.false_and, Bool.true_and, if_true, if_false, Bool.false_eq_true, reduceIte, xc_i, xc_j, xc_r, xc_n, List.nil_append, List.cons_append, Option.toList_some, Option.toList_none, hsh]
  refine xq_sw 278 (by decide) (by decide) ?_
  with_reducible refine xm_go_blk b_X0_greaterPiece_278 k_X0_greaterPiece_278 ?_
  refine by_aload_n rfl ?_
  refine by_aload_n rfl ?_
  refine by_iload rfl ?_
  refine by_iload_n rfl ?_
  refine by_inv2 cn_16 lk_0_101 (by rw [xe_cnt]; decide) is_33 np_33 cn_33 (by first | exact rfl | assumption) (Nat.le_of_ble_eq_true rfl) ?_
  refine sp_gtake F1 I1 (by omega) v1 (by omega) (fun h2 G2 c2 n2 F2 I2 e2 v2 => ?_)
  replace v1 := nG_up v1 e2
  replace E := cE_tr E e2
  with_reducible refine xm_go_blk b_X0_greaterPiece_286 k_X0_greaterPiece_286 ?_
  refine by_aload_n rfl ?_
  refine by_iload_n rfl ?_
  refine by_iload rfl ?_
  refine by_inv2 cn_16 lk_0_47 (by rw [xe_cnt]; decide) is_12 np_12 cn_12 (by first | exact rfl | assumption) (Nat.le_of_ble_eq_true rfl) ?_
  refine sp_gdrop F2 I2 (by omega) v1 (by omega) (fun h3 G3 c3 n3 F3 I3 e3 v3 => ?_)
  replace v2 := nG_up v2 e3
  replace E := cE_tr E e3
  with_reducible refine xm_go_blk b_X0_greaterPiece_293 k_X0_greaterPiece_293 ?_
  refine by_inv2 cn_16 lk_0_80 (by rw [xe_cnt]; decide) is_25 np_25 cn_25 (by first | exact rfl | assumption) (Nat.le_of_ble_eq_true rfl) ?_
  refine sp_gpair F3 I3 (by omega) v2 v3 (by omega) (by omega) (fun h4 G4 c4 n4 F4 I4 e4 v4 => ?_)
  replace E := cE_tr E e4
  with_reducible refine xm_go_blk b_X0_greaterPiece_296 k_X0_greaterPiece_296 ?_
  refine by_iret ry_16 (by first | rfl | assumption) ?_
  refine hp _ _ _ _ F4 (cI_mono I4 (by omega) hm) E ⟨_, nG_cg v4 (by simp only [pS] <;> omega) (by simp only [pT] <;> omega) (fun _ _ => rfl) ?_, ?_⟩
  · subst hw
    rcases (by omega : l = 0 ∨ l = 1 ∨ l = 2 ∨ l = 3 ∨ l = 4 ∨ l = 5) with rfl | rfl | rfl | rfl | rfl | rfl <;> decide
  · intro x hx
    show (x.take w).map not ++ (x.drop w).map not = _
    rw [← List.map_append, List.take_append_drop]
theorem bg_7 (hl : l < 6) : BdOK sc 7 (l + 1) := by
  intro r d c m h G J post hP hr hd hF hI hJ hm hp
  rw [pH_e (by omega)] at hr
  have hr' : r = 0 + (l + 1) := hr
  have ho : oc 7 (l + 1) = 13 := (by decide : ∀ l, l < 6 → oc 7 (l + 1) = 13) l hl
  rw [ho] at hm hp
  have hsh := pw_sh l (by omega)
  have hw32 := pw_le hl
  rw [if_neg (by decide), if_neg (by omega)]
  unfold bPo gP at hp
  rw [Nat.pow_succ, Nat.mul_comm] at hp
  obtain ⟨w, hw⟩ : ∃ w, 2 ^ l = w := ⟨_, rfl⟩
  rw [hw] at hsh hw32 hp
  refine xq_in rfl ?_
  simp only [xq_a0, xq_aI, xq_aJ, xq_aR, Nat.reduceAdd]
  have E : cE h G c h G c := cE_rf
  with_reducible refine xm_go_blk b_X0_greaterPiece_0 k_X0_greaterPiece_0 ?_
  refine by_iconst ci_1 ?_
  refine by_iload_n rfl ?_
  refine by_iconst ci_1 ?_
  refine by_isub ?_
  refine by_ishl ?_
  refine by_istore_n (by rw [ml_16]; decide) ?_
  refine by_aload_n rfl ?_
  refine by_iload_n rfl ?_
  refine by_iload_n rfl ?_
  refine by_iconst ci_1 ?_
  refine by_isub ?_
  simp (disch := first | exact Nat.ne_of_beq_eq_false rfl | exact rfl | omega) only [nI_add, xa_sub, xa_mul, pk_div, nm_mod, xa_shr, xa_and7, xa_and1, xa_and255, xa_by_and, nI_m1, Nat.add_sub_cancel, Nat.reducePow, Nat.zero_add, Nat.add_zero, Nat.reduceAdd, Nat.reduceMul, Nat.reduceSub, xf_same, xq_ff, xq_fo, xf_1, xf_2, xs_1, xs_2, xs_same, xq_so, xj_1, xj_2, xj_same, xq_jo, xq_sa1, xq_same, xq_other, upd_s, oI_n, oI_s, xv_0, xv_1, xv_2, xv_3, xm_p1, xm_p2, xq_fp, xq_fn, List.filter_nil, Nat.reduceBEq, Bool.not_true, Bool.not_false, Bool.and_true, Bool.and_false, Bool.false_and, Bool.true_and, if_true, if_false, Bool.false_eq_true, reduceIte, xc_i, xc_j, xc_r, xc_n, List.nil_append, List.cons_append, Option.toList_some, Option.toList_none, hsh]
  refine by_inv2 cn_16 lk_0_83 (by rw [xe_cnt]; decide) is_26 np_26 cn_26 (by first | exact rfl | assumption) (Nat.le_of_ble_eq_true rfl) ?_
  refine sp_pc (a := 0) hP ⟨by omega, by omega, by omega⟩ rfl (by omega) hJ (by omega) hF hI (fun h1 G1 c1 n1 F1 I1 e1 p1 => ?_)
  obtain ⟨f1, v1, s1⟩ := p1
  simp only [pS, pT, pSp, Nat.reducePow, hw] at v1 s1
  replace v1 := nG_cg v1 rfl rfl (fun x hx => li_f2 s1 x (by omega)) (qle_rf _)
  replace E := cE_tr E e1
  with_reducible refine xm_go_blk b_X0_greaterPiece_14 k_X0_greaterPiece_14 ?_
  refine by_istore (by rw [ml_16]; decide) ?_
  refine by_iload_n rfl ?_
  simp (disch := first | exact Nat.ne_of_beq_eq_false rfl | exact rfl | omega) only [nI_add, xa_sub, xa_mul, pk_div, nm_mod, xa_shr, xa_and7, xa_and1, xa_and255, xa_by_and, nI_m1, Nat.add_sub_cancel, Nat.reducePow, Nat.zero_add, Nat.add_zero, Nat.reduceAdd, Nat.reduceMul, Nat.reduceSub, xf_same, xq_ff, xq_fo, xf_1, xf_2, xs_1, xs_2, xs_same, xq_so, xj_1, xj_2, xj_same, xq_jo, xq_sa1, xq_same, xq_other, upd_s, oI_n, oI_s, hsh]
  refine by_sw ?_
  simp (disch := first | exact Nat.ne_of_beq_eq_false rfl | exact rfl | omega) only [nI_add, xa_sub, xa_mul, pk_div, nm_mod, xa_shr, xa_and7, xa_and1, xa_and255, xa_by_and, nI_m1, Nat.add_sub_cancel, Nat.reducePow, Nat.zero_add, Nat.add_zero, Nat.reduceAdd, Nat.reduceMul, Nat.reduceSub, xf_same, xq_ff, xq_fo, xf_1, xf_2, xs_1, xs_2, xs_same, xq_so, xj_1, xj_2, xj_same, xq_jo, xq_sa1, xq_same, xq_other, upd_s, oI_n, oI_s, xv_0, xv_1, xv_2, xv_3, xm_p1, xm_p2, xq_fp, xq_fn, List.filter_nil, Nat.reduceBEq, Bool.not_true, Bool.not_false, Bool.and_true, Bool.and_false, Bool.false_and, Bool.true_and, if_true, if_false, Bool.false_eq_true, reduceIte, xc_i, xc_j, xc_r, xc_n, List.nil_append, List.cons_append, Option.toList_some, Option.toList_none, hsh]
  refine xq_sw 297 (by decide) (by decide) ?_
  with_reducible refine xm_go_blk b_X0_greaterPiece_297 k_X0_greaterPiece_297 ?_
  refine by_aload_n rfl ?_
  refine by_iload rfl ?_
  refine by_iconst ci_2 ?_
  refine by_iload_n rfl ?_
  refine by_inv3 cn_16 lk_0_139 (by rw [xe_cnt]; decide) is_5 np_5 cn_5 (by first | exact rfl | assumption) (Nat.le_of_ble_eq_true rfl) ?_
  refine sp_byHalves2 F1 I1 (by omega) v1 (by omega) (fun h2 G2 c2 n2 F2 I2 e2 v2 => ?_)
  replace E := cE_tr E e2
  with_reducible refine xm_go_blk b_X0_greaterPiece_305 k_X0_greaterPiece_305 ?_
  refine by_iret ry_16 (by first | rfl | assumption) ?_
  refine hp _ _ _ _ F2 (cI_mono I2 (by omega) hm) E ⟨_, nG_cg v2 (by simp only [pS] <;> omega) (by simp only [pT] <;> omega) (fun _ _ => rfl) ?_, ?_⟩
  · subst hw
    rcases (by omega : l = 0 ∨ l = 1 ∨ l = 2 ∨ l = 3 ∨ l = 4 ∨ l = 5) with rfl | rfl | rfl | rfl | rfl | rfl <;> decide
  · intro x y hx hy
    obtain ⟨x1, x0, rfl, a1, a0⟩ := li_s2 (x := x) (w := w) (by omega)
    obtain ⟨y1, y0, rfl, b1, b0⟩ := li_s2 (x := y) (w := w) (by omega)
    simp (disch := ((try simp only [List.length_append]); omega)) only [List.append_assoc, li_ka, li_da, li_kb, li_db, li_kw, li_dz]
    rw [List.zipWith_append (by omega)]
theorem bg_8 (hl : l < 6) : BdOK sc 8 (l + 1) := by
  intro r d c m h G J post hP hr hd hF hI hJ hm hp
  rw [pH_e (by omega)] at hr
  have hr' : r = 0 + (l + 1) := hr
  have ho : oc 8 (l + 1) = 13 := (by decide : ∀ l, l < 6 → oc 8 (l + 1) = 13) l hl
  rw [ho] at hm hp
  have hsh := pw_sh l (by omega)
  have hw32 := pw_le hl
  rw [if_neg (by decide), if_neg (by omega)]
  unfold bPo gP at hp
  rw [Nat.pow_succ, Nat.mul_comm] at hp
  obtain ⟨w, hw⟩ : ∃ w, 2 ^ l = w := ⟨_, rfl⟩
  rw [hw] at hsh hw32 hp
  refine xq_in rfl ?_
  simp only [xq_a0, xq_aI, xq_aJ, xq_aR, Nat.reduceAdd]
  have E : cE h G c h G c := cE_rf
  with_reducible refine xm_go_blk b_X0_greaterPiece_0 k_X0_greaterPiece_0 ?_
  refine by_iconst ci_1 ?_
  refine by_iload_n rfl ?_
  refine by_iconst ci_1 ?_
  refine by_isub ?_
  refine by_ishl ?_
  refine by_istore_n (by rw [ml_16]; decide) ?_
  refine by_aload_n rfl ?_
  refine by_iload_n rfl ?_
  refine by_iload_n rfl ?_
  refine by_iconst ci_1 ?_
  refine by_isub ?_
  simp (disch := first | exact Nat.ne_of_beq_eq_false rfl | exact rfl | omega) only [nI_add, xa_sub, xa_mul, pk_div, nm_mod, xa_shr, xa_and7, xa_and1, xa_and255, xa_by_and, nI_m1, Nat.add_sub_cancel, Nat.reducePow, Nat.zero_add, Nat.add_zero, Nat.reduceAdd, Nat.reduceMul, Nat.reduceSub, xf_same, xq_ff, xq_fo, xf_1, xf_2, xs_1, xs_2, xs_same, xq_so, xj_1, xj_2, xj_same, xq_jo, xq_sa1, xq_same, xq_other, upd_s, oI_n, oI_s, xv_0, xv_1, xv_2, xv_3, xm_p1, xm_p2, xq_fp, xq_fn, List.filter_nil, Nat.reduceBEq, Bool.not_true, Bool.not_false, Bool.and_true, Bool.and_false, Bool.false_and, Bool.true_and, if_true, if_false, Bool.false_eq_true, reduceIte, xc_i, xc_j, xc_r, xc_n, List.nil_append, List.cons_append, Option.toList_some, Option.toList_none, hsh]
  refine by_inv2 cn_16 lk_0_83 (by rw [xe_cnt]; decide) is_26 np_26 cn_26 (by first | exact rfl | assumption) (Nat.le_of_ble_eq_true rfl) ?_
  refine sp_pc (a := 0) hP ⟨by omega, by omega, by omega⟩ rfl (by omega) hJ (by omega) hF hI (fun h1 G1 c1 n1 F1 I1 e1 p1 => ?_)
  obtain ⟨f1, v1, s1⟩ := p1
  simp only [pS, pT, pSp, Nat.reducePow, hw] at v1 s1
  replace v1 := nG_cg v1 rfl rfl (fun x hx => li_f2 s1 x (by omega)) (qle_rf _)
  replace E := cE_tr E e1
  with_reducible refine xm_go_blk b_X0_greaterPiece_14 k_X0_greaterPiece_14 ?_
  refine by_istore (by rw [ml_16]; decide) ?_
  refine by_iload_n rfl ?_
  simp (disch := first | exact Nat.ne_of_beq_eq_false rfl | exact rfl | omega) only [nI_add, xa_sub, xa_mul, pk_div, nm_mod, xa_shr, xa_and7, xa_and1, xa_and255, xa_by_and, nI_m1, Nat.add_sub_cancel, Nat.reducePow, Nat.zero_add, Nat.add_zero, Nat.reduceAdd, Nat.reduceMul, Nat.reduceSub, xf_same, xq_ff, xq_fo, xf_1, xf_2, xs_1, xs_2, xs_same, xq_so, xj_1, xj_2, xj_same, xq_jo, xq_sa1, xq_same, xq_other, upd_s, oI_n, oI_s, hsh]
  refine by_sw ?_
  simp (disch := first | exact Nat.ne_of_beq_eq_false rfl | exact rfl | omega) only [nI_add, xa_sub, xa_mul, pk_div, nm_mod, xa_shr, xa_and7, xa_and1, xa_and255, xa_by_and, nI_m1, Nat.add_sub_cancel, Nat.reducePow, Nat.zero_add, Nat.add_zero, Nat.reduceAdd, Nat.reduceMul, Nat.reduceSub, xf_same, xq_ff, xq_fo, xf_1, xf_2, xs_1, xs_2, xs_same, xq_so, xj_1, xj_2, xj_same, xq_jo, xq_sa1, xq_same, xq_other, upd_s, oI_n, oI_s, xv_0, xv_1, xv_2, xv_3, xm_p1, xm_p2, xq_fp, xq_fn, List.filter_nil, Nat.reduceBEq, Bool.not_true, Bool.not_false, Bool.and_true, Bool.and_false, Bool.false_and, Bool.true_and, if_true, if_false, Bool.false_eq_true, reduceIte, xc_i, xc_j, xc_r, xc_n, List.nil_append, List.cons_append, Option.toList_some, Option.toList_none, hsh]
  refine xq_sw 297 (by decide) (by decide) ?_
  with_reducible refine xm_go_blk b_X0_greaterPiece_297 k_X0_greaterPiece_297 ?_
  refine by_aload_n rfl ?_
  refine by_iload rfl ?_
  refine by_iconst ci_2 ?_
  refine by_iload_n rfl ?_
  refine by_inv3 cn_16 lk_0_139 (by rw [xe_cnt]; decide) is_5 np_5 cn_5 (by first | exact rfl | assumption) (Nat.le_of_ble_eq_true rfl) ?_
  refine sp_byHalves2 F1 I1 (by omega) v1 (by omega) (fun h2 G2 c2 n2 F2 I2 e2 v2 => ?_)
  replace E := cE_tr E e2
  with_reducible refine xm_go_blk b_X0_greaterPiece_305 k_X0_greaterPiece_305 ?_
  refine by_iret ry_16 (by first | rfl | assumption) ?_
  refine hp _ _ _ _ F2 (cI_mono I2 (by omega) hm) E ⟨_, nG_cg v2 (by simp only [pS] <;> omega) (by simp only [pT] <;> omega) (fun _ _ => rfl) ?_, ?_⟩
  · subst hw
    rcases (by omega : l = 0 ∨ l = 1 ∨ l = 2 ∨ l = 3 ∨ l = 4 ∨ l = 5) with rfl | rfl | rfl | rfl | rfl | rfl <;> decide
  · intro x y hx hy
    obtain ⟨x1, x0, rfl, a1, a0⟩ := li_s2 (x := x) (w := w) (by omega)
    obtain ⟨y1, y0, rfl, b1, b0⟩ := li_s2 (x := y) (w := w) (by omega)
    simp (disch := ((try simp only [List.length_append]); omega)) only [List.append_assoc, li_ka, li_da, li_kb, li_db, li_kw, li_dz]
    rw [List.zipWith_append (by omega)]
theorem bg_9 (hl : l < 6) : BdOK sc 9 (l + 1) := by
  intro r d c m h G J post hP hr hd hF hI hJ hm hp
  rw [pH_e (by omega)] at hr
  have hr' : r = 1 + (l + 1) := hr
  have ho : oc 9 (l + 1) = 13 := (by decide : ∀ l, l < 6 → oc 9 (l + 1) = 13) l hl
  rw [ho] at hm hp
  have hsh := pw_sh l (by omega)
  have hw32 := pw_le hl
  rw [if_neg (by decide), if_neg (by omega)]
  unfold bPo gP at hp
  rw [Nat.pow_succ, Nat.mul_comm] at hp
  obtain ⟨w, hw⟩ : ∃ w, 2 ^ l = w := ⟨_, rfl⟩
  rw [hw] at hsh hw32 hp
  refine xq_in rfl ?_
  simp only [xq_a0, xq_aI, xq_aJ, xq_aR, Nat.reduceAdd]
  have E : cE h G c h G c := cE_rf
  with_reducible refine xm_go_blk b_X0_greaterPiece_0 k_X0_greaterPiece_0 ?_
  refine by_iconst ci_1 ?_
  refine by_iload_n rfl ?_
  refine by_iconst ci_1 ?_
  refine by_isub ?_
  refine by_ishl ?_
  refine by_istore_n (by rw [ml_16]; decide) ?_
  refine by_aload_n rfl ?_
  refine by_iload_n rfl ?_
  refine by_iload_n rfl ?_
  refine by_iconst ci_1 ?_
  refine by_isub ?_
  simp (disch := first | exact Nat.ne_of_beq_eq_false rfl | exact rfl | omega) only [nI_add, xa_sub, xa_mul, pk_div, nm_mod, xa_shr, xa_and7, xa_and1, xa_and255, xa_by_and, nI_m1, Nat.add_sub_cancel, Nat.reducePow, Nat.zero_add, Nat.add_zero, Nat.reduceAdd, Nat.reduceMul, Nat.reduceSub, xf_same, xq_ff, xq_fo, xf_1, xf_2, xs_1, xs_2, xs_same, xq_so, xj_1, xj_2, xj_same, xq_jo, xq_sa1, xq_same, xq_other, upd_s, oI_n, oI_s, xv_0, xv_1, xv_2, xv_3, xm_p1, xm_p2, xq_fp, xq_fn, List.filter_nil, Nat.reduceBEq, Bool.not_true, Bool.not_false, Bool.and_true, Bool.and_false, Bool.false_and, Bool.true_and, if_true, if_false, Bool.false_eq_true, reduceIte, xc_i, xc_j, xc_r, xc_n, List.nil_append, List.cons_append, Option.toList_some, Option.toList_none, hsh]
  refine by_inv2 cn_16 lk_0_83 (by rw [xe_cnt]; decide) is_26 np_26 cn_26 (by first | exact rfl | assumption) (Nat.le_of_ble_eq_true rfl) ?_
  refine sp_pc (a := 1) hP ⟨by omega, by omega, by omega⟩ rfl (by omega) hJ (by omega) hF hI (fun h1 G1 c1 n1 F1 I1 e1 p1 => ?_)
  obtain ⟨f1, v1, s1⟩ := p1
  simp only [pS, pT, pSp, Nat.reducePow, hw] at v1 s1
  replace v1 := nG_cg v1 rfl rfl (fun x hx => li_f2 s1 x (by omega)) (qle_rf _)
  replace E := cE_tr E e1
  with_reducible refine xm_go_blk b_X0_greaterPiece_14 k_X0_greaterPiece_14 ?_
  refine by_istore (by rw [ml_16]; decide) ?_
  refine by_iload_n rfl ?_
  simp (disch := first | exact Nat.ne_of_beq_eq_false rfl | exact rfl | omega) only [nI_add, xa_sub, xa_mul, pk_div, nm_mod, xa_shr, xa_and7, xa_and1, xa_and255, xa_by_and, nI_m1, Nat.add_sub_cancel, Nat.reducePow, Nat.zero_add, Nat.add_zero, Nat.reduceAdd, Nat.reduceMul, Nat.reduceSub, xf_same, xq_ff, xq_fo, xf_1, xf_2, xs_1, xs_2, xs_same, xq_so, xj_1, xj_2, xj_same, xq_jo, xq_sa1, xq_same, xq_other, upd_s, oI_n, oI_s, hsh]
  refine by_sw ?_
  simp (disch := first | exact Nat.ne_of_beq_eq_false rfl | exact rfl | omega) only [nI_add, xa_sub, xa_mul, pk_div, nm_mod, xa_shr, xa_and7, xa_and1, xa_and255, xa_by_and, nI_m1, Nat.add_sub_cancel, Nat.reducePow, Nat.zero_add, Nat.add_zero, Nat.reduceAdd, Nat.reduceMul, Nat.reduceSub, xf_same, xq_ff, xq_fo, xf_1, xf_2, xs_1, xs_2, xs_same, xq_so, xj_1, xj_2, xj_same, xq_jo, xq_sa1, xq_same, xq_other, upd_s, oI_n, oI_s, xv_0, xv_1, xv_2, xv_3, xm_p1, xm_p2, xq_fp, xq_fn, List.filter_nil, Nat.reduceBEq, Bool.not_true, Bool.not_false, Bool.and_true, Bool.and_false, Bool.false_and, Bool.true_and, if_true, if_false, Bool.false_eq_true, reduceIte, xc_i, xc_j, xc_r, xc_n, List.nil_append, List.cons_append, Option.toList_some, Option.toList_none, hsh]
  refine xq_sw 297 (by decide) (by decide) ?_
  with_reducible refine xm_go_blk b_X0_greaterPiece_297 k_X0_greaterPiece_297 ?_
  refine by_aload_n rfl ?_
  refine by_iload rfl ?_
  refine by_iconst ci_2 ?_
  refine by_iload_n rfl ?_
  refine by_inv3 cn_16 lk_0_139 (by rw [xe_cnt]; decide) is_5 np_5 cn_5 (by first | exact rfl | assumption) (Nat.le_of_ble_eq_true rfl) ?_
  refine sp_byHalves2 F1 I1 (by omega) v1 (by omega) (fun h2 G2 c2 n2 F2 I2 e2 v2 => ?_)
  replace E := cE_tr E e2
  with_reducible refine xm_go_blk b_X0_greaterPiece_305 k_X0_greaterPiece_305 ?_
  refine by_iret ry_16 (by first | rfl | assumption) ?_
  refine hp _ _ _ _ F2 (cI_mono I2 (by omega) hm) E ⟨_, nG_cg v2 (by simp only [pS] <;> omega) (by simp only [pT] <;> omega) (fun _ _ => rfl) ?_, ?_⟩
  · subst hw
    rcases (by omega : l = 0 ∨ l = 1 ∨ l = 2 ∨ l = 3 ∨ l = 4 ∨ l = 5) with rfl | rfl | rfl | rfl | rfl | rfl <;> decide
  · intro x y hx hy
    obtain ⟨x1, x0, rfl, a1, a0⟩ := li_s2 (x := x) (w := w) (by omega)
    obtain ⟨y1, y0, rfl, b1, b0⟩ := li_s2 (x := y) (w := w) (by omega)
    simp (disch := ((try simp only [List.length_append]); omega)) only [List.append_assoc, li_ka, li_da, li_kb, li_db, li_kw, li_dz]
    rw [List.zipWith_append (by omega)]
theorem bg_10 (hl : l < 6) : BdOK sc 10 (l + 1) := by
  intro r d c m h G J post hP hr hd hF hI hJ hm hp
  rw [pH_e (by omega)] at hr
  have hr' : r = 2 + (l + 1) := hr
  have ho : oc 10 (l + 1) = 19 := (by decide : ∀ l, l < 6 → oc 10 (l + 1) = 19) l hl
  rw [ho] at hm hp
  have hsh := pw_sh l (by omega)
  have hw32 := pw_le hl
  rw [if_neg (by decide), if_neg (by omega)]
  unfold bPo gP at hp
  rw [Nat.pow_succ, Nat.mul_comm] at hp
  obtain ⟨w, hw⟩ : ∃ w, 2 ^ l = w := ⟨_, rfl⟩
  rw [hw] at hsh hw32 hp
  refine xq_in rfl ?_
  simp only [xq_a0, xq_aI, xq_aJ, xq_aR, Nat.reduceAdd]
  have E : cE h G c h G c := cE_rf
  with_reducible refine xm_go_blk b_X0_greaterPiece_0 k_X0_greaterPiece_0 ?_
  refine by_iconst ci_1 ?_
  refine by_iload_n rfl ?_
  refine by_iconst ci_1 ?_
  refine by_isub ?_
  refine by_ishl ?_
  refine by_istore_n (by rw [ml_16]; decide) ?_
  refine by_aload_n rfl ?_
  refine by_iload_n rfl ?_
  refine by_iload_n rfl ?_
  refine by_iconst ci_1 ?_
  refine by_isub ?_
  simp (disch := first | exact Nat.ne_of_beq_eq_false rfl | exact rfl | omega) only [nI_add, xa_sub, xa_mul, pk_div, nm_mod, xa_shr, xa_and7, xa_and1, xa_and255, xa_by_and, nI_m1, Nat.add_sub_cancel, Nat.reducePow, Nat.zero_add, Nat.add_zero, Nat.reduceAdd, Nat.reduceMul, Nat.reduceSub, xf_same, xq_ff, xq_fo, xf_1, xf_2, xs_1, xs_2, xs_same, xq_so, xj_1, xj_2, xj_same, xq_jo, xq_sa1, xq_same, xq_other, upd_s, oI_n, oI_s, xv_0, xv_1, xv_2, xv_3, xm_p1, xm_p2, xq_fp, xq_fn, List.filter_nil, Nat.reduceBEq, Bool.not_true, Bool.not_false, Bool.and_true, Bool.and_false, Bool.false_and, Bool.true_and, if_true, if_false, Bool.false_eq_true, reduceIte, xc_i, xc_j, xc_r, xc_n, List.nil_append, List.cons_append, Option.toList_some, Option.toList_none, hsh]
  refine by_inv2 cn_16 lk_0_83 (by rw [xe_cnt]; decide) is_26 np_26 cn_26 (by first | exact rfl | assumption) (Nat.le_of_ble_eq_true rfl) ?_
  refine sp_pc (a := 2) hP ⟨by omega, by omega, by omega⟩ rfl (by omega) hJ (by omega) hF hI (fun h1 G1 c1 n1 F1 I1 e1 p1 => ?_)
  obtain ⟨f1, v1, s1⟩ := p1
  simp only [pS, pT, pSp, Nat.reducePow, hw] at v1 s1
  replace E := cE_tr E e1
  with_reducible refine xm_go_blk b_X0_greaterPiece_14 k_X0_greaterPiece_14 ?_
  refine by_istore (by rw [ml_16]; decide) ?_
  refine by_iload_n rfl ?_
  simp (disch := first | exact Nat.ne_of_beq_eq_false rfl | exact rfl | omega) only [nI_add, xa_sub, xa_mul, pk_div, nm_mod, xa_shr, xa_and7, xa_and1, xa_and255, xa_by_and, nI_m1, Nat.add_sub_cancel, Nat.reducePow, Nat.zero_add, Nat.add_zero, Nat.reduceAdd, Nat.reduceMul, Nat.reduceSub, xf_same, xq_ff, xq_fo, xf_1, xf_2, xs_1, xs_2, xs_same, xq_so, xj_1, xj_2, xj_same, xq_jo, xq_sa1, xq_same, xq_other, upd_s, oI_n, oI_s, hsh]
  refine by_sw ?_
  simp (disch := first | exact Nat.ne_of_beq_eq_false rfl | exact rfl | omega) only [nI_add, xa_sub, xa_mul, pk_div, nm_mod, xa_shr, xa_and7, xa_and1, xa_and255, xa_by_and, nI_m1, Nat.add_sub_cancel, Nat.reducePow, Nat.zero_add, Nat.add_zero, Nat.reduceAdd, Nat.reduceMul, Nat.reduceSub, xf_same, xq_ff, xq_fo, xf_1, xf_2, xs_1, xs_2, xs_same, xq_so, xj_1, xj_2, xj_same, xq_jo, xq_sa1, xq_same, xq_other, upd_s, oI_n, oI_s, xv_0, xv_1, xv_2, xv_3, xm_p1, xm_p2, xq_fp, xq_fn, List.filter_nil, Nat.reduceBEq, Bool.not_true, Bool.not_false, Bool.and_true, Bool.and_false, Bool.false_and, Bool.true_and, if_true, if_false, Bool.false_eq_true, reduceIte, xc_i, xc_j, xc_r, xc_n, List.nil_append, List.cons_append, Option.toList_some, Option.toList_none, hsh]
  refine xq_sw 306 (by decide) (by decide) ?_
  with_reducible refine xm_go_blk b_X0_greaterPiece_306 k_X0_greaterPiece_306 ?_
  refine by_aload_n rfl ?_
  refine by_iload rfl ?_
  refine by_iconst ci_3 ?_
  refine by_iload_n rfl ?_
  refine by_inv3 cn_16 lk_0_139 (by rw [xe_cnt]; decide) is_5 np_5 cn_5 (by first | exact rfl | assumption) (Nat.le_of_ble_eq_true rfl) ?_
  refine sp_byHalves3 F1 I1 (by omega) v1 (by omega) (fun h2 G2 c2 n2 F2 I2 e2 v2 => ?_)
  replace E := cE_tr E e2
  with_reducible refine xm_go_blk b_X0_greaterPiece_314 k_X0_greaterPiece_314 ?_
  refine by_iret ry_16 (by first | rfl | assumption) ?_
  refine hp _ _ _ _ F2 (cI_mono I2 (by omega) hm) E ⟨_, nG_cg v2 (by simp only [pS] <;> omega) (by simp only [pT] <;> omega) (fun _ _ => rfl) ?_, ?_⟩
  · subst hw
    rcases (by omega : l = 0 ∨ l = 1 ∨ l = 2 ∨ l = 3 ∨ l = 4 ∨ l = 5) with rfl | rfl | rfl | rfl | rfl | rfl <;> decide
  · intro x y z hx hy hz
    obtain ⟨x1, x0, rfl, a1, a0⟩ := li_s2 (x := x) (w := w) (by omega)
    obtain ⟨y1, y0, rfl, b1, b0⟩ := li_s2 (x := y) (w := w) (by omega)
    obtain ⟨z1, z0, rfl, g1, g0⟩ := li_s2 (x := z) (w := w) (by omega)
    simp (disch := ((try simp only [List.length_append]); omega)) only [List.append_assoc, li_ka, li_da, li_kb, li_db, li_kw, li_dz]
    rw [s1 _ _ _ a1 b1 g1, s1 _ _ _ a0 b0 g0, z3_app a1 b1 g1]
theorem bg_11 (hl : l < 6) : BdOK sc 11 (l + 1) := by
  intro r d c m h G J post hP hr hd hF hI hJ hm hp
  rw [pH_e (by omega)] at hr
  have hr' : r = 1 + (l + 1) := hr
  have ho : oc 11 (l + 1) = 19 := (by decide : ∀ l, l < 6 → oc 11 (l + 1) = 19) l hl
  rw [ho] at hm hp
  have hsh := pw_sh l (by omega)
  have hw32 := pw_le hl
  rw [if_neg (by decide), if_neg (by omega)]
  unfold bPo gP at hp
  rw [Nat.pow_succ, Nat.mul_comm] at hp
  obtain ⟨w, hw⟩ : ∃ w, 2 ^ l = w := ⟨_, rfl⟩
  rw [hw] at hsh hw32 hp
  refine xq_in rfl ?_
  simp only [xq_a0, xq_aI, xq_aJ, xq_aR, Nat.reduceAdd]
  have E : cE h G c h G c := cE_rf
  with_reducible refine xm_go_blk b_X0_greaterPiece_0 k_X0_greaterPiece_0 ?_
  refine by_iconst ci_1 ?_
  refine by_iload_n rfl ?_
  refine by_iconst ci_1 ?_
  refine by_isub ?_
  refine by_ishl ?_
  refine by_istore_n (by rw [ml_16]; decide) ?_
  refine by_aload_n rfl ?_
  refine by_iload_n rfl ?_
  refine by_iload_n rfl ?_
  refine by_iconst ci_1 ?_
  refine by_isub ?_
  simp (disch := first | exact Nat.ne_of_beq_eq_false rfl | exact rfl | omega) only [nI_add, xa_sub, xa_mul, pk_div, nm_mod, xa_shr, xa_and7, xa_and1, xa_and255, xa_by_and, nI_m1, Nat.add_sub_cancel, Nat.reducePow, Nat.zero_add, Nat.add_zero, Nat.reduceAdd, Nat.reduceMul, Nat.reduceSub, xf_same, xq_ff, xq_fo, xf_1, xf_2, xs_1, xs_2, xs_same, xq_so, xj_1, xj_2, xj_same, xq_jo, xq_sa1, xq_same, xq_other, upd_s, oI_n, oI_s, xv_0, xv_1, xv_2, xv_3, xm_p1, xm_p2, xq_fp, xq_fn, List.filter_nil, Nat.reduceBEq, Bool.not_true, Bool.not_false, Bool.and_true, Bool.and_false, Bool.false_and, Bool.true_and, if_true, if_false, Bool.false_eq_true, reduceIte, xc_i, xc_j, xc_r, xc_n, List.nil_append, List.cons_append, Option.toList_some, Option.toList_none, hsh]
  refine by_inv2 cn_16 lk_0_83 (by rw [xe_cnt]; decide) is_26 np_26 cn_26 (by first | exact rfl | assumption) (Nat.le_of_ble_eq_true rfl) ?_
  refine sp_pc (a := 1) hP ⟨by omega, by omega, by omega⟩ rfl (by omega) hJ (by omega) hF hI (fun h1 G1 c1 n1 F1 I1 e1 p1 => ?_)
  obtain ⟨f1, v1, s1⟩ := p1
  simp only [pS, pT, pSp, Nat.reducePow, hw] at v1 s1
  replace E := cE_tr E e1
  with_reducible refine xm_go_blk b_X0_greaterPiece_14 k_X0_greaterPiece_14 ?_
  refine by_istore (by rw [ml_16]; decide) ?_
  refine by_iload_n rfl ?_
  simp (disch := first | exact Nat.ne_of_beq_eq_false rfl | exact rfl | omega) only [nI_add, xa_sub, xa_mul, pk_div, nm_mod, xa_shr, xa_and7, xa_and1, xa_and255, xa_by_and, nI_m1, Nat.add_sub_cancel, Nat.reducePow, Nat.zero_add, Nat.add_zero, Nat.reduceAdd, Nat.reduceMul, Nat.reduceSub, xf_same, xq_ff, xq_fo, xf_1, xf_2, xs_1, xs_2, xs_same, xq_so, xj_1, xj_2, xj_same, xq_jo, xq_sa1, xq_same, xq_other, upd_s, oI_n, oI_s, hsh]
  refine by_sw ?_
  simp (disch := first | exact Nat.ne_of_beq_eq_false rfl | exact rfl | omega) only [nI_add, xa_sub, xa_mul, pk_div, nm_mod, xa_shr, xa_and7, xa_and1, xa_and255, xa_by_and, nI_m1, Nat.add_sub_cancel, Nat.reducePow, Nat.zero_add, Nat.add_zero, Nat.reduceAdd, Nat.reduceMul, Nat.reduceSub, xf_same, xq_ff, xq_fo, xf_1, xf_2, xs_1, xs_2, xs_same, xq_so, xj_1, xj_2, xj_same, xq_jo, xq_sa1, xq_same, xq_other, upd_s, oI_n, oI_s, xv_0, xv_1, xv_2, xv_3, xm_p1, xm_p2, xq_fp, xq_fn, List.filter_nil, Nat.reduceBEq, Bool.not_true, Bool.not_false, Bool.and_true, Bool.and_false, Bool.false_and, Bool.true_and, if_true, if_false, Bool.false_eq_true, reduceIte, xc_i, xc_j, xc_r, xc_n, List.nil_append, List.cons_append, Option.toList_some, Option.toList_none, hsh]
  refine xq_sw 306 (by decide) (by decide) ?_
  with_reducible refine xm_go_blk b_X0_greaterPiece_306 k_X0_greaterPiece_306 ?_
  refine by_aload_n rfl ?_
  refine by_iload rfl ?_
  refine by_iconst ci_3 ?_
  refine by_iload_n rfl ?_
  refine by_inv3 cn_16 lk_0_139 (by rw [xe_cnt]; decide) is_5 np_5 cn_5 (by first | exact rfl | assumption) (Nat.le_of_ble_eq_true rfl) ?_
  refine sp_byHalves3 F1 I1 (by omega) v1 (by omega) (fun h2 G2 c2 n2 F2 I2 e2 v2 => ?_)
  replace E := cE_tr E e2
  with_reducible refine xm_go_blk b_X0_greaterPiece_314 k_X0_greaterPiece_314 ?_
  refine by_iret ry_16 (by first | rfl | assumption) ?_
  refine hp _ _ _ _ F2 (cI_mono I2 (by omega) hm) E ⟨_, nG_cg v2 (by simp only [pS] <;> omega) (by simp only [pT] <;> omega) (fun _ _ => rfl) ?_, ?_⟩
  · subst hw
    rcases (by omega : l = 0 ∨ l = 1 ∨ l = 2 ∨ l = 3 ∨ l = 4 ∨ l = 5) with rfl | rfl | rfl | rfl | rfl | rfl <;> decide
  · intro x y z hx hy hz
    obtain ⟨x1, x0, rfl, a1, a0⟩ := li_s2 (x := x) (w := w) (by omega)
    obtain ⟨y1, y0, rfl, b1, b0⟩ := li_s2 (x := y) (w := w) (by omega)
    obtain ⟨z1, z0, rfl, g1, g0⟩ := li_s2 (x := z) (w := w) (by omega)
    simp (disch := ((try simp only [List.length_append]); omega)) only [List.append_assoc, li_ka, li_da, li_kb, li_db, li_kw, li_dz]
    rw [s1 _ _ _ a1 b1 g1, s1 _ _ _ a0 b0 g0, z3_app a1 b1 g1]
theorem bg_12 (hl : l < 6) : BdOK sc 12 (l + 1) := by
  intro r d c m h G J post hP hr hd hF hI hJ hm hp
  rw [pH_e (by omega)] at hr
  have hr' : r = 0 + (l + 1) := hr
  have ho : oc 12 (l + 1) = 19 := (by decide : ∀ l, l < 6 → oc 12 (l + 1) = 19) l hl
  rw [ho] at hm hp
  have hsh := pw_sh l (by omega)
  have hw32 := pw_le hl
  rw [if_neg (by decide), if_neg (by omega)]
  unfold bPo gP at hp
  rw [Nat.pow_succ, Nat.mul_comm] at hp
  obtain ⟨w, hw⟩ : ∃ w, 2 ^ l = w := ⟨_, rfl⟩
  rw [hw] at hsh hw32 hp
  refine xq_in rfl ?_
  simp only [xq_a0, xq_aI, xq_aJ, xq_aR, Nat.reduceAdd]
  have E : cE h G c h G c := cE_rf
  with_reducible refine xm_go_blk b_X0_greaterPiece_0 k_X0_greaterPiece_0 ?_
  refine by_iconst ci_1 ?_
  refine by_iload_n rfl ?_
  refine by_iconst ci_1 ?_
  refine by_isub ?_
  refine by_ishl ?_
  refine by_istore_n (by rw [ml_16]; decide) ?_
  refine by_aload_n rfl ?_
  refine by_iload_n rfl ?_
  refine by_iload_n rfl ?_
  refine by_iconst ci_1 ?_
  refine by_isub ?_
  simp (disch := first | exact Nat.ne_of_beq_eq_false rfl | exact rfl | omega) only [nI_add, xa_sub, xa_mul, pk_div, nm_mod, xa_shr, xa_and7, xa_and1, xa_and255, xa_by_and, nI_m1, Nat.add_sub_cancel, Nat.reducePow, Nat.zero_add, Nat.add_zero, Nat.reduceAdd, Nat.reduceMul, Nat.reduceSub, xf_same, xq_ff, xq_fo, xf_1, xf_2, xs_1, xs_2, xs_same, xq_so, xj_1, xj_2, xj_same, xq_jo, xq_sa1, xq_same, xq_other, upd_s, oI_n, oI_s, xv_0, xv_1, xv_2, xv_3, xm_p1, xm_p2, xq_fp, xq_fn, List.filter_nil, Nat.reduceBEq, Bool.not_true, Bool.not_false, Bool.and_true, Bool.and_false, Bool.false_and, Bool.true_and, if_true, if_false, Bool.false_eq_true, reduceIte, xc_i, xc_j, xc_r, xc_n, List.nil_append, List.cons_append, Option.toList_some, Option.toList_none, hsh]
  refine by_inv2 cn_16 lk_0_83 (by rw [xe_cnt]; decide) is_26 np_26 cn_26 (by first | exact rfl | assumption) (Nat.le_of_ble_eq_true rfl) ?_
  refine sp_pc (a := 0) hP ⟨by omega, by omega, by omega⟩ rfl (by omega) hJ (by omega) hF hI (fun h1 G1 c1 n1 F1 I1 e1 p1 => ?_)
  obtain ⟨f1, v1, s1⟩ := p1
  simp only [pS, pT, pSp, Nat.reducePow, hw] at v1 s1
  replace E := cE_tr E e1
  with_reducible refine xm_go_blk b_X0_greaterPiece_14 k_X0_greaterPiece_14 ?_
  refine by_istore (by rw [ml_16]; decide) ?_
  refine by_iload_n rfl ?_
  simp (disch := first | exact Nat.ne_of_beq_eq_false rfl | exact rfl | omega) only [nI_add, xa_sub, xa_mul, pk_div, nm_mod, xa_shr, xa_and7, xa_and1, xa_and255, xa_by_and, nI_m1, Nat.add_sub_cancel, Nat.reducePow, Nat.zero_add, Nat.add_zero, Nat.reduceAdd, Nat.reduceMul, Nat.reduceSub, xf_same, xq_ff, xq_fo, xf_1, xf_2, xs_1, xs_2, xs_same, xq_so, xj_1, xj_2, xj_same, xq_jo, xq_sa1, xq_same, xq_other, upd_s, oI_n, oI_s, hsh]
  refine by_sw ?_
  simp (disch := first | exact Nat.ne_of_beq_eq_false rfl | exact rfl | omega) only [nI_add, xa_sub, xa_mul, pk_div, nm_mod, xa_shr, xa_and7, xa_and1, xa_and255, xa_by_and, nI_m1, Nat.add_sub_cancel, Nat.reducePow, Nat.zero_add, Nat.add_zero, Nat.reduceAdd, Nat.reduceMul, Nat.reduceSub, xf_same, xq_ff, xq_fo, xf_1, xf_2, xs_1, xs_2, xs_same, xq_so, xj_1, xj_2, xj_same, xq_jo, xq_sa1, xq_same, xq_other, upd_s, oI_n, oI_s, xv_0, xv_1, xv_2, xv_3, xm_p1, xm_p2, xq_fp, xq_fn, List.filter_nil, Nat.reduceBEq, Bool.not_true, Bool.not_false, Bool.and_true, Bool.and_false, Bool.false_and, Bool.true_and, if_true, if_false, Bool.false_eq_true, reduceIte, xc_i, xc_j, xc_r, xc_n, List.nil_append, List.cons_append, Option.toList_some, Option.toList_none, hsh]
  refine xq_sw 306 (by decide) (by decide) ?_
  with_reducible refine xm_go_blk b_X0_greaterPiece_306 k_X0_greaterPiece_306 ?_
  refine by_aload_n rfl ?_
  refine by_iload rfl ?_
  refine by_iconst ci_3 ?_
  refine by_iload_n rfl ?_
  refine by_inv3 cn_16 lk_0_139 (by rw [xe_cnt]; decide) is_5 np_5 cn_5 (by first | exact rfl | assumption) (Nat.le_of_ble_eq_true rfl) ?_
  refine sp_byHalves3 F1 I1 (by omega) v1 (by omega) (fun h2 G2 c2 n2 F2 I2 e2 v2 => ?_)
  replace E := cE_tr E e2
  with_reducible refine xm_go_blk b_X0_greaterPiece_314 k_X0_greaterPiece_314 ?_
  refine by_iret ry_16 (by first | rfl | assumption) ?_
  refine hp _ _ _ _ F2 (cI_mono I2 (by omega) hm) E ⟨_, nG_cg v2 (by simp only [pS] <;> omega) (by simp only [pT] <;> omega) (fun _ _ => rfl) ?_, ?_⟩
  · subst hw
    rcases (by omega : l = 0 ∨ l = 1 ∨ l = 2 ∨ l = 3 ∨ l = 4 ∨ l = 5) with rfl | rfl | rfl | rfl | rfl | rfl <;> decide
  · intro x y z hx hy hz
    obtain ⟨x1, x0, rfl, a1, a0⟩ := li_s2 (x := x) (w := w) (by omega)
    obtain ⟨y1, y0, rfl, b1, b0⟩ := li_s2 (x := y) (w := w) (by omega)
    obtain ⟨z1, z0, rfl, g1, g0⟩ := li_s2 (x := z) (w := w) (by omega)
    simp (disch := ((try simp only [List.length_append]); omega)) only [List.append_assoc, li_ka, li_da, li_kb, li_db, li_kw, li_dz]
    rw [s1 _ _ _ a1 b1 g1, s1 _ _ _ a0 b0 g0, z3_app a1 b1 g1]
theorem bg_13 (hl : l < 6) : BdOK sc 13 (l + 1) := by
  intro r d c m h G J post hP hr hd hF hI hJ hm hp
  rw [pH_e (by omega)] at hr
  have hr' : r = 0 + (l + 1) := hr
  have ho : oc 13 (l + 1) = 1 := (by decide : ∀ l, l < 6 → oc 13 (l + 1) = 1) l hl
  rw [ho] at hm hp
  have hsh := pw_sh l (by omega)
  have hw32 := pw_le hl
  rw [if_neg (by decide), if_neg (by omega)]
  unfold bPo gP at hp
  rw [Nat.pow_succ, Nat.mul_comm] at hp
  obtain ⟨w, hw⟩ : ∃ w, 2 ^ l = w := ⟨_, rfl⟩
  rw [hw] at hsh hw32 hp
  refine xq_in rfl ?_
  simp only [xq_a0, xq_aI, xq_aJ, xq_aR, Nat.reduceAdd]
  have E : cE h G c h G c := cE_rf
  with_reducible refine xm_go_blk b_X0_greaterPiece_0 k_X0_greaterPiece_0 ?_
  refine by_iconst ci_1 ?_
  refine by_iload_n rfl ?_
  refine by_iconst ci_1 ?_
  refine by_isub ?_
  refine by_ishl ?_
  refine by_istore_n (by rw [ml_16]; decide) ?_
  refine by_aload_n rfl ?_
  refine by_iload_n rfl ?_
  refine by_iload_n rfl ?_
  refine by_iconst ci_1 ?_
  refine by_isub ?_
  simp (disch := first | exact Nat.ne_of_beq_eq_false rfl | exact rfl | omega) only [nI_add, xa_sub, xa_mul, pk_div, nm_mod, xa_shr, xa_and7, xa_and1, xa_and255, xa_by_and, nI_m1, Nat.add_sub_cancel, Nat.reducePow, Nat.zero_add, Nat.add_zero, Nat.reduceAdd, Nat.reduceMul, Nat.reduceSub, xf_same, xq_ff, xq_fo, xf_1, xf_2, xs_1, xs_2, xs_same, xq_so, xj_1, xj_2, xj_same, xq_jo, xq_sa1, xq_same, xq_other, upd_s, oI_n, oI_s, xv_0, xv_1, xv_2, xv_3, xm_p1, xm_p2, xq_fp, xq_fn, List.filter_nil, Nat.reduceBEq, Bool.not_true, Bool.not_false, Bool.and_true, Bool.and_false, Bool.false_and, Bool.true_and, if_true, if_false, Bool.false_eq_true, reduceIte, xc_i, xc_j, xc_r, xc_n, List.nil_append, List.cons_append, Option.toList_some, Option.toList_none, hsh]
  refine by_inv2 cn_16 lk_0_83 (by rw [xe_cnt]; decide) is_26 np_26 cn_26 (by first | exact rfl | assumption) (Nat.le_of_ble_eq_true rfl) ?_
  refine sp_pc (a := 0) hP ⟨by omega, by omega, by omega⟩ rfl (by omega) hJ (by omega) hF hI (fun h1 G1 c1 n1 F1 I1 e1 p1 => ?_)
  obtain ⟨f1, v1, s1⟩ := p1
  simp only [pS, pT, pSp, Nat.reducePow, hw] at v1 s1
  replace E := cE_tr E e1
  with_reducible refine xm_go_blk b_X0_greaterPiece_14 k_X0_greaterPiece_14 ?_
  refine by_istore (by rw [ml_16]; decide) ?_
  refine by_iload_n rfl ?_
  simp (disch := first | exact Nat.ne_of_beq_eq_false rfl | exact rfl | omega) only [nI_add, xa_sub, xa_mul, pk_div, nm_mod, xa_shr, xa_and7, xa_and1, xa_and255, xa_by_and, nI_m1, Nat.add_sub_cancel, Nat.reducePow, Nat.zero_add, Nat.add_zero, Nat.reduceAdd, Nat.reduceMul, Nat.reduceSub, xf_same, xq_ff, xq_fo, xf_1, xf_2, xs_1, xs_2, xs_same, xq_so, xj_1, xj_2, xj_same, xq_jo, xq_sa1, xq_same, xq_other, upd_s, oI_n, oI_s, hsh]
  refine by_sw ?_
  simp (disch := first | exact Nat.ne_of_beq_eq_false rfl | exact rfl | omega) only [nI_add, xa_sub, xa_mul, pk_div, nm_mod, xa_shr, xa_and7, xa_and1, xa_and255, xa_by_and, nI_m1, Nat.add_sub_cancel, Nat.reducePow, Nat.zero_add, Nat.add_zero, Nat.reduceAdd, Nat.reduceMul, Nat.reduceSub, xf_same, xq_ff, xq_fo, xf_1, xf_2, xs_1, xs_2, xs_same, xq_so, xj_1, xj_2, xj_same, xq_jo, xq_sa1, xq_same, xq_other, upd_s, oI_n, oI_s, xv_0, xv_1, xv_2, xv_3, xm_p1, xm_p2, xq_fp, xq_fn, List.filter_nil, Nat.reduceBEq, Bool.not_true, Bool.not_false, Bool.and_true, Bool.and_false, Bool.false_and, Bool.true_and, if_true, if_false, Bool.false_eq_true, reduceIte, xc_i, xc_j, xc_r, xc_n, List.nil_append, List.cons_append, Option.toList_some, Option.toList_none, hsh]
  refine xq_sw 315 (by decide) (by decide) ?_
  with_reducible refine xm_go_blk b_X0_greaterPiece_315 k_X0_greaterPiece_315 ?_
  refine by_aload_n rfl ?_
  refine by_iload rfl ?_
  refine by_iload rfl ?_
  refine by_inv2 cn_16 lk_0_80 (by rw [xe_cnt]; decide) is_25 np_25 cn_25 (by first | exact rfl | assumption) (Nat.le_of_ble_eq_true rfl) ?_
  refine sp_gpair F1 I1 (by omega) v1 v1 (by omega) (by omega) (fun h2 G2 c2 n2 F2 I2 e2 v2 => ?_)
  replace E := cE_tr E e2
  with_reducible refine xm_go_blk b_X0_greaterPiece_323 k_X0_greaterPiece_323 ?_
  refine by_iret ry_16 (by first | rfl | assumption) ?_
  refine hp _ _ _ _ F2 (cI_mono I2 (by omega) hm) E ⟨_, nG_cg v2 (by simp only [pS] <;> omega) (by simp only [pT] <;> omega) (fun _ _ => rfl) ?_, ?_⟩
  · subst hw
    rcases (by omega : l = 0 ∨ l = 1 ∨ l = 2 ∨ l = 3 ∨ l = 4 ∨ l = 5) with rfl | rfl | rfl | rfl | rfl | rfl <;> decide
  · show f1 [] ++ f1 [] = _
    rw [s1, List.replicate_append_replicate, Nat.two_mul]
theorem bg_14 (hl : l < 6) : BdOK sc 14 (l + 1) := by
  intro r d c m h G J post hP hr hd hF hI hJ hm hp
  rw [pH_e (by omega)] at hr
  have hr' : r = 0 + (l + 1) := hr
  have ho : oc 14 (l + 1) = 1 := (by decide : ∀ l, l < 6 → oc 14 (l + 1) = 1) l hl
  rw [ho] at hm hp
  have hsh := pw_sh l (by omega)
  have hw32 := pw_le hl
  rw [if_neg (by decide), if_neg (by omega)]
  unfold bPo gP at hp
  rw [Nat.pow_succ, Nat.mul_comm] at hp
  obtain ⟨w, hw⟩ : ∃ w, 2 ^ l = w := ⟨_, rfl⟩
  rw [hw] at hsh hw32 hp
  refine xq_in rfl ?_
  simp only [xq_a0, xq_aI, xq_aJ, xq_aR, Nat.reduceAdd]
  have E : cE h G c h G c := cE_rf
  with_reducible refine xm_go_blk b_X0_greaterPiece_0 k_X0_greaterPiece_0 ?_
  refine by_iconst ci_1 ?_
  refine by_iload_n rfl ?_
  refine by_iconst ci_1 ?_
  refine by_isub ?_
  refine by_ishl ?_
  refine by_istore_n (by rw [ml_16]; decide) ?_
  refine by_aload_n rfl ?_
  refine by_iload_n rfl ?_
  refine by_iload_n rfl ?_
  refine by_iconst ci_1 ?_
  refine by_isub ?_
  simp (disch := first | exact Nat.ne_of_beq_eq_false rfl | exact rfl | omega) only [nI_add, xa_sub, xa_mul, pk_div, nm_mod, xa_shr, xa_and7, xa_and1, xa_and255, xa_by_and, nI_m1, Nat.add_sub_cancel, Nat.reducePow, Nat.zero_add, Nat.add_zero, Nat.reduceAdd, Nat.reduceMul, Nat.reduceSub, xf_same, xq_ff, xq_fo, xf_1, xf_2, xs_1, xs_2, xs_same, xq_so, xj_1, xj_2, xj_same, xq_jo, xq_sa1, xq_same, xq_other, upd_s, oI_n, oI_s, xv_0, xv_1, xv_2, xv_3, xm_p1, xm_p2, xq_fp, xq_fn, List.filter_nil, Nat.reduceBEq, Bool.not_true, Bool.not_false, Bool.and_true, Bool.and_false, Bool.false_and, Bool.true_and, if_true, if_false, Bool.false_eq_true, reduceIte, xc_i, xc_j, xc_r, xc_n, List.nil_append, List.cons_append, Option.toList_some, Option.toList_none, hsh]
  refine by_inv2 cn_16 lk_0_83 (by rw [xe_cnt]; decide) is_26 np_26 cn_26 (by first | exact rfl | assumption) (Nat.le_of_ble_eq_true rfl) ?_
  refine sp_pc (a := 0) hP ⟨by omega, by omega, by omega⟩ rfl (by omega) hJ (by omega) hF hI (fun h1 G1 c1 n1 F1 I1 e1 p1 => ?_)
  obtain ⟨f1, v1, s1⟩ := p1
  simp only [pS, pT, pSp, Nat.reducePow, hw] at v1 s1
  replace E := cE_tr E e1
  with_reducible refine xm_go_blk b_X0_greaterPiece_14 k_X0_greaterPiece_14 ?_
  refine by_istore (by rw [ml_16]; decide) ?_
  refine by_iload_n rfl ?_
  simp (disch := first | exact Nat.ne_of_beq_eq_false rfl | exact rfl | omega) only [nI_add, xa_sub, xa_mul, pk_div, nm_mod, xa_shr, xa_and7, xa_and1, xa_and255, xa_by_and, nI_m1, Nat.add_sub_cancel, Nat.reducePow, Nat.zero_add, Nat.add_zero, Nat.reduceAdd, Nat.reduceMul, Nat.reduceSub, xf_same, xq_ff, xq_fo, xf_1, xf_2, xs_1, xs_2, xs_same, xq_so, xj_1, xj_2, xj_same, xq_jo, xq_sa1, xq_same, xq_other, upd_s, oI_n, oI_s, hsh]
  refine by_sw ?_
  simp (disch := first | exact Nat.ne_of_beq_eq_false rfl | exact rfl | omega) only [nI_add, xa_sub, xa_mul, pk_div, nm_mod, xa_shr, xa_and7, xa_and1, xa_and255, xa_by_and, nI_m1, Nat.add_sub_cancel, Nat.reducePow, Nat.zero_add, Nat.add_zero, Nat.reduceAdd, Nat.reduceMul, Nat.reduceSub, xf_same, xq_ff, xq_fo, xf_1, xf_2, xs_1, xs_2, xs_same, xq_so, xj_1, xj_2, xj_same, xq_jo, xq_sa1, xq_same, xq_other, upd_s, oI_n, oI_s, xv_0, xv_1, xv_2, xv_3, xm_p1, xm_p2, xq_fp, xq_fn, List.filter_nil, Nat.reduceBEq, Bool.not_true, Bool.not_false, Bool.and_true, Bool.and_false, Bool.false_and, Bool.true_and, if_true, if_false, Bool.false_eq_true, reduceIte, xc_i, xc_j, xc_r, xc_n, List.nil_append, List.cons_append, Option.toList_some, Option.toList_none, hsh]
  refine xq_sw 315 (by decide) (by decide) ?_
  with_reducible refine xm_go_blk b_X0_greaterPiece_315 k_X0_greaterPiece_315 ?_
  refine by_aload_n rfl ?_
  refine by_iload rfl ?_
  refine by_iload rfl ?_
  refine by_inv2 cn_16 lk_0_80 (by rw [xe_cnt]; decide) is_25 np_25 cn_25 (by first | exact rfl | assumption) (Nat.le_of_ble_eq_true rfl) ?_
  refine sp_gpair F1 I1 (by omega) v1 v1 (by omega) (by omega) (fun h2 G2 c2 n2 F2 I2 e2 v2 => ?_)
  replace E := cE_tr E e2
  with_reducible refine xm_go_blk b_X0_greaterPiece_323 k_X0_greaterPiece_323 ?_
  refine by_iret ry_16 (by first | rfl | assumption) ?_
  refine hp _ _ _ _ F2 (cI_mono I2 (by omega) hm) E ⟨_, nG_cg v2 (by simp only [pS] <;> omega) (by simp only [pT] <;> omega) (fun _ _ => rfl) ?_, ?_⟩
  · subst hw
    rcases (by omega : l = 0 ∨ l = 1 ∨ l = 2 ∨ l = 3 ∨ l = 4 ∨ l = 5) with rfl | rfl | rfl | rfl | rfl | rfl <;> decide
  · show f1 [] ++ f1 [] = _
    rw [s1, List.replicate_append_replicate, Nat.two_mul]
theorem bg_15 (hl : l < 6) : BdOK sc 15 (l + 1) := by
  intro r d c m h G J post hP hr hd hF hI hJ hm hp
  rw [pH_e (by omega)] at hr
  have hr' : r = 0 + (l + 1) := hr
  have ho : oc 15 (l + 1) = 3 := (by decide : ∀ l, l < 6 → oc 15 (l + 1) = 3) l hl
  rw [ho] at hm hp
  have hsh := pw_sh l (by omega)
  have hw32 := pw_le hl
  rw [if_neg (by decide), if_neg (by omega)]
  unfold bPo gP at hp
  rw [Nat.pow_succ, Nat.mul_comm] at hp
  obtain ⟨w, hw⟩ : ∃ w, 2 ^ l = w := ⟨_, rfl⟩
  rw [hw] at hsh hw32 hp
  refine xq_in rfl ?_
  simp only [xq_a0, xq_aI, xq_aJ, xq_aR, Nat.reduceAdd]
  have E : cE h G c h G c := cE_rf
  with_reducible refine xm_go_blk b_X0_greaterPiece_0 k_X0_greaterPiece_0 ?_
  refine by_iconst ci_1 ?_
  refine by_iload_n rfl ?_
  refine by_iconst ci_1 ?_
  refine by_isub ?_
  refine by_ishl ?_
  refine by_istore_n (by rw [ml_16]; decide) ?_
  refine by_aload_n rfl ?_
  refine by_iload_n rfl ?_
  refine by_iload_n rfl ?_
  refine by_iconst ci_1 ?_
  refine by_isub ?_
  simp (disch := first | exact Nat.ne_of_beq_eq_false rfl | exact rfl | omega) only [nI_add, xa_sub, xa_mul, pk_div, nm_mod, xa_shr, xa_and7, xa_and1, xa_and255, xa_by_and, nI_m1, Nat.add_sub_cancel, Nat.reducePow, Nat.zero_add, Nat.add_zero, Nat.reduceAdd, Nat.reduceMul, Nat.reduceSub, xf_same, xq_ff, xq_fo, xf_1, xf_2, xs_1, xs_2, xs_same, xq_so, xj_1, xj_2, xj_same, xq_jo, xq_sa1, xq_same, xq_other, upd_s, oI_n, oI_s, xv_0, xv_1, xv_2, xv_3, xm_p1, xm_p2, xq_fp, xq_fn, List.filter_nil, Nat.reduceBEq, Bool.not_true, Bool.not_false, Bool.and_true, Bool.and_false, Bool.false_and, Bool.true_and, if_true, if_false, Bool.false_eq_true, reduceIte, xc_i, xc_j, xc_r, xc_n, List.nil_append, List.cons_append, Option.toList_some, Option.toList_none, hsh]
  refine by_inv2 cn_16 lk_0_83 (by rw [xe_cnt]; decide) is_26 np_26 cn_26 (by first | exact rfl | assumption) (Nat.le_of_ble_eq_true rfl) ?_
  refine sp_pc (a := 0) hP ⟨by omega, by omega, by omega⟩ rfl (by omega) hJ (by omega) hF hI (fun h1 G1 c1 n1 F1 I1 e1 p1 => ?_)
  obtain ⟨f1, v1, s1⟩ := p1
  simp only [pS, pT, pSp, Nat.reducePow, hw] at v1 s1
  replace v1 := nG_cg v1 rfl rfl (fun x hx => s1 x hx) (qle_rf _)
  replace E := cE_tr E e1
  with_reducible refine xm_go_blk b_X0_greaterPiece_14 k_X0_greaterPiece_14 ?_
  refine by_istore (by rw [ml_16]; decide) ?_
  refine by_iload_n rfl ?_
  simp (disch := first | exact Nat.ne_of_beq_eq_false rfl | exact rfl | omega) only [nI_add, xa_sub, xa_mul, pk_div, nm_mod, xa_shr, xa_and7, xa_and1, xa_and255, xa_by_and, nI_m1, Nat.add_sub_cancel, Nat.reducePow, Nat.zero_add, Nat.add_zero, Nat.reduceAdd, Nat.reduceMul, Nat.reduceSub, xf_same, xq_ff, xq_fo, xf_1, xf_2, xs_1, xs_2, xs_same, xq_so, xj_1, xj_2, xj_same, xq_jo, xq_sa1, xq_same, xq_other, upd_s, oI_n, oI_s, hsh]
  refine by_sw ?_
  simp (disch := first | exact Nat.ne_of_beq_eq_false rfl | exact rfl | omega) only [nI_add, xa_sub, xa_mul, pk_div, nm_mod, xa_shr, xa_and7, xa_and1, xa_and255, xa_by_and, nI_m1, Nat.add_sub_cancel, Nat.reducePow, Nat.zero_add, Nat.add_zero, Nat.reduceAdd, Nat.reduceMul, Nat.reduceSub, xf_same, xq_ff, xq_fo, xf_1, xf_2, xs_1, xs_2, xs_same, xq_so, xj_1, xj_2, xj_same, xq_jo, xq_sa1, xq_same, xq_other, upd_s, oI_n, oI_s, xv_0, xv_1, xv_2, xv_3, xm_p1, xm_p2, xq_fp, xq_fn, List.filter_nil, Nat.reduceBEq, Bool.not_true, Bool.not_false, Bool.and_true, Bool.and_false, Bool.false_and, Bool.true_and, if_true, if_false, Bool.false_eq_true, reduceIte, xc_i, xc_j, xc_r, xc_n, List.nil_append, List.cons_append, Option.toList_some, Option.toList_none, hsh]
  refine xq_sw 324 (by decide) (by decide) ?_
  with_reducible refine xm_go_blk b_X0_greaterPiece_324 k_X0_greaterPiece_324 ?_
  refine by_aload_n rfl ?_
  refine by_aload_n rfl ?_
  refine by_iload rfl ?_
  refine by_iload_n rfl ?_
  refine by_inv2 cn_16 lk_0_101 (by rw [xe_cnt]; decide) is_33 np_33 cn_33 (by first | exact rfl | assumption) (Nat.le_of_ble_eq_true rfl) ?_
  refine sp_gtake F1 I1 (by omega) v1 (by omega) (fun h2 G2 c2 n2 F2 I2 e2 v2 => ?_)
  replace E := cE_tr E e2
  with_reducible refine xm_go_blk b_X0_greaterPiece_332 k_X0_greaterPiece_332 ?_
  refine by_aload_n rfl ?_
  refine by_iload_n rfl ?_
  refine by_iload_n rfl ?_
  refine by_inv2 cn_16 lk_0_92 (by rw [xe_cnt]; decide) is_32 np_32 cn_32 (by first | exact rfl | assumption) (Nat.le_of_ble_eq_true rfl) ?_
  refine sp_second F2 I2 (by omega) (by omega) (fun h3 G3 c3 n3 F3 I3 e3 v3 => ?_)
  replace v2 := nG_up v2 e3
  replace E := cE_tr E e3
  with_reducible refine xm_go_blk b_X0_greaterPiece_338 k_X0_greaterPiece_338 ?_
  refine by_inv2 cn_16 lk_0_80 (by rw [xe_cnt]; decide) is_25 np_25 cn_25 (by first | exact rfl | assumption) (Nat.le_of_ble_eq_true rfl) ?_
  refine sp_gpair F3 I3 (by omega) v2 v3 (by omega) (by omega) (fun h4 G4 c4 n4 F4 I4 e4 v4 => ?_)
  replace E := cE_tr E e4
  with_reducible refine xm_go_blk b_X0_greaterPiece_341 k_X0_greaterPiece_341 ?_
  refine by_iret ry_16 (by first | rfl | assumption) ?_
  refine hp _ _ _ _ F4 (cI_mono I4 (by omega) hm) E ⟨_, nG_cg v4 (by simp only [pS] <;> omega) (by simp only [pT] <;> omega) (fun _ _ => rfl) ?_, ?_⟩
  · subst hw
    rcases (by omega : l = 0 ∨ l = 1 ∨ l = 2 ∨ l = 3 ∨ l = 4 ∨ l = 5) with rfl | rfl | rfl | rfl | rfl | rfl <;> decide
  · intro x hx
    obtain ⟨x1, x0, rfl, a1, a0⟩ := li_s2 (x := x) (w := w) (by omega)
    simp (disch := ((try simp only [List.length_append]); omega)) only [List.append_assoc, li_ka, li_da, li_kb, li_db, li_kw, li_dz]
    obtain ⟨u, x2, rfl⟩ : ∃ u x2, x1 = u :: x2 := by cases x1 <;> simp at * <;> omega
    simp
theorem bg_16 (hl : l < 6) : BdOK sc 16 (l + 1) := by
  intro r d c m h G J post hP hr hd hF hI hJ hm hp
  rw [pH_e (by omega)] at hr
  have hr' : r = 4 + (l + 1) := hr
  have ho : oc 16 (l + 1) = 11 := (by decide : ∀ l, l < 6 → oc 16 (l + 1) = 11) l hl
  rw [ho] at hm hp
  have hsh := pw_sh l (by omega)
  have hw32 := pw_le hl
  rw [if_neg (by decide), if_neg (by omega)]
  unfold bPo gP at hp
  rw [Nat.pow_succ, Nat.mul_comm] at hp
  obtain ⟨w, hw⟩ : ∃ w, 2 ^ l = w := ⟨_, rfl⟩
  rw [hw] at hsh hw32 hp
  refine xq_in rfl ?_
  simp only [xq_a0, xq_aI, xq_aJ, xq_aR, Nat.reduceAdd]
  have E : cE h G c h G c := cE_rf
  with_reducible refine xm_go_blk b_X0_greaterPiece_0 k_X0_greaterPiece_0 ?_
  refine by_iconst ci_1 ?_
  refine by_iload_n rfl ?_
  refine by_iconst ci_1 ?_
  refine by_isub ?_
  refine by_ishl ?_
  refine by_istore_n (by rw [ml_16]; decide) ?_
  refine by_aload_n rfl ?_
  refine by_iload_n rfl ?_
  refine by_iload_n rfl ?_
  refine by_iconst ci_1 ?_
  refine by_isub ?_
  simp (disch := first | exact Nat.ne_of_beq_eq_false rfl | exact rfl | omega) only [nI_add, xa_sub, xa_mul, pk_div, nm_mod, xa_shr, xa_and7, xa_and1, xa_and255, xa_by_and, nI_m1, Nat.add_sub_cancel, Nat.reducePow, Nat.zero_add, Nat.add_zero, Nat.reduceAdd, Nat.reduceMul, Nat.reduceSub, xf_same, xq_ff, xq_fo, xf_1, xf_2, xs_1, xs_2, xs_same, xq_so, xj_1, xj_2, xj_same, xq_jo, xq_sa1, xq_same, xq_other, upd_s, oI_n, oI_s, xv_0, xv_1, xv_2, xv_3, xm_p1, xm_p2, xq_fp, xq_fn, List.filter_nil, Nat.reduceBEq, Bool.not_true, Bool.not_false, Bool.and_true, Bool.and_false, Bool.false_and, Bool.true_and, if_true, if_false, Bool.false_eq_true, reduceIte, xc_i, xc_j, xc_r, xc_n, List.nil_append, List.cons_append, Option.toList_some, Option.toList_none, hsh]
  refine by_inv2 cn_16 lk_0_83 (by rw [xe_cnt]; decide) is_26 np_26 cn_26 (by first | exact rfl | assumption) (Nat.le_of_ble_eq_true rfl) ?_
  refine sp_pc (a := 4) hP ⟨by omega, by omega, by omega⟩ rfl (by omega) hJ (by omega) hF hI (fun h1 G1 c1 n1 F1 I1 e1 p1 => ?_)
  obtain ⟨f1, v1, s1⟩ := p1
  simp only [pS, pT, pSp, Nat.reducePow, hw] at v1 s1
  replace E := cE_tr E e1
  with_reducible refine xm_go_blk b_X0_greaterPiece_14 k_X0_greaterPiece_14 ?_
  refine by_istore (by rw [ml_16]; decide) ?_
  refine by_iload_n rfl ?_
  simp (disch := first | exact Nat.ne_of_beq_eq_false rfl | exact rfl | omega) only [nI_add, xa_sub, xa_mul, pk_div, nm_mod, xa_shr, xa_and7, xa_and1, xa_and255, xa_by_and, nI_m1, Nat.add_sub_cancel, Nat.reducePow, Nat.zero_add, Nat.add_zero, Nat.reduceAdd, Nat.reduceMul, Nat.reduceSub, xf_same, xq_ff, xq_fo, xf_1, xf_2, xs_1, xs_2, xs_same, xq_so, xj_1, xj_2, xj_same, xq_jo, xq_sa1, xq_same, xq_other, upd_s, oI_n, oI_s, hsh]
  refine by_sw ?_
  simp (disch := first | exact Nat.ne_of_beq_eq_false rfl | exact rfl | omega) only [nI_add, xa_sub, xa_mul, pk_div, nm_mod, xa_shr, xa_and7, xa_and1, xa_and255, xa_by_and, nI_m1, Nat.add_sub_cancel, Nat.reducePow, Nat.zero_add, Nat.add_zero, Nat.reduceAdd, Nat.reduceMul, Nat.reduceSub, xf_same, xq_ff, xq_fo, xf_1, xf_2, xs_1, xs_2, xs_same, xq_so, xj_1, xj_2, xj_same, xq_jo, xq_sa1, xq_same, xq_other, upd_s, oI_n, oI_s, xv_0, xv_1, xv_2, xv_3, xm_p1, xm_p2, xq_fp, xq_fn, List.filter_nil, Nat.reduceBEq, Bool.not_true, Bool.not_false, Bool.and_true, Bool.and_false, Bool.false_and, Bool.true_and, if_true, if_false, Bool.false_eq_true, reduceIte, xc_i, xc_j, xc_r, xc_n, List.nil_append, List.cons_append, Option.toList_some, Option.toList_none, hsh]
  refine xq_sw 342 (by decide) (by decide) ?_
  with_reducible refine xm_go_blk b_X0_greaterPiece_342 k_X0_greaterPiece_342 ?_
  refine by_aload_n rfl ?_
  refine by_aload_n rfl ?_
  refine by_aload_n rfl ?_
  refine by_iconst ci_0 ?_
  refine by_iconst ci_2 ?_
  refine by_iload_n rfl ?_
  refine by_imul ?_
  simp (disch := first | exact Nat.ne_of_beq_eq_false rfl | exact rfl | omega) only [nI_add, xa_sub, xa_mul, pk_div, nm_mod, xa_shr, xa_and7, xa_and1, xa_and255, xa_by_and, nI_m1, Nat.add_sub_cancel, Nat.reducePow, Nat.zero_add, Nat.add_zero, Nat.reduceAdd, Nat.reduceMul, Nat.reduceSub, xf_same, xq_ff, xq_fo, xf_1, xf_2, xs_1, xs_2, xs_same, xq_so, xj_1, xj_2, xj_same, xq_jo, xq_sa1, xq_same, xq_other, upd_s, oI_n, oI_s, xv_0, xv_1, xv_2, xv_3, xm_p1, xm_p2, xq_fp, xq_fn, List.filter_nil, Nat.reduceBEq, Bool.not_true, Bool.not_false, Bool.and_true, Bool.and_false, Bool.false_and, Bool.true_and, if_true, if_false, Bool.false_eq_true, reduceIte, xc_i, xc_j, xc_r, xc_n, List.nil_append, List.cons_append, Option.toList_some, Option.toList_none, hsh]
  refine by_inv2 cn_16 lk_0_73 (by rw [xe_cnt]; decide) is_3 np_3 cn_3 (by first | exact rfl | assumption) (Nat.le_of_ble_eq_true rfl) ?_
  refine sp_gbit (by omega) F1 I1 (by omega) (by omega) (fun h2 G2 c2 n2 F2 I2 e2 v2 => ?_)
  replace v1 := nG_up v1 e2
  replace E := cE_tr E e2
  with_reducible refine xm_go_blk b_X0_greaterPiece_352 k_X0_greaterPiece_352 ?_
  refine by_aload_n rfl ?_
  refine by_aload_n rfl ?_
  refine by_iload rfl ?_
  refine by_iload_n rfl ?_
  refine by_inv2 cn_16 lk_0_101 (by rw [xe_cnt]; decide) is_33 np_33 cn_33 (by first | exact rfl | assumption) (Nat.le_of_ble_eq_true rfl) ?_
  refine sp_gtake F2 I2 (by omega) v1 (by omega) (fun h3 G3 c3 n3 F3 I3 e3 v3 => ?_)
  replace v1 := nG_up v1 e3
  replace v2 := nG_up v2 e3
  replace E := cE_tr E e3
  with_reducible refine xm_go_blk b_X0_greaterPiece_360 k_X0_greaterPiece_360 ?_
  refine by_aload_n rfl ?_
  refine by_iload_n rfl ?_
  refine by_iload rfl ?_
  refine by_inv2 cn_16 lk_0_47 (by rw [xe_cnt]; decide) is_12 np_12 cn_12 (by first | exact rfl | assumption) (Nat.le_of_ble_eq_true rfl) ?_
  refine sp_gdrop F3 I3 (by omega) v1 (by omega) (fun h4 G4 c4 n4 F4 I4 e4 v4 => ?_)
  replace v2 := nG_up v2 e4
  replace v3 := nG_up v3 e4
  replace E := cE_tr E e4
  with_reducible refine xm_go_blk b_X0_greaterPiece_367 k_X0_greaterPiece_367 ?_
  refine by_inv2 cn_16 lk_0_80 (by rw [xe_cnt]; decide) is_25 np_25 cn_25 (by first | exact rfl | assumption) (Nat.le_of_ble_eq_true rfl) ?_
  refine sp_gpair F4 I4 (by omega) v3 v4 (by omega) (by omega) (fun h5 G5 c5 n5 F5 I5 e5 v5 => ?_)
  replace v2 := nG_up v2 e5
  replace E := cE_tr E e5
  with_reducible refine xm_go_blk b_X0_greaterPiece_370 k_X0_greaterPiece_370 ?_
  refine by_inv2 cn_16 lk_0_80 (by rw [xe_cnt]; decide) is_25 np_25 cn_25 (by first | exact rfl | assumption) (Nat.le_of_ble_eq_true rfl) ?_
  refine sp_gpair F5 I5 (by omega) v2 v5 (by omega) (by omega) (fun h6 G6 c6 n6 F6 I6 e6 v6 => ?_)
  replace E := cE_tr E e6
  with_reducible refine xm_go_blk b_X0_greaterPiece_373 k_X0_greaterPiece_373 ?_
  refine by_aload_n rfl ?_
  refine by_inv0 cn_16 lk_0_142 (by rw [xe_cnt]; decide) is_1 np_1 cn_1 (by first | exact rfl | assumption) (Nat.le_of_ble_eq_true rfl) ?_
  refine sp_addedBytes hP (by omega) hJ (by omega) F6 I6 (by omega) (fun f7 s7 h7 G7 c7 n7 F7 I7 e7 v7 => ?_)
  replace v6 := nG_up v6 e7
  replace E := cE_tr E e7
  with_reducible refine xm_go_blk b_X0_greaterPiece_377 k_X0_greaterPiece_377 ?_
  refine by_inv2 cn_16 lk_0_86 (by rw [xe_cnt]; decide) is_7 np_7 cn_7 (by first | exact rfl | assumption) (Nat.le_of_ble_eq_true rfl) ?_
  refine sp_gcomp F7 I7 (by omega) v6 v7 (by omega) (fun h8 G8 c8 n8 F8 I8 e8 v8 => ?_)
  replace E := cE_tr E e8
  with_reducible refine xm_go_blk b_X0_greaterPiece_380 k_X0_greaterPiece_380 ?_
  refine by_iret ry_16 (by first | rfl | assumption) ?_
  refine hp _ _ _ _ F8 (cI_mono I8 (by omega) hm) E ⟨_, nG_cg v8 (by simp only [pS] <;> omega) (by simp only [pT] <;> omega) (fun _ _ => rfl) ?_, ?_⟩
  · subst hw
    rcases (by omega : l = 0 ∨ l = 1 ∨ l = 2 ∨ l = 3 ∨ l = 4 ∨ l = 5) with rfl | rfl | rfl | rfl | rfl | rfl <;> decide
  · intro x hx
    obtain ⟨x1, x0, rfl, a1, a0⟩ := li_s2 (x := x) (w := w) (by omega)
    simp (disch := ((try simp only [List.length_append]); omega)) only [List.append_assoc, li_ka, li_da, li_kb, li_db, li_kw, li_dz]
    rw [show ([0 == 1] : List Bool) = [false] from rfl] at *
    rw [s1 x1 a1, s1 x0 a0, s7 [false] _ _ rfl (bbits_len _ _) (bbits_len _ _), bnum_bbits, bnum_bbits, List.count_append]
    exact bb_cg (by simp [bnum])
theorem bg_18 (hl : l < 6) : BdOK sc 18 (l + 1) := by
  intro r d c m h G J post hP hr hd hF hI hJ hm hp
  rw [pH_e (by omega)] at hr
  have hr' : r = 0 + (l + 1) := hr
  have ho : oc 18 (l + 1) = 1 := (by decide : ∀ l, l < 6 → oc 18 (l + 1) = 1) l hl
  rw [ho] at hm hp
  have hsh := pw_sh l (by omega)
  have hw32 := pw_le hl
  rw [if_neg (by decide), if_neg (by omega)]
  unfold bPo gP at hp
  rw [Nat.pow_succ, Nat.mul_comm] at hp
  obtain ⟨w, hw⟩ : ∃ w, 2 ^ l = w := ⟨_, rfl⟩
  rw [hw] at hsh hw32 hp
  refine xq_in rfl ?_
  simp only [xq_a0, xq_aI, xq_aJ, xq_aR, Nat.reduceAdd]
  have E : cE h G c h G c := cE_rf
  with_reducible refine xm_go_blk b_X0_greaterPiece_0 k_X0_greaterPiece_0 ?_
  refine by_iconst ci_1 ?_
  refine by_iload_n rfl ?_
  refine by_iconst ci_1 ?_
  refine by_isub ?_
  refine by_ishl ?_
  refine by_istore_n (by rw [ml_16]; decide) ?_
  refine by_aload_n rfl ?_
  refine by_iload_n rfl ?_
  refine by_iload_n rfl ?_
  refine by_iconst ci_1 ?_
  refine by_isub ?_
  simp (disch := first | exact Nat.ne_of_beq_eq_false rfl | exact rfl | omega) only [nI_add, xa_sub, xa_mul, pk_div, nm_mod, xa_shr, xa_and7, xa_and1, xa_and255, xa_by_and, nI_m1, Nat.add_sub_cancel, Nat.reducePow, Nat.zero_add, Nat.add_zero, Nat.reduceAdd, Nat.reduceMul, Nat.reduceSub, xf_same, xq_ff, xq_fo, xf_1, xf_2, xs_1, xs_2, xs_same, xq_so, xj_1, xj_2, xj_same, xq_jo, xq_sa1, xq_same, xq_other, upd_s, oI_n, oI_s, xv_0, xv_1, xv_2, xv_3, xm_p1, xm_p2, xq_fp, xq_fn, List.filter_nil, Nat.reduceBEq, Bool.not_true, Bool.not_false, Bool.and_true, Bool.and_false, Bool.false_and, Bool.true_and, if_true, if_false, Bool.false_eq_true, reduceIte, xc_i, xc_j, xc_r, xc_n, List.nil_append, List.cons_append, Option.toList_some, Option.toList_none, hsh]
  refine by_inv2 cn_16 lk_0_83 (by rw [xe_cnt]; decide) is_26 np_26 cn_26 (by first | exact rfl | assumption) (Nat.le_of_ble_eq_true rfl) ?_
  refine sp_pc (a := 0) hP ⟨by omega, by omega, by omega⟩ rfl (by omega) hJ (by omega) hF hI (fun h1 G1 c1 n1 F1 I1 e1 p1 => ?_)
  obtain ⟨f1, v1, s1⟩ := p1
  simp only [pS, pT, pSp, Nat.reducePow, hw] at v1 s1
  replace v1 := nG_cg v1 rfl rfl (fun x hx => s1 x hx) (qle_rf _)
  replace E := cE_tr E e1
  with_reducible refine xm_go_blk b_X0_greaterPiece_14 k_X0_greaterPiece_14 ?_
  refine by_istore (by rw [ml_16]; decide) ?_
  refine by_iload_n rfl ?_
  simp (disch := first | exact Nat.ne_of_beq_eq_false rfl | exact rfl | omega) only [nI_add, xa_sub, xa_mul, pk_div, nm_mod, xa_shr, xa_and7, xa_and1, xa_and255, xa_by_and, nI_m1, Nat.add_sub_cancel, Nat.reducePow, Nat.zero_add, Nat.add_zero, Nat.reduceAdd, Nat.reduceMul, Nat.reduceSub, xf_same, xq_ff, xq_fo, xf_1, xf_2, xs_1, xs_2, xs_same, xq_so, xj_1, xj_2, xj_same, xq_jo, xq_sa1, xq_same, xq_other, upd_s, oI_n, oI_s, hsh]
  refine by_sw ?_
  simp (disch := first | exact Nat.ne_of_beq_eq_false rfl | exact rfl | omega) only [nI_add, xa_sub, xa_mul, pk_div, nm_mod, xa_shr, xa_and7, xa_and1, xa_and255, xa_by_and, nI_m1, Nat.add_sub_cancel, Nat.reducePow, Nat.zero_add, Nat.add_zero, Nat.reduceAdd, Nat.reduceMul, Nat.reduceSub, xf_same, xq_ff, xq_fo, xf_1, xf_2, xs_1, xs_2, xs_same, xq_so, xj_1, xj_2, xj_same, xq_jo, xq_sa1, xq_same, xq_other, upd_s, oI_n, oI_s, xv_0, xv_1, xv_2, xv_3, xm_p1, xm_p2, xq_fp, xq_fn, List.filter_nil, Nat.reduceBEq, Bool.not_true, Bool.not_false, Bool.and_true, Bool.and_false, Bool.false_and, Bool.true_and, if_true, if_false, Bool.false_eq_true, reduceIte, xc_i, xc_j, xc_r, xc_n, List.nil_append, List.cons_append, Option.toList_some, Option.toList_none, hsh]
  refine xq_sw 169 (by decide) (by decide) ?_
  with_reducible refine xm_go_blk b_X0_greaterPiece_169 k_X0_greaterPiece_169 ?_
  refine by_aload_n rfl ?_
  refine by_iload rfl ?_
  refine by_iload_n rfl ?_
  refine by_inv2 cn_16 lk_0_101 (by rw [xe_cnt]; decide) is_33 np_33 cn_33 (by first | exact rfl | assumption) (Nat.le_of_ble_eq_true rfl) ?_
  refine sp_gtake F1 I1 (by omega) v1 (by omega) (fun h2 G2 c2 n2 F2 I2 e2 v2 => ?_)
  replace E := cE_tr E e2
  with_reducible refine xm_go_blk b_X0_greaterPiece_176 k_X0_greaterPiece_176 ?_
  refine by_iret ry_16 (by first | rfl | assumption) ?_
  refine hp _ _ _ _ F2 (cI_mono I2 (by omega) hm) E ⟨_, nG_cg v2 (by simp only [pS] <;> omega) (by simp only [pT] <;> omega) (fun _ _ => rfl) ?_, ?_⟩
  · subst hw
    rcases (by omega : l = 0 ∨ l = 1 ∨ l = 2 ∨ l = 3 ∨ l = 4 ∨ l = 5) with rfl | rfl | rfl | rfl | rfl | rfl <;> decide
  · intro x hx
    exact li_tt (by omega)
theorem bg_19 (hl : l < 6) : BdOK sc 19 (l + 1) := by
  intro r d c m h G J post hP hr hd hF hI hJ hm hp
  rw [pH_e (by omega)] at hr
  have hr' : r = 0 + (l + 1) := hr
  have ho : oc 19 (l + 1) = 9 := (by decide : ∀ l, l < 6 → oc 19 (l + 1) = 9) l hl
  rw [ho] at hm hp
  have hsh := pw_sh l (by omega)
  have hw32 := pw_le hl
  rw [if_neg (by decide), if_neg (by omega)]
  unfold bPo gP at hp
  rw [Nat.pow_succ, Nat.mul_comm] at hp
  obtain ⟨w, hw⟩ : ∃ w, 2 ^ l = w := ⟨_, rfl⟩
  rw [hw] at hsh hw32 hp
  refine xq_in rfl ?_
  simp only [xq_a0, xq_aI, xq_aJ, xq_aR, Nat.reduceAdd]
  have E : cE h G c h G c := cE_rf
  with_reducible refine xm_go_blk b_X0_greaterPiece_0 k_X0_greaterPiece_0 ?_
  refine by_iconst ci_1 ?_
  refine by_iload_n rfl ?_
  refine by_iconst ci_1 ?_
  refine by_isub ?_
  refine by_ishl ?_
  refine by_istore_n (by rw [ml_16]; decide) ?_
  refine by_aload_n rfl ?_
  refine by_iload_n rfl ?_
  refine by_iload_n rfl ?_
  refine by_iconst ci_1 ?_
  refine by_isub ?_
  simp (disch := first | exact Nat.ne_of_beq_eq_false rfl | exact rfl | omega) only [nI_add, xa_sub, xa_mul, pk_div, nm_mod, xa_shr, xa_and7, xa_and1, xa_and255, xa_by_and, nI_m1, Nat.add_sub_cancel, Nat.reducePow, Nat.zero_add, Nat.add_zero, Nat.reduceAdd, Nat.reduceMul, Nat.reduceSub, xf_same, xq_ff, xq_fo, xf_1, xf_2, xs_1, xs_2, xs_same, xq_so, xj_1, xj_2, xj_same, xq_jo, xq_sa1, xq_same, xq_other, upd_s, oI_n, oI_s, xv_0, xv_1, xv_2, xv_3, xm_p1, xm_p2, xq_fp, xq_fn, List.filter_nil, Nat.reduceBEq, Bool.not_true, Bool.not_false, Bool.and_true, Bool.and_false, Bool.false_and, Bool.true_and, if_true, if_false, Bool.false_eq_true, reduceIte, xc_i, xc_j, xc_r, xc_n, List.nil_append, List.cons_append, Option.toList_some, Option.toList_none, hsh]
  refine by_inv2 cn_16 lk_0_83 (by rw [xe_cnt]; decide) is_26 np_26 cn_26 (by first | exact rfl | assumption) (Nat.le_of_ble_eq_true rfl) ?_
  refine sp_pc (a := 0) hP ⟨by omega, by omega, by omega⟩ rfl (by omega) hJ (by omega) hF hI (fun h1 G1 c1 n1 F1 I1 e1 p1 => ?_)
  obtain ⟨f1, v1, s1⟩ := p1
  simp only [pS, pT, pSp, Nat.reducePow, hw] at v1 s1
  replace v1 := nG_cg v1 rfl rfl (fun x hx => s1 x hx) (qle_rf _)
  replace E := cE_tr E e1
  with_reducible refine xm_go_blk b_X0_greaterPiece_14 k_X0_greaterPiece_14 ?_
  refine by_istore (by rw [ml_16]; decide) ?_
  refine by_iload_n rfl ?_
  simp (disch := first | exact Nat.ne_of_beq_eq_false rfl | exact rfl | omega) only [nI_add, xa_sub, xa_mul, pk_div, nm_mod, xa_shr, xa_and7, xa_and1, xa_and255, xa_by_and, nI_m1, Nat.add_sub_cancel, Nat.reducePow, Nat.zero_add, Nat.add_zero, Nat.reduceAdd, Nat.reduceMul, Nat.reduceSub, xf_same, xq_ff, xq_fo, xf_1, xf_2, xs_1, xs_2, xs_same, xq_so, xj_1, xj_2, xj_same, xq_jo, xq_sa1, xq_same, xq_other, upd_s, oI_n, oI_s, hsh]
  refine by_sw ?_
  simp (disch := first | exact Nat.ne_of_beq_eq_false rfl | exact rfl | omega) only [nI_add, xa_sub, xa_mul, pk_div, nm_mod, xa_shr, xa_and7, xa_and1, xa_and255, xa_by_and, nI_m1, Nat.add_sub_cancel, Nat.reducePow, Nat.zero_add, Nat.add_zero, Nat.reduceAdd, Nat.reduceMul, Nat.reduceSub, xf_same, xq_ff, xq_fo, xf_1, xf_2, xs_1, xs_2, xs_same, xq_so, xj_1, xj_2, xj_same, xq_jo, xq_sa1, xq_same, xq_other, upd_s, oI_n, oI_s, xv_0, xv_1, xv_2, xv_3, xm_p1, xm_p2, xq_fp, xq_fn, List.filter_nil, Nat.reduceBEq, Bool.not_true, Bool.not_false, Bool.and_true, Bool.and_false, Bool.false_and, Bool.true_and, if_true, if_false, Bool.false_eq_true, reduceIte, xc_i, xc_j, xc_r, xc_n, List.nil_append, List.cons_append, Option.toList_some, Option.toList_none, hsh]
  refine xq_sw 177 (by decide) (by decide) ?_
  with_reducible refine xm_go_blk b_X0_greaterPiece_177 k_X0_greaterPiece_177 ?_
  refine by_aload_n rfl ?_
  refine by_aload_n rfl ?_
  refine by_iload rfl ?_
  refine by_iconst ci_2 ?_
  refine by_iload_n rfl ?_
  refine by_imul ?_
  simp (disch := first | exact Nat.ne_of_beq_eq_false rfl | exact rfl | omega) only [nI_add, xa_sub, xa_mul, pk_div, nm_mod, xa_shr, xa_and7, xa_and1, xa_and255, xa_by_and, nI_m1, Nat.add_sub_cancel, Nat.reducePow, Nat.zero_add, Nat.add_zero, Nat.reduceAdd, Nat.reduceMul, Nat.reduceSub, xf_same, xq_ff, xq_fo, xf_1, xf_2, xs_1, xs_2, xs_same, xq_so, xj_1, xj_2, xj_same, xq_jo, xq_sa1, xq_same, xq_other, upd_s, oI_n, oI_s, xv_0, xv_1, xv_2, xv_3, xm_p1, xm_p2, xq_fp, xq_fn, List.filter_nil, Nat.reduceBEq, Bool.not_true, Bool.not_false, Bool.and_true, Bool.and_false, Bool.false_and, Bool.true_and, if_true, if_false, Bool.false_eq_true, reduceIte, xc_i, xc_j, xc_r, xc_n, List.nil_append, List.cons_append, Option.toList_some, Option.toList_none, hsh]
  refine by_inv2 cn_16 lk_0_101 (by rw [xe_cnt]; decide) is_33 np_33 cn_33 (by first | exact rfl | assumption) (Nat.le_of_ble_eq_true rfl) ?_
  refine sp_gtake F1 I1 (by omega) v1 (by omega) (fun h2 G2 c2 n2 F2 I2 e2 v2 => ?_)
  replace v1 := nG_up v1 e2
  replace E := cE_tr E e2
  with_reducible refine xm_go_blk b_X0_greaterPiece_187 k_X0_greaterPiece_187 ?_
  refine by_aload_n rfl ?_
  refine by_aload_n rfl ?_
  refine by_iload_n rfl ?_
  refine by_inv1 cn_16 lk_0_133 (by rw [xe_cnt]; decide) is_23 np_23 cn_23 (by first | exact rfl | assumption) (Nat.le_of_ble_eq_true rfl) ?_
  refine sp_middleHalves F2 I2 (by omega) (by omega) (fun h3 G3 c3 n3 F3 I3 e3 v3 => ?_)
  replace v1 := nG_up v1 e3
  replace v2 := nG_up v2 e3
  replace E := cE_tr E e3
  with_reducible refine xm_go_blk b_X0_greaterPiece_193 k_X0_greaterPiece_193 ?_
  refine by_iload rfl ?_
  refine by_inv2 cn_16 lk_0_86 (by rw [xe_cnt]; decide) is_7 np_7 cn_7 (by first | exact rfl | assumption) (Nat.le_of_ble_eq_true rfl) ?_
  refine sp_gcomp F3 I3 (by omega) v3 v1 (by omega) (fun h4 G4 c4 n4 F4 I4 e4 v4 => ?_)
  replace v2 := nG_up v2 e4
  replace E := cE_tr E e4
  with_reducible refine xm_go_blk b_X0_greaterPiece_198 k_X0_greaterPiece_198 ?_
  refine by_inv2 cn_16 lk_0_80 (by rw [xe_cnt]; decide) is_25 np_25 cn_25 (by first | exact rfl | assumption) (Nat.le_of_ble_eq_true rfl) ?_
  refine sp_gpair F4 I4 (by omega) v2 v4 (by omega) (by omega) (fun h5 G5 c5 n5 F5 I5 e5 v5 => ?_)
  replace E := cE_tr E e5
  with_reducible refine xm_go_blk b_X0_greaterPiece_201 k_X0_greaterPiece_201 ?_
  refine by_iret ry_16 (by first | rfl | assumption) ?_
  refine hp _ _ _ _ F5 (cI_mono I5 (by omega) hm) E ⟨_, nG_cg v5 (by simp only [pS] <;> omega) (by simp only [pT] <;> omega) (fun _ _ => rfl) ?_, ?_⟩
  · subst hw
    rcases (by omega : l = 0 ∨ l = 1 ∨ l = 2 ∨ l = 3 ∨ l = 4 ∨ l = 5) with rfl | rfl | rfl | rfl | rfl | rfl <;> decide
  · intro x hx
    show (((x.take (2 * w)).drop 1).take w) ++ (((x.take (w + w)).drop w ++ (x.drop (2 * w)).take w).drop 1).take w = _
    rw [li_td (by omega), List.drop_take, show w + w - w = w by omega, show 2 * w = w + w by omega, li_ta, li_td (by omega), List.drop_drop, ← li_ta, Nat.add_comm w 1]
end CD
