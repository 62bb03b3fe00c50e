/-! ===== definitions of jets: pieces made of others ===== -/
theorem xor_any : ∀ (x y : List Bool), x.length = y.length → (List.zipWith xor x y).any id = !decide (x = y)
  | [], [], _ => rfl
  | a :: x, b :: y, h => by
    have ih := xor_any x y (by simpa using h)
    simp only [List.zipWith_cons_cons, List.any_cons, ih, id]
    cases a <;> cases b <;> simp
theorem bb_d1 (v : Nat) : bbits 1 v = [v % 2 == 1] := by
  have := bb_1 (v % 2) (Nat.mod_lt _ (by decide))
  rw [← this]
  exact bb_cg (by show v % 2 = v % 2 % 2; omega)
theorem bl_num {x y : List Bool} {w : Nat} (hx : x.length = w) (hy : y.length = w) : bbits 1 ((bnum x + 2 ^ (w + 1) - bnum y - 0) / 2 ^ w) = [decide (bnum x < bnum y)] := by
  have l1 := bnum_lt x
  have l2 := bnum_lt y
  rw [hx] at l1
  rw [hy] at l2
  rw [bb_d1, Nat.pow_succ]
  generalize 2 ^ w = W at *
  generalize bnum x = X at *
  generalize bnum y = Y at *
  by_cases e : X < Y
  · rw [show (X + W * 2 - Y - 0) / W = 1 from Nat.div_eq_of_lt_le (by omega) (by omega)]
    simp [e]
  · rw [show (X + W * 2 - Y - 0) / W = 2 from Nat.div_eq_of_lt_le (by omega) (by omega)]
    simp [e]
section CD
variable {sc : xm_Sc} {l : Nat}
theorem pw_l7 {l : Nat} (h : l < 7) : 1 ≤ 2 ^ l ∧ 2 ^ l ≤ 64 := (by decide : ∀ l, l < 7 → 1 ≤ 2 ^ l ∧ 2 ^ l ≤ 64) l h
theorem bj_20 (h3 : 3 ≤ l) (hl : l < 7) : BdOK sc 20 l := by
  intro r d c m h G J post hP hr hd hF hI hJ hm hp
  rw [pH_e (by omega)] at hr
  have hr' : r = 1 + l := hr
  have ho : oc 20 l = 6 := (by decide : ∀ l, l < 7 → 3 ≤ l → oc 20 l = 6) l hl h3
  rw [ho] at hm hp
  have hw64 := pw_l7 hl
  rw [if_pos (by decide)]
  unfold bPo gP at hp
  obtain ⟨w, hw⟩ : ∃ w, 2 ^ l = w := ⟨_, rfl⟩
  rw [hw] at hw64 hp
  rw [hw]
  refine xq_in rfl ?_
  simp only [xq_a0, xq_aI, xq_aJ, xq_aR, Nat.reduceAdd]
  have E : cE h G c h G c := cE_rf
  with_reducible refine xm_go_blk b_X0_joinedPiece_0 k_X0_joinedPiece_0 ?_
  refine by_iload_n rfl ?_
  refine by_sw ?_
  refine xq_sw 40 (by decide) (by decide) ?_
  with_reducible refine xm_go_blk b_X0_joinedPiece_40 k_X0_joinedPiece_40 ?_
  refine by_aload_n rfl ?_
  refine by_aload_n rfl ?_
  refine by_iconst ci_1 ?_
  refine by_iload_n rfl ?_
  refine by_inv2 cn_20 lk_0_92 (by rw [xe_cnt]; decide) is_32 np_32 cn_32 (by first | exact rfl | assumption) (Nat.le_of_ble_eq_true rfl) ?_
  refine sp_second hF hI (by omega) (by omega) (fun h1 G1 c1 n1 F1 I1 e1 v1 => ?_)
  replace E := cE_tr E e1
  with_reducible refine xm_go_blk b_X0_joinedPiece_47 k_X0_joinedPiece_47 ?_
  refine by_aload_n rfl ?_
  refine by_iconst ci_2 ?_
  refine by_iload_n rfl ?_
  refine by_inv2 cn_20 lk_0_83 (by rw [xe_cnt]; decide) is_26 np_26 cn_26 (by first | exact rfl | assumption) (Nat.le_of_ble_eq_true rfl) ?_
  refine sp_pc (a := 0) hP ⟨by omega, by omega, by omega⟩ rfl (by omega) hJ (by omega) F1 I1 (fun h2 G2 c2 n2 F2 I2 e2 p2 => ?_)
  obtain ⟨f2, v2, s2⟩ := p2
  simp only [pS, pT, pSp, Nat.reducePow, hw] at v2 s2
  replace v1 := nG_up v1 e2
  replace E := cE_tr E e2
  with_reducible refine xm_go_blk b_X0_joinedPiece_53 k_X0_joinedPiece_53 ?_
  refine by_inv2 cn_20 lk_0_80 (by rw [xe_cnt]; decide) is_25 np_25 cn_25 (by first | exact rfl | assumption) (Nat.le_of_ble_eq_true rfl) ?_
  refine sp_gpair F2 I2 (by omega) v1 v2 (by omega) (by omega) (fun h3 G3 c3 n3 F3 I3 e3 v3 => ?_)
  replace E := cE_tr E e3
  with_reducible refine xm_go_blk b_X0_joinedPiece_56 k_X0_joinedPiece_56 ?_
  refine by_istore (by rw [ml_20]; decide) ?_
  refine by_aload_n rfl ?_
  refine by_aload_n rfl ?_
  refine by_iconst ci_1 ?_
  refine by_aload_n rfl ?_
  refine by_bipush cb_18 ?_
  refine by_iload_n rfl ?_
  simp (disch := first | exact Nat.ne_of_beq_eq_false rfl | exact rfl | omega) only [nI_add, xa_sub, xa_mul, pk_div, nm_mod, xa_shr, xa_and7, xa_and1, xa_and255, xa_by_and, nI_m1, Nat.add_sub_cancel, Nat.reducePow, Nat.zero_add, Nat.add_zero, Nat.reduceAdd, Nat.reduceMul, Nat.reduceSub, xf_same, xq_ff, xq_fo, xf_1, xf_2, xs_1, xs_2, xs_same, xq_so, xj_1, xj_2, xj_same, xq_jo, xq_sa1, xq_same, xq_other, upd_s, oI_n, oI_s, xv_0, xv_1, xv_2, xv_3, xm_p1, xm_p2, xq_fp, xq_fn, List.filter_nil, Nat.reduceBEq, Bool.not_true, Bool.not_false, Bool.and_true, Bool.and_false, Bool.false_and, Bool.true_and, if_true, if_false, Bool.false_eq_true, reduceIte, xc_i, xc_j, xc_r, xc_n, List.nil_append, List.cons_append, Option.toList_some, Option.toList_none]
  refine by_inv2 cn_20 lk_0_83 (by rw [xe_cnt]; decide) is_26 np_26 cn_26 (by first | exact rfl | assumption) (Nat.le_of_ble_eq_true rfl) ?_
  refine sp_pc (a := 0) hP ⟨by omega, by omega, by omega⟩ rfl (by omega) hJ (by omega) F3 I3 (fun h4 G4 c4 n4 F4 I4 e4 p4 => ?_)
  obtain ⟨f4, v4, s4⟩ := p4
  simp only [pS, pT, pSp, Nat.reducePow, hw] at v4 s4
  replace v4 := nG_cg v4 rfl rfl (fun x hx => s4 x hx) (qle_rf _)
  replace v3 := nG_up v3 e4
  replace E := cE_tr E e4
  with_reducible refine xm_go_blk b_X0_joinedPiece_68 k_X0_joinedPiece_68 ?_
  refine by_inv2 cn_20 lk_0_47 (by rw [xe_cnt]; decide) is_12 np_12 cn_12 (by first | exact rfl | assumption) (Nat.le_of_ble_eq_true rfl) ?_
  refine sp_gdrop F4 I4 (by omega) v4 (by omega) (fun h5 G5 c5 n5 F5 I5 e5 v5 => ?_)
  replace v3 := nG_up v3 e5
  replace E := cE_tr E e5
  with_reducible refine xm_go_blk b_X0_joinedPiece_71 k_X0_joinedPiece_71 ?_
  refine by_aload_n rfl ?_
  refine by_iload rfl ?_
  refine by_aload_n rfl ?_
  refine by_bipush cb_19 ?_
  refine by_iload_n rfl ?_
  refine by_inv2 cn_20 lk_0_83 (by rw [xe_cnt]; decide) is_26 np_26 cn_26 (by first | exact rfl | assumption) (Nat.le_of_ble_eq_true rfl) ?_
  refine sp_pc (a := 0) hP ⟨by omega, by omega, by omega⟩ rfl (by omega) hJ (by omega) F5 I5 (fun h6 G6 c6 n6 F6 I6 e6 p6 => ?_)
  obtain ⟨f6, v6, s6⟩ := p6
  simp only [pS, pT, pSp, Nat.reducePow, hw] at v6 s6
  replace v6 := nG_cg v6 rfl rfl (fun x hx => s6 x hx) (qle_rf _)
  replace v3 := nG_up v3 e6
  replace v5 := nG_up v5 e6
  replace E := cE_tr E e6
  with_reducible refine xm_go_blk b_X0_joinedPiece_81 k_X0_joinedPiece_81 ?_
  refine by_inv2 cn_20 lk_0_86 (by rw [xe_cnt]; decide) is_7 np_7 cn_7 (by first | exact rfl | assumption) (Nat.le_of_ble_eq_true rfl) ?_
  refine sp_gcomp F6 I6 (by omega) v3 v6 (by omega) (fun h7 G7 c7 n7 F7 I7 e7 v7 => ?_)
  replace v5 := nG_up v5 e7
  replace E := cE_tr E e7
  with_reducible refine xm_go_blk b_X0_joinedPiece_84 k_X0_joinedPiece_84 ?_
  refine by_inv2 cn_20 lk_0_80 (by rw [xe_cnt]; decide) is_25 np_25 cn_25 (by first | exact rfl | assumption) (Nat.le_of_ble_eq_true rfl) ?_
  refine sp_gpair F7 I7 (by omega) v5 v7 (by omega) (by omega) (fun h8 G8 c8 n8 F8 I8 e8 v8 => ?_)
  replace E := cE_tr E e8
  with_reducible refine xm_go_blk b_X0_joinedPiece_87 k_X0_joinedPiece_87 ?_
  refine by_iret ry_20 (by first | rfl | assumption) ?_
  refine hp _ _ _ _ F8 (cI_mono I8 (by omega) hm) E ⟨_, nG_cg v8 (by simp only [pS] <;> omega) (by simp only [pT] <;> omega) (fun _ _ => rfl) ?_, ?_⟩
  · subst hw
    rcases (by omega : l = 3 ∨ l = 4 ∨ l = 5 ∨ l = 6) with rfl | rfl | rfl | rfl <;> decide
  · intro c x hc hx
    show ((c ++ x).drop 1).take 1 ++ (((c ++ x).drop 1 ++ f2 (c ++ x)).drop 1).take w = x ++ c
    rw [li_da hc.symm, s2 c x hc hx]
    obtain ⟨u, x', rfl⟩ : ∃ u x', x = u :: x' := by cases x <;> simp at * <;> omega
    simp only [List.length_cons] at hx
    simp only [List.take_succ_cons, List.take_zero, List.drop_succ_cons, List.drop_zero, List.cons_append, List.nil_append]
    rw [← List.append_assoc, li_ka (by simp only [List.length_append]; omega)]
theorem bj_23 (h3 : 3 ≤ l) (hl : l < 7) : BdOK sc 23 l := by
  intro r d c m h G J post hP hr hd hF hI hJ hm hp
  rw [pH_e (by omega)] at hr
  have hr' : r = 2 + l := hr
  have ho : oc 23 l = 4 := (by decide : ∀ l, l < 7 → 3 ≤ l → oc 23 l = 4) l hl h3
  rw [ho] at hm hp
  have hw64 := pw_l7 hl
  rw [if_pos (by decide)]
  unfold bPo gP at hp
  obtain ⟨w, hw⟩ : ∃ w, 2 ^ l = w := ⟨_, rfl⟩
  rw [hw] at hw64 hp
  rw [hw]
  refine xq_in rfl ?_
  simp only [xq_a0, xq_aI, xq_aJ, xq_aR, Nat.reduceAdd]
  have E : cE h G c h G c := cE_rf
  with_reducible refine xm_go_blk b_X0_joinedPiece_0 k_X0_joinedPiece_0 ?_
  refine by_iload_n rfl ?_
  refine by_sw ?_
  refine xq_sw 102 (by decide) (by decide) ?_
  with_reducible refine xm_go_blk b_X0_joinedPiece_102 k_X0_joinedPiece_102 ?_
  refine by_aload_n rfl ?_
  refine by_aload_n rfl ?_
  refine by_bipush cb_9 ?_
  refine by_iload_n rfl ?_
  refine by_inv2 cn_20 lk_0_83 (by rw [xe_cnt]; decide) is_26 np_26 cn_26 (by first | exact rfl | assumption) (Nat.le_of_ble_eq_true rfl) ?_
  refine sp_pc (a := 1) hP ⟨by omega, by omega, by omega⟩ rfl (by omega) hJ (by omega) hF hI (fun h1 G1 c1 n1 F1 I1 e1 p1 => ?_)
  obtain ⟨f1, v1, s1⟩ := p1
  simp only [pS, pT, pSp, Nat.reducePow, hw] at v1 s1
  replace v1 := nG_cg v1 rfl rfl (fun x hx => li_f2 s1 x (by omega)) (qle_rf _)
  replace E := cE_tr E e1
  with_reducible refine xm_go_blk b_X0_joinedPiece_110 k_X0_joinedPiece_110 ?_
  refine by_aload_n rfl ?_
  refine by_aload_n rfl ?_
  refine by_iconst ci_4 ?_
  refine by_iload_n rfl ?_
  refine by_inv2 cn_20 lk_0_83 (by rw [xe_cnt]; decide) is_26 np_26 cn_26 (by first | exact rfl | assumption) (Nat.le_of_ble_eq_true rfl) ?_
  refine sp_pc (a := 0) hP ⟨by omega, by omega, by omega⟩ rfl (by omega) hJ (by omega) F1 I1 (fun h2 G2 c2 n2 F2 I2 e2 p2 => ?_)
  obtain ⟨f2, v2, s2⟩ := p2
  simp only [pS, pT, pSp, Nat.reducePow, hw] at v2 s2
  replace v2 := nG_cg v2 rfl rfl (fun x hx => s2 x hx) (qle_rf _)
  replace v1 := nG_up v1 e2
  replace E := cE_tr E e2
  with_reducible refine xm_go_blk b_X0_joinedPiece_117 k_X0_joinedPiece_117 ?_
  refine by_aload_n rfl ?_
  refine by_bipush cb_6 ?_
  refine by_iconst ci_0 ?_
  refine by_inv2 cn_20 lk_0_83 (by rw [xe_cnt]; decide) is_26 np_26 cn_26 (by first | exact rfl | assumption) (Nat.le_of_ble_eq_true rfl) ?_
  refine sp_pc (a := 0) hP ⟨by omega, by omega, by omega⟩ rfl (by omega) hJ (by omega) F2 I2 (fun h3 G3 c3 n3 F3 I3 e3 p3 => ?_)
  obtain ⟨f3, v3, s3⟩ := p3
  simp only [pS, pT, pSp, Nat.reducePow, hw] at v3 s3
  replace v3 := nG_cg v3 rfl rfl (fun x hx => s3 x hx) (qle_rf _)
  replace v1 := nG_up v1 e3
  replace v2 := nG_up v2 e3
  replace E := cE_tr E e3
  with_reducible refine xm_go_blk b_X0_joinedPiece_124 k_X0_joinedPiece_124 ?_
  refine by_inv2 cn_20 lk_0_86 (by rw [xe_cnt]; decide) is_7 np_7 cn_7 (by first | exact rfl | assumption) (Nat.le_of_ble_eq_true rfl) ?_
  refine sp_gcomp F3 I3 (by omega) v2 v3 (by omega) (fun h4 G4 c4 n4 F4 I4 e4 v4 => ?_)
  replace v1 := nG_up v1 e4
  replace E := cE_tr E e4
  with_reducible refine xm_go_blk b_X0_joinedPiece_127 k_X0_joinedPiece_127 ?_
  refine by_inv2 cn_20 lk_0_86 (by rw [xe_cnt]; decide) is_7 np_7 cn_7 (by first | exact rfl | assumption) (Nat.le_of_ble_eq_true rfl) ?_
  refine sp_gcomp F4 I4 (by omega) v1 v4 (by omega) (fun h5 G5 c5 n5 F5 I5 e5 v5 => ?_)
  replace E := cE_tr E e5
  with_reducible refine xm_go_blk b_X0_joinedPiece_130 k_X0_joinedPiece_130 ?_
  refine by_iret ry_20 (by first | rfl | assumption) ?_
  refine hp _ _ _ _ F5 (cI_mono I5 (by omega) hm) E ⟨_, nG_cg v5 (by simp only [pS] <;> omega) (by simp only [pT] <;> omega) (fun _ _ => rfl) ?_, ?_⟩
  · subst hw
    rcases (by omega : l = 3 ∨ l = 4 ∨ l = 5 ∨ l = 6) with rfl | rfl | rfl | rfl <;> decide
  · intro x y hx hy
    simp (disch := ((try simp only [List.length_append]); omega)) only [List.append_assoc, li_ka, li_da, li_kb, li_db, li_kw, li_dz]
    rw [xor_any x y (by omega)]
    simp
theorem bj_24 (h3 : 3 ≤ l) (hl : l < 7) : BdOK sc 24 l := by
  intro r d c m h G J post hP hr hd hF hI hJ hm hp
  rw [pH_e (by omega)] at hr
  have hr' : r = 2 + l := hr
  have ho : oc 24 l = 9 := (by decide : ∀ l, l < 7 → 3 ≤ l → oc 24 l = 9) l hl h3
  rw [ho] at hm hp
  have hw64 := pw_l7 hl
  rw [if_pos (by decide)]
  unfold bPo gP at hp
  obtain ⟨w, hw⟩ : ∃ w, 2 ^ l = w := ⟨_, rfl⟩
  rw [hw] at hw64 hp
  rw [hw]
  refine xq_in rfl ?_
  simp only [xq_a0, xq_aI, xq_aJ, xq_aR, Nat.reduceAdd]
  have E : cE h G c h G c := cE_rf
  with_reducible refine xm_go_blk b_X0_joinedPiece_0 k_X0_joinedPiece_0 ?_
  refine by_iload_n rfl ?_
  refine by_sw ?_
  refine xq_sw 131 (by decide) (by decide) ?_
  with_reducible refine xm_go_blk b_X0_joinedPiece_131 k_X0_joinedPiece_131 ?_
  refine by_aload_n rfl ?_
  refine by_aload_n rfl ?_
  refine by_aload_n rfl ?_
  refine by_iconst ci_0 ?_
  refine by_iconst ci_2 ?_
  refine by_iload_n rfl ?_
  refine by_imul ?_
  simp (disch := first | exact Nat.ne_of_beq_eq_false rfl | exact rfl | omega) only [nI_add, xa_sub, xa_mul, pk_div, nm_mod, xa_shr, xa_and7, xa_and1, xa_and255, xa_by_and, nI_m1, Nat.add_sub_cancel, Nat.reducePow, Nat.zero_add, Nat.add_zero, Nat.reduceAdd, Nat.reduceMul, Nat.reduceSub, xf_same, xq_ff, xq_fo, xf_1, xf_2, xs_1, xs_2, xs_same, xq_so, xj_1, xj_2, xj_same, xq_jo, xq_sa1, xq_same, xq_other, upd_s, oI_n, oI_s, xv_0, xv_1, xv_2, xv_3, xm_p1, xm_p2, xq_fp, xq_fn, List.filter_nil, Nat.reduceBEq, Bool.not_true, Bool.not_false, Bool.and_true, Bool.and_false, Bool.false_and, Bool.true_and, if_true, if_false, Bool.false_eq_true, reduceIte, xc_i, xc_j, xc_r, xc_n, List.nil_append, List.cons_append, Option.toList_some, Option.toList_none]
  refine by_inv2 cn_20 lk_0_73 (by rw [xe_cnt]; decide) is_3 np_3 cn_3 (by first | exact rfl | assumption) (Nat.le_of_ble_eq_true rfl) ?_
  refine sp_gbit (by omega) hF hI (by omega) (by omega) (fun h1 G1 c1 n1 F1 I1 e1 v1 => ?_)
  replace E := cE_tr E e1
  with_reducible refine xm_go_blk b_X0_joinedPiece_141 k_X0_joinedPiece_141 ?_
  refine by_aload_n rfl ?_
  refine by_iconst ci_2 ?_
  refine by_iload_n rfl ?_
  refine by_imul ?_
  simp (disch := first | exact Nat.ne_of_beq_eq_false rfl | exact rfl | omega) only [nI_add, xa_sub, xa_mul, pk_div, nm_mod, xa_shr, xa_and7, xa_and1, xa_and255, xa_by_and, nI_m1, Nat.add_sub_cancel, Nat.reducePow, Nat.zero_add, Nat.add_zero, Nat.reduceAdd, Nat.reduceMul, Nat.reduceSub, xf_same, xq_ff, xq_fo, xf_1, xf_2, xs_1, xs_2, xs_same, xq_so, xj_1, xj_2, xj_same, xq_jo, xq_sa1, xq_same, xq_other, upd_s, oI_n, oI_s, xv_0, xv_1, xv_2, xv_3, xm_p1, xm_p2, xq_fp, xq_fn, List.filter_nil, Nat.reduceBEq, Bool.not_true, Bool.not_false, Bool.and_true, Bool.and_false, Bool.false_and, Bool.true_and, if_true, if_false, Bool.false_eq_true, reduceIte, xc_i, xc_j, xc_r, xc_n, List.nil_append, List.cons_append, Option.toList_some, Option.toList_none]
  refine by_inv1 cn_20 lk_0_76 (by rw [xe_cnt]; decide) is_18 np_18 cn_18 (by first | exact rfl | assumption) (Nat.le_of_ble_eq_true rfl) ?_
  refine sp_iden F1 I1 (by omega) (by omega) (fun h2 G2 c2 n2 F2 I2 e2 v2 => ?_)
  replace v1 := nG_up v1 e2
  replace E := cE_tr E e2
  with_reducible refine xm_go_blk b_X0_joinedPiece_148 k_X0_joinedPiece_148 ?_
  refine by_inv2 cn_20 lk_0_80 (by rw [xe_cnt]; decide) is_25 np_25 cn_25 (by first | exact rfl | assumption) (Nat.le_of_ble_eq_true rfl) ?_
  refine sp_gpair F2 I2 (by omega) v1 v2 (by omega) (by omega) (fun h3 G3 c3 n3 F3 I3 e3 v3 => ?_)
  replace E := cE_tr E e3
  with_reducible refine xm_go_blk b_X0_joinedPiece_151 k_X0_joinedPiece_151 ?_
  refine by_aload_n rfl ?_
  refine by_aload_n rfl ?_
  refine by_iconst ci_1 ?_
  refine by_iload_n rfl ?_
  refine by_inv2 cn_20 lk_0_83 (by rw [xe_cnt]; decide) is_26 np_26 cn_26 (by first | exact rfl | assumption) (Nat.le_of_ble_eq_true rfl) ?_
  refine sp_pc (a := 1) hP ⟨by omega, by omega, by omega⟩ rfl (by omega) hJ (by omega) F3 I3 (fun h4 G4 c4 n4 F4 I4 e4 p4 => ?_)
  obtain ⟨f4, v4, s4⟩ := p4
  simp only [pS, pT, pSp, Nat.reducePow, hw] at v4 s4
  replace v3 := nG_up v3 e4
  replace E := cE_tr E e4
  with_reducible refine xm_go_blk b_X0_joinedPiece_158 k_X0_joinedPiece_158 ?_
  refine by_aload_n rfl ?_
  refine by_iconst ci_1 ?_
  refine by_iload_n rfl ?_
  refine by_inv2 cn_20 lk_0_95 (by rw [xe_cnt]; decide) is_15 np_15 cn_15 (by first | exact rfl | assumption) (Nat.le_of_ble_eq_true rfl) ?_
  refine sp_first F4 I4 (by omega) (by omega) (fun h5 G5 c5 n5 F5 I5 e5 v5 => ?_)
  replace v3 := nG_up v3 e5
  replace v4 := nG_up v4 e5
  replace E := cE_tr E e5
  with_reducible refine xm_go_blk b_X0_joinedPiece_164 k_X0_joinedPiece_164 ?_
  refine by_inv2 cn_20 lk_0_86 (by rw [xe_cnt]; decide) is_7 np_7 cn_7 (by first | exact rfl | assumption) (Nat.le_of_ble_eq_true rfl) ?_
  refine sp_gcomp F5 I5 (by omega) v4 v5 (by omega) (fun h6 G6 c6 n6 F6 I6 e6 v6 => ?_)
  replace v3 := nG_up v3 e6
  replace E := cE_tr E e6
  with_reducible refine xm_go_blk b_X0_joinedPiece_167 k_X0_joinedPiece_167 ?_
  refine by_inv2 cn_20 lk_0_86 (by rw [xe_cnt]; decide) is_7 np_7 cn_7 (by first | exact rfl | assumption) (Nat.le_of_ble_eq_true rfl) ?_
  refine sp_gcomp F6 I6 (by omega) v3 v6 (by omega) (fun h7 G7 c7 n7 F7 I7 e7 v7 => ?_)
  replace E := cE_tr E e7
  with_reducible refine xm_go_blk b_X0_joinedPiece_170 k_X0_joinedPiece_170 ?_
  refine by_iret ry_20 (by first | rfl | assumption) ?_
  refine hp _ _ _ _ F7 (cI_mono I7 (by omega) hm) E ⟨_, nG_cg v7 (by simp only [pS] <;> omega) (by simp only [pT] <;> omega) (fun _ _ => rfl) ?_, ?_⟩
  · subst hw
    rcases (by omega : l = 3 ∨ l = 4 ∨ l = 5 ∨ l = 6) with rfl | rfl | rfl | rfl <;> decide
  · intro x y hx hy
    show (f4 ([0 == 1] ++ (x ++ y))).take 1 = _
    rw [s4 [0 == 1] x y rfl hx hy, bbits_app 1 w, li_ka (by rw [bbits_len]), show bnum [0 == 1] = 0 from rfl, bl_num hx hy]
theorem bj_25 (h3 : 3 ≤ l) (hl : l < 7) : BdOK sc 25 l := by
  intro r d c m h G J post hP hr hd hF hI hJ hm hp
  rw [pH_e (by omega)] at hr
  have hr' : r = 3 + l := hr
  have ho : oc 25 l = 7 := (by decide : ∀ l, l < 7 → 3 ≤ l → oc 25 l = 7) l hl h3
  rw [ho] at hm hp
  have hw64 := pw_l7 hl
  rw [if_pos (by decide)]
  unfold bPo gP at hp
  obtain ⟨w, hw⟩ : ∃ w, 2 ^ l = w := ⟨_, rfl⟩
  rw [hw] at hw64 hp
  rw [hw]
  refine xq_in rfl ?_
  simp only [xq_a0, xq_aI, xq_aJ, xq_aR, Nat.reduceAdd]
  have E : cE h G c h G c := cE_rf
  with_reducible refine xm_go_blk b_X0_joinedPiece_0 k_X0_joinedPiece_0 ?_
  refine by_iload_n rfl ?_
  refine by_sw ?_
  refine xq_sw 171 (by decide) (by decide) ?_
  with_reducible refine xm_go_blk b_X0_joinedPiece_171 k_X0_joinedPiece_171 ?_
  refine by_aload_n rfl ?_
  refine by_aload_n rfl ?_
  refine by_aload_n rfl ?_
  refine by_bipush cb_24 ?_
  refine by_iload_n rfl ?_
  refine by_inv2 cn_20 lk_0_83 (by rw [xe_cnt]; decide) is_26 np_26 cn_26 (by first | exact rfl | assumption) (Nat.le_of_ble_eq_true rfl) ?_
  refine sp_pc (a := 2) hP ⟨by omega, by omega, by omega⟩ rfl (by omega) hJ (by omega) hF hI (fun h1 G1 c1 n1 F1 I1 e1 p1 => ?_)
  obtain ⟨f1, v1, s1⟩ := p1
  simp only [pS, pT, pSp, Nat.reducePow, hw] at v1 s1
  replace E := cE_tr E e1
  with_reducible refine xm_go_blk b_X0_joinedPiece_180 k_X0_joinedPiece_180 ?_
  refine by_aload_n rfl ?_
  refine by_iconst ci_2 ?_
  refine by_iload_n rfl ?_
  refine by_imul ?_
  simp (disch := first | exact Nat.ne_of_beq_eq_false rfl | exact rfl | omega) only [nI_add, xa_sub, xa_mul, pk_div, nm_mod, xa_shr, xa_and7, xa_and1, xa_and255, xa_by_and, nI_m1, Nat.add_sub_cancel, Nat.reducePow, Nat.zero_add, Nat.add_zero, Nat.reduceAdd, Nat.reduceMul, Nat.reduceSub, xf_same, xq_ff, xq_fo, xf_1, xf_2, xs_1, xs_2, xs_same, xq_so, xj_1, xj_2, xj_same, xq_jo, xq_sa1, xq_same, xq_other, upd_s, oI_n, oI_s, xv_0, xv_1, xv_2, xv_3, xm_p1, xm_p2, xq_fp, xq_fn, List.filter_nil, Nat.reduceBEq, Bool.not_true, Bool.not_false, Bool.and_true, Bool.and_false, Bool.false_and, Bool.true_and, if_true, if_false, Bool.false_eq_true, reduceIte, xc_i, xc_j, xc_r, xc_n, List.nil_append, List.cons_append, Option.toList_some, Option.toList_none]
  refine by_inv1 cn_20 lk_0_76 (by rw [xe_cnt]; decide) is_18 np_18 cn_18 (by first | exact rfl | assumption) (Nat.le_of_ble_eq_true rfl) ?_
  refine sp_iden F1 I1 (by omega) (by omega) (fun h2 G2 c2 n2 F2 I2 e2 v2 => ?_)
  replace v1 := nG_up v1 e2
  replace E := cE_tr E e2
  with_reducible refine xm_go_blk b_X0_joinedPiece_187 k_X0_joinedPiece_187 ?_
  refine by_inv2 cn_20 lk_0_80 (by rw [xe_cnt]; decide) is_25 np_25 cn_25 (by first | exact rfl | assumption) (Nat.le_of_ble_eq_true rfl) ?_
  refine sp_gpair F2 I2 (by omega) v1 v2 (by omega) (by omega) (fun h3 G3 c3 n3 F3 I3 e3 v3 => ?_)
  replace E := cE_tr E e3
  with_reducible refine xm_go_blk b_X0_joinedPiece_190 k_X0_joinedPiece_190 ?_
  refine by_aload_n rfl ?_
  refine by_aload_n rfl ?_
  refine by_iload_n rfl ?_
  refine by_iload_n rfl ?_
  refine by_inv2 cn_20 lk_0_92 (by rw [xe_cnt]; decide) is_32 np_32 cn_32 (by first | exact rfl | assumption) (Nat.le_of_ble_eq_true rfl) ?_
  refine sp_second F3 I3 (by omega) (by omega) (fun h4 G4 c4 n4 F4 I4 e4 v4 => ?_)
  replace v3 := nG_up v3 e4
  replace E := cE_tr E e4
  with_reducible refine xm_go_blk b_X0_joinedPiece_197 k_X0_joinedPiece_197 ?_
  refine by_aload_n rfl ?_
  refine by_iload_n rfl ?_
  refine by_iload_n rfl ?_
  refine by_inv2 cn_20 lk_0_95 (by rw [xe_cnt]; decide) is_15 np_15 cn_15 (by first | exact rfl | assumption) (Nat.le_of_ble_eq_true rfl) ?_
  refine sp_first F4 I4 (by omega) (by omega) (fun h5 G5 c5 n5 F5 I5 e5 v5 => ?_)
  replace v3 := nG_up v3 e5
  replace v4 := nG_up v4 e5
  replace E := cE_tr E e5
  with_reducible refine xm_go_blk b_X0_joinedPiece_203 k_X0_joinedPiece_203 ?_
  refine by_inv2 cn_20 lk_0_98 (by rw [xe_cnt]; decide) is_6 np_6 cn_6 (by first | exact rfl | assumption) (Nat.le_of_ble_eq_true rfl) ?_
  refine sp_choose F5 I5 (by omega) v4 v5 (by omega) (by omega) (by omega) (fun h6 G6 c6 n6 F6 I6 e6 v6 => ?_)
  replace v3 := nG_up v3 e6
  replace E := cE_tr E e6
  with_reducible refine xm_go_blk b_X0_joinedPiece_206 k_X0_joinedPiece_206 ?_
  refine by_inv2 cn_20 lk_0_86 (by rw [xe_cnt]; decide) is_7 np_7 cn_7 (by first | exact rfl | assumption) (Nat.le_of_ble_eq_true rfl) ?_
  refine sp_gcomp F6 I6 (by omega) v3 v6 (by omega) (fun h7 G7 c7 n7 F7 I7 e7 v7 => ?_)
  replace E := cE_tr E e7
  with_reducible refine xm_go_blk b_X0_joinedPiece_209 k_X0_joinedPiece_209 ?_
  refine by_iret ry_20 (by first | rfl | assumption) ?_
  refine hp _ _ _ _ F7 (cI_mono I7 (by omega) hm) E ⟨_, nG_cg v7 (by simp only [pS] <;> omega) (by simp only [pT] <;> omega) (fun _ _ => rfl) ?_, ?_⟩
  · subst hw
    rcases (by omega : l = 3 ∨ l = 4 ∨ l = 5 ∨ l = 6) with rfl | rfl | rfl | rfl <;> decide
  · intro x y hx hy
    simp only [s1 x y hx hy]
    by_cases e : bnum x < bnum y
    · rw [if_pos e]
      simp only [decide_eq_true e]
      show (x ++ y).take w = _
      exact li_ka hx.symm
    · rw [if_neg e]
      simp only [decide_eq_false e]
      show (x ++ y).drop w = _
      exact li_da hx.symm
theorem bj_26 (h3 : 3 ≤ l) (hl : l < 7) : BdOK sc 26 l := by
  intro r d c m h G J post hP hr hd hF hI hJ hm hp
  rw [pH_e (by omega)] at hr
  have hr' : r = 3 + l := hr
  have ho : oc 26 l = 7 := (by decide : ∀ l, l < 7 → 3 ≤ l → oc 26 l = 7) l hl h3
  rw [ho] at hm hp
  have hw64 := pw_l7 hl
  rw [if_pos (by decide)]
  unfold bPo gP at hp
  obtain ⟨w, hw⟩ : ∃ w, 2 ^ l = w := ⟨_, rfl⟩
  rw [hw] at hw64 hp
  rw [hw]
  refine xq_in rfl ?_
  simp only [xq_a0, xq_aI, xq_aJ, xq_aR, Nat.reduceAdd]
  have E : cE h G c h G c := cE_rf
  with_reducible refine xm_go_blk b_X0_joinedPiece_0 k_X0_joinedPiece_0 ?_
  refine by_iload_n rfl ?_
  refine by_sw ?_
  refine xq_sw 210 (by decide) (by decide) ?_
  with_reducible refine xm_go_blk b_X0_joinedPiece_210 k_X0_joinedPiece_210 ?_
  refine by_aload_n rfl ?_
  refine by_aload_n rfl ?_
  refine by_aload_n rfl ?_
  refine by_bipush cb_24 ?_
  refine by_iload_n rfl ?_
  refine by_inv2 cn_20 lk_0_83 (by rw [xe_cnt]; decide) is_26 np_26 cn_26 (by first | exact rfl | assumption) (Nat.le_of_ble_eq_true rfl) ?_
  refine sp_pc (a := 2) hP ⟨by omega, by omega, by omega⟩ rfl (by omega) hJ (by omega) hF hI (fun h1 G1 c1 n1 F1 I1 e1 p1 => ?_)
  obtain ⟨f1, v1, s1⟩ := p1
  simp only [pS, pT, pSp, Nat.reducePow, hw] at v1 s1
  replace E := cE_tr E e1
  with_reducible refine xm_go_blk b_X0_joinedPiece_219 k_X0_joinedPiece_219 ?_
  refine by_aload_n rfl ?_
  refine by_iconst ci_2 ?_
  refine by_iload_n rfl ?_
  refine by_imul ?_
  simp (disch := first | exact Nat.ne_of_beq_eq_false rfl | exact rfl | omega) only [nI_add, xa_sub, xa_mul, pk_div, nm_mod, xa_shr, xa_and7, xa_and1, xa_and255, xa_by_and, nI_m1, Nat.add_sub_cancel, Nat.reducePow, Nat.zero_add, Nat.add_zero, Nat.reduceAdd, Nat.reduceMul, Nat.reduceSub, xf_same, xq_ff, xq_fo, xf_1, xf_2, xs_1, xs_2, xs_same, xq_so, xj_1, xj_2, xj_same, xq_jo, xq_sa1, xq_same, xq_other, upd_s, oI_n, oI_s, xv_0, xv_1, xv_2, xv_3, xm_p1, xm_p2, xq_fp, xq_fn, List.filter_nil, Nat.reduceBEq, Bool.not_true, Bool.not_false, Bool.and_true, Bool.and_false, Bool.false_and, Bool.true_and, if_true, if_false, Bool.false_eq_true, reduceIte, xc_i, xc_j, xc_r, xc_n, List.nil_append, List.cons_append, Option.toList_some, Option.toList_none]
  refine by_inv1 cn_20 lk_0_76 (by rw [xe_cnt]; decide) is_18 np_18 cn_18 (by first | exact rfl | assumption) (Nat.le_of_ble_eq_true rfl) ?_
  refine sp_iden F1 I1 (by omega) (by omega) (fun h2 G2 c2 n2 F2 I2 e2 v2 => ?_)
  replace v1 := nG_up v1 e2
  replace E := cE_tr E e2
  with_reducible refine xm_go_blk b_X0_joinedPiece_226 k_X0_joinedPiece_226 ?_
  refine by_inv2 cn_20 lk_0_80 (by rw [xe_cnt]; decide) is_25 np_25 cn_25 (by first | exact rfl | assumption) (Nat.le_of_ble_eq_true rfl) ?_
  refine sp_gpair F2 I2 (by omega) v1 v2 (by omega) (by omega) (fun h3 G3 c3 n3 F3 I3 e3 v3 => ?_)
  replace E := cE_tr E e3
  with_reducible refine xm_go_blk b_X0_joinedPiece_229 k_X0_joinedPiece_229 ?_
  refine by_aload_n rfl ?_
  refine by_aload_n rfl ?_
  refine by_iload_n rfl ?_
  refine by_iload_n rfl ?_
  refine by_inv2 cn_20 lk_0_95 (by rw [xe_cnt]; decide) is_15 np_15 cn_15 (by first | exact rfl | assumption) (Nat.le_of_ble_eq_true rfl) ?_
  refine sp_first F3 I3 (by omega) (by omega) (fun h4 G4 c4 n4 F4 I4 e4 v4 => ?_)
  replace v3 := nG_up v3 e4
  replace E := cE_tr E e4
  with_reducible refine xm_go_blk b_X0_joinedPiece_236 k_X0_joinedPiece_236 ?_
  refine by_aload_n rfl ?_
  refine by_iload_n rfl ?_
  refine by_iload_n rfl ?_
  refine by_inv2 cn_20 lk_0_92 (by rw [xe_cnt]; decide) is_32 np_32 cn_32 (by first | exact rfl | assumption) (Nat.le_of_ble_eq_true rfl) ?_
  refine sp_second F4 I4 (by omega) (by omega) (fun h5 G5 c5 n5 F5 I5 e5 v5 => ?_)
  replace v3 := nG_up v3 e5
  replace v4 := nG_up v4 e5
  replace E := cE_tr E e5
  with_reducible refine xm_go_blk b_X0_joinedPiece_242 k_X0_joinedPiece_242 ?_
  refine by_inv2 cn_20 lk_0_98 (by rw [xe_cnt]; decide) is_6 np_6 cn_6 (by first | exact rfl | assumption) (Nat.le_of_ble_eq_true rfl) ?_
  refine sp_choose F5 I5 (by omega) v4 v5 (by omega) (by omega) (by omega) (fun h6 G6 c6 n6 F6 I6 e6 v6 => ?_)
  replace v3 := nG_up v3 e6
  replace E := cE_tr E e6
  with_reducible refine xm_go_blk b_X0_joinedPiece_245 k_X0_joinedPiece_245 ?_
  refine by_inv2 cn_20 lk_0_86 (by rw [xe_cnt]; decide) is_7 np_7 cn_7 (by first | exact rfl | assumption) (Nat.le_of_ble_eq_true rfl) ?_
  refine sp_gcomp F6 I6 (by omega) v3 v6 (by omega) (fun h7 G7 c7 n7 F7 I7 e7 v7 => ?_)
  replace E := cE_tr E e7
  with_reducible refine xm_go_blk b_X0_joinedPiece_248 k_X0_joinedPiece_248 ?_
  refine by_iret ry_20 (by first | rfl | assumption) ?_
  refine hp _ _ _ _ F7 (cI_mono I7 (by omega) hm) E ⟨_, nG_cg v7 (by simp only [pS] <;> omega) (by simp only [pT] <;> omega) (fun _ _ => rfl) ?_, ?_⟩
  · subst hw
    rcases (by omega : l = 3 ∨ l = 4 ∨ l = 5 ∨ l = 6) with rfl | rfl | rfl | rfl <;> decide
  · intro x y hx hy
    simp only [s1 x y hx hy]
    by_cases e : bnum x < bnum y
    · rw [if_pos e]
      simp only [decide_eq_true e]
      show (x ++ y).drop w = _
      exact li_da hx.symm
    · rw [if_neg e]
      simp only [decide_eq_false e]
      show (x ++ y).take w = _
      exact li_ka hx.symm
end CD
