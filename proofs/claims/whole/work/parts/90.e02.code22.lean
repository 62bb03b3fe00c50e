/-! ===== definitions of jets: those that test ===== -/
section CD
variable {sc : xm_Sc}
theorem jd_19 {l : Nat} (h3 : 3 ≤ l) (hl : l < 7) : JdOK sc 19 l := by
  intro d c m h G post hP hd hF hI hm hp
  have hr' : (11 : Nat) = 11 := rfl
  have hJ : ∀ j ∈ ([] : List Nat), 11 ≤ pH j := fun j hj => absurd hj (by simp)
  have ho : oj 19 l = 2 := (by decide : ∀ l, l < 7 → 3 ≤ l → oj 19 l = 2) l hl h3
  rw [ho] at hm hp
  have hsh := pw_sh l hl
  have hw64 := pw_l7 hl
  have hwe := pw_ev h3
  unfold jPo gJ at hp
  show xm_T (XE sc) (d + 7) 34 _ h post
  obtain ⟨w, hw⟩ : ∃ w, 2 ^ l = w := ⟨_, rfl⟩
  rw [hw] at hsh hw64 hp hwe
  refine xq_in rfl ?_
  simp only [xq_a0, xq_aI, xq_aJ, xq_aR, Nat.reduceAdd]
  have E : cE h G c h G c := cE_rf
  with_reducible refine xm_go_blk b_X0_testing_0 k_X0_testing_0 ?_
  refine by_iconst ci_1 ?_
  refine by_iload_n rfl ?_
  refine by_ishl ?_
  refine by_istore_n (by rw [ml_34]; decide) ?_
  refine by_iload_n rfl ?_
  simp (disch := first | exact Nat.ne_of_beq_eq_false rfl | exact rfl | omega) only [nI_add, xa_sub, xa_mul, pk_div, nm_mod, xa_shr, xa_and7, xa_and1, xa_and255, xa_by_and, nI_m1, Nat.add_sub_cancel, Nat.reducePow, Nat.zero_add, Nat.add_zero, Nat.reduceAdd, Nat.reduceMul, Nat.reduceSub, xf_same, xq_ff, xq_fo, xf_1, xf_2, xs_1, xs_2, xs_same, xq_so, xj_1, xj_2, xj_same, xq_jo, xq_sa1, xq_same, xq_other, upd_s, oI_n, oI_s, hsh]
  refine by_sw ?_
  simp (disch := first | exact Nat.ne_of_beq_eq_false rfl | exact rfl | omega) only [nI_add, xa_sub, xa_mul, pk_div, nm_mod, xa_shr, xa_and7, xa_and1, xa_and255, xa_by_and, nI_m1, Nat.add_sub_cancel, Nat.reducePow, Nat.zero_add, Nat.add_zero, Nat.reduceAdd, Nat.reduceMul, Nat.reduceSub, xf_same, xq_ff, xq_fo, xf_1, xf_2, xs_1, xs_2, xs_same, xq_so, xj_1, xj_2, xj_same, xq_jo, xq_sa1, xq_same, xq_other, upd_s, oI_n, oI_s, xv_0, xv_1, xv_2, xv_3, xm_p1, xm_p2, xq_fp, xq_fn, List.filter_nil, Nat.reduceBEq, Bool.not_true, Bool.not_false, Bool.and_true, Bool.and_false, Bool.false_and, Bool.true_and, if_true, if_false, Bool.false_eq_true, reduceIte, xc_i, xc_j, xc_r, xc_n, List.nil_append, List.cons_append, Option.toList_some, Option.toList_none, hsh]
  refine xq_sw 68 (by decide) (by decide) ?_
  with_reducible refine xm_go_blk b_X0_testing_68 k_X0_testing_68 ?_
  refine by_aload_n rfl ?_
  refine by_aload_n rfl ?_
  refine by_iconst ci_4 ?_
  refine by_iload_n rfl ?_
  refine by_inv2 cn_34 lk_0_83 (by rw [xe_cnt]; decide) is_26 np_26 cn_26 (by first | exact rfl | assumption) (Nat.le_of_ble_eq_true rfl) ?_
  refine sp_pc (a := 0) hP ⟨by omega, by omega, by omega⟩ rfl (by omega) hJ (by omega) hF hI (fun h1 G1 c1 n1 F1 I1 e1 p1 => ?_)
  obtain ⟨f1, v1, s1⟩ := p1
  simp only [pS, pT, pSp, Nat.reducePow, hw] at v1 s1
  replace v1 := nG_cg v1 rfl rfl (fun x hx => s1 x hx) (qle_rf _)
  replace E := cE_tr E e1
  with_reducible refine xm_go_blk b_X0_testing_75 k_X0_testing_75 ?_
  refine by_aload_n rfl ?_
  refine by_bipush cb_6 ?_
  refine by_iconst ci_0 ?_
  refine by_inv2 cn_34 lk_0_83 (by rw [xe_cnt]; decide) is_26 np_26 cn_26 (by first | exact rfl | assumption) (Nat.le_of_ble_eq_true rfl) ?_
  refine sp_pc (a := 0) hP ⟨by omega, by omega, by omega⟩ rfl (by omega) hJ (by omega) F1 I1 (fun h2 G2 c2 n2 F2 I2 e2 p2 => ?_)
  obtain ⟨f2, v2, s2⟩ := p2
  simp only [pS, pT, pSp, Nat.reducePow, hw] at v2 s2
  replace v2 := nG_cg v2 rfl rfl (fun x hx => s2 x hx) (qle_rf _)
  replace v1 := nG_up v1 e2
  replace E := cE_tr E e2
  with_reducible refine xm_go_blk b_X0_testing_82 k_X0_testing_82 ?_
  refine by_inv2 cn_34 lk_0_86 (by rw [xe_cnt]; decide) is_7 np_7 cn_7 (by first | exact rfl | assumption) (Nat.le_of_ble_eq_true rfl) ?_
  refine sp_gcomp F2 I2 (by omega) v1 v2 (by omega) (fun h3 G3 c3 n3 F3 I3 e3 v3 => ?_)
  replace E := cE_tr E e3
  with_reducible refine xm_go_blk b_X0_testing_85 k_X0_testing_85 ?_
  refine by_iret ry_34 (by first | rfl | assumption) ?_
  refine hp _ _ _ _ F3 (cI_mono I3 (by omega) hm) E ⟨_, nG_cg v3 (by show _ = w; omega) (by show _ = 1; omega) (fun _ _ => rfl) ?_, jsp_3 rfl ?_⟩
  · subst hw
    rcases (by omega : l = 3 ∨ l = 4 ∨ l = 5 ∨ l = 6) with rfl | rfl | rfl | rfl <;> decide
  · intro x hx
    show [x.any id].map not = bbits 1 (if bnum x = 0 then 1 else 0)
    rw [bn_any, b1_d]
    simp
theorem jd_21 {l : Nat} (h3 : 3 ≤ l) (hl : l < 7) : JdOK sc 21 l := by
  intro d c m h G post hP hd hF hI hm hp
  have hr' : (11 : Nat) = 11 := rfl
  have hJ : ∀ j ∈ ([] : List Nat), 11 ≤ pH j := fun j hj => absurd hj (by simp)
  have ho : oj 21 l = 0 := (by decide : ∀ l, l < 7 → 3 ≤ l → oj 21 l = 0) l hl h3
  rw [ho] at hm hp
  have hsh := pw_sh l hl
  have hw64 := pw_l7 hl
  have hwe := pw_ev h3
  unfold jPo gJ at hp
  show xm_T (XE sc) (d + 7) 34 _ h post
  obtain ⟨w, hw⟩ : ∃ w, 2 ^ l = w := ⟨_, rfl⟩
  rw [hw] at hsh hw64 hp hwe
  refine xq_in rfl ?_
  simp only [xq_a0, xq_aI, xq_aJ, xq_aR, Nat.reduceAdd]
  have E : cE h G c h G c := cE_rf
  with_reducible refine xm_go_blk b_X0_testing_0 k_X0_testing_0 ?_
  refine by_iconst ci_1 ?_
  refine by_iload_n rfl ?_
  refine by_ishl ?_
  refine by_istore_n (by rw [ml_34]; decide) ?_
  refine by_iload_n rfl ?_
  simp (disch := first | exact Nat.ne_of_beq_eq_false rfl | exact rfl | omega) only [nI_add, xa_sub, xa_mul, pk_div, nm_mod, xa_shr, xa_and7, xa_and1, xa_and255, xa_by_and, nI_m1, Nat.add_sub_cancel, Nat.reducePow, Nat.zero_add, Nat.add_zero, Nat.reduceAdd, Nat.reduceMul, Nat.reduceSub, xf_same, xq_ff, xq_fo, xf_1, xf_2, xs_1, xs_2, xs_same, xq_so, xj_1, xj_2, xj_same, xq_jo, xq_sa1, xq_same, xq_other, upd_s, oI_n, oI_s, hsh]
  refine by_sw ?_
  simp (disch := first | exact Nat.ne_of_beq_eq_false rfl | exact rfl | omega) only [nI_add, xa_sub, xa_mul, pk_div, nm_mod, xa_shr, xa_and7, xa_and1, xa_and255, xa_by_and, nI_m1, Nat.add_sub_cancel, Nat.reducePow, Nat.zero_add, Nat.add_zero, Nat.reduceAdd, Nat.reduceMul, Nat.reduceSub, xf_same, xq_ff, xq_fo, xf_1, xf_2, xs_1, xs_2, xs_same, xq_so, xj_1, xj_2, xj_same, xq_jo, xq_sa1, xq_same, xq_other, upd_s, oI_n, oI_s, xv_0, xv_1, xv_2, xv_3, xm_p1, xm_p2, xq_fp, xq_fn, List.filter_nil, Nat.reduceBEq, Bool.not_true, Bool.not_false, Bool.and_true, Bool.and_false, Bool.false_and, Bool.true_and, if_true, if_false, Bool.false_eq_true, reduceIte, xc_i, xc_j, xc_r, xc_n, List.nil_append, List.cons_append, Option.toList_some, Option.toList_none, hsh]
  refine xq_sw 147 (by decide) (by decide) ?_
  with_reducible refine xm_go_blk b_X0_testing_147 k_X0_testing_147 ?_
  refine by_aload_n rfl ?_
  refine by_iconst ci_5 ?_
  refine by_iload_n rfl ?_
  refine by_inv2 cn_34 lk_0_83 (by rw [xe_cnt]; decide) is_26 np_26 cn_26 (by first | exact rfl | assumption) (Nat.le_of_ble_eq_true rfl) ?_
  refine sp_pc (a := 0) hP ⟨by omega, by omega, by omega⟩ rfl (by omega) hJ (by omega) hF hI (fun h1 G1 c1 n1 F1 I1 e1 p1 => ?_)
  obtain ⟨f1, v1, s1⟩ := p1
  simp only [pS, pT, pSp, Nat.reducePow, hw] at v1 s1
  replace v1 := nG_cg v1 rfl rfl (fun x hx => s1 x hx) (qle_rf _)
  replace E := cE_tr E e1
  with_reducible refine xm_go_blk b_X0_testing_153 k_X0_testing_153 ?_
  refine by_iret ry_34 (by first | rfl | assumption) ?_
  refine hp _ _ _ _ F1 (cI_mono I1 (by omega) hm) E ⟨_, nG_cg v1 (by show _ = w; omega) (by show _ = 1; omega) (fun _ _ => rfl) ?_, jsp_3 rfl ?_⟩
  · subst hw
    rcases (by omega : l = 3 ∨ l = 4 ∨ l = 5 ∨ l = 6) with rfl | rfl | rfl | rfl <;> decide
  · intro x hx
    show [x.all id] = bbits 1 (if bnum x = 2 ^ w - 1 then 1 else 0)
    rw [bn_all, b1_d, hx]
theorem jd_22 {l : Nat} (h3 : 3 ≤ l) (hl : l < 7) : JdOK sc 22 l := by
  intro d c m h G post hP hd hF hI hm hp
  have hr' : (11 : Nat) = 11 := rfl
  have hJ : ∀ j ∈ ([] : List Nat), 11 ≤ pH j := fun j hj => absurd hj (by simp)
  have ho : oj 22 l = 0 := (by decide : ∀ l, l < 7 → 3 ≤ l → oj 22 l = 0) l hl h3
  rw [ho] at hm hp
  have hsh := pw_sh l hl
  have hw64 := pw_l7 hl
  have hwe := pw_ev h3
  unfold jPo gJ at hp
  show xm_T (XE sc) (d + 7) 34 _ h post
  obtain ⟨w, hw⟩ : ∃ w, 2 ^ l = w := ⟨_, rfl⟩
  rw [hw] at hsh hw64 hp hwe
  refine xq_in rfl ?_
  simp only [xq_a0, xq_aI, xq_aJ, xq_aR, Nat.reduceAdd]
  have E : cE h G c h G c := cE_rf
  with_reducible refine xm_go_blk b_X0_testing_0 k_X0_testing_0 ?_
  refine by_iconst ci_1 ?_
  refine by_iload_n rfl ?_
  refine by_ishl ?_
  refine by_istore_n (by rw [ml_34]; decide) ?_
  refine by_iload_n rfl ?_
  simp (disch := first | exact Nat.ne_of_beq_eq_false rfl | exact rfl | omega) only [nI_add, xa_sub, xa_mul, pk_div, nm_mod, xa_shr, xa_and7, xa_and1, xa_and255, xa_by_and, nI_m1, Nat.add_sub_cancel, Nat.reducePow, Nat.zero_add, Nat.add_zero, Nat.reduceAdd, Nat.reduceMul, Nat.reduceSub, xf_same, xq_ff, xq_fo, xf_1, xf_2, xs_1, xs_2, xs_same, xq_so, xj_1, xj_2, xj_same, xq_jo, xq_sa1, xq_same, xq_other, upd_s, oI_n, oI_s, hsh]
  refine by_sw ?_
  simp (disch := first | exact Nat.ne_of_beq_eq_false rfl | exact rfl | omega) only [nI_add, xa_sub, xa_mul, pk_div, nm_mod, xa_shr, xa_and7, xa_and1, xa_and255, xa_by_and, nI_m1, Nat.add_sub_cancel, Nat.reducePow, Nat.zero_add, Nat.add_zero, Nat.reduceAdd, Nat.reduceMul, Nat.reduceSub, xf_same, xq_ff, xq_fo, xf_1, xf_2, xs_1, xs_2, xs_same, xq_so, xj_1, xj_2, xj_same, xq_jo, xq_sa1, xq_same, xq_other, upd_s, oI_n, oI_s, xv_0, xv_1, xv_2, xv_3, xm_p1, xm_p2, xq_fp, xq_fn, List.filter_nil, Nat.reduceBEq, Bool.not_true, Bool.not_false, Bool.and_true, Bool.and_false, Bool.false_and, Bool.true_and, if_true, if_false, Bool.false_eq_true, reduceIte, xc_i, xc_j, xc_r, xc_n, List.nil_append, List.cons_append, Option.toList_some, Option.toList_none, hsh]
  refine xq_sw 154 (by decide) (by decide) ?_
  with_reducible refine xm_go_blk b_X0_testing_154 k_X0_testing_154 ?_
  refine by_aload_n rfl ?_
  refine by_iconst ci_4 ?_
  refine by_iload_n rfl ?_
  refine by_inv2 cn_34 lk_0_83 (by rw [xe_cnt]; decide) is_26 np_26 cn_26 (by first | exact rfl | assumption) (Nat.le_of_ble_eq_true rfl) ?_
  refine sp_pc (a := 0) hP ⟨by omega, by omega, by omega⟩ rfl (by omega) hJ (by omega) hF hI (fun h1 G1 c1 n1 F1 I1 e1 p1 => ?_)
  obtain ⟨f1, v1, s1⟩ := p1
  simp only [pS, pT, pSp, Nat.reducePow, hw] at v1 s1
  replace v1 := nG_cg v1 rfl rfl (fun x hx => s1 x hx) (qle_rf _)
  replace E := cE_tr E e1
  with_reducible refine xm_go_blk b_X0_testing_160 k_X0_testing_160 ?_
  refine by_iret ry_34 (by first | rfl | assumption) ?_
  refine hp _ _ _ _ F1 (cI_mono I1 (by omega) hm) E ⟨_, nG_cg v1 (by show _ = w; omega) (by show _ = 1; omega) (fun _ _ => rfl) ?_, jsp_3 rfl ?_⟩
  · subst hw
    rcases (by omega : l = 3 ∨ l = 4 ∨ l = 5 ∨ l = 6) with rfl | rfl | rfl | rfl <;> decide
  · intro x hx
    show [x.any id] = bbits 1 (if bnum x ≠ 0 then 1 else 0)
    rw [bn_any, b1_d]
theorem jd_23 {l : Nat} (h3 : 3 ≤ l) (hl : l < 7) : JdOK sc 23 l := by
  intro d c m h G post hP hd hF hI hm hp
  have hr' : (11 : Nat) = 11 := rfl
  have hJ : ∀ j ∈ ([] : List Nat), 11 ≤ pH j := fun j hj => absurd hj (by simp)
  have ho : oj 23 l = 0 := (by decide : ∀ l, l < 7 → 3 ≤ l → oj 23 l = 0) l hl h3
  rw [ho] at hm hp
  have hsh := pw_sh l hl
  have hw64 := pw_l7 hl
  have hwe := pw_ev h3
  unfold jPo gJ at hp
  show xm_T (XE sc) (d + 7) 34 _ h post
  obtain ⟨w, hw⟩ : ∃ w, 2 ^ l = w := ⟨_, rfl⟩
  rw [hw] at hsh hw64 hp hwe
  refine xq_in rfl ?_
  simp only [xq_a0, xq_aI, xq_aJ, xq_aR, Nat.reduceAdd]
  have E : cE h G c h G c := cE_rf
  with_reducible refine xm_go_blk b_X0_testing_0 k_X0_testing_0 ?_
  refine by_iconst ci_1 ?_
  refine by_iload_n rfl ?_
  refine by_ishl ?_
  refine by_istore_n (by rw [ml_34]; decide) ?_
  refine by_iload_n rfl ?_
  simp (disch := first | exact Nat.ne_of_beq_eq_false rfl | exact rfl | omega) only [nI_add, xa_sub, xa_mul, pk_div, nm_mod, xa_shr, xa_and7, xa_and1, xa_and255, xa_by_and, nI_m1, Nat.add_sub_cancel, Nat.reducePow, Nat.zero_add, Nat.add_zero, Nat.reduceAdd, Nat.reduceMul, Nat.reduceSub, xf_same, xq_ff, xq_fo, xf_1, xf_2, xs_1, xs_2, xs_same, xq_so, xj_1, xj_2, xj_same, xq_jo, xq_sa1, xq_same, xq_other, upd_s, oI_n, oI_s, hsh]
  refine by_sw ?_
  simp (disch := first | exact Nat.ne_of_beq_eq_false rfl | exact rfl | omega) only [nI_add, xa_sub, xa_mul, pk_div, nm_mod, xa_shr, xa_and7, xa_and1, xa_and255, xa_by_and, nI_m1, Nat.add_sub_cancel, Nat.reducePow, Nat.zero_add, Nat.add_zero, Nat.reduceAdd, Nat.reduceMul, Nat.reduceSub, xf_same, xq_ff, xq_fo, xf_1, xf_2, xs_1, xs_2, xs_same, xq_so, xj_1, xj_2, xj_same, xq_jo, xq_sa1, xq_same, xq_other, upd_s, oI_n, oI_s, xv_0, xv_1, xv_2, xv_3, xm_p1, xm_p2, xq_fp, xq_fn, List.filter_nil, Nat.reduceBEq, Bool.not_true, Bool.not_false, Bool.and_true, Bool.and_false, Bool.false_and, Bool.true_and, if_true, if_false, Bool.false_eq_true, reduceIte, xc_i, xc_j, xc_r, xc_n, List.nil_append, List.cons_append, Option.toList_some, Option.toList_none, hsh]
  refine xq_sw 161 (by decide) (by decide) ?_
  with_reducible refine xm_go_blk b_X0_testing_161 k_X0_testing_161 ?_
  refine by_aload_n rfl ?_
  refine by_bipush cb_6 ?_
  refine by_iload_n rfl ?_
  refine by_inv2 cn_34 lk_0_83 (by rw [xe_cnt]; decide) is_26 np_26 cn_26 (by first | exact rfl | assumption) (Nat.le_of_ble_eq_true rfl) ?_
  refine sp_pc (a := 0) hP ⟨by omega, by omega, by omega⟩ rfl (by omega) hJ (by omega) hF hI (fun h1 G1 c1 n1 F1 I1 e1 p1 => ?_)
  obtain ⟨f1, v1, s1⟩ := p1
  simp only [pS, pT, pSp, Nat.reducePow, hw] at v1 s1
  replace v1 := nG_cg v1 rfl rfl (fun x hx => s1 x hx) (qle_rf _)
  replace E := cE_tr E e1
  with_reducible refine xm_go_blk b_X0_testing_168 k_X0_testing_168 ?_
  refine by_iret ry_34 (by first | rfl | assumption) ?_
  refine hp _ _ _ _ F1 (cI_mono I1 (by omega) hm) E ⟨_, nG_cg v1 (by show _ = w; omega) (by show _ = w; omega) (fun _ _ => rfl) ?_, jsp_3 rfl ?_⟩
  · subst hw
    rcases (by omega : l = 3 ∨ l = 4 ∨ l = 5 ∨ l = 6) with rfl | rfl | rfl | rfl <;> decide
  · intro x hx
    show x.map not = bbits w (bnum x ^^^ (2 ^ w - 1))
    exact bb_map hx
theorem jd_24 {l : Nat} (h3 : 3 ≤ l) (hl : l < 7) : JdOK sc 24 l := by
  intro d c m h G post hP hd hF hI hm hp
  have hr' : (11 : Nat) = 11 := rfl
  have hJ : ∀ j ∈ ([] : List Nat), 11 ≤ pH j := fun j hj => absurd hj (by simp)
  have ho : oj 24 l = 0 := (by decide : ∀ l, l < 7 → 3 ≤ l → oj 24 l = 0) l hl h3
  rw [ho] at hm hp
  have hsh := pw_sh l hl
  have hw64 := pw_l7 hl
  have hwe := pw_ev h3
  unfold jPo gJ at hp
  show xm_T (XE sc) (d + 7) 34 _ h post
  obtain ⟨w, hw⟩ : ∃ w, 2 ^ l = w := ⟨_, rfl⟩
  rw [hw] at hsh hw64 hp hwe
  refine xq_in rfl ?_
  simp only [xq_a0, xq_aI, xq_aJ, xq_aR, Nat.reduceAdd]
  have E : cE h G c h G c := cE_rf
  with_reducible refine xm_go_blk b_X0_testing_0 k_X0_testing_0 ?_
  refine by_iconst ci_1 ?_
  refine by_iload_n rfl ?_
  refine by_ishl ?_
  refine by_istore_n (by rw [ml_34]; decide) ?_
  refine by_iload_n rfl ?_
  simp (disch := first | exact Nat.ne_of_beq_eq_false rfl | exact rfl | omega) only [nI_add, xa_sub, xa_mul, pk_div, nm_mod, xa_shr, xa_and7, xa_and1, xa_and255, xa_by_and, nI_m1, Nat.add_sub_cancel, Nat.reducePow, Nat.zero_add, Nat.add_zero, Nat.reduceAdd, Nat.reduceMul, Nat.reduceSub, xf_same, xq_ff, xq_fo, xf_1, xf_2, xs_1, xs_2, xs_same, xq_so, xj_1, xj_2, xj_same, xq_jo, xq_sa1, xq_same, xq_other, upd_s, oI_n, oI_s, hsh]
  refine by_sw ?_
  simp (disch := first | exact Nat.ne_of_beq_eq_false rfl | exact rfl | omega) only [nI_add, xa_sub, xa_mul, pk_div, nm_mod, xa_shr, xa_and7, xa_and1, xa_and255, xa_by_and, nI_m1, Nat.add_sub_cancel, Nat.reducePow, Nat.zero_add, Nat.add_zero, Nat.reduceAdd, Nat.reduceMul, Nat.reduceSub, xf_same, xq_ff, xq_fo, xf_1, xf_2, xs_1, xs_2, xs_same, xq_so, xj_1, xj_2, xj_same, xq_jo, xq_sa1, xq_same, xq_other, upd_s, oI_n, oI_s, xv_0, xv_1, xv_2, xv_3, xm_p1, xm_p2, xq_fp, xq_fn, List.filter_nil, Nat.reduceBEq, Bool.not_true, Bool.not_false, Bool.and_true, Bool.and_false, Bool.false_and, Bool.true_and, if_true, if_false, Bool.false_eq_true, reduceIte, xc_i, xc_j, xc_r, xc_n, List.nil_append, List.cons_append, Option.toList_some, Option.toList_none, hsh]
  refine xq_sw 169 (by decide) (by decide) ?_
  with_reducible refine xm_go_blk b_X0_testing_169 k_X0_testing_169 ?_
  refine by_aload_n rfl ?_
  refine by_bipush cb_7 ?_
  refine by_iload_n rfl ?_
  refine by_inv2 cn_34 lk_0_83 (by rw [xe_cnt]; decide) is_26 np_26 cn_26 (by first | exact rfl | assumption) (Nat.le_of_ble_eq_true rfl) ?_
  refine sp_pc (a := 0) hP ⟨by omega, by omega, by omega⟩ rfl (by omega) hJ (by omega) hF hI (fun h1 G1 c1 n1 F1 I1 e1 p1 => ?_)
  obtain ⟨f1, v1, s1⟩ := p1
  simp only [pS, pT, pSp, Nat.reducePow, hw] at v1 s1
  replace v1 := nG_cg v1 rfl rfl (fun x hx => li_f2 s1 x (by omega)) (qle_rf _)
  replace E := cE_tr E e1
  with_reducible refine xm_go_blk b_X0_testing_176 k_X0_testing_176 ?_
  refine by_iret ry_34 (by first | rfl | assumption) ?_
  refine hp _ _ _ _ F1 (cI_mono I1 (by omega) hm) E ⟨_, nG_cg v1 (by show _ = 2 * w; omega) (by show _ = w; omega) (fun _ _ => rfl) ?_, jsp_4 rfl ?_⟩
  · subst hw
    rcases (by omega : l = 3 ∨ l = 4 ∨ l = 5 ∨ l = 6) with rfl | rfl | rfl | rfl <;> decide
  · intro x y hx hy
    show List.zipWith and ((x ++ y).take w) ((x ++ y).drop w) = bbits w (bnum x &&& bnum y)
    rw [li_ka hx.symm, li_da hx.symm]
    exact bb_zip (o := fun a b => a &&& b) (fun a b i => Nat.testBit_and a b i) hx hy
theorem jd_25 {l : Nat} (h3 : 3 ≤ l) (hl : l < 7) : JdOK sc 25 l := by
  intro d c m h G post hP hd hF hI hm hp
  have hr' : (11 : Nat) = 11 := rfl
  have hJ : ∀ j ∈ ([] : List Nat), 11 ≤ pH j := fun j hj => absurd hj (by simp)
  have ho : oj 25 l = 0 := (by decide : ∀ l, l < 7 → 3 ≤ l → oj 25 l = 0) l hl h3
  rw [ho] at hm hp
  have hsh := pw_sh l hl
  have hw64 := pw_l7 hl
  have hwe := pw_ev h3
  unfold jPo gJ at hp
  show xm_T (XE sc) (d + 7) 34 _ h post
  obtain ⟨w, hw⟩ : ∃ w, 2 ^ l = w := ⟨_, rfl⟩
  rw [hw] at hsh hw64 hp hwe
  refine xq_in rfl ?_
  simp only [xq_a0, xq_aI, xq_aJ, xq_aR, Nat.reduceAdd]
  have E : cE h G c h G c := cE_rf
  with_reducible refine xm_go_blk b_X0_testing_0 k_X0_testing_0 ?_
  refine by_iconst ci_1 ?_
  refine by_iload_n rfl ?_
  refine by_ishl ?_
  refine by_istore_n (by rw [ml_34]; decide) ?_
  refine by_iload_n rfl ?_
  simp (disch := first | exact Nat.ne_of_beq_eq_false rfl | exact rfl | omega) only [nI_add, xa_sub, xa_mul, pk_div, nm_mod, xa_shr, xa_and7, xa_and1, xa_and255, xa_by_and, nI_m1, Nat.add_sub_cancel, Nat.reducePow, Nat.zero_add, Nat.add_zero, Nat.reduceAdd, Nat.reduceMul, Nat.reduceSub, xf_same, xq_ff, xq_fo, xf_1, xf_2, xs_1, xs_2, xs_same, xq_so, xj_1, xj_2, xj_same, xq_jo, xq_sa1, xq_same, xq_other, upd_s, oI_n, oI_s, hsh]
  refine by_sw ?_
  simp (disch := first | exact Nat.ne_of_beq_eq_false rfl | exact rfl | omega) only [nI_add, xa_sub, xa_mul, pk_div, nm_mod, xa_shr, xa_and7, xa_and1, xa_and255, xa_by_and, nI_m1, Nat.add_sub_cancel, Nat.reducePow, Nat.zero_add, Nat.add_zero, Nat.reduceAdd, Nat.reduceMul, Nat.reduceSub, xf_same, xq_ff, xq_fo, xf_1, xf_2, xs_1, xs_2, xs_same, xq_so, xj_1, xj_2, xj_same, xq_jo, xq_sa1, xq_same, xq_other, upd_s, oI_n, oI_s, xv_0, xv_1, xv_2, xv_3, xm_p1, xm_p2, xq_fp, xq_fn, List.filter_nil, Nat.reduceBEq, Bool.not_true, Bool.not_false, Bool.and_true, Bool.and_false, Bool.false_and, Bool.true_and, if_true, if_false, Bool.false_eq_true, reduceIte, xc_i, xc_j, xc_r, xc_n, List.nil_append, List.cons_append, Option.toList_some, Option.toList_none, hsh]
  refine xq_sw 177 (by decide) (by decide) ?_
  with_reducible refine xm_go_blk b_X0_testing_177 k_X0_testing_177 ?_
  refine by_aload_n rfl ?_
  refine by_bipush cb_8 ?_
  refine by_iload_n rfl ?_
  refine by_inv2 cn_34 lk_0_83 (by rw [xe_cnt]; decide) is_26 np_26 cn_26 (by first | exact rfl | assumption) (Nat.le_of_ble_eq_true rfl) ?_
  refine sp_pc (a := 0) hP ⟨by omega, by omega, by omega⟩ rfl (by omega) hJ (by omega) hF hI (fun h1 G1 c1 n1 F1 I1 e1 p1 => ?_)
  obtain ⟨f1, v1, s1⟩ := p1
  simp only [pS, pT, pSp, Nat.reducePow, hw] at v1 s1
  replace v1 := nG_cg v1 rfl rfl (fun x hx => li_f2 s1 x (by omega)) (qle_rf _)
  replace E := cE_tr E e1
  with_reducible refine xm_go_blk b_X0_testing_184 k_X0_testing_184 ?_
  refine by_iret ry_34 (by first | rfl | assumption) ?_
  refine hp _ _ _ _ F1 (cI_mono I1 (by omega) hm) E ⟨_, nG_cg v1 (by show _ = 2 * w; omega) (by show _ = w; omega) (fun _ _ => rfl) ?_, jsp_4 rfl ?_⟩
  · subst hw
    rcases (by omega : l = 3 ∨ l = 4 ∨ l = 5 ∨ l = 6) with rfl | rfl | rfl | rfl <;> decide
  · intro x y hx hy
    show List.zipWith or ((x ++ y).take w) ((x ++ y).drop w) = bbits w (bnum x ||| bnum y)
    rw [li_ka hx.symm, li_da hx.symm]
    exact bb_zip (o := fun a b => a ||| b) (fun a b i => Nat.testBit_or a b i) hx hy
theorem jd_26x {l : Nat} (h3 : 3 ≤ l) (hl : l < 7) : JdOK sc 26 l := by
  intro d c m h G post hP hd hF hI hm hp
  have hr' : (11 : Nat) = 11 := rfl
  have hJ : ∀ j ∈ ([] : List Nat), 11 ≤ pH j := fun j hj => absurd hj (by simp)
  have ho : oj 26 l = 0 := (by decide : ∀ l, l < 7 → 3 ≤ l → oj 26 l = 0) l hl h3
  rw [ho] at hm hp
  have hsh := pw_sh l hl
  have hw64 := pw_l7 hl
  have hwe := pw_ev h3
  unfold jPo gJ at hp
  show xm_T (XE sc) (d + 7) 34 _ h post
  obtain ⟨w, hw⟩ : ∃ w, 2 ^ l = w := ⟨_, rfl⟩
  rw [hw] at hsh hw64 hp hwe
  refine xq_in rfl ?_
  simp only [xq_a0, xq_aI, xq_aJ, xq_aR, Nat.reduceAdd]
  have E : cE h G c h G c := cE_rf
  with_reducible refine xm_go_blk b_X0_testing_0 k_X0_testing_0 ?_
  refine by_iconst ci_1 ?_
  refine by_iload_n rfl ?_
  refine by_ishl ?_
  refine by_istore_n (by rw [ml_34]; decide) ?_
  refine by_iload_n rfl ?_
  simp (disch := first | exact Nat.ne_of_beq_eq_false rfl | exact rfl | omega) only [nI_add, xa_sub, xa_mul, pk_div, nm_mod, xa_shr, xa_and7, xa_and1, xa_and255, xa_by_and, nI_m1, Nat.add_sub_cancel, Nat.reducePow, Nat.zero_add, Nat.add_zero, Nat.reduceAdd, Nat.reduceMul, Nat.reduceSub, xf_same, xq_ff, xq_fo, xf_1, xf_2, xs_1, xs_2, xs_same, xq_so, xj_1, xj_2, xj_same, xq_jo, xq_sa1, xq_same, xq_other, upd_s, oI_n, oI_s, hsh]
  refine by_sw ?_
  simp (disch := first | exact Nat.ne_of_beq_eq_false rfl | exact rfl | omega) only [nI_add, xa_sub, xa_mul, pk_div, nm_mod, xa_shr, xa_and7, xa_and1, xa_and255, xa_by_and, nI_m1, Nat.add_sub_cancel, Nat.reducePow, Nat.zero_add, Nat.add_zero, Nat.reduceAdd, Nat.reduceMul, Nat.reduceSub, xf_same, xq_ff, xq_fo, xf_1, xf_2, xs_1, xs_2, xs_same, xq_so, xj_1, xj_2, xj_same, xq_jo, xq_sa1, xq_same, xq_other, upd_s, oI_n, oI_s, xv_0, xv_1, xv_2, xv_3, xm_p1, xm_p2, xq_fp, xq_fn, List.filter_nil, Nat.reduceBEq, Bool.not_true, Bool.not_false, Bool.and_true, Bool.and_false, Bool.false_and, Bool.true_and, if_true, if_false, Bool.false_eq_true, reduceIte, xc_i, xc_j, xc_r, xc_n, List.nil_append, List.cons_append, Option.toList_some, Option.toList_none, hsh]
  refine xq_sw 185 (by decide) (by decide) ?_
  with_reducible refine xm_go_blk b_X0_testing_185 k_X0_testing_185 ?_
  refine by_aload_n rfl ?_
  refine by_bipush cb_9 ?_
  refine by_iload_n rfl ?_
  refine by_inv2 cn_34 lk_0_83 (by rw [xe_cnt]; decide) is_26 np_26 cn_26 (by first | exact rfl | assumption) (Nat.le_of_ble_eq_true rfl) ?_
  refine sp_pc (a := 1) hP ⟨by omega, by omega, by omega⟩ rfl (by omega) hJ (by omega) hF hI (fun h1 G1 c1 n1 F1 I1 e1 p1 => ?_)
  obtain ⟨f1, v1, s1⟩ := p1
  simp only [pS, pT, pSp, Nat.reducePow, hw] at v1 s1
  replace v1 := nG_cg v1 rfl rfl (fun x hx => li_f2 s1 x (by omega)) (qle_rf _)
  replace E := cE_tr E e1
  with_reducible refine xm_go_blk b_X0_testing_192 k_X0_testing_192 ?_
  refine by_iret ry_34 (by first | rfl | assumption) ?_
  refine hp _ _ _ _ F1 (cI_mono I1 (by omega) hm) E ⟨_, nG_cg v1 (by show _ = 2 * w; omega) (by show _ = w; omega) (fun _ _ => rfl) ?_, jsp_4 rfl ?_⟩
  · subst hw
    rcases (by omega : l = 3 ∨ l = 4 ∨ l = 5 ∨ l = 6) with rfl | rfl | rfl | rfl <;> decide
  · intro x y hx hy
    show List.zipWith xor ((x ++ y).take w) ((x ++ y).drop w) = bbits w (bnum x ^^^ bnum y)
    rw [li_ka hx.symm, li_da hx.symm]
    exact bb_zip (o := fun a b => a ^^^ b) (fun a b i => Nat.testBit_xor a b i) hx hy
theorem jd_27 {l : Nat} (h3 : 3 ≤ l) (hl : l < 7) : JdOK sc 27 l := by
  intro d c m h G post hP hd hF hI hm hp
  have hr' : (11 : Nat) = 11 := rfl
  have hJ : ∀ j ∈ ([] : List Nat), 11 ≤ pH j := fun j hj => absurd hj (by simp)
  have ho : oj 27 l = 0 := (by decide : ∀ l, l < 7 → 3 ≤ l → oj 27 l = 0) l hl h3
  rw [ho] at hm hp
  have hsh := pw_sh l hl
  have hw64 := pw_l7 hl
  have hwe := pw_ev h3
  unfold jPo gJ at hp
  show xm_T (XE sc) (d + 7) 34 _ h post
  obtain ⟨w, hw⟩ : ∃ w, 2 ^ l = w := ⟨_, rfl⟩
  rw [hw] at hsh hw64 hp hwe
  refine xq_in rfl ?_
  simp only [xq_a0, xq_aI, xq_aJ, xq_aR, Nat.reduceAdd]
  have E : cE h G c h G c := cE_rf
  with_reducible refine xm_go_blk b_X0_testing_0 k_X0_testing_0 ?_
  refine by_iconst ci_1 ?_
  refine by_iload_n rfl ?_
  refine by_ishl ?_
  refine by_istore_n (by rw [ml_34]; decide) ?_
  refine by_iload_n rfl ?_
  simp (disch := first | exact Nat.ne_of_beq_eq_false rfl | exact rfl | omega) only [nI_add, xa_sub, xa_mul, pk_div, nm_mod, xa_shr, xa_and7, xa_and1, xa_and255, xa_by_and, nI_m1, Nat.add_sub_cancel, Nat.reducePow, Nat.zero_add, Nat.add_zero, Nat.reduceAdd, Nat.reduceMul, Nat.reduceSub, xf_same, xq_ff, xq_fo, xf_1, xf_2, xs_1, xs_2, xs_same, xq_so, xj_1, xj_2, xj_same, xq_jo, xq_sa1, xq_same, xq_other, upd_s, oI_n, oI_s, hsh]
  refine by_sw ?_
  simp (disch := first | exact Nat.ne_of_beq_eq_false rfl | exact rfl | omega) only [nI_add, xa_sub, xa_mul, pk_div, nm_mod, xa_shr, xa_and7, xa_and1, xa_and255, xa_by_and, nI_m1, Nat.add_sub_cancel, Nat.reducePow, Nat.zero_add, Nat.add_zero, Nat.reduceAdd, Nat.reduceMul, Nat.reduceSub, xf_same, xq_ff, xq_fo, xf_1, xf_2, xs_1, xs_2, xs_same, xq_so, xj_1, xj_2, xj_same, xq_jo, xq_sa1, xq_same, xq_other, upd_s, oI_n, oI_s, xv_0, xv_1, xv_2, xv_3, xm_p1, xm_p2, xq_fp, xq_fn, List.filter_nil, Nat.reduceBEq, Bool.not_true, Bool.not_false, Bool.and_true, Bool.and_false, Bool.false_and, Bool.true_and, if_true, if_false, Bool.false_eq_true, reduceIte, xc_i, xc_j, xc_r, xc_n, List.nil_append, List.cons_append, Option.toList_some, Option.toList_none, hsh]
  refine xq_sw 193 (by decide) (by decide) ?_
  with_reducible refine xm_go_blk b_X0_testing_193 k_X0_testing_193 ?_
  refine by_aload_n rfl ?_
  refine by_bipush cb_10 ?_
  refine by_iload_n rfl ?_
  refine by_inv2 cn_34 lk_0_83 (by rw [xe_cnt]; decide) is_26 np_26 cn_26 (by first | exact rfl | assumption) (Nat.le_of_ble_eq_true rfl) ?_
  refine sp_pc (a := 2) hP ⟨by omega, by omega, by omega⟩ rfl (by omega) hJ (by omega) hF hI (fun h1 G1 c1 n1 F1 I1 e1 p1 => ?_)
  obtain ⟨f1, v1, s1⟩ := p1
  simp only [pS, pT, pSp, Nat.reducePow, hw] at v1 s1
  replace E := cE_tr E e1
  with_reducible refine xm_go_blk b_X0_testing_200 k_X0_testing_200 ?_
  refine by_iret ry_34 (by first | rfl | assumption) ?_
  refine hp _ _ _ _ F1 (cI_mono I1 (by omega) hm) E ⟨_, nG_cg v1 (by show _ = 3 * w; omega) (by show _ = w; omega) (fun _ _ => rfl) ?_, jsp_9 rfl ?_⟩
  · subst hw
    rcases (by omega : l = 3 ∨ l = 4 ∨ l = 5 ∨ l = 6) with rfl | rfl | rfl | rfl <;> decide
  · intro x y z hx hy hz
    show f1 (x ++ (y ++ z)) = bbits w (bnum x ^^^ bnum y ^^^ bnum z)
    rw [s1 x y z hx hy hz]
    exact bb_zip3 (o := fun a b c => a ^^^ b ^^^ c) (fun a b c i _ => by simp only [Nat.testBit_xor]) hx hy hz
theorem jd_28 {l : Nat} (h3 : 3 ≤ l) (hl : l < 7) : JdOK sc 28 l := by
  intro d c m h G post hP hd hF hI hm hp
  have hr' : (11 : Nat) = 11 := rfl
  have hJ : ∀ j ∈ ([] : List Nat), 11 ≤ pH j := fun j hj => absurd hj (by simp)
  have ho : oj 28 l = 0 := (by decide : ∀ l, l < 7 → 3 ≤ l → oj 28 l = 0) l hl h3
  rw [ho] at hm hp
  have hsh := pw_sh l hl
  have hw64 := pw_l7 hl
  have hwe := pw_ev h3
  unfold jPo gJ at hp
  show xm_T (XE sc) (d + 7) 34 _ h post
  obtain ⟨w, hw⟩ : ∃ w, 2 ^ l = w := ⟨_, rfl⟩
  rw [hw] at hsh hw64 hp hwe
  refine xq_in rfl ?_
  simp only [xq_a0, xq_aI, xq_aJ, xq_aR, Nat.reduceAdd]
  have E : cE h G c h G c := cE_rf
  with_reducible refine xm_go_blk b_X0_testing_0 k_X0_testing_0 ?_
  refine by_iconst ci_1 ?_
  refine by_iload_n rfl ?_
  refine by_ishl ?_
  refine by_istore_n (by rw [ml_34]; decide) ?_
  refine by_iload_n rfl ?_
  simp (disch := first | exact Nat.ne_of_beq_eq_false rfl | exact rfl | omega) only [nI_add, xa_sub, xa_mul, pk_div, nm_mod, xa_shr, xa_and7, xa_and1, xa_and255, xa_by_and, nI_m1, Nat.add_sub_cancel, Nat.reducePow, Nat.zero_add, Nat.add_zero, Nat.reduceAdd, Nat.reduceMul, Nat.reduceSub, xf_same, xq_ff, xq_fo, xf_1, xf_2, xs_1, xs_2, xs_same, xq_so, xj_1, xj_2, xj_same, xq_jo, xq_sa1, xq_same, xq_other, upd_s, oI_n, oI_s, hsh]
  refine by_sw ?_
  simp (disch := first | exact Nat.ne_of_beq_eq_false rfl | exact rfl | omega) only [nI_add, xa_sub, xa_mul, pk_div, nm_mod, xa_shr, xa_and7, xa_and1, xa_and255, xa_by_and, nI_m1, Nat.add_sub_cancel, Nat.reducePow, Nat.zero_add, Nat.add_zero, Nat.reduceAdd, Nat.reduceMul, Nat.reduceSub, xf_same, xq_ff, xq_fo, xf_1, xf_2, xs_1, xs_2, xs_same, xq_so, xj_1, xj_2, xj_same, xq_jo, xq_sa1, xq_same, xq_other, upd_s, oI_n, oI_s, xv_0, xv_1, xv_2, xv_3, xm_p1, xm_p2, xq_fp, xq_fn, List.filter_nil, Nat.reduceBEq, Bool.not_true, Bool.not_false, Bool.and_true, Bool.and_false, Bool.false_and, Bool.true_and, if_true, if_false, Bool.false_eq_true, reduceIte, xc_i, xc_j, xc_r, xc_n, List.nil_append, List.cons_append, Option.toList_some, Option.toList_none, hsh]
  refine xq_sw 201 (by decide) (by decide) ?_
  with_reducible refine xm_go_blk b_X0_testing_201 k_X0_testing_201 ?_
  refine by_aload_n rfl ?_
  refine by_bipush cb_11 ?_
  refine by_iload_n rfl ?_
  refine by_inv2 cn_34 lk_0_83 (by rw [xe_cnt]; decide) is_26 np_26 cn_26 (by first | exact rfl | assumption) (Nat.le_of_ble_eq_true rfl) ?_
  refine sp_pc (a := 1) hP ⟨by omega, by omega, by omega⟩ rfl (by omega) hJ (by omega) hF hI (fun h1 G1 c1 n1 F1 I1 e1 p1 => ?_)
  obtain ⟨f1, v1, s1⟩ := p1
  simp only [pS, pT, pSp, Nat.reducePow, hw] at v1 s1
  replace E := cE_tr E e1
  with_reducible refine xm_go_blk b_X0_testing_208 k_X0_testing_208 ?_
  refine by_iret ry_34 (by first | rfl | assumption) ?_
  refine hp _ _ _ _ F1 (cI_mono I1 (by omega) hm) E ⟨_, nG_cg v1 (by show _ = 3 * w; omega) (by show _ = w; omega) (fun _ _ => rfl) ?_, jsp_9 rfl ?_⟩
  · subst hw
    rcases (by omega : l = 3 ∨ l = 4 ∨ l = 5 ∨ l = 6) with rfl | rfl | rfl | rfl <;> decide
  · intro x y z hx hy hz
    show f1 (x ++ (y ++ z)) = bbits w (bnum x &&& bnum y ||| bnum x &&& bnum z ||| bnum y &&& bnum z)
    rw [s1 x y z hx hy hz]
    exact bb_zip3 (o := fun a b c => a &&& b ||| a &&& c ||| b &&& c) (fun a b c i _ => by simp only [Nat.testBit_or, Nat.testBit_and]) hx hy hz
theorem jd_29 {l : Nat} (h3 : 3 ≤ l) (hl : l < 7) : JdOK sc 29 l := by
  intro d c m h G post hP hd hF hI hm hp
  have hr' : (11 : Nat) = 11 := rfl
  have hJ : ∀ j ∈ ([] : List Nat), 11 ≤ pH j := fun j hj => absurd hj (by simp)
  have ho : oj 29 l = 0 := (by decide : ∀ l, l < 7 → 3 ≤ l → oj 29 l = 0) l hl h3
  rw [ho] at hm hp
  have hsh := pw_sh l hl
  have hw64 := pw_l7 hl
  have hwe := pw_ev h3
  unfold jPo gJ at hp
  show xm_T (XE sc) (d + 7) 34 _ h post
  obtain ⟨w, hw⟩ : ∃ w, 2 ^ l = w := ⟨_, rfl⟩
  rw [hw] at hsh hw64 hp hwe
  refine xq_in rfl ?_
  simp only [xq_a0, xq_aI, xq_aJ, xq_aR, Nat.reduceAdd]
  have E : cE h G c h G c := cE_rf
  with_reducible refine xm_go_blk b_X0_testing_0 k_X0_testing_0 ?_
  refine by_iconst ci_1 ?_
  refine by_iload_n rfl ?_
  refine by_ishl ?_
  refine by_istore_n (by rw [ml_34]; decide) ?_
  refine by_iload_n rfl ?_
  simp (disch := first | exact Nat.ne_of_beq_eq_false rfl | exact rfl | omega) only [nI_add, xa_sub, xa_mul, pk_div, nm_mod, xa_shr, xa_and7, xa_and1, xa_and255, xa_by_and, nI_m1, Nat.add_sub_cancel, Nat.reducePow, Nat.zero_add, Nat.add_zero, Nat.reduceAdd, Nat.reduceMul, Nat.reduceSub, xf_same, xq_ff, xq_fo, xf_1, xf_2, xs_1, xs_2, xs_same, xq_so, xj_1, xj_2, xj_same, xq_jo, xq_sa1, xq_same, xq_other, upd_s, oI_n, oI_s, hsh]
  refine by_sw ?_
  simp (disch := first | exact Nat.ne_of_beq_eq_false rfl | exact rfl | omega) only [nI_add, xa_sub, xa_mul, pk_div, nm_mod, xa_shr, xa_and7, xa_and1, xa_and255, xa_by_and, nI_m1, Nat.add_sub_cancel, Nat.reducePow, Nat.zero_add, Nat.add_zero, Nat.reduceAdd, Nat.reduceMul, Nat.reduceSub, xf_same, xq_ff, xq_fo, xf_1, xf_2, xs_1, xs_2, xs_same, xq_so, xj_1, xj_2, xj_same, xq_jo, xq_sa1, xq_same, xq_other, upd_s, oI_n, oI_s, xv_0, xv_1, xv_2, xv_3, xm_p1, xm_p2, xq_fp, xq_fn, List.filter_nil, Nat.reduceBEq, Bool.not_true, Bool.not_false, Bool.and_true, Bool.and_false, Bool.false_and, Bool.true_and, if_true, if_false, Bool.false_eq_true, reduceIte, xc_i, xc_j, xc_r, xc_n, List.nil_append, List.cons_append, Option.toList_some, Option.toList_none, hsh]
  refine xq_sw 209 (by decide) (by decide) ?_
  with_reducible refine xm_go_blk b_X0_testing_209 k_X0_testing_209 ?_
  refine by_aload_n rfl ?_
  refine by_bipush cb_12 ?_
  refine by_iload_n rfl ?_
  refine by_inv2 cn_34 lk_0_83 (by rw [xe_cnt]; decide) is_26 np_26 cn_26 (by first | exact rfl | assumption) (Nat.le_of_ble_eq_true rfl) ?_
  refine sp_pc (a := 0) hP ⟨by omega, by omega, by omega⟩ rfl (by omega) hJ (by omega) hF hI (fun h1 G1 c1 n1 F1 I1 e1 p1 => ?_)
  obtain ⟨f1, v1, s1⟩ := p1
  simp only [pS, pT, pSp, Nat.reducePow, hw] at v1 s1
  replace E := cE_tr E e1
  with_reducible refine xm_go_blk b_X0_testing_216 k_X0_testing_216 ?_
  refine by_iret ry_34 (by first | rfl | assumption) ?_
  refine hp _ _ _ _ F1 (cI_mono I1 (by omega) hm) E ⟨_, nG_cg v1 (by show _ = 3 * w; omega) (by show _ = w; omega) (fun _ _ => rfl) ?_, jsp_9 rfl ?_⟩
  · subst hw
    rcases (by omega : l = 3 ∨ l = 4 ∨ l = 5 ∨ l = 6) with rfl | rfl | rfl | rfl <;> decide
  · intro x y z hx hy hz
    show f1 (x ++ (y ++ z)) = bbits w (bnum x &&& bnum y ||| (bnum x ^^^ (2 ^ w - 1)) &&& bnum z)
    rw [s1 x y z hx hy hz]
    refine bb_zip3 (o := fun a b c => a &&& b ||| (a ^^^ (2 ^ w - 1)) &&& c) (fun a b c i hi => ?_) hx hy hz
    simp only [Nat.testBit_or, Nat.testBit_and, Nat.testBit_xor, Nat.testBit_two_pow_sub_one, decide_eq_true hi]
    cases a.testBit i <;> cases b.testBit i <;> cases c.testBit i <;> rfl
theorem jd_30 {l : Nat} (h3 : 3 ≤ l) (hl : l < 7) : JdOK sc 30 l := by
  intro d c m h G post hP hd hF hI hm hp
  have hr' : (11 : Nat) = 11 := rfl
  have hJ : ∀ j ∈ ([] : List Nat), 11 ≤ pH j := fun j hj => absurd hj (by simp)
  have ho : oj 30 l = 0 := (by decide : ∀ l, l < 7 → 3 ≤ l → oj 30 l = 0) l hl h3
  rw [ho] at hm hp
  have hsh := pw_sh l hl
  have hw64 := pw_l7 hl
  have hwe := pw_ev h3
  unfold jPo gJ at hp
  show xm_T (XE sc) (d + 7) 34 _ h post
  obtain ⟨w, hw⟩ : ∃ w, 2 ^ l = w := ⟨_, rfl⟩
  rw [hw] at hsh hw64 hp hwe
  refine xq_in rfl ?_
  simp only [xq_a0, xq_aI, xq_aJ, xq_aR, Nat.reduceAdd]
  have E : cE h G c h G c := cE_rf
  with_reducible refine xm_go_blk b_X0_testing_0 k_X0_testing_0 ?_
  refine by_iconst ci_1 ?_
  refine by_iload_n rfl ?_
  refine by_ishl ?_
  refine by_istore_n (by rw [ml_34]; decide) ?_
  refine by_iload_n rfl ?_
  simp (disch := first | exact Nat.ne_of_beq_eq_false rfl | exact rfl | omega) only [nI_add, xa_sub, xa_mul, pk_div, nm_mod, xa_shr, xa_and7, xa_and1, xa_and255, xa_by_and, nI_m1, Nat.add_sub_cancel, Nat.reducePow, Nat.zero_add, Nat.add_zero, Nat.reduceAdd, Nat.reduceMul, Nat.reduceSub, xf_same, xq_ff, xq_fo, xf_1, xf_2, xs_1, xs_2, xs_same, xq_so, xj_1, xj_2, xj_same, xq_jo, xq_sa1, xq_same, xq_other, upd_s, oI_n, oI_s, hsh]
  refine by_sw ?_
  simp (disch := first | exact Nat.ne_of_beq_eq_false rfl | exact rfl | omega) only [nI_add, xa_sub, xa_mul, pk_div, nm_mod, xa_shr, xa_and7, xa_and1, xa_and255, xa_by_and, nI_m1, Nat.add_sub_cancel, Nat.reducePow, Nat.zero_add, Nat.add_zero, Nat.reduceAdd, Nat.reduceMul, Nat.reduceSub, xf_same, xq_ff, xq_fo, xf_1, xf_2, xs_1, xs_2, xs_same, xq_so, xj_1, xj_2, xj_same, xq_jo, xq_sa1, xq_same, xq_other, upd_s, oI_n, oI_s, xv_0, xv_1, xv_2, xv_3, xm_p1, xm_p2, xq_fp, xq_fn, List.filter_nil, Nat.reduceBEq, Bool.not_true, Bool.not_false, Bool.and_true, Bool.and_false, Bool.false_and, Bool.true_and, if_true, if_false, Bool.false_eq_true, reduceIte, xc_i, xc_j, xc_r, xc_n, List.nil_append, List.cons_append, Option.toList_some, Option.toList_none, hsh]
  refine xq_sw 217 (by decide) (by decide) ?_
  with_reducible refine xm_go_blk b_X0_testing_217 k_X0_testing_217 ?_
  refine by_aload_n rfl ?_
  refine by_bipush cb_13 ?_
  refine by_iload_n rfl ?_
  refine by_inv2 cn_34 lk_0_83 (by rw [xe_cnt]; decide) is_26 np_26 cn_26 (by first | exact rfl | assumption) (Nat.le_of_ble_eq_true rfl) ?_
  refine sp_pc (a := 0) hP ⟨by omega, by omega, by omega⟩ rfl (by omega) hJ (by omega) hF hI (fun h1 G1 c1 n1 F1 I1 e1 p1 => ?_)
  obtain ⟨f1, v1, s1⟩ := p1
  simp only [pS, pT, pSp, Nat.reducePow, hw] at v1 s1
  replace E := cE_tr E e1
  with_reducible refine xm_go_blk b_X0_testing_224 k_X0_testing_224 ?_
  refine by_iret ry_34 (by first | rfl | assumption) ?_
  refine hp _ _ _ _ F1 (cI_mono I1 (by omega) hm) E ⟨_, nG_cg v1 (by show _ = 0; omega) (by show _ = w; omega) (fun _ _ => rfl) ?_, jsp_0 rfl ?_⟩
  · subst hw
    rcases (by omega : l = 3 ∨ l = 4 ∨ l = 5 ∨ l = 6) with rfl | rfl | rfl | rfl <;> decide
  · show f1 [] = bbits w 0
    rw [s1, bb_0]
theorem jd_31 {l : Nat} (h3 : 3 ≤ l) (hl : l < 7) : JdOK sc 31 l := by
  intro d c m h G post hP hd hF hI hm hp
  have hr' : (11 : Nat) = 11 := rfl
  have hJ : ∀ j ∈ ([] : List Nat), 11 ≤ pH j := fun j hj => absurd hj (by simp)
  have ho : oj 31 l = 0 := (by decide : ∀ l, l < 7 → 3 ≤ l → oj 31 l = 0) l hl h3
  rw [ho] at hm hp
  have hsh := pw_sh l hl
  have hw64 := pw_l7 hl
  have hwe := pw_ev h3
  unfold jPo gJ at hp
  show xm_T (XE sc) (d + 7) 34 _ h post
  obtain ⟨w, hw⟩ : ∃ w, 2 ^ l = w := ⟨_, rfl⟩
  rw [hw] at hsh hw64 hp hwe
  refine xq_in rfl ?_
  simp only [xq_a0, xq_aI, xq_aJ, xq_aR, Nat.reduceAdd]
  have E : cE h G c h G c := cE_rf
  with_reducible refine xm_go_blk b_X0_testing_0 k_X0_testing_0 ?_
  refine by_iconst ci_1 ?_
  refine by_iload_n rfl ?_
  refine by_ishl ?_
  refine by_istore_n (by rw [ml_34]; decide) ?_
  refine by_iload_n rfl ?_
  simp (disch := first | exact Nat.ne_of_beq_eq_false rfl | exact rfl | omega) only [nI_add, xa_sub, xa_mul, pk_div, nm_mod, xa_shr, xa_and7, xa_and1, xa_and255, xa_by_and, nI_m1, Nat.add_sub_cancel, Nat.reducePow, Nat.zero_add, Nat.add_zero, Nat.reduceAdd, Nat.reduceMul, Nat.reduceSub, xf_same, xq_ff, xq_fo, xf_1, xf_2, xs_1, xs_2, xs_same, xq_so, xj_1, xj_2, xj_same, xq_jo, xq_sa1, xq_same, xq_other, upd_s, oI_n, oI_s, hsh]
  refine by_sw ?_
  simp (disch := first | exact Nat.ne_of_beq_eq_false rfl | exact rfl | omega) only [nI_add, xa_sub, xa_mul, pk_div, nm_mod, xa_shr, xa_and7, xa_and1, xa_and255, xa_by_and, nI_m1, Nat.add_sub_cancel, Nat.reducePow, Nat.zero_add, Nat.add_zero, Nat.reduceAdd, Nat.reduceMul, Nat.reduceSub, xf_same, xq_ff, xq_fo, xf_1, xf_2, xs_1, xs_2, xs_same, xq_so, xj_1, xj_2, xj_same, xq_jo, xq_sa1, xq_same, xq_other, upd_s, oI_n, oI_s, xv_0, xv_1, xv_2, xv_3, xm_p1, xm_p2, xq_fp, xq_fn, List.filter_nil, Nat.reduceBEq, Bool.not_true, Bool.not_false, Bool.and_true, Bool.and_false, Bool.false_and, Bool.true_and, if_true, if_false, Bool.false_eq_true, reduceIte, xc_i, xc_j, xc_r, xc_n, List.nil_append, List.cons_append, Option.toList_some, Option.toList_none, hsh]
  refine xq_sw 225 (by decide) (by decide) ?_
  with_reducible refine xm_go_blk b_X0_testing_225 k_X0_testing_225 ?_
  refine by_aload_n rfl ?_
  refine by_bipush cb_14 ?_
  refine by_iload_n rfl ?_
  refine by_inv2 cn_34 lk_0_83 (by rw [xe_cnt]; decide) is_26 np_26 cn_26 (by first | exact rfl | assumption) (Nat.le_of_ble_eq_true rfl) ?_
  refine sp_pc (a := 0) hP ⟨by omega, by omega, by omega⟩ rfl (by omega) hJ (by omega) hF hI (fun h1 G1 c1 n1 F1 I1 e1 p1 => ?_)
  obtain ⟨f1, v1, s1⟩ := p1
  simp only [pS, pT, pSp, Nat.reducePow, hw] at v1 s1
  replace E := cE_tr E e1
  with_reducible refine xm_go_blk b_X0_testing_232 k_X0_testing_232 ?_
  refine by_iret ry_34 (by first | rfl | assumption) ?_
  refine hp _ _ _ _ F1 (cI_mono I1 (by omega) hm) E ⟨_, nG_cg v1 (by show _ = 0; omega) (by show _ = w; omega) (fun _ _ => rfl) ?_, jsp_0 rfl ?_⟩
  · subst hw
    rcases (by omega : l = 3 ∨ l = 4 ∨ l = 5 ∨ l = 6) with rfl | rfl | rfl | rfl <;> decide
  · show f1 [] = bbits w (2 ^ w - 1)
    rw [s1]
    refine bb_self (by simp) ?_
    have := bn_all (List.replicate w true)
    rw [List.length_replicate, show (List.replicate w true).all id = true by simp] at this
    exact of_decide_eq_true this.symm
end CD
