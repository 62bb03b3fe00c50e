/-! ===== definitions of jets: those that move ===== -/
section CD
variable {sc : xm_Sc}
theorem jd_36 {l : Nat} (h3 : 3 ≤ l) (hl : l < 7) : JdOK sc 36 l := by
  intro d c m h G post hP hd hF hI hm hp
  have hr' : (11 : Nat) = 11 := rfl
  have hJ : ∀ j ∈ ([] : List Nat), 11 ≤ pH j := fun j hj => absurd hj (by simp)
  have ho : oj 36 l = 0 := (by decide : ∀ l, l < 7 → 3 ≤ l → oj 36 l = 0) l hl h3
  rw [ho] at hm hp
  have hsh := pw_sh l hl
  have hw64 := pw_l7 hl
  have hwe := pw_ev h3
  unfold jPo gJ at hp
  show xm_T (XE sc) (d + 7) 24 _ h post
  obtain ⟨w, hw⟩ : ∃ w, 2 ^ l = w := ⟨_, rfl⟩
  rw [hw] at hsh hw64 hp hwe
  have hwl : 2 ^ (l - 1) = w / 2 := by omega
  refine xq_in rfl ?_
  simp only [xq_a0, xq_aI, xq_aJ, xq_aR, Nat.reduceAdd]
  have E : cE h G c h G c := cE_rf
  with_reducible refine xm_go_blk b_X0_moving_0 k_X0_moving_0 ?_
  refine by_iconst ci_1 ?_
  refine by_iload_n rfl ?_
  refine by_ishl ?_
  refine by_istore_n (by rw [ml_24]; decide) ?_
  refine by_iload_n rfl ?_
  simp (disch := first | exact Nat.ne_of_beq_eq_false rfl | exact rfl | omega) only [nI_add, xa_sub, xa_mul, pk_div, nm_mod, xa_shr, xa_and7, xa_and1, xa_and255, xa_by_and, nI_m1, Nat.add_sub_cancel, Nat.reducePow, Nat.zero_add, Nat.add_zero, Nat.reduceAdd, Nat.reduceMul, Nat.reduceSub, xf_same, xq_ff, xq_fo, xf_1, xf_2, xs_1, xs_2, xs_same, xq_so, xj_1, xj_2, xj_same, xq_jo, xq_sa1, xq_same, xq_other, upd_s, oI_n, oI_s, hsh]
  refine by_sw ?_
  simp (disch := first | exact Nat.ne_of_beq_eq_false rfl | exact rfl | omega) only [nI_add, xa_sub, xa_mul, pk_div, nm_mod, xa_shr, xa_and7, xa_and1, xa_and255, xa_by_and, nI_m1, Nat.add_sub_cancel, Nat.reducePow, Nat.zero_add, Nat.add_zero, Nat.reduceAdd, Nat.reduceMul, Nat.reduceSub, xf_same, xq_ff, xq_fo, xf_1, xf_2, xs_1, xs_2, xs_same, xq_so, xj_1, xj_2, xj_same, xq_jo, xq_sa1, xq_same, xq_other, upd_s, oI_n, oI_s, xv_0, xv_1, xv_2, xv_3, xm_p1, xm_p2, xq_fp, xq_fn, List.filter_nil, Nat.reduceBEq, Bool.not_true, Bool.not_false, Bool.and_true, Bool.and_false, Bool.false_and, Bool.true_and, if_true, if_false, Bool.false_eq_true, reduceIte, xc_i, xc_j, xc_r, xc_n, List.nil_append, List.cons_append, Option.toList_some, Option.toList_none, hsh]
  refine xq_sw 40 (by decide) (by decide) ?_
  with_reducible refine xm_go_blk b_X0_moving_40 k_X0_moving_40 ?_
  refine by_aload_n rfl ?_
  refine by_bipush cb_16 ?_
  refine by_iload_n rfl ?_
  refine by_inv2 cn_24 lk_0_83 (by rw [xe_cnt]; decide) is_26 np_26 cn_26 (by first | exact rfl | assumption) (Nat.le_of_ble_eq_true rfl) ?_
  refine sp_pc (a := 4) hP ⟨by omega, by omega, by omega⟩ rfl (by omega) hJ (by omega) hF hI (fun h1 G1 c1 n1 F1 I1 e1 p1 => ?_)
  obtain ⟨f1, v1, s1⟩ := p1
  simp only [pS, pT, pSp, Nat.reducePow, hw] at v1 s1
  replace E := cE_tr E e1
  with_reducible refine xm_go_blk b_X0_moving_47 k_X0_moving_47 ?_
  refine by_iret ry_24 (by first | rfl | assumption) ?_
  refine hp _ _ _ _ F1 (cI_mono I1 (by omega) hm) E ⟨_, nG_cg v1 (by show _ = w; omega) (by show _ = 8; omega) (fun _ _ => rfl) ?_, jsp_3 rfl ?_⟩
  · subst hw
    rcases (by omega : l = 3 ∨ l = 4 ∨ l = 5 ∨ l = 6) with rfl | rfl | rfl | rfl <;> decide
  · intro x hx
    show f1 x = bbits 8 (jPop (bnum x) w)
    rw [s1 x hx, bn_pop, hx]
theorem jd_37 {l : Nat} (h3 : 3 ≤ l) (hl : l < 7) : JdOK sc 37 l := by
  intro d c m h G post hP hd hF hI hm hp
  have hr' : (11 : Nat) = 11 := rfl
  have hJ : ∀ j ∈ ([] : List Nat), 11 ≤ pH j := fun j hj => absurd hj (by simp)
  have ho : oj 37 l = 0 := (by decide : ∀ l, l < 7 → 3 ≤ l → oj 37 l = 0) l hl h3
  rw [ho] at hm hp
  have hsh := pw_sh l hl
  have hw64 := pw_l7 hl
  have hwe := pw_ev h3
  unfold jPo gJ at hp
  show xm_T (XE sc) (d + 7) 24 _ h post
  obtain ⟨w, hw⟩ : ∃ w, 2 ^ l = w := ⟨_, rfl⟩
  rw [hw] at hsh hw64 hp hwe
  have hwl : 2 ^ (l - 1) = w / 2 := by omega
  refine xq_in rfl ?_
  simp only [xq_a0, xq_aI, xq_aJ, xq_aR, Nat.reduceAdd]
  have E : cE h G c h G c := cE_rf
  with_reducible refine xm_go_blk b_X0_moving_0 k_X0_moving_0 ?_
  refine by_iconst ci_1 ?_
  refine by_iload_n rfl ?_
  refine by_ishl ?_
  refine by_istore_n (by rw [ml_24]; decide) ?_
  refine by_iload_n rfl ?_
  simp (disch := first | exact Nat.ne_of_beq_eq_false rfl | exact rfl | omega) only [nI_add, xa_sub, xa_mul, pk_div, nm_mod, xa_shr, xa_and7, xa_and1, xa_and255, xa_by_and, nI_m1, Nat.add_sub_cancel, Nat.reducePow, Nat.zero_add, Nat.add_zero, Nat.reduceAdd, Nat.reduceMul, Nat.reduceSub, xf_same, xq_ff, xq_fo, xf_1, xf_2, xs_1, xs_2, xs_same, xq_so, xj_1, xj_2, xj_same, xq_jo, xq_sa1, xq_same, xq_other, upd_s, oI_n, oI_s, hsh]
  refine by_sw ?_
  simp (disch := first | exact Nat.ne_of_beq_eq_false rfl | exact rfl | omega) only [nI_add, xa_sub, xa_mul, pk_div, nm_mod, xa_shr, xa_and7, xa_and1, xa_and255, xa_by_and, nI_m1, Nat.add_sub_cancel, Nat.reducePow, Nat.zero_add, Nat.add_zero, Nat.reduceAdd, Nat.reduceMul, Nat.reduceSub, xf_same, xq_ff, xq_fo, xf_1, xf_2, xs_1, xs_2, xs_same, xq_so, xj_1, xj_2, xj_same, xq_jo, xq_sa1, xq_same, xq_other, upd_s, oI_n, oI_s, xv_0, xv_1, xv_2, xv_3, xm_p1, xm_p2, xq_fp, xq_fn, List.filter_nil, Nat.reduceBEq, Bool.not_true, Bool.not_false, Bool.and_true, Bool.and_false, Bool.false_and, Bool.true_and, if_true, if_false, Bool.false_eq_true, reduceIte, xc_i, xc_j, xc_r, xc_n, List.nil_append, List.cons_append, Option.toList_some, Option.toList_none, hsh]
  refine xq_sw 48 (by decide) (by decide) ?_
  with_reducible refine xm_go_blk b_X0_moving_48 k_X0_moving_48 ?_
  refine by_aload_n rfl ?_
  refine by_bipush cb_17 ?_
  refine by_iload_n rfl ?_
  refine by_inv2 cn_24 lk_0_83 (by rw [xe_cnt]; decide) is_26 np_26 cn_26 (by first | exact rfl | assumption) (Nat.le_of_ble_eq_true rfl) ?_
  refine sp_pc (a := 4) hP ⟨by omega, by omega, by omega⟩ rfl (by omega) hJ (by omega) hF hI (fun h1 G1 c1 n1 F1 I1 e1 p1 => ?_)
  obtain ⟨f1, v1, s1⟩ := p1
  simp only [pS, pT, pSp, Nat.reducePow, hw] at v1 s1
  replace E := cE_tr E e1
  with_reducible refine xm_go_blk b_X0_moving_55 k_X0_moving_55 ?_
  refine by_iret ry_24 (by first | rfl | assumption) ?_
  refine hp _ _ _ _ F1 (cI_mono I1 (by omega) hm) E ⟨_, nG_cg v1 (by show _ = w; omega) (by show _ = 8; omega) (fun _ _ => rfl) ?_, jsp_3 rfl ?_⟩
  · subst hw
    rcases (by omega : l = 3 ∨ l = 4 ∨ l = 5 ∨ l = 6) with rfl | rfl | rfl | rfl <;> decide
  · intro x hx
    show f1 x = bbits 8 (jLz (bnum x) w)
    rw [s1 x hx, bn_lz, hx]
theorem jd_38 {l : Nat} (h3 : 3 ≤ l) (hl : l < 7) : JdOK sc 38 l := by
  intro d c m h G post hP hd hF hI hm hp
  have hr' : (11 : Nat) = 11 := rfl
  have hJ : ∀ j ∈ ([] : List Nat), 11 ≤ pH j := fun j hj => absurd hj (by simp)
  have ho : oj 38 l = 1 := (by decide : ∀ l, l < 7 → 3 ≤ l → oj 38 l = 1) l hl h3
  rw [ho] at hm hp
  have hsh := pw_sh l hl
  have hw64 := pw_l7 hl
  have hwe := pw_ev h3
  unfold jPo gJ at hp
  show xm_T (XE sc) (d + 7) 24 _ h post
  obtain ⟨w, hw⟩ : ∃ w, 2 ^ l = w := ⟨_, rfl⟩
  rw [hw] at hsh hw64 hp hwe
  have hwl : 2 ^ (l - 1) = w / 2 := by omega
  refine xq_in rfl ?_
  simp only [xq_a0, xq_aI, xq_aJ, xq_aR, Nat.reduceAdd]
  have E : cE h G c h G c := cE_rf
  with_reducible refine xm_go_blk b_X0_moving_0 k_X0_moving_0 ?_
  refine by_iconst ci_1 ?_
  refine by_iload_n rfl ?_
  refine by_ishl ?_
  refine by_istore_n (by rw [ml_24]; decide) ?_
  refine by_iload_n rfl ?_
  simp (disch := first | exact Nat.ne_of_beq_eq_false rfl | exact rfl | omega) only [nI_add, xa_sub, xa_mul, pk_div, nm_mod, xa_shr, xa_and7, xa_and1, xa_and255, xa_by_and, nI_m1, Nat.add_sub_cancel, Nat.reducePow, Nat.zero_add, Nat.add_zero, Nat.reduceAdd, Nat.reduceMul, Nat.reduceSub, xf_same, xq_ff, xq_fo, xf_1, xf_2, xs_1, xs_2, xs_same, xq_so, xj_1, xj_2, xj_same, xq_jo, xq_sa1, xq_same, xq_other, upd_s, oI_n, oI_s, hsh]
  refine by_sw ?_
  simp (disch := first | exact Nat.ne_of_beq_eq_false rfl | exact rfl | omega) only [nI_add, xa_sub, xa_mul, pk_div, nm_mod, xa_shr, xa_and7, xa_and1, xa_and255, xa_by_and, nI_m1, Nat.add_sub_cancel, Nat.reducePow, Nat.zero_add, Nat.add_zero, Nat.reduceAdd, Nat.reduceMul, Nat.reduceSub, xf_same, xq_ff, xq_fo, xf_1, xf_2, xs_1, xs_2, xs_same, xq_so, xj_1, xj_2, xj_same, xq_jo, xq_sa1, xq_same, xq_other, upd_s, oI_n, oI_s, xv_0, xv_1, xv_2, xv_3, xm_p1, xm_p2, xq_fp, xq_fn, List.filter_nil, Nat.reduceBEq, Bool.not_true, Bool.not_false, Bool.and_true, Bool.and_false, Bool.false_and, Bool.true_and, if_true, if_false, Bool.false_eq_true, reduceIte, xc_i, xc_j, xc_r, xc_n, List.nil_append, List.cons_append, Option.toList_some, Option.toList_none, hsh]
  refine xq_sw 56 (by decide) (by decide) ?_
  with_reducible refine xm_go_blk b_X0_moving_56 k_X0_moving_56 ?_
  refine by_aload_n rfl ?_
  refine by_iload_n rfl ?_
  refine by_iconst ci_2 ?_
  refine by_idiv (by first | decide | assumption) ?_
  refine by_iload_n rfl ?_
  refine by_iconst ci_2 ?_
  refine by_idiv (by first | decide | assumption) ?_
  simp (disch := first | exact Nat.ne_of_beq_eq_false rfl | exact rfl | omega) only [nI_add, xa_sub, xa_mul, pk_div, nm_mod, xa_shr, xa_and7, xa_and1, xa_and255, xa_by_and, nI_m1, Nat.add_sub_cancel, Nat.reducePow, Nat.zero_add, Nat.add_zero, Nat.reduceAdd, Nat.reduceMul, Nat.reduceSub, xf_same, xq_ff, xq_fo, xf_1, xf_2, xs_1, xs_2, xs_same, xq_so, xj_1, xj_2, xj_same, xq_jo, xq_sa1, xq_same, xq_other, upd_s, oI_n, oI_s, xv_0, xv_1, xv_2, xv_3, xm_p1, xm_p2, xq_fp, xq_fn, List.filter_nil, Nat.reduceBEq, Bool.not_true, Bool.not_false, Bool.and_true, Bool.and_false, Bool.false_and, Bool.true_and, if_true, if_false, Bool.false_eq_true, reduceIte, xc_i, xc_j, xc_r, xc_n, List.nil_append, List.cons_append, Option.toList_some, Option.toList_none, hsh]
  refine by_inv2 cn_24 lk_0_95 (by rw [xe_cnt]; decide) is_15 np_15 cn_15 (by first | exact rfl | assumption) (Nat.le_of_ble_eq_true rfl) ?_
  refine sp_first hF hI (by omega) (by omega) (fun h1 G1 c1 n1 F1 I1 e1 v1 => ?_)
  replace E := cE_tr E e1
  with_reducible refine xm_go_blk b_X0_moving_66 k_X0_moving_66 ?_
  refine by_iret ry_24 (by first | rfl | assumption) ?_
  refine hp _ _ _ _ F1 (cI_mono I1 (by omega) hm) E ⟨_, nG_cg v1 (by show _ = w; omega) (by show _ = w / 2; omega) (fun _ _ => rfl) ?_, jsp_3 rfl ?_⟩
  · subst hw
    rcases (by omega : l = 3 ∨ l = 4 ∨ l = 5 ∨ l = 6) with rfl | rfl | rfl | rfl <;> decide
  · intro x hx
    obtain ⟨a, b, rfl, ha, hb⟩ := li_s1 (x := x) (a := w / 2) (b := w / 2) (by omega)
    show (a ++ b).take (w / 2) = bbits (w / 2) (bnum (a ++ b) / 2 ^ (w / 2))
    rw [li_ka ha.symm]
    refine bb_self ha ?_
    rw [bnum_app, hb, Nat.add_comm, Nat.add_mul_div_right _ _ (Nat.two_pow_pos _), Nat.div_eq_of_lt (bn_lt hb), Nat.zero_add]
theorem jd_39 {l : Nat} (h3 : 3 ≤ l) (hl : l < 7) : JdOK sc 39 l := by
  intro d c m h G post hP hd hF hI hm hp
  have hr' : (11 : Nat) = 11 := rfl
  have hJ : ∀ j ∈ ([] : List Nat), 11 ≤ pH j := fun j hj => absurd hj (by simp)
  have ho : oj 39 l = 1 := (by decide : ∀ l, l < 7 → 3 ≤ l → oj 39 l = 1) l hl h3
  rw [ho] at hm hp
  have hsh := pw_sh l hl
  have hw64 := pw_l7 hl
  have hwe := pw_ev h3
  unfold jPo gJ at hp
  show xm_T (XE sc) (d + 7) 24 _ h post
  obtain ⟨w, hw⟩ : ∃ w, 2 ^ l = w := ⟨_, rfl⟩
  rw [hw] at hsh hw64 hp hwe
  have hwl : 2 ^ (l - 1) = w / 2 := by omega
  refine xq_in rfl ?_
  simp only [xq_a0, xq_aI, xq_aJ, xq_aR, Nat.reduceAdd]
  have E : cE h G c h G c := cE_rf
  with_reducible refine xm_go_blk b_X0_moving_0 k_X0_moving_0 ?_
  refine by_iconst ci_1 ?_
  refine by_iload_n rfl ?_
  refine by_ishl ?_
  refine by_istore_n (by rw [ml_24]; decide) ?_
  refine by_iload_n rfl ?_
  simp (disch := first | exact Nat.ne_of_beq_eq_false rfl | exact rfl | omega) only [nI_add, xa_sub, xa_mul, pk_div, nm_mod, xa_shr, xa_and7, xa_and1, xa_and255, xa_by_and, nI_m1, Nat.add_sub_cancel, Nat.reducePow, Nat.zero_add, Nat.add_zero, Nat.reduceAdd, Nat.reduceMul, Nat.reduceSub, xf_same, xq_ff, xq_fo, xf_1, xf_2, xs_1, xs_2, xs_same, xq_so, xj_1, xj_2, xj_same, xq_jo, xq_sa1, xq_same, xq_other, upd_s, oI_n, oI_s, hsh]
  refine by_sw ?_
  simp (disch := first | exact Nat.ne_of_beq_eq_false rfl | exact rfl | omega) only [nI_add, xa_sub, xa_mul, pk_div, nm_mod, xa_shr, xa_and7, xa_and1, xa_and255, xa_by_and, nI_m1, Nat.add_sub_cancel, Nat.reducePow, Nat.zero_add, Nat.add_zero, Nat.reduceAdd, Nat.reduceMul, Nat.reduceSub, xf_same, xq_ff, xq_fo, xf_1, xf_2, xs_1, xs_2, xs_same, xq_so, xj_1, xj_2, xj_same, xq_jo, xq_sa1, xq_same, xq_other, upd_s, oI_n, oI_s, xv_0, xv_1, xv_2, xv_3, xm_p1, xm_p2, xq_fp, xq_fn, List.filter_nil, Nat.reduceBEq, Bool.not_true, Bool.not_false, Bool.and_true, Bool.and_false, Bool.false_and, Bool.true_and, if_true, if_false, Bool.false_eq_true, reduceIte, xc_i, xc_j, xc_r, xc_n, List.nil_append, List.cons_append, Option.toList_some, Option.toList_none, hsh]
  refine xq_sw 67 (by decide) (by decide) ?_
  with_reducible refine xm_go_blk b_X0_moving_67 k_X0_moving_67 ?_
  refine by_aload_n rfl ?_
  refine by_iload_n rfl ?_
  refine by_iconst ci_2 ?_
  refine by_idiv (by first | decide | assumption) ?_
  refine by_iload_n rfl ?_
  refine by_iconst ci_2 ?_
  refine by_idiv (by first | decide | assumption) ?_
  simp (disch := first | exact Nat.ne_of_beq_eq_false rfl | exact rfl | omega) only [nI_add, xa_sub, xa_mul, pk_div, nm_mod, xa_shr, xa_and7, xa_and1, xa_and255, xa_by_and, nI_m1, Nat.add_sub_cancel, Nat.reducePow, Nat.zero_add, Nat.add_zero, Nat.reduceAdd, Nat.reduceMul, Nat.reduceSub, xf_same, xq_ff, xq_fo, xf_1, xf_2, xs_1, xs_2, xs_same, xq_so, xj_1, xj_2, xj_same, xq_jo, xq_sa1, xq_same, xq_other, upd_s, oI_n, oI_s, xv_0, xv_1, xv_2, xv_3, xm_p1, xm_p2, xq_fp, xq_fn, List.filter_nil, Nat.reduceBEq, Bool.not_true, Bool.not_false, Bool.and_true, Bool.and_false, Bool.false_and, Bool.true_and, if_true, if_false, Bool.false_eq_true, reduceIte, xc_i, xc_j, xc_r, xc_n, List.nil_append, List.cons_append, Option.toList_some, Option.toList_none, hsh]
  refine by_inv2 cn_24 lk_0_92 (by rw [xe_cnt]; decide) is_32 np_32 cn_32 (by first | exact rfl | assumption) (Nat.le_of_ble_eq_true rfl) ?_
  refine sp_second hF hI (by omega) (by omega) (fun h1 G1 c1 n1 F1 I1 e1 v1 => ?_)
  replace E := cE_tr E e1
  with_reducible refine xm_go_blk b_X0_moving_77 k_X0_moving_77 ?_
  refine by_iret ry_24 (by first | rfl | assumption) ?_
  refine hp _ _ _ _ F1 (cI_mono I1 (by omega) hm) E ⟨_, nG_cg v1 (by show _ = w; omega) (by show _ = w / 2; omega) (fun _ _ => rfl) ?_, jsp_3 rfl ?_⟩
  · subst hw
    rcases (by omega : l = 3 ∨ l = 4 ∨ l = 5 ∨ l = 6) with rfl | rfl | rfl | rfl <;> decide
  · intro x hx
    obtain ⟨a, b, rfl, ha, hb⟩ := li_s1 (x := x) (a := w / 2) (b := w / 2) (by omega)
    show (a ++ b).drop (w / 2) = bbits (w / 2) (bnum (a ++ b))
    rw [li_da ha.symm]
    refine bbits_of hb ?_
    rw [bnum_app, hb, Nat.add_comm, Nat.add_mul_mod_self_right, Nat.mod_eq_of_lt (bn_lt hb)]
theorem jd_40 {l : Nat} (h3 : 3 ≤ l) (hl : l < 7) : JdOK sc 40 l := by
  intro d c m h G post hP hd hF hI hm hp
  have hr' : (11 : Nat) = 11 := rfl
  have hJ : ∀ j ∈ ([] : List Nat), 11 ≤ pH j := fun j hj => absurd hj (by simp)
  have ho : oj 40 l = 3 := (by decide : ∀ l, l < 7 → 3 ≤ l → oj 40 l = 3) l hl h3
  rw [ho] at hm hp
  have hsh := pw_sh l hl
  have hw64 := pw_l7 hl
  have hwe := pw_ev h3
  unfold jPo gJ at hp
  show xm_T (XE sc) (d + 7) 24 _ h post
  obtain ⟨w, hw⟩ : ∃ w, 2 ^ l = w := ⟨_, rfl⟩
  rw [hw] at hsh hw64 hp hwe
  have hwl : 2 ^ (l - 1) = w / 2 := by omega
  refine xq_in rfl ?_
  simp only [xq_a0, xq_aI, xq_aJ, xq_aR, Nat.reduceAdd]
  have E : cE h G c h G c := cE_rf
  with_reducible refine xm_go_blk b_X0_moving_0 k_X0_moving_0 ?_
  refine by_iconst ci_1 ?_
  refine by_iload_n rfl ?_
  refine by_ishl ?_
  refine by_istore_n (by rw [ml_24]; decide) ?_
  refine by_iload_n rfl ?_
  simp (disch := first | exact Nat.ne_of_beq_eq_false rfl | exact rfl | omega) only [nI_add, xa_sub, xa_mul, pk_div, nm_mod, xa_shr, xa_and7, xa_and1, xa_and255, xa_by_and, nI_m1, Nat.add_sub_cancel, Nat.reducePow, Nat.zero_add, Nat.add_zero, Nat.reduceAdd, Nat.reduceMul, Nat.reduceSub, xf_same, xq_ff, xq_fo, xf_1, xf_2, xs_1, xs_2, xs_same, xq_so, xj_1, xj_2, xj_same, xq_jo, xq_sa1, xq_same, xq_other, upd_s, oI_n, oI_s, hsh]
  refine by_sw ?_
  simp (disch := first | exact Nat.ne_of_beq_eq_false rfl | exact rfl | omega) only [nI_add, xa_sub, xa_mul, pk_div, nm_mod, xa_shr, xa_and7, xa_and1, xa_and255, xa_by_and, nI_m1, Nat.add_sub_cancel, Nat.reducePow, Nat.zero_add, Nat.add_zero, Nat.reduceAdd, Nat.reduceMul, Nat.reduceSub, xf_same, xq_ff, xq_fo, xf_1, xf_2, xs_1, xs_2, xs_same, xq_so, xj_1, xj_2, xj_same, xq_jo, xq_sa1, xq_same, xq_other, upd_s, oI_n, oI_s, xv_0, xv_1, xv_2, xv_3, xm_p1, xm_p2, xq_fp, xq_fn, List.filter_nil, Nat.reduceBEq, Bool.not_true, Bool.not_false, Bool.and_true, Bool.and_false, Bool.false_and, Bool.true_and, if_true, if_false, Bool.false_eq_true, reduceIte, xc_i, xc_j, xc_r, xc_n, List.nil_append, List.cons_append, Option.toList_some, Option.toList_none, hsh]
  refine xq_sw 78 (by decide) (by decide) ?_
  with_reducible refine xm_go_blk b_X0_moving_78 k_X0_moving_78 ?_
  refine by_aload_n rfl ?_
  refine by_aload_n rfl ?_
  refine by_iload_n rfl ?_
  refine by_iconst ci_1 ?_
  refine by_isub ?_
  refine by_iload_n rfl ?_
  refine by_iconst ci_2 ?_
  refine by_idiv (by first | decide | assumption) ?_
  simp (disch := first | exact Nat.ne_of_beq_eq_false rfl | exact rfl | omega) only [nI_add, xa_sub, xa_mul, pk_div, nm_mod, xa_shr, xa_and7, xa_and1, xa_and255, xa_by_and, nI_m1, Nat.add_sub_cancel, Nat.reducePow, Nat.zero_add, Nat.add_zero, Nat.reduceAdd, Nat.reduceMul, Nat.reduceSub, xf_same, xq_ff, xq_fo, xf_1, xf_2, xs_1, xs_2, xs_same, xq_so, xj_1, xj_2, xj_same, xq_jo, xq_sa1, xq_same, xq_other, upd_s, oI_n, oI_s, xv_0, xv_1, xv_2, xv_3, xm_p1, xm_p2, xq_fp, xq_fn, List.filter_nil, Nat.reduceBEq, Bool.not_true, Bool.not_false, Bool.and_true, Bool.and_false, Bool.false_and, Bool.true_and, if_true, if_false, Bool.false_eq_true, reduceIte, xc_i, xc_j, xc_r, xc_n, List.nil_append, List.cons_append, Option.toList_some, Option.toList_none, hsh]
  refine by_inv2 cn_24 lk_0_89 (by rw [xe_cnt]; decide) is_38 np_38 cn_38 (by first | exact rfl | assumption) (Nat.le_of_ble_eq_true rfl) ?_
  refine sp_zeros hP (by omega) (by omega) hJ (by omega) hF hI (by omega) (by omega) (fun h1 G1 c1 n1 F1 I1 e1 v1 => ?_)
  replace E := cE_tr E e1
  with_reducible refine xm_go_blk b_X0_moving_89 k_X0_moving_89 ?_
  refine by_aload_n rfl ?_
  refine by_iload_n rfl ?_
  refine by_iconst ci_2 ?_
  refine by_idiv (by first | decide | assumption) ?_
  simp (disch := first | exact Nat.ne_of_beq_eq_false rfl | exact rfl | omega) only [nI_add, xa_sub, xa_mul, pk_div, nm_mod, xa_shr, xa_and7, xa_and1, xa_and255, xa_by_and, nI_m1, Nat.add_sub_cancel, Nat.reducePow, Nat.zero_add, Nat.add_zero, Nat.reduceAdd, Nat.reduceMul, Nat.reduceSub, xf_same, xq_ff, xq_fo, xf_1, xf_2, xs_1, xs_2, xs_same, xq_so, xj_1, xj_2, xj_same, xq_jo, xq_sa1, xq_same, xq_other, upd_s, oI_n, oI_s, xv_0, xv_1, xv_2, xv_3, xm_p1, xm_p2, xq_fp, xq_fn, List.filter_nil, Nat.reduceBEq, Bool.not_true, Bool.not_false, Bool.and_true, Bool.and_false, Bool.false_and, Bool.true_and, if_true, if_false, Bool.false_eq_true, reduceIte, xc_i, xc_j, xc_r, xc_n, List.nil_append, List.cons_append, Option.toList_some, Option.toList_none, hsh]
  refine by_inv1 cn_24 lk_0_76 (by rw [xe_cnt]; decide) is_18 np_18 cn_18 (by first | exact rfl | assumption) (Nat.le_of_ble_eq_true rfl) ?_
  refine sp_iden F1 I1 (by omega) (by omega) (fun h2 G2 c2 n2 F2 I2 e2 v2 => ?_)
  replace v1 := nG_up v1 e2
  replace E := cE_tr E e2
  with_reducible refine xm_go_blk b_X0_moving_96 k_X0_moving_96 ?_
  refine by_inv2 cn_24 lk_0_80 (by rw [xe_cnt]; decide) is_25 np_25 cn_25 (by first | exact rfl | assumption) (Nat.le_of_ble_eq_true rfl) ?_
  refine sp_gpair F2 I2 (by omega) v1 v2 (by omega) (by omega) (fun h3 G3 c3 n3 F3 I3 e3 v3 => ?_)
  replace E := cE_tr E e3
  with_reducible refine xm_go_blk b_X0_moving_99 k_X0_moving_99 ?_
  refine by_iret ry_24 (by first | rfl | assumption) ?_
  refine hp _ _ _ _ F3 (cI_mono I3 (by omega) hm) E ⟨_, nG_cg v3 (by show _ = w / 2; omega) (by show _ = w; omega) (fun _ _ => rfl) ?_, jsp_2 rfl ?_⟩
  · subst hw
    rcases (by omega : l = 3 ∨ l = 4 ∨ l = 5 ∨ l = 6) with rfl | rfl | rfl | rfl <;> decide
  · intro x hx
    show List.replicate (2 ^ (l - 1)) false ++ x = bbits w (bnum x)
    rw [hwl]
    refine bb_self (by simp; omega) ?_
    rw [bnum_app, bn_0, Nat.zero_mul, Nat.zero_add]
theorem jd_41 {l : Nat} (h3 : 3 ≤ l) (hl : l < 7) : JdOK sc 41 l := by
  intro d c m h G post hP hd hF hI hm hp
  have hr' : (11 : Nat) = 11 := rfl
  have hJ : ∀ j ∈ ([] : List Nat), 11 ≤ pH j := fun j hj => absurd hj (by simp)
  have ho : oj 41 l = 3 := (by decide : ∀ l, l < 7 → 3 ≤ l → oj 41 l = 3) l hl h3
  rw [ho] at hm hp
  have hsh := pw_sh l hl
  have hw64 := pw_l7 hl
  have hwe := pw_ev h3
  unfold jPo gJ at hp
  show xm_T (XE sc) (d + 7) 24 _ h post
  obtain ⟨w, hw⟩ : ∃ w, 2 ^ l = w := ⟨_, rfl⟩
  rw [hw] at hsh hw64 hp hwe
  have hwl : 2 ^ (l - 1) = w / 2 := by omega
  refine xq_in rfl ?_
  simp only [xq_a0, xq_aI, xq_aJ, xq_aR, Nat.reduceAdd]
  have E : cE h G c h G c := cE_rf
  with_reducible refine xm_go_blk b_X0_moving_0 k_X0_moving_0 ?_
  refine by_iconst ci_1 ?_
  refine by_iload_n rfl ?_
  refine by_ishl ?_
  refine by_istore_n (by rw [ml_24]; decide) ?_
  refine by_iload_n rfl ?_
  simp (disch := first | exact Nat.ne_of_beq_eq_false rfl | exact rfl | omega) only [nI_add, xa_sub, xa_mul, pk_div, nm_mod, xa_shr, xa_and7, xa_and1, xa_and255, xa_by_and, nI_m1, Nat.add_sub_cancel, Nat.reducePow, Nat.zero_add, Nat.add_zero, Nat.reduceAdd, Nat.reduceMul, Nat.reduceSub, xf_same, xq_ff, xq_fo, xf_1, xf_2, xs_1, xs_2, xs_same, xq_so, xj_1, xj_2, xj_same, xq_jo, xq_sa1, xq_same, xq_other, upd_s, oI_n, oI_s, hsh]
  refine by_sw ?_
  simp (disch := first | exact Nat.ne_of_beq_eq_false rfl | exact rfl | omega) only [nI_add, xa_sub, xa_mul, pk_div, nm_mod, xa_shr, xa_and7, xa_and1, xa_and255, xa_by_and, nI_m1, Nat.add_sub_cancel, Nat.reducePow, Nat.zero_add, Nat.add_zero, Nat.reduceAdd, Nat.reduceMul, Nat.reduceSub, xf_same, xq_ff, xq_fo, xf_1, xf_2, xs_1, xs_2, xs_same, xq_so, xj_1, xj_2, xj_same, xq_jo, xq_sa1, xq_same, xq_other, upd_s, oI_n, oI_s, xv_0, xv_1, xv_2, xv_3, xm_p1, xm_p2, xq_fp, xq_fn, List.filter_nil, Nat.reduceBEq, Bool.not_true, Bool.not_false, Bool.and_true, Bool.and_false, Bool.false_and, Bool.true_and, if_true, if_false, Bool.false_eq_true, reduceIte, xc_i, xc_j, xc_r, xc_n, List.nil_append, List.cons_append, Option.toList_some, Option.toList_none, hsh]
  refine xq_sw 100 (by decide) (by decide) ?_
  with_reducible refine xm_go_blk b_X0_moving_100 k_X0_moving_100 ?_
  refine by_aload_n rfl ?_
  refine by_aload_n rfl ?_
  refine by_iload_n rfl ?_
  refine by_iconst ci_2 ?_
  refine by_idiv (by first | decide | assumption) ?_
  simp (disch := first | exact Nat.ne_of_beq_eq_false rfl | exact rfl | omega) only [nI_add, xa_sub, xa_mul, pk_div, nm_mod, xa_shr, xa_and7, xa_and1, xa_and255, xa_by_and, nI_m1, Nat.add_sub_cancel, Nat.reducePow, Nat.zero_add, Nat.add_zero, Nat.reduceAdd, Nat.reduceMul, Nat.reduceSub, xf_same, xq_ff, xq_fo, xf_1, xf_2, xs_1, xs_2, xs_same, xq_so, xj_1, xj_2, xj_same, xq_jo, xq_sa1, xq_same, xq_other, upd_s, oI_n, oI_s, xv_0, xv_1, xv_2, xv_3, xm_p1, xm_p2, xq_fp, xq_fn, List.filter_nil, Nat.reduceBEq, Bool.not_true, Bool.not_false, Bool.and_true, Bool.and_false, Bool.false_and, Bool.true_and, if_true, if_false, Bool.false_eq_true, reduceIte, xc_i, xc_j, xc_r, xc_n, List.nil_append, List.cons_append, Option.toList_some, Option.toList_none, hsh]
  refine by_inv1 cn_24 lk_0_76 (by rw [xe_cnt]; decide) is_18 np_18 cn_18 (by first | exact rfl | assumption) (Nat.le_of_ble_eq_true rfl) ?_
  refine sp_iden hF hI (by omega) (by omega) (fun h1 G1 c1 n1 F1 I1 e1 v1 => ?_)
  replace E := cE_tr E e1
  with_reducible refine xm_go_blk b_X0_moving_108 k_X0_moving_108 ?_
  refine by_aload_n rfl ?_
  refine by_iload_n rfl ?_
  refine by_iconst ci_1 ?_
  refine by_isub ?_
  refine by_iload_n rfl ?_
  refine by_iconst ci_2 ?_
  refine by_idiv (by first | decide | assumption) ?_
  simp (disch := first | exact Nat.ne_of_beq_eq_false rfl | exact rfl | omega) only [nI_add, xa_sub, xa_mul, pk_div, nm_mod, xa_shr, xa_and7, xa_and1, xa_and255, xa_by_and, nI_m1, Nat.add_sub_cancel, Nat.reducePow, Nat.zero_add, Nat.add_zero, Nat.reduceAdd, Nat.reduceMul, Nat.reduceSub, xf_same, xq_ff, xq_fo, xf_1, xf_2, xs_1, xs_2, xs_same, xq_so, xj_1, xj_2, xj_same, xq_jo, xq_sa1, xq_same, xq_other, upd_s, oI_n, oI_s, xv_0, xv_1, xv_2, xv_3, xm_p1, xm_p2, xq_fp, xq_fn, List.filter_nil, Nat.reduceBEq, Bool.not_true, Bool.not_false, Bool.and_true, Bool.and_false, Bool.false_and, Bool.true_and, if_true, if_false, Bool.false_eq_true, reduceIte, xc_i, xc_j, xc_r, xc_n, List.nil_append, List.cons_append, Option.toList_some, Option.toList_none, hsh]
  refine by_inv2 cn_24 lk_0_89 (by rw [xe_cnt]; decide) is_38 np_38 cn_38 (by first | exact rfl | assumption) (Nat.le_of_ble_eq_true rfl) ?_
  refine sp_zeros hP (by omega) (by omega) hJ (by omega) F1 I1 (by omega) (by omega) (fun h2 G2 c2 n2 F2 I2 e2 v2 => ?_)
  replace v1 := nG_up v1 e2
  replace E := cE_tr E e2
  with_reducible refine xm_go_blk b_X0_moving_118 k_X0_moving_118 ?_
  refine by_inv2 cn_24 lk_0_80 (by rw [xe_cnt]; decide) is_25 np_25 cn_25 (by first | exact rfl | assumption) (Nat.le_of_ble_eq_true rfl) ?_
  refine sp_gpair F2 I2 (by omega) v1 v2 (by omega) (by omega) (fun h3 G3 c3 n3 F3 I3 e3 v3 => ?_)
  replace E := cE_tr E e3
  with_reducible refine xm_go_blk b_X0_moving_121 k_X0_moving_121 ?_
  refine by_iret ry_24 (by first | rfl | assumption) ?_
  refine hp _ _ _ _ F3 (cI_mono I3 (by omega) hm) E ⟨_, nG_cg v3 (by show _ = w / 2; omega) (by show _ = w; omega) (fun _ _ => rfl) ?_, jsp_2 rfl ?_⟩
  · subst hw
    rcases (by omega : l = 3 ∨ l = 4 ∨ l = 5 ∨ l = 6) with rfl | rfl | rfl | rfl <;> decide
  · intro x hx
    show x ++ List.replicate (2 ^ (l - 1)) false = bbits w (bnum x * 2 ^ (w / 2))
    rw [hwl]
    refine bb_self (by simp; omega) ?_
    rw [bnum_app, bn_0, List.length_replicate, Nat.add_zero]
end CD
