/-! ===== definitions of jets: whether a word is 1 ===== -/
def lQ : Nat → gQ
  | 0 => qB
  | i + 1 => qP (qc 13 i) (lQ i)
theorem bb_one (i : Nat) : List.replicate (2 ^ i) false ++ bbits (2 ^ i) 1 = bbits (2 ^ (i + 1)) 1 := by
  have hp := Nat.two_pow_pos i
  rw [← bb_0, bb_join, Nat.zero_mul, Nat.zero_add, Nat.mod_eq_of_lt (Nat.one_lt_two_pow (by omega)), Nat.pow_succ, Nat.mul_two]
section CD
variable {sc : xm_Sc} {d : Nat} {post : xm_Po}
theorem one_loop {lv w : Nat} (hlv : lv < 7) (hw : 2 ^ lv = w) (hP : aOK sc 11) (hD : 44 ≤ d) : ∀ (n i c m p : Nat) (h : xm_H) (G : Nat → gN), i + n = lv → XF h → cI h G c m [] → m + 2 * n ≤ 8000 → nG G c p w (2 ^ i) (fun _ => bbits (2 ^ i) 1) (lQ i) →
    (∀ h' G' c' p', XF h' → cI h' G' c' (m + 2 * n) [] → cE h G c h' G' c' → nG G' c' p' w w (fun _ => bbits w 1) (lQ lv) → xm_go (XE sc) (xm_T (XE sc) (d + 6)) 34 post 124 [(4, .int (nI p')), (0, .ref 22), (2, .int (nI lv)), (3, .int (nI w))] [] h') →
    xm_go (XE sc) (xm_T (XE sc) (d + 6)) 34 post 97 [(5, .int (nI i)), (4, .int (nI p)), (0, .ref 22), (2, .int (nI lv)), (3, .int (nI w))] [] h := by
  have hw64 := pw_l7 hlv
  rw [hw] at hw64
  have hJ : ∀ j ∈ ([] : List Nat), 11 ≤ pH j := fun j hj => absurd hj (by simp)
  intro n
  induction n with
  | zero =>
    intro i c m p h G hi hF hI hm v hp
    have : i = lv := by omega
    subst this
    rw [hw] at v
    with_reducible refine xm_go_blk b_X0_testing_97 k_X0_testing_97 ?_
    refine by_iload rfl ?_
    refine by_iload_n rfl ?_
    refine by_ic_ge 124 rfl ?_
    simp (disch := first | exact Nat.ne_of_beq_eq_false rfl | exact rfl | omega) only [nI_add, xa_sub, xa_mul, pk_div, nm_mod, xa_shr, xa_and7, xa_and1, xa_and255, xa_by_and, nI_m1, Nat.add_sub_cancel, Nat.reducePow, Nat.zero_add, Nat.add_zero, Nat.reduceAdd, Nat.reduceMul, Nat.reduceSub, xf_same, xq_ff, xq_fo, xf_1, xf_2, xs_1, xs_2, xs_same, xq_so, xj_1, xj_2, xj_same, xq_jo, xq_sa1, xq_same, xq_other, upd_s, oI_n, oI_s, xv_0, xv_1, xv_2, xv_3, xm_p1, xm_p2, xq_fp, xq_fn, List.filter_nil, Nat.reduceBEq, Bool.not_true, Bool.not_false, Bool.and_true, Bool.and_false, Bool.false_and, Bool.true_and, if_true, if_false, Bool.false_eq_true, reduceIte, xc_i, xc_j, xc_r, xc_n, List.nil_append, List.cons_append, Option.toList_some, Option.toList_none, nI_ltJ, nI_leJ, nI_eqJ, nI_ltz, nI_gez, nI_gtz, nI_lez, nI_eqz, m1_ltz, m1_gez, true_imp_iff, false_imp_iff, true_and, and_true, ne_eq, not_false_eq_true, not_true_eq_false, Nat.reduceEqDiff, Nat.reduceLT, Nat.reduceLeDiff]
    refine ⟨fun c97 => ?_, fun c => absurd (by omega) c⟩
    exact xm_go_wk (by simp [Value.category]) (hp h G c p hF hI cE_rf v)
  | succ n ih =>
    intro i c m p h G hi hF hI hm v hp
    have hi64 := pw_l7 (l := i) (by omega)
    have hpw : 2 ^ (i + 1) = 2 ^ i + 2 ^ i := by rw [Nat.pow_succ, Nat.mul_two]
    have E : cE h G c h G c := cE_rf
    with_reducible refine xm_go_blk b_X0_testing_97 k_X0_testing_97 ?_
    refine by_iload rfl ?_
    refine by_iload_n rfl ?_
    refine by_ic_ge 124 rfl ?_
    simp (disch := first | exact Nat.ne_of_beq_eq_false rfl | exact rfl | omega) only [nI_add, xa_sub, xa_mul, pk_div, nm_mod, xa_shr, xa_and7, xa_and1, xa_and255, xa_by_and, nI_m1, Nat.add_sub_cancel, Nat.reducePow, Nat.zero_add, Nat.add_zero, Nat.reduceAdd, Nat.reduceMul, Nat.reduceSub, xf_same, xq_ff, xq_fo, xf_1, xf_2, xs_1, xs_2, xs_same, xq_so, xj_1, xj_2, xj_same, xq_jo, xq_sa1, xq_same, xq_other, upd_s, oI_n, oI_s, xv_0, xv_1, xv_2, xv_3, xm_p1, xm_p2, xq_fp, xq_fn, List.filter_nil, Nat.reduceBEq, Bool.not_true, Bool.not_false, Bool.and_true, Bool.and_false, Bool.false_and, Bool.true_and, if_true, if_false, Bool.false_eq_true, reduceIte, xc_i, xc_j, xc_r, xc_n, List.nil_append, List.cons_append, Option.toList_some, Option.toList_none, nI_ltJ, nI_leJ, nI_eqJ, nI_ltz, nI_gez, nI_gtz, nI_lez, nI_eqz, m1_ltz, m1_gez, true_imp_iff, false_imp_iff, true_and, and_true, ne_eq, not_false_eq_true, not_true_eq_false, Nat.reduceEqDiff, Nat.reduceLT, Nat.reduceLeDiff]
    refine ⟨fun c => absurd c (by omega), fun c97 => ?_⟩
    with_reducible refine xm_go_blk b_X0_testing_103 k_X0_testing_103 ?_
    refine by_aload_n rfl ?_
    refine by_aload_n rfl ?_
    refine by_iload rfl ?_
    refine by_iload_n rfl ?_
    refine by_inv2 cn_34 lk_0_89 (by rw [xe_cnt]; decide) is_38 np_38 cn_38 (by first | exact rfl | assumption) (Nat.le_of_ble_eq_true rfl) ?_
    refine sp_zeros hP (by omega) (by omega) hJ (by omega) hF hI (by omega) (by omega) (fun h1 G1 c1 n1 F1 I1 e1 v1 => ?_)
    replace v := nG_up v e1
    replace E := cE_tr E e1
    with_reducible refine xm_go_blk b_X0_testing_111 k_X0_testing_111 ?_
    refine by_iload rfl ?_
    refine by_inv2 cn_34 lk_0_80 (by rw [xe_cnt]; decide) is_25 np_25 cn_25 (by first | exact rfl | assumption) (Nat.le_of_ble_eq_true rfl) ?_
    refine sp_gpair F1 I1 (by omega) v1 v (by omega) (by omega) (fun h2 G2 c2 n2 F2 I2 e2 v2 => ?_)
    replace E := cE_tr E e2
    with_reducible refine xm_go_blk b_X0_testing_116 k_X0_testing_116 ?_
    refine by_istore (by rw [ml_34]; decide) ?_
    refine by_iinc (by rw [ml_34]; decide) rfl ci_1 ?_
    refine by_goto 97 rfl ?_
    try simp (disch := first | exact Nat.ne_of_beq_eq_false rfl | exact rfl | omega) only [nI_add, xa_sub, xa_mul, pk_div, nm_mod, xa_shr, xa_and7, xa_and1, xa_and255, xa_by_and, nI_m1, Nat.add_sub_cancel, Nat.reducePow, Nat.zero_add, Nat.add_zero, Nat.reduceAdd, Nat.reduceMul, Nat.reduceSub, xf_same, xq_ff, xq_fo, xf_1, xf_2, xs_1, xs_2, xs_same, xq_so, xj_1, xj_2, xj_same, xq_jo, xq_sa1, xq_same, xq_other, upd_s, oI_n, oI_s, xv_0, xv_1, xv_2, xv_3, xm_p1, xm_p2, xq_fp, xq_fn, List.filter_nil, Nat.reduceBEq, Bool.not_true, Bool.not_false, Bool.and_true, Bool.and_false, Bool.false_and, Bool.true_and, if_true, if_false, Bool.false_eq_true, reduceIte, xc_i, xc_j, xc_r, xc_n, List.nil_append, List.cons_append, Option.toList_some, Option.toList_none]
    refine xm_go_wk (by simp [Value.category]) (ih (i + 1) _ (m + 2) _ h2 G2 (by omega) F2 (cI_mono I2 (by omega) (by omega)) (by omega) (nG_cg v2 rfl (by omega) (fun _ _ => bb_one i) (qle_rf _)) (fun h' G' c' p' k1 k2 k3 k4 => hp h' G' c' p' k1 (cI_mono k2 (by omega) (by omega)) (cE_tr E k3) k4))
theorem jd_20 {l : Nat} (h3 : 3 ≤ l) (hl : l < 7) : JdOK sc 20 l := by
  intro d c m h G post hP hd hF hI hm hp
  have hJ : ∀ j ∈ ([] : List Nat), 11 ≤ pH j := fun j hj => absurd hj (by simp)
  have ho : oj 20 l = 6 + 2 * l := (by decide : ∀ l, l < 7 → 3 ≤ l → oj 20 l = 6 + 2 * l) l hl h3
  rw [ho] at hm hp
  have hsh := pw_sh l hl
  have hw64 := pw_l7 hl
  unfold jPo gJ at hp
  show xm_T (XE sc) (d + 7) 34 _ h post
  obtain ⟨w, hw⟩ : ∃ w, 2 ^ l = w := ⟨_, rfl⟩
  rw [hw] at hsh hw64 hp
  refine xq_in rfl ?_
  simp only [xq_a0, xq_aI, xq_aJ, xq_aR, Nat.reduceAdd]
  with_reducible refine xm_go_blk b_X0_testing_0 k_X0_testing_0 ?_
  refine by_iconst ci_1 ?_
  refine by_iload_n rfl ?_
  refine by_ishl ?_
  refine by_istore_n (by rw [ml_34]; decide) ?_
  refine by_iload_n rfl ?_
  simp (disch := first | exact Nat.ne_of_beq_eq_false rfl | exact rfl | omega) only [nI_add, xa_sub, xa_mul, pk_div, nm_mod, xa_shr, xa_and7, xa_and1, xa_and255, xa_by_and, nI_m1, Nat.add_sub_cancel, Nat.reducePow, Nat.zero_add, Nat.add_zero, Nat.reduceAdd, Nat.reduceMul, Nat.reduceSub, xf_same, xq_ff, xq_fo, xf_1, xf_2, xs_1, xs_2, xs_same, xq_so, xj_1, xj_2, xj_same, xq_jo, xq_sa1, xq_same, xq_other, upd_s, oI_n, oI_s, hsh]
  refine by_sw ?_
  simp (disch := first | exact Nat.ne_of_beq_eq_false rfl | exact rfl | omega) only [nI_add, xa_sub, xa_mul, pk_div, nm_mod, xa_shr, xa_and7, xa_and1, xa_and255, xa_by_and, nI_m1, Nat.add_sub_cancel, Nat.reducePow, Nat.zero_add, Nat.add_zero, Nat.reduceAdd, Nat.reduceMul, Nat.reduceSub, xf_same, xq_ff, xq_fo, xf_1, xf_2, xs_1, xs_2, xs_same, xq_so, xj_1, xj_2, xj_same, xq_jo, xq_sa1, xq_same, xq_other, upd_s, oI_n, oI_s, xv_0, xv_1, xv_2, xv_3, xm_p1, xm_p2, xq_fp, xq_fn, List.filter_nil, Nat.reduceBEq, Bool.not_true, Bool.not_false, Bool.and_true, Bool.and_false, Bool.false_and, Bool.true_and, if_true, if_false, Bool.false_eq_true, reduceIte, xc_i, xc_j, xc_r, xc_n, List.nil_append, List.cons_append, Option.toList_some, Option.toList_none, hsh]
  refine xq_sw 86 (by decide) (by decide) ?_
  with_reducible refine xm_go_blk b_X0_testing_86 k_X0_testing_86 ?_
  refine by_aload_n rfl ?_
  refine by_iconst ci_1 ?_
  refine by_iload_n rfl ?_
  refine by_inv2 cn_34 lk_0_73 (by rw [xe_cnt]; decide) is_3 np_3 cn_3 (by first | exact rfl | assumption) (Nat.le_of_ble_eq_true rfl) ?_
  refine sp_gbit (by omega) hF hI (by omega) (by omega) (fun h1 G1 c1 n1 F1 I1 e1 v1 => ?_)
  with_reducible refine xm_go_blk b_X0_testing_92 k_X0_testing_92 ?_
  refine by_istore (by rw [ml_34]; decide) ?_
  refine by_iconst ci_0 ?_
  refine by_istore (by rw [ml_34]; decide) ?_
  refine by_nil ?_
  try simp (disch := first | exact Nat.ne_of_beq_eq_false rfl | exact rfl | omega) only [nI_add, xa_sub, xa_mul, pk_div, nm_mod, xa_shr, xa_and7, xa_and1, xa_and255, xa_by_and, nI_m1, Nat.add_sub_cancel, Nat.reducePow, Nat.zero_add, Nat.add_zero, Nat.reduceAdd, Nat.reduceMul, Nat.reduceSub, xf_same, xq_ff, xq_fo, xf_1, xf_2, xs_1, xs_2, xs_same, xq_so, xj_1, xj_2, xj_same, xq_jo, xq_sa1, xq_same, xq_other, upd_s, oI_n, oI_s, xv_0, xv_1, xv_2, xv_3, xm_p1, xm_p2, xq_fp, xq_fn, List.filter_nil, Nat.reduceBEq, Bool.not_true, Bool.not_false, Bool.and_true, Bool.and_false, Bool.false_and, Bool.true_and, if_true, if_false, Bool.false_eq_true, reduceIte, xc_i, xc_j, xc_r, xc_n, List.nil_append, List.cons_append, Option.toList_some, Option.toList_none]
  refine xm_go_wk (by simp [Value.category]) (one_loop hl hw hP hd l 0 c1 (m + 2) n1 h1 G1 (by omega) F1 I1 (by omega) (nG_cg v1 rfl rfl (fun _ _ => rfl) (qle_rf _)) (fun h2 G2 c2 n2 F2 I2 e2 v => ?_))
  have e12 := cE_tr e1 e2
  with_reducible refine xm_go_blk b_X0_testing_124 k_X0_testing_124 ?_
  refine by_aload_n rfl ?_
  refine by_aload_n rfl ?_
  refine by_aload_n rfl ?_
  refine by_iload_n rfl ?_
  refine by_inv1 cn_34 lk_0_76 (by rw [xe_cnt]; decide) is_18 np_18 cn_18 (by first | exact rfl | assumption) (Nat.le_of_ble_eq_true rfl) ?_
  refine sp_iden F2 I2 (by omega) (by omega) (fun h3' G3 c3 n3 F3 I3 e3 v3 => ?_)
  replace v := nG_up v e3
  with_reducible refine xm_go_blk b_X0_testing_131 k_X0_testing_131 ?_
  refine by_iload rfl ?_
  refine by_inv2 cn_34 lk_0_80 (by rw [xe_cnt]; decide) is_25 np_25 cn_25 (by first | exact rfl | assumption) (Nat.le_of_ble_eq_true rfl) ?_
  refine sp_gpair F3 I3 (by omega) v3 v (by omega) (by omega) (fun h4 G4 c4 n4 F4 I4 e4 v4 => ?_)
  with_reducible refine xm_go_blk b_X0_testing_136 k_X0_testing_136 ?_
  refine by_aload_n rfl ?_
  refine by_bipush cb_23 ?_
  refine by_iload_n rfl ?_
  refine by_inv2 cn_34 lk_0_83 (by rw [xe_cnt]; decide) is_26 np_26 cn_26 (by first | exact rfl | assumption) (Nat.le_of_ble_eq_true rfl) ?_
  refine sp_pc (a := 2) hP ⟨by omega, by omega, by omega⟩ rfl (by omega) hJ (by omega) F4 I4 (fun h5 G5 c5 n5 F5 I5 e5 p5 => ?_)
  obtain ⟨f5, v5, s5⟩ := p5
  simp only [pS, pT, pSp, Nat.reducePow, hw] at v5 s5
  replace v4 := nG_up v4 e5
  with_reducible refine xm_go_blk b_X0_testing_143 k_X0_testing_143 ?_
  refine by_inv2 cn_34 lk_0_86 (by rw [xe_cnt]; decide) is_7 np_7 cn_7 (by first | exact rfl | assumption) (Nat.le_of_ble_eq_true rfl) ?_
  refine sp_gcomp F5 I5 (by omega) v4 v5 (by omega) (fun h6 G6 c6 n6 F6 I6 e6 v6 => ?_)
  with_reducible refine xm_go_blk b_X0_testing_146 k_X0_testing_146 ?_
  refine by_iret ry_34 (by first | rfl | assumption) ?_
  refine hp _ _ _ _ F6 (cI_mono I6 (by omega) hm) (cE_tr e12 (cE_tr e3 (cE_tr e4 (cE_tr e5 e6)))) ⟨_, nG_cg v6 (by show _ = w; omega) (by show _ = 1; omega) (fun _ _ => rfl) ?_, jsp_3 rfl ?_⟩
  · subst hw
    rcases (by omega : l = 3 ∨ l = 4 ∨ l = 5 ∨ l = 6) with rfl | rfl | rfl | rfl <;> decide
  · intro x hx
    show f5 (x ++ bbits w 1) = bbits 1 (if bnum x = 1 then 1 else 0)
    rw [s5 x _ hx (bbits_len _ _), b1_d, bn_eq (by rw [bbits_len, hx]), bnum_bbits, Nat.mod_eq_of_lt (Nat.one_lt_two_pow (by omega))]
end CD
