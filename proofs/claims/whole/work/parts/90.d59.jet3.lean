/-! ===== jets of the class: reckon, testWord, mixBits ===== -/
def jS0 (h : xm_H) : Prop := h.2.2 39 7 = .long (lN 0) ∧ h.2.2 39 8 = .long (lN 0) ∧ h.2.2 39 9 = .long (lN 0)
theorem jR_low {h : xm_H} {L : Nat} (h0 : jS0 h) (hL : L < 2 ^ 64) : jRs h (xm_sf h 39 9 (.long (lN L))) 0 0 L := ⟨Fr_sf Fr_rf (by simp), by rw [← h0.1]; simp [xm_sf, updV], by rw [← h0.2.1]; simp [xm_sf, updV], by simp [xm_sf, updV], by decide, by decide, hL⟩
theorem jR_bit {h : xm_H} {B : Nat} (h0 : jS0 h) (hB : B < 2 ^ 64) : jRs h (xm_sf h 39 7 (.long (lN B))) B 0 0 := ⟨Fr_sf Fr_rf (by simp), by simp [xm_sf, updV], by rw [← h0.2.1]; simp [xm_sf, updV], by rw [← h0.2.2]; simp [xm_sf, updV], hB, by decide, by decide⟩
section J3
variable {sc : xm_Sc} {d w c x y z v : Nat} {h : xm_H} {post : xm_Po}
theorem sp_reckon {k : Nat} (hk : k ≤ 6) (hw : jw w) (hS : jSt h w c x y z v) (h0 : jS0 h) (hx : x < 2 ^ w) (hy : y < 2 ^ w) (hc : c ≤ 1)
    (hp : ∀ h' B H L, jRs h h' B H L → jGv 7 w B H L = jL k w c x y z v → post none h') : xm_T (XE sc) (d + 2) 65 [.ref 39, .int (nI k)] h post := by
  obtain ⟨s0, s1, s2, s3, s4, s5, s6⟩ := hS
  have hp2 : 0 < 2 ^ w := Nat.two_pow_pos w
  have hpw := jw_p hw
  refine xq_in rfl ?_
  simp only [xq_a0, xq_aI, xq_aJ, xq_aR, Nat.reduceAdd]
  have add : ∀ (kk a b e : Nat), a < 2 ^ w → b < 2 ^ w → e ≤ 1 → jL k w c x y z v = bbits 1 ((a + b + e) / 2 ^ w) ++ bbits w (a + b + e) → ∀ h', jRs h h' ((a + b + e) / 2 ^ w) 0 ((a + b + e) % 2 ^ w) → post none h' := by
    intro _ a b e _ _ _ hj h' hr
    refine hp h' _ _ _ hr ?_
    rw [hj]
    show bbits 1 _ ++ bbits w _ = _
    rw [bbits_mod]
  have sub : ∀ (a b e m : Nat), a < 2 ^ w → b < 2 ^ w → e ≤ 1 → jL k w c x y z v = bbits 1 (if a < b + e then 1 else 0) ++ bbits w m → (a + 2 ^ 64 - b + 2 ^ 64 - e) % 2 ^ w = m % 2 ^ w → ∀ h', jRs h h' (if a < b + e then 1 else 0) 0 ((a + 2 ^ 64 - b + 2 ^ 64 - e) % 2 ^ w) → post none h' := by
    intro a b e m _ _ _ hj hm h' hr
    refine hp h' _ _ _ hr ?_
    rw [hj]
    show bbits 1 _ ++ bbits w _ = _
    rw [bbits_mod, bb_cg hm]
  have hmm : ∀ a b e : Nat, a < 2 ^ w → b < 2 ^ w → e ≤ 1 → (a + 2 ^ 64 - b + 2 ^ 64 - e) % 2 ^ w = (a + 2 ^ w + 2 ^ w - b - e) % 2 ^ w := by
    intro a b e ha hb he
    rcases hw with rfl | rfl | rfl | rfl <;> simp only [Nat.reducePow] at * <;> omega
  have h10 : (1 : Nat) < 2 ^ w := by rcases hw with rfl | rfl | rfl | rfl <;> decide
  rcases (by omega : k = 0 ∨ k = 1 ∨ k = 2 ∨ k = 3 ∨ k = 4 ∨ k = 5 ∨ k = 6) with rfl | rfl | rfl | rfl | rfl | rfl | rfl
  · with_reducible refine xm_go_blk b_X2_reckon_0 k_X2_reckon_0 ?_
    refine by_iload_n rfl ?_
    refine by_sw ?_
    refine xq_sw 40 (by decide) (by decide) ?_
    with_reducible refine xm_go_blk b_X2_reckon_40 k_X2_reckon_40 ?_
    refine by_aload_n rfl ?_
    refine by_aload_n rfl ?_
    refine by_getf cn_65 fl_2_73 (by first | exact rfl | assumption) (by decide) ?_
    refine by_aload_n rfl ?_
    refine by_getf cn_65 fl_2_76 (by first | exact rfl | assumption) (by decide) ?_
    refine by_aload_n rfl ?_
    refine by_getf cn_65 fl_2_64 (by first | exact rfl | assumption) (by decide) ?_
    simp (disch := first | exact Nat.ne_of_beq_eq_false rfl | exact rfl | omega) only [nI_add, xa_sub, xa_mul, pk_div, nm_mod, xa_shr, xa_and7, xa_and1, xa_and255, xa_by_and, nI_m1, Nat.add_sub_cancel, Nat.reducePow, Nat.zero_add, Nat.add_zero, Nat.reduceAdd, Nat.reduceMul, Nat.reduceSub, xf_same, xq_ff, xq_fo, xf_1, xf_2, xs_1, xs_2, xs_same, xq_so, xj_1, xj_2, xj_same, xq_jo, xq_sa1, xq_same, xq_other, upd_s, oI_n, oI_s, xv_0, xv_1, xv_2, xv_3, xm_p1, xm_p2, xq_fp, xq_fn, List.filter_nil, Nat.reduceBEq, Bool.not_true, Bool.not_false, Bool.and_true, Bool.and_false, Bool.false_and, Bool.true_and, if_true, if_false, Bool.false_eq_true, reduceIte, xc_i, xc_j, xc_r, xc_n, List.nil_append, List.cons_append, Option.toList_some, Option.toList_none, s3, s4, s2]
    refine by_inv3 cn_65 lk_2_89 (by rw [xe_cnt]; decide) is_53 np_53 cn_53 (by first | exact rfl | assumption) (Nat.le_of_ble_eq_true rfl) ?_
    refine sp_addWords hw s0 s1 h0.2.1 (by decide) hx hy hc (fun h' hr => ?_)
    with_reducible refine xm_go_blk b_X2_reckon_56 k_X2_reckon_56 ?_
    refine by_goto 114 rfl ?_
    with_reducible refine xm_go_blk b_X2_reckon_114 k_X2_reckon_114 ?_
    refine by_ret ry_65 ?_
    exact add 0 x y c hx hy hc rfl h' hr
  · with_reducible refine xm_go_blk b_X2_reckon_0 k_X2_reckon_0 ?_
    refine by_iload_n rfl ?_
    refine by_sw ?_
    refine xq_sw 40 (by decide) (by decide) ?_
    with_reducible refine xm_go_blk b_X2_reckon_40 k_X2_reckon_40 ?_
    refine by_aload_n rfl ?_
    refine by_aload_n rfl ?_
    refine by_getf cn_65 fl_2_73 (by first | exact rfl | assumption) (by decide) ?_
    refine by_aload_n rfl ?_
    refine by_getf cn_65 fl_2_76 (by first | exact rfl | assumption) (by decide) ?_
    refine by_aload_n rfl ?_
    refine by_getf cn_65 fl_2_64 (by first | exact rfl | assumption) (by decide) ?_
    simp (disch := first | exact Nat.ne_of_beq_eq_false rfl | exact rfl | omega) only [nI_add, xa_sub, xa_mul, pk_div, nm_mod, xa_shr, xa_and7, xa_and1, xa_and255, xa_by_and, nI_m1, Nat.add_sub_cancel, Nat.reducePow, Nat.zero_add, Nat.add_zero, Nat.reduceAdd, Nat.reduceMul, Nat.reduceSub, xf_same, xq_ff, xq_fo, xf_1, xf_2, xs_1, xs_2, xs_same, xq_so, xj_1, xj_2, xj_same, xq_jo, xq_sa1, xq_same, xq_other, upd_s, oI_n, oI_s, xv_0, xv_1, xv_2, xv_3, xm_p1, xm_p2, xq_fp, xq_fn, List.filter_nil, Nat.reduceBEq, Bool.not_true, Bool.not_false, Bool.and_true, Bool.and_false, Bool.false_and, Bool.true_and, if_true, if_false, Bool.false_eq_true, reduceIte, xc_i, xc_j, xc_r, xc_n, List.nil_append, List.cons_append, Option.toList_some, Option.toList_none, s3, s4, s2]
    refine by_inv3 cn_65 lk_2_89 (by rw [xe_cnt]; decide) is_53 np_53 cn_53 (by first | exact rfl | assumption) (Nat.le_of_ble_eq_true rfl) ?_
    refine sp_addWords hw s0 s1 h0.2.1 (by decide) hx hy hc (fun h' hr => ?_)
    with_reducible refine xm_go_blk b_X2_reckon_56 k_X2_reckon_56 ?_
    refine by_goto 114 rfl ?_
    with_reducible refine xm_go_blk b_X2_reckon_114 k_X2_reckon_114 ?_
    refine by_ret ry_65 ?_
    exact add 0 x y c hx hy hc rfl h' hr
  · with_reducible refine xm_go_blk b_X2_reckon_0 k_X2_reckon_0 ?_
    refine by_iload_n rfl ?_
    refine by_sw ?_
    refine xq_sw 59 (by decide) (by decide) ?_
    with_reducible refine xm_go_blk b_X2_reckon_59 k_X2_reckon_59 ?_
    refine by_aload_n rfl ?_
    refine by_aload_n rfl ?_
    refine by_getf cn_65 fl_2_73 (by first | exact rfl | assumption) (by decide) ?_
    refine by_aload_n rfl ?_
    refine by_getf cn_65 fl_2_76 (by first | exact rfl | assumption) (by decide) ?_
    refine by_aload_n rfl ?_
    refine by_getf cn_65 fl_2_64 (by first | exact rfl | assumption) (by decide) ?_
    simp (disch := first | exact Nat.ne_of_beq_eq_false rfl | exact rfl | omega) only [nI_add, xa_sub, xa_mul, pk_div, nm_mod, xa_shr, xa_and7, xa_and1, xa_and255, xa_by_and, nI_m1, Nat.add_sub_cancel, Nat.reducePow, Nat.zero_add, Nat.add_zero, Nat.reduceAdd, Nat.reduceMul, Nat.reduceSub, xf_same, xq_ff, xq_fo, xf_1, xf_2, xs_1, xs_2, xs_same, xq_so, xj_1, xj_2, xj_same, xq_jo, xq_sa1, xq_same, xq_other, upd_s, oI_n, oI_s, xv_0, xv_1, xv_2, xv_3, xm_p1, xm_p2, xq_fp, xq_fn, List.filter_nil, Nat.reduceBEq, Bool.not_true, Bool.not_false, Bool.and_true, Bool.and_false, Bool.false_and, Bool.true_and, if_true, if_false, Bool.false_eq_true, reduceIte, xc_i, xc_j, xc_r, xc_n, List.nil_append, List.cons_append, Option.toList_some, Option.toList_none, s3, s4, s2]
    refine by_inv3 cn_65 lk_2_93 (by rw [xe_cnt]; decide) is_66 np_66 cn_66 (by first | exact rfl | assumption) (Nat.le_of_ble_eq_true rfl) ?_
    refine sp_subtract hw s0 s1 h0.2.1 (by decide) hx hy hc (fun h' hr => ?_)
    with_reducible refine xm_go_blk b_X2_reckon_75 k_X2_reckon_75 ?_
    refine by_goto 114 rfl ?_
    with_reducible refine xm_go_blk b_X2_reckon_114 k_X2_reckon_114 ?_
    refine by_ret ry_65 ?_
    exact sub x y c _ hx hy hc rfl (hmm x y c hx hy hc) h' hr
  · with_reducible refine xm_go_blk b_X2_reckon_0 k_X2_reckon_0 ?_
    refine by_iload_n rfl ?_
    refine by_sw ?_
    refine xq_sw 59 (by decide) (by decide) ?_
    with_reducible refine xm_go_blk b_X2_reckon_59 k_X2_reckon_59 ?_
    refine by_aload_n rfl ?_
    refine by_aload_n rfl ?_
    refine by_getf cn_65 fl_2_73 (by first | exact rfl | assumption) (by decide) ?_
    refine by_aload_n rfl ?_
    refine by_getf cn_65 fl_2_76 (by first | exact rfl | assumption) (by decide) ?_
    refine by_aload_n rfl ?_
    refine by_getf cn_65 fl_2_64 (by first | exact rfl | assumption) (by decide) ?_
    simp (disch := first | exact Nat.ne_of_beq_eq_false rfl | exact rfl | omega) only [nI_add, xa_sub, xa_mul, pk_div, nm_mod, xa_shr, xa_and7, xa_and1, xa_and255, xa_by_and, nI_m1, Nat.add_sub_cancel, Nat.reducePow, Nat.zero_add, Nat.add_zero, Nat.reduceAdd, Nat.reduceMul, Nat.reduceSub, xf_same, xq_ff, xq_fo, xf_1, xf_2, xs_1, xs_2, xs_same, xq_so, xj_1, xj_2, xj_same, xq_jo, xq_sa1, xq_same, xq_other, upd_s, oI_n, oI_s, xv_0, xv_1, xv_2, xv_3, xm_p1, xm_p2, xq_fp, xq_fn, List.filter_nil, Nat.reduceBEq, Bool.not_true, Bool.not_false, Bool.and_true, Bool.and_false, Bool.false_and, Bool.true_and, if_true, if_false, Bool.false_eq_true, reduceIte, xc_i, xc_j, xc_r, xc_n, List.nil_append, List.cons_append, Option.toList_some, Option.toList_none, s3, s4, s2]
    refine by_inv3 cn_65 lk_2_93 (by rw [xe_cnt]; decide) is_66 np_66 cn_66 (by first | exact rfl | assumption) (Nat.le_of_ble_eq_true rfl) ?_
    refine sp_subtract hw s0 s1 h0.2.1 (by decide) hx hy hc (fun h' hr => ?_)
    with_reducible refine xm_go_blk b_X2_reckon_75 k_X2_reckon_75 ?_
    refine by_goto 114 rfl ?_
    with_reducible refine xm_go_blk b_X2_reckon_114 k_X2_reckon_114 ?_
    refine by_ret ry_65 ?_
    exact sub x y c _ hx hy hc rfl (hmm x y c hx hy hc) h' hr
  · with_reducible refine xm_go_blk b_X2_reckon_0 k_X2_reckon_0 ?_
    refine by_iload_n rfl ?_
    refine by_sw ?_
    refine xq_sw 78 (by decide) (by decide) ?_
    with_reducible refine xm_go_blk b_X2_reckon_78 k_X2_reckon_78 ?_
    refine by_aload_n rfl ?_
    refine by_aload_n rfl ?_
    refine by_getf cn_65 fl_2_73 (by first | exact rfl | assumption) (by decide) ?_
    refine by_lconst cl_0 ?_
    refine by_iconst ci_1 ?_
    simp (disch := first | exact Nat.ne_of_beq_eq_false rfl | exact rfl | omega) only [nI_add, xa_sub, xa_mul, pk_div, nm_mod, xa_shr, xa_and7, xa_and1, xa_and255, xa_by_and, nI_m1, Nat.add_sub_cancel, Nat.reducePow, Nat.zero_add, Nat.add_zero, Nat.reduceAdd, Nat.reduceMul, Nat.reduceSub, xf_same, xq_ff, xq_fo, xf_1, xf_2, xs_1, xs_2, xs_same, xq_so, xj_1, xj_2, xj_same, xq_jo, xq_sa1, xq_same, xq_other, upd_s, oI_n, oI_s, xv_0, xv_1, xv_2, xv_3, xm_p1, xm_p2, xq_fp, xq_fn, List.filter_nil, Nat.reduceBEq, Bool.not_true, Bool.not_false, Bool.and_true, Bool.and_false, Bool.false_and, Bool.true_and, if_true, if_false, Bool.false_eq_true, reduceIte, xc_i, xc_j, xc_r, xc_n, List.nil_append, List.cons_append, Option.toList_some, Option.toList_none, s3]
    refine by_inv3 cn_65 lk_2_89 (by rw [xe_cnt]; decide) is_53 np_53 cn_53 (by first | exact rfl | assumption) (Nat.le_of_ble_eq_true rfl) ?_
    refine sp_addWords hw s0 s1 h0.2.1 (by decide) hx hp2 (by decide) (fun h' hr => ?_)
    with_reducible refine xm_go_blk b_X2_reckon_88 k_X2_reckon_88 ?_
    refine by_goto 114 rfl ?_
    with_reducible refine xm_go_blk b_X2_reckon_114 k_X2_reckon_114 ?_
    refine by_ret ry_65 ?_
    exact add 0 x 0 1 hx hp2 (by decide) rfl h' hr
  · with_reducible refine xm_go_blk b_X2_reckon_0 k_X2_reckon_0 ?_
    refine by_iload_n rfl ?_
    refine by_sw ?_
    refine xq_sw 91 (by decide) (by decide) ?_
    with_reducible refine xm_go_blk b_X2_reckon_91 k_X2_reckon_91 ?_
    refine by_aload_n rfl ?_
    refine by_aload_n rfl ?_
    refine by_getf cn_65 fl_2_73 (by first | exact rfl | assumption) (by decide) ?_
    refine by_lconst cl_0 ?_
    refine by_iconst ci_1 ?_
    simp (disch := first | exact Nat.ne_of_beq_eq_false rfl | exact rfl | omega) only [nI_add, xa_sub, xa_mul, pk_div, nm_mod, xa_shr, xa_and7, xa_and1, xa_and255, xa_by_and, nI_m1, Nat.add_sub_cancel, Nat.reducePow, Nat.zero_add, Nat.add_zero, Nat.reduceAdd, Nat.reduceMul, Nat.reduceSub, xf_same, xq_ff, xq_fo, xf_1, xf_2, xs_1, xs_2, xs_same, xq_so, xj_1, xj_2, xj_same, xq_jo, xq_sa1, xq_same, xq_other, upd_s, oI_n, oI_s, xv_0, xv_1, xv_2, xv_3, xm_p1, xm_p2, xq_fp, xq_fn, List.filter_nil, Nat.reduceBEq, Bool.not_true, Bool.not_false, Bool.and_true, Bool.and_false, Bool.false_and, Bool.true_and, if_true, if_false, Bool.false_eq_true, reduceIte, xc_i, xc_j, xc_r, xc_n, List.nil_append, List.cons_append, Option.toList_some, Option.toList_none, s3]
    refine by_inv3 cn_65 lk_2_93 (by rw [xe_cnt]; decide) is_66 np_66 cn_66 (by first | exact rfl | assumption) (Nat.le_of_ble_eq_true rfl) ?_
    refine sp_subtract hw s0 s1 h0.2.1 (by decide) hx hp2 (by decide) (fun h' hr => ?_)
    with_reducible refine xm_go_blk b_X2_reckon_101 k_X2_reckon_101 ?_
    refine by_goto 114 rfl ?_
    with_reducible refine xm_go_blk b_X2_reckon_114 k_X2_reckon_114 ?_
    refine by_ret ry_65 ?_
    refine sub x 0 1 (x + 2 ^ w - 1) hx hp2 (by decide) (by rw [Nat.zero_add]; rfl) ?_ h' hr
    rw [hmm x 0 1 hx hp2 (by decide), show x + 2 ^ w + 2 ^ w - 0 - 1 = x + 2 ^ w - 1 + 2 ^ w by omega, Nat.add_mod_right]
  · with_reducible refine xm_go_blk b_X2_reckon_0 k_X2_reckon_0 ?_
    refine by_iload_n rfl ?_
    refine by_sw ?_
    refine xq_sw 104 (by decide) (by decide) ?_
    with_reducible refine xm_go_blk b_X2_reckon_104 k_X2_reckon_104 ?_
    refine by_aload_n rfl ?_
    refine by_lconst cl_0 ?_
    refine by_aload_n rfl ?_
    refine by_getf cn_65 fl_2_73 (by first | exact rfl | assumption) (by decide) ?_
    refine by_iconst ci_0 ?_
    simp (disch := first | exact Nat.ne_of_beq_eq_false rfl | exact rfl | omega) only [nI_add, xa_sub, xa_mul, pk_div, nm_mod, xa_shr, xa_and7, xa_and1, xa_and255, xa_by_and, nI_m1, Nat.add_sub_cancel, Nat.reducePow, Nat.zero_add, Nat.add_zero, Nat.reduceAdd, Nat.reduceMul, Nat.reduceSub, xf_same, xq_ff, xq_fo, xf_1, xf_2, xs_1, xs_2, xs_same, xq_so, xj_1, xj_2, xj_same, xq_jo, xq_sa1, xq_same, xq_other, upd_s, oI_n, oI_s, xv_0, xv_1, xv_2, xv_3, xm_p1, xm_p2, xq_fp, xq_fn, List.filter_nil, Nat.reduceBEq, Bool.not_true, Bool.not_false, Bool.and_true, Bool.and_false, Bool.false_and, Bool.true_and, if_true, if_false, Bool.false_eq_true, reduceIte, xc_i, xc_j, xc_r, xc_n, List.nil_append, List.cons_append, Option.toList_some, Option.toList_none, s3]
    refine by_inv3 cn_65 lk_2_93 (by rw [xe_cnt]; decide) is_66 np_66 cn_66 (by first | exact rfl | assumption) (Nat.le_of_ble_eq_true rfl) ?_
    refine sp_subtract hw s0 s1 h0.2.1 (by decide) hp2 hx (by decide) (fun h' hr => ?_)
    with_reducible refine xm_go_blk b_X2_reckon_114 k_X2_reckon_114 ?_
    refine by_ret ry_65 ?_
    refine sub 0 x 0 (2 ^ w - x) hp2 hx (by decide) (by rw [Nat.add_zero]; rfl) ?_ h' hr
    rw [hmm 0 x 0 hp2 hx (by decide), show 0 + 2 ^ w + 2 ^ w - x - 0 = 2 ^ w - x + 2 ^ w by omega, Nat.add_mod_right]
theorem lcz {a b : Nat} (ha : a < 2 ^ 64) (hb : b < 2 ^ 64) : (lg_cmp (lN a) (lN b) = 0) = (a = b) := by
  apply propext
  have hi : lN a = lN b ↔ a = b := ⟨fun e => by
    have := congrArg (fun t : Int64 => t.toBitVec.toNat) e
    simp only [wb_tn ha, wb_tn hb] at this
    exact this, fun e => by rw [e]⟩
  constructor
  · intro q
    unfold lg_cmp at q
    by_cases e : lN a = lN b
    · exact hi.mp e
    · exfalso
      by_cases e2 : lN b < lN a
      · rw [if_pos e2] at q; exact absurd q (by decide)
      · rw [if_neg e2, if_neg e] at q; exact absurd q (by decide)
  · intro q
    subst q
    unfold lg_cmp
    rw [if_neg Int64.lt_irrefl, if_pos rfl]
theorem sp_testWord {k : Nat} (hk1 : 19 ≤ k) (hk2 : k ≤ 22) (hw : jw w) (hS : jSt h w c x y z v) (h0 : jS0 h) (hx : x < 2 ^ w)
    (hp : ∀ h' B H L, jRs h h' B H L → jGv 1 w B H L = jL k w c x y z v → post none h') : xm_T (XE sc) (d + 1) 67 [.ref 39, .int (nI k)] h post := by
  obtain ⟨s0, s1, s2, s3, s4, s5, s6⟩ := hS
  have hpw := jw_p hw
  have hx' : x < 2 ^ 64 := by omega
  have z0 := lcz hx' (show 0 < 2 ^ 64 by decide)
  have z1 := lcz hx' (show 1 < 2 ^ 64 by decide)
  have zm := lcz hx' (show 2 ^ w - 1 < 2 ^ 64 by have := Nat.two_pow_pos w; omega)
  have fin : ∀ (P : Prop) [Decidable P], jL k w c x y z v = bbits 1 (if P then 1 else 0) → xm_go (XE sc) (xm_T (XE sc) d) 67 post 100 [(2, .int (nI (if P then 1 else 0))), (0, .ref 39)] [] h := by
    intro P _ hj
    by_cases q : P
    · rw [if_pos q] at hj ⊢
      with_reducible refine xm_go_blk b_X2_testWord_100 k_X2_testWord_100 ?_
      refine by_aload_n rfl ?_
      refine by_iload_n rfl ?_
      refine by_if_eq 109 rfl ?_
      simp (disch := first | exact Nat.ne_of_beq_eq_false rfl | exact rfl | omega) only [nI_add, xa_sub, xa_mul, pk_div, nm_mod, xa_shr, xa_and7, xa_and1, xa_and255, xa_by_and, nI_m1, Nat.add_sub_cancel, Nat.reducePow, Nat.zero_add, Nat.add_zero, Nat.reduceAdd, Nat.reduceMul, Nat.reduceSub, xf_same, xq_ff, xq_fo, xf_1, xf_2, xs_1, xs_2, xs_same, xq_so, xj_1, xj_2, xj_same, xq_jo, xq_sa1, xq_same, xq_other, upd_s, oI_n, oI_s, xv_0, xv_1, xv_2, xv_3, xm_p1, xm_p2, xq_fp, xq_fn, List.filter_nil, Nat.reduceBEq, Bool.not_true, Bool.not_false, Bool.and_true, Bool.and_false, Bool.false_and, Bool.true_and, if_true, if_false, Bool.false_eq_true, reduceIte, xc_i, xc_j, xc_r, xc_n, List.nil_append, List.cons_append, Option.toList_some, Option.toList_none, nI_ltJ, nI_leJ, nI_eqJ, nI_ltz, nI_gez, nI_gtz, nI_lez, nI_eqz, m1_ltz, m1_gez, true_imp_iff, false_imp_iff, true_and, and_true, ne_eq, not_false_eq_true, not_true_eq_false, Nat.reduceEqDiff, Nat.reduceLT, Nat.reduceLeDiff]
      with_reducible refine xm_go_blk b_X2_testWord_105 k_X2_testWord_105 ?_
      refine by_lconst cl_1 ?_
      refine by_goto 110 rfl ?_
      with_reducible refine xm_go_blk b_X2_testWord_110 k_X2_testWord_110 ?_
      refine by_putf cn_67 fl_2_27 (by first | exact rfl | assumption) (by decide) nf_2_7 ft_2_7 (by first | rfl | assumption) (by first | rfl | assumption) ?_
      refine by_ret ry_67 ?_
      exact hp _ 1 0 0 (jR_bit h0 (by decide)) hj.symm
    · rw [if_neg q] at hj ⊢
      with_reducible refine xm_go_blk b_X2_testWord_100 k_X2_testWord_100 ?_
      refine by_aload_n rfl ?_
      refine by_iload_n rfl ?_
      refine by_if_eq 109 rfl ?_
      simp (disch := first | exact Nat.ne_of_beq_eq_false rfl | exact rfl | omega) only [nI_add, xa_sub, xa_mul, pk_div, nm_mod, xa_shr, xa_and7, xa_and1, xa_and255, xa_by_and, nI_m1, Nat.add_sub_cancel, Nat.reducePow, Nat.zero_add, Nat.add_zero, Nat.reduceAdd, Nat.reduceMul, Nat.reduceSub, xf_same, xq_ff, xq_fo, xf_1, xf_2, xs_1, xs_2, xs_same, xq_so, xj_1, xj_2, xj_same, xq_jo, xq_sa1, xq_same, xq_other, upd_s, oI_n, oI_s, xv_0, xv_1, xv_2, xv_3, xm_p1, xm_p2, xq_fp, xq_fn, List.filter_nil, Nat.reduceBEq, Bool.not_true, Bool.not_false, Bool.and_true, Bool.and_false, Bool.false_and, Bool.true_and, if_true, if_false, Bool.false_eq_true, reduceIte, xc_i, xc_j, xc_r, xc_n, List.nil_append, List.cons_append, Option.toList_some, Option.toList_none, nI_ltJ, nI_leJ, nI_eqJ, nI_ltz, nI_gez, nI_gtz, nI_lez, nI_eqz, m1_ltz, m1_gez, true_imp_iff, false_imp_iff, true_and, and_true, ne_eq, not_false_eq_true, not_true_eq_false, Nat.reduceEqDiff, Nat.reduceLT, Nat.reduceLeDiff]
      with_reducible refine xm_go_blk b_X2_testWord_109 k_X2_testWord_109 ?_
      refine by_lconst cl_0 ?_
      refine by_nil ?_
      with_reducible refine xm_go_blk b_X2_testWord_110 k_X2_testWord_110 ?_
      refine by_putf cn_67 fl_2_27 (by first | exact rfl | assumption) (by decide) nf_2_7 ft_2_7 (by first | rfl | assumption) (by first | rfl | assumption) ?_
      refine by_ret ry_67 ?_
      exact hp _ 0 0 0 (jR_bit h0 (by decide)) hj.symm
  refine xq_in rfl ?_
  simp only [xq_a0, xq_aI, xq_aJ, xq_aR, Nat.reduceAdd]
  rcases (by omega : k = 19 ∨ k = 20 ∨ k = 21 ∨ k = 22) with rfl | rfl | rfl | rfl
  · by_cases q : x = 0
    · have q' : (x = 0) = True := eq_true q
      with_reducible refine xm_go_blk b_X2_testWord_0 k_X2_testWord_0 ?_
      refine by_iload_n rfl ?_
      refine by_sw ?_
      refine xq_sw 28 (by decide) (by decide) ?_
      with_reducible refine xm_go_blk b_X2_testWord_28 k_X2_testWord_28 ?_
      refine by_aload_n rfl ?_
      refine by_getf cn_67 fl_2_73 (by first | exact rfl | assumption) (by decide) ?_
      refine by_lconst cl_0 ?_
      simp (disch := first | exact Nat.ne_of_beq_eq_false rfl | exact rfl | omega) only [nI_add, xa_sub, xa_mul, pk_div, nm_mod, xa_shr, xa_and7, xa_and1, xa_and255, xa_by_and, nI_m1, Nat.add_sub_cancel, Nat.reducePow, Nat.zero_add, Nat.add_zero, Nat.reduceAdd, Nat.reduceMul, Nat.reduceSub, xf_same, xq_ff, xq_fo, xf_1, xf_2, xs_1, xs_2, xs_same, xq_so, xj_1, xj_2, xj_same, xq_jo, xq_sa1, xq_same, xq_other, upd_s, oI_n, oI_s, s3, z0, q']
      refine by_lcmp ?_
      refine by_if_ne 41 rfl ?_
      simp (disch := first | exact Nat.ne_of_beq_eq_false rfl | exact rfl | omega) only [nI_add, xa_sub, xa_mul, pk_div, nm_mod, xa_shr, xa_and7, xa_and1, xa_and255, xa_by_and, nI_m1, Nat.add_sub_cancel, Nat.reducePow, Nat.zero_add, Nat.add_zero, Nat.reduceAdd, Nat.reduceMul, Nat.reduceSub, xf_same, xq_ff, xq_fo, xf_1, xf_2, xs_1, xs_2, xs_same, xq_so, xj_1, xj_2, xj_same, xq_jo, xq_sa1, xq_same, xq_other, upd_s, oI_n, oI_s, xv_0, xv_1, xv_2, xv_3, xm_p1, xm_p2, xq_fp, xq_fn, List.filter_nil, Nat.reduceBEq, Bool.not_true, Bool.not_false, Bool.and_true, Bool.and_false, Bool.false_and, Bool.true_and, if_true, if_false, Bool.false_eq_true, reduceIte, xc_i, xc_j, xc_r, xc_n, List.nil_append, List.cons_append, Option.toList_some, Option.toList_none, nI_ltJ, nI_leJ, nI_eqJ, nI_ltz, nI_gez, nI_gtz, nI_lez, nI_eqz, m1_ltz, m1_gez, true_imp_iff, false_imp_iff, true_and, and_true, ne_eq, not_false_eq_true, not_true_eq_false, Nat.reduceEqDiff, Nat.reduceLT, Nat.reduceLeDiff, s3, z0, q']
      with_reducible refine xm_go_blk b_X2_testWord_37 k_X2_testWord_37 ?_
      refine by_iconst ci_1 ?_
      refine by_goto 42 rfl ?_
      with_reducible refine xm_go_blk b_X2_testWord_42 k_X2_testWord_42 ?_
      refine by_istore_n (by rw [ml_67]; decide) ?_
      refine by_goto 100 rfl ?_
      try simp (disch := first | exact Nat.ne_of_beq_eq_false rfl | exact rfl | omega) only [nI_add, xa_sub, xa_mul, pk_div, nm_mod, xa_shr, xa_and7, xa_and1, xa_and255, xa_by_and, nI_m1, Nat.add_sub_cancel, Nat.reducePow, Nat.zero_add, Nat.add_zero, Nat.reduceAdd, Nat.reduceMul, Nat.reduceSub, xf_same, xq_ff, xq_fo, xf_1, xf_2, xs_1, xs_2, xs_same, xq_so, xj_1, xj_2, xj_same, xq_jo, xq_sa1, xq_same, xq_other, upd_s, oI_n, oI_s, xv_0, xv_1, xv_2, xv_3, xm_p1, xm_p2, xq_fp, xq_fn, List.filter_nil, Nat.reduceBEq, Bool.not_true, Bool.not_false, Bool.and_true, Bool.and_false, Bool.false_and, Bool.true_and, if_true, if_false, Bool.false_eq_true, reduceIte, xc_i, xc_j, xc_r, xc_n, List.nil_append, List.cons_append, Option.toList_some, Option.toList_none, s3, z0, q']
      have := fin (x = 0) rfl
      rw [if_pos q] at this
      exact xm_go_wk (by simp [Value.category]) this
    · have q' : (x = 0) = False := eq_false q
      with_reducible refine xm_go_blk b_X2_testWord_0 k_X2_testWord_0 ?_
      refine by_iload_n rfl ?_
      refine by_sw ?_
      refine xq_sw 28 (by decide) (by decide) ?_
      with_reducible refine xm_go_blk b_X2_testWord_28 k_X2_testWord_28 ?_
      refine by_aload_n rfl ?_
      refine by_getf cn_67 fl_2_73 (by first | exact rfl | assumption) (by decide) ?_
      refine by_lconst cl_0 ?_
      simp (disch := first | exact Nat.ne_of_beq_eq_false rfl | exact rfl | omega) only [nI_add, xa_sub, xa_mul, pk_div, nm_mod, xa_shr, xa_and7, xa_and1, xa_and255, xa_by_and, nI_m1, Nat.add_sub_cancel, Nat.reducePow, Nat.zero_add, Nat.add_zero, Nat.reduceAdd, Nat.reduceMul, Nat.reduceSub, xf_same, xq_ff, xq_fo, xf_1, xf_2, xs_1, xs_2, xs_same, xq_so, xj_1, xj_2, xj_same, xq_jo, xq_sa1, xq_same, xq_other, upd_s, oI_n, oI_s, s3, z0, q']
      refine by_lcmp ?_
      refine by_if_ne 41 rfl ?_
      simp (disch := first | exact Nat.ne_of_beq_eq_false rfl | exact rfl | omega) only [nI_add, xa_sub, xa_mul, pk_div, nm_mod, xa_shr, xa_and7, xa_and1, xa_and255, xa_by_and, nI_m1, Nat.add_sub_cancel, Nat.reducePow, Nat.zero_add, Nat.add_zero, Nat.reduceAdd, Nat.reduceMul, Nat.reduceSub, xf_same, xq_ff, xq_fo, xf_1, xf_2, xs_1, xs_2, xs_same, xq_so, xj_1, xj_2, xj_same, xq_jo, xq_sa1, xq_same, xq_other, upd_s, oI_n, oI_s, xv_0, xv_1, xv_2, xv_3, xm_p1, xm_p2, xq_fp, xq_fn, List.filter_nil, Nat.reduceBEq, Bool.not_true, Bool.not_false, Bool.and_true, Bool.and_false, Bool.false_and, Bool.true_and, if_true, if_false, Bool.false_eq_true, reduceIte, xc_i, xc_j, xc_r, xc_n, List.nil_append, List.cons_append, Option.toList_some, Option.toList_none, nI_ltJ, nI_leJ, nI_eqJ, nI_ltz, nI_gez, nI_gtz, nI_lez, nI_eqz, m1_ltz, m1_gez, true_imp_iff, false_imp_iff, true_and, and_true, ne_eq, not_false_eq_true, not_true_eq_false, Nat.reduceEqDiff, Nat.reduceLT, Nat.reduceLeDiff, s3, z0, q']
      with_reducible refine xm_go_blk b_X2_testWord_41 k_X2_testWord_41 ?_
      refine by_iconst ci_0 ?_
      refine by_nil ?_
      with_reducible refine xm_go_blk b_X2_testWord_42 k_X2_testWord_42 ?_
      refine by_istore_n (by rw [ml_67]; decide) ?_
      refine by_goto 100 rfl ?_
      try simp (disch := first | exact Nat.ne_of_beq_eq_false rfl | exact rfl | omega) only [nI_add, xa_sub, xa_mul, pk_div, nm_mod, xa_shr, xa_and7, xa_and1, xa_and255, xa_by_and, nI_m1, Nat.add_sub_cancel, Nat.reducePow, Nat.zero_add, Nat.add_zero, Nat.reduceAdd, Nat.reduceMul, Nat.reduceSub, xf_same, xq_ff, xq_fo, xf_1, xf_2, xs_1, xs_2, xs_same, xq_so, xj_1, xj_2, xj_same, xq_jo, xq_sa1, xq_same, xq_other, upd_s, oI_n, oI_s, xv_0, xv_1, xv_2, xv_3, xm_p1, xm_p2, xq_fp, xq_fn, List.filter_nil, Nat.reduceBEq, Bool.not_true, Bool.not_false, Bool.and_true, Bool.and_false, Bool.false_and, Bool.true_and, if_true, if_false, Bool.false_eq_true, reduceIte, xc_i, xc_j, xc_r, xc_n, List.nil_append, List.cons_append, Option.toList_some, Option.toList_none, s3, z0, q']
      have := fin (x = 0) rfl
      rw [if_neg q] at this
      exact xm_go_wk (by simp [Value.category]) this
  · by_cases q : x = 1
    · have q' : (x = 1) = True := eq_true q
      with_reducible refine xm_go_blk b_X2_testWord_0 k_X2_testWord_0 ?_
      refine by_iload_n rfl ?_
      refine by_sw ?_
      refine xq_sw 46 (by decide) (by decide) ?_
      with_reducible refine xm_go_blk b_X2_testWord_46 k_X2_testWord_46 ?_
      refine by_aload_n rfl ?_
      refine by_getf cn_67 fl_2_73 (by first | exact rfl | assumption) (by decide) ?_
      refine by_lconst cl_1 ?_
      simp (disch := first | exact Nat.ne_of_beq_eq_false rfl | exact rfl | omega) only [nI_add, xa_sub, xa_mul, pk_div, nm_mod, xa_shr, xa_and7, xa_and1, xa_and255, xa_by_and, nI_m1, Nat.add_sub_cancel, Nat.reducePow, Nat.zero_add, Nat.add_zero, Nat.reduceAdd, Nat.reduceMul, Nat.reduceSub, xf_same, xq_ff, xq_fo, xf_1, xf_2, xs_1, xs_2, xs_same, xq_so, xj_1, xj_2, xj_same, xq_jo, xq_sa1, xq_same, xq_other, upd_s, oI_n, oI_s, s3, z1, q']
      refine by_lcmp ?_
      refine by_if_ne 59 rfl ?_
      simp (disch := first | exact Nat.ne_of_beq_eq_false rfl | exact rfl | omega) only [nI_add, xa_sub, xa_mul, pk_div, nm_mod, xa_shr, xa_and7, xa_and1, xa_and255, xa_by_and, nI_m1, Nat.add_sub_cancel, Nat.reducePow, Nat.zero_add, Nat.add_zero, Nat.reduceAdd, Nat.reduceMul, Nat.reduceSub, xf_same, xq_ff, xq_fo, xf_1, xf_2, xs_1, xs_2, xs_same, xq_so, xj_1, xj_2, xj_same, xq_jo, xq_sa1, xq_same, xq_other, upd_s, oI_n, oI_s, xv_0, xv_1, xv_2, xv_3, xm_p1, xm_p2, xq_fp, xq_fn, List.filter_nil, Nat.reduceBEq, Bool.not_true, Bool.not_false, Bool.and_true, Bool.and_false, Bool.false_and, Bool.true_and, if_true, if_false, Bool.false_eq_true, reduceIte, xc_i, xc_j, xc_r, xc_n, List.nil_append, List.cons_append, Option.toList_some, Option.toList_none, nI_ltJ, nI_leJ, nI_eqJ, nI_ltz, nI_gez, nI_gtz, nI_lez, nI_eqz, m1_ltz, m1_gez, true_imp_iff, false_imp_iff, true_and, and_true, ne_eq, not_false_eq_true, not_true_eq_false, Nat.reduceEqDiff, Nat.reduceLT, Nat.reduceLeDiff, s3, z1, q']
      with_reducible refine xm_go_blk b_X2_testWord_55 k_X2_testWord_55 ?_
      refine by_iconst ci_1 ?_
      refine by_goto 60 rfl ?_
      with_reducible refine xm_go_blk b_X2_testWord_60 k_X2_testWord_60 ?_
      refine by_istore_n (by rw [ml_67]; decide) ?_
      refine by_goto 100 rfl ?_
      try simp (disch := first | exact Nat.ne_of_beq_eq_false rfl | exact rfl | omega) only [nI_add, xa_sub, xa_mul, pk_div, nm_mod, xa_shr, xa_and7, xa_and1, xa_and255, xa_by_and, nI_m1, Nat.add_sub_cancel, Nat.reducePow, Nat.zero_add, Nat.add_zero, Nat.reduceAdd, Nat.reduceMul, Nat.reduceSub, xf_same, xq_ff, xq_fo, xf_1, xf_2, xs_1, xs_2, xs_same, xq_so, xj_1, xj_2, xj_same, xq_jo, xq_sa1, xq_same, xq_other, upd_s, oI_n, oI_s, xv_0, xv_1, xv_2, xv_3, xm_p1, xm_p2, xq_fp, xq_fn, List.filter_nil, Nat.reduceBEq, Bool.not_true, Bool.not_false, Bool.and_true, Bool.and_false, Bool.false_and, Bool.true_and, if_true, if_false, Bool.false_eq_true, reduceIte, xc_i, xc_j, xc_r, xc_n, List.nil_append, List.cons_append, Option.toList_some, Option.toList_none, s3, z1, q']
      have := fin (x = 1) rfl
      rw [if_pos q] at this
      exact xm_go_wk (by simp [Value.category]) this
    · have q' : (x = 1) = False := eq_false q
      with_reducible refine xm_go_blk b_X2_testWord_0 k_X2_testWord_0 ?_
      refine by_iload_n rfl ?_
      refine by_sw ?_
      refine xq_sw 46 (by decide) (by decide) ?_
      with_reducible refine xm_go_blk b_X2_testWord_46 k_X2_testWord_46 ?_
      refine by_aload_n rfl ?_
      refine by_getf cn_67 fl_2_73 (by first | exact rfl | assumption) (by decide) ?_
      refine by_lconst cl_1 ?_
      simp (disch := first | exact Nat.ne_of_beq_eq_false rfl | exact rfl | omega) only [nI_add, xa_sub, xa_mul, pk_div, nm_mod, xa_shr, xa_and7, xa_and1, xa_and255, xa_by_and, nI_m1, Nat.add_sub_cancel, Nat.reducePow, Nat.zero_add, Nat.add_zero, Nat.reduceAdd, Nat.reduceMul, Nat.reduceSub, xf_same, xq_ff, xq_fo, xf_1, xf_2, xs_1, xs_2, xs_same, xq_so, xj_1, xj_2, xj_same, xq_jo, xq_sa1, xq_same, xq_other, upd_s, oI_n, oI_s, s3, z1, q']
      refine by_lcmp ?_
      refine by_if_ne 59 rfl ?_
      simp (disch := first | exact Nat.ne_of_beq_eq_false rfl | exact rfl | omega) only [nI_add, xa_sub, xa_mul, pk_div, nm_mod, xa_shr, xa_and7, xa_and1, xa_and255, xa_by_and, nI_m1, Nat.add_sub_cancel, Nat.reducePow, Nat.zero_add, Nat.add_zero, Nat.reduceAdd, Nat.reduceMul, Nat.reduceSub, xf_same, xq_ff, xq_fo, xf_1, xf_2, xs_1, xs_2, xs_same, xq_so, xj_1, xj_2, xj_same, xq_jo, xq_sa1, xq_same, xq_other, upd_s, oI_n, oI_s, xv_0, xv_1, xv_2, xv_3, xm_p1, xm_p2, xq_fp, xq_fn, List.filter_nil, Nat.reduceBEq, Bool.not_true, Bool.not_false, Bool.and_true, Bool.and_false, Bool.false_and, Bool.true_and, if_true, if_false, Bool.false_eq_true, reduceIte, xc_i, xc_j, xc_r, xc_n, List.nil_append, List.cons_append, Option.toList_some, Option.toList_none, nI_ltJ, nI_leJ, nI_eqJ, nI_ltz, nI_gez, nI_gtz, nI_lez, nI_eqz, m1_ltz, m1_gez, true_imp_iff, false_imp_iff, true_and, and_true, ne_eq, not_false_eq_true, not_true_eq_false, Nat.reduceEqDiff, Nat.reduceLT, Nat.reduceLeDiff, s3, z1, q']
      with_reducible refine xm_go_blk b_X2_testWord_59 k_X2_testWord_59 ?_
      refine by_iconst ci_0 ?_
      refine by_nil ?_
      with_reducible refine xm_go_blk b_X2_testWord_60 k_X2_testWord_60 ?_
      refine by_istore_n (by rw [ml_67]; decide) ?_
      refine by_goto 100 rfl ?_
      try simp (disch := first | exact Nat.ne_of_beq_eq_false rfl | exact rfl | omega) only [nI_add, xa_sub, xa_mul, pk_div, nm_mod, xa_shr, xa_and7, xa_and1, xa_and255, xa_by_and, nI_m1, Nat.add_sub_cancel, Nat.reducePow, Nat.zero_add, Nat.add_zero, Nat.reduceAdd, Nat.reduceMul, Nat.reduceSub, xf_same, xq_ff, xq_fo, xf_1, xf_2, xs_1, xs_2, xs_same, xq_so, xj_1, xj_2, xj_same, xq_jo, xq_sa1, xq_same, xq_other, upd_s, oI_n, oI_s, xv_0, xv_1, xv_2, xv_3, xm_p1, xm_p2, xq_fp, xq_fn, List.filter_nil, Nat.reduceBEq, Bool.not_true, Bool.not_false, Bool.and_true, Bool.and_false, Bool.false_and, Bool.true_and, if_true, if_false, Bool.false_eq_true, reduceIte, xc_i, xc_j, xc_r, xc_n, List.nil_append, List.cons_append, Option.toList_some, Option.toList_none, s3, z1, q']
      have := fin (x = 1) rfl
      rw [if_neg q] at this
      exact xm_go_wk (by simp [Value.category]) this
  · by_cases q : x = 2 ^ w - 1
    · have q' : (x = 2 ^ w - 1) = True := eq_true q
      with_reducible refine xm_go_blk b_X2_testWord_0 k_X2_testWord_0 ?_
      refine by_iload_n rfl ?_
      refine by_sw ?_
      refine xq_sw 64 (by decide) (by decide) ?_
      with_reducible refine xm_go_blk b_X2_testWord_64 k_X2_testWord_64 ?_
      refine by_aload_n rfl ?_
      refine by_getf cn_67 fl_2_73 (by first | exact rfl | assumption) (by decide) ?_
      refine by_aload_n rfl ?_
      refine by_getf cn_67 fl_2_15 (by first | exact rfl | assumption) (by decide) ?_
      simp (disch := first | exact Nat.ne_of_beq_eq_false rfl | exact rfl | omega) only [nI_add, xa_sub, xa_mul, pk_div, nm_mod, xa_shr, xa_and7, xa_and1, xa_and255, xa_by_and, nI_m1, Nat.add_sub_cancel, Nat.reducePow, Nat.zero_add, Nat.add_zero, Nat.reduceAdd, Nat.reduceMul, Nat.reduceSub, xf_same, xq_ff, xq_fo, xf_1, xf_2, xs_1, xs_2, xs_same, xq_so, xj_1, xj_2, xj_same, xq_jo, xq_sa1, xq_same, xq_other, upd_s, oI_n, oI_s, s3, s1, zm, q']
      refine by_lcmp ?_
      refine by_if_ne 80 rfl ?_
      simp (disch := first | exact Nat.ne_of_beq_eq_false rfl | exact rfl | omega) only [nI_add, xa_sub, xa_mul, pk_div, nm_mod, xa_shr, xa_and7, xa_and1, xa_and255, xa_by_and, nI_m1, Nat.add_sub_cancel, Nat.reducePow, Nat.zero_add, Nat.add_zero, Nat.reduceAdd, Nat.reduceMul, Nat.reduceSub, xf_same, xq_ff, xq_fo, xf_1, xf_2, xs_1, xs_2, xs_same, xq_so, xj_1, xj_2, xj_same, xq_jo, xq_sa1, xq_same, xq_other, upd_s, oI_n, oI_s, xv_0, xv_1, xv_2, xv_3, xm_p1, xm_p2, xq_fp, xq_fn, List.filter_nil, Nat.reduceBEq, Bool.not_true, Bool.not_false, Bool.and_true, Bool.and_false, Bool.false_and, Bool.true_and, if_true, if_false, Bool.false_eq_true, reduceIte, xc_i, xc_j, xc_r, xc_n, List.nil_append, List.cons_append, Option.toList_some, Option.toList_none, nI_ltJ, nI_leJ, nI_eqJ, nI_ltz, nI_gez, nI_gtz, nI_lez, nI_eqz, m1_ltz, m1_gez, true_imp_iff, false_imp_iff, true_and, and_true, ne_eq, not_false_eq_true, not_true_eq_false, Nat.reduceEqDiff, Nat.reduceLT, Nat.reduceLeDiff, s3, s1, zm, q']
      with_reducible refine xm_go_blk b_X2_testWord_76 k_X2_testWord_76 ?_
      refine by_iconst ci_1 ?_
      refine by_goto 81 rfl ?_
      with_reducible refine xm_go_blk b_X2_testWord_81 k_X2_testWord_81 ?_
      refine by_istore_n (by rw [ml_67]; decide) ?_
      refine by_goto 100 rfl ?_
      try simp (disch := first | exact Nat.ne_of_beq_eq_false rfl | exact rfl | omega) only [nI_add, xa_sub, xa_mul, pk_div, nm_mod, xa_shr, xa_and7, xa_and1, xa_and255, xa_by_and, nI_m1, Nat.add_sub_cancel, Nat.reducePow, Nat.zero_add, Nat.add_zero, Nat.reduceAdd, Nat.reduceMul, Nat.reduceSub, xf_same, xq_ff, xq_fo, xf_1, xf_2, xs_1, xs_2, xs_same, xq_so, xj_1, xj_2, xj_same, xq_jo, xq_sa1, xq_same, xq_other, upd_s, oI_n, oI_s, xv_0, xv_1, xv_2, xv_3, xm_p1, xm_p2, xq_fp, xq_fn, List.filter_nil, Nat.reduceBEq, Bool.not_true, Bool.not_false, Bool.and_true, Bool.and_false, Bool.false_and, Bool.true_and, if_true, if_false, Bool.false_eq_true, reduceIte, xc_i, xc_j, xc_r, xc_n, List.nil_append, List.cons_append, Option.toList_some, Option.toList_none, s3, s1, zm, q']
      have := fin (x = 2 ^ w - 1) rfl
      rw [if_pos q] at this
      exact xm_go_wk (by simp [Value.category]) this
    · have q' : (x = 2 ^ w - 1) = False := eq_false q
      with_reducible refine xm_go_blk b_X2_testWord_0 k_X2_testWord_0 ?_
      refine by_iload_n rfl ?_
      refine by_sw ?_
      refine xq_sw 64 (by decide) (by decide) ?_
      with_reducible refine xm_go_blk b_X2_testWord_64 k_X2_testWord_64 ?_
      refine by_aload_n rfl ?_
      refine by_getf cn_67 fl_2_73 (by first | exact rfl | assumption) (by decide) ?_
      refine by_aload_n rfl ?_
      refine by_getf cn_67 fl_2_15 (by first | exact rfl | assumption) (by decide) ?_
      simp (disch := first | exact Nat.ne_of_beq_eq_false rfl | exact rfl | omega) only [nI_add, xa_sub, xa_mul, pk_div, nm_mod, xa_shr, xa_and7, xa_and1, xa_and255, xa_by_and, nI_m1, Nat.add_sub_cancel, Nat.reducePow, Nat.zero_add, Nat.add_zero, Nat.reduceAdd, Nat.reduceMul, Nat.reduceSub, xf_same, xq_ff, xq_fo, xf_1, xf_2, xs_1, xs_2, xs_same, xq_so, xj_1, xj_2, xj_same, xq_jo, xq_sa1, xq_same, xq_other, upd_s, oI_n, oI_s, s3, s1, zm, q']
      refine by_lcmp ?_
      refine by_if_ne 80 rfl ?_
      simp (disch := first | exact Nat.ne_of_beq_eq_false rfl | exact rfl | omega) only [nI_add, xa_sub, xa_mul, pk_div, nm_mod, xa_shr, xa_and7, xa_and1, xa_and255, xa_by_and, nI_m1, Nat.add_sub_cancel, Nat.reducePow, Nat.zero_add, Nat.add_zero, Nat.reduceAdd, Nat.reduceMul, Nat.reduceSub, xf_same, xq_ff, xq_fo, xf_1, xf_2, xs_1, xs_2, xs_same, xq_so, xj_1, xj_2, xj_same, xq_jo, xq_sa1, xq_same, xq_other, upd_s, oI_n, oI_s, xv_0, xv_1, xv_2, xv_3, xm_p1, xm_p2, xq_fp, xq_fn, List.filter_nil, Nat.reduceBEq, Bool.not_true, Bool.not_false, Bool.and_true, Bool.and_false, Bool.false_and, Bool.true_and, if_true, if_false, Bool.false_eq_true, reduceIte, xc_i, xc_j, xc_r, xc_n, List.nil_append, List.cons_append, Option.toList_some, Option.toList_none, nI_ltJ, nI_leJ, nI_eqJ, nI_ltz, nI_gez, nI_gtz, nI_lez, nI_eqz, m1_ltz, m1_gez, true_imp_iff, false_imp_iff, true_and, and_true, ne_eq, not_false_eq_true, not_true_eq_false, Nat.reduceEqDiff, Nat.reduceLT, Nat.reduceLeDiff, s3, s1, zm, q']
      with_reducible refine xm_go_blk b_X2_testWord_80 k_X2_testWord_80 ?_
      refine by_iconst ci_0 ?_
      refine by_nil ?_
      with_reducible refine xm_go_blk b_X2_testWord_81 k_X2_testWord_81 ?_
      refine by_istore_n (by rw [ml_67]; decide) ?_
      refine by_goto 100 rfl ?_
      try simp (disch := first | exact Nat.ne_of_beq_eq_false rfl | exact rfl | omega) only [nI_add, xa_sub, xa_mul, pk_div, nm_mod, xa_shr, xa_and7, xa_and1, xa_and255, xa_by_and, nI_m1, Nat.add_sub_cancel, Nat.reducePow, Nat.zero_add, Nat.add_zero, Nat.reduceAdd, Nat.reduceMul, Nat.reduceSub, xf_same, xq_ff, xq_fo, xf_1, xf_2, xs_1, xs_2, xs_same, xq_so, xj_1, xj_2, xj_same, xq_jo, xq_sa1, xq_same, xq_other, upd_s, oI_n, oI_s, xv_0, xv_1, xv_2, xv_3, xm_p1, xm_p2, xq_fp, xq_fn, List.filter_nil, Nat.reduceBEq, Bool.not_true, Bool.not_false, Bool.and_true, Bool.and_false, Bool.false_and, Bool.true_and, if_true, if_false, Bool.false_eq_true, reduceIte, xc_i, xc_j, xc_r, xc_n, List.nil_append, List.cons_append, Option.toList_some, Option.toList_none, s3, s1, zm, q']
      have := fin (x = 2 ^ w - 1) rfl
      rw [if_neg q] at this
      exact xm_go_wk (by simp [Value.category]) this
  · by_cases q : x = 0
    · have q' : (x = 0) = True := eq_true q
      with_reducible refine xm_go_blk b_X2_testWord_0 k_X2_testWord_0 ?_
      refine by_iload_n rfl ?_
      refine by_sw ?_
      refine xq_sw 85 (by decide) (by decide) ?_
      with_reducible refine xm_go_blk b_X2_testWord_85 k_X2_testWord_85 ?_
      refine by_aload_n rfl ?_
      refine by_getf cn_67 fl_2_73 (by first | exact rfl | assumption) (by decide) ?_
      refine by_lconst cl_0 ?_
      simp (disch := first | exact Nat.ne_of_beq_eq_false rfl | exact rfl | omega) only [nI_add, xa_sub, xa_mul, pk_div, nm_mod, xa_shr, xa_and7, xa_and1, xa_and255, xa_by_and, nI_m1, Nat.add_sub_cancel, Nat.reducePow, Nat.zero_add, Nat.add_zero, Nat.reduceAdd, Nat.reduceMul, Nat.reduceSub, xf_same, xq_ff, xq_fo, xf_1, xf_2, xs_1, xs_2, xs_same, xq_so, xj_1, xj_2, xj_same, xq_jo, xq_sa1, xq_same, xq_other, upd_s, oI_n, oI_s, s3, z0, q']
      refine by_lcmp ?_
      refine by_if_eq 98 rfl ?_
      simp (disch := first | exact Nat.ne_of_beq_eq_false rfl | exact rfl | omega) only [nI_add, xa_sub, xa_mul, pk_div, nm_mod, xa_shr, xa_and7, xa_and1, xa_and255, xa_by_and, nI_m1, Nat.add_sub_cancel, Nat.reducePow, Nat.zero_add, Nat.add_zero, Nat.reduceAdd, Nat.reduceMul, Nat.reduceSub, xf_same, xq_ff, xq_fo, xf_1, xf_2, xs_1, xs_2, xs_same, xq_so, xj_1, xj_2, xj_same, xq_jo, xq_sa1, xq_same, xq_other, upd_s, oI_n, oI_s, xv_0, xv_1, xv_2, xv_3, xm_p1, xm_p2, xq_fp, xq_fn, List.filter_nil, Nat.reduceBEq, Bool.not_true, Bool.not_false, Bool.and_true, Bool.and_false, Bool.false_and, Bool.true_and, if_true, if_false, Bool.false_eq_true, reduceIte, xc_i, xc_j, xc_r, xc_n, List.nil_append, List.cons_append, Option.toList_some, Option.toList_none, nI_ltJ, nI_leJ, nI_eqJ, nI_ltz, nI_gez, nI_gtz, nI_lez, nI_eqz, m1_ltz, m1_gez, true_imp_iff, false_imp_iff, true_and, and_true, ne_eq, not_false_eq_true, not_true_eq_false, Nat.reduceEqDiff, Nat.reduceLT, Nat.reduceLeDiff, s3, z0, q']
      with_reducible refine xm_go_blk b_X2_testWord_98 k_X2_testWord_98 ?_
      refine by_iconst ci_0 ?_
      refine by_nil ?_
      with_reducible refine xm_go_blk b_X2_testWord_99 k_X2_testWord_99 ?_
      refine by_istore_n (by rw [ml_67]; decide) ?_
      refine by_nil ?_
      try simp (disch := first | exact Nat.ne_of_beq_eq_false rfl | exact rfl | omega) only [nI_add, xa_sub, xa_mul, pk_div, nm_mod, xa_shr, xa_and7, xa_and1, xa_and255, xa_by_and, nI_m1, Nat.add_sub_cancel, Nat.reducePow, Nat.zero_add, Nat.add_zero, Nat.reduceAdd, Nat.reduceMul, Nat.reduceSub, xf_same, xq_ff, xq_fo, xf_1, xf_2, xs_1, xs_2, xs_same, xq_so, xj_1, xj_2, xj_same, xq_jo, xq_sa1, xq_same, xq_other, upd_s, oI_n, oI_s, xv_0, xv_1, xv_2, xv_3, xm_p1, xm_p2, xq_fp, xq_fn, List.filter_nil, Nat.reduceBEq, Bool.not_true, Bool.not_false, Bool.and_true, Bool.and_false, Bool.false_and, Bool.true_and, if_true, if_false, Bool.false_eq_true, reduceIte, xc_i, xc_j, xc_r, xc_n, List.nil_append, List.cons_append, Option.toList_some, Option.toList_none, s3, z0, q']
      have := fin (x ≠ 0) rfl
      rw [if_neg (fun z => z q)] at this
      exact xm_go_wk (by simp [Value.category]) this
    · have q' : (x = 0) = False := eq_false q
      with_reducible refine xm_go_blk b_X2_testWord_0 k_X2_testWord_0 ?_
      refine by_iload_n rfl ?_
      refine by_sw ?_
      refine xq_sw 85 (by decide) (by decide) ?_
      with_reducible refine xm_go_blk b_X2_testWord_85 k_X2_testWord_85 ?_
      refine by_aload_n rfl ?_
      refine by_getf cn_67 fl_2_73 (by first | exact rfl | assumption) (by decide) ?_
      refine by_lconst cl_0 ?_
      simp (disch := first | exact Nat.ne_of_beq_eq_false rfl | exact rfl | omega) only [nI_add, xa_sub, xa_mul, pk_div, nm_mod, xa_shr, xa_and7, xa_and1, xa_and255, xa_by_and, nI_m1, Nat.add_sub_cancel, Nat.reducePow, Nat.zero_add, Nat.add_zero, Nat.reduceAdd, Nat.reduceMul, Nat.reduceSub, xf_same, xq_ff, xq_fo, xf_1, xf_2, xs_1, xs_2, xs_same, xq_so, xj_1, xj_2, xj_same, xq_jo, xq_sa1, xq_same, xq_other, upd_s, oI_n, oI_s, s3, z0, q']
      refine by_lcmp ?_
      refine by_if_eq 98 rfl ?_
      simp (disch := first | exact Nat.ne_of_beq_eq_false rfl | exact rfl | omega) only [nI_add, xa_sub, xa_mul, pk_div, nm_mod, xa_shr, xa_and7, xa_and1, xa_and255, xa_by_and, nI_m1, Nat.add_sub_cancel, Nat.reducePow, Nat.zero_add, Nat.add_zero, Nat.reduceAdd, Nat.reduceMul, Nat.reduceSub, xf_same, xq_ff, xq_fo, xf_1, xf_2, xs_1, xs_2, xs_same, xq_so, xj_1, xj_2, xj_same, xq_jo, xq_sa1, xq_same, xq_other, upd_s, oI_n, oI_s, xv_0, xv_1, xv_2, xv_3, xm_p1, xm_p2, xq_fp, xq_fn, List.filter_nil, Nat.reduceBEq, Bool.not_true, Bool.not_false, Bool.and_true, Bool.and_false, Bool.false_and, Bool.true_and, if_true, if_false, Bool.false_eq_true, reduceIte, xc_i, xc_j, xc_r, xc_n, List.nil_append, List.cons_append, Option.toList_some, Option.toList_none, nI_ltJ, nI_leJ, nI_eqJ, nI_ltz, nI_gez, nI_gtz, nI_lez, nI_eqz, m1_ltz, m1_gez, true_imp_iff, false_imp_iff, true_and, and_true, ne_eq, not_false_eq_true, not_true_eq_false, Nat.reduceEqDiff, Nat.reduceLT, Nat.reduceLeDiff, s3, z0, q']
      with_reducible refine xm_go_blk b_X2_testWord_94 k_X2_testWord_94 ?_
      refine by_iconst ci_1 ?_
      refine by_goto 99 rfl ?_
      with_reducible refine xm_go_blk b_X2_testWord_99 k_X2_testWord_99 ?_
      refine by_istore_n (by rw [ml_67]; decide) ?_
      refine by_nil ?_
      try simp (disch := first | exact Nat.ne_of_beq_eq_false rfl | exact rfl | omega) only [nI_add, xa_sub, xa_mul, pk_div, nm_mod, xa_shr, xa_and7, xa_and1, xa_and255, xa_by_and, nI_m1, Nat.add_sub_cancel, Nat.reducePow, Nat.zero_add, Nat.add_zero, Nat.reduceAdd, Nat.reduceMul, Nat.reduceSub, xf_same, xq_ff, xq_fo, xf_1, xf_2, xs_1, xs_2, xs_same, xq_so, xj_1, xj_2, xj_same, xq_jo, xq_sa1, xq_same, xq_other, upd_s, oI_n, oI_s, xv_0, xv_1, xv_2, xv_3, xm_p1, xm_p2, xq_fp, xq_fn, List.filter_nil, Nat.reduceBEq, Bool.not_true, Bool.not_false, Bool.and_true, Bool.and_false, Bool.false_and, Bool.true_and, if_true, if_false, Bool.false_eq_true, reduceIte, xc_i, xc_j, xc_r, xc_n, List.nil_append, List.cons_append, Option.toList_some, Option.toList_none, s3, z0, q']
      have := fin (x ≠ 0) rfl
      rw [if_pos q] at this
      exact xm_go_wk (by simp [Value.category]) this
theorem sp_mixBits {k : Nat} (hk1 : 23 ≤ k) (hk2 : k ≤ 31) (hw : jw w) (hS : jSt h w c x y z v) (h0 : jS0 h) (hx : x < 2 ^ w) (hy : y < 2 ^ w) (hz : z < 2 ^ w)
    (hp : ∀ h' B H L, jRs h h' B H L → jGv 3 w B H L = jL k w c x y z v → post none h') : xm_T (XE sc) (d + 1) 59 [.ref 39, .int (nI k)] h post := by
  obtain ⟨s0, s1, s2, s3, s4, s5, s6⟩ := hS
  have hpw := jw_p hw
  have hx' : x < 2 ^ 64 := by omega
  have hy' : y < 2 ^ 64 := by omega
  have hz' : z < 2 ^ 64 := by omega
  have h1p := Nat.two_pow_pos w
  have hm : x ^^^ (2 ^ 64 - 1) < 2 ^ 64 := xor_lt64 hx' (by decide)
  have a1 : lN x &&& lN y = lN (x &&& y) := wb_and hx' hy'
  have a2 : lN x &&& lN z = lN (x &&& z) := wb_and hx' hz'
  have a3 : lN y &&& lN z = lN (y &&& z) := wb_and hy' hz'
  have b1 : x &&& y < 2 ^ 64 := Nat.and_lt_two_pow _ hy'
  have b2 : x &&& z < 2 ^ 64 := Nat.and_lt_two_pow _ hz'
  have b3 : y &&& z < 2 ^ 64 := Nat.and_lt_two_pow _ hz'
  have o1 : lN x ||| lN y = lN (x ||| y) := wb_or hx' hy'
  have ob : x ||| y < 2 ^ 64 := Nat.or_lt_two_pow hx' hy'
  have n1 : (lN x ^^^ (-1)) &&& lN (2 ^ w - 1) = lN ((x ^^^ (2 ^ 64 - 1)) % 2 ^ w) := by rw [lN_m1, lN_xor]; exact jo_and hw
  have n2 : (lN x ^^^ (-1)) &&& lN z = lN ((x ^^^ (2 ^ 64 - 1)) &&& z) := by rw [lN_m1, lN_xor]; exact wb_and hm hz'
  have nb : (x ^^^ (2 ^ 64 - 1)) &&& z < 2 ^ 64 := Nat.and_lt_two_pow _ hz'
  have o2 : lN (x &&& y) ||| lN (x &&& z) = lN (x &&& y ||| x &&& z) := wb_or b1 b2
  have o2b : x &&& y ||| x &&& z < 2 ^ 64 := Nat.or_lt_two_pow b1 b2
  have o3 : lN (x &&& y ||| x &&& z) ||| lN (y &&& z) = lN (x &&& y ||| x &&& z ||| y &&& z) := wb_or o2b b3
  have o4 : lN (x &&& y) ||| lN ((x ^^^ (2 ^ 64 - 1)) &&& z) = lN (x &&& y ||| (x ^^^ (2 ^ 64 - 1)) &&& z) := wb_or b1 nb
  have fin : ∀ L, L < 2 ^ 64 → bbits w L = jL k w c x y z v → post none (xm_sf h 39 9 (.long (lN L))) := fun L hL hj => hp _ 0 0 L (jR_low h0 hL) hj
  have emx : (x ^^^ (2 ^ 64 - 1)) % 2 ^ w = x ^^^ (2 ^ w - 1) := by
    apply Nat.eq_of_testBit_eq
    intro i
    rw [Nat.testBit_mod_two_pow, Nat.testBit_xor, Nat.testBit_xor, Nat.testBit_two_pow_sub_one, Nat.testBit_two_pow_sub_one]
    by_cases hi : i < w
    · have : i < 64 := by have := (jw_le hw).2; omega
      simp [hi, this]
    · rw [Nat.testBit_lt_two_pow (Nat.lt_of_lt_of_le hx (Nat.pow_le_pow_right (by decide) (by omega)))]
      simp [hi]
  have emz : (x ^^^ (2 ^ 64 - 1)) &&& z = (x ^^^ (2 ^ w - 1)) &&& z := by
    apply Nat.eq_of_testBit_eq
    intro i
    rw [Nat.testBit_and, Nat.testBit_and, Nat.testBit_xor, Nat.testBit_xor, Nat.testBit_two_pow_sub_one, Nat.testBit_two_pow_sub_one]
    by_cases hi : i < w
    · have : i < 64 := by have := (jw_le hw).2; omega
      simp [hi, this]
    · rw [Nat.testBit_lt_two_pow (Nat.lt_of_lt_of_le hz (Nat.pow_le_pow_right (by decide) (by omega)))]
      simp
  refine xq_in rfl ?_
  simp only [xq_a0, xq_aI, xq_aJ, xq_aR, Nat.reduceAdd]
  rcases (by omega : k = 23 ∨ k = 24 ∨ k = 25 ∨ k = 26 ∨ k = 27 ∨ k = 28 ∨ k = 29 ∨ k = 30 ∨ k = 31) with rfl | rfl | rfl | rfl | rfl | rfl | rfl | rfl | rfl
  · with_reducible refine xm_go_blk b_X2_mixBits_0 k_X2_mixBits_0 ?_
    refine by_iload_n rfl ?_
    refine by_sw ?_
    refine xq_sw 48 (by decide) (by decide) ?_
    with_reducible refine xm_go_blk b_X2_mixBits_48 k_X2_mixBits_48 ?_
    refine by_aload_n rfl ?_
    refine by_aload_n rfl ?_
    refine by_getf cn_59 fl_2_73 (by first | exact rfl | assumption) (by decide) ?_
    refine by_ldc2 cn_59 kl_2_13 rfl ?_
    simp (disch := first | exact Nat.ne_of_beq_eq_false rfl | exact rfl | omega) only [nI_add, xa_sub, xa_mul, pk_div, nm_mod, xa_shr, xa_and7, xa_and1, xa_and255, xa_by_and, nI_m1, Nat.add_sub_cancel, Nat.reducePow, Nat.zero_add, Nat.add_zero, Nat.reduceAdd, Nat.reduceMul, Nat.reduceSub, xf_same, xq_ff, xq_fo, xf_1, xf_2, xs_1, xs_2, xs_same, xq_so, xj_1, xj_2, xj_same, xq_jo, xq_sa1, xq_same, xq_other, upd_s, oI_n, oI_s, s3, s1, n1]
    refine by_lxor ?_
    refine by_aload_n rfl ?_
    refine by_getf cn_59 fl_2_15 (by first | exact rfl | assumption) (by decide) ?_
    simp (disch := first | exact Nat.ne_of_beq_eq_false rfl | exact rfl | omega) only [nI_add, xa_sub, xa_mul, pk_div, nm_mod, xa_shr, xa_and7, xa_and1, xa_and255, xa_by_and, nI_m1, Nat.add_sub_cancel, Nat.reducePow, Nat.zero_add, Nat.add_zero, Nat.reduceAdd, Nat.reduceMul, Nat.reduceSub, xf_same, xq_ff, xq_fo, xf_1, xf_2, xs_1, xs_2, xs_same, xq_so, xj_1, xj_2, xj_same, xq_jo, xq_sa1, xq_same, xq_other, upd_s, oI_n, oI_s, s3, s1, n1]
    refine by_land ?_
    refine by_putf cn_59 fl_2_33 (by first | exact rfl | assumption) (by decide) nf_2_9 ft_2_9 (by first | rfl | assumption) (by first | rfl | assumption) ?_
    refine by_goto 219 rfl ?_
    try simp (disch := first | exact Nat.ne_of_beq_eq_false rfl | exact rfl | omega) only [nI_add, xa_sub, xa_mul, pk_div, nm_mod, xa_shr, xa_and7, xa_and1, xa_and255, xa_by_and, nI_m1, Nat.add_sub_cancel, Nat.reducePow, Nat.zero_add, Nat.add_zero, Nat.reduceAdd, Nat.reduceMul, Nat.reduceSub, xf_same, xq_ff, xq_fo, xf_1, xf_2, xs_1, xs_2, xs_same, xq_so, xj_1, xj_2, xj_same, xq_jo, xq_sa1, xq_same, xq_other, upd_s, oI_n, oI_s, xv_0, xv_1, xv_2, xv_3, xm_p1, xm_p2, xq_fp, xq_fn, List.filter_nil, Nat.reduceBEq, Bool.not_true, Bool.not_false, Bool.and_true, Bool.and_false, Bool.false_and, Bool.true_and, if_true, if_false, Bool.false_eq_true, reduceIte, xc_i, xc_j, xc_r, xc_n, List.nil_append, List.cons_append, Option.toList_some, Option.toList_none, s3, s1, n1]
    with_reducible refine xm_go_blk b_X2_mixBits_219 k_X2_mixBits_219 ?_
    refine by_ret ry_59 ?_
    exact fin _ (Nat.lt_of_lt_of_le (Nat.mod_lt _ h1p) hpw) (by rw [emx]; rfl)
  · with_reducible refine xm_go_blk b_X2_mixBits_0 k_X2_mixBits_0 ?_
    refine by_iload_n rfl ?_
    refine by_sw ?_
    refine xq_sw 68 (by decide) (by decide) ?_
    with_reducible refine xm_go_blk b_X2_mixBits_68 k_X2_mixBits_68 ?_
    refine by_aload_n rfl ?_
    refine by_aload_n rfl ?_
    refine by_getf cn_59 fl_2_73 (by first | exact rfl | assumption) (by decide) ?_
    refine by_aload_n rfl ?_
    refine by_getf cn_59 fl_2_76 (by first | exact rfl | assumption) (by decide) ?_
    simp (disch := first | exact Nat.ne_of_beq_eq_false rfl | exact rfl | omega) only [nI_add, xa_sub, xa_mul, pk_div, nm_mod, xa_shr, xa_and7, xa_and1, xa_and255, xa_by_and, nI_m1, Nat.add_sub_cancel, Nat.reducePow, Nat.zero_add, Nat.add_zero, Nat.reduceAdd, Nat.reduceMul, Nat.reduceSub, xf_same, xq_ff, xq_fo, xf_1, xf_2, xs_1, xs_2, xs_same, xq_so, xj_1, xj_2, xj_same, xq_jo, xq_sa1, xq_same, xq_other, upd_s, oI_n, oI_s, s3, s4, a1]
    refine by_land ?_
    refine by_putf cn_59 fl_2_33 (by first | exact rfl | assumption) (by decide) nf_2_9 ft_2_9 (by first | rfl | assumption) (by first | rfl | assumption) ?_
    refine by_goto 219 rfl ?_
    try simp (disch := first | exact Nat.ne_of_beq_eq_false rfl | exact rfl | omega) only [nI_add, xa_sub, xa_mul, pk_div, nm_mod, xa_shr, xa_and7, xa_and1, xa_and255, xa_by_and, nI_m1, Nat.add_sub_cancel, Nat.reducePow, Nat.zero_add, Nat.add_zero, Nat.reduceAdd, Nat.reduceMul, Nat.reduceSub, xf_same, xq_ff, xq_fo, xf_1, xf_2, xs_1, xs_2, xs_same, xq_so, xj_1, xj_2, xj_same, xq_jo, xq_sa1, xq_same, xq_other, upd_s, oI_n, oI_s, xv_0, xv_1, xv_2, xv_3, xm_p1, xm_p2, xq_fp, xq_fn, List.filter_nil, Nat.reduceBEq, Bool.not_true, Bool.not_false, Bool.and_true, Bool.and_false, Bool.false_and, Bool.true_and, if_true, if_false, Bool.false_eq_true, reduceIte, xc_i, xc_j, xc_r, xc_n, List.nil_append, List.cons_append, Option.toList_some, Option.toList_none, s3, s4, a1]
    with_reducible refine xm_go_blk b_X2_mixBits_219 k_X2_mixBits_219 ?_
    refine by_ret ry_59 ?_
    exact fin _ b1 rfl
  · with_reducible refine xm_go_blk b_X2_mixBits_0 k_X2_mixBits_0 ?_
    refine by_iload_n rfl ?_
    refine by_sw ?_
    refine xq_sw 84 (by decide) (by decide) ?_
    with_reducible refine xm_go_blk b_X2_mixBits_84 k_X2_mixBits_84 ?_
    refine by_aload_n rfl ?_
    refine by_aload_n rfl ?_
    refine by_getf cn_59 fl_2_73 (by first | exact rfl | assumption) (by decide) ?_
    refine by_aload_n rfl ?_
    refine by_getf cn_59 fl_2_76 (by first | exact rfl | assumption) (by decide) ?_
    simp (disch := first | exact Nat.ne_of_beq_eq_false rfl | exact rfl | omega) only [nI_add, xa_sub, xa_mul, pk_div, nm_mod, xa_shr, xa_and7, xa_and1, xa_and255, xa_by_and, nI_m1, Nat.add_sub_cancel, Nat.reducePow, Nat.zero_add, Nat.add_zero, Nat.reduceAdd, Nat.reduceMul, Nat.reduceSub, xf_same, xq_ff, xq_fo, xf_1, xf_2, xs_1, xs_2, xs_same, xq_so, xj_1, xj_2, xj_same, xq_jo, xq_sa1, xq_same, xq_other, upd_s, oI_n, oI_s, s3, s4, o1]
    refine by_lor ?_
    refine by_putf cn_59 fl_2_33 (by first | exact rfl | assumption) (by decide) nf_2_9 ft_2_9 (by first | rfl | assumption) (by first | rfl | assumption) ?_
    refine by_goto 219 rfl ?_
    try simp (disch := first | exact Nat.ne_of_beq_eq_false rfl | exact rfl | omega) only [nI_add, xa_sub, xa_mul, pk_div, nm_mod, xa_shr, xa_and7, xa_and1, xa_and255, xa_by_and, nI_m1, Nat.add_sub_cancel, Nat.reducePow, Nat.zero_add, Nat.add_zero, Nat.reduceAdd, Nat.reduceMul, Nat.reduceSub, xf_same, xq_ff, xq_fo, xf_1, xf_2, xs_1, xs_2, xs_same, xq_so, xj_1, xj_2, xj_same, xq_jo, xq_sa1, xq_same, xq_other, upd_s, oI_n, oI_s, xv_0, xv_1, xv_2, xv_3, xm_p1, xm_p2, xq_fp, xq_fn, List.filter_nil, Nat.reduceBEq, Bool.not_true, Bool.not_false, Bool.and_true, Bool.and_false, Bool.false_and, Bool.true_and, if_true, if_false, Bool.false_eq_true, reduceIte, xc_i, xc_j, xc_r, xc_n, List.nil_append, List.cons_append, Option.toList_some, Option.toList_none, s3, s4, o1]
    with_reducible refine xm_go_blk b_X2_mixBits_219 k_X2_mixBits_219 ?_
    refine by_ret ry_59 ?_
    exact fin _ ob rfl
  · with_reducible refine xm_go_blk b_X2_mixBits_0 k_X2_mixBits_0 ?_
    refine by_iload_n rfl ?_
    refine by_sw ?_
    refine xq_sw 100 (by decide) (by decide) ?_
    with_reducible refine xm_go_blk b_X2_mixBits_100 k_X2_mixBits_100 ?_
    refine by_aload_n rfl ?_
    refine by_aload_n rfl ?_
    refine by_getf cn_59 fl_2_73 (by first | exact rfl | assumption) (by decide) ?_
    refine by_aload_n rfl ?_
    refine by_getf cn_59 fl_2_76 (by first | exact rfl | assumption) (by decide) ?_
    simp (disch := first | exact Nat.ne_of_beq_eq_false rfl | exact rfl | omega) only [nI_add, xa_sub, xa_mul, pk_div, nm_mod, xa_shr, xa_and7, xa_and1, xa_and255, xa_by_and, nI_m1, Nat.add_sub_cancel, Nat.reducePow, Nat.zero_add, Nat.add_zero, Nat.reduceAdd, Nat.reduceMul, Nat.reduceSub, xf_same, xq_ff, xq_fo, xf_1, xf_2, xs_1, xs_2, xs_same, xq_so, xj_1, xj_2, xj_same, xq_jo, xq_sa1, xq_same, xq_other, upd_s, oI_n, oI_s, s3, s4, lN_xor]
    refine by_lxor ?_
    refine by_putf cn_59 fl_2_33 (by first | exact rfl | assumption) (by decide) nf_2_9 ft_2_9 (by first | rfl | assumption) (by first | rfl | assumption) ?_
    refine by_goto 219 rfl ?_
    try simp (disch := first | exact Nat.ne_of_beq_eq_false rfl | exact rfl | omega) only [nI_add, xa_sub, xa_mul, pk_div, nm_mod, xa_shr, xa_and7, xa_and1, xa_and255, xa_by_and, nI_m1, Nat.add_sub_cancel, Nat.reducePow, Nat.zero_add, Nat.add_zero, Nat.reduceAdd, Nat.reduceMul, Nat.reduceSub, xf_same, xq_ff, xq_fo, xf_1, xf_2, xs_1, xs_2, xs_same, xq_so, xj_1, xj_2, xj_same, xq_jo, xq_sa1, xq_same, xq_other, upd_s, oI_n, oI_s, xv_0, xv_1, xv_2, xv_3, xm_p1, xm_p2, xq_fp, xq_fn, List.filter_nil, Nat.reduceBEq, Bool.not_true, Bool.not_false, Bool.and_true, Bool.and_false, Bool.false_and, Bool.true_and, if_true, if_false, Bool.false_eq_true, reduceIte, xc_i, xc_j, xc_r, xc_n, List.nil_append, List.cons_append, Option.toList_some, Option.toList_none, s3, s4, lN_xor]
    with_reducible refine xm_go_blk b_X2_mixBits_219 k_X2_mixBits_219 ?_
    refine by_ret ry_59 ?_
    exact fin _ (xor_lt64 hx' hy') rfl
  · with_reducible refine xm_go_blk b_X2_mixBits_0 k_X2_mixBits_0 ?_
    refine by_iload_n rfl ?_
    refine by_sw ?_
    refine xq_sw 116 (by decide) (by decide) ?_
    with_reducible refine xm_go_blk b_X2_mixBits_116 k_X2_mixBits_116 ?_
    refine by_aload_n rfl ?_
    refine by_aload_n rfl ?_
    refine by_getf cn_59 fl_2_73 (by first | exact rfl | assumption) (by decide) ?_
    refine by_aload_n rfl ?_
    refine by_getf cn_59 fl_2_76 (by first | exact rfl | assumption) (by decide) ?_
    simp (disch := first | exact Nat.ne_of_beq_eq_false rfl | exact rfl | omega) only [nI_add, xa_sub, xa_mul, pk_div, nm_mod, xa_shr, xa_and7, xa_and1, xa_and255, xa_by_and, nI_m1, Nat.add_sub_cancel, Nat.reducePow, Nat.zero_add, Nat.add_zero, Nat.reduceAdd, Nat.reduceMul, Nat.reduceSub, xf_same, xq_ff, xq_fo, xf_1, xf_2, xs_1, xs_2, xs_same, xq_so, xj_1, xj_2, xj_same, xq_jo, xq_sa1, xq_same, xq_other, upd_s, oI_n, oI_s, s3, s4, s5, lN_xor]
    refine by_lxor ?_
    refine by_aload_n rfl ?_
    refine by_getf cn_59 fl_2_79 (by first | exact rfl | assumption) (by decide) ?_
    simp (disch := first | exact Nat.ne_of_beq_eq_false rfl | exact rfl | omega) only [nI_add, xa_sub, xa_mul, pk_div, nm_mod, xa_shr, xa_and7, xa_and1, xa_and255, xa_by_and, nI_m1, Nat.add_sub_cancel, Nat.reducePow, Nat.zero_add, Nat.add_zero, Nat.reduceAdd, Nat.reduceMul, Nat.reduceSub, xf_same, xq_ff, xq_fo, xf_1, xf_2, xs_1, xs_2, xs_same, xq_so, xj_1, xj_2, xj_same, xq_jo, xq_sa1, xq_same, xq_other, upd_s, oI_n, oI_s, s3, s4, s5, lN_xor]
    refine by_lxor ?_
    refine by_putf cn_59 fl_2_33 (by first | exact rfl | assumption) (by decide) nf_2_9 ft_2_9 (by first | rfl | assumption) (by first | rfl | assumption) ?_
    refine by_goto 219 rfl ?_
    try simp (disch := first | exact Nat.ne_of_beq_eq_false rfl | exact rfl | omega) only [nI_add, xa_sub, xa_mul, pk_div, nm_mod, xa_shr, xa_and7, xa_and1, xa_and255, xa_by_and, nI_m1, Nat.add_sub_cancel, Nat.reducePow, Nat.zero_add, Nat.add_zero, Nat.reduceAdd, Nat.reduceMul, Nat.reduceSub, xf_same, xq_ff, xq_fo, xf_1, xf_2, xs_1, xs_2, xs_same, xq_so, xj_1, xj_2, xj_same, xq_jo, xq_sa1, xq_same, xq_other, upd_s, oI_n, oI_s, xv_0, xv_1, xv_2, xv_3, xm_p1, xm_p2, xq_fp, xq_fn, List.filter_nil, Nat.reduceBEq, Bool.not_true, Bool.not_false, Bool.and_true, Bool.and_false, Bool.false_and, Bool.true_and, if_true, if_false, Bool.false_eq_true, reduceIte, xc_i, xc_j, xc_r, xc_n, List.nil_append, List.cons_append, Option.toList_some, Option.toList_none, s3, s4, s5, lN_xor]
    with_reducible refine xm_go_blk b_X2_mixBits_219 k_X2_mixBits_219 ?_
    refine by_ret ry_59 ?_
    exact fin _ (xor_lt64 (xor_lt64 hx' hy') hz') rfl
  · with_reducible refine xm_go_blk b_X2_mixBits_0 k_X2_mixBits_0 ?_
    refine by_iload_n rfl ?_
    refine by_sw ?_
    refine xq_sw 137 (by decide) (by decide) ?_
    with_reducible refine xm_go_blk b_X2_mixBits_137 k_X2_mixBits_137 ?_
    refine by_aload_n rfl ?_
    refine by_aload_n rfl ?_
    refine by_getf cn_59 fl_2_73 (by first | exact rfl | assumption) (by decide) ?_
    refine by_aload_n rfl ?_
    refine by_getf cn_59 fl_2_76 (by first | exact rfl | assumption) (by decide) ?_
    simp (disch := first | exact Nat.ne_of_beq_eq_false rfl | exact rfl | omega) only [nI_add, xa_sub, xa_mul, pk_div, nm_mod, xa_shr, xa_and7, xa_and1, xa_and255, xa_by_and, nI_m1, Nat.add_sub_cancel, Nat.reducePow, Nat.zero_add, Nat.add_zero, Nat.reduceAdd, Nat.reduceMul, Nat.reduceSub, xf_same, xq_ff, xq_fo, xf_1, xf_2, xs_1, xs_2, xs_same, xq_so, xj_1, xj_2, xj_same, xq_jo, xq_sa1, xq_same, xq_other, upd_s, oI_n, oI_s, s3, s4, s5, a1, a2, a3, o2, o3]
    refine by_land ?_
    refine by_aload_n rfl ?_
    refine by_getf cn_59 fl_2_73 (by first | exact rfl | assumption) (by decide) ?_
    refine by_aload_n rfl ?_
    refine by_getf cn_59 fl_2_79 (by first | exact rfl | assumption) (by decide) ?_
    simp (disch := first | exact Nat.ne_of_beq_eq_false rfl | exact rfl | omega) only [nI_add, xa_sub, xa_mul, pk_div, nm_mod, xa_shr, xa_and7, xa_and1, xa_and255, xa_by_and, nI_m1, Nat.add_sub_cancel, Nat.reducePow, Nat.zero_add, Nat.add_zero, Nat.reduceAdd, Nat.reduceMul, Nat.reduceSub, xf_same, xq_ff, xq_fo, xf_1, xf_2, xs_1, xs_2, xs_same, xq_so, xj_1, xj_2, xj_same, xq_jo, xq_sa1, xq_same, xq_other, upd_s, oI_n, oI_s, s3, s4, s5, a1, a2, a3, o2, o3]
    refine by_land ?_
    refine by_lor ?_
    refine by_aload_n rfl ?_
    refine by_getf cn_59 fl_2_76 (by first | exact rfl | assumption) (by decide) ?_
    refine by_aload_n rfl ?_
    refine by_getf cn_59 fl_2_79 (by first | exact rfl | assumption) (by decide) ?_
    simp (disch := first | exact Nat.ne_of_beq_eq_false rfl | exact rfl | omega) only [nI_add, xa_sub, xa_mul, pk_div, nm_mod, xa_shr, xa_and7, xa_and1, xa_and255, xa_by_and, nI_m1, Nat.add_sub_cancel, Nat.reducePow, Nat.zero_add, Nat.add_zero, Nat.reduceAdd, Nat.reduceMul, Nat.reduceSub, xf_same, xq_ff, xq_fo, xf_1, xf_2, xs_1, xs_2, xs_same, xq_so, xj_1, xj_2, xj_same, xq_jo, xq_sa1, xq_same, xq_other, upd_s, oI_n, oI_s, s3, s4, s5, a1, a2, a3, o2, o3]
    refine by_land ?_
    refine by_lor ?_
    refine by_putf cn_59 fl_2_33 (by first | exact rfl | assumption) (by decide) nf_2_9 ft_2_9 (by first | rfl | assumption) (by first | rfl | assumption) ?_
    refine by_goto 219 rfl ?_
    try simp (disch := first | exact Nat.ne_of_beq_eq_false rfl | exact rfl | omega) only [nI_add, xa_sub, xa_mul, pk_div, nm_mod, xa_shr, xa_and7, xa_and1, xa_and255, xa_by_and, nI_m1, Nat.add_sub_cancel, Nat.reducePow, Nat.zero_add, Nat.add_zero, Nat.reduceAdd, Nat.reduceMul, Nat.reduceSub, xf_same, xq_ff, xq_fo, xf_1, xf_2, xs_1, xs_2, xs_same, xq_so, xj_1, xj_2, xj_same, xq_jo, xq_sa1, xq_same, xq_other, upd_s, oI_n, oI_s, xv_0, xv_1, xv_2, xv_3, xm_p1, xm_p2, xq_fp, xq_fn, List.filter_nil, Nat.reduceBEq, Bool.not_true, Bool.not_false, Bool.and_true, Bool.and_false, Bool.false_and, Bool.true_and, if_true, if_false, Bool.false_eq_true, reduceIte, xc_i, xc_j, xc_r, xc_n, List.nil_append, List.cons_append, Option.toList_some, Option.toList_none, s3, s4, s5, a1, a2, a3, o2, o3]
    with_reducible refine xm_go_blk b_X2_mixBits_219 k_X2_mixBits_219 ?_
    refine by_ret ry_59 ?_
    exact fin _ (Nat.or_lt_two_pow o2b b3) rfl
  · with_reducible refine xm_go_blk b_X2_mixBits_0 k_X2_mixBits_0 ?_
    refine by_iload_n rfl ?_
    refine by_sw ?_
    refine xq_sw 173 (by decide) (by decide) ?_
    with_reducible refine xm_go_blk b_X2_mixBits_173 k_X2_mixBits_173 ?_
    refine by_aload_n rfl ?_
    refine by_aload_n rfl ?_
    refine by_getf cn_59 fl_2_73 (by first | exact rfl | assumption) (by decide) ?_
    refine by_aload_n rfl ?_
    refine by_getf cn_59 fl_2_76 (by first | exact rfl | assumption) (by decide) ?_
    simp (disch := first | exact Nat.ne_of_beq_eq_false rfl | exact rfl | omega) only [nI_add, xa_sub, xa_mul, pk_div, nm_mod, xa_shr, xa_and7, xa_and1, xa_and255, xa_by_and, nI_m1, Nat.add_sub_cancel, Nat.reducePow, Nat.zero_add, Nat.add_zero, Nat.reduceAdd, Nat.reduceMul, Nat.reduceSub, xf_same, xq_ff, xq_fo, xf_1, xf_2, xs_1, xs_2, xs_same, xq_so, xj_1, xj_2, xj_same, xq_jo, xq_sa1, xq_same, xq_other, upd_s, oI_n, oI_s, s3, s4, s5, a1, n2, o4]
    refine by_land ?_
    refine by_aload_n rfl ?_
    refine by_getf cn_59 fl_2_73 (by first | exact rfl | assumption) (by decide) ?_
    refine by_ldc2 cn_59 kl_2_13 rfl ?_
    simp (disch := first | exact Nat.ne_of_beq_eq_false rfl | exact rfl | omega) only [nI_add, xa_sub, xa_mul, pk_div, nm_mod, xa_shr, xa_and7, xa_and1, xa_and255, xa_by_and, nI_m1, Nat.add_sub_cancel, Nat.reducePow, Nat.zero_add, Nat.add_zero, Nat.reduceAdd, Nat.reduceMul, Nat.reduceSub, xf_same, xq_ff, xq_fo, xf_1, xf_2, xs_1, xs_2, xs_same, xq_so, xj_1, xj_2, xj_same, xq_jo, xq_sa1, xq_same, xq_other, upd_s, oI_n, oI_s, s3, s4, s5, a1, n2, o4]
    refine by_lxor ?_
    refine by_aload_n rfl ?_
    refine by_getf cn_59 fl_2_79 (by first | exact rfl | assumption) (by decide) ?_
    simp (disch := first | exact Nat.ne_of_beq_eq_false rfl | exact rfl | omega) only [nI_add, xa_sub, xa_mul, pk_div, nm_mod, xa_shr, xa_and7, xa_and1, xa_and255, xa_by_and, nI_m1, Nat.add_sub_cancel, Nat.reducePow, Nat.zero_add, Nat.add_zero, Nat.reduceAdd, Nat.reduceMul, Nat.reduceSub, xf_same, xq_ff, xq_fo, xf_1, xf_2, xs_1, xs_2, xs_same, xq_so, xj_1, xj_2, xj_same, xq_jo, xq_sa1, xq_same, xq_other, upd_s, oI_n, oI_s, s3, s4, s5, a1, n2, o4]
    refine by_land ?_
    refine by_lor ?_
    refine by_putf cn_59 fl_2_33 (by first | exact rfl | assumption) (by decide) nf_2_9 ft_2_9 (by first | rfl | assumption) (by first | rfl | assumption) ?_
    refine by_goto 219 rfl ?_
    try simp (disch := first | exact Nat.ne_of_beq_eq_false rfl | exact rfl | omega) only [nI_add, xa_sub, xa_mul, pk_div, nm_mod, xa_shr, xa_and7, xa_and1, xa_and255, xa_by_and, nI_m1, Nat.add_sub_cancel, Nat.reducePow, Nat.zero_add, Nat.add_zero, Nat.reduceAdd, Nat.reduceMul, Nat.reduceSub, xf_same, xq_ff, xq_fo, xf_1, xf_2, xs_1, xs_2, xs_same, xq_so, xj_1, xj_2, xj_same, xq_jo, xq_sa1, xq_same, xq_other, upd_s, oI_n, oI_s, xv_0, xv_1, xv_2, xv_3, xm_p1, xm_p2, xq_fp, xq_fn, List.filter_nil, Nat.reduceBEq, Bool.not_true, Bool.not_false, Bool.and_true, Bool.and_false, Bool.false_and, Bool.true_and, if_true, if_false, Bool.false_eq_true, reduceIte, xc_i, xc_j, xc_r, xc_n, List.nil_append, List.cons_append, Option.toList_some, Option.toList_none, s3, s4, s5, a1, n2, o4]
    with_reducible refine xm_go_blk b_X2_mixBits_219 k_X2_mixBits_219 ?_
    refine by_ret ry_59 ?_
    exact fin _ (Nat.or_lt_two_pow b1 nb) (by rw [emz]; rfl)
  · with_reducible refine xm_go_blk b_X2_mixBits_0 k_X2_mixBits_0 ?_
    refine by_iload_n rfl ?_
    refine by_sw ?_
    refine xq_sw 203 (by decide) (by decide) ?_
    with_reducible refine xm_go_blk b_X2_mixBits_203 k_X2_mixBits_203 ?_
    refine by_aload_n rfl ?_
    refine by_lconst cl_0 ?_
    refine by_putf cn_59 fl_2_33 (by first | exact rfl | assumption) (by decide) nf_2_9 ft_2_9 (by first | rfl | assumption) (by first | rfl | assumption) ?_
    refine by_goto 219 rfl ?_
    with_reducible refine xm_go_blk b_X2_mixBits_219 k_X2_mixBits_219 ?_
    refine by_ret ry_59 ?_
    exact fin 0 (by decide) rfl
  · with_reducible refine xm_go_blk b_X2_mixBits_0 k_X2_mixBits_0 ?_
    refine by_iload_n rfl ?_
    refine by_sw ?_
    refine xq_sw 211 (by decide) (by decide) ?_
    with_reducible refine xm_go_blk b_X2_mixBits_211 k_X2_mixBits_211 ?_
    refine by_aload_n rfl ?_
    refine by_aload_n rfl ?_
    refine by_getf cn_59 fl_2_15 (by first | exact rfl | assumption) (by decide) ?_
    simp (disch := first | exact Nat.ne_of_beq_eq_false rfl | exact rfl | omega) only [nI_add, xa_sub, xa_mul, pk_div, nm_mod, xa_shr, xa_and7, xa_and1, xa_and255, xa_by_and, nI_m1, Nat.add_sub_cancel, Nat.reducePow, Nat.zero_add, Nat.add_zero, Nat.reduceAdd, Nat.reduceMul, Nat.reduceSub, xf_same, xq_ff, xq_fo, xf_1, xf_2, xs_1, xs_2, xs_same, xq_so, xj_1, xj_2, xj_same, xq_jo, xq_sa1, xq_same, xq_other, upd_s, oI_n, oI_s, s1]
    refine by_putf cn_59 fl_2_33 (by first | exact rfl | assumption) (by decide) nf_2_9 ft_2_9 (by first | rfl | assumption) (by first | rfl | assumption) ?_
    refine by_nil ?_
    with_reducible refine xm_go_blk b_X2_mixBits_219 k_X2_mixBits_219 ?_
    refine by_ret ry_59 ?_
    exact fin _ (by omega) rfl
end J3
