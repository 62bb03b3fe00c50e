/-! ===== jets of the class: giveWords, perform ===== -/
theorem js_tab : ∀ k, k < 42 → xt_X2_SOURCE k = nI (jt_S k) := by decide
theorem jt_tab : ∀ k, k < 42 → xt_X2_TARGET k = nI (jt_T k) := by decide
def jWt (t w : Nat) : Nat := if t = 1 then 1 else if t = 2 then w / 2 else if t = 4 then w + w else if t = 6 then 8 else if t = 7 then 1 + w else w
theorem jGv_len {t w B H L : Nat} : (jGv t w B H L).length = jWt t w := by
  unfold jGv jWt
  split <;> simp_all [bbits_len]
section JB
variable {sc : xm_Sc} {d w t to B H L : Nat} {h : xm_H} {post : xm_Po}
theorem sp_giveWords (hF : XF h) (hw : jw w) (h0 : h.2.2 39 0 = .int (nI w)) (h7 : h.2.2 39 7 = .long (lN B)) (h8 : h.2.2 39 8 = .long (lN H)) (h9 : h.2.2 39 9 = .long (lN L)) (hB : B < 2 ^ 64) (hH : H < 2 ^ 64) (hL : L < 2 ^ 64) (ht : t = 1 ∨ t = 2 ∨ t = 3 ∨ t = 4 ∨ t = 6 ∨ t = 7) (hto : to + jWt t w ≤ 839680)
    (hp : ∀ h', Fr [33] [] h h' → mB h' = mc_wr (mB h) to (jGv t w B H L) → post none h') : xm_T (XE sc) (d + 2) 56 [.ref 39, .int (nI t), .ref 32, .int (nI to)] h post := by
  have hle := jw_le hw
  refine xq_in rfl ?_
  simp only [xq_a0, xq_aI, xq_aJ, xq_aR, Nat.reduceAdd]
  rcases ht with rfl | rfl | rfl | rfl | rfl | rfl
  · have hto' : to + 1 ≤ 839680 := hto
    with_reducible refine xm_go_blk b_X2_giveWords_0 k_X2_giveWords_0 ?_
    refine by_iload_n rfl ?_
    refine by_sw ?_
    refine xq_sw 44 (by decide) (by decide) ?_
    with_reducible refine xm_go_blk b_X2_giveWords_44 k_X2_giveWords_44 ?_
    refine by_aload_n rfl ?_
    refine by_iload_n rfl ?_
    refine by_iconst ci_1 ?_
    refine by_aload_n rfl ?_
    refine by_getf cn_56 fl_2_27 (by first | exact rfl | assumption) (by decide) ?_
    simp (disch := first | exact Nat.ne_of_beq_eq_false rfl | exact rfl | omega) only [nI_add, xa_sub, xa_mul, pk_div, nm_mod, xa_shr, xa_and7, xa_and1, xa_and255, xa_by_and, nI_m1, Nat.add_sub_cancel, Nat.reducePow, Nat.zero_add, Nat.add_zero, Nat.reduceAdd, Nat.reduceMul, Nat.reduceSub, xf_same, xq_ff, xq_fo, xf_1, xf_2, xs_1, xs_2, xs_same, xq_so, xj_1, xj_2, xj_same, xq_jo, xq_sa1, xq_same, xq_other, upd_s, oI_n, oI_s, xv_0, xv_1, xv_2, xv_3, xm_p1, xm_p2, xq_fp, xq_fn, List.filter_nil, Nat.reduceBEq, Bool.not_true, Bool.not_false, Bool.and_true, Bool.and_false, Bool.false_and, Bool.true_and, if_true, if_false, Bool.false_eq_true, reduceIte, xc_i, xc_j, xc_r, xc_n, List.nil_append, List.cons_append, Option.toList_some, Option.toList_none, h7]
    refine by_inv3 cn_56 lk_2_85 (by rw [xe_cnt]; decide) is_86 np_86 cn_86 (by first | exact rfl | assumption) (Nat.le_of_ble_eq_true rfl) ?_
    refine sp_mput hF (by decide) (by decide) hto' (fun h2 f2 b2 => ?_)
    rw [wb_tn hB] at b2
    with_reducible refine xm_go_blk b_X2_giveWords_54 k_X2_giveWords_54 ?_
    refine by_goto 164 rfl ?_
    with_reducible refine xm_go_blk b_X2_giveWords_164 k_X2_giveWords_164 ?_
    refine by_ret ry_56 ?_
    exact hp h2 f2 b2
  · have hto' : to + w / 2 ≤ 839680 := hto
    with_reducible refine xm_go_blk b_X2_giveWords_0 k_X2_giveWords_0 ?_
    refine by_iload_n rfl ?_
    refine by_sw ?_
    refine xq_sw 57 (by decide) (by decide) ?_
    with_reducible refine xm_go_blk b_X2_giveWords_57 k_X2_giveWords_57 ?_
    refine by_aload_n rfl ?_
    refine by_iload_n rfl ?_
    refine by_aload_n rfl ?_
    refine by_getf cn_56 fl_2_7 (by first | exact rfl | assumption) (by decide) ?_
    refine by_iconst ci_2 ?_
    simp (disch := first | exact Nat.ne_of_beq_eq_false rfl | exact rfl | omega) only [nI_add, xa_sub, xa_mul, pk_div, nm_mod, xa_shr, xa_and7, xa_and1, xa_and255, xa_by_and, nI_m1, Nat.add_sub_cancel, Nat.reducePow, Nat.zero_add, Nat.add_zero, Nat.reduceAdd, Nat.reduceMul, Nat.reduceSub, xf_same, xq_ff, xq_fo, xf_1, xf_2, xs_1, xs_2, xs_same, xq_so, xj_1, xj_2, xj_same, xq_jo, xq_sa1, xq_same, xq_other, upd_s, oI_n, oI_s, h0, h9]
    refine by_idiv (by first | decide | assumption) ?_
    refine by_aload_n rfl ?_
    refine by_getf cn_56 fl_2_33 (by first | exact rfl | assumption) (by decide) ?_
    simp (disch := first | exact Nat.ne_of_beq_eq_false rfl | exact rfl | omega) only [nI_add, xa_sub, xa_mul, pk_div, nm_mod, xa_shr, xa_and7, xa_and1, xa_and255, xa_by_and, nI_m1, Nat.add_sub_cancel, Nat.reducePow, Nat.zero_add, Nat.add_zero, Nat.reduceAdd, Nat.reduceMul, Nat.reduceSub, xf_same, xq_ff, xq_fo, xf_1, xf_2, xs_1, xs_2, xs_same, xq_so, xj_1, xj_2, xj_same, xq_jo, xq_sa1, xq_same, xq_other, upd_s, oI_n, oI_s, xv_0, xv_1, xv_2, xv_3, xm_p1, xm_p2, xq_fp, xq_fn, List.filter_nil, Nat.reduceBEq, Bool.not_true, Bool.not_false, Bool.and_true, Bool.and_false, Bool.false_and, Bool.true_and, if_true, if_false, Bool.false_eq_true, reduceIte, xc_i, xc_j, xc_r, xc_n, List.nil_append, List.cons_append, Option.toList_some, Option.toList_none, h0, h9]
    refine by_inv3 cn_56 lk_2_85 (by rw [xe_cnt]; decide) is_86 np_86 cn_86 (by first | exact rfl | assumption) (Nat.le_of_ble_eq_true rfl) ?_
    refine sp_mput hF (by omega) (by omega) hto' (fun h2 f2 b2 => ?_)
    rw [wb_tn hL] at b2
    with_reducible refine xm_go_blk b_X2_giveWords_72 k_X2_giveWords_72 ?_
    refine by_goto 164 rfl ?_
    with_reducible refine xm_go_blk b_X2_giveWords_164 k_X2_giveWords_164 ?_
    refine by_ret ry_56 ?_
    exact hp h2 f2 b2
  · have hto' : to + w ≤ 839680 := hto
    with_reducible refine xm_go_blk b_X2_giveWords_0 k_X2_giveWords_0 ?_
    refine by_iload_n rfl ?_
    refine by_sw ?_
    refine xq_sw 151 (by decide) (by decide) ?_
    with_reducible refine xm_go_blk b_X2_giveWords_151 k_X2_giveWords_151 ?_
    refine by_aload_n rfl ?_
    refine by_iload_n rfl ?_
    refine by_aload_n rfl ?_
    refine by_getf cn_56 fl_2_7 (by first | exact rfl | assumption) (by decide) ?_
    refine by_aload_n rfl ?_
    refine by_getf cn_56 fl_2_33 (by first | exact rfl | assumption) (by decide) ?_
    simp (disch := first | exact Nat.ne_of_beq_eq_false rfl | exact rfl | omega) only [nI_add, xa_sub, xa_mul, pk_div, nm_mod, xa_shr, xa_and7, xa_and1, xa_and255, xa_by_and, nI_m1, Nat.add_sub_cancel, Nat.reducePow, Nat.zero_add, Nat.add_zero, Nat.reduceAdd, Nat.reduceMul, Nat.reduceSub, xf_same, xq_ff, xq_fo, xf_1, xf_2, xs_1, xs_2, xs_same, xq_so, xj_1, xj_2, xj_same, xq_jo, xq_sa1, xq_same, xq_other, upd_s, oI_n, oI_s, xv_0, xv_1, xv_2, xv_3, xm_p1, xm_p2, xq_fp, xq_fn, List.filter_nil, Nat.reduceBEq, Bool.not_true, Bool.not_false, Bool.and_true, Bool.and_false, Bool.false_and, Bool.true_and, if_true, if_false, Bool.false_eq_true, reduceIte, xc_i, xc_j, xc_r, xc_n, List.nil_append, List.cons_append, Option.toList_some, Option.toList_none, h0, h9]
    refine by_inv3 cn_56 lk_2_85 (by rw [xe_cnt]; decide) is_86 np_86 cn_86 (by first | exact rfl | assumption) (Nat.le_of_ble_eq_true rfl) ?_
    refine sp_mput hF (by omega) (by omega) hto' (fun h2 f2 b2 => ?_)
    rw [wb_tn hL] at b2
    with_reducible refine xm_go_blk b_X2_giveWords_164 k_X2_giveWords_164 ?_
    refine by_ret ry_56 ?_
    exact hp h2 f2 b2
  · have hto' : to + (w + w) ≤ 839680 := hto
    with_reducible refine xm_go_blk b_X2_giveWords_0 k_X2_giveWords_0 ?_
    refine by_iload_n rfl ?_
    refine by_sw ?_
    refine xq_sw 117 (by decide) (by decide) ?_
    with_reducible refine xm_go_blk b_X2_giveWords_117 k_X2_giveWords_117 ?_
    refine by_aload_n rfl ?_
    refine by_iload_n rfl ?_
    refine by_aload_n rfl ?_
    refine by_getf cn_56 fl_2_7 (by first | exact rfl | assumption) (by decide) ?_
    refine by_aload_n rfl ?_
    refine by_getf cn_56 fl_2_30 (by first | exact rfl | assumption) (by decide) ?_
    simp (disch := first | exact Nat.ne_of_beq_eq_false rfl | exact rfl | omega) only [nI_add, xa_sub, xa_mul, pk_div, nm_mod, xa_shr, xa_and7, xa_and1, xa_and255, xa_by_and, nI_m1, Nat.add_sub_cancel, Nat.reducePow, Nat.zero_add, Nat.add_zero, Nat.reduceAdd, Nat.reduceMul, Nat.reduceSub, xf_same, xq_ff, xq_fo, xf_1, xf_2, xs_1, xs_2, xs_same, xq_so, xj_1, xj_2, xj_same, xq_jo, xq_sa1, xq_same, xq_other, upd_s, oI_n, oI_s, xv_0, xv_1, xv_2, xv_3, xm_p1, xm_p2, xq_fp, xq_fn, List.filter_nil, Nat.reduceBEq, Bool.not_true, Bool.not_false, Bool.and_true, Bool.and_false, Bool.false_and, Bool.true_and, if_true, if_false, Bool.false_eq_true, reduceIte, xc_i, xc_j, xc_r, xc_n, List.nil_append, List.cons_append, Option.toList_some, Option.toList_none, h0, h8]
    refine by_inv3 cn_56 lk_2_85 (by rw [xe_cnt]; decide) is_86 np_86 cn_86 (by first | exact rfl | assumption) (Nat.le_of_ble_eq_true rfl) ?_
    refine sp_mput hF (by omega) (by omega) (by omega) (fun h2 f2 b2 => ?_)
    rw [wb_tn hH] at b2
    have F2 := Fr_XF hF f2 (by decide +kernel)
    have e0 : h2.2.2 39 0 = .int (nI w) := by rw [f2.2.2 _ _ (by simp)]; exact h0
    have e9 : h2.2.2 39 9 = .long (lN L) := by rw [f2.2.2 _ _ (by simp)]; exact h9
    with_reducible refine xm_go_blk b_X2_giveWords_130 k_X2_giveWords_130 ?_
    refine by_aload_n rfl ?_
    refine by_iload_n rfl ?_
    refine by_aload_n rfl ?_
    refine by_getf cn_56 fl_2_7 (by first | exact rfl | assumption) (by decide) ?_
    simp (disch := first | exact Nat.ne_of_beq_eq_false rfl | exact rfl | omega) only [nI_add, xa_sub, xa_mul, pk_div, nm_mod, xa_shr, xa_and7, xa_and1, xa_and255, xa_by_and, nI_m1, Nat.add_sub_cancel, Nat.reducePow, Nat.zero_add, Nat.add_zero, Nat.reduceAdd, Nat.reduceMul, Nat.reduceSub, xf_same, xq_ff, xq_fo, xf_1, xf_2, xs_1, xs_2, xs_same, xq_so, xj_1, xj_2, xj_same, xq_jo, xq_sa1, xq_same, xq_other, upd_s, oI_n, oI_s, e0, e9]
    refine by_iadd ?_
    refine by_aload_n rfl ?_
    refine by_getf cn_56 fl_2_7 (by first | exact rfl | assumption) (by decide) ?_
    refine by_aload_n rfl ?_
    refine by_getf cn_56 fl_2_33 (by first | exact rfl | assumption) (by decide) ?_
    simp (disch := first | exact Nat.ne_of_beq_eq_false rfl | exact rfl | omega) only [nI_add, xa_sub, xa_mul, pk_div, nm_mod, xa_shr, xa_and7, xa_and1, xa_and255, xa_by_and, nI_m1, Nat.add_sub_cancel, Nat.reducePow, Nat.zero_add, Nat.add_zero, Nat.reduceAdd, Nat.reduceMul, Nat.reduceSub, xf_same, xq_ff, xq_fo, xf_1, xf_2, xs_1, xs_2, xs_same, xq_so, xj_1, xj_2, xj_same, xq_jo, xq_sa1, xq_same, xq_other, upd_s, oI_n, oI_s, xv_0, xv_1, xv_2, xv_3, xm_p1, xm_p2, xq_fp, xq_fn, List.filter_nil, Nat.reduceBEq, Bool.not_true, Bool.not_false, Bool.and_true, Bool.and_false, Bool.false_and, Bool.true_and, if_true, if_false, Bool.false_eq_true, reduceIte, xc_i, xc_j, xc_r, xc_n, List.nil_append, List.cons_append, Option.toList_some, Option.toList_none, e0, e9]
    refine by_inv3 cn_56 lk_2_85 (by rw [xe_cnt]; decide) is_86 np_86 cn_86 (by first | exact rfl | assumption) (Nat.le_of_ble_eq_true rfl) ?_
    refine sp_mput F2 (by omega) (by omega) (by omega) (fun h3 f3 b3 => ?_)
    rw [wb_tn hL, b2] at b3
    with_reducible refine xm_go_blk b_X2_giveWords_148 k_X2_giveWords_148 ?_
    refine by_goto 164 rfl ?_
    with_reducible refine xm_go_blk b_X2_giveWords_164 k_X2_giveWords_164 ?_
    refine by_ret ry_56 ?_
    have ea := mc_wr_app (mB h) to (bbits w H) (bbits w L)
    rw [bbits_len] at ea
    exact hp h3 (Fr_tr f2 f3 (fun _ z => z) (fun _ z => z)) (b3.trans ea)
  · have hto' : to + 8 ≤ 839680 := hto
    with_reducible refine xm_go_blk b_X2_giveWords_0 k_X2_giveWords_0 ?_
    refine by_iload_n rfl ?_
    refine by_sw ?_
    refine xq_sw 75 (by decide) (by decide) ?_
    with_reducible refine xm_go_blk b_X2_giveWords_75 k_X2_giveWords_75 ?_
    refine by_aload_n rfl ?_
    refine by_iload_n rfl ?_
    refine by_bipush cb_8 ?_
    refine by_aload_n rfl ?_
    refine by_getf cn_56 fl_2_33 (by first | exact rfl | assumption) (by decide) ?_
    simp (disch := first | exact Nat.ne_of_beq_eq_false rfl | exact rfl | omega) only [nI_add, xa_sub, xa_mul, pk_div, nm_mod, xa_shr, xa_and7, xa_and1, xa_and255, xa_by_and, nI_m1, Nat.add_sub_cancel, Nat.reducePow, Nat.zero_add, Nat.add_zero, Nat.reduceAdd, Nat.reduceMul, Nat.reduceSub, xf_same, xq_ff, xq_fo, xf_1, xf_2, xs_1, xs_2, xs_same, xq_so, xj_1, xj_2, xj_same, xq_jo, xq_sa1, xq_same, xq_other, upd_s, oI_n, oI_s, xv_0, xv_1, xv_2, xv_3, xm_p1, xm_p2, xq_fp, xq_fn, List.filter_nil, Nat.reduceBEq, Bool.not_true, Bool.not_false, Bool.and_true, Bool.and_false, Bool.false_and, Bool.true_and, if_true, if_false, Bool.false_eq_true, reduceIte, xc_i, xc_j, xc_r, xc_n, List.nil_append, List.cons_append, Option.toList_some, Option.toList_none, h9]
    refine by_inv3 cn_56 lk_2_85 (by rw [xe_cnt]; decide) is_86 np_86 cn_86 (by first | exact rfl | assumption) (Nat.le_of_ble_eq_true rfl) ?_
    refine sp_mput hF (by decide) (by decide) hto' (fun h2 f2 b2 => ?_)
    rw [wb_tn hL] at b2
    with_reducible refine xm_go_blk b_X2_giveWords_86 k_X2_giveWords_86 ?_
    refine by_goto 164 rfl ?_
    with_reducible refine xm_go_blk b_X2_giveWords_164 k_X2_giveWords_164 ?_
    refine by_ret ry_56 ?_
    exact hp h2 f2 b2
  · have hto' : to + (1 + w) ≤ 839680 := hto
    with_reducible refine xm_go_blk b_X2_giveWords_0 k_X2_giveWords_0 ?_
    refine by_iload_n rfl ?_
    refine by_sw ?_
    refine xq_sw 89 (by decide) (by decide) ?_
    with_reducible refine xm_go_blk b_X2_giveWords_89 k_X2_giveWords_89 ?_
    refine by_aload_n rfl ?_
    refine by_iload_n rfl ?_
    refine by_iconst ci_1 ?_
    refine by_aload_n rfl ?_
    refine by_getf cn_56 fl_2_27 (by first | exact rfl | assumption) (by decide) ?_
    simp (disch := first | exact Nat.ne_of_beq_eq_false rfl | exact rfl | omega) only [nI_add, xa_sub, xa_mul, pk_div, nm_mod, xa_shr, xa_and7, xa_and1, xa_and255, xa_by_and, nI_m1, Nat.add_sub_cancel, Nat.reducePow, Nat.zero_add, Nat.add_zero, Nat.reduceAdd, Nat.reduceMul, Nat.reduceSub, xf_same, xq_ff, xq_fo, xf_1, xf_2, xs_1, xs_2, xs_same, xq_so, xj_1, xj_2, xj_same, xq_jo, xq_sa1, xq_same, xq_other, upd_s, oI_n, oI_s, xv_0, xv_1, xv_2, xv_3, xm_p1, xm_p2, xq_fp, xq_fn, List.filter_nil, Nat.reduceBEq, Bool.not_true, Bool.not_false, Bool.and_true, Bool.and_false, Bool.false_and, Bool.true_and, if_true, if_false, Bool.false_eq_true, reduceIte, xc_i, xc_j, xc_r, xc_n, List.nil_append, List.cons_append, Option.toList_some, Option.toList_none, h7]
    refine by_inv3 cn_56 lk_2_85 (by rw [xe_cnt]; decide) is_86 np_86 cn_86 (by first | exact rfl | assumption) (Nat.le_of_ble_eq_true rfl) ?_
    refine sp_mput hF (by decide) (by decide) (by omega) (fun h2 f2 b2 => ?_)
    rw [wb_tn hB] at b2
    have F2 := Fr_XF hF f2 (by decide +kernel)
    have e0 : h2.2.2 39 0 = .int (nI w) := by rw [f2.2.2 _ _ (by simp)]; exact h0
    have e9 : h2.2.2 39 9 = .long (lN L) := by rw [f2.2.2 _ _ (by simp)]; exact h9
    with_reducible refine xm_go_blk b_X2_giveWords_99 k_X2_giveWords_99 ?_
    refine by_aload_n rfl ?_
    refine by_iload_n rfl ?_
    refine by_iconst ci_1 ?_
    refine by_iadd ?_
    refine by_aload_n rfl ?_
    refine by_getf cn_56 fl_2_7 (by first | exact rfl | assumption) (by decide) ?_
    refine by_aload_n rfl ?_
    refine by_getf cn_56 fl_2_33 (by first | exact rfl | assumption) (by decide) ?_
    simp (disch := first | exact Nat.ne_of_beq_eq_false rfl | exact rfl | omega) only [nI_add, xa_sub, xa_mul, pk_div, nm_mod, xa_shr, xa_and7, xa_and1, xa_and255, xa_by_and, nI_m1, Nat.add_sub_cancel, Nat.reducePow, Nat.zero_add, Nat.add_zero, Nat.reduceAdd, Nat.reduceMul, Nat.reduceSub, xf_same, xq_ff, xq_fo, xf_1, xf_2, xs_1, xs_2, xs_same, xq_so, xj_1, xj_2, xj_same, xq_jo, xq_sa1, xq_same, xq_other, upd_s, oI_n, oI_s, xv_0, xv_1, xv_2, xv_3, xm_p1, xm_p2, xq_fp, xq_fn, List.filter_nil, Nat.reduceBEq, Bool.not_true, Bool.not_false, Bool.and_true, Bool.and_false, Bool.false_and, Bool.true_and, if_true, if_false, Bool.false_eq_true, reduceIte, xc_i, xc_j, xc_r, xc_n, List.nil_append, List.cons_append, Option.toList_some, Option.toList_none, e0, e9]
    refine by_inv3 cn_56 lk_2_85 (by rw [xe_cnt]; decide) is_86 np_86 cn_86 (by first | exact rfl | assumption) (Nat.le_of_ble_eq_true rfl) ?_
    refine sp_mput F2 (by omega) (by omega) (by omega) (fun h3 f3 b3 => ?_)
    rw [wb_tn hL, b2] at b3
    with_reducible refine xm_go_blk b_X2_giveWords_114 k_X2_giveWords_114 ?_
    refine by_goto 164 rfl ?_
    with_reducible refine xm_go_blk b_X2_giveWords_164 k_X2_giveWords_164 ?_
    refine by_ret ry_56 ?_
    have ea := mc_wr_app (mB h) to (bbits 1 B) (bbits w L)
    rw [bbits_len] at ea
    exact hp h3 (Fr_tr f2 f3 (fun _ z => z) (fun _ z => z)) (b3.trans ea)
end JB
/-- what a jet gives -/
def jtL (num : Nat) (u : Nat → Bool) : List Bool :=
  jL (num / 4) (8 * 2 ^ (num % 4)) (jc u (jt_S (num / 4))) (jx u (jt_S (num / 4)) (8 * 2 ^ (num % 4))) (jy u (jt_S (num / 4)) (8 * 2 ^ (num % 4))) (jz u (jt_S (num / 4)) (8 * 2 ^ (num % 4))) (jv u (jt_S (num / 4)) (8 * 2 ^ (num % 4)))
theorem jw_8 : ∀ m, m < 4 → jw (8 * 2 ^ m) := by
  intro m hm
  rcases (by omega : m = 0 ∨ m = 1 ∨ m = 2 ∨ m = 3) with rfl | rfl | rfl | rfl
  · exact Or.inl rfl
  · exact Or.inr (Or.inl rfl)
  · exact Or.inr (Or.inr (Or.inl rfl))
  · exact Or.inr (Or.inr (Or.inr rfl))
theorem jsh_8 : ∀ m, m < 4 → nI 8 <<< (nI m &&& 31) = nI (8 * 2 ^ m) := by decide
theorem nm_3 (a : Nat) : nI a &&& nI 3 = nI (a % 4) := by rw [nx_and]; congr 1; exact Nat.and_two_pow_sub_one_eq_mod a 2
theorem ones_w {w : Nat} (hw : jw w) : ((-1 : Int64).toUInt64 >>> ((nI (64 - w)).toInt64.toUInt64 &&& Int64.toUInt64 63)).toInt64 = lN (2 ^ w - 1) := by
  rcases hw with rfl | rfl | rfl | rfl <;> decide
theorem jS_in : ∀ k, k < 42 → jt_S k = 0 ∨ jt_S k = 2 ∨ jt_S k = 3 ∨ jt_S k = 4 ∨ jt_S k = 5 ∨ jt_S k = 8 ∨ jt_S k = 9 ∨ jt_S k = 10 := by decide
theorem jT_in : ∀ k, k < 42 → jt_T k = 1 ∨ jt_T k = 2 ∨ jt_T k = 3 ∨ jt_T k = 4 ∨ jt_T k = 6 ∨ jt_T k = 7 := by decide
theorem jT_r : ∀ k, k ≤ 6 → jt_T k = 7 := by decide
theorem jT_t : ∀ k, 19 ≤ k → k ≤ 22 → jt_T k = 1 := by
  intro k h1 h2
  rcases (by omega : k = 19 ∨ k = 20 ∨ k = 21 ∨ k = 22) with rfl | rfl | rfl | rfl <;> rfl
theorem jT_m : ∀ k, 23 ≤ k → k ≤ 31 → jt_T k = 3 := by
  intro k h1 h2
  rcases (by omega : k = 23 ∨ k = 24 ∨ k = 25 ∨ k = 26 ∨ k = 27 ∨ k = 28 ∨ k = 29 ∨ k = 30 ∨ k = 31) with rfl | rfl | rfl | rfl | rfl | rfl | rfl | rfl | rfl <;> rfl
theorem jx_lt (u : Nat → Bool) {s w : Nat} : jx u s w < 2 ^ w := by
  unfold jx
  split
  · exact Nat.two_pow_pos w
  · split
    · exact Nat.lt_of_lt_of_le (mc_n_lt _ _ _) (Nat.pow_le_pow_right (by decide) (by omega))
    · exact mc_n_lt _ _ _
theorem jy_lt (u : Nat → Bool) {s w : Nat} : jy u s w < 2 ^ w := by
  unfold jy; split
  · exact mc_n_lt _ _ _
  · exact Nat.two_pow_pos w
theorem jz_lt (u : Nat → Bool) {s w : Nat} : jz u s w < 2 ^ w := by
  unfold jz; split
  · exact mc_n_lt _ _ _
  · exact Nat.two_pow_pos w
theorem jv_lt (u : Nat → Bool) {s w : Nat} : jv u s w < 2 ^ w := by
  unfold jv; split
  · exact mc_n_lt _ _ _
  · exact Nat.two_pow_pos w
theorem jc_lt (u : Nat → Bool) (s : Nat) : jc u s < 256 := by
  unfold jc jAt
  split
  · exact Nat.lt_of_lt_of_le (mc_n_lt _ _ _) (by decide)
  · split
    · exact mc_n_lt _ _ 8
    · exact Nat.lt_of_lt_of_le (mc_n_lt _ _ _) (by decide)
theorem jc_1 (u : Nat → Bool) {s : Nat} (h : s ≠ 10) : jc u s ≤ 1 := by
  unfold jc jAt
  rw [if_neg h]
  split
  · exact Nat.le_of_lt_succ (mc_n_lt u 0 1)
  · exact Nat.zero_le _
