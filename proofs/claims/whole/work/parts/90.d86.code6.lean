/-! ===== definitions of jets: sums by halves ===== -/
theorem li_ka {a b : List Bool} {n : Nat} (h : n = a.length) : (a ++ b).take n = a := by subst h; exact List.take_left' rfl
theorem li_kb {a b : List Bool} {n : Nat} (h : a.length ≤ n) : (a ++ b).take n = a ++ b.take (n - a.length) := by
  rw [List.take_append, List.take_of_length_le h]
theorem li_da {a b : List Bool} {n : Nat} (h : n = a.length) : (a ++ b).drop n = b := by subst h; exact List.drop_left' rfl
theorem li_db {a b : List Bool} {n : Nat} (h : a.length ≤ n) : (a ++ b).drop n = b.drop (n - a.length) := by
  rw [List.drop_append, List.drop_eq_nil_of_le h, List.nil_append]
theorem li_kw {a : List Bool} {n : Nat} (h : a.length ≤ n) : a.take n = a := List.take_of_length_le h
theorem li_dz {a : List Bool} {n : Nat} (h : n = 0) : a.drop n = a := by subst h; rfl
theorem li_s2 {x : List Bool} {w : Nat} (h : x.length = w + w) : ∃ a b, x = a ++ b ∧ a.length = w ∧ b.length = w := ⟨x.take w, x.drop w, (List.take_append_drop w x).symm, by simp; omega, by simp; omega⟩
theorem li_s1 {x : List Bool} {a b : Nat} (h : x.length = a + b) : ∃ p q, x = p ++ q ∧ p.length = a ∧ q.length = b := ⟨x.take a, x.drop a, (List.take_append_drop a x).symm, by simp; omega, by simp; omega⟩
def rpS (w : Nat) (f F : gFn) : Prop := ∀ c x1 x0 y1 y0, c.length = 1 → x1.length = w → x0.length = w → y1.length = w → y0.length = w → F (c ++ ((x1 ++ x0) ++ (y1 ++ y0))) = f ((f (c ++ (x0 ++ y0))).take 1 ++ (x1 ++ y1)) ++ (f (c ++ (x0 ++ y0))).drop 1
def rpQ (w : Nat) (q : gQ) : gQ := qC (1 + w + 2 * w) (qP (qC (1 + 2 * w) (qP qL (qD (qP qL (qD qL)))) q) (qD (qP qL (qD qL)))) (qC (1 + w + w) (qP (qC (1 + 2 * w) (qP qL qL) q) qL) (qP qL (qP qL qL)))
section CD
variable {sc : xm_Sc} {d c m n s t w : Nat} {f : gFn} {q : gQ} {J : List Nat} {G : Nat → gN} {h : xm_H} {post : xm_Po}
theorem sp_ripple (hF : XF h) (hI : cI h G c m J) (hm : m + 35 ≤ 8000) (v : nG G c n (1 + 2 * w) (1 + w) f q) (hw : w ≤ 200) (hp : ∀ F, rpS w f F → cPo h G c (m + 35) J (1 + 4 * w) (1 + 2 * w) F (rpQ w q) post) : xm_T (XE sc) (d + 6) 31 [.ref 22, .int (nI n), .int (nI w)] h post := by
  have hl := nG_len hI v
  refine xq_in rfl ?_
  simp only [xq_a0, xq_aI, xq_aJ, xq_aR, Nat.reduceAdd]
  have E : cE h G c h G c := cE_rf
  with_reducible refine xm_go_blk b_X0_ripple_0 k_X0_ripple_0 ?_
  refine by_aload_n rfl ?_
  refine by_aload_n rfl ?_
  refine by_aload_n rfl ?_
  refine by_iconst ci_1 ?_
  refine by_iconst ci_4 ?_
  refine by_iload_n rfl ?_
  refine by_imul ?_
  simp (disch := first | exact Nat.ne_of_beq_eq_false rfl | exact rfl | omega) only [nI_add, xa_sub, xa_mul, pk_div, nm_mod, xa_shr, xa_and7, xa_and1, xa_and255, xa_by_and, nI_m1, Nat.add_sub_cancel, Nat.reducePow, Nat.zero_add, Nat.add_zero, Nat.reduceAdd, Nat.reduceMul, Nat.reduceSub, xf_same, xq_ff, xq_fo, xf_1, xf_2, xs_1, xs_2, xs_same, xq_so, xj_1, xj_2, xj_same, xq_jo, xq_sa1, xq_same, xq_other, upd_s, oI_n, oI_s, xv_0, xv_1, xv_2, xv_3, xm_p1, xm_p2, xq_fp, xq_fn, List.filter_nil, Nat.reduceBEq, Bool.not_true, Bool.not_false, Bool.and_true, Bool.and_false, Bool.false_and, Bool.true_and, if_true, if_false, Bool.false_eq_true, reduceIte, xc_i, xc_j, xc_r, xc_n, List.nil_append, List.cons_append, Option.toList_some, Option.toList_none]
  refine by_inv2 cn_31 lk_0_95 (by rw [xe_cnt]; decide) is_15 np_15 cn_15 (by first | exact rfl | assumption) (Nat.le_of_ble_eq_true rfl) ?_
  refine sp_first hF hI (by omega) (by omega) (fun h1 G1 c1 n1 F1 I1 e1 v1 => ?_)
  replace v := nG_up v e1
  replace E := cE_tr E e1
  with_reducible refine xm_go_blk b_X0_ripple_10 k_X0_ripple_10 ?_
  refine by_aload_n rfl ?_
  refine by_iconst ci_1 ?_
  refine by_aload_n rfl ?_
  refine by_iconst ci_2 ?_
  refine by_iload_n rfl ?_
  refine by_iconst ci_1 ?_
  refine by_inv3 cn_31 lk_0_148 (by rw [xe_cnt]; decide) is_17 np_17 cn_17 (by first | exact rfl | assumption) (Nat.le_of_ble_eq_true rfl) ?_
  refine sp_halves2l F1 I1 (by omega) (by omega) (fun h2 G2 c2 n2 F2 I2 e2 v2 => ?_)
  replace v := nG_up v e2
  replace v1 := nG_up v1 e2
  replace E := cE_tr E e2
  with_reducible refine xm_go_blk b_X0_ripple_19 k_X0_ripple_19 ?_
  refine by_inv2 cn_31 lk_0_47 (by rw [xe_cnt]; decide) is_12 np_12 cn_12 (by first | exact rfl | assumption) (Nat.le_of_ble_eq_true rfl) ?_
  refine sp_gdrop F2 I2 (by omega) v2 (by omega) (fun h3 G3 c3 n3 F3 I3 e3 v3 => ?_)
  replace v := nG_up v e3
  replace v1 := nG_up v1 e3
  replace E := cE_tr E e3
  with_reducible refine xm_go_blk b_X0_ripple_22 k_X0_ripple_22 ?_
  refine by_inv2 cn_31 lk_0_80 (by rw [xe_cnt]; decide) is_25 np_25 cn_25 (by first | exact rfl | assumption) (Nat.le_of_ble_eq_true rfl) ?_
  refine sp_gpair F3 I3 (by omega) v1 v3 (by omega) (by omega) (fun h4 G4 c4 n4 F4 I4 e4 v4 => ?_)
  replace v := nG_up v e4
  replace E := cE_tr E e4
  with_reducible refine xm_go_blk b_X0_ripple_25 k_X0_ripple_25 ?_
  refine by_iload_n rfl ?_
  refine by_inv2 cn_31 lk_0_86 (by rw [xe_cnt]; decide) is_7 np_7 cn_7 (by first | exact rfl | assumption) (Nat.le_of_ble_eq_true rfl) ?_
  refine sp_gcomp F4 I4 (by omega) v4 v (by omega) (fun h5 G5 c5 n5 F5 I5 e5 v5 => ?_)
  replace v := nG_up v e5
  replace E := cE_tr E e5
  with_reducible refine xm_go_blk b_X0_ripple_29 k_X0_ripple_29 ?_
  refine by_istore_n (by rw [ml_31]; decide) ?_
  refine by_aload_n rfl ?_
  refine by_iload_n rfl ?_
  refine by_aload_n rfl ?_
  refine by_iconst ci_1 ?_
  refine by_aload_n rfl ?_
  refine by_iconst ci_2 ?_
  refine by_iload_n rfl ?_
  refine by_iconst ci_0 ?_
  simp (disch := first | exact Nat.ne_of_beq_eq_false rfl | exact rfl | omega) only [nI_add, xa_sub, xa_mul, pk_div, nm_mod, xa_shr, xa_and7, xa_and1, xa_and255, xa_by_and, nI_m1, Nat.add_sub_cancel, Nat.reducePow, Nat.zero_add, Nat.add_zero, Nat.reduceAdd, Nat.reduceMul, Nat.reduceSub, xf_same, xq_ff, xq_fo, xf_1, xf_2, xs_1, xs_2, xs_same, xq_so, xj_1, xj_2, xj_same, xq_jo, xq_sa1, xq_same, xq_other, upd_s, oI_n, oI_s, xv_0, xv_1, xv_2, xv_3, xm_p1, xm_p2, xq_fp, xq_fn, List.filter_nil, Nat.reduceBEq, Bool.not_true, Bool.not_false, Bool.and_true, Bool.and_false, Bool.false_and, Bool.true_and, if_true, if_false, Bool.false_eq_true, reduceIte, xc_i, xc_j, xc_r, xc_n, List.nil_append, List.cons_append, Option.toList_some, Option.toList_none]
  refine by_inv3 cn_31 lk_0_148 (by rw [xe_cnt]; decide) is_17 np_17 cn_17 (by first | exact rfl | assumption) (Nat.le_of_ble_eq_true rfl) ?_
  refine sp_halves2h F5 I5 (by omega) (by omega) (fun h6 G6 c6 n6 F6 I6 e6 v6 => ?_)
  replace v := nG_up v e6
  replace v5 := nG_up v5 e6
  replace E := cE_tr E e6
  with_reducible refine xm_go_blk b_X0_ripple_41 k_X0_ripple_41 ?_
  refine by_inv2 cn_31 lk_0_47 (by rw [xe_cnt]; decide) is_12 np_12 cn_12 (by first | exact rfl | assumption) (Nat.le_of_ble_eq_true rfl) ?_
  refine sp_gdrop F6 I6 (by omega) v6 (by omega) (fun h7 G7 c7 n7 F7 I7 e7 v7 => ?_)
  replace v := nG_up v e7
  replace v5 := nG_up v5 e7
  replace E := cE_tr E e7
  with_reducible refine xm_go_blk b_X0_ripple_44 k_X0_ripple_44 ?_
  refine by_inv2 cn_31 lk_0_80 (by rw [xe_cnt]; decide) is_25 np_25 cn_25 (by first | exact rfl | assumption) (Nat.le_of_ble_eq_true rfl) ?_
  refine sp_gpair F7 I7 (by omega) v5 v7 (by omega) (by omega) (fun h8 G8 c8 n8 F8 I8 e8 v8 => ?_)
  replace v := nG_up v e8
  replace E := cE_tr E e8
  with_reducible refine xm_go_blk b_X0_ripple_47 k_X0_ripple_47 ?_
  refine by_istore (by rw [ml_31]; decide) ?_
  refine by_aload_n rfl ?_
  refine by_aload_n rfl ?_
  refine by_aload_n rfl ?_
  refine by_aload_n rfl ?_
  refine by_iconst ci_1 ?_
  refine by_iload_n rfl ?_
  simp (disch := first | exact Nat.ne_of_beq_eq_false rfl | exact rfl | omega) only [nI_add, xa_sub, xa_mul, pk_div, nm_mod, xa_shr, xa_and7, xa_and1, xa_and255, xa_by_and, nI_m1, Nat.add_sub_cancel, Nat.reducePow, Nat.zero_add, Nat.add_zero, Nat.reduceAdd, Nat.reduceMul, Nat.reduceSub, xf_same, xq_ff, xq_fo, xf_1, xf_2, xs_1, xs_2, xs_same, xq_so, xj_1, xj_2, xj_same, xq_jo, xq_sa1, xq_same, xq_other, upd_s, oI_n, oI_s, xv_0, xv_1, xv_2, xv_3, xm_p1, xm_p2, xq_fp, xq_fn, List.filter_nil, Nat.reduceBEq, Bool.not_true, Bool.not_false, Bool.and_true, Bool.and_false, Bool.false_and, Bool.true_and, if_true, if_false, Bool.false_eq_true, reduceIte, xc_i, xc_j, xc_r, xc_n, List.nil_append, List.cons_append, Option.toList_some, Option.toList_none]
  refine by_inv2 cn_31 lk_0_95 (by rw [xe_cnt]; decide) is_15 np_15 cn_15 (by first | exact rfl | assumption) (Nat.le_of_ble_eq_true rfl) ?_
  refine sp_first F8 I8 (by omega) (by omega) (fun h9 G9 c9 n9 F9 I9 e9 v9 => ?_)
  replace v := nG_up v e9
  replace v8 := nG_up v8 e9
  replace E := cE_tr E e9
  with_reducible refine xm_go_blk b_X0_ripple_58 k_X0_ripple_58 ?_
  refine by_iconst ci_2 ?_
  refine by_iload_n rfl ?_
  refine by_imul ?_
  simp (disch := first | exact Nat.ne_of_beq_eq_false rfl | exact rfl | omega) only [nI_add, xa_sub, xa_mul, pk_div, nm_mod, xa_shr, xa_and7, xa_and1, xa_and255, xa_by_and, nI_m1, Nat.add_sub_cancel, Nat.reducePow, Nat.zero_add, Nat.add_zero, Nat.reduceAdd, Nat.reduceMul, Nat.reduceSub, xf_same, xq_ff, xq_fo, xf_1, xf_2, xs_1, xs_2, xs_same, xq_so, xj_1, xj_2, xj_same, xq_jo, xq_sa1, xq_same, xq_other, upd_s, oI_n, oI_s, xv_0, xv_1, xv_2, xv_3, xm_p1, xm_p2, xq_fp, xq_fn, List.filter_nil, Nat.reduceBEq, Bool.not_true, Bool.not_false, Bool.and_true, Bool.and_false, Bool.false_and, Bool.true_and, if_true, if_false, Bool.false_eq_true, reduceIte, xc_i, xc_j, xc_r, xc_n, List.nil_append, List.cons_append, Option.toList_some, Option.toList_none]
  refine by_inv2 cn_31 lk_0_101 (by rw [xe_cnt]; decide) is_33 np_33 cn_33 (by first | exact rfl | assumption) (Nat.le_of_ble_eq_true rfl) ?_
  refine sp_gtake F9 I9 (by omega) v9 (by omega) (fun h10 G10 c10 n10 F10 I10 e10 v10 => ?_)
  replace v := nG_up v e10
  replace v8 := nG_up v8 e10
  replace E := cE_tr E e10
  with_reducible refine xm_go_blk b_X0_ripple_64 k_X0_ripple_64 ?_
  refine by_aload_n rfl ?_
  refine by_iconst ci_1 ?_
  refine by_iload_n rfl ?_
  refine by_iadd ?_
  refine by_iconst ci_2 ?_
  refine by_iload_n rfl ?_
  refine by_imul ?_
  simp (disch := first | exact Nat.ne_of_beq_eq_false rfl | exact rfl | omega) only [nI_add, xa_sub, xa_mul, pk_div, nm_mod, xa_shr, xa_and7, xa_and1, xa_and255, xa_by_and, nI_m1, Nat.add_sub_cancel, Nat.reducePow, Nat.zero_add, Nat.add_zero, Nat.reduceAdd, Nat.reduceMul, Nat.reduceSub, xf_same, xq_ff, xq_fo, xf_1, xf_2, xs_1, xs_2, xs_same, xq_so, xj_1, xj_2, xj_same, xq_jo, xq_sa1, xq_same, xq_other, upd_s, oI_n, oI_s, xv_0, xv_1, xv_2, xv_3, xm_p1, xm_p2, xq_fp, xq_fn, List.filter_nil, Nat.reduceBEq, Bool.not_true, Bool.not_false, Bool.and_true, Bool.and_false, Bool.false_and, Bool.true_and, if_true, if_false, Bool.false_eq_true, reduceIte, xc_i, xc_j, xc_r, xc_n, List.nil_append, List.cons_append, Option.toList_some, Option.toList_none]
  refine by_inv2 cn_31 lk_0_92 (by rw [xe_cnt]; decide) is_32 np_32 cn_32 (by first | exact rfl | assumption) (Nat.le_of_ble_eq_true rfl) ?_
  refine sp_second F10 I10 (by omega) (by omega) (fun h11 G11 c11 n11 F11 I11 e11 v11 => ?_)
  replace v := nG_up v e11
  replace v10 := nG_up v10 e11
  replace v8 := nG_up v8 e11
  replace E := cE_tr E e11
  with_reducible refine xm_go_blk b_X0_ripple_74 k_X0_ripple_74 ?_
  refine by_inv2 cn_31 lk_0_80 (by rw [xe_cnt]; decide) is_25 np_25 cn_25 (by first | exact rfl | assumption) (Nat.le_of_ble_eq_true rfl) ?_
  refine sp_gpair F11 I11 (by omega) v10 v11 (by omega) (by omega) (fun h12 G12 c12 n12 F12 I12 e12 v12 => ?_)
  replace v := nG_up v e12
  replace v8 := nG_up v8 e12
  replace E := cE_tr E e12
  with_reducible refine xm_go_blk b_X0_ripple_77 k_X0_ripple_77 ?_
  refine by_iload_n rfl ?_
  refine by_inv2 cn_31 lk_0_86 (by rw [xe_cnt]; decide) is_7 np_7 cn_7 (by first | exact rfl | assumption) (Nat.le_of_ble_eq_true rfl) ?_
  refine sp_gcomp F12 I12 (by omega) v12 v (by omega) (fun h13 G13 c13 n13 F13 I13 e13 v13 => ?_)
  replace v8 := nG_up v8 e13
  replace E := cE_tr E e13
  with_reducible refine xm_go_blk b_X0_ripple_81 k_X0_ripple_81 ?_
  refine by_istore (by rw [ml_31]; decide) ?_
  refine by_aload_n rfl ?_
  refine by_iload rfl ?_
  refine by_aload_n rfl ?_
  refine by_aload_n rfl ?_
  refine by_iconst ci_1 ?_
  refine by_iload_n rfl ?_
  simp (disch := first | exact Nat.ne_of_beq_eq_false rfl | exact rfl | omega) only [nI_add, xa_sub, xa_mul, pk_div, nm_mod, xa_shr, xa_and7, xa_and1, xa_and255, xa_by_and, nI_m1, Nat.add_sub_cancel, Nat.reducePow, Nat.zero_add, Nat.add_zero, Nat.reduceAdd, Nat.reduceMul, Nat.reduceSub, xf_same, xq_ff, xq_fo, xf_1, xf_2, xs_1, xs_2, xs_same, xq_so, xj_1, xj_2, xj_same, xq_jo, xq_sa1, xq_same, xq_other, upd_s, oI_n, oI_s, xv_0, xv_1, xv_2, xv_3, xm_p1, xm_p2, xq_fp, xq_fn, List.filter_nil, Nat.reduceBEq, Bool.not_true, Bool.not_false, Bool.and_true, Bool.and_false, Bool.false_and, Bool.true_and, if_true, if_false, Bool.false_eq_true, reduceIte, xc_i, xc_j, xc_r, xc_n, List.nil_append, List.cons_append, Option.toList_some, Option.toList_none]
  refine by_inv2 cn_31 lk_0_92 (by rw [xe_cnt]; decide) is_32 np_32 cn_32 (by first | exact rfl | assumption) (Nat.le_of_ble_eq_true rfl) ?_
  refine sp_second F13 I13 (by omega) (by omega) (fun h14 G14 c14 n14 F14 I14 e14 v14 => ?_)
  replace v13 := nG_up v13 e14
  replace v8 := nG_up v8 e14
  replace E := cE_tr E e14
  with_reducible refine xm_go_blk b_X0_ripple_93 k_X0_ripple_93 ?_
  refine by_iconst ci_2 ?_
  refine by_iload_n rfl ?_
  refine by_imul ?_
  simp (disch := first | exact Nat.ne_of_beq_eq_false rfl | exact rfl | omega) only [nI_add, xa_sub, xa_mul, pk_div, nm_mod, xa_shr, xa_and7, xa_and1, xa_and255, xa_by_and, nI_m1, Nat.add_sub_cancel, Nat.reducePow, Nat.zero_add, Nat.add_zero, Nat.reduceAdd, Nat.reduceMul, Nat.reduceSub, xf_same, xq_ff, xq_fo, xf_1, xf_2, xs_1, xs_2, xs_same, xq_so, xj_1, xj_2, xj_same, xq_jo, xq_sa1, xq_same, xq_other, upd_s, oI_n, oI_s, xv_0, xv_1, xv_2, xv_3, xm_p1, xm_p2, xq_fp, xq_fn, List.filter_nil, Nat.reduceBEq, Bool.not_true, Bool.not_false, Bool.and_true, Bool.and_false, Bool.false_and, Bool.true_and, if_true, if_false, Bool.false_eq_true, reduceIte, xc_i, xc_j, xc_r, xc_n, List.nil_append, List.cons_append, Option.toList_some, Option.toList_none]
  refine by_inv2 cn_31 lk_0_101 (by rw [xe_cnt]; decide) is_33 np_33 cn_33 (by first | exact rfl | assumption) (Nat.le_of_ble_eq_true rfl) ?_
  refine sp_gtake F14 I14 (by omega) v14 (by omega) (fun h15 G15 c15 n15 F15 I15 e15 v15 => ?_)
  replace v13 := nG_up v13 e15
  replace v8 := nG_up v8 e15
  replace E := cE_tr E e15
  with_reducible refine xm_go_blk b_X0_ripple_99 k_X0_ripple_99 ?_
  refine by_inv2 cn_31 lk_0_80 (by rw [xe_cnt]; decide) is_25 np_25 cn_25 (by first | exact rfl | assumption) (Nat.le_of_ble_eq_true rfl) ?_
  refine sp_gpair F15 I15 (by omega) v13 v15 (by omega) (by omega) (fun h16 G16 c16 n16 F16 I16 e16 v16 => ?_)
  replace v8 := nG_up v8 e16
  replace E := cE_tr E e16
  with_reducible refine xm_go_blk b_X0_ripple_102 k_X0_ripple_102 ?_
  refine by_istore (by rw [ml_31]; decide) ?_
  refine by_aload_n rfl ?_
  refine by_aload_n rfl ?_
  refine by_aload_n rfl ?_
  refine by_iconst ci_1 ?_
  refine by_iload_n rfl ?_
  simp (disch := first | exact Nat.ne_of_beq_eq_false rfl | exact rfl | omega) only [nI_add, xa_sub, xa_mul, pk_div, nm_mod, xa_shr, xa_and7, xa_and1, xa_and255, xa_by_and, nI_m1, Nat.add_sub_cancel, Nat.reducePow, Nat.zero_add, Nat.add_zero, Nat.reduceAdd, Nat.reduceMul, Nat.reduceSub, xf_same, xq_ff, xq_fo, xf_1, xf_2, xs_1, xs_2, xs_same, xq_so, xj_1, xj_2, xj_same, xq_jo, xq_sa1, xq_same, xq_other, upd_s, oI_n, oI_s, xv_0, xv_1, xv_2, xv_3, xm_p1, xm_p2, xq_fp, xq_fn, List.filter_nil, Nat.reduceBEq, Bool.not_true, Bool.not_false, Bool.and_true, Bool.and_false, Bool.false_and, Bool.true_and, if_true, if_false, Bool.false_eq_true, reduceIte, xc_i, xc_j, xc_r, xc_n, List.nil_append, List.cons_append, Option.toList_some, Option.toList_none]
  refine by_inv2 cn_31 lk_0_95 (by rw [xe_cnt]; decide) is_15 np_15 cn_15 (by first | exact rfl | assumption) (Nat.le_of_ble_eq_true rfl) ?_
  refine sp_first F16 I16 (by omega) (by omega) (fun h17 G17 c17 n17 F17 I17 e17 v17 => ?_)
  replace v16 := nG_up v16 e17
  replace v8 := nG_up v8 e17
  replace E := cE_tr E e17
  with_reducible refine xm_go_blk b_X0_ripple_112 k_X0_ripple_112 ?_
  refine by_iload_n rfl ?_
  refine by_inv2 cn_31 lk_0_101 (by rw [xe_cnt]; decide) is_33 np_33 cn_33 (by first | exact rfl | assumption) (Nat.le_of_ble_eq_true rfl) ?_
  refine sp_gtake F17 I17 (by omega) v17 (by omega) (fun h18 G18 c18 n18 F18 I18 e18 v18 => ?_)
  replace v16 := nG_up v16 e18
  replace v8 := nG_up v8 e18
  replace E := cE_tr E e18
  with_reducible refine xm_go_blk b_X0_ripple_116 k_X0_ripple_116 ?_
  refine by_aload_n rfl ?_
  refine by_aload_n rfl ?_
  refine by_aload_n rfl ?_
  refine by_iconst ci_1 ?_
  refine by_iload_n rfl ?_
  refine by_inv2 cn_31 lk_0_92 (by rw [xe_cnt]; decide) is_32 np_32 cn_32 (by first | exact rfl | assumption) (Nat.le_of_ble_eq_true rfl) ?_
  refine sp_second F18 I18 (by omega) (by omega) (fun h19 G19 c19 n19 F19 I19 e19 v19 => ?_)
  replace v16 := nG_up v16 e19
  replace v18 := nG_up v18 e19
  replace v8 := nG_up v8 e19
  replace E := cE_tr E e19
  with_reducible refine xm_go_blk b_X0_ripple_124 k_X0_ripple_124 ?_
  refine by_iload_n rfl ?_
  refine by_inv2 cn_31 lk_0_101 (by rw [xe_cnt]; decide) is_33 np_33 cn_33 (by first | exact rfl | assumption) (Nat.le_of_ble_eq_true rfl) ?_
  refine sp_gtake F19 I19 (by omega) v19 (by omega) (fun h20 G20 c20 n20 F20 I20 e20 v20 => ?_)
  replace v16 := nG_up v16 e20
  replace v18 := nG_up v18 e20
  replace v8 := nG_up v8 e20
  replace E := cE_tr E e20
  with_reducible refine xm_go_blk b_X0_ripple_128 k_X0_ripple_128 ?_
  refine by_aload_n rfl ?_
  refine by_iconst ci_1 ?_
  refine by_iload_n rfl ?_
  refine by_iadd ?_
  refine by_iload_n rfl ?_
  simp (disch := first | exact Nat.ne_of_beq_eq_false rfl | exact rfl | omega) only [nI_add, xa_sub, xa_mul, pk_div, nm_mod, xa_shr, xa_and7, xa_and1, xa_and255, xa_by_and, nI_m1, Nat.add_sub_cancel, Nat.reducePow, Nat.zero_add, Nat.add_zero, Nat.reduceAdd, Nat.reduceMul, Nat.reduceSub, xf_same, xq_ff, xq_fo, xf_1, xf_2, xs_1, xs_2, xs_same, xq_so, xj_1, xj_2, xj_same, xq_jo, xq_sa1, xq_same, xq_other, upd_s, oI_n, oI_s, xv_0, xv_1, xv_2, xv_3, xm_p1, xm_p2, xq_fp, xq_fn, List.filter_nil, Nat.reduceBEq, Bool.not_true, Bool.not_false, Bool.and_true, Bool.and_false, Bool.false_and, Bool.true_and, if_true, if_false, Bool.false_eq_true, reduceIte, xc_i, xc_j, xc_r, xc_n, List.nil_append, List.cons_append, Option.toList_some, Option.toList_none]
  refine by_inv2 cn_31 lk_0_92 (by rw [xe_cnt]; decide) is_32 np_32 cn_32 (by first | exact rfl | assumption) (Nat.le_of_ble_eq_true rfl) ?_
  refine sp_second F20 I20 (by omega) (by omega) (fun h21 G21 c21 n21 F21 I21 e21 v21 => ?_)
  replace v16 := nG_up v16 e21
  replace v18 := nG_up v18 e21
  replace v20 := nG_up v20 e21
  replace v8 := nG_up v8 e21
  replace E := cE_tr E e21
  with_reducible refine xm_go_blk b_X0_ripple_136 k_X0_ripple_136 ?_
  refine by_inv2 cn_31 lk_0_80 (by rw [xe_cnt]; decide) is_25 np_25 cn_25 (by first | exact rfl | assumption) (Nat.le_of_ble_eq_true rfl) ?_
  refine sp_gpair F21 I21 (by omega) v20 v21 (by omega) (by omega) (fun h22 G22 c22 n22 F22 I22 e22 v22 => ?_)
  replace v16 := nG_up v16 e22
  replace v18 := nG_up v18 e22
  replace v8 := nG_up v8 e22
  replace E := cE_tr E e22
  with_reducible refine xm_go_blk b_X0_ripple_139 k_X0_ripple_139 ?_
  refine by_inv2 cn_31 lk_0_80 (by rw [xe_cnt]; decide) is_25 np_25 cn_25 (by first | exact rfl | assumption) (Nat.le_of_ble_eq_true rfl) ?_
  refine sp_gpair F22 I22 (by omega) v18 v22 (by omega) (by omega) (fun h23 G23 c23 n23 F23 I23 e23 v23 => ?_)
  replace v16 := nG_up v16 e23
  replace v8 := nG_up v8 e23
  replace E := cE_tr E e23
  with_reducible refine xm_go_blk b_X0_ripple_142 k_X0_ripple_142 ?_
  refine by_istore (by rw [ml_31]; decide) ?_
  refine by_aload_n rfl ?_
  refine by_iload rfl ?_
  refine by_aload_n rfl ?_
  refine by_iload rfl ?_
  refine by_iload rfl ?_
  simp (disch := first | exact Nat.ne_of_beq_eq_false rfl | exact rfl | omega) only [nI_add, xa_sub, xa_mul, pk_div, nm_mod, xa_shr, xa_and7, xa_and1, xa_and255, xa_by_and, nI_m1, Nat.add_sub_cancel, Nat.reducePow, Nat.zero_add, Nat.add_zero, Nat.reduceAdd, Nat.reduceMul, Nat.reduceSub, xf_same, xq_ff, xq_fo, xf_1, xf_2, xs_1, xs_2, xs_same, xq_so, xj_1, xj_2, xj_same, xq_jo, xq_sa1, xq_same, xq_other, upd_s, oI_n, oI_s, xv_0, xv_1, xv_2, xv_3, xm_p1, xm_p2, xq_fp, xq_fn, List.filter_nil, Nat.reduceBEq, Bool.not_true, Bool.not_false, Bool.and_true, Bool.and_false, Bool.false_and, Bool.true_and, if_true, if_false, Bool.false_eq_true, reduceIte, xc_i, xc_j, xc_r, xc_n, List.nil_append, List.cons_append, Option.toList_some, Option.toList_none]
  refine by_inv2 cn_31 lk_0_86 (by rw [xe_cnt]; decide) is_7 np_7 cn_7 (by first | exact rfl | assumption) (Nat.le_of_ble_eq_true rfl) ?_
  refine sp_gcomp F23 I23 (by omega) v16 v23 (by omega) (fun h24 G24 c24 n24 F24 I24 e24 v24 => ?_)
  replace v8 := nG_up v8 e24
  replace E := cE_tr E e24
  with_reducible refine xm_go_blk b_X0_ripple_155 k_X0_ripple_155 ?_
  refine by_inv2 cn_31 lk_0_86 (by rw [xe_cnt]; decide) is_7 np_7 cn_7 (by first | exact rfl | assumption) (Nat.le_of_ble_eq_true rfl) ?_
  refine sp_gcomp F24 I24 (by omega) v8 v24 (by omega) (fun h25 G25 c25 n25 F25 I25 e25 v25 => ?_)
  replace E := cE_tr E e25
  with_reducible refine xm_go_blk b_X0_ripple_158 k_X0_ripple_158 ?_
  refine by_iret ry_31 (by first | rfl | assumption) ?_
  refine hp _ ?_ _ _ _ _ F25 I25 E (nG_cg v25 (by omega) (by omega) (fun _ _ => rfl) (qle_rf _))
  intro c x1 x0 y1 y0 hc h1 h0 k1 k0
  have l1 := hl (c ++ (x0 ++ y0)) (by simp only [List.length_append]; omega)
  obtain ⟨a, b, e1, ha, hb⟩ := li_s1 l1
  simp (disch := ((try simp only [List.length_append]); omega)) only [List.append_assoc, li_ka, li_da, li_kb, li_db, li_kw, li_dz]
  rw [e1]
  have l2 := hl (a ++ (x1 ++ y1)) (by simp only [List.length_append]; omega)
  obtain ⟨a', b', e2, ha', hb'⟩ := li_s1 l2
  simp (disch := ((try simp only [List.length_append]); omega)) only [List.append_assoc, li_ka, li_da, li_kb, li_db, li_kw, li_dz, e2]
end CD
