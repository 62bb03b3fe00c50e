/-! ===== definitions of jets: the product by quarters ===== -/
def prX (x1 x0 y1 y0 z1 z0 v1 v0 : List Bool) : List Bool := x1 ++ (x0 ++ (y1 ++ (y0 ++ (z1 ++ (z0 ++ (v1 ++ v0))))))
def pr4 (w : Nat) (f H F : gFn) : Prop := ∀ x x1 x0 y1 y0 z1 z0 v1 v0 a1 a0 b1 b0 c1 c0, x.length = 8 * w → x1.length = w → x0.length = w → y1.length = w → y0.length = w → z1.length = w → z0.length = w → v1.length = w → v0.length = w → a1.length = w → a0.length = w → b1.length = w → b0.length = w → c1.length = w → c0.length = w →
  H x = c1 ++ (c0 ++ (b1 ++ (b0 ++ (a1 ++ (a0 ++ prX x1 x0 y1 y0 z1 z0 v1 v0))))) → F x = f (x1 ++ (y1 ++ (b1 ++ c1))) ++ (c0 ++ a0)
def pr3 (w : Nat) (f H F : gFn) : Prop := ∀ x x1 x0 y1 y0 z1 z0 v1 v0 a1 a0 b1 b0 c1 c0, x.length = 8 * w → x1.length = w → x0.length = w → y1.length = w → y0.length = w → z1.length = w → z0.length = w → v1.length = w → v0.length = w → a1.length = w → a0.length = w → b1.length = w → b0.length = w → c1.length = w → c0.length = w →
  H x = b1 ++ (b0 ++ (a1 ++ (a0 ++ prX x1 x0 y1 y0 z1 z0 v1 v0))) → f (x0 ++ (y1 ++ (v1 ++ b0))) = c1 ++ c0 → F x = f (x1 ++ (y1 ++ (b1 ++ c1))) ++ (c0 ++ a0)
def pr2 (w : Nat) (f H F : gFn) : Prop := ∀ x x1 x0 y1 y0 z1 z0 v1 v0 a1 a0 b1 b0 c1 c0, x.length = 8 * w → x1.length = w → x0.length = w → y1.length = w → y0.length = w → z1.length = w → z0.length = w → v1.length = w → v0.length = w → a1.length = w → a0.length = w → b1.length = w → b0.length = w → c1.length = w → c0.length = w →
  H x = a1 ++ (a0 ++ prX x1 x0 y1 y0 z1 z0 v1 v0) → f (x1 ++ (y0 ++ (z1 ++ a1))) = b1 ++ b0 → f (x0 ++ (y1 ++ (v1 ++ b0))) = c1 ++ c0 → F x = f (x1 ++ (y1 ++ (b1 ++ c1))) ++ (c0 ++ a0)
def prS (w : Nat) (f F : gFn) : Prop := ∀ x1 x0 y1 y0 z1 z0 v1 v0 a1 a0 b1 b0 c1 c0, x1.length = w → x0.length = w → y1.length = w → y0.length = w → z1.length = w → z0.length = w → v1.length = w → v0.length = w → a1.length = w → a0.length = w → b1.length = w → b0.length = w → c1.length = w → c0.length = w →
  f (x0 ++ (y0 ++ (z0 ++ v0))) = a1 ++ a0 → f (x1 ++ (y0 ++ (z1 ++ a1))) = b1 ++ b0 → f (x0 ++ (y1 ++ (v1 ++ b0))) = c1 ++ c0 → F ((x1 ++ x0) ++ ((y1 ++ y0) ++ ((z1 ++ z0) ++ (v1 ++ v0)))) = f (x1 ++ (y1 ++ (b1 ++ c1))) ++ (c0 ++ a0)
def prQ4 (w : Nat) (q q4 q6 q8 : gQ) : gQ := (qC (2 * w + 8 * w) q4 (qC (2 * w + 10 * w) q6 (qC (2 * w + 12 * w) q8 (qP (qC ((w + w) + (w + w)) (qP (qD (qP qL (qD qL))) (qP (qD qL) qL)) q) (qP qL (qD qL))))))
def prQ3 (w : Nat) (q : gQ) : gQ := (qP (qC ((w + w) + (w + w)) (qP (qD (qP qL (qD qL))) (qP (qD (qD (qD qL))) qL)) q) qL)
def prQ2 (w : Nat) (q : gQ) : gQ := (qP (qC ((w + w) + (w + w)) (qP (qD (qP qL (qD qL))) (qP (qD (qD qL)) qL)) q) qL)
def prQ1 (w : Nat) (q : gQ) : gQ := (qP (qC ((w + w) + (w + w)) (qP (qP qL (qD qL)) (qP (qD qL) (qD (qD qL)))) q) qL)
def prQ (w : Nat) (q : gQ) : gQ := prQ4 w q (prQ1 w q) (prQ2 w q) (prQ3 w q)
section CD
variable {sc : xm_Sc} {d n w : Nat} {f : gFn} {q : gQ} {J : List Nat} {post : xm_Po}
theorem pr_4 {c m n4 n6 n8 : Nat} {F4 F6 F8 : gFn} {q4 q6 q8 : gQ} {G : Nat → gN} {h : xm_H} (hF : XF h) (hI : cI h G c m J) (hm : m + 30 ≤ 8000) (v : nG G c n (4 * w) (2 * w) f q) (u4 : nG G c n4 (8 * w) (2 * w + 8 * w) F4 q4) (u6 : nG G c n6 (10 * w) (2 * w + 10 * w) F6 q6) (u8 : nG G c n8 (12 * w) (2 * w + 12 * w) F8 q8) (hw : w ≤ 200)
    (hp : ∀ F, pr4 w f (fun x => F8 (F6 (F4 x))) F → cPo h G c (m + 30) J (8 * w) (4 * w) F (prQ4 w q q4 q6 q8) post) : xm_go (XE sc) (xm_T (XE sc) (d + 5)) 28 post 227 [(0, .ref 22), (1, .int (nI n)), (2, .int (nI w)), (4, .int (nI n4)), (6, .int (nI n6))] [.int (nI n8)] h := by
  have E : cE h G c h G c := cE_rf
  with_reducible refine xm_go_blk b_X0_product_227 k_X0_product_227 ?_
  refine by_istore (by rw [ml_28]; decide) ?_
  refine by_aload_n rfl ?_
  refine by_aload_n rfl ?_
  refine by_aload_n rfl ?_
  refine by_bipush cb_6 ?_
  refine by_iload_n rfl ?_
  refine by_imul ?_
  refine by_aload_n rfl ?_
  refine by_aload_n rfl ?_
  refine by_iconst ci_0 ?_
  refine by_iconst ci_0 ?_
  refine by_iload_n rfl ?_
  simp (disch := first | exact Nat.ne_of_beq_eq_false rfl | exact rfl | omega) only [nI_add, xa_sub, xa_mul, pk_div, nm_mod, xa_shr, xa_and7, xa_and1, xa_and255, xa_by_and, nI_m1, Nat.add_sub_cancel, Nat.reducePow, Nat.zero_add, Nat.add_zero, Nat.reduceAdd, Nat.reduceMul, Nat.reduceSub, xf_same, xq_ff, xq_fo, xf_1, xf_2, xs_1, xs_2, xs_same, xq_so, xj_1, xj_2, xj_same, xq_jo, xq_sa1, xq_same, xq_other, upd_s, oI_n, oI_s, xv_0, xv_1, xv_2, xv_3, xm_p1, xm_p2, xq_fp, xq_fn, List.filter_nil, Nat.reduceBEq, Bool.not_true, Bool.not_false, Bool.and_true, Bool.and_false, Bool.false_and, Bool.true_and, if_true, if_false, Bool.false_eq_true, reduceIte, xc_i, xc_j, xc_r, xc_n, List.nil_append, List.cons_append, Option.toList_some, Option.toList_none]
  refine by_inv3 cn_28 lk_0_152 (by rw [xe_cnt]; decide) is_29 np_29 cn_29 (by first | exact rfl | assumption) (Nat.le_of_ble_eq_true rfl) ?_
  refine sp_quarter0h hF hI (by omega) (by omega) (fun h1 G1 c1 n1 F1 I1 e1 v1 => ?_)
  replace u4 := nG_up u4 e1
  replace u6 := nG_up u6 e1
  replace u8 := nG_up u8 e1
  replace v := nG_up v e1
  replace E := cE_tr E e1
  with_reducible refine xm_go_blk b_X0_product_244 k_X0_product_244 ?_
  refine by_aload_n rfl ?_
  refine by_iconst ci_1 ?_
  refine by_iconst ci_0 ?_
  refine by_iload_n rfl ?_
  refine by_inv3 cn_28 lk_0_152 (by rw [xe_cnt]; decide) is_29 np_29 cn_29 (by first | exact rfl | assumption) (Nat.le_of_ble_eq_true rfl) ?_
  refine sp_quarter1h F1 I1 (by omega) (by omega) (fun h2 G2 c2 n2 F2 I2 e2 v2 => ?_)
  replace u4 := nG_up u4 e2
  replace u6 := nG_up u6 e2
  replace u8 := nG_up u8 e2
  replace v := nG_up v e2
  replace v1 := nG_up v1 e2
  replace E := cE_tr E e2
  with_reducible refine xm_go_blk b_X0_product_251 k_X0_product_251 ?_
  refine by_inv2 cn_28 lk_0_80 (by rw [xe_cnt]; decide) is_25 np_25 cn_25 (by first | exact rfl | assumption) (Nat.le_of_ble_eq_true rfl) ?_
  refine sp_gpair F2 I2 (by omega) v1 v2 (by omega) (by omega) (fun h3 G3 c3 n3 F3 I3 e3 v3 => ?_)
  replace u4 := nG_up u4 e3
  replace u6 := nG_up u6 e3
  replace u8 := nG_up u8 e3
  replace v := nG_up v e3
  replace E := cE_tr E e3
  with_reducible refine xm_go_blk b_X0_product_254 k_X0_product_254 ?_
  refine by_inv2 cn_28 lk_0_47 (by rw [xe_cnt]; decide) is_12 np_12 cn_12 (by first | exact rfl | assumption) (Nat.le_of_ble_eq_true rfl) ?_
  refine sp_gdrop F3 I3 (by omega) v3 (by omega) (fun h4 G4 c4 n4 F4 I4 e4 v4 => ?_)
  replace u4 := nG_up u4 e4
  replace u6 := nG_up u6 e4
  replace u8 := nG_up u8 e4
  replace v := nG_up v e4
  replace E := cE_tr E e4
  with_reducible refine xm_go_blk b_X0_product_257 k_X0_product_257 ?_
  refine by_aload_n rfl ?_
  refine by_aload_n rfl ?_
  refine by_iconst ci_2 ?_
  refine by_iload_n rfl ?_
  refine by_imul ?_
  refine by_aload_n rfl ?_
  refine by_aload_n rfl ?_
  refine by_iload_n rfl ?_
  refine by_iload_n rfl ?_
  simp (disch := first | exact Nat.ne_of_beq_eq_false rfl | exact rfl | omega) only [nI_add, xa_sub, xa_mul, pk_div, nm_mod, xa_shr, xa_and7, xa_and1, xa_and255, xa_by_and, nI_m1, Nat.add_sub_cancel, Nat.reducePow, Nat.zero_add, Nat.add_zero, Nat.reduceAdd, Nat.reduceMul, Nat.reduceSub, xf_same, xq_ff, xq_fo, xf_1, xf_2, xs_1, xs_2, xs_same, xq_so, xj_1, xj_2, xj_same, xq_jo, xq_sa1, xq_same, xq_other, upd_s, oI_n, oI_s, xv_0, xv_1, xv_2, xv_3, xm_p1, xm_p2, xq_fp, xq_fn, List.filter_nil, Nat.reduceBEq, Bool.not_true, Bool.not_false, Bool.and_true, Bool.and_false, Bool.false_and, Bool.true_and, if_true, if_false, Bool.false_eq_true, reduceIte, xc_i, xc_j, xc_r, xc_n, List.nil_append, List.cons_append, Option.toList_some, Option.toList_none]
  refine by_inv2 cn_28 lk_0_95 (by rw [xe_cnt]; decide) is_15 np_15 cn_15 (by first | exact rfl | assumption) (Nat.le_of_ble_eq_true rfl) ?_
  refine sp_first F4 I4 (by omega) (by omega) (fun h5 G5 c5 n5 F5 I5 e5 v5 => ?_)
  replace u4 := nG_up u4 e5
  replace u6 := nG_up u6 e5
  replace u8 := nG_up u8 e5
  replace v := nG_up v e5
  replace v4 := nG_up v4 e5
  replace E := cE_tr E e5
  with_reducible refine xm_go_blk b_X0_product_269 k_X0_product_269 ?_
  refine by_bipush cb_10 ?_
  refine by_iload_n rfl ?_
  refine by_imul ?_
  simp (disch := first | exact Nat.ne_of_beq_eq_false rfl | exact rfl | omega) only [nI_add, xa_sub, xa_mul, pk_div, nm_mod, xa_shr, xa_and7, xa_and1, xa_and255, xa_by_and, nI_m1, Nat.add_sub_cancel, Nat.reducePow, Nat.zero_add, Nat.add_zero, Nat.reduceAdd, Nat.reduceMul, Nat.reduceSub, xf_same, xq_ff, xq_fo, xf_1, xf_2, xs_1, xs_2, xs_same, xq_so, xj_1, xj_2, xj_same, xq_jo, xq_sa1, xq_same, xq_other, upd_s, oI_n, oI_s, xv_0, xv_1, xv_2, xv_3, xm_p1, xm_p2, xq_fp, xq_fn, List.filter_nil, Nat.reduceBEq, Bool.not_true, Bool.not_false, Bool.and_true, Bool.and_false, Bool.false_and, Bool.true_and, if_true, if_false, Bool.false_eq_true, reduceIte, xc_i, xc_j, xc_r, xc_n, List.nil_append, List.cons_append, Option.toList_some, Option.toList_none]
  refine by_inv2 cn_28 lk_0_101 (by rw [xe_cnt]; decide) is_33 np_33 cn_33 (by first | exact rfl | assumption) (Nat.le_of_ble_eq_true rfl) ?_
  refine sp_gtake F5 I5 (by omega) v5 (by omega) (fun h6 G6 c6 n6 F6 I6 e6 v6 => ?_)
  replace u4 := nG_up u4 e6
  replace u6 := nG_up u6 e6
  replace u8 := nG_up u8 e6
  replace v := nG_up v e6
  replace v4 := nG_up v4 e6
  replace E := cE_tr E e6
  with_reducible refine xm_go_blk b_X0_product_276 k_X0_product_276 ?_
  refine by_inv2 cn_28 lk_0_47 (by rw [xe_cnt]; decide) is_12 np_12 cn_12 (by first | exact rfl | assumption) (Nat.le_of_ble_eq_true rfl) ?_
  refine sp_gdrop F6 I6 (by omega) v6 (by omega) (fun h7 G7 c7 n7 F7 I7 e7 v7 => ?_)
  replace u4 := nG_up u4 e7
  replace u6 := nG_up u6 e7
  replace u8 := nG_up u8 e7
  replace v := nG_up v e7
  replace v4 := nG_up v4 e7
  replace E := cE_tr E e7
  with_reducible refine xm_go_blk b_X0_product_279 k_X0_product_279 ?_
  refine by_aload_n rfl ?_
  refine by_aload_n rfl ?_
  refine by_iload_n rfl ?_
  refine by_iload_n rfl ?_
  refine by_inv2 cn_28 lk_0_95 (by rw [xe_cnt]; decide) is_15 np_15 cn_15 (by first | exact rfl | assumption) (Nat.le_of_ble_eq_true rfl) ?_
  refine sp_first F7 I7 (by omega) (by omega) (fun h8 G8 c8 n8 F8 I8 e8 v8 => ?_)
  replace u4 := nG_up u4 e8
  replace u6 := nG_up u6 e8
  replace u8 := nG_up u8 e8
  replace v := nG_up v e8
  replace v4 := nG_up v4 e8
  replace v7 := nG_up v7 e8
  replace E := cE_tr E e8
  with_reducible refine xm_go_blk b_X0_product_286 k_X0_product_286 ?_
  refine by_bipush cb_12 ?_
  refine by_iload_n rfl ?_
  refine by_imul ?_
  simp (disch := first | exact Nat.ne_of_beq_eq_false rfl | exact rfl | omega) only [nI_add, xa_sub, xa_mul, pk_div, nm_mod, xa_shr, xa_and7, xa_and1, xa_and255, xa_by_and, nI_m1, Nat.add_sub_cancel, Nat.reducePow, Nat.zero_add, Nat.add_zero, Nat.reduceAdd, Nat.reduceMul, Nat.reduceSub, xf_same, xq_ff, xq_fo, xf_1, xf_2, xs_1, xs_2, xs_same, xq_so, xj_1, xj_2, xj_same, xq_jo, xq_sa1, xq_same, xq_other, upd_s, oI_n, oI_s, xv_0, xv_1, xv_2, xv_3, xm_p1, xm_p2, xq_fp, xq_fn, List.filter_nil, Nat.reduceBEq, Bool.not_true, Bool.not_false, Bool.and_true, Bool.and_false, Bool.false_and, Bool.true_and, if_true, if_false, Bool.false_eq_true, reduceIte, xc_i, xc_j, xc_r, xc_n, List.nil_append, List.cons_append, Option.toList_some, Option.toList_none]
  refine by_inv2 cn_28 lk_0_101 (by rw [xe_cnt]; decide) is_33 np_33 cn_33 (by first | exact rfl | assumption) (Nat.le_of_ble_eq_true rfl) ?_
  refine sp_gtake F8 I8 (by omega) v8 (by omega) (fun h9 G9 c9 n9 F9 I9 e9 v9 => ?_)
  replace u4 := nG_up u4 e9
  replace u6 := nG_up u6 e9
  replace u8 := nG_up u8 e9
  replace v := nG_up v e9
  replace v4 := nG_up v4 e9
  replace v7 := nG_up v7 e9
  replace E := cE_tr E e9
  with_reducible refine xm_go_blk b_X0_product_293 k_X0_product_293 ?_
  refine by_inv2 cn_28 lk_0_80 (by rw [xe_cnt]; decide) is_25 np_25 cn_25 (by first | exact rfl | assumption) (Nat.le_of_ble_eq_true rfl) ?_
  refine sp_gpair F9 I9 (by omega) v7 v9 (by omega) (by omega) (fun h10 G10 c10 n10 F10 I10 e10 v10 => ?_)
  replace u4 := nG_up u4 e10
  replace u6 := nG_up u6 e10
  replace u8 := nG_up u8 e10
  replace v := nG_up v e10
  replace v4 := nG_up v4 e10
  replace E := cE_tr E e10
  with_reducible refine xm_go_blk b_X0_product_296 k_X0_product_296 ?_
  refine by_inv2 cn_28 lk_0_80 (by rw [xe_cnt]; decide) is_25 np_25 cn_25 (by first | exact rfl | assumption) (Nat.le_of_ble_eq_true rfl) ?_
  refine sp_gpair F10 I10 (by omega) v4 v10 (by omega) (by omega) (fun h11 G11 c11 n11 F11 I11 e11 v11 => ?_)
  replace u4 := nG_up u4 e11
  replace u6 := nG_up u6 e11
  replace u8 := nG_up u8 e11
  replace v := nG_up v e11
  replace E := cE_tr E e11
  with_reducible refine xm_go_blk b_X0_product_299 k_X0_product_299 ?_
  refine by_iload_n rfl ?_
  refine by_inv2 cn_28 lk_0_86 (by rw [xe_cnt]; decide) is_7 np_7 cn_7 (by first | exact rfl | assumption) (Nat.le_of_ble_eq_true rfl) ?_
  refine sp_gcomp F11 I11 (by omega) v11 v (by omega) (fun h12 G12 c12 n12 F12 I12 e12 v12 => ?_)
  replace u4 := nG_up u4 e12
  replace u6 := nG_up u6 e12
  replace u8 := nG_up u8 e12
  replace E := cE_tr E e12
  with_reducible refine xm_go_blk b_X0_product_303 k_X0_product_303 ?_
  refine by_istore (by rw [ml_28]; decide) ?_
  refine by_aload_n rfl ?_
  refine by_iconst ci_4 ?_
  refine by_iload_n rfl ?_
  refine by_imul ?_
  refine by_aload_n rfl ?_
  refine by_aload_n rfl ?_
  refine by_iload_n rfl ?_
  refine by_iload_n rfl ?_
  simp (disch := first | exact Nat.ne_of_beq_eq_false rfl | exact rfl | omega) only [nI_add, xa_sub, xa_mul, pk_div, nm_mod, xa_shr, xa_and7, xa_and1, xa_and255, xa_by_and, nI_m1, Nat.add_sub_cancel, Nat.reducePow, Nat.zero_add, Nat.add_zero, Nat.reduceAdd, Nat.reduceMul, Nat.reduceSub, xf_same, xq_ff, xq_fo, xf_1, xf_2, xs_1, xs_2, xs_same, xq_so, xj_1, xj_2, xj_same, xq_jo, xq_sa1, xq_same, xq_other, upd_s, oI_n, oI_s, xv_0, xv_1, xv_2, xv_3, xm_p1, xm_p2, xq_fp, xq_fn, List.filter_nil, Nat.reduceBEq, Bool.not_true, Bool.not_false, Bool.and_true, Bool.and_false, Bool.false_and, Bool.true_and, if_true, if_false, Bool.false_eq_true, reduceIte, xc_i, xc_j, xc_r, xc_n, List.nil_append, List.cons_append, Option.toList_some, Option.toList_none]
  refine by_inv2 cn_28 lk_0_92 (by rw [xe_cnt]; decide) is_32 np_32 cn_32 (by first | exact rfl | assumption) (Nat.le_of_ble_eq_true rfl) ?_
  refine sp_second F12 I12 (by omega) (by omega) (fun h13 G13 c13 n13 F13 I13 e13 v13 => ?_)
  replace u4 := nG_up u4 e13
  replace u6 := nG_up u6 e13
  replace u8 := nG_up u8 e13
  replace v12 := nG_up v12 e13
  replace E := cE_tr E e13
  with_reducible refine xm_go_blk b_X0_product_316 k_X0_product_316 ?_
  refine by_bipush cb_8 ?_
  refine by_iload_n rfl ?_
  refine by_imul ?_
  simp (disch := first | exact Nat.ne_of_beq_eq_false rfl | exact rfl | omega) only [nI_add, xa_sub, xa_mul, pk_div, nm_mod, xa_shr, xa_and7, xa_and1, xa_and255, xa_by_and, nI_m1, Nat.add_sub_cancel, Nat.reducePow, Nat.zero_add, Nat.add_zero, Nat.reduceAdd, Nat.reduceMul, Nat.reduceSub, xf_same, xq_ff, xq_fo, xf_1, xf_2, xs_1, xs_2, xs_same, xq_so, xj_1, xj_2, xj_same, xq_jo, xq_sa1, xq_same, xq_other, upd_s, oI_n, oI_s, xv_0, xv_1, xv_2, xv_3, xm_p1, xm_p2, xq_fp, xq_fn, List.filter_nil, Nat.reduceBEq, Bool.not_true, Bool.not_false, Bool.and_true, Bool.and_false, Bool.false_and, Bool.true_and, if_true, if_false, Bool.false_eq_true, reduceIte, xc_i, xc_j, xc_r, xc_n, List.nil_append, List.cons_append, Option.toList_some, Option.toList_none]
  refine by_inv2 cn_28 lk_0_101 (by rw [xe_cnt]; decide) is_33 np_33 cn_33 (by first | exact rfl | assumption) (Nat.le_of_ble_eq_true rfl) ?_
  refine sp_gtake F13 I13 (by omega) v13 (by omega) (fun h14 G14 c14 n14 F14 I14 e14 v14 => ?_)
  replace u4 := nG_up u4 e14
  replace u6 := nG_up u6 e14
  replace u8 := nG_up u8 e14
  replace v12 := nG_up v12 e14
  replace E := cE_tr E e14
  with_reducible refine xm_go_blk b_X0_product_323 k_X0_product_323 ?_
  refine by_inv2 cn_28 lk_0_47 (by rw [xe_cnt]; decide) is_12 np_12 cn_12 (by first | exact rfl | assumption) (Nat.le_of_ble_eq_true rfl) ?_
  refine sp_gdrop F14 I14 (by omega) v14 (by omega) (fun h15 G15 c15 n15 F15 I15 e15 v15 => ?_)
  replace u4 := nG_up u4 e15
  replace u6 := nG_up u6 e15
  replace u8 := nG_up u8 e15
  replace v12 := nG_up v12 e15
  replace E := cE_tr E e15
  with_reducible refine xm_go_blk b_X0_product_326 k_X0_product_326 ?_
  refine by_istore (by rw [ml_28]; decide) ?_
  refine by_aload_n rfl ?_
  refine by_iload rfl ?_
  refine by_aload_n rfl ?_
  refine by_aload_n rfl ?_
  refine by_aload_n rfl ?_
  refine by_iload_n rfl ?_
  refine by_iload_n rfl ?_
  simp (disch := first | exact Nat.ne_of_beq_eq_false rfl | exact rfl | omega) only [nI_add, xa_sub, xa_mul, pk_div, nm_mod, xa_shr, xa_and7, xa_and1, xa_and255, xa_by_and, nI_m1, Nat.add_sub_cancel, Nat.reducePow, Nat.zero_add, Nat.add_zero, Nat.reduceAdd, Nat.reduceMul, Nat.reduceSub, xf_same, xq_ff, xq_fo, xf_1, xf_2, xs_1, xs_2, xs_same, xq_so, xj_1, xj_2, xj_same, xq_jo, xq_sa1, xq_same, xq_other, upd_s, oI_n, oI_s, xv_0, xv_1, xv_2, xv_3, xm_p1, xm_p2, xq_fp, xq_fn, List.filter_nil, Nat.reduceBEq, Bool.not_true, Bool.not_false, Bool.and_true, Bool.and_false, Bool.false_and, Bool.true_and, if_true, if_false, Bool.false_eq_true, reduceIte, xc_i, xc_j, xc_r, xc_n, List.nil_append, List.cons_append, Option.toList_some, Option.toList_none]
  refine by_inv2 cn_28 lk_0_92 (by rw [xe_cnt]; decide) is_32 np_32 cn_32 (by first | exact rfl | assumption) (Nat.le_of_ble_eq_true rfl) ?_
  refine sp_second F15 I15 (by omega) (by omega) (fun h16 G16 c16 n16 F16 I16 e16 v16 => ?_)
  replace u4 := nG_up u4 e16
  replace u6 := nG_up u6 e16
  replace u8 := nG_up u8 e16
  replace v12 := nG_up v12 e16
  replace v15 := nG_up v15 e16
  replace E := cE_tr E e16
  with_reducible refine xm_go_blk b_X0_product_339 k_X0_product_339 ?_
  refine by_bipush cb_12 ?_
  refine by_iload_n rfl ?_
  refine by_imul ?_
  simp (disch := first | exact Nat.ne_of_beq_eq_false rfl | exact rfl | omega) only [nI_add, xa_sub, xa_mul, pk_div, nm_mod, xa_shr, xa_and7, xa_and1, xa_and255, xa_by_and, nI_m1, Nat.add_sub_cancel, Nat.reducePow, Nat.zero_add, Nat.add_zero, Nat.reduceAdd, Nat.reduceMul, Nat.reduceSub, xf_same, xq_ff, xq_fo, xf_1, xf_2, xs_1, xs_2, xs_same, xq_so, xj_1, xj_2, xj_same, xq_jo, xq_sa1, xq_same, xq_other, upd_s, oI_n, oI_s, xv_0, xv_1, xv_2, xv_3, xm_p1, xm_p2, xq_fp, xq_fn, List.filter_nil, Nat.reduceBEq, Bool.not_true, Bool.not_false, Bool.and_true, Bool.and_false, Bool.false_and, Bool.true_and, if_true, if_false, Bool.false_eq_true, reduceIte, xc_i, xc_j, xc_r, xc_n, List.nil_append, List.cons_append, Option.toList_some, Option.toList_none]
  refine by_inv2 cn_28 lk_0_101 (by rw [xe_cnt]; decide) is_33 np_33 cn_33 (by first | exact rfl | assumption) (Nat.le_of_ble_eq_true rfl) ?_
  refine sp_gtake F16 I16 (by omega) v16 (by omega) (fun h17 G17 c17 n17 F17 I17 e17 v17 => ?_)
  replace u4 := nG_up u4 e17
  replace u6 := nG_up u6 e17
  replace u8 := nG_up u8 e17
  replace v12 := nG_up v12 e17
  replace v15 := nG_up v15 e17
  replace E := cE_tr E e17
  with_reducible refine xm_go_blk b_X0_product_346 k_X0_product_346 ?_
  refine by_iload rfl ?_
  refine by_inv2 cn_28 lk_0_80 (by rw [xe_cnt]; decide) is_25 np_25 cn_25 (by first | exact rfl | assumption) (Nat.le_of_ble_eq_true rfl) ?_
  refine sp_gpair F17 I17 (by omega) v17 v15 (by omega) (by omega) (fun h18 G18 c18 n18 F18 I18 e18 v18 => ?_)
  replace u4 := nG_up u4 e18
  replace u6 := nG_up u6 e18
  replace u8 := nG_up u8 e18
  replace v12 := nG_up v12 e18
  replace E := cE_tr E e18
  with_reducible refine xm_go_blk b_X0_product_351 k_X0_product_351 ?_
  refine by_inv2 cn_28 lk_0_80 (by rw [xe_cnt]; decide) is_25 np_25 cn_25 (by first | exact rfl | assumption) (Nat.le_of_ble_eq_true rfl) ?_
  refine sp_gpair F18 I18 (by omega) v12 v18 (by omega) (by omega) (fun h19 G19 c19 n19 F19 I19 e19 v19 => ?_)
  replace u4 := nG_up u4 e19
  replace u6 := nG_up u6 e19
  replace u8 := nG_up u8 e19
  replace E := cE_tr E e19
  with_reducible refine xm_go_blk b_X0_product_354 k_X0_product_354 ?_
  refine by_istore (by rw [ml_28]; decide) ?_
  refine by_aload_n rfl ?_
  refine by_iload rfl ?_
  refine by_aload_n rfl ?_
  refine by_iload rfl ?_
  refine by_aload_n rfl ?_
  refine by_iload rfl ?_
  refine by_iload rfl ?_
  simp (disch := first | exact Nat.ne_of_beq_eq_false rfl | exact rfl | omega) only [nI_add, xa_sub, xa_mul, pk_div, nm_mod, xa_shr, xa_and7, xa_and1, xa_and255, xa_by_and, nI_m1, Nat.add_sub_cancel, Nat.reducePow, Nat.zero_add, Nat.add_zero, Nat.reduceAdd, Nat.reduceMul, Nat.reduceSub, xf_same, xq_ff, xq_fo, xf_1, xf_2, xs_1, xs_2, xs_same, xq_so, xj_1, xj_2, xj_same, xq_jo, xq_sa1, xq_same, xq_other, upd_s, oI_n, oI_s, xv_0, xv_1, xv_2, xv_3, xm_p1, xm_p2, xq_fp, xq_fn, List.filter_nil, Nat.reduceBEq, Bool.not_true, Bool.not_false, Bool.and_true, Bool.and_false, Bool.false_and, Bool.true_and, if_true, if_false, Bool.false_eq_true, reduceIte, xc_i, xc_j, xc_r, xc_n, List.nil_append, List.cons_append, Option.toList_some, Option.toList_none]
  refine by_inv2 cn_28 lk_0_86 (by rw [xe_cnt]; decide) is_7 np_7 cn_7 (by first | exact rfl | assumption) (Nat.le_of_ble_eq_true rfl) ?_
  refine sp_gcomp F19 I19 (by omega) u8 v19 (by omega) (fun h20 G20 c20 n20 F20 I20 e20 v20 => ?_)
  replace u4 := nG_up u4 e20
  replace u6 := nG_up u6 e20
  replace E := cE_tr E e20
  with_reducible refine xm_go_blk b_X0_product_370 k_X0_product_370 ?_
  refine by_inv2 cn_28 lk_0_86 (by rw [xe_cnt]; decide) is_7 np_7 cn_7 (by first | exact rfl | assumption) (Nat.le_of_ble_eq_true rfl) ?_
  refine sp_gcomp F20 I20 (by omega) u6 v20 (by omega) (fun h21 G21 c21 n21 F21 I21 e21 v21 => ?_)
  replace u4 := nG_up u4 e21
  replace E := cE_tr E e21
  with_reducible refine xm_go_blk b_X0_product_373 k_X0_product_373 ?_
  refine by_inv2 cn_28 lk_0_86 (by rw [xe_cnt]; decide) is_7 np_7 cn_7 (by first | exact rfl | assumption) (Nat.le_of_ble_eq_true rfl) ?_
  refine sp_gcomp F21 I21 (by omega) u4 v21 (by omega) (fun h22 G22 c22 n22 F22 I22 e22 v22 => ?_)
  replace E := cE_tr E e22
  with_reducible refine xm_go_blk b_X0_product_376 k_X0_product_376 ?_
  refine by_iret ry_28 (by first | rfl | assumption) ?_
  refine hp _ ?_ _ _ _ _ F22 I22 E (nG_cg v22 (by omega) (by omega) (fun _ _ => rfl) (qle_rf _))
  intro x x1 x0 y1 y0 z1 z0 v1 v0 a1 a0 b1 b0 c1 c0 g0 g1 g2 g3 g4 g5 g6 g7 g8 g9 g10 g11 g12 g13 g14 eH
  simp only [eH, prX]
  simp (disch := assumption) only [List.append_assoc, sg_t0, sg_t1, sg_t2, sg_d1, sg_d2, sg_d3, sg_d4, sg_d5, sg_d6, sg_d7, sg_d8, sg_d9, sg_d10, sg_d11, sg_d12, sg_d13]
theorem pr_3 {c m n4 n6 : Nat} {F4 F6 : gFn} {q4 q6 : gQ} {G : Nat → gN} {h : xm_H} (hF : XF h) (hI : cI h G c m J) (hm : m + 50 ≤ 8000) (v : nG G c n (4 * w) (2 * w) f q) (u4 : nG G c n4 (8 * w) (2 * w + 8 * w) F4 q4) (u6 : nG G c n6 (10 * w) (2 * w + 10 * w) F6 q6) (hw : w ≤ 200)
    (hp : ∀ F, pr3 w f (fun x => F6 (F4 x)) F → cPo h G c (m + 50) J (8 * w) (4 * w) F (prQ4 w q q4 q6 (prQ3 w q)) post) : xm_go (XE sc) (xm_T (XE sc) (d + 5)) 28 post 143 [(0, .ref 22), (1, .int (nI n)), (2, .int (nI w)), (4, .int (nI n4))] [.int (nI n6)] h := by
  have l4 := nG_len hI u4
  have l6 := nG_len hI u6
  have E : cE h G c h G c := cE_rf
  with_reducible refine xm_go_blk b_X0_product_143 k_X0_product_143 ?_
  refine by_istore (by rw [ml_28]; decide) ?_
  refine by_aload_n rfl ?_
  refine by_aload_n rfl ?_
  refine by_aload_n rfl ?_
  refine by_iconst ci_4 ?_
  refine by_iload_n rfl ?_
  refine by_imul ?_
  refine by_aload_n rfl ?_
  refine by_aload_n rfl ?_
  refine by_iconst ci_0 ?_
  refine by_iconst ci_1 ?_
  refine by_iload_n rfl ?_
  simp (disch := first | exact Nat.ne_of_beq_eq_false rfl | exact rfl | omega) only [nI_add, xa_sub, xa_mul, pk_div, nm_mod, xa_shr, xa_and7, xa_and1, xa_and255, xa_by_and, nI_m1, Nat.add_sub_cancel, Nat.reducePow, Nat.zero_add, Nat.add_zero, Nat.reduceAdd, Nat.reduceMul, Nat.reduceSub, xf_same, xq_ff, xq_fo, xf_1, xf_2, xs_1, xs_2, xs_same, xq_so, xj_1, xj_2, xj_same, xq_jo, xq_sa1, xq_same, xq_other, upd_s, oI_n, oI_s, xv_0, xv_1, xv_2, xv_3, xm_p1, xm_p2, xq_fp, xq_fn, List.filter_nil, Nat.reduceBEq, Bool.not_true, Bool.not_false, Bool.and_true, Bool.and_false, Bool.false_and, Bool.true_and, if_true, if_false, Bool.false_eq_true, reduceIte, xc_i, xc_j, xc_r, xc_n, List.nil_append, List.cons_append, Option.toList_some, Option.toList_none]
  refine by_inv3 cn_28 lk_0_152 (by rw [xe_cnt]; decide) is_29 np_29 cn_29 (by first | exact rfl | assumption) (Nat.le_of_ble_eq_true rfl) ?_
  refine sp_quarter0l hF hI (by omega) (by omega) (fun h1 G1 c1 n1 F1 I1 e1 v1 => ?_)
  replace u4 := nG_up u4 e1
  replace u6 := nG_up u6 e1
  replace v := nG_up v e1
  replace E := cE_tr E e1
  with_reducible refine xm_go_blk b_X0_product_159 k_X0_product_159 ?_
  refine by_aload_n rfl ?_
  refine by_iconst ci_1 ?_
  refine by_iconst ci_0 ?_
  refine by_iload_n rfl ?_
  refine by_inv3 cn_28 lk_0_152 (by rw [xe_cnt]; decide) is_29 np_29 cn_29 (by first | exact rfl | assumption) (Nat.le_of_ble_eq_true rfl) ?_
  refine sp_quarter1h F1 I1 (by omega) (by omega) (fun h2 G2 c2 n2 F2 I2 e2 v2 => ?_)
  replace u4 := nG_up u4 e2
  replace u6 := nG_up u6 e2
  replace v := nG_up v e2
  replace v1 := nG_up v1 e2
  replace E := cE_tr E e2
  with_reducible refine xm_go_blk b_X0_product_166 k_X0_product_166 ?_
  refine by_inv2 cn_28 lk_0_80 (by rw [xe_cnt]; decide) is_25 np_25 cn_25 (by first | exact rfl | assumption) (Nat.le_of_ble_eq_true rfl) ?_
  refine sp_gpair F2 I2 (by omega) v1 v2 (by omega) (by omega) (fun h3 G3 c3 n3 F3 I3 e3 v3 => ?_)
  replace u4 := nG_up u4 e3
  replace u6 := nG_up u6 e3
  replace v := nG_up v e3
  replace E := cE_tr E e3
  with_reducible refine xm_go_blk b_X0_product_169 k_X0_product_169 ?_
  refine by_inv2 cn_28 lk_0_47 (by rw [xe_cnt]; decide) is_12 np_12 cn_12 (by first | exact rfl | assumption) (Nat.le_of_ble_eq_true rfl) ?_
  refine sp_gdrop F3 I3 (by omega) v3 (by omega) (fun h4 G4 c4 n4 F4 I4 e4 v4 => ?_)
  replace u4 := nG_up u4 e4
  replace u6 := nG_up u6 e4
  replace v := nG_up v e4
  replace E := cE_tr E e4
  with_reducible refine xm_go_blk b_X0_product_172 k_X0_product_172 ?_
  refine by_aload_n rfl ?_
  refine by_aload_n rfl ?_
  refine by_iconst ci_4 ?_
  refine by_iload_n rfl ?_
  refine by_imul ?_
  refine by_aload_n rfl ?_
  refine by_iconst ci_3 ?_
  refine by_iconst ci_0 ?_
  refine by_iload_n rfl ?_
  simp (disch := first | exact Nat.ne_of_beq_eq_false rfl | exact rfl | omega) only [nI_add, xa_sub, xa_mul, pk_div, nm_mod, xa_shr, xa_and7, xa_and1, xa_and255, xa_by_and, nI_m1, Nat.add_sub_cancel, Nat.reducePow, Nat.zero_add, Nat.add_zero, Nat.reduceAdd, Nat.reduceMul, Nat.reduceSub, xf_same, xq_ff, xq_fo, xf_1, xf_2, xs_1, xs_2, xs_same, xq_so, xj_1, xj_2, xj_same, xq_jo, xq_sa1, xq_same, xq_other, upd_s, oI_n, oI_s, xv_0, xv_1, xv_2, xv_3, xm_p1, xm_p2, xq_fp, xq_fn, List.filter_nil, Nat.reduceBEq, Bool.not_true, Bool.not_false, Bool.and_true, Bool.and_false, Bool.false_and, Bool.true_and, if_true, if_false, Bool.false_eq_true, reduceIte, xc_i, xc_j, xc_r, xc_n, List.nil_append, List.cons_append, Option.toList_some, Option.toList_none]
  refine by_inv3 cn_28 lk_0_152 (by rw [xe_cnt]; decide) is_29 np_29 cn_29 (by first | exact rfl | assumption) (Nat.le_of_ble_eq_true rfl) ?_
  refine sp_quarter3h F4 I4 (by omega) (by omega) (fun h5 G5 c5 n5 F5 I5 e5 v5 => ?_)
  replace u4 := nG_up u4 e5
  replace u6 := nG_up u6 e5
  replace v := nG_up v e5
  replace v4 := nG_up v4 e5
  replace E := cE_tr E e5
  with_reducible refine xm_go_blk b_X0_product_184 k_X0_product_184 ?_
  refine by_inv2 cn_28 lk_0_47 (by rw [xe_cnt]; decide) is_12 np_12 cn_12 (by first | exact rfl | assumption) (Nat.le_of_ble_eq_true rfl) ?_
  refine sp_gdrop F5 I5 (by omega) v5 (by omega) (fun h6 G6 c6 n6 F6 I6 e6 v6 => ?_)
  replace u4 := nG_up u4 e6
  replace u6 := nG_up u6 e6
  replace v := nG_up v e6
  replace v4 := nG_up v4 e6
  replace E := cE_tr E e6
  with_reducible refine xm_go_blk b_X0_product_187 k_X0_product_187 ?_
  refine by_aload_n rfl ?_
  refine by_aload_n rfl ?_
  refine by_iload_n rfl ?_
  refine by_iload_n rfl ?_
  refine by_inv2 cn_28 lk_0_92 (by rw [xe_cnt]; decide) is_32 np_32 cn_32 (by first | exact rfl | assumption) (Nat.le_of_ble_eq_true rfl) ?_
  refine sp_second F6 I6 (by omega) (by omega) (fun h7 G7 c7 n7 F7 I7 e7 v7 => ?_)
  replace u4 := nG_up u4 e7
  replace u6 := nG_up u6 e7
  replace v := nG_up v e7
  replace v4 := nG_up v4 e7
  replace v6 := nG_up v6 e7
  replace E := cE_tr E e7
  with_reducible refine xm_go_blk b_X0_product_194 k_X0_product_194 ?_
  refine by_bipush cb_10 ?_
  refine by_iload_n rfl ?_
  refine by_imul ?_
  simp (disch := first | exact Nat.ne_of_beq_eq_false rfl | exact rfl | omega) only [nI_add, xa_sub, xa_mul, pk_div, nm_mod, xa_shr, xa_and7, xa_and1, xa_and255, xa_by_and, nI_m1, Nat.add_sub_cancel, Nat.reducePow, Nat.zero_add, Nat.add_zero, Nat.reduceAdd, Nat.reduceMul, Nat.reduceSub, xf_same, xq_ff, xq_fo, xf_1, xf_2, xs_1, xs_2, xs_same, xq_so, xj_1, xj_2, xj_same, xq_jo, xq_sa1, xq_same, xq_other, upd_s, oI_n, oI_s, xv_0, xv_1, xv_2, xv_3, xm_p1, xm_p2, xq_fp, xq_fn, List.filter_nil, Nat.reduceBEq, Bool.not_true, Bool.not_false, Bool.and_true, Bool.and_false, Bool.false_and, Bool.true_and, if_true, if_false, Bool.false_eq_true, reduceIte, xc_i, xc_j, xc_r, xc_n, List.nil_append, List.cons_append, Option.toList_some, Option.toList_none]
  refine by_inv2 cn_28 lk_0_101 (by rw [xe_cnt]; decide) is_33 np_33 cn_33 (by first | exact rfl | assumption) (Nat.le_of_ble_eq_true rfl) ?_
  refine sp_gtake F7 I7 (by omega) v7 (by omega) (fun h8 G8 c8 n8 F8 I8 e8 v8 => ?_)
  replace u4 := nG_up u4 e8
  replace u6 := nG_up u6 e8
  replace v := nG_up v e8
  replace v4 := nG_up v4 e8
  replace v6 := nG_up v6 e8
  replace E := cE_tr E e8
  with_reducible refine xm_go_blk b_X0_product_201 k_X0_product_201 ?_
  refine by_inv2 cn_28 lk_0_80 (by rw [xe_cnt]; decide) is_25 np_25 cn_25 (by first | exact rfl | assumption) (Nat.le_of_ble_eq_true rfl) ?_
  refine sp_gpair F8 I8 (by omega) v6 v8 (by omega) (by omega) (fun h9 G9 c9 n9 F9 I9 e9 v9 => ?_)
  replace u4 := nG_up u4 e9
  replace u6 := nG_up u6 e9
  replace v := nG_up v e9
  replace v4 := nG_up v4 e9
  replace E := cE_tr E e9
  with_reducible refine xm_go_blk b_X0_product_204 k_X0_product_204 ?_
  refine by_inv2 cn_28 lk_0_80 (by rw [xe_cnt]; decide) is_25 np_25 cn_25 (by first | exact rfl | assumption) (Nat.le_of_ble_eq_true rfl) ?_
  refine sp_gpair F9 I9 (by omega) v4 v9 (by omega) (by omega) (fun h10 G10 c10 n10 F10 I10 e10 v10 => ?_)
  replace u4 := nG_up u4 e10
  replace u6 := nG_up u6 e10
  replace v := nG_up v e10
  replace E := cE_tr E e10
  with_reducible refine xm_go_blk b_X0_product_207 k_X0_product_207 ?_
  refine by_iload_n rfl ?_
  refine by_inv2 cn_28 lk_0_86 (by rw [xe_cnt]; decide) is_7 np_7 cn_7 (by first | exact rfl | assumption) (Nat.le_of_ble_eq_true rfl) ?_
  refine sp_gcomp F10 I10 (by omega) v10 v (by omega) (fun h11 G11 c11 n11 F11 I11 e11 v11 => ?_)
  replace u4 := nG_up u4 e11
  replace u6 := nG_up u6 e11
  replace v := nG_up v e11
  replace E := cE_tr E e11
  with_reducible refine xm_go_blk b_X0_product_211 k_X0_product_211 ?_
  refine by_istore (by rw [ml_28]; decide) ?_
  refine by_aload_n rfl ?_
  refine by_iload rfl ?_
  refine by_aload_n rfl ?_
  refine by_bipush cb_12 ?_
  refine by_iload_n rfl ?_
  refine by_imul ?_
  simp (disch := first | exact Nat.ne_of_beq_eq_false rfl | exact rfl | omega) only [nI_add, xa_sub, xa_mul, pk_div, nm_mod, xa_shr, xa_and7, xa_and1, xa_and255, xa_by_and, nI_m1, Nat.add_sub_cancel, Nat.reducePow, Nat.zero_add, Nat.add_zero, Nat.reduceAdd, Nat.reduceMul, Nat.reduceSub, xf_same, xq_ff, xq_fo, xf_1, xf_2, xs_1, xs_2, xs_same, xq_so, xj_1, xj_2, xj_same, xq_jo, xq_sa1, xq_same, xq_other, upd_s, oI_n, oI_s, xv_0, xv_1, xv_2, xv_3, xm_p1, xm_p2, xq_fp, xq_fn, List.filter_nil, Nat.reduceBEq, Bool.not_true, Bool.not_false, Bool.and_true, Bool.and_false, Bool.false_and, Bool.true_and, if_true, if_false, Bool.false_eq_true, reduceIte, xc_i, xc_j, xc_r, xc_n, List.nil_append, List.cons_append, Option.toList_some, Option.toList_none]
  refine by_inv1 cn_28 lk_0_76 (by rw [xe_cnt]; decide) is_18 np_18 cn_18 (by first | exact rfl | assumption) (Nat.le_of_ble_eq_true rfl) ?_
  refine sp_iden F11 I11 (by omega) (by omega) (fun h12 G12 c12 n12 F12 I12 e12 v12 => ?_)
  replace u4 := nG_up u4 e12
  replace u6 := nG_up u6 e12
  replace v := nG_up v e12
  replace v11 := nG_up v11 e12
  replace E := cE_tr E e12
  with_reducible refine xm_go_blk b_X0_product_224 k_X0_product_224 ?_
  refine by_inv2 cn_28 lk_0_80 (by rw [xe_cnt]; decide) is_25 np_25 cn_25 (by first | exact rfl | assumption) (Nat.le_of_ble_eq_true rfl) ?_
  refine sp_gpair F12 I12 (by omega) v11 v12 (by omega) (by omega) (fun h13 G13 c13 n13 F13 I13 e13 v13 => ?_)
  replace u4 := nG_up u4 e13
  replace u6 := nG_up u6 e13
  replace v := nG_up v e13
  replace E := cE_tr E e13
  refine xm_go_wk (by simp [Value.category]) (pr_4 F13 I13 (by omega) v u4 u6 (nG_cg v13 (by omega) (by omega) (fun _ _ => rfl) (qle_rf _)) hw (fun F hF4 h' G' c' n' k1 k2 k3 k4 => hp F ?_ h' G' c' n' k1 (cI_mono k2 (by omega) hm) (cE_tr E k3) k4))
  intro x x1 x0 y1 y0 z1 z0 v1 v0 a1 a0 b1 b0 c1 c0 g0 g1 g2 g3 g4 g5 g6 g7 g8 g9 g10 g11 g12 g13 g14 eH ec
  refine hF4 x x1 x0 y1 y0 z1 z0 v1 v0 a1 a0 b1 b0 c1 c0 g0 g1 g2 g3 g4 g5 g6 g7 g8 g9 g10 g11 g12 g13 g14 ?_
  simp only [eH, prX]
  simp (disch := assumption) only [List.append_assoc, sg_t0, sg_t1, sg_t2, sg_d1, sg_d2, sg_d3, sg_d4, sg_d5, sg_d6, sg_d7, sg_d8, sg_d9, sg_d10, sg_d11, sg_d12, sg_d13, ec]
theorem pr_2 {c m n4 : Nat} {F4 : gFn} {q4 : gQ} {G : Nat → gN} {h : xm_H} (hF : XF h) (hI : cI h G c m J) (hm : m + 70 ≤ 8000) (v : nG G c n (4 * w) (2 * w) f q) (u4 : nG G c n4 (8 * w) (2 * w + 8 * w) F4 q4) (hw : w ≤ 200)
    (hp : ∀ F, pr2 w f F4 F → cPo h G c (m + 70) J (8 * w) (4 * w) F (prQ4 w q q4 (prQ2 w q) (prQ3 w q)) post) : xm_go (XE sc) (xm_T (XE sc) (d + 5)) 28 post 59 [(0, .ref 22), (1, .int (nI n)), (2, .int (nI w))] [.int (nI n4)] h := by
  have E : cE h G c h G c := cE_rf
  with_reducible refine xm_go_blk b_X0_product_59 k_X0_product_59 ?_
  refine by_istore (by rw [ml_28]; decide) ?_
  refine by_aload_n rfl ?_
  refine by_aload_n rfl ?_
  refine by_aload_n rfl ?_
  refine by_iconst ci_2 ?_
  refine by_iload_n rfl ?_
  refine by_imul ?_
  refine by_aload_n rfl ?_
  refine by_aload_n rfl ?_
  refine by_iconst ci_0 ?_
  refine by_iconst ci_0 ?_
  refine by_iload_n rfl ?_
  simp (disch := first | exact Nat.ne_of_beq_eq_false rfl | exact rfl | omega) only [nI_add, xa_sub, xa_mul, pk_div, nm_mod, xa_shr, xa_and7, xa_and1, xa_and255, xa_by_and, nI_m1, Nat.add_sub_cancel, Nat.reducePow, Nat.zero_add, Nat.add_zero, Nat.reduceAdd, Nat.reduceMul, Nat.reduceSub, xf_same, xq_ff, xq_fo, xf_1, xf_2, xs_1, xs_2, xs_same, xq_so, xj_1, xj_2, xj_same, xq_jo, xq_sa1, xq_same, xq_other, upd_s, oI_n, oI_s, xv_0, xv_1, xv_2, xv_3, xm_p1, xm_p2, xq_fp, xq_fn, List.filter_nil, Nat.reduceBEq, Bool.not_true, Bool.not_false, Bool.and_true, Bool.and_false, Bool.false_and, Bool.true_and, if_true, if_false, Bool.false_eq_true, reduceIte, xc_i, xc_j, xc_r, xc_n, List.nil_append, List.cons_append, Option.toList_some, Option.toList_none]
  refine by_inv3 cn_28 lk_0_152 (by rw [xe_cnt]; decide) is_29 np_29 cn_29 (by first | exact rfl | assumption) (Nat.le_of_ble_eq_true rfl) ?_
  refine sp_quarter0h hF hI (by omega) (by omega) (fun h1 G1 c1 n1 F1 I1 e1 v1 => ?_)
  replace u4 := nG_up u4 e1
  replace v := nG_up v e1
  replace E := cE_tr E e1
  with_reducible refine xm_go_blk b_X0_product_75 k_X0_product_75 ?_
  refine by_aload_n rfl ?_
  refine by_iconst ci_1 ?_
  refine by_iconst ci_1 ?_
  refine by_iload_n rfl ?_
  refine by_inv3 cn_28 lk_0_152 (by rw [xe_cnt]; decide) is_29 np_29 cn_29 (by first | exact rfl | assumption) (Nat.le_of_ble_eq_true rfl) ?_
  refine sp_quarter1l F1 I1 (by omega) (by omega) (fun h2 G2 c2 n2 F2 I2 e2 v2 => ?_)
  replace u4 := nG_up u4 e2
  replace v := nG_up v e2
  replace v1 := nG_up v1 e2
  replace E := cE_tr E e2
  with_reducible refine xm_go_blk b_X0_product_82 k_X0_product_82 ?_
  refine by_inv2 cn_28 lk_0_80 (by rw [xe_cnt]; decide) is_25 np_25 cn_25 (by first | exact rfl | assumption) (Nat.le_of_ble_eq_true rfl) ?_
  refine sp_gpair F2 I2 (by omega) v1 v2 (by omega) (by omega) (fun h3 G3 c3 n3 F3 I3 e3 v3 => ?_)
  replace u4 := nG_up u4 e3
  replace v := nG_up v e3
  replace E := cE_tr E e3
  with_reducible refine xm_go_blk b_X0_product_85 k_X0_product_85 ?_
  refine by_inv2 cn_28 lk_0_47 (by rw [xe_cnt]; decide) is_12 np_12 cn_12 (by first | exact rfl | assumption) (Nat.le_of_ble_eq_true rfl) ?_
  refine sp_gdrop F3 I3 (by omega) v3 (by omega) (fun h4 G4 c4 n4 F4 I4 e4 v4 => ?_)
  replace u4 := nG_up u4 e4
  replace v := nG_up v e4
  replace E := cE_tr E e4
  with_reducible refine xm_go_blk b_X0_product_88 k_X0_product_88 ?_
  refine by_aload_n rfl ?_
  refine by_aload_n rfl ?_
  refine by_iconst ci_2 ?_
  refine by_iload_n rfl ?_
  refine by_imul ?_
  refine by_aload_n rfl ?_
  refine by_iconst ci_2 ?_
  refine by_iconst ci_0 ?_
  refine by_iload_n rfl ?_
  simp (disch := first | exact Nat.ne_of_beq_eq_false rfl | exact rfl | omega) only [nI_add, xa_sub, xa_mul, pk_div, nm_mod, xa_shr, xa_and7, xa_and1, xa_and255, xa_by_and, nI_m1, Nat.add_sub_cancel, Nat.reducePow, Nat.zero_add, Nat.add_zero, Nat.reduceAdd, Nat.reduceMul, Nat.reduceSub, xf_same, xq_ff, xq_fo, xf_1, xf_2, xs_1, xs_2, xs_same, xq_so, xj_1, xj_2, xj_same, xq_jo, xq_sa1, xq_same, xq_other, upd_s, oI_n, oI_s, xv_0, xv_1, xv_2, xv_3, xm_p1, xm_p2, xq_fp, xq_fn, List.filter_nil, Nat.reduceBEq, Bool.not_true, Bool.not_false, Bool.and_true, Bool.and_false, Bool.false_and, Bool.true_and, if_true, if_false, Bool.false_eq_true, reduceIte, xc_i, xc_j, xc_r, xc_n, List.nil_append, List.cons_append, Option.toList_some, Option.toList_none]
  refine by_inv3 cn_28 lk_0_152 (by rw [xe_cnt]; decide) is_29 np_29 cn_29 (by first | exact rfl | assumption) (Nat.le_of_ble_eq_true rfl) ?_
  refine sp_quarter2h F4 I4 (by omega) (by omega) (fun h5 G5 c5 n5 F5 I5 e5 v5 => ?_)
  replace u4 := nG_up u4 e5
  replace v := nG_up v e5
  replace v4 := nG_up v4 e5
  replace E := cE_tr E e5
  with_reducible refine xm_go_blk b_X0_product_100 k_X0_product_100 ?_
  refine by_inv2 cn_28 lk_0_47 (by rw [xe_cnt]; decide) is_12 np_12 cn_12 (by first | exact rfl | assumption) (Nat.le_of_ble_eq_true rfl) ?_
  refine sp_gdrop F5 I5 (by omega) v5 (by omega) (fun h6 G6 c6 n6 F6 I6 e6 v6 => ?_)
  replace u4 := nG_up u4 e6
  replace v := nG_up v e6
  replace v4 := nG_up v4 e6
  replace E := cE_tr E e6
  with_reducible refine xm_go_blk b_X0_product_103 k_X0_product_103 ?_
  refine by_aload_n rfl ?_
  refine by_aload_n rfl ?_
  refine by_iload_n rfl ?_
  refine by_iload_n rfl ?_
  refine by_inv2 cn_28 lk_0_95 (by rw [xe_cnt]; decide) is_15 np_15 cn_15 (by first | exact rfl | assumption) (Nat.le_of_ble_eq_true rfl) ?_
  refine sp_first F6 I6 (by omega) (by omega) (fun h7 G7 c7 n7 F7 I7 e7 v7 => ?_)
  replace u4 := nG_up u4 e7
  replace v := nG_up v e7
  replace v4 := nG_up v4 e7
  replace v6 := nG_up v6 e7
  replace E := cE_tr E e7
  with_reducible refine xm_go_blk b_X0_product_110 k_X0_product_110 ?_
  refine by_bipush cb_8 ?_
  refine by_iload_n rfl ?_
  refine by_imul ?_
  simp (disch := first | exact Nat.ne_of_beq_eq_false rfl | exact rfl | omega) only [nI_add, xa_sub, xa_mul, pk_div, nm_mod, xa_shr, xa_and7, xa_and1, xa_and255, xa_by_and, nI_m1, Nat.add_sub_cancel, Nat.reducePow, Nat.zero_add, Nat.add_zero, Nat.reduceAdd, Nat.reduceMul, Nat.reduceSub, xf_same, xq_ff, xq_fo, xf_1, xf_2, xs_1, xs_2, xs_same, xq_so, xj_1, xj_2, xj_same, xq_jo, xq_sa1, xq_same, xq_other, upd_s, oI_n, oI_s, xv_0, xv_1, xv_2, xv_3, xm_p1, xm_p2, xq_fp, xq_fn, List.filter_nil, Nat.reduceBEq, Bool.not_true, Bool.not_false, Bool.and_true, Bool.and_false, Bool.false_and, Bool.true_and, if_true, if_false, Bool.false_eq_true, reduceIte, xc_i, xc_j, xc_r, xc_n, List.nil_append, List.cons_append, Option.toList_some, Option.toList_none]
  refine by_inv2 cn_28 lk_0_101 (by rw [xe_cnt]; decide) is_33 np_33 cn_33 (by first | exact rfl | assumption) (Nat.le_of_ble_eq_true rfl) ?_
  refine sp_gtake F7 I7 (by omega) v7 (by omega) (fun h8 G8 c8 n8 F8 I8 e8 v8 => ?_)
  replace u4 := nG_up u4 e8
  replace v := nG_up v e8
  replace v4 := nG_up v4 e8
  replace v6 := nG_up v6 e8
  replace E := cE_tr E e8
  with_reducible refine xm_go_blk b_X0_product_117 k_X0_product_117 ?_
  refine by_inv2 cn_28 lk_0_80 (by rw [xe_cnt]; decide) is_25 np_25 cn_25 (by first | exact rfl | assumption) (Nat.le_of_ble_eq_true rfl) ?_
  refine sp_gpair F8 I8 (by omega) v6 v8 (by omega) (by omega) (fun h9 G9 c9 n9 F9 I9 e9 v9 => ?_)
  replace u4 := nG_up u4 e9
  replace v := nG_up v e9
  replace v4 := nG_up v4 e9
  replace E := cE_tr E e9
  with_reducible refine xm_go_blk b_X0_product_120 k_X0_product_120 ?_
  refine by_inv2 cn_28 lk_0_80 (by rw [xe_cnt]; decide) is_25 np_25 cn_25 (by first | exact rfl | assumption) (Nat.le_of_ble_eq_true rfl) ?_
  refine sp_gpair F9 I9 (by omega) v4 v9 (by omega) (by omega) (fun h10 G10 c10 n10 F10 I10 e10 v10 => ?_)
  replace u4 := nG_up u4 e10
  replace v := nG_up v e10
  replace E := cE_tr E e10
  with_reducible refine xm_go_blk b_X0_product_123 k_X0_product_123 ?_
  refine by_iload_n rfl ?_
  refine by_inv2 cn_28 lk_0_86 (by rw [xe_cnt]; decide) is_7 np_7 cn_7 (by first | exact rfl | assumption) (Nat.le_of_ble_eq_true rfl) ?_
  refine sp_gcomp F10 I10 (by omega) v10 v (by omega) (fun h11 G11 c11 n11 F11 I11 e11 v11 => ?_)
  replace u4 := nG_up u4 e11
  replace v := nG_up v e11
  replace E := cE_tr E e11
  with_reducible refine xm_go_blk b_X0_product_127 k_X0_product_127 ?_
  refine by_istore (by rw [ml_28]; decide) ?_
  refine by_aload_n rfl ?_
  refine by_iload rfl ?_
  refine by_aload_n rfl ?_
  refine by_bipush cb_10 ?_
  refine by_iload_n rfl ?_
  refine by_imul ?_
  simp (disch := first | exact Nat.ne_of_beq_eq_false rfl | exact rfl | omega) only [nI_add, xa_sub, xa_mul, pk_div, nm_mod, xa_shr, xa_and7, xa_and1, xa_and255, xa_by_and, nI_m1, Nat.add_sub_cancel, Nat.reducePow, Nat.zero_add, Nat.add_zero, Nat.reduceAdd, Nat.reduceMul, Nat.reduceSub, xf_same, xq_ff, xq_fo, xf_1, xf_2, xs_1, xs_2, xs_same, xq_so, xj_1, xj_2, xj_same, xq_jo, xq_sa1, xq_same, xq_other, upd_s, oI_n, oI_s, xv_0, xv_1, xv_2, xv_3, xm_p1, xm_p2, xq_fp, xq_fn, List.filter_nil, Nat.reduceBEq, Bool.not_true, Bool.not_false, Bool.and_true, Bool.and_false, Bool.false_and, Bool.true_and, if_true, if_false, Bool.false_eq_true, reduceIte, xc_i, xc_j, xc_r, xc_n, List.nil_append, List.cons_append, Option.toList_some, Option.toList_none]
  refine by_inv1 cn_28 lk_0_76 (by rw [xe_cnt]; decide) is_18 np_18 cn_18 (by first | exact rfl | assumption) (Nat.le_of_ble_eq_true rfl) ?_
  refine sp_iden F11 I11 (by omega) (by omega) (fun h12 G12 c12 n12 F12 I12 e12 v12 => ?_)
  replace u4 := nG_up u4 e12
  replace v := nG_up v e12
  replace v11 := nG_up v11 e12
  replace E := cE_tr E e12
  with_reducible refine xm_go_blk b_X0_product_140 k_X0_product_140 ?_
  refine by_inv2 cn_28 lk_0_80 (by rw [xe_cnt]; decide) is_25 np_25 cn_25 (by first | exact rfl | assumption) (Nat.le_of_ble_eq_true rfl) ?_
  refine sp_gpair F12 I12 (by omega) v11 v12 (by omega) (by omega) (fun h13 G13 c13 n13 F13 I13 e13 v13 => ?_)
  replace u4 := nG_up u4 e13
  replace v := nG_up v e13
  replace E := cE_tr E e13
  refine xm_go_wk (by simp [Value.category]) (pr_3 F13 I13 (by omega) v u4 (nG_cg v13 (by omega) (by omega) (fun _ _ => rfl) (qle_rf _)) hw (fun F hF4 h' G' c' n' k1 k2 k3 k4 => hp F ?_ h' G' c' n' k1 (cI_mono k2 (by omega) hm) (cE_tr E k3) k4))
  intro x x1 x0 y1 y0 z1 z0 v1 v0 a1 a0 b1 b0 c1 c0 g0 g1 g2 g3 g4 g5 g6 g7 g8 g9 g10 g11 g12 g13 g14 eH eb ec
  refine hF4 x x1 x0 y1 y0 z1 z0 v1 v0 a1 a0 b1 b0 c1 c0 g0 g1 g2 g3 g4 g5 g6 g7 g8 g9 g10 g11 g12 g13 g14 ?_ ec
  simp only [eH, prX]
  simp (disch := assumption) only [List.append_assoc, sg_t0, sg_t1, sg_t2, sg_d1, sg_d2, sg_d3, sg_d4, sg_d5, sg_d6, sg_d7, sg_d8, sg_d9, sg_d10, sg_d11, sg_d12, sg_d13, eb]
theorem sp_product {c m : Nat} {G : Nat → gN} {h : xm_H} (hF : XF h) (hI : cI h G c m J) (hm : m + 89 ≤ 8000) (v : nG G c n (4 * w) (2 * w) f q) (hw : w ≤ 200) (hp : ∀ F, prS w f F → cPo h G c (m + 89) J (8 * w) (4 * w) F (prQ w q) post) : xm_T (XE sc) (d + 6) 28 [.ref 22, .int (nI n), .int (nI w)] h post := by
  refine xq_in rfl ?_
  simp only [xq_a0, xq_aI, xq_aJ, xq_aR, Nat.reduceAdd]
  have E : cE h G c h G c := cE_rf
  with_reducible refine xm_go_blk b_X0_product_0 k_X0_product_0 ?_
  refine by_aload_n rfl ?_
  refine by_aload_n rfl ?_
  refine by_aload_n rfl ?_
  refine by_aload_n rfl ?_
  refine by_iconst ci_0 ?_
  refine by_iconst ci_1 ?_
  refine by_iload_n rfl ?_
  refine by_inv3 cn_28 lk_0_152 (by rw [xe_cnt]; decide) is_29 np_29 cn_29 (by first | exact rfl | assumption) (Nat.le_of_ble_eq_true rfl) ?_
  refine sp_quarter0l hF hI (by omega) (by omega) (fun h1 G1 c1 n1 F1 I1 e1 v1 => ?_)
  replace v := nG_up v e1
  replace E := cE_tr E e1
  with_reducible refine xm_go_blk b_X0_product_10 k_X0_product_10 ?_
  refine by_aload_n rfl ?_
  refine by_iconst ci_1 ?_
  refine by_iconst ci_1 ?_
  refine by_iload_n rfl ?_
  refine by_inv3 cn_28 lk_0_152 (by rw [xe_cnt]; decide) is_29 np_29 cn_29 (by first | exact rfl | assumption) (Nat.le_of_ble_eq_true rfl) ?_
  refine sp_quarter1l F1 I1 (by omega) (by omega) (fun h2 G2 c2 n2 F2 I2 e2 v2 => ?_)
  replace v := nG_up v e2
  replace v1 := nG_up v1 e2
  replace E := cE_tr E e2
  with_reducible refine xm_go_blk b_X0_product_17 k_X0_product_17 ?_
  refine by_inv2 cn_28 lk_0_80 (by rw [xe_cnt]; decide) is_25 np_25 cn_25 (by first | exact rfl | assumption) (Nat.le_of_ble_eq_true rfl) ?_
  refine sp_gpair F2 I2 (by omega) v1 v2 (by omega) (by omega) (fun h3 G3 c3 n3 F3 I3 e3 v3 => ?_)
  replace v := nG_up v e3
  replace E := cE_tr E e3
  with_reducible refine xm_go_blk b_X0_product_20 k_X0_product_20 ?_
  refine by_aload_n rfl ?_
  refine by_aload_n rfl ?_
  refine by_iconst ci_2 ?_
  refine by_iconst ci_1 ?_
  refine by_iload_n rfl ?_
  refine by_inv3 cn_28 lk_0_152 (by rw [xe_cnt]; decide) is_29 np_29 cn_29 (by first | exact rfl | assumption) (Nat.le_of_ble_eq_true rfl) ?_
  refine sp_quarter2l F3 I3 (by omega) (by omega) (fun h4 G4 c4 n4 F4 I4 e4 v4 => ?_)
  replace v := nG_up v e4
  replace v3 := nG_up v3 e4
  replace E := cE_tr E e4
  with_reducible refine xm_go_blk b_X0_product_28 k_X0_product_28 ?_
  refine by_aload_n rfl ?_
  refine by_iconst ci_3 ?_
  refine by_iconst ci_1 ?_
  refine by_iload_n rfl ?_
  refine by_inv3 cn_28 lk_0_152 (by rw [xe_cnt]; decide) is_29 np_29 cn_29 (by first | exact rfl | assumption) (Nat.le_of_ble_eq_true rfl) ?_
  refine sp_quarter3l F4 I4 (by omega) (by omega) (fun h5 G5 c5 n5 F5 I5 e5 v5 => ?_)
  replace v := nG_up v e5
  replace v3 := nG_up v3 e5
  replace v4 := nG_up v4 e5
  replace E := cE_tr E e5
  with_reducible refine xm_go_blk b_X0_product_35 k_X0_product_35 ?_
  refine by_inv2 cn_28 lk_0_80 (by rw [xe_cnt]; decide) is_25 np_25 cn_25 (by first | exact rfl | assumption) (Nat.le_of_ble_eq_true rfl) ?_
  refine sp_gpair F5 I5 (by omega) v4 v5 (by omega) (by omega) (fun h6 G6 c6 n6 F6 I6 e6 v6 => ?_)
  replace v := nG_up v e6
  replace v3 := nG_up v3 e6
  replace E := cE_tr E e6
  with_reducible refine xm_go_blk b_X0_product_38 k_X0_product_38 ?_
  refine by_inv2 cn_28 lk_0_80 (by rw [xe_cnt]; decide) is_25 np_25 cn_25 (by first | exact rfl | assumption) (Nat.le_of_ble_eq_true rfl) ?_
  refine sp_gpair F6 I6 (by omega) v3 v6 (by omega) (by omega) (fun h7 G7 c7 n7 F7 I7 e7 v7 => ?_)
  replace v := nG_up v e7
  replace E := cE_tr E e7
  with_reducible refine xm_go_blk b_X0_product_41 k_X0_product_41 ?_
  refine by_iload_n rfl ?_
  refine by_inv2 cn_28 lk_0_86 (by rw [xe_cnt]; decide) is_7 np_7 cn_7 (by first | exact rfl | assumption) (Nat.le_of_ble_eq_true rfl) ?_
  refine sp_gcomp F7 I7 (by omega) v7 v (by omega) (fun h8 G8 c8 n8 F8 I8 e8 v8 => ?_)
  replace v := nG_up v e8
  replace E := cE_tr E e8
  with_reducible refine xm_go_blk b_X0_product_45 k_X0_product_45 ?_
  refine by_istore_n (by rw [ml_28]; decide) ?_
  refine by_aload_n rfl ?_
  refine by_iload_n rfl ?_
  refine by_aload_n rfl ?_
  refine by_bipush cb_8 ?_
  refine by_iload_n rfl ?_
  refine by_imul ?_
  simp (disch := first | exact Nat.ne_of_beq_eq_false rfl | exact rfl | omega) only [nI_add, xa_sub, xa_mul, pk_div, nm_mod, xa_shr, xa_and7, xa_and1, xa_and255, xa_by_and, nI_m1, Nat.add_sub_cancel, Nat.reducePow, Nat.zero_add, Nat.add_zero, Nat.reduceAdd, Nat.reduceMul, Nat.reduceSub, xf_same, xq_ff, xq_fo, xf_1, xf_2, xs_1, xs_2, xs_same, xq_so, xj_1, xj_2, xj_same, xq_jo, xq_sa1, xq_same, xq_other, upd_s, oI_n, oI_s, xv_0, xv_1, xv_2, xv_3, xm_p1, xm_p2, xq_fp, xq_fn, List.filter_nil, Nat.reduceBEq, Bool.not_true, Bool.not_false, Bool.and_true, Bool.and_false, Bool.false_and, Bool.true_and, if_true, if_false, Bool.false_eq_true, reduceIte, xc_i, xc_j, xc_r, xc_n, List.nil_append, List.cons_append, Option.toList_some, Option.toList_none]
  refine by_inv1 cn_28 lk_0_76 (by rw [xe_cnt]; decide) is_18 np_18 cn_18 (by first | exact rfl | assumption) (Nat.le_of_ble_eq_true rfl) ?_
  refine sp_iden F8 I8 (by omega) (by omega) (fun h9 G9 c9 n9 F9 I9 e9 v9 => ?_)
  replace v := nG_up v e9
  replace v8 := nG_up v8 e9
  replace E := cE_tr E e9
  with_reducible refine xm_go_blk b_X0_product_56 k_X0_product_56 ?_
  refine by_inv2 cn_28 lk_0_80 (by rw [xe_cnt]; decide) is_25 np_25 cn_25 (by first | exact rfl | assumption) (Nat.le_of_ble_eq_true rfl) ?_
  refine sp_gpair F9 I9 (by omega) v8 v9 (by omega) (by omega) (fun h10 G10 c10 n10 F10 I10 e10 v10 => ?_)
  replace v := nG_up v e10
  replace E := cE_tr E e10
  refine xm_go_wk (by simp [Value.category]) (pr_2 F10 I10 (by omega) v (nG_cg v10 (by omega) (by omega) (fun _ _ => rfl) (qle_rf _)) hw (fun F hF4 h' G' c' n' k1 k2 k3 k4 => hp F ?_ h' G' c' n' k1 (cI_mono k2 (by omega) hm) (cE_tr E k3) k4))
  intro x1 x0 y1 y0 z1 z0 v1 v0 a1 a0 b1 b0 c1 c0 g1 g2 g3 g4 g5 g6 g7 g8 g9 g10 g11 g12 g13 g14 ea eb ec
  refine hF4 _ x1 x0 y1 y0 z1 z0 v1 v0 a1 a0 b1 b0 c1 c0 (by simp only [List.length_append]; omega) g1 g2 g3 g4 g5 g6 g7 g8 g9 g10 g11 g12 g13 g14 ?_ eb ec
  simp only [prX]
  simp (disch := assumption) only [List.append_assoc, sg_t0, sg_t1, sg_t2, sg_d1, sg_d2, sg_d3, sg_d4, sg_d5, sg_d6, sg_d7, sg_d8, sg_d9, sg_d10, sg_d11, sg_d12, sg_d13, ea]
end CD
