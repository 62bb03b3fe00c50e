/-! ===== speak: a line of the reference ===== -/
/-- what stands behind the word -/
def lnX (q : PgD) (n : Nat) : List Nat := match pC q.2.1 n with
  | 10 => 32 :: (if ty_w (q.2.2.2.2 n) = 0 then [45] else wtT q.1 (wtB q + wsum (pC q.2.1) q.2.2.2.2 n) (ty_w (q.2.2.2.2 n)))
  | 11 => 32 :: hdT (fun k => nI (pHw q.2.1 n k)) 64
  | 12 => 32 :: nmT (pNu q.2.1 n)
  | _ => []
def lnC (o : Option Nat) : List Nat := match o with
  | none => []
  | some x => 32 :: 110 :: nmT x
def lnT (q : PgD) (n : Nat) : List Nat := (110 :: nmT n) ++ ([32, 61, 32] ++ (wdT (pC q.2.1 n) (wdE (pC q.2.1 n)) ++ (lnC (p1 q.2.1 n) ++ (lnC (p2 q.2.1 n) ++ (lnX q n ++ [10])))))
section SK
variable {sc : xm_Sc} {d n c : Nat} {l : List Nat} {q : PgD} {h : xm_H} {post : xm_Po}
abbrev lnR : List Nat := [147]
abbrev lnF : List (Nat × Nat) := [(102, 61)]
theorem mPg_ln {h h' : xm_H} (hP : mPg h (some q)) (hf : Fr lnR lnF h h') : mPg h' (some q) := by
  obtain ⟨l, ps, a, S, T⟩ := q
  exact PK_fr hP hf (kpT_fr hf (fun a h1 h2 => by simp; omega)) (fun c h1 h2 => by simp; omega) (by simp) (by simp) (by simp) (by simp) (hf.2.2 _ _ (by simp))
/-- the end of a line -/
theorem ml_end (hF : XF h) (hl : mkIs h l) (hp : ∀ h', Fr lnR lnF h h' → mkIs h' (l ++ [10]) → post none h') : xm_go (XE sc) (xm_T (XE sc) (d + 4)) 255 post 246 [(0, .ref 102)] [] h := by
  with_reducible refine xm_go_blk b_X12_makeLine_246 k_X12_makeLine_246 ?_
  refine by_aload_n rfl ?_
  refine by_bipush cb_10 ?_
  refine by_inv1 cn_255 lk_12_296 (by rw [xe_cnt]; decide) is_254 np_254 cn_254 (by first | exact rfl | assumption) (Nat.le_of_ble_eq_true rfl) ?_
  refine sp_make hF hl (fun h1 f1 p1 => ?_)
  with_reducible refine xm_go_blk b_X12_makeLine_252 k_X12_makeLine_252 ?_
  refine by_ret ry_255 ?_
  exact hp h1 f1 p1
/-- from 191 on: a witness's bits -/
theorem ml_wit {w k : Nat} (hF : XF h) (hP : mPg h (some q)) (hn : n < q.2.1.length) (ek : wtB q + wsum (pC q.2.1) q.2.2.2.2 n = k) (hk : k + w ≤ 65536) (hw8 : w = 0 ∨ k + w ≤ 8 * q.1.length) (hl : mkIs h l) (hp : ∀ h', Fr lnR lnF h h' → mkIs h' (l ++ (wtT q.1 k w ++ [10])) → post none h') : xm_go (XE sc) (xm_T (XE sc) (d + 4)) 255 post 191 [(3, .int (nI w)), (0, .ref 102), (1, .int (nI n))] [] h := by
  have hps : q.2.1.length ≤ 400 := (mPg_cd hP hn).2.2.2.2.2.2
  have key : ∀ (y z : Nat) (h1 : xm_H), z + y = w → Fr lnR lnF h h1 → mkIs h1 (l ++ wtT q.1 k z) → xm_go (XE sc) (xm_T (XE sc) (d + 4)) 255 post 199 [(4, .int (nI (k + z))), (3, .int (nI w)), (0, .ref 102), (1, .int (nI n))] [] h1 := by
    intro y
    induction y with
    | zero =>
      intro z h1 hz f1 p1
      have F1 := Fr_XF hF f1 (by decide +kernel)
      have e5 : h1.1 152 n = nI k := by rw [← ek]; exact (mPg_cd (mPg_ln hP f1) hn).2.2.2.2.1
      have : z = w := by omega
      subst this
      with_reducible refine xm_go_blk b_X12_makeLine_199 k_X12_makeLine_199 ?_
      refine by_iload rfl ?_
      refine by_aload_n rfl ?_
      refine by_getf cn_255 fl_12_163 (by first | exact rfl | assumption) (by decide) ?_
      refine by_iload_n rfl ?_
      simp (disch := first | exact Nat.ne_of_beq_eq_false rfl | exact rfl | omega) only [nI_add, xa_sub, xa_mul, pk_div, nm_mod, xa_shr, xa_and7, xa_and1, xa_and255, xa_by_and, nI_m1, Nat.add_sub_cancel, Nat.reducePow, Nat.zero_add, Nat.add_zero, Nat.reduceAdd, Nat.reduceMul, Nat.reduceSub, xf_same, xq_ff, xq_fo, xf_1, xf_2, xs_1, xs_2, xs_same, xq_so, xj_1, xj_2, xj_same, xq_jo, xq_sa1, xq_same, xq_other, upd_s, oI_n, oI_s, xf_102_69 F1, e5]
      first | refine by_iald (by first | exact rfl | assumption | exact ps_1 hpp | exact ps_2 hpp | exact ps_3 hpp | exact ps_4 hpp | exact ps_5 hpp | exact ps_6 hpp | exact ps_7 hpp | exact ps_8 hpp | exact ps_9 hpp | exact ps_10 hpp | exact ps_11 hpp | exact ps_15 hpp | exact ps_16 hpp | exact ps_17 hpp | exact ps_18 hpp | exact ps_19 hpp | exact ps_21 hpp | exact ps_22 hpp | exact ps_23 hpp | exact ps_24 hpp) ⟨by omega, by omega⟩ ?_ | refine by_tald rfl rfl ⟨by omega, by omega⟩ ?_
      refine by_iload_n rfl ?_
      refine by_iadd ?_
      refine by_ic_ge 246 rfl ?_
      simp (disch := first | exact Nat.ne_of_beq_eq_false rfl | exact rfl | omega) only [nI_add, xa_sub, xa_mul, pk_div, nm_mod, xa_shr, xa_and7, xa_and1, xa_and255, xa_by_and, nI_m1, Nat.add_sub_cancel, Nat.reducePow, Nat.zero_add, Nat.add_zero, Nat.reduceAdd, Nat.reduceMul, Nat.reduceSub, xf_same, xq_ff, xq_fo, xf_1, xf_2, xs_1, xs_2, xs_same, xq_so, xj_1, xj_2, xj_same, xq_jo, xq_sa1, xq_same, xq_other, upd_s, oI_n, oI_s, xv_0, xv_1, xv_2, xv_3, xm_p1, xm_p2, xq_fp, xq_fn, List.filter_nil, Nat.reduceBEq, Bool.not_true, Bool.not_false, Bool.and_true, Bool.and_false, Bool.false_and, Bool.true_and, if_true, if_false, Bool.false_eq_true, reduceIte, xc_i, xc_j, xc_r, xc_n, List.nil_append, List.cons_append, Option.toList_some, Option.toList_none, nI_ltJ, nI_leJ, nI_eqJ, nI_ltz, nI_gez, nI_gtz, nI_lez, nI_eqz, m1_ltz, m1_gez, true_imp_iff, false_imp_iff, true_and, and_true, ne_eq, not_false_eq_true, not_true_eq_false, Nat.reduceEqDiff, Nat.reduceLT, Nat.reduceLeDiff, xf_102_69 F1, e5]
      refine ⟨fun c199 => ?_, fun c => absurd (by omega) c⟩
      exact xm_go_wk (by simp [Value.category]) (ml_end F1 p1 (fun h2 f2 p2 => hp h2 (Fr_tr f1 f2 (fun _ z => z) (fun _ z => z)) (by rw [List.append_assoc] at p2; exact p2)))
    | succ y ih =>
      intro z h1 hz f1 p1
      have F1 := Fr_XF hF f1 (by decide +kernel)
      have P1 := mPg_ln hP f1
      have e5 : h1.1 152 n = nI k := by rw [← ek]; exact (mPg_cd P1 hn).2.2.2.2.1
      have hrow : mrow h1 128 q.1 := P1.2.2.2.2.2.2.2.1
      have el : h1.1 128 ((k + z) / 8) = nI (q.1.getD ((k + z) / 8) 0) := hrow.1 _ (by omega)
      have ell := hrow.2.1 ((k + z) / 8) (by omega)
      have hq8 := hrow.2.2
      with_reducible refine xm_go_blk b_X12_makeLine_199 k_X12_makeLine_199 ?_
      refine by_iload rfl ?_
      refine by_aload_n rfl ?_
      refine by_getf cn_255 fl_12_163 (by first | exact rfl | assumption) (by decide) ?_
      refine by_iload_n rfl ?_
      simp (disch := first | exact Nat.ne_of_beq_eq_false rfl | exact rfl | omega) only [nI_add, xa_sub, xa_mul, pk_div, nm_mod, xa_shr, xa_and7, xa_and1, xa_and255, xa_by_and, nI_m1, Nat.add_sub_cancel, Nat.reducePow, Nat.zero_add, Nat.add_zero, Nat.reduceAdd, Nat.reduceMul, Nat.reduceSub, xf_same, xq_ff, xq_fo, xf_1, xf_2, xs_1, xs_2, xs_same, xq_so, xj_1, xj_2, xj_same, xq_jo, xq_sa1, xq_same, xq_other, upd_s, oI_n, oI_s, xf_102_69 F1, e5, xf_102_31 F1, el]
      first | refine by_iald (by first | exact rfl | assumption | exact ps_1 hpp | exact ps_2 hpp | exact ps_3 hpp | exact ps_4 hpp | exact ps_5 hpp | exact ps_6 hpp | exact ps_7 hpp | exact ps_8 hpp | exact ps_9 hpp | exact ps_10 hpp | exact ps_11 hpp | exact ps_15 hpp | exact ps_16 hpp | exact ps_17 hpp | exact ps_18 hpp | exact ps_19 hpp | exact ps_21 hpp | exact ps_22 hpp | exact ps_23 hpp | exact ps_24 hpp) ⟨by omega, by omega⟩ ?_ | refine by_tald rfl rfl ⟨by omega, by omega⟩ ?_
      refine by_iload_n rfl ?_
      refine by_iadd ?_
      refine by_ic_ge 246 rfl ?_
      simp (disch := first | exact Nat.ne_of_beq_eq_false rfl | exact rfl | omega) only [nI_add, xa_sub, xa_mul, pk_div, nm_mod, xa_shr, xa_and7, xa_and1, xa_and255, xa_by_and, nI_m1, Nat.add_sub_cancel, Nat.reducePow, Nat.zero_add, Nat.add_zero, Nat.reduceAdd, Nat.reduceMul, Nat.reduceSub, xf_same, xq_ff, xq_fo, xf_1, xf_2, xs_1, xs_2, xs_same, xq_so, xj_1, xj_2, xj_same, xq_jo, xq_sa1, xq_same, xq_other, upd_s, oI_n, oI_s, xv_0, xv_1, xv_2, xv_3, xm_p1, xm_p2, xq_fp, xq_fn, List.filter_nil, Nat.reduceBEq, Bool.not_true, Bool.not_false, Bool.and_true, Bool.and_false, Bool.false_and, Bool.true_and, if_true, if_false, Bool.false_eq_true, reduceIte, xc_i, xc_j, xc_r, xc_n, List.nil_append, List.cons_append, Option.toList_some, Option.toList_none, nI_ltJ, nI_leJ, nI_eqJ, nI_ltz, nI_gez, nI_gtz, nI_lez, nI_eqz, m1_ltz, m1_gez, true_imp_iff, false_imp_iff, true_and, and_true, ne_eq, not_false_eq_true, not_true_eq_false, Nat.reduceEqDiff, Nat.reduceLT, Nat.reduceLeDiff, xf_102_69 F1, e5, xf_102_31 F1, el]
      refine ⟨fun c => absurd c (by omega), fun c199 => ?_⟩
      with_reducible refine xm_go_blk b_X12_makeLine_212 k_X12_makeLine_212 ?_
      refine by_aload_n rfl ?_
      refine by_bipush cb_48 ?_
      refine by_aload_n rfl ?_
      refine by_getf cn_255 fl_12_88 (by first | exact rfl | assumption) (by decide) ?_
      refine by_iload rfl ?_
      refine by_bipush cb_8 ?_
      refine by_idiv (by first | decide | assumption) ?_
      simp (disch := first | exact Nat.ne_of_beq_eq_false rfl | exact rfl | omega) only [nI_add, xa_sub, xa_mul, pk_div, nm_mod, xa_shr, xa_and7, xa_and1, xa_and255, xa_by_and, nI_m1, Nat.add_sub_cancel, Nat.reducePow, Nat.zero_add, Nat.add_zero, Nat.reduceAdd, Nat.reduceMul, Nat.reduceSub, xf_same, xq_ff, xq_fo, xf_1, xf_2, xs_1, xs_2, xs_same, xq_so, xj_1, xj_2, xj_same, xq_jo, xq_sa1, xq_same, xq_other, upd_s, oI_n, oI_s, xf_102_69 F1, e5, xf_102_31 F1, el]
      first | refine by_iald (by first | exact rfl | assumption | exact ps_1 hpp | exact ps_2 hpp | exact ps_3 hpp | exact ps_4 hpp | exact ps_5 hpp | exact ps_6 hpp | exact ps_7 hpp | exact ps_8 hpp | exact ps_9 hpp | exact ps_10 hpp | exact ps_11 hpp | exact ps_15 hpp | exact ps_16 hpp | exact ps_17 hpp | exact ps_18 hpp | exact ps_19 hpp | exact ps_21 hpp | exact ps_22 hpp | exact ps_23 hpp | exact ps_24 hpp) ⟨by omega, by omega⟩ ?_ | refine by_tald rfl rfl ⟨by omega, by omega⟩ ?_
      refine by_bipush cb_7 ?_
      refine by_iload rfl ?_
      refine by_bipush cb_8 ?_
      refine by_irem (by first | decide | assumption) ?_
      refine by_isub ?_
      refine by_ishr ?_
      refine by_iconst ci_1 ?_
      refine by_iand ?_
      refine by_iadd ?_
      simp (disch := first | exact Nat.ne_of_beq_eq_false rfl | exact rfl | omega) only [nI_add, xa_sub, xa_mul, pk_div, nm_mod, xa_shr, xa_and7, xa_and1, xa_and255, xa_by_and, nI_m1, Nat.add_sub_cancel, Nat.reducePow, Nat.zero_add, Nat.add_zero, Nat.reduceAdd, Nat.reduceMul, Nat.reduceSub, xf_same, xq_ff, xq_fo, xf_1, xf_2, xs_1, xs_2, xs_same, xq_so, xj_1, xj_2, xj_same, xq_jo, xq_sa1, xq_same, xq_other, upd_s, oI_n, oI_s, xv_0, xv_1, xv_2, xv_3, xm_p1, xm_p2, xq_fp, xq_fn, List.filter_nil, Nat.reduceBEq, Bool.not_true, Bool.not_false, Bool.and_true, Bool.and_false, Bool.false_and, Bool.true_and, if_true, if_false, Bool.false_eq_true, reduceIte, xc_i, xc_j, xc_r, xc_n, List.nil_append, List.cons_append, Option.toList_some, Option.toList_none, xf_102_69 F1, e5, xf_102_31 F1, el]
      refine by_inv1 cn_255 lk_12_296 (by rw [xe_cnt]; decide) is_254 np_254 cn_254 (by first | exact rfl | assumption) (Nat.le_of_ble_eq_true rfl) ?_
      refine sp_make (c := 48 + by_bit q.1 (k + z)) F1 p1 (fun h2 f2 p2 => ?_)
      with_reducible refine xm_go_blk b_X12_makeLine_240 k_X12_makeLine_240 ?_
      refine by_iinc (by rw [ml_255]; decide) rfl ci_1 ?_
      refine by_goto 199 rfl ?_
      try simp (disch := first | exact Nat.ne_of_beq_eq_false rfl | exact rfl | omega) only [nI_add, xa_sub, xa_mul, pk_div, nm_mod, xa_shr, xa_and7, xa_and1, xa_and255, xa_by_and, nI_m1, Nat.add_sub_cancel, Nat.reducePow, Nat.zero_add, Nat.add_zero, Nat.reduceAdd, Nat.reduceMul, Nat.reduceSub, xf_same, xq_ff, xq_fo, xf_1, xf_2, xs_1, xs_2, xs_same, xq_so, xj_1, xj_2, xj_same, xq_jo, xq_sa1, xq_same, xq_other, upd_s, oI_n, oI_s, xv_0, xv_1, xv_2, xv_3, xm_p1, xm_p2, xq_fp, xq_fn, List.filter_nil, Nat.reduceBEq, Bool.not_true, Bool.not_false, Bool.and_true, Bool.and_false, Bool.false_and, Bool.true_and, if_true, if_false, Bool.false_eq_true, reduceIte, xc_i, xc_j, xc_r, xc_n, List.nil_append, List.cons_append, Option.toList_some, Option.toList_none]
      rw [List.append_assoc] at p2
      exact xm_go_wk (by simp [Value.category, Nat.add_assoc]) (ih (z + 1) h2 (by omega) (Fr_tr f1 f2 (fun _ z => z) (fun _ z => z)) p2)
  have e5 : h.1 152 n = nI k := by rw [← ek]; exact (mPg_cd hP hn).2.2.2.2.1
  with_reducible refine xm_go_blk b_X12_makeLine_191 k_X12_makeLine_191 ?_
  refine by_aload_n rfl ?_
  refine by_getf cn_255 fl_12_163 (by first | exact rfl | assumption) (by decide) ?_
  refine by_iload_n rfl ?_
  simp (disch := first | exact Nat.ne_of_beq_eq_false rfl | exact rfl | omega) only [nI_add, xa_sub, xa_mul, pk_div, nm_mod, xa_shr, xa_and7, xa_and1, xa_and255, xa_by_and, nI_m1, Nat.add_sub_cancel, Nat.reducePow, Nat.zero_add, Nat.add_zero, Nat.reduceAdd, Nat.reduceMul, Nat.reduceSub, xf_same, xq_ff, xq_fo, xf_1, xf_2, xs_1, xs_2, xs_same, xq_so, xj_1, xj_2, xj_same, xq_jo, xq_sa1, xq_same, xq_other, upd_s, oI_n, oI_s, xf_102_69 hF, e5]
  first | refine by_iald (by first | exact rfl | assumption | exact ps_1 hpp | exact ps_2 hpp | exact ps_3 hpp | exact ps_4 hpp | exact ps_5 hpp | exact ps_6 hpp | exact ps_7 hpp | exact ps_8 hpp | exact ps_9 hpp | exact ps_10 hpp | exact ps_11 hpp | exact ps_15 hpp | exact ps_16 hpp | exact ps_17 hpp | exact ps_18 hpp | exact ps_19 hpp | exact ps_21 hpp | exact ps_22 hpp | exact ps_23 hpp | exact ps_24 hpp) ⟨by omega, by omega⟩ ?_ | refine by_tald rfl rfl ⟨by omega, by omega⟩ ?_
  refine by_istore (by rw [ml_255]; decide) ?_
  refine by_nil ?_
  try simp (disch := first | exact Nat.ne_of_beq_eq_false rfl | exact rfl | omega) only [nI_add, xa_sub, xa_mul, pk_div, nm_mod, xa_shr, xa_and7, xa_and1, xa_and255, xa_by_and, nI_m1, Nat.add_sub_cancel, Nat.reducePow, Nat.zero_add, Nat.add_zero, Nat.reduceAdd, Nat.reduceMul, Nat.reduceSub, xf_same, xq_ff, xq_fo, xf_1, xf_2, xs_1, xs_2, xs_same, xq_so, xj_1, xj_2, xj_same, xq_jo, xq_sa1, xq_same, xq_other, upd_s, oI_n, oI_s, xv_0, xv_1, xv_2, xv_3, xm_p1, xm_p2, xq_fp, xq_fn, List.filter_nil, Nat.reduceBEq, Bool.not_true, Bool.not_false, Bool.and_true, Bool.and_false, Bool.false_and, Bool.true_and, if_true, if_false, Bool.false_eq_true, reduceIte, xc_i, xc_j, xc_r, xc_n, List.nil_append, List.cons_append, Option.toList_some, Option.toList_none, xf_102_69 hF, e5]
  exact xm_go_wk (by simp [Value.category]) (key w 0 h (by omega) Fr_rf (by rw [show wtT q.1 k 0 = [] from rfl, List.append_nil]; exact hl))
end SK
