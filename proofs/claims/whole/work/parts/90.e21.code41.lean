/-! ===== the reference: run ===== -/
def mqR : List Nat := [104, 115, 116, 145, 153, 154, 155, 156]
def mqT : List (Nat × Nat) := [(102, 0), (102, 2), (102, 4), (102, 35), (102, 37), (102, 38), (102, 39), (102, 74), (102, 75), (102, 76), (102, 77), (102, 78), (102, 79), (102, 80)]
def msR : List Nat := [115, 116, 145, 153, 154, 155, 156]
def msT : List (Nat × Nat) := [(102, 0), (102, 2), (102, 74), (102, 75), (102, 76), (102, 77), (102, 78), (102, 79), (102, 80)]
theorem mqT_fin : xt_fin.all (fun q => !(mqT.contains (q.1, q.2.1))) = true := by decide +kernel
theorem msT_fin : xt_fin.all (fun q => !(msT.contains (q.1, q.2.1))) = true := by decide +kernel
theorem mPg_f2 {h h' : xm_H} {q : PgD} (hP : mPg h (some q)) (hf : Fr mqR mqT h h') : mPg h' (some q) := by
  obtain ⟨l, ps, a, S, T⟩ := q
  exact PK_fr hP hf (kpT_fr hf (fun a h1 h2 => by simp [mqR]; omega)) (fun c h1 h2 => by simp [mqR]; omega) (by simp [mqR]) (by simp [mqR]) (by simp [mqT]) (by simp [mqT]) (hf.2.2 _ _ (by simp [mqT]))
theorem ms_mr {h h' : xm_H} (hf : Fr msR msT h h') : Fr mqR mqT h h' := Fr_tr (Fr_rf (S := mqR) (T := mqT)) hf (by simp [msR, mqR]) (by simp [msT, mqT])
theorem lcmp_gt {a b : Nat} (ha : a < 2 ^ 62) (hb : b < 2 ^ 62) : (0 < lg_cmp (lN a) (lN b)) = (b < a) := by
  have h := lcmp_le ha hb
  apply propext
  constructor
  · intro z
    refine Nat.lt_of_not_le (fun y => ?_)
    have := (eq_iff_iff.mp h).mpr y
    exact Int32.lt_irrefl (Int32.lt_of_lt_of_le z this)
  · intro z
    refine Int32.not_le.mp (fun y => ?_)
    have := (eq_iff_iff.mp h).mp y
    omega
theorem rdB_ex {x : List Bool} {p n : Nat} (hx : x.length = n) : rdB (fun k => (mc_ex x (k - p)).toNat) p n = x.map Bool.toNat := by
  refine List.ext_getElem (by rw [List.length_map, hx]; simp [rdB]) (fun i h1 h2 => ?_)
  rw [List.length_map] at h2
  simp only [rdB, List.getElem_map, List.getElem_range]
  congr 1
  show x.getD (p + i - p) false = _
  rw [Nat.add_sub_cancel_left, List.getD_eq_getElem?_getD, List.getElem?_eq_getElem h2, Option.getD_some]
section MR
variable {sc : xm_Sc} {d df : Nat} {tl : List Nat} {h : xm_H} {post : xm_Po} {rn st ce : Int32} {o : Option PgD}
theorem sp_mrun (hF : XF h) (hP : mPg h o) (hl : mrow h 103 tl) (ht : h.2.2 102 2 = .int (nI tl.length)) (h35 : h.2.2 102 35 = .int rn) (hdf : df < 2)
    (hA : (st < nI 1 ∨ ¬ nI 1 ≤ ce) → post (some (.int (nI 0))) (xm_sf h 102 0 (.int (nI 1)))) (hS : ¬ st < nI 1 → nI 1 ≤ ce → o = none → post (some (.int (nI 0))) (xm_sf h 102 0 (.int (nI 2))))
    (p4 : ∀ q s k, o = some q → st = nI s → ce = nI k → 1 ≤ s → s < 2147483648 → 1 ≤ k → k < 2147483648 → ¬ vOK tl (qS q) → ∀ h', XF h' → Fr msR msT h h' → h'.2.2 102 0 = .int (nI 0) → h'.2.2 102 2 = .int (nI 0) → post (some (.int (-4))) h')
    (p2 : ∀ q s k, o = some q → st = nI s → ce = nI k → 1 ≤ s → s < 2147483648 → 1 ≤ k → k < 2147483648 → vOK tl (qS q) → ∀ C F B, bnd q.2.1 q.2.2.2.1 q.2.2.2.2 C F B q.2.1.length → rnX q C B s k → ∀ h', XF h' → Fr msR msT h h' → h'.2.2 102 0 = .int (nI 0) → h'.2.2 102 2 = .int (nI 0) → post (some (.int (-2))) h')
    (p1 : ∀ q s k, o = some q → st = nI s → ce = nI k → 1 ≤ s → s < 2147483648 → 1 ≤ k → k < 2147483648 → vOK tl (qS q) → ∀ C F B, bnd q.2.1 q.2.2.2.1 q.2.2.2.2 C F B q.2.1.length → ¬ rnX q C B s k → rnE q tl = none → ∀ h', XF h' → Fr msR msT h h' → h'.2.2 102 0 = .int (nI 0) → h'.2.2 102 2 = .int (nI 0) → post (some (.int (-1))) h')
    (p0 : ∀ q s k, o = some q → st = nI s → ce = nI k → 1 ≤ s → s < 2147483648 → 1 ≤ k → k < 2147483648 → vOK tl (qS q) → ∀ C F B, bnd q.2.1 q.2.2.2.1 q.2.2.2.2 C F B q.2.1.length → ¬ rnX q C B s k → ∀ x z m e, rnE q tl = some (x, z, m, e) → x.length = ty_w (qT q) → ∀ h', XF h' → Fr mqR mqT h h' → h'.2.2 102 0 = .int (nI 0) → h'.2.2 102 2 = .int (nI 0) → mrow h' 104 (pkL (x.map Bool.toNat)) → h'.2.2 102 4 = .int (nI ((ty_w (qT q) + 7) / 8)) → h'.2.2 102 35 = .int (rn + nI 1) → (df = 0 → h'.2.2 102 37 = .long (lN (ty_w (qS q) + ty_w (qT q) + m)) ∧ h'.2.2 102 38 = .long (lN (2 + e)) ∧ h'.2.2 102 39 = .long (lN (min 2147483647 z))) → (df = 1 → h'.2.2 102 37 = h.2.2 102 37 ∧ h'.2.2 102 38 = h.2.2 102 38 ∧ h'.2.2 102 39 = h.2.2 102 39) → post (some (.int (nI ((ty_w (qT q) + 7) / 8)))) h') :
    xm_T (XE sc) (d + 8) 290 [.ref 102, .int st, .int ce, .int (nI df)] h post := by
  obtain ⟨hc, hc4⟩ := mPg_c hP
  refine xq_in rfl ?_
  simp only [xq_a0, xq_aI, xq_aJ, xq_aR, Nat.reduceAdd]
  with_reducible refine xm_go_blk b_X12_run_0 k_X12_run_0 ?_
  refine by_aload_n rfl ?_
  refine by_iload_n rfl ?_
  refine by_iconst ci_1 ?_
  refine by_ic_lt 11 rfl ?_
  simp (disch := first | exact Nat.ne_of_beq_eq_false rfl | exact rfl | omega) only [nI_add, xa_sub, xa_mul, pk_div, nm_mod, xa_shr, xa_and7, xa_and1, xa_and255, xa_by_and, nI_m1, Nat.add_sub_cancel, Nat.reducePow, Nat.zero_add, Nat.add_zero, Nat.reduceAdd, Nat.reduceMul, Nat.reduceSub, xf_same, xq_ff, xq_fo, xf_1, xf_2, xs_1, xs_2, xs_same, xq_so, xj_1, xj_2, xj_same, xq_jo, xq_sa1, xq_same, xq_other, upd_s, oI_n, oI_s, xv_0, xv_1, xv_2, xv_3, xm_p1, xm_p2, xq_fp, xq_fn, List.filter_nil, Nat.reduceBEq, Bool.not_true, Bool.not_false, Bool.and_true, Bool.and_false, Bool.false_and, Bool.true_and, if_true, if_false, Bool.false_eq_true, reduceIte, xc_i, xc_j, xc_r, xc_n, List.nil_append, List.cons_append, Option.toList_some, Option.toList_none, nI_ltJ, nI_leJ, nI_eqJ, nI_ltz, nI_gez, nI_gtz, nI_lez, nI_eqz, m1_ltz, m1_gez, true_imp_iff, false_imp_iff, true_and, and_true, ne_eq, not_false_eq_true, not_true_eq_false, Nat.reduceEqDiff, Nat.reduceLT, Nat.reduceLeDiff]
  refine ⟨fun q => ?_, fun q => ?_⟩
  · with_reducible refine xm_go_blk b_X12_run_11 k_X12_run_11 ?_
    refine by_iconst ci_1 ?_
    refine by_goto 27 rfl ?_
    with_reducible refine xm_go_blk b_X12_run_27 k_X12_run_27 ?_
    refine by_putf cn_290 fl_12_205 (by first | exact rfl | assumption) (by decide) nf_12_0 ft_12_0 (by first | rfl | assumption) (by first | rfl | assumption) ?_
    refine by_aload_n rfl ?_
    refine by_getf cn_290 fl_12_205 (by first | exact rfl | assumption) (by decide) ?_
    simp (disch := first | exact Nat.ne_of_beq_eq_false rfl | exact rfl | omega) only [nI_add, xa_sub, xa_mul, pk_div, nm_mod, xa_shr, xa_and7, xa_and1, xa_and255, xa_by_and, nI_m1, Nat.add_sub_cancel, Nat.reducePow, Nat.zero_add, Nat.add_zero, Nat.reduceAdd, Nat.reduceMul, Nat.reduceSub, xf_same, xq_ff, xq_fo, xf_1, xf_2, xs_1, xs_2, xs_same, xq_so, xj_1, xj_2, xj_same, xq_jo, xq_sa1, xq_same, xq_other, upd_s, oI_n, oI_s]
    refine by_if_le 39 rfl ?_
    simp (disch := first | exact Nat.ne_of_beq_eq_false rfl | exact rfl | omega) only [nI_add, xa_sub, xa_mul, pk_div, nm_mod, xa_shr, xa_and7, xa_and1, xa_and255, xa_by_and, nI_m1, Nat.add_sub_cancel, Nat.reducePow, Nat.zero_add, Nat.add_zero, Nat.reduceAdd, Nat.reduceMul, Nat.reduceSub, xf_same, xq_ff, xq_fo, xf_1, xf_2, xs_1, xs_2, xs_same, xq_so, xj_1, xj_2, xj_same, xq_jo, xq_sa1, xq_same, xq_other, upd_s, oI_n, oI_s, xv_0, xv_1, xv_2, xv_3, xm_p1, xm_p2, xq_fp, xq_fn, List.filter_nil, Nat.reduceBEq, Bool.not_true, Bool.not_false, Bool.and_true, Bool.and_false, Bool.false_and, Bool.true_and, if_true, if_false, Bool.false_eq_true, reduceIte, xc_i, xc_j, xc_r, xc_n, List.nil_append, List.cons_append, Option.toList_some, Option.toList_none, nI_ltJ, nI_leJ, nI_eqJ, nI_ltz, nI_gez, nI_gtz, nI_lez, nI_eqz, m1_ltz, m1_gez, true_imp_iff, false_imp_iff, true_and, and_true, ne_eq, not_false_eq_true, not_true_eq_false, Nat.reduceEqDiff, Nat.reduceLT, Nat.reduceLeDiff]
    with_reducible refine xm_go_blk b_X12_run_37 k_X12_run_37 ?_
    refine by_iconst ci_0 ?_
    refine by_iret ry_290 (by first | rfl | assumption) ?_
    exact hA (Or.inl q)
  with_reducible refine xm_go_blk b_X12_run_6 k_X12_run_6 ?_
  refine by_iload_n rfl ?_
  refine by_iconst ci_1 ?_
  refine by_ic_ge 15 rfl ?_
  simp (disch := first | exact Nat.ne_of_beq_eq_false rfl | exact rfl | omega) only [nI_add, xa_sub, xa_mul, pk_div, nm_mod, xa_shr, xa_and7, xa_and1, xa_and255, xa_by_and, nI_m1, Nat.add_sub_cancel, Nat.reducePow, Nat.zero_add, Nat.add_zero, Nat.reduceAdd, Nat.reduceMul, Nat.reduceSub, xf_same, xq_ff, xq_fo, xf_1, xf_2, xs_1, xs_2, xs_same, xq_so, xj_1, xj_2, xj_same, xq_jo, xq_sa1, xq_same, xq_other, upd_s, oI_n, oI_s, xv_0, xv_1, xv_2, xv_3, xm_p1, xm_p2, xq_fp, xq_fn, List.filter_nil, Nat.reduceBEq, Bool.not_true, Bool.not_false, Bool.and_true, Bool.and_false, Bool.false_and, Bool.true_and, if_true, if_false, Bool.false_eq_true, reduceIte, xc_i, xc_j, xc_r, xc_n, List.nil_append, List.cons_append, Option.toList_some, Option.toList_none, nI_ltJ, nI_leJ, nI_eqJ, nI_ltz, nI_gez, nI_gtz, nI_lez, nI_eqz, m1_ltz, m1_gez, true_imp_iff, false_imp_iff, true_and, and_true, ne_eq, not_false_eq_true, not_true_eq_false, Nat.reduceEqDiff, Nat.reduceLT, Nat.reduceLeDiff]
  refine ⟨fun q2 => ?_, fun q2 => ?_⟩
  rotate_left
  · with_reducible refine xm_go_blk b_X12_run_11 k_X12_run_11 ?_
    refine by_iconst ci_1 ?_
    refine by_goto 27 rfl ?_
    with_reducible refine xm_go_blk b_X12_run_27 k_X12_run_27 ?_
    refine by_putf cn_290 fl_12_205 (by first | exact rfl | assumption) (by decide) nf_12_0 ft_12_0 (by first | rfl | assumption) (by first | rfl | assumption) ?_
    refine by_aload_n rfl ?_
    refine by_getf cn_290 fl_12_205 (by first | exact rfl | assumption) (by decide) ?_
    simp (disch := first | exact Nat.ne_of_beq_eq_false rfl | exact rfl | omega) only [nI_add, xa_sub, xa_mul, pk_div, nm_mod, xa_shr, xa_and7, xa_and1, xa_and255, xa_by_and, nI_m1, Nat.add_sub_cancel, Nat.reducePow, Nat.zero_add, Nat.add_zero, Nat.reduceAdd, Nat.reduceMul, Nat.reduceSub, xf_same, xq_ff, xq_fo, xf_1, xf_2, xs_1, xs_2, xs_same, xq_so, xj_1, xj_2, xj_same, xq_jo, xq_sa1, xq_same, xq_other, upd_s, oI_n, oI_s]
    refine by_if_le 39 rfl ?_
    simp (disch := first | exact Nat.ne_of_beq_eq_false rfl | exact rfl | omega) only [nI_add, xa_sub, xa_mul, pk_div, nm_mod, xa_shr, xa_and7, xa_and1, xa_and255, xa_by_and, nI_m1, Nat.add_sub_cancel, Nat.reducePow, Nat.zero_add, Nat.add_zero, Nat.reduceAdd, Nat.reduceMul, Nat.reduceSub, xf_same, xq_ff, xq_fo, xf_1, xf_2, xs_1, xs_2, xs_same, xq_so, xj_1, xj_2, xj_same, xq_jo, xq_sa1, xq_same, xq_other, upd_s, oI_n, oI_s, xv_0, xv_1, xv_2, xv_3, xm_p1, xm_p2, xq_fp, xq_fn, List.filter_nil, Nat.reduceBEq, Bool.not_true, Bool.not_false, Bool.and_true, Bool.and_false, Bool.false_and, Bool.true_and, if_true, if_false, Bool.false_eq_true, reduceIte, xc_i, xc_j, xc_r, xc_n, List.nil_append, List.cons_append, Option.toList_some, Option.toList_none, nI_ltJ, nI_leJ, nI_eqJ, nI_ltz, nI_gez, nI_gtz, nI_lez, nI_eqz, m1_ltz, m1_gez, true_imp_iff, false_imp_iff, true_and, and_true, ne_eq, not_false_eq_true, not_true_eq_false, Nat.reduceEqDiff, Nat.reduceLT, Nat.reduceLeDiff]
    with_reducible refine xm_go_blk b_X12_run_37 k_X12_run_37 ?_
    refine by_iconst ci_0 ?_
    refine by_iret ry_290 (by first | rfl | assumption) ?_
    exact hA (Or.inr q2)
  cases o with
  | none =>
    have hc0 : h.2.2 102 19 = .int (nI 0) := hc
    with_reducible refine xm_go_blk b_X12_run_15 k_X12_run_15 ?_
    refine by_aload_n rfl ?_
    refine by_getf cn_290 fl_12_378 (by first | exact rfl | assumption) (by decide) ?_
    simp (disch := first | exact Nat.ne_of_beq_eq_false rfl | exact rfl | omega) only [nI_add, xa_sub, xa_mul, pk_div, nm_mod, xa_shr, xa_and7, xa_and1, xa_and255, xa_by_and, nI_m1, Nat.add_sub_cancel, Nat.reducePow, Nat.zero_add, Nat.add_zero, Nat.reduceAdd, Nat.reduceMul, Nat.reduceSub, xf_same, xq_ff, xq_fo, xf_1, xf_2, xs_1, xs_2, xs_same, xq_so, xj_1, xj_2, xj_same, xq_jo, xq_sa1, xq_same, xq_other, upd_s, oI_n, oI_s, hc0]
    refine by_if_ne 26 rfl ?_
    simp (disch := first | exact Nat.ne_of_beq_eq_false rfl | exact rfl | omega) only [nI_add, xa_sub, xa_mul, pk_div, nm_mod, xa_shr, xa_and7, xa_and1, xa_and255, xa_by_and, nI_m1, Nat.add_sub_cancel, Nat.reducePow, Nat.zero_add, Nat.add_zero, Nat.reduceAdd, Nat.reduceMul, Nat.reduceSub, xf_same, xq_ff, xq_fo, xf_1, xf_2, xs_1, xs_2, xs_same, xq_so, xj_1, xj_2, xj_same, xq_jo, xq_sa1, xq_same, xq_other, upd_s, oI_n, oI_s, xv_0, xv_1, xv_2, xv_3, xm_p1, xm_p2, xq_fp, xq_fn, List.filter_nil, Nat.reduceBEq, Bool.not_true, Bool.not_false, Bool.and_true, Bool.and_false, Bool.false_and, Bool.true_and, if_true, if_false, Bool.false_eq_true, reduceIte, xc_i, xc_j, xc_r, xc_n, List.nil_append, List.cons_append, Option.toList_some, Option.toList_none, nI_ltJ, nI_leJ, nI_eqJ, nI_ltz, nI_gez, nI_gtz, nI_lez, nI_eqz, m1_ltz, m1_gez, true_imp_iff, false_imp_iff, true_and, and_true, ne_eq, not_false_eq_true, not_true_eq_false, Nat.reduceEqDiff, Nat.reduceLT, Nat.reduceLeDiff, hc0]
    with_reducible refine xm_go_blk b_X12_run_22 k_X12_run_22 ?_
    refine by_iconst ci_2 ?_
    refine by_goto 27 rfl ?_
    with_reducible refine xm_go_blk b_X12_run_27 k_X12_run_27 ?_
    refine by_putf cn_290 fl_12_205 (by first | exact rfl | assumption) (by decide) nf_12_0 ft_12_0 (by first | rfl | assumption) (by first | rfl | assumption) ?_
    refine by_aload_n rfl ?_
    refine by_getf cn_290 fl_12_205 (by first | exact rfl | assumption) (by decide) ?_
    simp (disch := first | exact Nat.ne_of_beq_eq_false rfl | exact rfl | omega) only [nI_add, xa_sub, xa_mul, pk_div, nm_mod, xa_shr, xa_and7, xa_and1, xa_and255, xa_by_and, nI_m1, Nat.add_sub_cancel, Nat.reducePow, Nat.zero_add, Nat.add_zero, Nat.reduceAdd, Nat.reduceMul, Nat.reduceSub, xf_same, xq_ff, xq_fo, xf_1, xf_2, xs_1, xs_2, xs_same, xq_so, xj_1, xj_2, xj_same, xq_jo, xq_sa1, xq_same, xq_other, upd_s, oI_n, oI_s, hc0]
    refine by_if_le 39 rfl ?_
    simp (disch := first | exact Nat.ne_of_beq_eq_false rfl | exact rfl | omega) only [nI_add, xa_sub, xa_mul, pk_div, nm_mod, xa_shr, xa_and7, xa_and1, xa_and255, xa_by_and, nI_m1, Nat.add_sub_cancel, Nat.reducePow, Nat.zero_add, Nat.add_zero, Nat.reduceAdd, Nat.reduceMul, Nat.reduceSub, xf_same, xq_ff, xq_fo, xf_1, xf_2, xs_1, xs_2, xs_same, xq_so, xj_1, xj_2, xj_same, xq_jo, xq_sa1, xq_same, xq_other, upd_s, oI_n, oI_s, xv_0, xv_1, xv_2, xv_3, xm_p1, xm_p2, xq_fp, xq_fn, List.filter_nil, Nat.reduceBEq, Bool.not_true, Bool.not_false, Bool.and_true, Bool.and_false, Bool.false_and, Bool.true_and, if_true, if_false, Bool.false_eq_true, reduceIte, xc_i, xc_j, xc_r, xc_n, List.nil_append, List.cons_append, Option.toList_some, Option.toList_none, nI_ltJ, nI_leJ, nI_eqJ, nI_ltz, nI_gez, nI_gtz, nI_lez, nI_eqz, m1_ltz, m1_gez, true_imp_iff, false_imp_iff, true_and, and_true, ne_eq, not_false_eq_true, not_true_eq_false, Nat.reduceEqDiff, Nat.reduceLT, Nat.reduceLeDiff, hc0]
    with_reducible refine xm_go_blk b_X12_run_37 k_X12_run_37 ?_
    refine by_iconst ci_0 ?_
    refine by_iret ry_290 (by first | rfl | assumption) ?_
    exact hS q q2 rfl
  | some g =>
    obtain ⟨l, ps, a, S, T⟩ := g
    have h1 : 1 ≤ ps.length := hP.2.1
    have hN : ps.length ≤ 400 := hP.2.2.1
    have ho : psOK ps := hP.1
    have hLG : LdG l ps a 0 S T := hP.2.2.2.1
    obtain ⟨n, en⟩ : ∃ n, ps.length = n + 1 := ⟨ps.length - 1, by omega⟩
    have enn : ps.length - 1 = n := by omega
    have hn : n < ps.length := by omega
    have h11 : pC ps n ≠ 11 := by have := lst_11 (by omega) hLG; rw [enn] at this; exact this
    have hws : ty_w (S n) ≤ 2048 := PG_w (tb := 0) hLG hn h11
    have hwt : ty_w (T n) ≤ 2048 := PG_w (tb := 1) hLG hn h11
    have hct : h.2.2 102 19 = .int (nI (n + 1)) := by rw [← en]; exact hP.2.2.2.2.2.1
    obtain ⟨s, hs, rfl⟩ := nI_of (x := st) (fun z => q (Int32.lt_trans z (by decide)))
    obtain ⟨k, hk, rfl⟩ := nI_of (x := ce) (fun z => absurd (Int32.lt_of_lt_of_le z (Int32.le_trans (by decide : (0 : Int32) ≤ nI 1) q2)) (Int32.lt_irrefl))
    have hs1 : 1 ≤ s := by
      by_cases z : s = 0
      · subst z; exact absurd (by decide) q
      · omega
    have hk1 : 1 ≤ k := by
      by_cases z : k = 0
      · subst z; exact absurd q2 (by decide)
      · omega
    have eS : qS (l, ps, a, S, T) = S n := by unfold qS; simp only [enn]
    have eT : qT (l, ps, a, S, T) = T n := by unfold qT; simp only [enn]
    have w0 : wdN (l, ps, a, S, T) 0 n = nI (ty_w (S n)) := if_neg h11
    have w1 : wdN (l, ps, a, S, T) 1 n = nI (ty_w (T n)) := if_neg h11
    obtain ⟨k0, b0, hpn, _, _, _, _, _, _, _, _, _, _, C, F, B, hb, hV⟩ := hP.2.2.2.2.2.2.2.2
    obtain ⟨v1, v2, v3⟩ := hV n hn
    obtain ⟨b1, b2, b3⟩ := bnd_le hb hn
    have p4' := p4 _ s k rfl rfl rfl hs1 hs hk1 hk
    have p2' := fun hv => p2 _ s k rfl rfl rfl hs1 hs hk1 hk hv C F B hb
    have p1' := fun hv => p1 _ s k rfl rfl rfl hs1 hs hk1 hk hv C F B hb
    have p0' := fun hv => p0 _ s k rfl rfl rfl hs1 hs hk1 hk hv C F B hb
    unfold rnX at p2' p1' p0'
    simp only [enn, eS, eT] at p4' p2' p1' p0'
    have f1 : Fr msR msT h (xm_sf h 102 0 (.int (nI 0))) := Fr_sf Fr_rf (by simp [msT])
    have F1 := Fr_XF hF f1 msT_fin
    have P1 := mPg_f2 hP (ms_mr f1)
    have z1 : (xm_sf h 102 0 (.int (nI 0))).2.2 102 0 = .int (nI 0) := by simp only [xf_same]
    have t1 : (xm_sf h 102 0 (.int (nI 0))).2.2 102 2 = .int (nI tl.length) := by rw [← ht]; simp [xm_sf, updV]
    have l1 : mrow (xm_sf h 102 0 (.int (nI 0))) 103 tl := ⟨hl.1, hl.2⟩
    have hct1 : (xm_sf h 102 0 (.int (nI 0))).2.2 102 19 = .int (nI (n + 1)) := by rw [← hct]; simp [xm_sf, updV]
    obtain ⟨cn, tr, K, L, R, hY, hNN⟩ := PK_mY P1
    obtain ⟨x, y, x1, y1, x2, x3, y2, y3⟩ := (hNN n hn).2 h11
    with_reducible refine xm_go_blk b_X12_run_15 k_X12_run_15 ?_
    refine by_aload_n rfl ?_
    refine by_getf cn_290 fl_12_378 (by first | exact rfl | assumption) (by decide) ?_
    simp (disch := first | exact Nat.ne_of_beq_eq_false rfl | exact rfl | omega) only [nI_add, xa_sub, xa_mul, pk_div, nm_mod, xa_shr, xa_and7, xa_and1, xa_and255, xa_by_and, nI_m1, Nat.add_sub_cancel, Nat.reducePow, Nat.zero_add, Nat.add_zero, Nat.reduceAdd, Nat.reduceMul, Nat.reduceSub, xf_same, xq_ff, xq_fo, xf_1, xf_2, xs_1, xs_2, xs_same, xq_so, xj_1, xj_2, xj_same, xq_jo, xq_sa1, xq_same, xq_other, upd_s, oI_n, oI_s, hct]
    refine by_if_ne 26 rfl ?_
    simp (disch := first | exact Nat.ne_of_beq_eq_false rfl | exact rfl | omega) only [nI_add, xa_sub, xa_mul, pk_div, nm_mod, xa_shr, xa_and7, xa_and1, xa_and255, xa_by_and, nI_m1, Nat.add_sub_cancel, Nat.reducePow, Nat.zero_add, Nat.add_zero, Nat.reduceAdd, Nat.reduceMul, Nat.reduceSub, xf_same, xq_ff, xq_fo, xf_1, xf_2, xs_1, xs_2, xs_same, xq_so, xj_1, xj_2, xj_same, xq_jo, xq_sa1, xq_same, xq_other, upd_s, oI_n, oI_s, xv_0, xv_1, xv_2, xv_3, xm_p1, xm_p2, xq_fp, xq_fn, List.filter_nil, Nat.reduceBEq, Bool.not_true, Bool.not_false, Bool.and_true, Bool.and_false, Bool.false_and, Bool.true_and, if_true, if_false, Bool.false_eq_true, reduceIte, xc_i, xc_j, xc_r, xc_n, List.nil_append, List.cons_append, Option.toList_some, Option.toList_none, nI_ltJ, nI_leJ, nI_eqJ, nI_ltz, nI_gez, nI_gtz, nI_lez, nI_eqz, m1_ltz, m1_gez, true_imp_iff, false_imp_iff, true_and, and_true, ne_eq, not_false_eq_true, not_true_eq_false, Nat.reduceEqDiff, Nat.reduceLT, Nat.reduceLeDiff, hct]
    with_reducible refine xm_go_blk b_X12_run_26 k_X12_run_26 ?_
    refine by_iconst ci_0 ?_
    refine by_nil ?_
    with_reducible refine xm_go_blk b_X12_run_27 k_X12_run_27 ?_
    refine by_putf cn_290 fl_12_205 (by first | exact rfl | assumption) (by decide) nf_12_0 ft_12_0 (by first | rfl | assumption) (by first | rfl | assumption) ?_
    refine by_aload_n rfl ?_
    refine by_getf cn_290 fl_12_205 (by first | exact rfl | assumption) (by decide) ?_
    simp (disch := first | exact Nat.ne_of_beq_eq_false rfl | exact rfl | omega) only [nI_add, xa_sub, xa_mul, pk_div, nm_mod, xa_shr, xa_and7, xa_and1, xa_and255, xa_by_and, nI_m1, Nat.add_sub_cancel, Nat.reducePow, Nat.zero_add, Nat.add_zero, Nat.reduceAdd, Nat.reduceMul, Nat.reduceSub, xf_same, xq_ff, xq_fo, xf_1, xf_2, xs_1, xs_2, xs_same, xq_so, xj_1, xj_2, xj_same, xq_jo, xq_sa1, xq_same, xq_other, upd_s, oI_n, oI_s, hct]
    refine by_if_le 39 rfl ?_
    simp (disch := first | exact Nat.ne_of_beq_eq_false rfl | exact rfl | omega) only [nI_add, xa_sub, xa_mul, pk_div, nm_mod, xa_shr, xa_and7, xa_and1, xa_and255, xa_by_and, nI_m1, Nat.add_sub_cancel, Nat.reducePow, Nat.zero_add, Nat.add_zero, Nat.reduceAdd, Nat.reduceMul, Nat.reduceSub, xf_same, xq_ff, xq_fo, xf_1, xf_2, xs_1, xs_2, xs_same, xq_so, xj_1, xj_2, xj_same, xq_jo, xq_sa1, xq_same, xq_other, upd_s, oI_n, oI_s, xv_0, xv_1, xv_2, xv_3, xm_p1, xm_p2, xq_fp, xq_fn, List.filter_nil, Nat.reduceBEq, Bool.not_true, Bool.not_false, Bool.and_true, Bool.and_false, Bool.false_and, Bool.true_and, if_true, if_false, Bool.false_eq_true, reduceIte, xc_i, xc_j, xc_r, xc_n, List.nil_append, List.cons_append, Option.toList_some, Option.toList_none, nI_ltJ, nI_leJ, nI_eqJ, nI_ltz, nI_gez, nI_gtz, nI_lez, nI_eqz, m1_ltz, m1_gez, true_imp_iff, false_imp_iff, true_and, and_true, ne_eq, not_false_eq_true, not_true_eq_false, Nat.reduceEqDiff, Nat.reduceLT, Nat.reduceLeDiff, hct]
    with_reducible refine xm_go_blk b_X12_run_39 k_X12_run_39 ?_
    refine by_aload_n rfl ?_
    refine by_getf cn_290 fl_12_378 (by first | exact rfl | assumption) (by decide) ?_
    refine by_iconst ci_1 ?_
    simp (disch := first | exact Nat.ne_of_beq_eq_false rfl | exact rfl | omega) only [nI_add, xa_sub, xa_mul, pk_div, nm_mod, xa_shr, xa_and7, xa_and1, xa_and255, xa_by_and, nI_m1, Nat.add_sub_cancel, Nat.reducePow, Nat.zero_add, Nat.add_zero, Nat.reduceAdd, Nat.reduceMul, Nat.reduceSub, xf_same, xq_ff, xq_fo, xf_1, xf_2, xs_1, xs_2, xs_same, xq_so, xj_1, xj_2, xj_same, xq_jo, xq_sa1, xq_same, xq_other, upd_s, oI_n, oI_s, hct]
    refine by_isub ?_
    refine by_istore (by rw [ml_290]; decide) ?_
    refine by_aload_n rfl ?_
    refine by_iload rfl ?_
    simp (disch := first | exact Nat.ne_of_beq_eq_false rfl | exact rfl | omega) only [nI_add, xa_sub, xa_mul, pk_div, nm_mod, xa_shr, xa_and7, xa_and1, xa_and255, xa_by_and, nI_m1, Nat.add_sub_cancel, Nat.reducePow, Nat.zero_add, Nat.add_zero, Nat.reduceAdd, Nat.reduceMul, Nat.reduceSub, xf_same, xq_ff, xq_fo, xf_1, xf_2, xs_1, xs_2, xs_same, xq_so, xj_1, xj_2, xj_same, xq_jo, xq_sa1, xq_same, xq_other, upd_s, oI_n, oI_s, xv_0, xv_1, xv_2, xv_3, xm_p1, xm_p2, xq_fp, xq_fn, List.filter_nil, Nat.reduceBEq, Bool.not_true, Bool.not_false, Bool.and_true, Bool.and_false, Bool.false_and, Bool.true_and, if_true, if_false, Bool.false_eq_true, reduceIte, xc_i, xc_j, xc_r, xc_n, List.nil_append, List.cons_append, Option.toList_some, Option.toList_none, hct]
    refine by_inv1 cn_290 lk_12_403 (by rw [xe_cnt]; decide) is_295 np_295 cn_295 (by first | exact rfl | assumption) (Nat.le_of_ble_eq_true rfl) ?_
    generalize xm_sf h 102 0 (.int (nI 0)) = g1 at *
    refine sp_msw F1 P1 hn ?_
    rw [w0]
    with_reducible refine xm_go_blk b_X12_run_53 k_X12_run_53 ?_
    refine by_istore (by rw [ml_290]; decide) ?_
    refine by_aload_n rfl ?_
    refine by_iload rfl ?_
    simp (disch := first | exact Nat.ne_of_beq_eq_false rfl | exact rfl | omega) only [nI_add, xa_sub, xa_mul, pk_div, nm_mod, xa_shr, xa_and7, xa_and1, xa_and255, xa_by_and, nI_m1, Nat.add_sub_cancel, Nat.reducePow, Nat.zero_add, Nat.add_zero, Nat.reduceAdd, Nat.reduceMul, Nat.reduceSub, xf_same, xq_ff, xq_fo, xf_1, xf_2, xs_1, xs_2, xs_same, xq_so, xj_1, xj_2, xj_same, xq_jo, xq_sa1, xq_same, xq_other, upd_s, oI_n, oI_s, xv_0, xv_1, xv_2, xv_3, xm_p1, xm_p2, xq_fp, xq_fn, List.filter_nil, Nat.reduceBEq, Bool.not_true, Bool.not_false, Bool.and_true, Bool.and_false, Bool.false_and, Bool.true_and, if_true, if_false, Bool.false_eq_true, reduceIte, xc_i, xc_j, xc_r, xc_n, List.nil_append, List.cons_append, Option.toList_some, Option.toList_none]
    refine by_inv1 cn_290 lk_12_400 (by rw [xe_cnt]; decide) is_306 np_306 cn_306 (by first | exact rfl | assumption) (Nat.le_of_ble_eq_true rfl) ?_
    refine sp_mtw F1 P1 hn ?_
    rw [w1]
    with_reducible refine xm_go_blk b_X12_run_61 k_X12_run_61 ?_
    refine by_istore (by rw [ml_290]; decide) ?_
    refine by_aload_n rfl ?_
    refine by_aload_n rfl ?_
    refine by_getf cn_290 fl_12_69 (by first | exact rfl | assumption) (by decide) ?_
    refine by_iload rfl ?_
    simp (disch := first | exact Nat.ne_of_beq_eq_false rfl | exact rfl | omega) only [nI_add, xa_sub, xa_mul, pk_div, nm_mod, xa_shr, xa_and7, xa_and1, xa_and255, xa_by_and, nI_m1, Nat.add_sub_cancel, Nat.reducePow, Nat.zero_add, Nat.add_zero, Nat.reduceAdd, Nat.reduceMul, Nat.reduceSub, xf_same, xq_ff, xq_fo, xf_1, xf_2, xs_1, xs_2, xs_same, xq_so, xj_1, xj_2, xj_same, xq_jo, xq_sa1, xq_same, xq_other, upd_s, oI_n, oI_s, xf_102_25 F1, x2]
    first | refine by_iald (by first | exact rfl | assumption | exact ps_1 hpp | exact ps_2 hpp | exact ps_3 hpp | exact ps_4 hpp | exact ps_5 hpp | exact ps_6 hpp | exact ps_7 hpp | exact ps_8 hpp | exact ps_9 hpp | exact ps_10 hpp | exact ps_11 hpp | exact ps_15 hpp | exact ps_16 hpp | exact ps_17 hpp | exact ps_18 hpp | exact ps_19 hpp | exact ps_21 hpp | exact ps_22 hpp | exact ps_23 hpp | exact ps_24 hpp) ⟨by omega, by omega⟩ ?_ | refine by_tald rfl rfl ⟨by omega, by omega⟩ ?_
    simp (disch := first | exact Nat.ne_of_beq_eq_false rfl | exact rfl | omega) only [nI_add, xa_sub, xa_mul, pk_div, nm_mod, xa_shr, xa_and7, xa_and1, xa_and255, xa_by_and, nI_m1, Nat.add_sub_cancel, Nat.reducePow, Nat.zero_add, Nat.add_zero, Nat.reduceAdd, Nat.reduceMul, Nat.reduceSub, xf_same, xq_ff, xq_fo, xf_1, xf_2, xs_1, xs_2, xs_same, xq_so, xj_1, xj_2, xj_same, xq_jo, xq_sa1, xq_same, xq_other, upd_s, oI_n, oI_s, xv_0, xv_1, xv_2, xv_3, xm_p1, xm_p2, xq_fp, xq_fn, List.filter_nil, Nat.reduceBEq, Bool.not_true, Bool.not_false, Bool.and_true, Bool.and_false, Bool.false_and, Bool.true_and, if_true, if_false, Bool.false_eq_true, reduceIte, xc_i, xc_j, xc_r, xc_n, List.nil_append, List.cons_append, Option.toList_some, Option.toList_none, xf_102_25 F1, x2]
    refine by_inv1 cn_290 lk_12_532 (by rw [xe_cnt]; decide) is_304 np_304 cn_304 (by first | exact rfl | assumption) (Nat.le_of_ble_eq_true rfl) ?_
    refine sp_takesValue F1 hY x1 l1 t1 (by rw [x3]; exact hws) (fun h2 hv f2 u2 bt2 => ?_) (fun h2 hv f2 u2 => ?_)
    rotate_left
    · rw [x3] at hv
      have f02 : Fr msR msT h h2 := Fr_tr f1 f2 (by simp [tvR, msR]) (by simp [msT])
      with_reducible refine xm_go_blk b_X12_run_74 k_X12_run_74 ?_
      refine by_if_ne 80 rfl ?_
      simp (disch := first | exact Nat.ne_of_beq_eq_false rfl | exact rfl | omega) only [nI_add, xa_sub, xa_mul, pk_div, nm_mod, xa_shr, xa_and7, xa_and1, xa_and255, xa_by_and, nI_m1, Nat.add_sub_cancel, Nat.reducePow, Nat.zero_add, Nat.add_zero, Nat.reduceAdd, Nat.reduceMul, Nat.reduceSub, xf_same, xq_ff, xq_fo, xf_1, xf_2, xs_1, xs_2, xs_same, xq_so, xj_1, xj_2, xj_same, xq_jo, xq_sa1, xq_same, xq_other, upd_s, oI_n, oI_s, xv_0, xv_1, xv_2, xv_3, xm_p1, xm_p2, xq_fp, xq_fn, List.filter_nil, Nat.reduceBEq, Bool.not_true, Bool.not_false, Bool.and_true, Bool.and_false, Bool.false_and, Bool.true_and, if_true, if_false, Bool.false_eq_true, reduceIte, xc_i, xc_j, xc_r, xc_n, List.nil_append, List.cons_append, Option.toList_some, Option.toList_none, nI_ltJ, nI_leJ, nI_eqJ, nI_ltz, nI_gez, nI_gtz, nI_lez, nI_eqz, m1_ltz, m1_gez, true_imp_iff, false_imp_iff, true_and, and_true, ne_eq, not_false_eq_true, not_true_eq_false, Nat.reduceEqDiff, Nat.reduceLT, Nat.reduceLeDiff]
      with_reducible refine xm_go_blk b_X12_run_77 k_X12_run_77 ?_
      refine by_bipush cb_m4 ?_
      refine by_iret ry_290 (by first | rfl | assumption) ?_
      exact p4' hv h2 (Fr_XF hF f02 msT_fin) f02 (by rw [f2.2.2 _ _ (by simp)]; exact z1) u2
    rw [x3] at hv bt2
    have f02 : Fr msR msT h h2 := Fr_tr f1 f2 (by simp [tvR, msR]) (by simp [msT])
    have F2 := Fr_XF hF f02 msT_fin
    have P2 := mPg_f2 hP (ms_mr f02)
    have z2 : h2.2.2 102 0 = .int (nI 0) := by rw [f2.2.2 _ _ (by simp)]; exact z1
    have hct2 : h2.2.2 102 19 = .int (nI (n + 1)) := by rw [f2.2.2 _ _ (by simp)]; exact hct1
    have vB : h2.2.1 127 n = lN (B n) := by rw [f02.2.1 _ (by simp [msR])]; exact v3
    have vC : h2.2.1 125 n = lN (C n) := by rw [f02.2.1 _ (by simp [msR])]; exact v1
    have i2s : (nI s).toInt64 = lN s := i2l_n hs
    have i2k : (nI k).toInt64 = lN k := i2l_n hk
    have lg1 := lcmp_gt (a := B n) (b := s) (by omega) (by omega)
    have lg2 := lcmp_gt (a := B n) (b := 1000000) (by omega) (by omega)
    by_cases e1 : s < B n
    · with_reducible refine xm_go_blk b_X12_run_74 k_X12_run_74 ?_
      refine by_if_ne 80 rfl ?_
      simp (disch := first | exact Nat.ne_of_beq_eq_false rfl | exact rfl | omega) only [nI_add, xa_sub, xa_mul, pk_div, nm_mod, xa_shr, xa_and7, xa_and1, xa_and255, xa_by_and, nI_m1, Nat.add_sub_cancel, Nat.reducePow, Nat.zero_add, Nat.add_zero, Nat.reduceAdd, Nat.reduceMul, Nat.reduceSub, xf_same, xq_ff, xq_fo, xf_1, xf_2, xs_1, xs_2, xs_same, xq_so, xj_1, xj_2, xj_same, xq_jo, xq_sa1, xq_same, xq_other, upd_s, oI_n, oI_s, xv_0, xv_1, xv_2, xv_3, xm_p1, xm_p2, xq_fp, xq_fn, List.filter_nil, Nat.reduceBEq, Bool.not_true, Bool.not_false, Bool.and_true, Bool.and_false, Bool.false_and, Bool.true_and, if_true, if_false, Bool.false_eq_true, reduceIte, xc_i, xc_j, xc_r, xc_n, List.nil_append, List.cons_append, Option.toList_some, Option.toList_none, nI_ltJ, nI_leJ, nI_eqJ, nI_ltz, nI_gez, nI_gtz, nI_lez, nI_eqz, m1_ltz, m1_gez, true_imp_iff, false_imp_iff, true_and, and_true, ne_eq, not_false_eq_true, not_true_eq_false, Nat.reduceEqDiff, Nat.reduceLT, Nat.reduceLeDiff, xf_102_30 F2, vB, i2s, lg1]
      with_reducible refine xm_go_blk b_X12_run_80 k_X12_run_80 ?_
      refine by_aload_n rfl ?_
      refine by_getf cn_290 fl_12_85 (by first | exact rfl | assumption) (by decide) ?_
      refine by_iload rfl ?_
      simp (disch := first | exact Nat.ne_of_beq_eq_false rfl | exact rfl | omega) only [nI_add, xa_sub, xa_mul, pk_div, nm_mod, xa_shr, xa_and7, xa_and1, xa_and255, xa_by_and, nI_m1, Nat.add_sub_cancel, Nat.reducePow, Nat.zero_add, Nat.add_zero, Nat.reduceAdd, Nat.reduceMul, Nat.reduceSub, xf_same, xq_ff, xq_fo, xf_1, xf_2, xs_1, xs_2, xs_same, xq_so, xj_1, xj_2, xj_same, xq_jo, xq_sa1, xq_same, xq_other, upd_s, oI_n, oI_s, xf_102_30 F2, vB, i2s, lg1]
      first | refine by_lald (by first | exact rfl | assumption) ⟨by omega, by omega⟩ ?_ | refine by_tlald rfl rfl ⟨by omega, by omega⟩ ?_
      refine by_iload_n rfl ?_
      refine by_i2l ?_
      refine by_lcmp ?_
      refine by_if_gt 117 rfl ?_
      simp (disch := first | exact Nat.ne_of_beq_eq_false rfl | exact rfl | omega) only [nI_add, xa_sub, xa_mul, pk_div, nm_mod, xa_shr, xa_and7, xa_and1, xa_and255, xa_by_and, nI_m1, Nat.add_sub_cancel, Nat.reducePow, Nat.zero_add, Nat.add_zero, Nat.reduceAdd, Nat.reduceMul, Nat.reduceSub, xf_same, xq_ff, xq_fo, xf_1, xf_2, xs_1, xs_2, xs_same, xq_so, xj_1, xj_2, xj_same, xq_jo, xq_sa1, xq_same, xq_other, upd_s, oI_n, oI_s, xv_0, xv_1, xv_2, xv_3, xm_p1, xm_p2, xq_fp, xq_fn, List.filter_nil, Nat.reduceBEq, Bool.not_true, Bool.not_false, Bool.and_true, Bool.and_false, Bool.false_and, Bool.true_and, if_true, if_false, Bool.false_eq_true, reduceIte, xc_i, xc_j, xc_r, xc_n, List.nil_append, List.cons_append, Option.toList_some, Option.toList_none, nI_ltJ, nI_leJ, nI_eqJ, nI_ltz, nI_gez, nI_gtz, nI_lez, nI_eqz, m1_ltz, m1_gez, true_imp_iff, false_imp_iff, true_and, and_true, ne_eq, not_false_eq_true, not_true_eq_false, Nat.reduceEqDiff, Nat.reduceLT, Nat.reduceLeDiff, xf_102_30 F2, vB, i2s, lg1]
      refine ⟨fun c80 => ?_, fun c => absurd (by omega) c⟩
      with_reducible refine xm_go_blk b_X12_run_117 k_X12_run_117 ?_
      refine by_bipush cb_m2 ?_
      refine by_iret ry_290 (by first | rfl | assumption) ?_
      exact p2' hv (Or.inl e1) h2 F2 f02 z2 u2
    by_cases e2 : 1000000 < B n
    · with_reducible refine xm_go_blk b_X12_run_74 k_X12_run_74 ?_
      refine by_if_ne 80 rfl ?_
      simp (disch := first | exact Nat.ne_of_beq_eq_false rfl | exact rfl | omega) only [nI_add, xa_sub, xa_mul, pk_div, nm_mod, xa_shr, xa_and7, xa_and1, xa_and255, xa_by_and, nI_m1, Nat.add_sub_cancel, Nat.reducePow, Nat.zero_add, Nat.add_zero, Nat.reduceAdd, Nat.reduceMul, Nat.reduceSub, xf_same, xq_ff, xq_fo, xf_1, xf_2, xs_1, xs_2, xs_same, xq_so, xj_1, xj_2, xj_same, xq_jo, xq_sa1, xq_same, xq_other, upd_s, oI_n, oI_s, xv_0, xv_1, xv_2, xv_3, xm_p1, xm_p2, xq_fp, xq_fn, List.filter_nil, Nat.reduceBEq, Bool.not_true, Bool.not_false, Bool.and_true, Bool.and_false, Bool.false_and, Bool.true_and, if_true, if_false, Bool.false_eq_true, reduceIte, xc_i, xc_j, xc_r, xc_n, List.nil_append, List.cons_append, Option.toList_some, Option.toList_none, nI_ltJ, nI_leJ, nI_eqJ, nI_ltz, nI_gez, nI_gtz, nI_lez, nI_eqz, m1_ltz, m1_gez, true_imp_iff, false_imp_iff, true_and, and_true, ne_eq, not_false_eq_true, not_true_eq_false, Nat.reduceEqDiff, Nat.reduceLT, Nat.reduceLeDiff, xf_102_30 F2, vB, i2s, lg1, lg2]
      with_reducible refine xm_go_blk b_X12_run_80 k_X12_run_80 ?_
      refine by_aload_n rfl ?_
      refine by_getf cn_290 fl_12_85 (by first | exact rfl | assumption) (by decide) ?_
      refine by_iload rfl ?_
      simp (disch := first | exact Nat.ne_of_beq_eq_false rfl | exact rfl | omega) only [nI_add, xa_sub, xa_mul, pk_div, nm_mod, xa_shr, xa_and7, xa_and1, xa_and255, xa_by_and, nI_m1, Nat.add_sub_cancel, Nat.reducePow, Nat.zero_add, Nat.add_zero, Nat.reduceAdd, Nat.reduceMul, Nat.reduceSub, xf_same, xq_ff, xq_fo, xf_1, xf_2, xs_1, xs_2, xs_same, xq_so, xj_1, xj_2, xj_same, xq_jo, xq_sa1, xq_same, xq_other, upd_s, oI_n, oI_s, xf_102_30 F2, vB, i2s, lg1, lg2]
      first | refine by_lald (by first | exact rfl | assumption) ⟨by omega, by omega⟩ ?_ | refine by_tlald rfl rfl ⟨by omega, by omega⟩ ?_
      refine by_iload_n rfl ?_
      refine by_i2l ?_
      refine by_lcmp ?_
      refine by_if_gt 117 rfl ?_
      simp (disch := first | exact Nat.ne_of_beq_eq_false rfl | exact rfl | omega) only [nI_add, xa_sub, xa_mul, pk_div, nm_mod, xa_shr, xa_and7, xa_and1, xa_and255, xa_by_and, nI_m1, Nat.add_sub_cancel, Nat.reducePow, Nat.zero_add, Nat.add_zero, Nat.reduceAdd, Nat.reduceMul, Nat.reduceSub, xf_same, xq_ff, xq_fo, xf_1, xf_2, xs_1, xs_2, xs_same, xq_so, xj_1, xj_2, xj_same, xq_jo, xq_sa1, xq_same, xq_other, upd_s, oI_n, oI_s, xv_0, xv_1, xv_2, xv_3, xm_p1, xm_p2, xq_fp, xq_fn, List.filter_nil, Nat.reduceBEq, Bool.not_true, Bool.not_false, Bool.and_true, Bool.and_false, Bool.false_and, Bool.true_and, if_true, if_false, Bool.false_eq_true, reduceIte, xc_i, xc_j, xc_r, xc_n, List.nil_append, List.cons_append, Option.toList_some, Option.toList_none, nI_ltJ, nI_leJ, nI_eqJ, nI_ltz, nI_gez, nI_gtz, nI_lez, nI_eqz, m1_ltz, m1_gez, true_imp_iff, false_imp_iff, true_and, and_true, ne_eq, not_false_eq_true, not_true_eq_false, Nat.reduceEqDiff, Nat.reduceLT, Nat.reduceLeDiff, xf_102_30 F2, vB, i2s, lg1, lg2]
      refine ⟨fun c => absurd c (by omega), fun c80 => ?_⟩
      with_reducible refine xm_go_blk b_X12_run_93 k_X12_run_93 ?_
      refine by_aload_n rfl ?_
      refine by_getf cn_290 fl_12_85 (by first | exact rfl | assumption) (by decide) ?_
      refine by_iload rfl ?_
      simp (disch := first | exact Nat.ne_of_beq_eq_false rfl | exact rfl | omega) only [nI_add, xa_sub, xa_mul, pk_div, nm_mod, xa_shr, xa_and7, xa_and1, xa_and255, xa_by_and, nI_m1, Nat.add_sub_cancel, Nat.reducePow, Nat.zero_add, Nat.add_zero, Nat.reduceAdd, Nat.reduceMul, Nat.reduceSub, xf_same, xq_ff, xq_fo, xf_1, xf_2, xs_1, xs_2, xs_same, xq_so, xj_1, xj_2, xj_same, xq_jo, xq_sa1, xq_same, xq_other, upd_s, oI_n, oI_s, xf_102_30 F2, vB, i2s, lg1, lg2]
      first | refine by_lald (by first | exact rfl | assumption) ⟨by omega, by omega⟩ ?_ | refine by_tlald rfl rfl ⟨by omega, by omega⟩ ?_
      refine by_ldc2 (x := lN 1000000) cn_290 kl_12_535 (by decide) ?_
      refine by_lcmp ?_
      refine by_if_gt 117 rfl ?_
      simp (disch := first | exact Nat.ne_of_beq_eq_false rfl | exact rfl | omega) only [nI_add, xa_sub, xa_mul, pk_div, nm_mod, xa_shr, xa_and7, xa_and1, xa_and255, xa_by_and, nI_m1, Nat.add_sub_cancel, Nat.reducePow, Nat.zero_add, Nat.add_zero, Nat.reduceAdd, Nat.reduceMul, Nat.reduceSub, xf_same, xq_ff, xq_fo, xf_1, xf_2, xs_1, xs_2, xs_same, xq_so, xj_1, xj_2, xj_same, xq_jo, xq_sa1, xq_same, xq_other, upd_s, oI_n, oI_s, xv_0, xv_1, xv_2, xv_3, xm_p1, xm_p2, xq_fp, xq_fn, List.filter_nil, Nat.reduceBEq, Bool.not_true, Bool.not_false, Bool.and_true, Bool.and_false, Bool.false_and, Bool.true_and, if_true, if_false, Bool.false_eq_true, reduceIte, xc_i, xc_j, xc_r, xc_n, List.nil_append, List.cons_append, Option.toList_some, Option.toList_none, nI_ltJ, nI_leJ, nI_eqJ, nI_ltz, nI_gez, nI_gtz, nI_lez, nI_eqz, m1_ltz, m1_gez, true_imp_iff, false_imp_iff, true_and, and_true, ne_eq, not_false_eq_true, not_true_eq_false, Nat.reduceEqDiff, Nat.reduceLT, Nat.reduceLeDiff, xf_102_30 F2, vB, i2s, lg1, lg2]
      refine ⟨fun c93 => ?_, fun c => absurd (by omega) c⟩
      with_reducible refine xm_go_blk b_X12_run_117 k_X12_run_117 ?_
      refine by_bipush cb_m2 ?_
      refine by_iret ry_290 (by first | rfl | assumption) ?_
      exact p2' hv (Or.inr (Or.inl e2)) h2 F2 f02 z2 u2
    have i2S : (nI (ty_w (S n))).toInt64 = lN (ty_w (S n)) := i2l_n (by omega)
    have i2T : (nI (ty_w (T n))).toInt64 = lN (ty_w (T n)) := i2l_n (by omega)
    with_reducible refine xm_go_blk b_X12_run_74 k_X12_run_74 ?_
    refine by_if_ne 80 rfl ?_
    simp (disch := first | exact Nat.ne_of_beq_eq_false rfl | exact rfl | omega) only [nI_add, xa_sub, xa_mul, pk_div, nm_mod, xa_shr, xa_and7, xa_and1, xa_and255, xa_by_and, nI_m1, Nat.add_sub_cancel, Nat.reducePow, Nat.zero_add, Nat.add_zero, Nat.reduceAdd, Nat.reduceMul, Nat.reduceSub, xf_same, xq_ff, xq_fo, xf_1, xf_2, xs_1, xs_2, xs_same, xq_so, xj_1, xj_2, xj_same, xq_jo, xq_sa1, xq_same, xq_other, upd_s, oI_n, oI_s, xv_0, xv_1, xv_2, xv_3, xm_p1, xm_p2, xq_fp, xq_fn, List.filter_nil, Nat.reduceBEq, Bool.not_true, Bool.not_false, Bool.and_true, Bool.and_false, Bool.false_and, Bool.true_and, if_true, if_false, Bool.false_eq_true, reduceIte, xc_i, xc_j, xc_r, xc_n, List.nil_append, List.cons_append, Option.toList_some, Option.toList_none, nI_ltJ, nI_leJ, nI_eqJ, nI_ltz, nI_gez, nI_gtz, nI_lez, nI_eqz, m1_ltz, m1_gez, true_imp_iff, false_imp_iff, true_and, and_true, ne_eq, not_false_eq_true, not_true_eq_false, Nat.reduceEqDiff, Nat.reduceLT, Nat.reduceLeDiff, xf_102_30 F2, vB, i2s, lg1, lg2, hct2, xf_102_28 F2, vC]
    with_reducible refine xm_go_blk b_X12_run_80 k_X12_run_80 ?_
    refine by_aload_n rfl ?_
    refine by_getf cn_290 fl_12_85 (by first | exact rfl | assumption) (by decide) ?_
    refine by_iload rfl ?_
    simp (disch := first | exact Nat.ne_of_beq_eq_false rfl | exact rfl | omega) only [nI_add, xa_sub, xa_mul, pk_div, nm_mod, xa_shr, xa_and7, xa_and1, xa_and255, xa_by_and, nI_m1, Nat.add_sub_cancel, Nat.reducePow, Nat.zero_add, Nat.add_zero, Nat.reduceAdd, Nat.reduceMul, Nat.reduceSub, xf_same, xq_ff, xq_fo, xf_1, xf_2, xs_1, xs_2, xs_same, xq_so, xj_1, xj_2, xj_same, xq_jo, xq_sa1, xq_same, xq_other, upd_s, oI_n, oI_s, xf_102_30 F2, vB, i2s, lg1, lg2, hct2, xf_102_28 F2, vC]
    first | refine by_lald (by first | exact rfl | assumption) ⟨by omega, by omega⟩ ?_ | refine by_tlald rfl rfl ⟨by omega, by omega⟩ ?_
    refine by_iload_n rfl ?_
    refine by_i2l ?_
    refine by_lcmp ?_
    refine by_if_gt 117 rfl ?_
    simp (disch := first | exact Nat.ne_of_beq_eq_false rfl | exact rfl | omega) only [nI_add, xa_sub, xa_mul, pk_div, nm_mod, xa_shr, xa_and7, xa_and1, xa_and255, xa_by_and, nI_m1, Nat.add_sub_cancel, Nat.reducePow, Nat.zero_add, Nat.add_zero, Nat.reduceAdd, Nat.reduceMul, Nat.reduceSub, xf_same, xq_ff, xq_fo, xf_1, xf_2, xs_1, xs_2, xs_same, xq_so, xj_1, xj_2, xj_same, xq_jo, xq_sa1, xq_same, xq_other, upd_s, oI_n, oI_s, xv_0, xv_1, xv_2, xv_3, xm_p1, xm_p2, xq_fp, xq_fn, List.filter_nil, Nat.reduceBEq, Bool.not_true, Bool.not_false, Bool.and_true, Bool.and_false, Bool.false_and, Bool.true_and, if_true, if_false, Bool.false_eq_true, reduceIte, xc_i, xc_j, xc_r, xc_n, List.nil_append, List.cons_append, Option.toList_some, Option.toList_none, nI_ltJ, nI_leJ, nI_eqJ, nI_ltz, nI_gez, nI_gtz, nI_lez, nI_eqz, m1_ltz, m1_gez, true_imp_iff, false_imp_iff, true_and, and_true, ne_eq, not_false_eq_true, not_true_eq_false, Nat.reduceEqDiff, Nat.reduceLT, Nat.reduceLeDiff, xf_102_30 F2, vB, i2s, lg1, lg2, hct2, xf_102_28 F2, vC]
    refine ⟨fun c => absurd c (by omega), fun c80 => ?_⟩
    with_reducible refine xm_go_blk b_X12_run_93 k_X12_run_93 ?_
    refine by_aload_n rfl ?_
    refine by_getf cn_290 fl_12_85 (by first | exact rfl | assumption) (by decide) ?_
    refine by_iload rfl ?_
    simp (disch := first | exact Nat.ne_of_beq_eq_false rfl | exact rfl | omega) only [nI_add, xa_sub, xa_mul, pk_div, nm_mod, xa_shr, xa_and7, xa_and1, xa_and255, xa_by_and, nI_m1, Nat.add_sub_cancel, Nat.reducePow, Nat.zero_add, Nat.add_zero, Nat.reduceAdd, Nat.reduceMul, Nat.reduceSub, xf_same, xq_ff, xq_fo, xf_1, xf_2, xs_1, xs_2, xs_same, xq_so, xj_1, xj_2, xj_same, xq_jo, xq_sa1, xq_same, xq_other, upd_s, oI_n, oI_s, xf_102_30 F2, vB, i2s, lg1, lg2, hct2, xf_102_28 F2, vC]
    first | refine by_lald (by first | exact rfl | assumption) ⟨by omega, by omega⟩ ?_ | refine by_tlald rfl rfl ⟨by omega, by omega⟩ ?_
    refine by_ldc2 (x := lN 1000000) cn_290 kl_12_535 (by decide) ?_
    refine by_lcmp ?_
    refine by_if_gt 117 rfl ?_
    simp (disch := first | exact Nat.ne_of_beq_eq_false rfl | exact rfl | omega) only [nI_add, xa_sub, xa_mul, pk_div, nm_mod, xa_shr, xa_and7, xa_and1, xa_and255, xa_by_and, nI_m1, Nat.add_sub_cancel, Nat.reducePow, Nat.zero_add, Nat.add_zero, Nat.reduceAdd, Nat.reduceMul, Nat.reduceSub, xf_same, xq_ff, xq_fo, xf_1, xf_2, xs_1, xs_2, xs_same, xq_so, xj_1, xj_2, xj_same, xq_jo, xq_sa1, xq_same, xq_other, upd_s, oI_n, oI_s, xv_0, xv_1, xv_2, xv_3, xm_p1, xm_p2, xq_fp, xq_fn, List.filter_nil, Nat.reduceBEq, Bool.not_true, Bool.not_false, Bool.and_true, Bool.and_false, Bool.false_and, Bool.true_and, if_true, if_false, Bool.false_eq_true, reduceIte, xc_i, xc_j, xc_r, xc_n, List.nil_append, List.cons_append, Option.toList_some, Option.toList_none, nI_ltJ, nI_leJ, nI_eqJ, nI_ltz, nI_gez, nI_gtz, nI_lez, nI_eqz, m1_ltz, m1_gez, true_imp_iff, false_imp_iff, true_and, and_true, ne_eq, not_false_eq_true, not_true_eq_false, Nat.reduceEqDiff, Nat.reduceLT, Nat.reduceLeDiff, xf_102_30 F2, vB, i2s, lg1, lg2, hct2, xf_102_28 F2, vC]
    refine ⟨fun c => absurd c (by omega), fun c93 => ?_⟩
    with_reducible refine xm_go_blk b_X12_run_107 k_X12_run_107 ?_
    refine by_aload_n rfl ?_
    refine by_inv0 cn_290 lk_12_537 (by rw [xe_cnt]; decide) is_278 np_278 cn_278 (by first | exact rfl | assumption) (Nat.le_of_ble_eq_true rfl) ?_
    refine xq_in rfl ?_
    simp only [xq_a0, xq_aI, xq_aJ, xq_aR, Nat.reduceAdd]
    with_reducible refine xm_go_blk b_X12_programCells_0 k_X12_programCells_0 ?_
    refine by_aload_n rfl ?_
    refine by_getf cn_278 fl_12_78 (by first | exact rfl | assumption) (by decide) ?_
    refine by_aload_n rfl ?_
    refine by_getf cn_278 fl_12_378 (by first | exact rfl | assumption) (by decide) ?_
    refine by_iconst ci_1 ?_
    simp (disch := first | exact Nat.ne_of_beq_eq_false rfl | exact rfl | omega) only [nI_add, xa_sub, xa_mul, pk_div, nm_mod, xa_shr, xa_and7, xa_and1, xa_and255, xa_by_and, nI_m1, Nat.add_sub_cancel, Nat.reducePow, Nat.zero_add, Nat.add_zero, Nat.reduceAdd, Nat.reduceMul, Nat.reduceSub, xf_same, xq_ff, xq_fo, xf_1, xf_2, xs_1, xs_2, xs_same, xq_so, xj_1, xj_2, xj_same, xq_jo, xq_sa1, xq_same, xq_other, upd_s, oI_n, oI_s, xf_102_30 F2, vB, i2s, lg1, lg2, hct2, xf_102_28 F2, vC]
    refine by_isub ?_
    simp (disch := first | exact Nat.ne_of_beq_eq_false rfl | exact rfl | omega) only [nI_add, xa_sub, xa_mul, pk_div, nm_mod, xa_shr, xa_and7, xa_and1, xa_and255, xa_by_and, nI_m1, Nat.add_sub_cancel, Nat.reducePow, Nat.zero_add, Nat.add_zero, Nat.reduceAdd, Nat.reduceMul, Nat.reduceSub, xf_same, xq_ff, xq_fo, xf_1, xf_2, xs_1, xs_2, xs_same, xq_so, xj_1, xj_2, xj_same, xq_jo, xq_sa1, xq_same, xq_other, upd_s, oI_n, oI_s, xf_102_30 F2, vB, i2s, lg1, lg2, hct2, xf_102_28 F2, vC]
    first | refine by_lald (by first | exact rfl | assumption) ⟨by omega, by omega⟩ ?_ | refine by_tlald rfl rfl ⟨by omega, by omega⟩ ?_
    refine by_aload_n rfl ?_
    refine by_aload_n rfl ?_
    refine by_getf cn_278 fl_12_378 (by first | exact rfl | assumption) (by decide) ?_
    refine by_iconst ci_1 ?_
    simp (disch := first | exact Nat.ne_of_beq_eq_false rfl | exact rfl | omega) only [nI_add, xa_sub, xa_mul, pk_div, nm_mod, xa_shr, xa_and7, xa_and1, xa_and255, xa_by_and, nI_m1, Nat.add_sub_cancel, Nat.reducePow, Nat.zero_add, Nat.add_zero, Nat.reduceAdd, Nat.reduceMul, Nat.reduceSub, xf_same, xq_ff, xq_fo, xf_1, xf_2, xs_1, xs_2, xs_same, xq_so, xj_1, xj_2, xj_same, xq_jo, xq_sa1, xq_same, xq_other, upd_s, oI_n, oI_s, xf_102_30 F2, vB, i2s, lg1, lg2, hct2, xf_102_28 F2, vC]
    refine by_isub ?_
    simp (disch := first | exact Nat.ne_of_beq_eq_false rfl | exact rfl | omega) only [nI_add, xa_sub, xa_mul, pk_div, nm_mod, xa_shr, xa_and7, xa_and1, xa_and255, xa_by_and, nI_m1, Nat.add_sub_cancel, Nat.reducePow, Nat.zero_add, Nat.add_zero, Nat.reduceAdd, Nat.reduceMul, Nat.reduceSub, xf_same, xq_ff, xq_fo, xf_1, xf_2, xs_1, xs_2, xs_same, xq_so, xj_1, xj_2, xj_same, xq_jo, xq_sa1, xq_same, xq_other, upd_s, oI_n, oI_s, xv_0, xv_1, xv_2, xv_3, xm_p1, xm_p2, xq_fp, xq_fn, List.filter_nil, Nat.reduceBEq, Bool.not_true, Bool.not_false, Bool.and_true, Bool.and_false, Bool.false_and, Bool.true_and, if_true, if_false, Bool.false_eq_true, reduceIte, xc_i, xc_j, xc_r, xc_n, List.nil_append, List.cons_append, Option.toList_some, Option.toList_none, xf_102_30 F2, vB, i2s, lg1, lg2, hct2, xf_102_28 F2, vC]
    refine by_inv1 cn_278 lk_12_403 (by rw [xe_cnt]; decide) is_295 np_295 cn_295 (by first | exact rfl | assumption) (Nat.le_of_ble_eq_true rfl) ?_
    refine sp_msw F2 P2 hn ?_
    rw [w0]
    with_reducible refine xm_go_blk b_X12_programCells_21 k_X12_programCells_21 ?_
    refine by_i2l ?_
    refine by_ladd ?_
    refine by_aload_n rfl ?_
    refine by_aload_n rfl ?_
    refine by_getf cn_278 fl_12_378 (by first | exact rfl | assumption) (by decide) ?_
    refine by_iconst ci_1 ?_
    simp (disch := first | exact Nat.ne_of_beq_eq_false rfl | exact rfl | omega) only [nI_add, xa_sub, xa_mul, pk_div, nm_mod, xa_shr, xa_and7, xa_and1, xa_and255, xa_by_and, nI_m1, Nat.add_sub_cancel, Nat.reducePow, Nat.zero_add, Nat.add_zero, Nat.reduceAdd, Nat.reduceMul, Nat.reduceSub, xf_same, xq_ff, xq_fo, xf_1, xf_2, xs_1, xs_2, xs_same, xq_so, xj_1, xj_2, xj_same, xq_jo, xq_sa1, xq_same, xq_other, upd_s, oI_n, oI_s, hct2, i2S, lN_pl]
    refine by_isub ?_
    simp (disch := first | exact Nat.ne_of_beq_eq_false rfl | exact rfl | omega) only [nI_add, xa_sub, xa_mul, pk_div, nm_mod, xa_shr, xa_and7, xa_and1, xa_and255, xa_by_and, nI_m1, Nat.add_sub_cancel, Nat.reducePow, Nat.zero_add, Nat.add_zero, Nat.reduceAdd, Nat.reduceMul, Nat.reduceSub, xf_same, xq_ff, xq_fo, xf_1, xf_2, xs_1, xs_2, xs_same, xq_so, xj_1, xj_2, xj_same, xq_jo, xq_sa1, xq_same, xq_other, upd_s, oI_n, oI_s, xv_0, xv_1, xv_2, xv_3, xm_p1, xm_p2, xq_fp, xq_fn, List.filter_nil, Nat.reduceBEq, Bool.not_true, Bool.not_false, Bool.and_true, Bool.and_false, Bool.false_and, Bool.true_and, if_true, if_false, Bool.false_eq_true, reduceIte, xc_i, xc_j, xc_r, xc_n, List.nil_append, List.cons_append, Option.toList_some, Option.toList_none, hct2, i2S, lN_pl]
    refine by_inv1 cn_278 lk_12_400 (by rw [xe_cnt]; decide) is_306 np_306 cn_306 (by first | exact rfl | assumption) (Nat.le_of_ble_eq_true rfl) ?_
    refine sp_mtw F2 P2 hn ?_
    rw [w1]
    with_reducible refine xm_go_blk b_X12_programCells_33 k_X12_programCells_33 ?_
    refine by_i2l ?_
    refine by_ladd ?_
    simp (disch := first | exact Nat.ne_of_beq_eq_false rfl | exact rfl | omega) only [nI_add, xa_sub, xa_mul, pk_div, nm_mod, xa_shr, xa_and7, xa_and1, xa_and255, xa_by_and, nI_m1, Nat.add_sub_cancel, Nat.reducePow, Nat.zero_add, Nat.add_zero, Nat.reduceAdd, Nat.reduceMul, Nat.reduceSub, xf_same, xq_ff, xq_fo, xf_1, xf_2, xs_1, xs_2, xs_same, xq_so, xj_1, xj_2, xj_same, xq_jo, xq_sa1, xq_same, xq_other, upd_s, oI_n, oI_s, xv_0, xv_1, xv_2, xv_3, xm_p1, xm_p2, xq_fp, xq_fn, List.filter_nil, Nat.reduceBEq, Bool.not_true, Bool.not_false, Bool.and_true, Bool.and_false, Bool.false_and, Bool.true_and, if_true, if_false, Bool.false_eq_true, reduceIte, xc_i, xc_j, xc_r, xc_n, List.nil_append, List.cons_append, Option.toList_some, Option.toList_none, i2T, lN_pl]
    refine by_ins1 cn_278 lk_12_406 (by rw [xe_cnt]; decide) is_202 np_202 (Nat.le_of_ble_eq_true rfl) ?_
    refine sp_atMost (x := C n + ty_w (S n) + ty_w (T n)) (by omega) ?_
    with_reducible refine xm_go_blk b_X12_programCells_38 k_X12_programCells_38 ?_
    refine by_lret ry_278 ?_
    have lg3 := lcmp_le (a := min 2147483647 (C n + ty_w (S n) + ty_w (T n))) (b := k) (by omega) (by omega)
    by_cases e3 : k < min 2147483647 (C n + ty_w (S n) + ty_w (T n))
    · with_reducible refine xm_go_blk b_X12_run_111 k_X12_run_111 ?_
      refine by_iload_n rfl ?_
      refine by_i2l ?_
      refine by_lcmp ?_
      refine by_if_le 120 rfl ?_
      simp (disch := first | exact Nat.ne_of_beq_eq_false rfl | exact rfl | omega) only [nI_add, xa_sub, xa_mul, pk_div, nm_mod, xa_shr, xa_and7, xa_and1, xa_and255, xa_by_and, nI_m1, Nat.add_sub_cancel, Nat.reducePow, Nat.zero_add, Nat.add_zero, Nat.reduceAdd, Nat.reduceMul, Nat.reduceSub, xf_same, xq_ff, xq_fo, xf_1, xf_2, xs_1, xs_2, xs_same, xq_so, xj_1, xj_2, xj_same, xq_jo, xq_sa1, xq_same, xq_other, upd_s, oI_n, oI_s, xv_0, xv_1, xv_2, xv_3, xm_p1, xm_p2, xq_fp, xq_fn, List.filter_nil, Nat.reduceBEq, Bool.not_true, Bool.not_false, Bool.and_true, Bool.and_false, Bool.false_and, Bool.true_and, if_true, if_false, Bool.false_eq_true, reduceIte, xc_i, xc_j, xc_r, xc_n, List.nil_append, List.cons_append, Option.toList_some, Option.toList_none, nI_ltJ, nI_leJ, nI_eqJ, nI_ltz, nI_gez, nI_gtz, nI_lez, nI_eqz, m1_ltz, m1_gez, true_imp_iff, false_imp_iff, true_and, and_true, ne_eq, not_false_eq_true, not_true_eq_false, Nat.reduceEqDiff, Nat.reduceLT, Nat.reduceLeDiff, i2k, lg3]
      refine ⟨fun c => absurd c (by omega), fun c111 => ?_⟩
      with_reducible refine xm_go_blk b_X12_run_117 k_X12_run_117 ?_
      refine by_bipush cb_m2 ?_
      refine by_iret ry_290 (by first | rfl | assumption) ?_
      exact p2' hv (Or.inr (Or.inr e3)) h2 F2 f02 z2 u2
    have hnX : ¬ (s < B n ∨ 1000000 < B n ∨ k < min 2147483647 (C n + ty_w (S n) + ty_w (T n))) := by omega
    have hX : pX ps B n := ⟨hn, by omega⟩
    have hE : rnE (l, ps, a, S, T) tl = mc_ev (mcQ (l, ps, a, S, T)) (jf0 (mcQ (l, ps, a, S, T))) (byB l) 8000 n (byB tl) := by
      unfold rnE
      simp only [enn]
    with_reducible refine xm_go_blk b_X12_run_111 k_X12_run_111 ?_
    refine by_iload_n rfl ?_
    refine by_i2l ?_
    refine by_lcmp ?_
    refine by_if_le 120 rfl ?_
    simp (disch := first | exact Nat.ne_of_beq_eq_false rfl | exact rfl | omega) only [nI_add, xa_sub, xa_mul, pk_div, nm_mod, xa_shr, xa_and7, xa_and1, xa_and255, xa_by_and, nI_m1, Nat.add_sub_cancel, Nat.reducePow, Nat.zero_add, Nat.add_zero, Nat.reduceAdd, Nat.reduceMul, Nat.reduceSub, xf_same, xq_ff, xq_fo, xf_1, xf_2, xs_1, xs_2, xs_same, xq_so, xj_1, xj_2, xj_same, xq_jo, xq_sa1, xq_same, xq_other, upd_s, oI_n, oI_s, xv_0, xv_1, xv_2, xv_3, xm_p1, xm_p2, xq_fp, xq_fn, List.filter_nil, Nat.reduceBEq, Bool.not_true, Bool.not_false, Bool.and_true, Bool.and_false, Bool.false_and, Bool.true_and, if_true, if_false, Bool.false_eq_true, reduceIte, xc_i, xc_j, xc_r, xc_n, List.nil_append, List.cons_append, Option.toList_some, Option.toList_none, nI_ltJ, nI_leJ, nI_eqJ, nI_ltz, nI_gez, nI_gtz, nI_lez, nI_eqz, m1_ltz, m1_gez, true_imp_iff, false_imp_iff, true_and, and_true, ne_eq, not_false_eq_true, not_true_eq_false, Nat.reduceEqDiff, Nat.reduceLT, Nat.reduceLeDiff, i2k, lg3]
    refine ⟨fun c111 => ?_, fun c => absurd (by omega) c⟩
    with_reducible refine xm_go_blk b_X12_run_120 k_X12_run_120 ?_
    refine by_aload_n rfl ?_
    refine by_iconst ci_0 ?_
    refine by_putf cn_290 fl_12_494 (by first | exact rfl | assumption) (by decide) nf_12_74 ft_12_74 (by first | rfl | assumption) (by first | rfl | assumption) ?_
    refine by_aload_n rfl ?_
    refine by_iload rfl ?_
    refine by_iload rfl ?_
    refine by_iadd ?_
    refine by_putf cn_290 fl_12_513 (by first | exact rfl | assumption) (by decide) nf_12_75 ft_12_75 (by first | rfl | assumption) (by first | rfl | assumption) ?_
    refine by_aload_n rfl ?_
    refine by_lconst cl_0 ?_
    refine by_putf cn_290 fl_12_501 (by first | exact rfl | assumption) (by decide) nf_12_76 ft_12_76 (by first | rfl | assumption) (by first | rfl | assumption) ?_
    refine by_aload_n rfl ?_
    refine by_lconst cl_0 ?_
    refine by_putf cn_290 fl_12_507 (by first | exact rfl | assumption) (by decide) nf_12_77 ft_12_77 (by first | rfl | assumption) (by first | rfl | assumption) ?_
    refine by_aload_n rfl ?_
    refine by_lconst cl_0 ?_
    refine by_putf cn_290 fl_12_504 (by first | exact rfl | assumption) (by decide) nf_12_78 ft_12_78 (by first | rfl | assumption) (by first | rfl | assumption) ?_
    refine by_aload_n rfl ?_
    refine by_lconst cl_0 ?_
    refine by_putf cn_290 fl_12_510 (by first | exact rfl | assumption) (by decide) nf_12_79 ft_12_79 (by first | rfl | assumption) (by first | rfl | assumption) ?_
    refine by_aload_n rfl ?_
    refine by_lconst cl_0 ?_
    refine by_putf cn_290 fl_12_497 (by first | exact rfl | assumption) (by decide) nf_12_80 ft_12_80 (by first | rfl | assumption) (by first | rfl | assumption) ?_
    refine by_aload_n rfl ?_
    refine by_iload rfl ?_
    refine by_iconst ci_0 ?_
    refine by_iload rfl ?_
    simp (disch := first | exact Nat.ne_of_beq_eq_false rfl | exact rfl | omega) only [nI_add, xa_sub, xa_mul, pk_div, nm_mod, xa_shr, xa_and7, xa_and1, xa_and255, xa_by_and, nI_m1, Nat.add_sub_cancel, Nat.reducePow, Nat.zero_add, Nat.add_zero, Nat.reduceAdd, Nat.reduceMul, Nat.reduceSub, xf_same, xq_ff, xq_fo, xf_1, xf_2, xs_1, xs_2, xs_same, xq_so, xj_1, xj_2, xj_same, xq_jo, xq_sa1, xq_same, xq_other, upd_s, oI_n, oI_s, xv_0, xv_1, xv_2, xv_3, xm_p1, xm_p2, xq_fp, xq_fn, List.filter_nil, Nat.reduceBEq, Bool.not_true, Bool.not_false, Bool.and_true, Bool.and_false, Bool.false_and, Bool.true_and, if_true, if_false, Bool.false_eq_true, reduceIte, xc_i, xc_j, xc_r, xc_n, List.nil_append, List.cons_append, Option.toList_some, Option.toList_none, i2k, lg3]
    refine by_inv3 cn_290 lk_12_516 (by rw [xe_cnt]; decide) is_203 np_203 cn_203 (by first | exact rfl | assumption) (Nat.le_of_ble_eq_true rfl) ?_
    have f3 : Fr msR msT h (xm_sf (xm_sf (xm_sf (xm_sf (xm_sf (xm_sf (xm_sf h2 102 74 (.int (nI 0))) 102 75 (.int (nI (ty_w (S n) + ty_w (T n))))) 102 76 (.long (lN 0))) 102 77 (.long (lN 0))) 102 78 (.long (lN 0))) 102 79 (.long (lN 0))) 102 80 (.long (lN 0))) := Fr_sf (Fr_sf (Fr_sf (Fr_sf (Fr_sf (Fr_sf (Fr_sf f02 (by simp [msT])) (by simp [msT])) (by simp [msT])) (by simp [msT])) (by simp [msT])) (by simp [msT])) (by simp [msT])
    have S3 : rSt (xm_sf (xm_sf (xm_sf (xm_sf (xm_sf (xm_sf (xm_sf h2 102 74 (.int (nI 0))) 102 75 (.int (nI (ty_w (S n) + ty_w (T n))))) 102 76 (.long (lN 0))) 102 77 (.long (lN 0))) 102 78 (.long (lN 0))) 102 79 (.long (lN 0))) 102 80 (.long (lN 0))) [] (ty_w (S n) + ty_w (T n)) 0 0 0 0 0 := ⟨by simp [xm_sf, updV], trivial, by simp [xm_sf, updV], by simp [xm_sf, updV], by simp [xm_sf, updV], by simp [xm_sf, updV], by simp [xm_sf, updV], by simp [xm_sf, updV]⟩
    have z3 : (xm_sf (xm_sf (xm_sf (xm_sf (xm_sf (xm_sf (xm_sf h2 102 74 (.int (nI 0))) 102 75 (.int (nI (ty_w (S n) + ty_w (T n))))) 102 76 (.long (lN 0))) 102 77 (.long (lN 0))) 102 78 (.long (lN 0))) 102 79 (.long (lN 0))) 102 80 (.long (lN 0))).2.2 102 0 = .int (nI 0) := by rw [← z2]; simp [xm_sf, updV]
    have u3 : (xm_sf (xm_sf (xm_sf (xm_sf (xm_sf (xm_sf (xm_sf h2 102 74 (.int (nI 0))) 102 75 (.int (nI (ty_w (S n) + ty_w (T n))))) 102 76 (.long (lN 0))) 102 77 (.long (lN 0))) 102 78 (.long (lN 0))) 102 79 (.long (lN 0))) 102 80 (.long (lN 0))).2.2 102 2 = .int (nI 0) := by rw [← u2]; simp [xm_sf, updV]
    have bt3 : (xm_sf (xm_sf (xm_sf (xm_sf (xm_sf (xm_sf (xm_sf h2 102 74 (.int (nI 0))) 102 75 (.int (nI (ty_w (S n) + ty_w (T n))))) 102 76 (.long (lN 0))) 102 77 (.long (lN 0))) 102 78 (.long (lN 0))) 102 79 (.long (lN 0))) 102 80 (.long (lN 0))).1 145 = h2.1 145 := rfl
    generalize xm_sf (xm_sf (xm_sf (xm_sf (xm_sf (xm_sf (xm_sf h2 102 74 (.int (nI 0))) 102 75 (.int (nI (ty_w (S n) + ty_w (T n))))) 102 76 (.long (lN 0))) 102 77 (.long (lN 0))) 102 78 (.long (lN 0))) 102 79 (.long (lN 0))) 102 80 (.long (lN 0)) = h3 at *
    have F3 := Fr_XF hF f3 msT_fin
    have P3 := mPg_f2 hP (ms_mr f3)
    refine sp_begin F3 P3 hn h11 (by simp) S3 (fun h4 f4 S4 => ?_)
    have f04 : Fr msR msT h h4 := Fr_tr f3 f4 (by simp [msR]) (by simp [msT])
    have F4 := Fr_XF hF f04 msT_fin
    have P4 := mPg_f2 hP (ms_mr f04)
    have z4 : h4.2.2 102 0 = .int (nI 0) := by rw [f4.2.2 _ _ (by simp)]; exact z3
    have u4 : h4.2.2 102 2 = .int (nI 0) := by rw [f4.2.2 _ _ (by simp)]; exact u3
    with_reducible refine xm_go_blk b_X12_run_168 k_X12_run_168 ?_
    refine by_iconst ci_1 ?_
    refine by_istore (by rw [ml_290]; decide) ?_
    refine by_nil ?_
    try simp (disch := first | exact Nat.ne_of_beq_eq_false rfl | exact rfl | omega) only [nI_add, xa_sub, xa_mul, pk_div, nm_mod, xa_shr, xa_and7, xa_and1, xa_and255, xa_by_and, nI_m1, Nat.add_sub_cancel, Nat.reducePow, Nat.zero_add, Nat.add_zero, Nat.reduceAdd, Nat.reduceMul, Nat.reduceSub, xf_same, xq_ff, xq_fo, xf_1, xf_2, xs_1, xs_2, xs_same, xq_so, xj_1, xj_2, xj_same, xq_jo, xq_sa1, xq_same, xq_other, upd_s, oI_n, oI_s, xv_0, xv_1, xv_2, xv_3, xm_p1, xm_p2, xq_fp, xq_fn, List.filter_nil, Nat.reduceBEq, Bool.not_true, Bool.not_false, Bool.and_true, Bool.and_false, Bool.false_and, Bool.true_and, if_true, if_false, Bool.false_eq_true, reduceIte, xc_i, xc_j, xc_r, xc_n, List.nil_append, List.cons_append, Option.toList_some, Option.toList_none]
    obtain ⟨rb, rl⟩ := rb_whole (sc := sc) (d := d) (df := df) (s0 := ty_w (S n)) (t0 := ty_w (T n)) (H0 := h4) (post := post) P4 P4.2.2.2.2.2.2.2.1 (fun m hm e => w8_of hLG hpn hm e) 8000 n hn (by omega) h11
    refine xm_go_wk (by simp [Value.category]) (rb h4 0 (ty_w (S n)) (ty_w (S n) + ty_w (T n)) 0 0 0 0 0 [] (byB tl) F4 Fr_rf S4 (fun j hj => ?_) (by show 0 + ty_w (S n) ≤ _; omega) (by show ty_w (S n) + ty_w (T n) ≤ _; omega) (by left; show 0 + ty_w (S n) ≤ _; omega) (by show ty_w (S n) + ty_w (T n) + 2048 * (n + 1) ≤ 824000; omega) (by show 0 + (n + 1) ≤ 402; omega) (Nat.le_refl _) (Nat.le_refl _) (by decide) (by decide) (by show 0 + 2048 * (n + 1) ≤ _; omega) (by show 0 + (n + 1) ≤ _; omega) (fun x z m e hr h5 F5 f5 S5 b5 _ => ?_) (fun hr h5 F5 f5 => ?_))
    · rw [f4.1 145 (by simp), bt3]
      have := bt2 (0 + j) (by have : j < ty_w (S n) := hj; omega)
      rw [this, byB_n, Nat.zero_add]
    · rw [← hE] at hr
      obtain ⟨lx, lm, le⟩ := rl.2 _ _ _ _ _ (by rw [← hE]; exact hr)
      have lx' : x.length = ty_w (T n) := lx
      have lm' : m ≤ 2048 * (n + 1) := lm
      have le' : e ≤ n + 1 := le
      have lz := ev_steps (wb := byB l) ho hLG hb 8000 n (byB tl) x z m e hX (by rw [← hE]; exact hr)
      rw [Nat.zero_add, Nat.max_eq_right (Nat.zero_le _), Nat.zero_add, Nat.max_eq_right (Nat.zero_le _), Nat.zero_add] at S5
      obtain ⟨s1, _, s3, s4, s5, s6, s7, s8⟩ := S5
      have s1' : h5.2.2 102 74 = .int (nI 0) := s1
      have f05 : Fr mqR mqT h h5 := Fr_tr (ms_mr f04) f5 (by simp [rfR, mqR]) (by simp [rfT, mqT])
      have z5 : h5.2.2 102 0 = .int (nI 0) := by rw [f5.2.2 _ _ (by simp [rfT])]; exact z4
      have u5 : h5.2.2 102 2 = .int (nI 0) := by rw [f5.2.2 _ _ (by simp [rfT])]; exact u4
      have r5 : h5.2.2 102 35 = .int rn := by rw [f5.2.2 _ _ (by simp [rfT]), f04.2.2 _ _ (by simp [msT])]; exact h35
      have k5 : ∀ j, j = 37 ∨ j = 38 ∨ j = 39 → h5.2.2 102 j = h.2.2 102 j := fun j hj => by
        rw [f5.2.2 _ _ (by simp [rfT]; omega), f04.2.2 _ _ (by simp [msT]; omega)]
      have pend : ∀ h6, Fr mqR mqT h h6 → h6.1 = h5.1 → h6.2.2 102 0 = .int (nI 0) → h6.2.2 102 2 = .int (nI 0) → h6.2.2 102 35 = .int (rn + nI 1) → (df = 0 → h6.2.2 102 37 = .long (lN (ty_w (S n) + ty_w (T n) + m)) ∧ h6.2.2 102 38 = .long (lN (2 + e)) ∧ h6.2.2 102 39 = .long (lN (min 2147483647 z))) → (df = 1 → h6.2.2 102 37 = h.2.2 102 37 ∧ h6.2.2 102 38 = h.2.2 102 38 ∧ h6.2.2 102 39 = h.2.2 102 39) → xm_go (XE sc) (xm_T (XE sc) (d + 7)) 290 post 258 [(0, .ref 102), (5, .int (nI (ty_w (S n)))), (6, .int (nI (ty_w (T n))))] [] h6 := by
        intro h6 f6 e6 z6 u6 r6 w0' w1'
        have F6 := Fr_XF hF f6 mqT_fin
        with_reducible refine xm_go_blk b_X12_run_258 k_X12_run_258 ?_
        refine by_aload_n rfl ?_
        refine by_iload rfl ?_
        refine by_iload rfl ?_
        refine by_inv2 cn_290 lk_12_558 (by rw [xe_cnt]; decide) is_307 np_307 cn_307 (by first | exact rfl | assumption) (Nat.le_of_ble_eq_true rfl) ?_
        refine sp_tellsBits (v := fun k => (mc_ex x (k - ty_w (S n))).toNat) F6 (fun i hi => ⟨?_, ?_⟩) (by omega) (by omega) (fun h7 f7 m7 o7 => ?_)
        · rw [e6, Nat.add_sub_cancel_left]
          exact b5 i hi
        · cases mc_ex x (ty_w (S n) + i - ty_w (S n)) <;> decide
        · rw [rdB_ex lx'] at m7
          with_reducible refine xm_go_blk b_X12_run_266 k_X12_run_266 ?_
          refine by_iret ry_290 (by first | rfl | assumption) ?_
          refine p0' hv hnX x z m e hr lx' h7 (Fr_XF F6 f7 (by decide +kernel)) (Fr_tr f6 f7 (by simp [mqR]) (by simp [mqT])) (by rw [f7.2.2 _ _ (by simp)]; exact z6) (by rw [f7.2.2 _ _ (by simp)]; exact u6) m7 o7 (by rw [f7.2.2 _ _ (by simp)]; exact r6) (fun y => ?_) (fun y => ?_)
          · rw [f7.2.2 _ _ (by simp), f7.2.2 _ _ (by simp), f7.2.2 _ _ (by simp)]; exact w0' y
          · rw [f7.2.2 _ _ (by simp), f7.2.2 _ _ (by simp), f7.2.2 _ _ (by simp)]; exact w1' y
      unfold Lp
      rcases (by omega : df = 0 ∨ df = 1) with rfl | rfl
      · with_reducible refine xm_go_blk b_X12_run_171 k_X12_run_171 ?_
        refine by_aload_n rfl ?_
        refine by_getf cn_290 fl_12_494 (by first | exact rfl | assumption) (by decide) ?_
        simp (disch := first | exact Nat.ne_of_beq_eq_false rfl | exact rfl | omega) only [nI_add, xa_sub, xa_mul, pk_div, nm_mod, xa_shr, xa_and7, xa_and1, xa_and255, xa_by_and, nI_m1, Nat.add_sub_cancel, Nat.reducePow, Nat.zero_add, Nat.add_zero, Nat.reduceAdd, Nat.reduceMul, Nat.reduceSub, xf_same, xq_ff, xq_fo, xf_1, xf_2, xs_1, xs_2, xs_same, xq_so, xj_1, xj_2, xj_same, xq_jo, xq_sa1, xq_same, xq_other, upd_s, oI_n, oI_s, s1', r5, s5, i2S, i2T, lN_pl]
        refine by_if_le 192 rfl ?_
        simp (disch := first | exact Nat.ne_of_beq_eq_false rfl | exact rfl | omega) only [nI_add, xa_sub, xa_mul, pk_div, nm_mod, xa_shr, xa_and7, xa_and1, xa_and255, xa_by_and, nI_m1, Nat.add_sub_cancel, Nat.reducePow, Nat.zero_add, Nat.add_zero, Nat.reduceAdd, Nat.reduceMul, Nat.reduceSub, xf_same, xq_ff, xq_fo, xf_1, xf_2, xs_1, xs_2, xs_same, xq_so, xj_1, xj_2, xj_same, xq_jo, xq_sa1, xq_same, xq_other, upd_s, oI_n, oI_s, xv_0, xv_1, xv_2, xv_3, xm_p1, xm_p2, xq_fp, xq_fn, List.filter_nil, Nat.reduceBEq, Bool.not_true, Bool.not_false, Bool.and_true, Bool.and_false, Bool.false_and, Bool.true_and, if_true, if_false, Bool.false_eq_true, reduceIte, xc_i, xc_j, xc_r, xc_n, List.nil_append, List.cons_append, Option.toList_some, Option.toList_none, nI_ltJ, nI_leJ, nI_eqJ, nI_ltz, nI_gez, nI_gtz, nI_lez, nI_eqz, m1_ltz, m1_gez, true_imp_iff, false_imp_iff, true_and, and_true, ne_eq, not_false_eq_true, not_true_eq_false, Nat.reduceEqDiff, Nat.reduceLT, Nat.reduceLeDiff, s1', r5, s5, i2S, i2T, lN_pl]
        with_reducible refine xm_go_blk b_X12_run_192 k_X12_run_192 ?_
        refine by_iload rfl ?_
        refine by_if_ne 199 rfl ?_
        simp (disch := first | exact Nat.ne_of_beq_eq_false rfl | exact rfl | omega) only [nI_add, xa_sub, xa_mul, pk_div, nm_mod, xa_shr, xa_and7, xa_and1, xa_and255, xa_by_and, nI_m1, Nat.add_sub_cancel, Nat.reducePow, Nat.zero_add, Nat.add_zero, Nat.reduceAdd, Nat.reduceMul, Nat.reduceSub, xf_same, xq_ff, xq_fo, xf_1, xf_2, xs_1, xs_2, xs_same, xq_so, xj_1, xj_2, xj_same, xq_jo, xq_sa1, xq_same, xq_other, upd_s, oI_n, oI_s, xv_0, xv_1, xv_2, xv_3, xm_p1, xm_p2, xq_fp, xq_fn, List.filter_nil, Nat.reduceBEq, Bool.not_true, Bool.not_false, Bool.and_true, Bool.and_false, Bool.false_and, Bool.true_and, if_true, if_false, Bool.false_eq_true, reduceIte, xc_i, xc_j, xc_r, xc_n, List.nil_append, List.cons_append, Option.toList_some, Option.toList_none, nI_ltJ, nI_leJ, nI_eqJ, nI_ltz, nI_gez, nI_gtz, nI_lez, nI_eqz, m1_ltz, m1_gez, true_imp_iff, false_imp_iff, true_and, and_true, ne_eq, not_false_eq_true, not_true_eq_false, Nat.reduceEqDiff, Nat.reduceLT, Nat.reduceLeDiff, s1', r5, s5, i2S, i2T, lN_pl]
        with_reducible refine xm_go_blk b_X12_run_199 k_X12_run_199 ?_
        refine by_aload_n rfl ?_
        refine by_dup rfl ?_
        refine by_getf cn_290 fl_12_544 (by first | exact rfl | assumption) (by decide) ?_
        refine by_iconst ci_1 ?_
        simp (disch := first | exact Nat.ne_of_beq_eq_false rfl | exact rfl | omega) only [nI_add, xa_sub, xa_mul, pk_div, nm_mod, xa_shr, xa_and7, xa_and1, xa_and255, xa_by_and, nI_m1, Nat.add_sub_cancel, Nat.reducePow, Nat.zero_add, Nat.add_zero, Nat.reduceAdd, Nat.reduceMul, Nat.reduceSub, xf_same, xq_ff, xq_fo, xf_1, xf_2, xs_1, xs_2, xs_same, xq_so, xj_1, xj_2, xj_same, xq_jo, xq_sa1, xq_same, xq_other, upd_s, oI_n, oI_s, s1', r5, s5, i2S, i2T, lN_pl]
        refine by_iadd ?_
        refine by_putf cn_290 fl_12_544 (by first | exact rfl | assumption) (by decide) nf_12_35 ft_12_35 (by first | rfl | assumption) (by first | rfl | assumption) ?_
        refine by_iload_n rfl ?_
        refine by_if_ne 258 rfl ?_
        simp (disch := first | exact Nat.ne_of_beq_eq_false rfl | exact rfl | omega) only [nI_add, xa_sub, xa_mul, pk_div, nm_mod, xa_shr, xa_and7, xa_and1, xa_and255, xa_by_and, nI_m1, Nat.add_sub_cancel, Nat.reducePow, Nat.zero_add, Nat.add_zero, Nat.reduceAdd, Nat.reduceMul, Nat.reduceSub, xf_same, xq_ff, xq_fo, xf_1, xf_2, xs_1, xs_2, xs_same, xq_so, xj_1, xj_2, xj_same, xq_jo, xq_sa1, xq_same, xq_other, upd_s, oI_n, oI_s, xv_0, xv_1, xv_2, xv_3, xm_p1, xm_p2, xq_fp, xq_fn, List.filter_nil, Nat.reduceBEq, Bool.not_true, Bool.not_false, Bool.and_true, Bool.and_false, Bool.false_and, Bool.true_and, if_true, if_false, Bool.false_eq_true, reduceIte, xc_i, xc_j, xc_r, xc_n, List.nil_append, List.cons_append, Option.toList_some, Option.toList_none, nI_ltJ, nI_leJ, nI_eqJ, nI_ltz, nI_gez, nI_gtz, nI_lez, nI_eqz, m1_ltz, m1_gez, true_imp_iff, false_imp_iff, true_and, and_true, ne_eq, not_false_eq_true, not_true_eq_false, Nat.reduceEqDiff, Nat.reduceLT, Nat.reduceLeDiff, s1', r5, s5, i2S, i2T, lN_pl]
        with_reducible refine xm_go_blk b_X12_run_213 k_X12_run_213 ?_
        refine by_aload_n rfl ?_
        refine by_aload_n rfl ?_
        refine by_getf cn_290 fl_12_507 (by first | exact rfl | assumption) (by decide) ?_
        refine by_iload rfl ?_
        refine by_i2l ?_
        simp (disch := first | exact Nat.ne_of_beq_eq_false rfl | exact rfl | omega) only [nI_add, xa_sub, xa_mul, pk_div, nm_mod, xa_shr, xa_and7, xa_and1, xa_and255, xa_by_and, nI_m1, Nat.add_sub_cancel, Nat.reducePow, Nat.zero_add, Nat.add_zero, Nat.reduceAdd, Nat.reduceMul, Nat.reduceSub, xf_same, xq_ff, xq_fo, xf_1, xf_2, xs_1, xs_2, xs_same, xq_so, xj_1, xj_2, xj_same, xq_jo, xq_sa1, xq_same, xq_other, upd_s, oI_n, oI_s, s1', r5, s5, i2S, i2T, lN_pl]
        refine by_ladd ?_
        refine by_iload rfl ?_
        refine by_i2l ?_
        refine by_ladd ?_
        simp (disch := first | exact Nat.ne_of_beq_eq_false rfl | exact rfl | omega) only [nI_add, xa_sub, xa_mul, pk_div, nm_mod, xa_shr, xa_and7, xa_and1, xa_and255, xa_by_and, nI_m1, Nat.add_sub_cancel, Nat.reducePow, Nat.zero_add, Nat.add_zero, Nat.reduceAdd, Nat.reduceMul, Nat.reduceSub, xf_same, xq_ff, xq_fo, xf_1, xf_2, xs_1, xs_2, xs_same, xq_so, xj_1, xj_2, xj_same, xq_jo, xq_sa1, xq_same, xq_other, upd_s, oI_n, oI_s, xv_0, xv_1, xv_2, xv_3, xm_p1, xm_p2, xq_fp, xq_fn, List.filter_nil, Nat.reduceBEq, Bool.not_true, Bool.not_false, Bool.and_true, Bool.and_false, Bool.false_and, Bool.true_and, if_true, if_false, Bool.false_eq_true, reduceIte, xc_i, xc_j, xc_r, xc_n, List.nil_append, List.cons_append, Option.toList_some, Option.toList_none, s1', r5, s5, i2S, i2T, lN_pl]
        refine by_ins1 cn_290 lk_12_406 (by rw [xe_cnt]; decide) is_202 np_202 (Nat.le_of_ble_eq_true rfl) ?_
        refine sp_atMost (x := m + ty_w (S n) + ty_w (T n)) (by omega) ?_
        rw [Nat.min_eq_right (by omega), show m + ty_w (S n) + ty_w (T n) = ty_w (S n) + ty_w (T n) + m by omega]
        with_reducible refine xm_go_blk b_X12_run_229 k_X12_run_229 ?_
        refine by_putf cn_290 fl_12_547 (by first | exact rfl | assumption) (by decide) nf_12_37 ft_12_37 (by first | rfl | assumption) (by first | rfl | assumption) ?_
        refine by_aload_n rfl ?_
        refine by_aload_n rfl ?_
        refine by_getf cn_290 fl_12_510 (by first | exact rfl | assumption) (by decide) ?_
        refine by_ldc2 (x := lN 2) cn_290 kl_12_550 (by decide) ?_
        simp (disch := first | exact Nat.ne_of_beq_eq_false rfl | exact rfl | omega) only [nI_add, xa_sub, xa_mul, pk_div, nm_mod, xa_shr, xa_and7, xa_and1, xa_and255, xa_by_and, nI_m1, Nat.add_sub_cancel, Nat.reducePow, Nat.zero_add, Nat.add_zero, Nat.reduceAdd, Nat.reduceMul, Nat.reduceSub, xf_same, xq_ff, xq_fo, xf_1, xf_2, xs_1, xs_2, xs_same, xq_so, xj_1, xj_2, xj_same, xq_jo, xq_sa1, xq_same, xq_other, upd_s, oI_n, oI_s, s7, lN_pl]
        refine by_ladd ?_
        simp (disch := first | exact Nat.ne_of_beq_eq_false rfl | exact rfl | omega) only [nI_add, xa_sub, xa_mul, pk_div, nm_mod, xa_shr, xa_and7, xa_and1, xa_and255, xa_by_and, nI_m1, Nat.add_sub_cancel, Nat.reducePow, Nat.zero_add, Nat.add_zero, Nat.reduceAdd, Nat.reduceMul, Nat.reduceSub, xf_same, xq_ff, xq_fo, xf_1, xf_2, xs_1, xs_2, xs_same, xq_so, xj_1, xj_2, xj_same, xq_jo, xq_sa1, xq_same, xq_other, upd_s, oI_n, oI_s, xv_0, xv_1, xv_2, xv_3, xm_p1, xm_p2, xq_fp, xq_fn, List.filter_nil, Nat.reduceBEq, Bool.not_true, Bool.not_false, Bool.and_true, Bool.and_false, Bool.false_and, Bool.true_and, if_true, if_false, Bool.false_eq_true, reduceIte, xc_i, xc_j, xc_r, xc_n, List.nil_append, List.cons_append, Option.toList_some, Option.toList_none, s7, lN_pl]
        refine by_ins1 cn_290 lk_12_406 (by rw [xe_cnt]; decide) is_202 np_202 (Nat.le_of_ble_eq_true rfl) ?_
        refine sp_atMost (x := e + 2) (by omega) ?_
        rw [Nat.min_eq_right (by omega), Nat.add_comm e 2]
        with_reducible refine xm_go_blk b_X12_run_244 k_X12_run_244 ?_
        refine by_putf cn_290 fl_12_552 (by first | exact rfl | assumption) (by decide) nf_12_38 ft_12_38 (by first | rfl | assumption) (by first | rfl | assumption) ?_
        refine by_aload_n rfl ?_
        refine by_aload_n rfl ?_
        refine by_getf cn_290 fl_12_497 (by first | exact rfl | assumption) (by decide) ?_
        simp (disch := first | exact Nat.ne_of_beq_eq_false rfl | exact rfl | omega) only [nI_add, xa_sub, xa_mul, pk_div, nm_mod, xa_shr, xa_and7, xa_and1, xa_and255, xa_by_and, nI_m1, Nat.add_sub_cancel, Nat.reducePow, Nat.zero_add, Nat.add_zero, Nat.reduceAdd, Nat.reduceMul, Nat.reduceSub, xf_same, xq_ff, xq_fo, xf_1, xf_2, xs_1, xs_2, xs_same, xq_so, xj_1, xj_2, xj_same, xq_jo, xq_sa1, xq_same, xq_other, upd_s, oI_n, oI_s, xv_0, xv_1, xv_2, xv_3, xm_p1, xm_p2, xq_fp, xq_fn, List.filter_nil, Nat.reduceBEq, Bool.not_true, Bool.not_false, Bool.and_true, Bool.and_false, Bool.false_and, Bool.true_and, if_true, if_false, Bool.false_eq_true, reduceIte, xc_i, xc_j, xc_r, xc_n, List.nil_append, List.cons_append, Option.toList_some, Option.toList_none, s8]
        refine by_ins1 cn_290 lk_12_406 (by rw [xe_cnt]; decide) is_202 np_202 (Nat.le_of_ble_eq_true rfl) ?_
        refine sp_atMost (x := z) (by omega) ?_
        with_reducible refine xm_go_blk b_X12_run_255 k_X12_run_255 ?_
        refine by_putf cn_290 fl_12_555 (by first | exact rfl | assumption) (by decide) nf_12_39 ft_12_39 (by first | rfl | assumption) (by first | rfl | assumption) ?_
        refine by_nil ?_
        refine xm_go_wk (by simp [Value.category]) (pend _ (Fr_sf (Fr_sf (Fr_sf (Fr_sf f05 (by simp [mqT])) (by simp [mqT])) (by simp [mqT])) (by simp [mqT])) rfl (by rw [← z5]; simp [xm_sf, updV]) (by rw [← u5]; simp [xm_sf, updV]) (by simp [xm_sf, updV]) (fun _ => ⟨by simp [xm_sf, updV], by simp [xm_sf, updV], by simp [xm_sf, updV]⟩) (fun y => absurd y (by decide)))
      · with_reducible refine xm_go_blk b_X12_run_171 k_X12_run_171 ?_
        refine by_aload_n rfl ?_
        refine by_getf cn_290 fl_12_494 (by first | exact rfl | assumption) (by decide) ?_
        simp (disch := first | exact Nat.ne_of_beq_eq_false rfl | exact rfl | omega) only [nI_add, xa_sub, xa_mul, pk_div, nm_mod, xa_shr, xa_and7, xa_and1, xa_and255, xa_by_and, nI_m1, Nat.add_sub_cancel, Nat.reducePow, Nat.zero_add, Nat.add_zero, Nat.reduceAdd, Nat.reduceMul, Nat.reduceSub, xf_same, xq_ff, xq_fo, xf_1, xf_2, xs_1, xs_2, xs_same, xq_so, xj_1, xj_2, xj_same, xq_jo, xq_sa1, xq_same, xq_other, upd_s, oI_n, oI_s, s1', r5]
        refine by_if_le 192 rfl ?_
        simp (disch := first | exact Nat.ne_of_beq_eq_false rfl | exact rfl | omega) only [nI_add, xa_sub, xa_mul, pk_div, nm_mod, xa_shr, xa_and7, xa_and1, xa_and255, xa_by_and, nI_m1, Nat.add_sub_cancel, Nat.reducePow, Nat.zero_add, Nat.add_zero, Nat.reduceAdd, Nat.reduceMul, Nat.reduceSub, xf_same, xq_ff, xq_fo, xf_1, xf_2, xs_1, xs_2, xs_same, xq_so, xj_1, xj_2, xj_same, xq_jo, xq_sa1, xq_same, xq_other, upd_s, oI_n, oI_s, xv_0, xv_1, xv_2, xv_3, xm_p1, xm_p2, xq_fp, xq_fn, List.filter_nil, Nat.reduceBEq, Bool.not_true, Bool.not_false, Bool.and_true, Bool.and_false, Bool.false_and, Bool.true_and, if_true, if_false, Bool.false_eq_true, reduceIte, xc_i, xc_j, xc_r, xc_n, List.nil_append, List.cons_append, Option.toList_some, Option.toList_none, nI_ltJ, nI_leJ, nI_eqJ, nI_ltz, nI_gez, nI_gtz, nI_lez, nI_eqz, m1_ltz, m1_gez, true_imp_iff, false_imp_iff, true_and, and_true, ne_eq, not_false_eq_true, not_true_eq_false, Nat.reduceEqDiff, Nat.reduceLT, Nat.reduceLeDiff, s1', r5]
        with_reducible refine xm_go_blk b_X12_run_192 k_X12_run_192 ?_
        refine by_iload rfl ?_
        refine by_if_ne 199 rfl ?_
        simp (disch := first | exact Nat.ne_of_beq_eq_false rfl | exact rfl | omega) only [nI_add, xa_sub, xa_mul, pk_div, nm_mod, xa_shr, xa_and7, xa_and1, xa_and255, xa_by_and, nI_m1, Nat.add_sub_cancel, Nat.reducePow, Nat.zero_add, Nat.add_zero, Nat.reduceAdd, Nat.reduceMul, Nat.reduceSub, xf_same, xq_ff, xq_fo, xf_1, xf_2, xs_1, xs_2, xs_same, xq_so, xj_1, xj_2, xj_same, xq_jo, xq_sa1, xq_same, xq_other, upd_s, oI_n, oI_s, xv_0, xv_1, xv_2, xv_3, xm_p1, xm_p2, xq_fp, xq_fn, List.filter_nil, Nat.reduceBEq, Bool.not_true, Bool.not_false, Bool.and_true, Bool.and_false, Bool.false_and, Bool.true_and, if_true, if_false, Bool.false_eq_true, reduceIte, xc_i, xc_j, xc_r, xc_n, List.nil_append, List.cons_append, Option.toList_some, Option.toList_none, nI_ltJ, nI_leJ, nI_eqJ, nI_ltz, nI_gez, nI_gtz, nI_lez, nI_eqz, m1_ltz, m1_gez, true_imp_iff, false_imp_iff, true_and, and_true, ne_eq, not_false_eq_true, not_true_eq_false, Nat.reduceEqDiff, Nat.reduceLT, Nat.reduceLeDiff, s1', r5]
        with_reducible refine xm_go_blk b_X12_run_199 k_X12_run_199 ?_
        refine by_aload_n rfl ?_
        refine by_dup rfl ?_
        refine by_getf cn_290 fl_12_544 (by first | exact rfl | assumption) (by decide) ?_
        refine by_iconst ci_1 ?_
        simp (disch := first | exact Nat.ne_of_beq_eq_false rfl | exact rfl | omega) only [nI_add, xa_sub, xa_mul, pk_div, nm_mod, xa_shr, xa_and7, xa_and1, xa_and255, xa_by_and, nI_m1, Nat.add_sub_cancel, Nat.reducePow, Nat.zero_add, Nat.add_zero, Nat.reduceAdd, Nat.reduceMul, Nat.reduceSub, xf_same, xq_ff, xq_fo, xf_1, xf_2, xs_1, xs_2, xs_same, xq_so, xj_1, xj_2, xj_same, xq_jo, xq_sa1, xq_same, xq_other, upd_s, oI_n, oI_s, s1', r5]
        refine by_iadd ?_
        refine by_putf cn_290 fl_12_544 (by first | exact rfl | assumption) (by decide) nf_12_35 ft_12_35 (by first | rfl | assumption) (by first | rfl | assumption) ?_
        refine by_iload_n rfl ?_
        refine by_if_ne 258 rfl ?_
        simp (disch := first | exact Nat.ne_of_beq_eq_false rfl | exact rfl | omega) only [nI_add, xa_sub, xa_mul, pk_div, nm_mod, xa_shr, xa_and7, xa_and1, xa_and255, xa_by_and, nI_m1, Nat.add_sub_cancel, Nat.reducePow, Nat.zero_add, Nat.add_zero, Nat.reduceAdd, Nat.reduceMul, Nat.reduceSub, xf_same, xq_ff, xq_fo, xf_1, xf_2, xs_1, xs_2, xs_same, xq_so, xj_1, xj_2, xj_same, xq_jo, xq_sa1, xq_same, xq_other, upd_s, oI_n, oI_s, xv_0, xv_1, xv_2, xv_3, xm_p1, xm_p2, xq_fp, xq_fn, List.filter_nil, Nat.reduceBEq, Bool.not_true, Bool.not_false, Bool.and_true, Bool.and_false, Bool.false_and, Bool.true_and, if_true, if_false, Bool.false_eq_true, reduceIte, xc_i, xc_j, xc_r, xc_n, List.nil_append, List.cons_append, Option.toList_some, Option.toList_none, nI_ltJ, nI_leJ, nI_eqJ, nI_ltz, nI_gez, nI_gtz, nI_lez, nI_eqz, m1_ltz, m1_gez, true_imp_iff, false_imp_iff, true_and, and_true, ne_eq, not_false_eq_true, not_true_eq_false, Nat.reduceEqDiff, Nat.reduceLT, Nat.reduceLeDiff, s1', r5]
        refine xm_go_wk (by simp [Value.category]) (pend _ (Fr_sf f05 (by simp [mqT])) rfl (by rw [← z5]; simp [xm_sf, updV]) (by rw [← u5]; simp [xm_sf, updV]) (by simp [xm_sf, updV]) (fun y => absurd y (by decide)) (fun _ => ⟨?_, ?_, ?_⟩))
        · rw [← k5 37 (by omega)]; simp [xm_sf, updV]
        · rw [← k5 38 (by omega)]; simp [xm_sf, updV]
        · rw [← k5 39 (by omega)]; simp [xm_sf, updV]
    · rw [← hE] at hr
      exact p1' hv hnX hr h5 F5 (Fr_tr f04 f5 (by simp [rfR, msR]) (by simp [rfT, msT])) (by rw [f5.2.2 _ _ (by simp [rfT])]; exact z4) (by rw [f5.2.2 _ _ (by simp [rfT])]; exact u4)
end MR
