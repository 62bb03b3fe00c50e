/-! ===== Finder.resolve ===== -/
def rvI (h : xm_H) (pp c : Nat) (k l r rt : Nat → Nat) (fd : Nat → Option Ty) (q : List Nat) (cn : Nat) (tr : Nat → Ty) (K L R : Nat → Nat) : Prop :=
  (∃ u dd m, upA h 19 c u ∧ uf_ok c u rt dd m ∧ m ≤ c) ∧ fnA h c k l r ∧ tyT h pp cn tr K L R ∧ cn + rs_m fd q c + q.length ≤ c + rs_b fd q ∧ rs_fd c k l r rt fd ∧ rs_q c k l r rt fd q ∧ rs_F 0 c cn tr fd q (h.1 20)
def rvS (h : xm_H) (pp c : Nat) (k l r rt : Nat → Nat) (fd : Nat → Option Ty) (q : List Nat) (cn : Nat) (tr : Nat → Ty) (K L R : Nat → Nat) : Prop :=
  XF h ∧ rvI h pp c k l r rt fd q cn tr K L R ∧ skA h 21 q ∧ h.2.2 15 7 = .int (nI q.length)
def rvR (pp : Nat) : List Nat := [19, 20, 21, pp + 15, pp + 16, pp + 17, pp + 18, pp + 19, pp + 20, pp + 21, pp + 22, pp + 23]
def rvT (pp : Nat) : List (Nat × Nat) := [(15, 7), (pp + 14, 0)]
theorem rv_fin {pp : Nat} (hpp : pp = 52 ∨ pp = 77) : xt_fin.all (fun q => !((rvT pp).contains (q.1, q.2.1))) = true := by rcases hpp with rfl | rfl <;> decide +kernel
theorem tyT_fr {S : List Nat} {T : List (Nat × Nat)} {h h' : xm_H} {pp cn : Nat} {tr : Nat → Ty} {K L R : Nat → Nat} (hT : tyT h pp cn tr K L R) (hf : Fr S T h h') (h1 : (pp + 14, 0) ∉ T) (h2 : ∀ q, q ∈ taR pp → q ∉ S) : tyT h' pp cn tr K L R := by
  obtain ⟨t1, t2, t3, t4⟩ := hT
  have e : ∀ q, q ∈ taR pp → h'.1 q = h.1 q := fun q hq => hf.1 q (h2 q hq)
  refine ⟨by rw [hf.2.2 _ _ h1]; exact t1, fun i hi => ?_, t3, ?_⟩
  · have := t2 i hi
    unfold ttE at this ⊢
    rw [e (pp + 15) (by simp [taR]), e (pp + 16) (by simp [taR]), e (pp + 17) (by simp [taR]), e (pp + 18) (by simp [taR]), e (pp + 19) (by simp [taR]), e (pp + 20) (by simp [taR]), e (pp + 21) (by simp [taR])]
    exact this
  · rw [e (pp + 22) (by simp [taR]), e (pp + 23) (by simp [taR])]
    exact t4
theorem fn3 {k : Nat} (hk : k < 4) : (k + 3) % 4 = (if k = 0 then 3 else k - 1) := by
  split <;> omega
section RV
variable {sc : xm_Sc} {d pp c cn turn t : Nat} {x : Int32} {k l r rt K L R : Nat → Nat} {tr : Nat → Ty} {fd : Nat → Option Ty} {q : List Nat} {h : xm_H} {post : xm_Po}
def rvL (x : Int32) (pp turn : Nat) : xm_L := [(0, .ref 15), (1, .int x), (2, .ref (pp + 14)), (3, .int (nI turn))]
/-- one that was found goes -/
theorem rv_a (hpp : pp = 52 ∨ pp = 77) (hc : c ≤ 14026) (htu : turn < 56128) (hS : rvS h pp c k l r rt fd (t :: q) cn tr K L R) (hf : fd t ≠ none)
    (hgo : ∀ h', Fr (rvR pp) (rvT pp) h h' → rvS h' pp c k l r rt fd q cn tr K L R → xm_go (XE sc) (xm_T (XE sc) (d + 2)) 45 post 18 (rvL x pp (turn + 1)) [] h') : xm_go (XE sc) (xm_T (XE sc) (d + 2)) 45 post 18 (rvL x pp turn) [] h := by
  obtain ⟨s1, ⟨⟨u, dd, m, u1, u2, u3⟩, i2, i3, i4, i5, i6, i7⟩, s3, s4⟩ := hS
  have hq := rs_q_len i6
  simp only [List.length_cons] at hq s4
  obtain ⟨tc, tr0⟩ := i6.2.1 t (List.mem_cons_self ..)
  obtain ⟨a, ha⟩ : ∃ a, fd t = some a := by
    cases e : fd t with
    | none => exact absurd e hf
    | some a => exact ⟨a, rfl⟩
  obtain ⟨i, b1, b2, b3, b4⟩ := (i7 t tc).1 a ha
  have e1 := s3.1
  have hb : rs_b fd (t :: q) = 1 := by simp [rs_b, ha]
  have hcn : cn ≤ c := by simp only [List.length_cons] at i4; omega
  have hg := hgo (xm_sf h 15 7 (.int (nI q.length))) (Fr_sf Fr_rf (by simp [rvT])) ?_
  · unfold rvL at hg ⊢
    with_reducible refine xm_go_blk b_X1_resolve_18 k_X1_resolve_18 ?_
    refine by_iload_n rfl ?_
    refine by_ldc (x := nI 56128) cn_45 ki_1_118 (by decide) ?_
    refine by_ic_ge 263 rfl ?_
    simp (disch := first | exact Nat.ne_of_beq_eq_false rfl | exact rfl | omega) only [nI_add, xa_sub, xa_mul, pk_div, nm_mod, xa_shr, xa_and7, xa_and1, xa_and255, xa_by_and, nI_m1, Nat.add_sub_cancel, Nat.reducePow, Nat.zero_add, Nat.add_zero, Nat.reduceAdd, Nat.reduceMul, Nat.reduceSub, xf_same, xq_ff, xq_fo, xf_1, xf_2, xs_1, xs_2, xs_same, xq_so, xj_1, xj_2, xj_same, xq_jo, xq_sa1, xq_same, xq_other, upd_s, oI_n, oI_s, xv_0, xv_1, xv_2, xv_3, xm_p1, xm_p2, xq_fp, xq_fn, List.filter_nil, Nat.reduceBEq, Bool.not_true, Bool.not_false, Bool.and_true, Bool.and_false, Bool.false_and, Bool.true_and, if_true, if_false, Bool.false_eq_true, reduceIte, xc_i, xc_j, xc_r, xc_n, List.nil_append, List.cons_append, Option.toList_some, Option.toList_none, nI_ltJ, nI_leJ, nI_eqJ, nI_ltz, nI_gez, nI_gtz, nI_lez, nI_eqz, m1_ltz, m1_gez, true_imp_iff, false_imp_iff, true_and, and_true, ne_eq, not_false_eq_true, not_true_eq_false, Nat.reduceEqDiff, Nat.reduceLT, Nat.reduceLeDiff, xf_15_5 s1, xf_15_4 s1, s4, e1, b3]
    refine ⟨fun c => absurd c (by omega), fun c18 => ?_⟩
    with_reducible refine xm_go_blk b_X1_resolve_24 k_X1_resolve_24 ?_
    refine by_aload_n rfl ?_
    refine by_getf cn_45 fl_1_111 (by first | exact rfl | assumption) (by decide) ?_
    simp (disch := first | exact Nat.ne_of_beq_eq_false rfl | exact rfl | omega) only [nI_add, xa_sub, xa_mul, pk_div, nm_mod, xa_shr, xa_and7, xa_and1, xa_and255, xa_by_and, nI_m1, Nat.add_sub_cancel, Nat.reducePow, Nat.zero_add, Nat.add_zero, Nat.reduceAdd, Nat.reduceMul, Nat.reduceSub, xf_same, xq_ff, xq_fo, xf_1, xf_2, xs_1, xs_2, xs_same, xq_so, xj_1, xj_2, xj_same, xq_jo, xq_sa1, xq_same, xq_other, upd_s, oI_n, oI_s, xf_15_5 s1, xf_15_4 s1, s4, e1, b3]
    refine by_if_le 263 rfl ?_
    simp (disch := first | exact Nat.ne_of_beq_eq_false rfl | exact rfl | omega) only [nI_add, xa_sub, xa_mul, pk_div, nm_mod, xa_shr, xa_and7, xa_and1, xa_and255, xa_by_and, nI_m1, Nat.add_sub_cancel, Nat.reducePow, Nat.zero_add, Nat.add_zero, Nat.reduceAdd, Nat.reduceMul, Nat.reduceSub, xf_same, xq_ff, xq_fo, xf_1, xf_2, xs_1, xs_2, xs_same, xq_so, xj_1, xj_2, xj_same, xq_jo, xq_sa1, xq_same, xq_other, upd_s, oI_n, oI_s, xv_0, xv_1, xv_2, xv_3, xm_p1, xm_p2, xq_fp, xq_fn, List.filter_nil, Nat.reduceBEq, Bool.not_true, Bool.not_false, Bool.and_true, Bool.and_false, Bool.false_and, Bool.true_and, if_true, if_false, Bool.false_eq_true, reduceIte, xc_i, xc_j, xc_r, xc_n, List.nil_append, List.cons_append, Option.toList_some, Option.toList_none, nI_ltJ, nI_leJ, nI_eqJ, nI_ltz, nI_gez, nI_gtz, nI_lez, nI_eqz, m1_ltz, m1_gez, true_imp_iff, false_imp_iff, true_and, and_true, ne_eq, not_false_eq_true, not_true_eq_false, Nat.reduceEqDiff, Nat.reduceLT, Nat.reduceLeDiff, xf_15_5 s1, xf_15_4 s1, s4, e1, b3]
    with_reducible refine xm_go_blk b_X1_resolve_31 k_X1_resolve_31 ?_
    refine by_aload_n rfl ?_
    refine by_getf cn_45 fl_1_29 (by first | exact rfl | assumption) (by decide) ?_
    refine by_aload_n rfl ?_
    refine by_getf cn_45 fl_1_111 (by first | exact rfl | assumption) (by decide) ?_
    refine by_iconst ci_1 ?_
    simp (disch := first | exact Nat.ne_of_beq_eq_false rfl | exact rfl | omega) only [nI_add, xa_sub, xa_mul, pk_div, nm_mod, xa_shr, xa_and7, xa_and1, xa_and255, xa_by_and, nI_m1, Nat.add_sub_cancel, Nat.reducePow, Nat.zero_add, Nat.add_zero, Nat.reduceAdd, Nat.reduceMul, Nat.reduceSub, xf_same, xq_ff, xq_fo, xf_1, xf_2, xs_1, xs_2, xs_same, xq_so, xj_1, xj_2, xj_same, xq_jo, xq_sa1, xq_same, xq_other, upd_s, oI_n, oI_s, xf_15_5 s1, xf_15_4 s1, s4, e1, b3]
    refine by_isub ?_
    simp (disch := first | exact Nat.ne_of_beq_eq_false rfl | exact rfl | omega) only [nI_add, xa_sub, xa_mul, pk_div, nm_mod, xa_shr, xa_and7, xa_and1, xa_and255, xa_by_and, nI_m1, Nat.add_sub_cancel, Nat.reducePow, Nat.zero_add, Nat.add_zero, Nat.reduceAdd, Nat.reduceMul, Nat.reduceSub, xf_same, xq_ff, xq_fo, xf_1, xf_2, xs_1, xs_2, xs_same, xq_so, xj_1, xj_2, xj_same, xq_jo, xq_sa1, xq_same, xq_other, upd_s, oI_n, oI_s, xf_15_5 s1, xf_15_4 s1, s4, e1, b3]
    first | refine by_iald (by first | exact rfl | assumption | exact ps_1 hpp | exact ps_2 hpp | exact ps_3 hpp | exact ps_4 hpp | exact ps_5 hpp | exact ps_6 hpp | exact ps_7 hpp | exact ps_8 hpp | exact ps_9 hpp | exact ps_10 hpp | exact ps_11 hpp | exact ps_15 hpp | exact ps_16 hpp | exact ps_17 hpp | exact ps_18 hpp | exact ps_19 hpp | exact ps_21 hpp | exact ps_22 hpp | exact ps_23 hpp | exact ps_24 hpp) ⟨by omega, by omega⟩ ?_ | refine by_tald rfl rfl ⟨by omega, by omega⟩ ?_
    refine by_istore (by rw [ml_45]; decide) ?_
    refine by_aload_n rfl ?_
    refine by_getf cn_45 fl_1_26 (by first | exact rfl | assumption) (by decide) ?_
    refine by_iload rfl ?_
    simp (disch := first | exact Nat.ne_of_beq_eq_false rfl | exact rfl | omega) only [nI_add, xa_sub, xa_mul, pk_div, nm_mod, xa_shr, xa_and7, xa_and1, xa_and255, xa_by_and, nI_m1, Nat.add_sub_cancel, Nat.reducePow, Nat.zero_add, Nat.add_zero, Nat.reduceAdd, Nat.reduceMul, Nat.reduceSub, xf_same, xq_ff, xq_fo, xf_1, xf_2, xs_1, xs_2, xs_same, xq_so, xj_1, xj_2, xj_same, xq_jo, xq_sa1, xq_same, xq_other, upd_s, oI_n, oI_s, xf_15_5 s1, xf_15_4 s1, s4, e1, b3]
    first | refine by_iald (by first | exact rfl | assumption | exact ps_1 hpp | exact ps_2 hpp | exact ps_3 hpp | exact ps_4 hpp | exact ps_5 hpp | exact ps_6 hpp | exact ps_7 hpp | exact ps_8 hpp | exact ps_9 hpp | exact ps_10 hpp | exact ps_11 hpp | exact ps_15 hpp | exact ps_16 hpp | exact ps_17 hpp | exact ps_18 hpp | exact ps_19 hpp | exact ps_21 hpp | exact ps_22 hpp | exact ps_23 hpp | exact ps_24 hpp) ⟨by omega, by omega⟩ ?_ | refine by_tald rfl rfl ⟨by omega, by omega⟩ ?_
    refine by_if_lt 67 rfl ?_
    simp (disch := first | exact Nat.ne_of_beq_eq_false rfl | exact rfl | omega) only [nI_add, xa_sub, xa_mul, pk_div, nm_mod, xa_shr, xa_and7, xa_and1, xa_and255, xa_by_and, nI_m1, Nat.add_sub_cancel, Nat.reducePow, Nat.zero_add, Nat.add_zero, Nat.reduceAdd, Nat.reduceMul, Nat.reduceSub, xf_same, xq_ff, xq_fo, xf_1, xf_2, xs_1, xs_2, xs_same, xq_so, xj_1, xj_2, xj_same, xq_jo, xq_sa1, xq_same, xq_other, upd_s, oI_n, oI_s, xv_0, xv_1, xv_2, xv_3, xm_p1, xm_p2, xq_fp, xq_fn, List.filter_nil, Nat.reduceBEq, Bool.not_true, Bool.not_false, Bool.and_true, Bool.and_false, Bool.false_and, Bool.true_and, if_true, if_false, Bool.false_eq_true, reduceIte, xc_i, xc_j, xc_r, xc_n, List.nil_append, List.cons_append, Option.toList_some, Option.toList_none, nI_ltJ, nI_leJ, nI_eqJ, nI_ltz, nI_gez, nI_gtz, nI_lez, nI_eqz, m1_ltz, m1_gez, true_imp_iff, false_imp_iff, true_and, and_true, ne_eq, not_false_eq_true, not_true_eq_false, Nat.reduceEqDiff, Nat.reduceLT, Nat.reduceLeDiff, xf_15_5 s1, xf_15_4 s1, s4, e1, b3]
    with_reducible refine xm_go_blk b_X1_resolve_54 k_X1_resolve_54 ?_
    refine by_aload_n rfl ?_
    refine by_dup rfl ?_
    refine by_getf cn_45 fl_1_111 (by first | exact rfl | assumption) (by decide) ?_
    refine by_iconst ci_1 ?_
    simp (disch := first | exact Nat.ne_of_beq_eq_false rfl | exact rfl | omega) only [nI_add, xa_sub, xa_mul, pk_div, nm_mod, xa_shr, xa_and7, xa_and1, xa_and255, xa_by_and, nI_m1, Nat.add_sub_cancel, Nat.reducePow, Nat.zero_add, Nat.add_zero, Nat.reduceAdd, Nat.reduceMul, Nat.reduceSub, xf_same, xq_ff, xq_fo, xf_1, xf_2, xs_1, xs_2, xs_same, xq_so, xj_1, xj_2, xj_same, xq_jo, xq_sa1, xq_same, xq_other, upd_s, oI_n, oI_s, xf_15_5 s1, xf_15_4 s1, s4, e1, b3]
    refine by_isub ?_
    refine by_putf cn_45 fl_1_111 (by first | exact rfl | assumption) (by decide) nf_1_7 ft_1_7 (by first | rfl | assumption) (by first | rfl | assumption) ?_
    refine by_goto 257 rfl ?_
    simp (disch := first | exact Nat.ne_of_beq_eq_false rfl | exact rfl | omega) only [nI_add, xa_sub, xa_mul, pk_div, nm_mod, xa_shr, xa_and7, xa_and1, xa_and255, xa_by_and, nI_m1, Nat.add_sub_cancel, Nat.reducePow, Nat.zero_add, Nat.add_zero, Nat.reduceAdd, Nat.reduceMul, Nat.reduceSub, xf_same, xq_ff, xq_fo, xf_1, xf_2, xs_1, xs_2, xs_same, xq_so, xj_1, xj_2, xj_same, xq_jo, xq_sa1, xq_same, xq_other, upd_s, oI_n, oI_s, xv_0, xv_1, xv_2, xv_3, xm_p1, xm_p2, xq_fp, xq_fn, List.filter_nil, Nat.reduceBEq, Bool.not_true, Bool.not_false, Bool.and_true, Bool.and_false, Bool.false_and, Bool.true_and, if_true, if_false, Bool.false_eq_true, reduceIte, xc_i, xc_j, xc_r, xc_n, List.nil_append, List.cons_append, Option.toList_some, Option.toList_none, xf_15_5 s1, xf_15_4 s1, s4, e1, b3]
    with_reducible refine xm_go_blk b_X1_resolve_257 k_X1_resolve_257 ?_
    refine by_iinc (by rw [ml_45]; decide) rfl ci_1 ?_
    refine by_goto 18 rfl ?_
    simp (disch := first | exact Nat.ne_of_beq_eq_false rfl | exact rfl | omega) only [nI_add, xa_sub, xa_mul, pk_div, nm_mod, xa_shr, xa_and7, xa_and1, xa_and255, xa_by_and, nI_m1, Nat.add_sub_cancel, Nat.reducePow, Nat.zero_add, Nat.add_zero, Nat.reduceAdd, Nat.reduceMul, Nat.reduceSub, xf_same, xq_ff, xq_fo, xf_1, xf_2, xs_1, xs_2, xs_same, xq_so, xj_1, xj_2, xj_same, xq_jo, xq_sa1, xq_same, xq_other, upd_s, oI_n, oI_s, xv_0, xv_1, xv_2, xv_3, xm_p1, xm_p2, xq_fp, xq_fn, List.filter_nil, Nat.reduceBEq, Bool.not_true, Bool.not_false, Bool.and_true, Bool.and_false, Bool.false_and, Bool.true_and, if_true, if_false, Bool.false_eq_true, reduceIte, xc_i, xc_j, xc_r, xc_n, List.nil_append, List.cons_append, Option.toList_some, Option.toList_none, xf_15_5 s1, xf_15_4 s1, s4, e1, b3]
    exact xm_go_wk (by simp [Value.category]) hg
  · have hfr : Fr [] [(15, 7)] h (xm_sf h 15 7 (.int (nI q.length))) := Fr_sf Fr_rf (by simp)
    refine ⟨Fr_XF s1 hfr (by decide +kernel), ⟨⟨u, dd, m, upA_fr u1 hfr (by simp), u2, u3⟩, fnA_fr i2 hfr (by simp) (by simp) (by simp), tyT_fr i3 hfr (by simp <;> omega) (by simp), ?_, i5, rs_q_pop i6, ?_⟩, skA_fr s3.2 hfr (by simp), by simp only [xf_same]⟩
    · rw [rs_m_pop hf]
      rw [hb] at i4
      simp only [List.length_cons] at i4
      omega
    · rw [hfr.1 20 (by simp)]
      exact rs_F_pop i7 hf
theorem m2_ltz : ((-2 : Int32) < 0) = True := eq_true (by decide)
theorem rs_lt0 {b : Nat} {fa : Nat → Int32} (hA : rs_F b c cn tr fd q fa) (ht : t < c) (hn : fd t = none) : (fa t < 0) = True := by
  by_cases e : t ∈ q
  · rcases ((hA t ht).2 hn).2.2 e with z | z
    · rw [z]; exact m1_ltz
    · rw [z]; exact m2_ltz
  · rw [((hA t ht).2 hn).1 e]; exact m1_ltz
/-- a root that is open, or ONE -/
theorem rv_b (hpp : pp = 52 ∨ pp = 77) (hc : c ≤ 14026) (htu : turn < 56128) (hS : rvS h pp c k l r rt fd (t :: q) cn tr K L R) (hn : fd t = none) (hk : k t ≤ 1)
    (hgo : ∀ h' cn' tr' K' L' R', Fr (rvR pp) (rvT pp) h h' → rvS h' pp c k l r rt (rs_up fd t tO) (t :: q) cn' tr' K' L' R' → rvX cn cn' tr tr' fd (rs_up fd t tO) → xm_go (XE sc) (xm_T (XE sc) (d + 2)) 45 post 18 (rvL x pp (turn + 1)) [] h') : xm_go (XE sc) (xm_T (XE sc) (d + 2)) 45 post 18 (rvL x pp turn) [] h := by
  obtain ⟨s1, ⟨⟨u, dd, m, u1, u2, u3⟩, i2, i3, i4, i5, i6, i7⟩, s3, s4⟩ := hS
  have hq := rs_q_len i6
  simp only [List.length_cons] at hq s4
  obtain ⟨tc, tr0⟩ := i6.2.1 t (List.mem_cons_self ..)
  have e1 := s3.1
  have hb : rs_b fd (t :: q) = 0 := by simp [rs_b, hn]
  rw [hb] at i4
  simp only [List.length_cons] at i4
  have hlt := rs_lt0 i7 tc hn
  obtain ⟨k1, k2, _⟩ := i2 t tc
  have cont : xm_go (XE sc) (xm_T (XE sc) (d + 2)) 45 post 88 [(4, .int (nI t)), (0, .ref 15), (1, .int x), (2, .ref (pp + 14)), (3, .int (nI turn))] [] h := by
    with_reducible refine xm_go_blk b_X1_resolve_88 k_X1_resolve_88 ?_
    refine by_aload_n rfl ?_
    refine by_getf cn_45 fl_1_26 (by first | exact rfl | assumption) (by decide) ?_
    refine by_iload rfl ?_
    refine by_aload_n rfl ?_
    refine by_iconst ci_0 ?_
    refine by_iconst ci_0 ?_
    refine by_iconst ci_0 ?_
    simp (disch := first | exact Nat.ne_of_beq_eq_false rfl | exact rfl | omega) only [nI_add, xa_sub, xa_mul, pk_div, nm_mod, xa_shr, xa_and7, xa_and1, xa_and255, xa_by_and, nI_m1, Nat.add_sub_cancel, Nat.reducePow, Nat.zero_add, Nat.add_zero, Nat.reduceAdd, Nat.reduceMul, Nat.reduceSub, xf_same, xq_ff, xq_fo, xf_1, xf_2, xs_1, xs_2, xs_same, xq_so, xj_1, xj_2, xj_same, xq_jo, xq_sa1, xq_same, xq_other, upd_s, oI_n, oI_s, xv_0, xv_1, xv_2, xv_3, xm_p1, xm_p2, xq_fp, xq_fn, List.filter_nil, Nat.reduceBEq, Bool.not_true, Bool.not_false, Bool.and_true, Bool.and_false, Bool.false_and, Bool.true_and, if_true, if_false, Bool.false_eq_true, reduceIte, xc_i, xc_j, xc_r, xc_n, List.nil_append, List.cons_append, Option.toList_some, Option.toList_none, xf_15_4 s1]
    refine by_inv3 cn_45 lk_1_119 (by rw [xe_cnt]; decide) is_164 np_164 cn_164 (by first | exact rfl | assumption | exact ps_14 hpp) (Nat.le_of_ble_eq_true rfl) ?_
    refine sp_tadd (k := 0) (l := 0) (r := 0) s1 hpp i3 (by omega) ⟨by decide, fun _ => ⟨rfl, rfl⟩, fun z => absurd z (by decide)⟩ (fun h' cn' tr' K' L' R' i hf hT' c1 c2 c3 c4 c5 => ?_)
    have hF' : XF h' := Fr_XF s1 hf (by rcases hpp with rfl | rfl <;> decide +kernel)
    have hf2 : Fr [20, pp + 15, pp + 16, pp + 17, pp + 18, pp + 19, pp + 20, pp + 21, pp + 22, pp + 23] [(pp + 14, 0)] h (xm_si h' 20 t (nI i)) := Fr_si (Fr_mo hf (by simp [taR]) (fun _ z => z)) (by simp)
    have hg := hgo (xm_si h' 20 t (nI i)) cn' tr' K' L' R' (Fr_mo hf2 (by simp [rvR]) (by simp [rvT])) ?_ (rvX_up c1 c3 hn)
    · unfold rvL at hg
      with_reducible refine xm_go_blk b_X1_resolve_101 k_X1_resolve_101 ?_
      refine by_iast (by first | exact rfl | assumption | exact ps_1 hpp | exact ps_2 hpp | exact ps_3 hpp | exact ps_4 hpp | exact ps_5 hpp | exact ps_6 hpp | exact ps_7 hpp | exact ps_8 hpp | exact ps_9 hpp | exact ps_10 hpp | exact ps_11 hpp | exact ps_15 hpp | exact ps_16 hpp | exact ps_17 hpp | exact ps_18 hpp | exact ps_19 hpp | exact ps_21 hpp | exact ps_22 hpp | exact ps_23 hpp | exact ps_24 hpp) ⟨by omega, by omega⟩ ?_
      refine by_goto 257 rfl ?_
      with_reducible refine xm_go_blk b_X1_resolve_257 k_X1_resolve_257 ?_
      refine by_iinc (by rw [ml_45]; decide) rfl ci_1 ?_
      refine by_goto 18 rfl ?_
      simp (disch := first | exact Nat.ne_of_beq_eq_false rfl | exact rfl | omega) only [nI_add, xa_sub, xa_mul, pk_div, nm_mod, xa_shr, xa_and7, xa_and1, xa_and255, xa_by_and, nI_m1, Nat.add_sub_cancel, Nat.reducePow, Nat.zero_add, Nat.add_zero, Nat.reduceAdd, Nat.reduceMul, Nat.reduceSub, xf_same, xq_ff, xq_fo, xf_1, xf_2, xs_1, xs_2, xs_same, xq_so, xj_1, xj_2, xj_same, xq_jo, xq_sa1, xq_same, xq_other, upd_s, oI_n, oI_s, xv_0, xv_1, xv_2, xv_3, xm_p1, xm_p2, xq_fp, xq_fn, List.filter_nil, Nat.reduceBEq, Bool.not_true, Bool.not_false, Bool.and_true, Bool.and_false, Bool.false_and, Bool.true_and, if_true, if_false, Bool.false_eq_true, reduceIte, xc_i, xc_j, xc_r, xc_n, List.nil_append, List.cons_append, Option.toList_some, Option.toList_none]
      exact xm_go_wk (by simp [Value.category]) hg
    · have e20 : h'.1 20 = h.1 20 := hf.1 20 (by simp [taR] <;> omega)
      refine ⟨Fr_XF hF' (Fr_si (Fr_rf (S := [20]) (T := [])) (by simp)) (by decide +kernel), ⟨⟨u, dd, m, upA_fr u1 hf2 (by simp <;> omega), u2, u3⟩, fnA_fr i2 hf2 (by simp <;> omega) (by simp <;> omega) (by simp <;> omega), tyT_fr hT' (Fr_si (Fr_rf (S := [20]) (T := [])) (by simp)) (by simp) (by simp [taR] <;> omega), ?_, rs_fd_up i5 tc tr0 hn (fun _ => rfl) (fun z => by omega) (fun z => by omega), rs_q_up i6, ?_⟩, skA_fr s3 hf2 (by simp <;> omega), ?_⟩
      · rw [rs_m_set]
        simp only [rs_b, rs_up_same, Option.isSome_some, if_true, List.length_cons]
        omega
      · rw [xs_same, e20]
        exact rs_F_set i7 hn (Nat.zero_le _) c4 c1 c3 c5
      · show h'.2.2 15 7 = _
        rw [hf.2.2 _ _ (by simp <;> omega)]
        simpa using s4
  unfold rvL
  by_cases k0 : k t = 0
  · rw [k0] at k1
    have k1 : h.1 16 t = nI 3 := k1
    with_reducible refine xm_go_blk b_X1_resolve_18 k_X1_resolve_18 ?_
    refine by_iload_n rfl ?_
    refine by_ldc (x := nI 56128) cn_45 ki_1_118 (by decide) ?_
    refine by_ic_ge 263 rfl ?_
    simp (disch := first | exact Nat.ne_of_beq_eq_false rfl | exact rfl | omega) only [nI_add, xa_sub, xa_mul, pk_div, nm_mod, xa_shr, xa_and7, xa_and1, xa_and255, xa_by_and, nI_m1, Nat.add_sub_cancel, Nat.reducePow, Nat.zero_add, Nat.add_zero, Nat.reduceAdd, Nat.reduceMul, Nat.reduceSub, xf_same, xq_ff, xq_fo, xf_1, xf_2, xs_1, xs_2, xs_same, xq_so, xj_1, xj_2, xj_same, xq_jo, xq_sa1, xq_same, xq_other, upd_s, oI_n, oI_s, xv_0, xv_1, xv_2, xv_3, xm_p1, xm_p2, xq_fp, xq_fn, List.filter_nil, Nat.reduceBEq, Bool.not_true, Bool.not_false, Bool.and_true, Bool.and_false, Bool.false_and, Bool.true_and, if_true, if_false, Bool.false_eq_true, reduceIte, xc_i, xc_j, xc_r, xc_n, List.nil_append, List.cons_append, Option.toList_some, Option.toList_none, nI_ltJ, nI_leJ, nI_eqJ, nI_ltz, nI_gez, nI_gtz, nI_lez, nI_eqz, m1_ltz, m1_gez, true_imp_iff, false_imp_iff, true_and, and_true, ne_eq, not_false_eq_true, not_true_eq_false, Nat.reduceEqDiff, Nat.reduceLT, Nat.reduceLeDiff, xf_15_5 s1, xf_15_4 s1, xf_15_0 s1, s4, e1, hlt, k1]
    refine ⟨fun c => absurd c (by omega), fun c18 => ?_⟩
    with_reducible refine xm_go_blk b_X1_resolve_24 k_X1_resolve_24 ?_
    refine by_aload_n rfl ?_
    refine by_getf cn_45 fl_1_111 (by first | exact rfl | assumption) (by decide) ?_
    simp (disch := first | exact Nat.ne_of_beq_eq_false rfl | exact rfl | omega) only [nI_add, xa_sub, xa_mul, pk_div, nm_mod, xa_shr, xa_and7, xa_and1, xa_and255, xa_by_and, nI_m1, Nat.add_sub_cancel, Nat.reducePow, Nat.zero_add, Nat.add_zero, Nat.reduceAdd, Nat.reduceMul, Nat.reduceSub, xf_same, xq_ff, xq_fo, xf_1, xf_2, xs_1, xs_2, xs_same, xq_so, xj_1, xj_2, xj_same, xq_jo, xq_sa1, xq_same, xq_other, upd_s, oI_n, oI_s, xf_15_5 s1, xf_15_4 s1, xf_15_0 s1, s4, e1, hlt, k1]
    refine by_if_le 263 rfl ?_
    simp (disch := first | exact Nat.ne_of_beq_eq_false rfl | exact rfl | omega) only [nI_add, xa_sub, xa_mul, pk_div, nm_mod, xa_shr, xa_and7, xa_and1, xa_and255, xa_by_and, nI_m1, Nat.add_sub_cancel, Nat.reducePow, Nat.zero_add, Nat.add_zero, Nat.reduceAdd, Nat.reduceMul, Nat.reduceSub, xf_same, xq_ff, xq_fo, xf_1, xf_2, xs_1, xs_2, xs_same, xq_so, xj_1, xj_2, xj_same, xq_jo, xq_sa1, xq_same, xq_other, upd_s, oI_n, oI_s, xv_0, xv_1, xv_2, xv_3, xm_p1, xm_p2, xq_fp, xq_fn, List.filter_nil, Nat.reduceBEq, Bool.not_true, Bool.not_false, Bool.and_true, Bool.and_false, Bool.false_and, Bool.true_and, if_true, if_false, Bool.false_eq_true, reduceIte, xc_i, xc_j, xc_r, xc_n, List.nil_append, List.cons_append, Option.toList_some, Option.toList_none, nI_ltJ, nI_leJ, nI_eqJ, nI_ltz, nI_gez, nI_gtz, nI_lez, nI_eqz, m1_ltz, m1_gez, true_imp_iff, false_imp_iff, true_and, and_true, ne_eq, not_false_eq_true, not_true_eq_false, Nat.reduceEqDiff, Nat.reduceLT, Nat.reduceLeDiff, xf_15_5 s1, xf_15_4 s1, xf_15_0 s1, s4, e1, hlt, k1]
    with_reducible refine xm_go_blk b_X1_resolve_31 k_X1_resolve_31 ?_
    refine by_aload_n rfl ?_
    refine by_getf cn_45 fl_1_29 (by first | exact rfl | assumption) (by decide) ?_
    refine by_aload_n rfl ?_
    refine by_getf cn_45 fl_1_111 (by first | exact rfl | assumption) (by decide) ?_
    refine by_iconst ci_1 ?_
    simp (disch := first | exact Nat.ne_of_beq_eq_false rfl | exact rfl | omega) only [nI_add, xa_sub, xa_mul, pk_div, nm_mod, xa_shr, xa_and7, xa_and1, xa_and255, xa_by_and, nI_m1, Nat.add_sub_cancel, Nat.reducePow, Nat.zero_add, Nat.add_zero, Nat.reduceAdd, Nat.reduceMul, Nat.reduceSub, xf_same, xq_ff, xq_fo, xf_1, xf_2, xs_1, xs_2, xs_same, xq_so, xj_1, xj_2, xj_same, xq_jo, xq_sa1, xq_same, xq_other, upd_s, oI_n, oI_s, xf_15_5 s1, xf_15_4 s1, xf_15_0 s1, s4, e1, hlt, k1]
    refine by_isub ?_
    simp (disch := first | exact Nat.ne_of_beq_eq_false rfl | exact rfl | omega) only [nI_add, xa_sub, xa_mul, pk_div, nm_mod, xa_shr, xa_and7, xa_and1, xa_and255, xa_by_and, nI_m1, Nat.add_sub_cancel, Nat.reducePow, Nat.zero_add, Nat.add_zero, Nat.reduceAdd, Nat.reduceMul, Nat.reduceSub, xf_same, xq_ff, xq_fo, xf_1, xf_2, xs_1, xs_2, xs_same, xq_so, xj_1, xj_2, xj_same, xq_jo, xq_sa1, xq_same, xq_other, upd_s, oI_n, oI_s, xf_15_5 s1, xf_15_4 s1, xf_15_0 s1, s4, e1, hlt, k1]
    first | refine by_iald (by first | exact rfl | assumption | exact ps_1 hpp | exact ps_2 hpp | exact ps_3 hpp | exact ps_4 hpp | exact ps_5 hpp | exact ps_6 hpp | exact ps_7 hpp | exact ps_8 hpp | exact ps_9 hpp | exact ps_10 hpp | exact ps_11 hpp | exact ps_15 hpp | exact ps_16 hpp | exact ps_17 hpp | exact ps_18 hpp | exact ps_19 hpp | exact ps_21 hpp | exact ps_22 hpp | exact ps_23 hpp | exact ps_24 hpp) ⟨by omega, by omega⟩ ?_ | refine by_tald rfl rfl ⟨by omega, by omega⟩ ?_
    refine by_istore (by rw [ml_45]; decide) ?_
    refine by_aload_n rfl ?_
    refine by_getf cn_45 fl_1_26 (by first | exact rfl | assumption) (by decide) ?_
    refine by_iload rfl ?_
    simp (disch := first | exact Nat.ne_of_beq_eq_false rfl | exact rfl | omega) only [nI_add, xa_sub, xa_mul, pk_div, nm_mod, xa_shr, xa_and7, xa_and1, xa_and255, xa_by_and, nI_m1, Nat.add_sub_cancel, Nat.reducePow, Nat.zero_add, Nat.add_zero, Nat.reduceAdd, Nat.reduceMul, Nat.reduceSub, xf_same, xq_ff, xq_fo, xf_1, xf_2, xs_1, xs_2, xs_same, xq_so, xj_1, xj_2, xj_same, xq_jo, xq_sa1, xq_same, xq_other, upd_s, oI_n, oI_s, xf_15_5 s1, xf_15_4 s1, xf_15_0 s1, s4, e1, hlt, k1]
    first | refine by_iald (by first | exact rfl | assumption | exact ps_1 hpp | exact ps_2 hpp | exact ps_3 hpp | exact ps_4 hpp | exact ps_5 hpp | exact ps_6 hpp | exact ps_7 hpp | exact ps_8 hpp | exact ps_9 hpp | exact ps_10 hpp | exact ps_11 hpp | exact ps_15 hpp | exact ps_16 hpp | exact ps_17 hpp | exact ps_18 hpp | exact ps_19 hpp | exact ps_21 hpp | exact ps_22 hpp | exact ps_23 hpp | exact ps_24 hpp) ⟨by omega, by omega⟩ ?_ | refine by_tald rfl rfl ⟨by omega, by omega⟩ ?_
    refine by_if_lt 67 rfl ?_
    simp (disch := first | exact Nat.ne_of_beq_eq_false rfl | exact rfl | omega) only [nI_add, xa_sub, xa_mul, pk_div, nm_mod, xa_shr, xa_and7, xa_and1, xa_and255, xa_by_and, nI_m1, Nat.add_sub_cancel, Nat.reducePow, Nat.zero_add, Nat.add_zero, Nat.reduceAdd, Nat.reduceMul, Nat.reduceSub, xf_same, xq_ff, xq_fo, xf_1, xf_2, xs_1, xs_2, xs_same, xq_so, xj_1, xj_2, xj_same, xq_jo, xq_sa1, xq_same, xq_other, upd_s, oI_n, oI_s, xv_0, xv_1, xv_2, xv_3, xm_p1, xm_p2, xq_fp, xq_fn, List.filter_nil, Nat.reduceBEq, Bool.not_true, Bool.not_false, Bool.and_true, Bool.and_false, Bool.false_and, Bool.true_and, if_true, if_false, Bool.false_eq_true, reduceIte, xc_i, xc_j, xc_r, xc_n, List.nil_append, List.cons_append, Option.toList_some, Option.toList_none, nI_ltJ, nI_leJ, nI_eqJ, nI_ltz, nI_gez, nI_gtz, nI_lez, nI_eqz, m1_ltz, m1_gez, true_imp_iff, false_imp_iff, true_and, and_true, ne_eq, not_false_eq_true, not_true_eq_false, Nat.reduceEqDiff, Nat.reduceLT, Nat.reduceLeDiff, xf_15_5 s1, xf_15_4 s1, xf_15_0 s1, s4, e1, hlt, k1]
    with_reducible refine xm_go_blk b_X1_resolve_67 k_X1_resolve_67 ?_
    refine by_aload_n rfl ?_
    refine by_getf cn_45 fl_1_13 (by first | exact rfl | assumption) (by decide) ?_
    refine by_iload rfl ?_
    simp (disch := first | exact Nat.ne_of_beq_eq_false rfl | exact rfl | omega) only [nI_add, xa_sub, xa_mul, pk_div, nm_mod, xa_shr, xa_and7, xa_and1, xa_and255, xa_by_and, nI_m1, Nat.add_sub_cancel, Nat.reducePow, Nat.zero_add, Nat.add_zero, Nat.reduceAdd, Nat.reduceMul, Nat.reduceSub, xf_same, xq_ff, xq_fo, xf_1, xf_2, xs_1, xs_2, xs_same, xq_so, xj_1, xj_2, xj_same, xq_jo, xq_sa1, xq_same, xq_other, upd_s, oI_n, oI_s, xf_15_5 s1, xf_15_4 s1, xf_15_0 s1, s4, e1, hlt, k1]
    first | refine by_iald (by first | exact rfl | assumption | exact ps_1 hpp | exact ps_2 hpp | exact ps_3 hpp | exact ps_4 hpp | exact ps_5 hpp | exact ps_6 hpp | exact ps_7 hpp | exact ps_8 hpp | exact ps_9 hpp | exact ps_10 hpp | exact ps_11 hpp | exact ps_15 hpp | exact ps_16 hpp | exact ps_17 hpp | exact ps_18 hpp | exact ps_19 hpp | exact ps_21 hpp | exact ps_22 hpp | exact ps_23 hpp | exact ps_24 hpp) ⟨by omega, by omega⟩ ?_ | refine by_tald rfl rfl ⟨by omega, by omega⟩ ?_
    refine by_iconst ci_3 ?_
    refine by_ic_eq 88 rfl ?_
    simp (disch := first | exact Nat.ne_of_beq_eq_false rfl | exact rfl | omega) only [nI_add, xa_sub, xa_mul, pk_div, nm_mod, xa_shr, xa_and7, xa_and1, xa_and255, xa_by_and, nI_m1, Nat.add_sub_cancel, Nat.reducePow, Nat.zero_add, Nat.add_zero, Nat.reduceAdd, Nat.reduceMul, Nat.reduceSub, xf_same, xq_ff, xq_fo, xf_1, xf_2, xs_1, xs_2, xs_same, xq_so, xj_1, xj_2, xj_same, xq_jo, xq_sa1, xq_same, xq_other, upd_s, oI_n, oI_s, xv_0, xv_1, xv_2, xv_3, xm_p1, xm_p2, xq_fp, xq_fn, List.filter_nil, Nat.reduceBEq, Bool.not_true, Bool.not_false, Bool.and_true, Bool.and_false, Bool.false_and, Bool.true_and, if_true, if_false, Bool.false_eq_true, reduceIte, xc_i, xc_j, xc_r, xc_n, List.nil_append, List.cons_append, Option.toList_some, Option.toList_none, nI_ltJ, nI_leJ, nI_eqJ, nI_ltz, nI_gez, nI_gtz, nI_lez, nI_eqz, m1_ltz, m1_gez, true_imp_iff, false_imp_iff, true_and, and_true, ne_eq, not_false_eq_true, not_true_eq_false, Nat.reduceEqDiff, Nat.reduceLT, Nat.reduceLeDiff, xf_15_5 s1, xf_15_4 s1, xf_15_0 s1, s4, e1, hlt, k1]
    exact xm_go_wk (by simp [Value.category]) cont
  · have k1' : k t = 1 := by omega
    rw [k1'] at k1
    have k1 : h.1 16 t = nI 0 := k1
    with_reducible refine xm_go_blk b_X1_resolve_18 k_X1_resolve_18 ?_
    refine by_iload_n rfl ?_
    refine by_ldc (x := nI 56128) cn_45 ki_1_118 (by decide) ?_
    refine by_ic_ge 263 rfl ?_
    simp (disch := first | exact Nat.ne_of_beq_eq_false rfl | exact rfl | omega) only [nI_add, xa_sub, xa_mul, pk_div, nm_mod, xa_shr, xa_and7, xa_and1, xa_and255, xa_by_and, nI_m1, Nat.add_sub_cancel, Nat.reducePow, Nat.zero_add, Nat.add_zero, Nat.reduceAdd, Nat.reduceMul, Nat.reduceSub, xf_same, xq_ff, xq_fo, xf_1, xf_2, xs_1, xs_2, xs_same, xq_so, xj_1, xj_2, xj_same, xq_jo, xq_sa1, xq_same, xq_other, upd_s, oI_n, oI_s, xv_0, xv_1, xv_2, xv_3, xm_p1, xm_p2, xq_fp, xq_fn, List.filter_nil, Nat.reduceBEq, Bool.not_true, Bool.not_false, Bool.and_true, Bool.and_false, Bool.false_and, Bool.true_and, if_true, if_false, Bool.false_eq_true, reduceIte, xc_i, xc_j, xc_r, xc_n, List.nil_append, List.cons_append, Option.toList_some, Option.toList_none, nI_ltJ, nI_leJ, nI_eqJ, nI_ltz, nI_gez, nI_gtz, nI_lez, nI_eqz, m1_ltz, m1_gez, true_imp_iff, false_imp_iff, true_and, and_true, ne_eq, not_false_eq_true, not_true_eq_false, Nat.reduceEqDiff, Nat.reduceLT, Nat.reduceLeDiff, xf_15_5 s1, xf_15_4 s1, xf_15_0 s1, s4, e1, hlt, k1]
    refine ⟨fun c => absurd c (by omega), fun c18 => ?_⟩
    with_reducible refine xm_go_blk b_X1_resolve_24 k_X1_resolve_24 ?_
    refine by_aload_n rfl ?_
    refine by_getf cn_45 fl_1_111 (by first | exact rfl | assumption) (by decide) ?_
    simp (disch := first | exact Nat.ne_of_beq_eq_false rfl | exact rfl | omega) only [nI_add, xa_sub, xa_mul, pk_div, nm_mod, xa_shr, xa_and7, xa_and1, xa_and255, xa_by_and, nI_m1, Nat.add_sub_cancel, Nat.reducePow, Nat.zero_add, Nat.add_zero, Nat.reduceAdd, Nat.reduceMul, Nat.reduceSub, xf_same, xq_ff, xq_fo, xf_1, xf_2, xs_1, xs_2, xs_same, xq_so, xj_1, xj_2, xj_same, xq_jo, xq_sa1, xq_same, xq_other, upd_s, oI_n, oI_s, xf_15_5 s1, xf_15_4 s1, xf_15_0 s1, s4, e1, hlt, k1]
    refine by_if_le 263 rfl ?_
    simp (disch := first | exact Nat.ne_of_beq_eq_false rfl | exact rfl | omega) only [nI_add, xa_sub, xa_mul, pk_div, nm_mod, xa_shr, xa_and7, xa_and1, xa_and255, xa_by_and, nI_m1, Nat.add_sub_cancel, Nat.reducePow, Nat.zero_add, Nat.add_zero, Nat.reduceAdd, Nat.reduceMul, Nat.reduceSub, xf_same, xq_ff, xq_fo, xf_1, xf_2, xs_1, xs_2, xs_same, xq_so, xj_1, xj_2, xj_same, xq_jo, xq_sa1, xq_same, xq_other, upd_s, oI_n, oI_s, xv_0, xv_1, xv_2, xv_3, xm_p1, xm_p2, xq_fp, xq_fn, List.filter_nil, Nat.reduceBEq, Bool.not_true, Bool.not_false, Bool.and_true, Bool.and_false, Bool.false_and, Bool.true_and, if_true, if_false, Bool.false_eq_true, reduceIte, xc_i, xc_j, xc_r, xc_n, List.nil_append, List.cons_append, Option.toList_some, Option.toList_none, nI_ltJ, nI_leJ, nI_eqJ, nI_ltz, nI_gez, nI_gtz, nI_lez, nI_eqz, m1_ltz, m1_gez, true_imp_iff, false_imp_iff, true_and, and_true, ne_eq, not_false_eq_true, not_true_eq_false, Nat.reduceEqDiff, Nat.reduceLT, Nat.reduceLeDiff, xf_15_5 s1, xf_15_4 s1, xf_15_0 s1, s4, e1, hlt, k1]
    with_reducible refine xm_go_blk b_X1_resolve_31 k_X1_resolve_31 ?_
    refine by_aload_n rfl ?_
    refine by_getf cn_45 fl_1_29 (by first | exact rfl | assumption) (by decide) ?_
    refine by_aload_n rfl ?_
    refine by_getf cn_45 fl_1_111 (by first | exact rfl | assumption) (by decide) ?_
    refine by_iconst ci_1 ?_
    simp (disch := first | exact Nat.ne_of_beq_eq_false rfl | exact rfl | omega) only [nI_add, xa_sub, xa_mul, pk_div, nm_mod, xa_shr, xa_and7, xa_and1, xa_and255, xa_by_and, nI_m1, Nat.add_sub_cancel, Nat.reducePow, Nat.zero_add, Nat.add_zero, Nat.reduceAdd, Nat.reduceMul, Nat.reduceSub, xf_same, xq_ff, xq_fo, xf_1, xf_2, xs_1, xs_2, xs_same, xq_so, xj_1, xj_2, xj_same, xq_jo, xq_sa1, xq_same, xq_other, upd_s, oI_n, oI_s, xf_15_5 s1, xf_15_4 s1, xf_15_0 s1, s4, e1, hlt, k1]
    refine by_isub ?_
    simp (disch := first | exact Nat.ne_of_beq_eq_false rfl | exact rfl | omega) only [nI_add, xa_sub, xa_mul, pk_div, nm_mod, xa_shr, xa_and7, xa_and1, xa_and255, xa_by_and, nI_m1, Nat.add_sub_cancel, Nat.reducePow, Nat.zero_add, Nat.add_zero, Nat.reduceAdd, Nat.reduceMul, Nat.reduceSub, xf_same, xq_ff, xq_fo, xf_1, xf_2, xs_1, xs_2, xs_same, xq_so, xj_1, xj_2, xj_same, xq_jo, xq_sa1, xq_same, xq_other, upd_s, oI_n, oI_s, xf_15_5 s1, xf_15_4 s1, xf_15_0 s1, s4, e1, hlt, k1]
    first | refine by_iald (by first | exact rfl | assumption | exact ps_1 hpp | exact ps_2 hpp | exact ps_3 hpp | exact ps_4 hpp | exact ps_5 hpp | exact ps_6 hpp | exact ps_7 hpp | exact ps_8 hpp | exact ps_9 hpp | exact ps_10 hpp | exact ps_11 hpp | exact ps_15 hpp | exact ps_16 hpp | exact ps_17 hpp | exact ps_18 hpp | exact ps_19 hpp | exact ps_21 hpp | exact ps_22 hpp | exact ps_23 hpp | exact ps_24 hpp) ⟨by omega, by omega⟩ ?_ | refine by_tald rfl rfl ⟨by omega, by omega⟩ ?_
    refine by_istore (by rw [ml_45]; decide) ?_
    refine by_aload_n rfl ?_
    refine by_getf cn_45 fl_1_26 (by first | exact rfl | assumption) (by decide) ?_
    refine by_iload rfl ?_
    simp (disch := first | exact Nat.ne_of_beq_eq_false rfl | exact rfl | omega) only [nI_add, xa_sub, xa_mul, pk_div, nm_mod, xa_shr, xa_and7, xa_and1, xa_and255, xa_by_and, nI_m1, Nat.add_sub_cancel, Nat.reducePow, Nat.zero_add, Nat.add_zero, Nat.reduceAdd, Nat.reduceMul, Nat.reduceSub, xf_same, xq_ff, xq_fo, xf_1, xf_2, xs_1, xs_2, xs_same, xq_so, xj_1, xj_2, xj_same, xq_jo, xq_sa1, xq_same, xq_other, upd_s, oI_n, oI_s, xf_15_5 s1, xf_15_4 s1, xf_15_0 s1, s4, e1, hlt, k1]
    first | refine by_iald (by first | exact rfl | assumption | exact ps_1 hpp | exact ps_2 hpp | exact ps_3 hpp | exact ps_4 hpp | exact ps_5 hpp | exact ps_6 hpp | exact ps_7 hpp | exact ps_8 hpp | exact ps_9 hpp | exact ps_10 hpp | exact ps_11 hpp | exact ps_15 hpp | exact ps_16 hpp | exact ps_17 hpp | exact ps_18 hpp | exact ps_19 hpp | exact ps_21 hpp | exact ps_22 hpp | exact ps_23 hpp | exact ps_24 hpp) ⟨by omega, by omega⟩ ?_ | refine by_tald rfl rfl ⟨by omega, by omega⟩ ?_
    refine by_if_lt 67 rfl ?_
    simp (disch := first | exact Nat.ne_of_beq_eq_false rfl | exact rfl | omega) only [nI_add, xa_sub, xa_mul, pk_div, nm_mod, xa_shr, xa_and7, xa_and1, xa_and255, xa_by_and, nI_m1, Nat.add_sub_cancel, Nat.reducePow, Nat.zero_add, Nat.add_zero, Nat.reduceAdd, Nat.reduceMul, Nat.reduceSub, xf_same, xq_ff, xq_fo, xf_1, xf_2, xs_1, xs_2, xs_same, xq_so, xj_1, xj_2, xj_same, xq_jo, xq_sa1, xq_same, xq_other, upd_s, oI_n, oI_s, xv_0, xv_1, xv_2, xv_3, xm_p1, xm_p2, xq_fp, xq_fn, List.filter_nil, Nat.reduceBEq, Bool.not_true, Bool.not_false, Bool.and_true, Bool.and_false, Bool.false_and, Bool.true_and, if_true, if_false, Bool.false_eq_true, reduceIte, xc_i, xc_j, xc_r, xc_n, List.nil_append, List.cons_append, Option.toList_some, Option.toList_none, nI_ltJ, nI_leJ, nI_eqJ, nI_ltz, nI_gez, nI_gtz, nI_lez, nI_eqz, m1_ltz, m1_gez, true_imp_iff, false_imp_iff, true_and, and_true, ne_eq, not_false_eq_true, not_true_eq_false, Nat.reduceEqDiff, Nat.reduceLT, Nat.reduceLeDiff, xf_15_5 s1, xf_15_4 s1, xf_15_0 s1, s4, e1, hlt, k1]
    with_reducible refine xm_go_blk b_X1_resolve_67 k_X1_resolve_67 ?_
    refine by_aload_n rfl ?_
    refine by_getf cn_45 fl_1_13 (by first | exact rfl | assumption) (by decide) ?_
    refine by_iload rfl ?_
    simp (disch := first | exact Nat.ne_of_beq_eq_false rfl | exact rfl | omega) only [nI_add, xa_sub, xa_mul, pk_div, nm_mod, xa_shr, xa_and7, xa_and1, xa_and255, xa_by_and, nI_m1, Nat.add_sub_cancel, Nat.reducePow, Nat.zero_add, Nat.add_zero, Nat.reduceAdd, Nat.reduceMul, Nat.reduceSub, xf_same, xq_ff, xq_fo, xf_1, xf_2, xs_1, xs_2, xs_same, xq_so, xj_1, xj_2, xj_same, xq_jo, xq_sa1, xq_same, xq_other, upd_s, oI_n, oI_s, xf_15_5 s1, xf_15_4 s1, xf_15_0 s1, s4, e1, hlt, k1]
    first | refine by_iald (by first | exact rfl | assumption | exact ps_1 hpp | exact ps_2 hpp | exact ps_3 hpp | exact ps_4 hpp | exact ps_5 hpp | exact ps_6 hpp | exact ps_7 hpp | exact ps_8 hpp | exact ps_9 hpp | exact ps_10 hpp | exact ps_11 hpp | exact ps_15 hpp | exact ps_16 hpp | exact ps_17 hpp | exact ps_18 hpp | exact ps_19 hpp | exact ps_21 hpp | exact ps_22 hpp | exact ps_23 hpp | exact ps_24 hpp) ⟨by omega, by omega⟩ ?_ | refine by_tald rfl rfl ⟨by omega, by omega⟩ ?_
    refine by_iconst ci_3 ?_
    refine by_ic_eq 88 rfl ?_
    simp (disch := first | exact Nat.ne_of_beq_eq_false rfl | exact rfl | omega) only [nI_add, xa_sub, xa_mul, pk_div, nm_mod, xa_shr, xa_and7, xa_and1, xa_and255, xa_by_and, nI_m1, Nat.add_sub_cancel, Nat.reducePow, Nat.zero_add, Nat.add_zero, Nat.reduceAdd, Nat.reduceMul, Nat.reduceSub, xf_same, xq_ff, xq_fo, xf_1, xf_2, xs_1, xs_2, xs_same, xq_so, xj_1, xj_2, xj_same, xq_jo, xq_sa1, xq_same, xq_other, upd_s, oI_n, oI_s, xv_0, xv_1, xv_2, xv_3, xm_p1, xm_p2, xq_fp, xq_fn, List.filter_nil, Nat.reduceBEq, Bool.not_true, Bool.not_false, Bool.and_true, Bool.and_false, Bool.false_and, Bool.true_and, if_true, if_false, Bool.false_eq_true, reduceIte, xc_i, xc_j, xc_r, xc_n, List.nil_append, List.cons_append, Option.toList_some, Option.toList_none, nI_ltJ, nI_leJ, nI_eqJ, nI_ltz, nI_gez, nI_gtz, nI_lez, nI_eqz, m1_ltz, m1_gez, true_imp_iff, false_imp_iff, true_and, and_true, ne_eq, not_false_eq_true, not_true_eq_false, Nat.reduceEqDiff, Nat.reduceLT, Nat.reduceLeDiff, xf_15_5 s1, xf_15_4 s1, xf_15_0 s1, s4, e1, hlt, k1]
    with_reducible refine xm_go_blk b_X1_resolve_78 k_X1_resolve_78 ?_
    refine by_aload_n rfl ?_
    refine by_getf cn_45 fl_1_13 (by first | exact rfl | assumption) (by decide) ?_
    refine by_iload rfl ?_
    simp (disch := first | exact Nat.ne_of_beq_eq_false rfl | exact rfl | omega) only [nI_add, xa_sub, xa_mul, pk_div, nm_mod, xa_shr, xa_and7, xa_and1, xa_and255, xa_by_and, nI_m1, Nat.add_sub_cancel, Nat.reducePow, Nat.zero_add, Nat.add_zero, Nat.reduceAdd, Nat.reduceMul, Nat.reduceSub, xf_same, xq_ff, xq_fo, xf_1, xf_2, xs_1, xs_2, xs_same, xq_so, xj_1, xj_2, xj_same, xq_jo, xq_sa1, xq_same, xq_other, upd_s, oI_n, oI_s, xf_15_5 s1, xf_15_4 s1, xf_15_0 s1, s4, e1, hlt, k1]
    first | refine by_iald (by first | exact rfl | assumption | exact ps_1 hpp | exact ps_2 hpp | exact ps_3 hpp | exact ps_4 hpp | exact ps_5 hpp | exact ps_6 hpp | exact ps_7 hpp | exact ps_8 hpp | exact ps_9 hpp | exact ps_10 hpp | exact ps_11 hpp | exact ps_15 hpp | exact ps_16 hpp | exact ps_17 hpp | exact ps_18 hpp | exact ps_19 hpp | exact ps_21 hpp | exact ps_22 hpp | exact ps_23 hpp | exact ps_24 hpp) ⟨by omega, by omega⟩ ?_ | refine by_tald rfl rfl ⟨by omega, by omega⟩ ?_
    refine by_if_ne 105 rfl ?_
    simp (disch := first | exact Nat.ne_of_beq_eq_false rfl | exact rfl | omega) only [nI_add, xa_sub, xa_mul, pk_div, nm_mod, xa_shr, xa_and7, xa_and1, xa_and255, xa_by_and, nI_m1, Nat.add_sub_cancel, Nat.reducePow, Nat.zero_add, Nat.add_zero, Nat.reduceAdd, Nat.reduceMul, Nat.reduceSub, xf_same, xq_ff, xq_fo, xf_1, xf_2, xs_1, xs_2, xs_same, xq_so, xj_1, xj_2, xj_same, xq_jo, xq_sa1, xq_same, xq_other, upd_s, oI_n, oI_s, xv_0, xv_1, xv_2, xv_3, xm_p1, xm_p2, xq_fp, xq_fn, List.filter_nil, Nat.reduceBEq, Bool.not_true, Bool.not_false, Bool.and_true, Bool.and_false, Bool.false_and, Bool.true_and, if_true, if_false, Bool.false_eq_true, reduceIte, xc_i, xc_j, xc_r, xc_n, List.nil_append, List.cons_append, Option.toList_some, Option.toList_none, nI_ltJ, nI_leJ, nI_eqJ, nI_ltz, nI_gez, nI_gtz, nI_lez, nI_eqz, m1_ltz, m1_gez, true_imp_iff, false_imp_iff, true_and, and_true, ne_eq, not_false_eq_true, not_true_eq_false, Nat.reduceEqDiff, Nat.reduceLT, Nat.reduceLeDiff, xf_15_5 s1, xf_15_4 s1, xf_15_0 s1, s4, e1, hlt, k1]
    exact xm_go_wk (by simp [Value.category]) cont
end RV
