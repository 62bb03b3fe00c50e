/-! ===== the class: readValue, worth ===== -/
theorem wiT_app (a b : List itm) : wiT (a ++ b) = wiT a + wiT b := by
  induction a with
  | nil => simp [wiT]
  | cons x a ih => rcases x with c | t <;> simp only [List.cons_append, wiT, ih] <;> omega
theorem rdP_sp {l : List Nat} {p p' : Nat} {b : List Nat} {its : List itm} : ∀ {t : Ty}, ty_ok t → rdP l p t = some (p', b, its) → p < p' ∧ p' ≤ l.length ∧ b.length + wiT its = ty_w t := by
  intro t hok h
  have hpl : p < l.length := Nat.lt_of_not_le (fun z => by rw [rdP_out z] at h; cases h)
  cases t with
  | add x y =>
    simp only [rdP] at h
    split at h
    · rename_i hw
      have ww : ty_w (.add x y) = 1 := by rw [ty_word_w _ hok (by omega), hw]
      rw [ww]
      split at h
      · simp only [Option.some.injEq, Prod.mk.injEq] at h; obtain ⟨rfl, rfl, rfl⟩ := h; exact ⟨by omega, by omega, rfl⟩
      · split at h
        · simp only [Option.some.injEq, Prod.mk.injEq] at h; obtain ⟨rfl, rfl, rfl⟩ := h; exact ⟨by omega, by omega, rfl⟩
        · cases h
    · split at h
      · simp only [Option.some.injEq, Prod.mk.injEq] at h; obtain ⟨rfl, rfl, rfl⟩ := h
        refine ⟨by omega, by omega, ?_⟩
        simp only [List.length_cons, hiB_len, wiT, ty_w]; omega
      · split at h
        · simp only [Option.some.injEq, Prod.mk.injEq] at h; obtain ⟨rfl, rfl, rfl⟩ := h
          refine ⟨by omega, by omega, ?_⟩
          simp only [List.length_cons, hiB_len, wiT, ty_w]; omega
        · cases h
  | mul x y =>
    simp only [rdP] at h
    split at h
    · rename_i hw
      have ww := ty_word_w _ hok (by omega : 1 ≤ ty_word (.mul x y))
      have hm := ty_word_mul x y
      split at h
      · cases e : rdDs l (p + 1) (ty_word (.mul x y) / 4) with
        | none => rw [e] at h; cases h
        | some bs =>
          rw [e] at h
          simp only [Option.map_some, Option.some.injEq, Prod.mk.injEq] at h
          obtain ⟨rfl, rfl, rfl⟩ := h
          have := rdDs_le e (by omega)
          have := rdDs_len e
          exact ⟨by omega, by omega, by rw [ww]; simp only [wiT]; omega⟩
      · cases h
    · split at h
      · simp only [Option.some.injEq, Prod.mk.injEq] at h; obtain ⟨rfl, rfl, rfl⟩ := h
        refine ⟨by omega, by omega, ?_⟩
        simp only [List.length_nil, wiT, ty_w]; omega
      · cases h
  | num k =>
    simp only [rdP] at h
    split at h
    · simp only [Option.some.injEq, Prod.mk.injEq] at h; obtain ⟨rfl, rfl, rfl⟩ := h; exact ⟨by omega, by omega, rfl⟩
    · cases h
  | _ => exact absurd hok (by simp [ty_ok])
theorem rdS_1 {l : List Nat} {x : itm} {q : List itm} {p : Nat} {bs : List Nat} : rdS l 1 (x :: q) p bs = none := by
  rcases x with c | t
  · simp only [rdS]; split <;> rfl
  · simp only [rdS]; split <;> rfl
section RV
variable {sc : xm_Sc} {d pp cn : Nat} {tr : Nat → Ty} {K L R : Nat → Nat} {l : List Nat} {h : xm_H} {post : xm_Po}
theorem sp_readValue {t : Nat} (hF : XF h) (hpp : pp = 52 ∨ pp = 77) (hT : tyT h pp cn tr K L R) (hcn : cn ≤ 2826) (ht : t < cn) (hrow : rowIs h 1 2 l) (hw : ty_w (tr t) ≤ 2048) (hpen : penB h [])
    (h1 : ∀ h' bs, rdS l 8194 [.inr (tr t)] 0 [] = some bs → bs.length = ty_w (tr t) → Fr [6, pp + 24] (rdT pp) h h' → penB h' bs → post (some (.int (nI 1))) h')
    (h0 : ∀ h', rdS l 8194 [.inr (tr t)] 0 [] = none → Fr [6, pp + 24] (rdT pp) h h' → post (some (.int (nI 0))) h') : xm_T (XE sc) (d + 6) 174 [.ref (pp + 14), .ref 1, .int (nI t), .ref 5] h post := by
  have hl := hrow.2.2.1
  have hend : ∀ (q : List itm) (p tn f : Nat) (bl : List Nat) (h2 : xm_H), p ≤ l.length → rdS l (f + 1) q p bl = rdS l 8194 [.inr (tr t)] 0 [] → (q ≠ [] → f = 0) → bl.length + wiT q = ty_w (tr t) → Fr [6, pp + 24] (rdT pp) h h2 → penB h2 bl → xSt h2 pp cn tr q → xm_go (XE sc) (xm_T (XE sc) (d + 5)) 174 post 107 [(0, .ref (pp + 14)), (1, .ref 1), (4, .int (nI p))] [] h2 := by
    intro q p tn f bl h2 hp he hq hwt f2 p2 s2
    have r2 : rowIs h2 1 2 l := rowIs_fr hrow f2 (by simp <;> omega) (by simp [rdT] <;> omega) (by simp [rdT] <;> omega)
    have hlen := xStk_len s2.2
    have e11 := s2.1
    obtain _ | ⟨x, q⟩ := q
    · simp only [List.length_nil] at e11
      rw [rdS] at he
      by_cases e : p = l.length
      · have e' : (p = l.length) = True := eq_true e
        rw [if_pos e] at he
        with_reducible refine xm_go_blk b_X10_readValue_107 k_X10_readValue_107 ?_
        refine by_aload_n rfl ?_
        refine by_getf cn_174 fl_10_62 (by first | exact rfl | assumption | exact ps_14 hpp) (by decide) ?_
        simp (disch := first | exact Nat.ne_of_beq_eq_false rfl | exact rfl | omega) only [nI_add, xa_sub, xa_mul, pk_div, nm_mod, xa_shr, xa_and7, xa_and1, xa_and255, xa_by_and, nI_m1, Nat.add_sub_cancel, Nat.reducePow, Nat.zero_add, Nat.add_zero, Nat.reduceAdd, Nat.reduceMul, Nat.reduceSub, xf_same, xq_ff, xq_fo, xf_1, xf_2, xs_1, xs_2, xs_same, xq_so, xj_1, xj_2, xj_same, xq_jo, xq_sa1, xq_same, xq_other, upd_s, oI_n, oI_s, e11, r2.2.1, e']
        refine by_if_ne 127 rfl ?_
        simp (disch := first | exact Nat.ne_of_beq_eq_false rfl | exact rfl | omega) only [nI_add, xa_sub, xa_mul, pk_div, nm_mod, xa_shr, xa_and7, xa_and1, xa_and255, xa_by_and, nI_m1, Nat.add_sub_cancel, Nat.reducePow, Nat.zero_add, Nat.add_zero, Nat.reduceAdd, Nat.reduceMul, Nat.reduceSub, xf_same, xq_ff, xq_fo, xf_1, xf_2, xs_1, xs_2, xs_same, xq_so, xj_1, xj_2, xj_same, xq_jo, xq_sa1, xq_same, xq_other, upd_s, oI_n, oI_s, xv_0, xv_1, xv_2, xv_3, xm_p1, xm_p2, xq_fp, xq_fn, List.filter_nil, Nat.reduceBEq, Bool.not_true, Bool.not_false, Bool.and_true, Bool.and_false, Bool.false_and, Bool.true_and, if_true, if_false, Bool.false_eq_true, reduceIte, xc_i, xc_j, xc_r, xc_n, List.nil_append, List.cons_append, Option.toList_some, Option.toList_none, nI_ltJ, nI_leJ, nI_eqJ, nI_ltz, nI_gez, nI_gtz, nI_lez, nI_eqz, m1_ltz, m1_gez, true_imp_iff, false_imp_iff, true_and, and_true, ne_eq, not_false_eq_true, not_true_eq_false, Nat.reduceEqDiff, Nat.reduceLT, Nat.reduceLeDiff, e11, r2.2.1, e']
        with_reducible refine xm_go_blk b_X10_readValue_114 k_X10_readValue_114 ?_
        refine by_iload rfl ?_
        refine by_aload_n rfl ?_
        refine by_getf cn_174 fl_10_65 (by first | exact rfl | assumption | exact ps_12 hpp) (by decide) ?_
        simp (disch := first | exact Nat.ne_of_beq_eq_false rfl | exact rfl | omega) only [nI_add, xa_sub, xa_mul, pk_div, nm_mod, xa_shr, xa_and7, xa_and1, xa_and255, xa_by_and, nI_m1, Nat.add_sub_cancel, Nat.reducePow, Nat.zero_add, Nat.add_zero, Nat.reduceAdd, Nat.reduceMul, Nat.reduceSub, xf_same, xq_ff, xq_fo, xf_1, xf_2, xs_1, xs_2, xs_same, xq_so, xj_1, xj_2, xj_same, xq_jo, xq_sa1, xq_same, xq_other, upd_s, oI_n, oI_s, e11, r2.2.1, e']
        refine by_ic_ne 127 rfl ?_
        simp (disch := first | exact Nat.ne_of_beq_eq_false rfl | exact rfl | omega) only [nI_add, xa_sub, xa_mul, pk_div, nm_mod, xa_shr, xa_and7, xa_and1, xa_and255, xa_by_and, nI_m1, Nat.add_sub_cancel, Nat.reducePow, Nat.zero_add, Nat.add_zero, Nat.reduceAdd, Nat.reduceMul, Nat.reduceSub, xf_same, xq_ff, xq_fo, xf_1, xf_2, xs_1, xs_2, xs_same, xq_so, xj_1, xj_2, xj_same, xq_jo, xq_sa1, xq_same, xq_other, upd_s, oI_n, oI_s, xv_0, xv_1, xv_2, xv_3, xm_p1, xm_p2, xq_fp, xq_fn, List.filter_nil, Nat.reduceBEq, Bool.not_true, Bool.not_false, Bool.and_true, Bool.and_false, Bool.false_and, Bool.true_and, if_true, if_false, Bool.false_eq_true, reduceIte, xc_i, xc_j, xc_r, xc_n, List.nil_append, List.cons_append, Option.toList_some, Option.toList_none, nI_ltJ, nI_leJ, nI_eqJ, nI_ltz, nI_gez, nI_gtz, nI_lez, nI_eqz, m1_ltz, m1_gez, true_imp_iff, false_imp_iff, true_and, and_true, ne_eq, not_false_eq_true, not_true_eq_false, Nat.reduceEqDiff, Nat.reduceLT, Nat.reduceLeDiff, e11, r2.2.1, e']
        with_reducible refine xm_go_blk b_X10_readValue_123 k_X10_readValue_123 ?_
        refine by_iconst ci_1 ?_
        refine by_goto 128 rfl ?_
        with_reducible refine xm_go_blk b_X10_readValue_128 k_X10_readValue_128 ?_
        refine by_iret ry_174 (by first | rfl | assumption) ?_
        exact h1 h2 bl he.symm (by simpa [wiT] using hwt) f2 p2
      · have e' : (p = l.length) = False := eq_false e
        rw [if_neg e] at he
        with_reducible refine xm_go_blk b_X10_readValue_107 k_X10_readValue_107 ?_
        refine by_aload_n rfl ?_
        refine by_getf cn_174 fl_10_62 (by first | exact rfl | assumption | exact ps_14 hpp) (by decide) ?_
        simp (disch := first | exact Nat.ne_of_beq_eq_false rfl | exact rfl | omega) only [nI_add, xa_sub, xa_mul, pk_div, nm_mod, xa_shr, xa_and7, xa_and1, xa_and255, xa_by_and, nI_m1, Nat.add_sub_cancel, Nat.reducePow, Nat.zero_add, Nat.add_zero, Nat.reduceAdd, Nat.reduceMul, Nat.reduceSub, xf_same, xq_ff, xq_fo, xf_1, xf_2, xs_1, xs_2, xs_same, xq_so, xj_1, xj_2, xj_same, xq_jo, xq_sa1, xq_same, xq_other, upd_s, oI_n, oI_s, e11, r2.2.1, e']
        refine by_if_ne 127 rfl ?_
        simp (disch := first | exact Nat.ne_of_beq_eq_false rfl | exact rfl | omega) only [nI_add, xa_sub, xa_mul, pk_div, nm_mod, xa_shr, xa_and7, xa_and1, xa_and255, xa_by_and, nI_m1, Nat.add_sub_cancel, Nat.reducePow, Nat.zero_add, Nat.add_zero, Nat.reduceAdd, Nat.reduceMul, Nat.reduceSub, xf_same, xq_ff, xq_fo, xf_1, xf_2, xs_1, xs_2, xs_same, xq_so, xj_1, xj_2, xj_same, xq_jo, xq_sa1, xq_same, xq_other, upd_s, oI_n, oI_s, xv_0, xv_1, xv_2, xv_3, xm_p1, xm_p2, xq_fp, xq_fn, List.filter_nil, Nat.reduceBEq, Bool.not_true, Bool.not_false, Bool.and_true, Bool.and_false, Bool.false_and, Bool.true_and, if_true, if_false, Bool.false_eq_true, reduceIte, xc_i, xc_j, xc_r, xc_n, List.nil_append, List.cons_append, Option.toList_some, Option.toList_none, nI_ltJ, nI_leJ, nI_eqJ, nI_ltz, nI_gez, nI_gtz, nI_lez, nI_eqz, m1_ltz, m1_gez, true_imp_iff, false_imp_iff, true_and, and_true, ne_eq, not_false_eq_true, not_true_eq_false, Nat.reduceEqDiff, Nat.reduceLT, Nat.reduceLeDiff, e11, r2.2.1, e']
        with_reducible refine xm_go_blk b_X10_readValue_114 k_X10_readValue_114 ?_
        refine by_iload rfl ?_
        refine by_aload_n rfl ?_
        refine by_getf cn_174 fl_10_65 (by first | exact rfl | assumption | exact ps_12 hpp) (by decide) ?_
        simp (disch := first | exact Nat.ne_of_beq_eq_false rfl | exact rfl | omega) only [nI_add, xa_sub, xa_mul, pk_div, nm_mod, xa_shr, xa_and7, xa_and1, xa_and255, xa_by_and, nI_m1, Nat.add_sub_cancel, Nat.reducePow, Nat.zero_add, Nat.add_zero, Nat.reduceAdd, Nat.reduceMul, Nat.reduceSub, xf_same, xq_ff, xq_fo, xf_1, xf_2, xs_1, xs_2, xs_same, xq_so, xj_1, xj_2, xj_same, xq_jo, xq_sa1, xq_same, xq_other, upd_s, oI_n, oI_s, e11, r2.2.1, e']
        refine by_ic_ne 127 rfl ?_
        simp (disch := first | exact Nat.ne_of_beq_eq_false rfl | exact rfl | omega) only [nI_add, xa_sub, xa_mul, pk_div, nm_mod, xa_shr, xa_and7, xa_and1, xa_and255, xa_by_and, nI_m1, Nat.add_sub_cancel, Nat.reducePow, Nat.zero_add, Nat.add_zero, Nat.reduceAdd, Nat.reduceMul, Nat.reduceSub, xf_same, xq_ff, xq_fo, xf_1, xf_2, xs_1, xs_2, xs_same, xq_so, xj_1, xj_2, xj_same, xq_jo, xq_sa1, xq_same, xq_other, upd_s, oI_n, oI_s, xv_0, xv_1, xv_2, xv_3, xm_p1, xm_p2, xq_fp, xq_fn, List.filter_nil, Nat.reduceBEq, Bool.not_true, Bool.not_false, Bool.and_true, Bool.and_false, Bool.false_and, Bool.true_and, if_true, if_false, Bool.false_eq_true, reduceIte, xc_i, xc_j, xc_r, xc_n, List.nil_append, List.cons_append, Option.toList_some, Option.toList_none, nI_ltJ, nI_leJ, nI_eqJ, nI_ltz, nI_gez, nI_gtz, nI_lez, nI_eqz, m1_ltz, m1_gez, true_imp_iff, false_imp_iff, true_and, and_true, ne_eq, not_false_eq_true, not_true_eq_false, Nat.reduceEqDiff, Nat.reduceLT, Nat.reduceLeDiff, e11, r2.2.1, e']
        with_reducible refine xm_go_blk b_X10_readValue_127 k_X10_readValue_127 ?_
        refine by_iconst ci_0 ?_
        refine by_nil ?_
        with_reducible refine xm_go_blk b_X10_readValue_128 k_X10_readValue_128 ?_
        refine by_iret ry_174 (by first | rfl | assumption) ?_
        exact h0 h2 he.symm f2
    · simp only [List.length_cons] at e11 hlen
      have := hq (by simp)
      subst this
      rw [rdS_1] at he
      have hne : (q.length + 1 = 0) = False := eq_false (by omega)
      with_reducible refine xm_go_blk b_X10_readValue_107 k_X10_readValue_107 ?_
      refine by_aload_n rfl ?_
      refine by_getf cn_174 fl_10_62 (by first | exact rfl | assumption | exact ps_14 hpp) (by decide) ?_
      simp (disch := first | exact Nat.ne_of_beq_eq_false rfl | exact rfl | omega) only [nI_add, xa_sub, xa_mul, pk_div, nm_mod, xa_shr, xa_and7, xa_and1, xa_and255, xa_by_and, nI_m1, Nat.add_sub_cancel, Nat.reducePow, Nat.zero_add, Nat.add_zero, Nat.reduceAdd, Nat.reduceMul, Nat.reduceSub, xf_same, xq_ff, xq_fo, xf_1, xf_2, xs_1, xs_2, xs_same, xq_so, xj_1, xj_2, xj_same, xq_jo, xq_sa1, xq_same, xq_other, upd_s, oI_n, oI_s, e11, hne]
      refine by_if_ne 127 rfl ?_
      simp (disch := first | exact Nat.ne_of_beq_eq_false rfl | exact rfl | omega) only [nI_add, xa_sub, xa_mul, pk_div, nm_mod, xa_shr, xa_and7, xa_and1, xa_and255, xa_by_and, nI_m1, Nat.add_sub_cancel, Nat.reducePow, Nat.zero_add, Nat.add_zero, Nat.reduceAdd, Nat.reduceMul, Nat.reduceSub, xf_same, xq_ff, xq_fo, xf_1, xf_2, xs_1, xs_2, xs_same, xq_so, xj_1, xj_2, xj_same, xq_jo, xq_sa1, xq_same, xq_other, upd_s, oI_n, oI_s, xv_0, xv_1, xv_2, xv_3, xm_p1, xm_p2, xq_fp, xq_fn, List.filter_nil, Nat.reduceBEq, Bool.not_true, Bool.not_false, Bool.and_true, Bool.and_false, Bool.false_and, Bool.true_and, if_true, if_false, Bool.false_eq_true, reduceIte, xc_i, xc_j, xc_r, xc_n, List.nil_append, List.cons_append, Option.toList_some, Option.toList_none, nI_ltJ, nI_leJ, nI_eqJ, nI_ltz, nI_gez, nI_gtz, nI_lez, nI_eqz, m1_ltz, m1_gez, true_imp_iff, false_imp_iff, true_and, and_true, ne_eq, not_false_eq_true, not_true_eq_false, Nat.reduceEqDiff, Nat.reduceLT, Nat.reduceLeDiff, e11, hne]
      with_reducible refine xm_go_blk b_X10_readValue_127 k_X10_readValue_127 ?_
      refine by_iconst ci_0 ?_
      refine by_nil ?_
      with_reducible refine xm_go_blk b_X10_readValue_128 k_X10_readValue_128 ?_
      refine by_iret ry_174 (by first | rfl | assumption) ?_
      exact h0 h2 he.symm f2
  have key : ∀ (f : Nat) (q : List itm) (p tn : Nat) (bl : List Nat) (h2 : xm_H), tn + f = 8193 → p ≤ l.length → rdS l (f + 1) q p bl = rdS l 8194 [.inr (tr t)] 0 [] → bl.length + wiT q = ty_w (tr t) → Fr [6, pp + 24] (rdT pp) h h2 → penB h2 bl → xSt h2 pp cn tr q → xm_go (XE sc) (xm_T (XE sc) (d + 5)) 174 post 16 [(5, .int (nI tn)), (4, .int (nI p)), (0, .ref (pp + 14)), (1, .ref 1), (3, .ref 5)] [] h2 := by
    intro f
    induction f with
    | zero =>
      intro q p tn bl h2 hf hp he hwt f2 p2 s2
      have : tn = 8193 := by omega
      subst this
      with_reducible refine xm_go_blk b_X10_readValue_16 k_X10_readValue_16 ?_
      refine by_iload rfl ?_
      refine by_sipush cs_8192 ?_
      refine by_ic_gt 107 rfl ?_
      simp (disch := first | exact Nat.ne_of_beq_eq_false rfl | exact rfl | omega) only [nI_add, xa_sub, xa_mul, pk_div, nm_mod, xa_shr, xa_and7, xa_and1, xa_and255, xa_by_and, nI_m1, Nat.add_sub_cancel, Nat.reducePow, Nat.zero_add, Nat.add_zero, Nat.reduceAdd, Nat.reduceMul, Nat.reduceSub, xf_same, xq_ff, xq_fo, xf_1, xf_2, xs_1, xs_2, xs_same, xq_so, xj_1, xj_2, xj_same, xq_jo, xq_sa1, xq_same, xq_other, upd_s, oI_n, oI_s, xv_0, xv_1, xv_2, xv_3, xm_p1, xm_p2, xq_fp, xq_fn, List.filter_nil, Nat.reduceBEq, Bool.not_true, Bool.not_false, Bool.and_true, Bool.and_false, Bool.false_and, Bool.true_and, if_true, if_false, Bool.false_eq_true, reduceIte, xc_i, xc_j, xc_r, xc_n, List.nil_append, List.cons_append, Option.toList_some, Option.toList_none, nI_ltJ, nI_leJ, nI_eqJ, nI_ltz, nI_gez, nI_gtz, nI_lez, nI_eqz, m1_ltz, m1_gez, true_imp_iff, false_imp_iff, true_and, and_true, ne_eq, not_false_eq_true, not_true_eq_false, Nat.reduceEqDiff, Nat.reduceLT, Nat.reduceLeDiff]
      exact xm_go_wk (by simp [Value.category]) (hend q p 8193 0 bl h2 hp he (fun _ => rfl) hwt f2 p2 s2)
    | succ f ih =>
      intro q p tn bl h2 hf hp he hwt f2 p2 s2
      have F2 := Fr_XF hF f2 (rdT_fin hpp)
      have hlen := xStk_len s2.2
      obtain _ | ⟨x, q⟩ := q
      · have e11 := s2.1
        simp only [List.length_nil] at e11
        with_reducible refine xm_go_blk b_X10_readValue_16 k_X10_readValue_16 ?_
        refine by_iload rfl ?_
        refine by_sipush cs_8192 ?_
        refine by_ic_gt 107 rfl ?_
        simp (disch := first | exact Nat.ne_of_beq_eq_false rfl | exact rfl | omega) only [nI_add, xa_sub, xa_mul, pk_div, nm_mod, xa_shr, xa_and7, xa_and1, xa_and255, xa_by_and, nI_m1, Nat.add_sub_cancel, Nat.reducePow, Nat.zero_add, Nat.add_zero, Nat.reduceAdd, Nat.reduceMul, Nat.reduceSub, xf_same, xq_ff, xq_fo, xf_1, xf_2, xs_1, xs_2, xs_same, xq_so, xj_1, xj_2, xj_same, xq_jo, xq_sa1, xq_same, xq_other, upd_s, oI_n, oI_s, xv_0, xv_1, xv_2, xv_3, xm_p1, xm_p2, xq_fp, xq_fn, List.filter_nil, Nat.reduceBEq, Bool.not_true, Bool.not_false, Bool.and_true, Bool.and_false, Bool.false_and, Bool.true_and, if_true, if_false, Bool.false_eq_true, reduceIte, xc_i, xc_j, xc_r, xc_n, List.nil_append, List.cons_append, Option.toList_some, Option.toList_none, nI_ltJ, nI_leJ, nI_eqJ, nI_ltz, nI_gez, nI_gtz, nI_lez, nI_eqz, m1_ltz, m1_gez, true_imp_iff, false_imp_iff, true_and, and_true, ne_eq, not_false_eq_true, not_true_eq_false, Nat.reduceEqDiff, Nat.reduceLT, Nat.reduceLeDiff, e11]
        refine ⟨fun c => absurd c (by omega), fun c16 => ?_⟩
        with_reducible refine xm_go_blk b_X10_readValue_24 k_X10_readValue_24 ?_
        refine by_aload_n rfl ?_
        refine by_getf cn_174 fl_10_62 (by first | exact rfl | assumption | exact ps_14 hpp) (by decide) ?_
        simp (disch := first | exact Nat.ne_of_beq_eq_false rfl | exact rfl | omega) only [nI_add, xa_sub, xa_mul, pk_div, nm_mod, xa_shr, xa_and7, xa_and1, xa_and255, xa_by_and, nI_m1, Nat.add_sub_cancel, Nat.reducePow, Nat.zero_add, Nat.add_zero, Nat.reduceAdd, Nat.reduceMul, Nat.reduceSub, xf_same, xq_ff, xq_fo, xf_1, xf_2, xs_1, xs_2, xs_same, xq_so, xj_1, xj_2, xj_same, xq_jo, xq_sa1, xq_same, xq_other, upd_s, oI_n, oI_s, e11]
        refine by_if_le 107 rfl ?_
        simp (disch := first | exact Nat.ne_of_beq_eq_false rfl | exact rfl | omega) only [nI_add, xa_sub, xa_mul, pk_div, nm_mod, xa_shr, xa_and7, xa_and1, xa_and255, xa_by_and, nI_m1, Nat.add_sub_cancel, Nat.reducePow, Nat.zero_add, Nat.add_zero, Nat.reduceAdd, Nat.reduceMul, Nat.reduceSub, xf_same, xq_ff, xq_fo, xf_1, xf_2, xs_1, xs_2, xs_same, xq_so, xj_1, xj_2, xj_same, xq_jo, xq_sa1, xq_same, xq_other, upd_s, oI_n, oI_s, xv_0, xv_1, xv_2, xv_3, xm_p1, xm_p2, xq_fp, xq_fn, List.filter_nil, Nat.reduceBEq, Bool.not_true, Bool.not_false, Bool.and_true, Bool.and_false, Bool.false_and, Bool.true_and, if_true, if_false, Bool.false_eq_true, reduceIte, xc_i, xc_j, xc_r, xc_n, List.nil_append, List.cons_append, Option.toList_some, Option.toList_none, nI_ltJ, nI_leJ, nI_eqJ, nI_ltz, nI_gez, nI_gtz, nI_lez, nI_eqz, m1_ltz, m1_gez, true_imp_iff, false_imp_iff, true_and, and_true, ne_eq, not_false_eq_true, not_true_eq_false, Nat.reduceEqDiff, Nat.reduceLT, Nat.reduceLeDiff, e11]
        exact xm_go_wk (by simp [Value.category]) (hend [] p tn (f + 1) bl h2 hp he (fun z => absurd rfl z) hwt f2 p2 s2)
      have e11 := s2.1
      simp only [List.length_cons] at e11 hlen
      have f3 : Fr [] [(pp + 14, 11)] h2 (xm_sf h2 (pp + 14) 11 (.int (nI q.length))) := Fr_sf Fr_rf (by simp)
      have F3 := Fr_XF F2 f3 (sy_fin hpp)
      have p3 : penB (xm_sf h2 (pp + 14) 11 (.int (nI q.length))) bl := penB_fr p2 f3 (by simp) (by simp <;> omega) (by simp <;> omega) (by simp <;> omega)
      have f03 : Fr [6, pp + 24] (rdT pp) h (xm_sf h2 (pp + 14) 11 (.int (nI q.length))) := Fr_tr f2 f3 (by simp) (by simp [rdT])
      have e3 : (xm_sf h2 (pp + 14) 11 (.int (nI q.length))).2.2 (pp + 14) 11 = .int (nI q.length) := by simp only [xf_same]
      have r3 : rowIs (xm_sf h2 (pp + 14) 11 (.int (nI q.length))) 1 2 l := rowIs_fr hrow f03 (by simp <;> omega) (by simp [rdT] <;> omega) (by simp [rdT] <;> omega)
      rcases x with c | ty
      · obtain ⟨⟨c1, c2, c3, c4⟩, s3⟩ := s2.2
        have g := ng_lt c2 c3
        have S3 : xSt (xm_sf h2 (pp + 14) 11 (.int (nI q.length))) pp cn tr q := ⟨e3, xStk_o s3 (fun _ _ => rfl)⟩
        have bl2 : l.getD p 0 < 256 := by
          by_cases e : p < l.length
          · exact rowIs_lt hrow e
          · rw [gN_out (by omega)]; decide
        simp only [wiT] at hwt
        rw [rdS] at he
        with_reducible refine xm_go_blk b_X10_readValue_16 k_X10_readValue_16 ?_
        refine by_iload rfl ?_
        refine by_sipush cs_8192 ?_
        refine by_ic_gt 107 rfl ?_
        simp (disch := first | exact Nat.ne_of_beq_eq_false rfl | exact rfl | omega) only [nI_add, xa_sub, xa_mul, pk_div, nm_mod, xa_shr, xa_and7, xa_and1, xa_and255, xa_by_and, nI_m1, Nat.add_sub_cancel, Nat.reducePow, Nat.zero_add, Nat.add_zero, Nat.reduceAdd, Nat.reduceMul, Nat.reduceSub, xf_same, xq_ff, xq_fo, xf_1, xf_2, xs_1, xs_2, xs_same, xq_so, xj_1, xj_2, xj_same, xq_jo, xq_sa1, xq_same, xq_other, upd_s, oI_n, oI_s, xv_0, xv_1, xv_2, xv_3, xm_p1, xm_p2, xq_fp, xq_fn, List.filter_nil, Nat.reduceBEq, Bool.not_true, Bool.not_false, Bool.and_true, Bool.and_false, Bool.false_and, Bool.true_and, if_true, if_false, Bool.false_eq_true, reduceIte, xc_i, xc_j, xc_r, xc_n, List.nil_append, List.cons_append, Option.toList_some, Option.toList_none, nI_ltJ, nI_leJ, nI_eqJ, nI_ltz, nI_gez, nI_gtz, nI_lez, nI_eqz, m1_ltz, m1_gez, true_imp_iff, false_imp_iff, true_and, and_true, ne_eq, not_false_eq_true, not_true_eq_false, Nat.reduceEqDiff, Nat.reduceLT, Nat.reduceLeDiff, e11, pt_10 F2 hpp, c1, g]
        refine ⟨fun c => absurd c (by omega), fun c16 => ?_⟩
        with_reducible refine xm_go_blk b_X10_readValue_24 k_X10_readValue_24 ?_
        refine by_aload_n rfl ?_
        refine by_getf cn_174 fl_10_62 (by first | exact rfl | assumption | exact ps_14 hpp) (by decide) ?_
        simp (disch := first | exact Nat.ne_of_beq_eq_false rfl | exact rfl | omega) only [nI_add, xa_sub, xa_mul, pk_div, nm_mod, xa_shr, xa_and7, xa_and1, xa_and255, xa_by_and, nI_m1, Nat.add_sub_cancel, Nat.reducePow, Nat.zero_add, Nat.add_zero, Nat.reduceAdd, Nat.reduceMul, Nat.reduceSub, xf_same, xq_ff, xq_fo, xf_1, xf_2, xs_1, xs_2, xs_same, xq_so, xj_1, xj_2, xj_same, xq_jo, xq_sa1, xq_same, xq_other, upd_s, oI_n, oI_s, e11, pt_10 F2 hpp, c1, g]
        refine by_if_le 107 rfl ?_
        simp (disch := first | exact Nat.ne_of_beq_eq_false rfl | exact rfl | omega) only [nI_add, xa_sub, xa_mul, pk_div, nm_mod, xa_shr, xa_and7, xa_and1, xa_and255, xa_by_and, nI_m1, Nat.add_sub_cancel, Nat.reducePow, Nat.zero_add, Nat.add_zero, Nat.reduceAdd, Nat.reduceMul, Nat.reduceSub, xf_same, xq_ff, xq_fo, xf_1, xf_2, xs_1, xs_2, xs_same, xq_so, xj_1, xj_2, xj_same, xq_jo, xq_sa1, xq_same, xq_other, upd_s, oI_n, oI_s, xv_0, xv_1, xv_2, xv_3, xm_p1, xm_p2, xq_fp, xq_fn, List.filter_nil, Nat.reduceBEq, Bool.not_true, Bool.not_false, Bool.and_true, Bool.and_false, Bool.false_and, Bool.true_and, if_true, if_false, Bool.false_eq_true, reduceIte, xc_i, xc_j, xc_r, xc_n, List.nil_append, List.cons_append, Option.toList_some, Option.toList_none, nI_ltJ, nI_leJ, nI_eqJ, nI_ltz, nI_gez, nI_gtz, nI_lez, nI_eqz, m1_ltz, m1_gez, true_imp_iff, false_imp_iff, true_and, and_true, ne_eq, not_false_eq_true, not_true_eq_false, Nat.reduceEqDiff, Nat.reduceLT, Nat.reduceLeDiff, e11, pt_10 F2 hpp, c1, g]
        with_reducible refine xm_go_blk b_X10_readValue_31 k_X10_readValue_31 ?_
        refine by_aload_n rfl ?_
        refine by_dup rfl ?_
        refine by_getf cn_174 fl_10_62 (by first | exact rfl | assumption | exact ps_14 hpp) (by decide) ?_
        refine by_iconst ci_1 ?_
        simp (disch := first | exact Nat.ne_of_beq_eq_false rfl | exact rfl | omega) only [nI_add, xa_sub, xa_mul, pk_div, nm_mod, xa_shr, xa_and7, xa_and1, xa_and255, xa_by_and, nI_m1, Nat.add_sub_cancel, Nat.reducePow, Nat.zero_add, Nat.add_zero, Nat.reduceAdd, Nat.reduceMul, Nat.reduceSub, xf_same, xq_ff, xq_fo, xf_1, xf_2, xs_1, xs_2, xs_same, xq_so, xj_1, xj_2, xj_same, xq_jo, xq_sa1, xq_same, xq_other, upd_s, oI_n, oI_s, e11, pt_10 F2 hpp, c1, g]
        refine by_isub ?_
        refine by_putf cn_174 fl_10_62 (by first | exact rfl | assumption | exact ps_14 hpp) (by decide) nf_10_11 ft_10_11 (by first | rfl | assumption) (by first | rfl | assumption) ?_
        refine by_aload_n rfl ?_
        refine by_getf cn_174 fl_10_40 (by first | exact rfl | assumption | exact ps_14 hpp) (by decide) ?_
        refine by_aload_n rfl ?_
        refine by_getf cn_174 fl_10_62 (by first | exact rfl | assumption | exact ps_14 hpp) (by decide) ?_
        simp (disch := first | exact Nat.ne_of_beq_eq_false rfl | exact rfl | omega) only [nI_add, xa_sub, xa_mul, pk_div, nm_mod, xa_shr, xa_and7, xa_and1, xa_and255, xa_by_and, nI_m1, Nat.add_sub_cancel, Nat.reducePow, Nat.zero_add, Nat.add_zero, Nat.reduceAdd, Nat.reduceMul, Nat.reduceSub, xf_same, xq_ff, xq_fo, xf_1, xf_2, xs_1, xs_2, xs_same, xq_so, xj_1, xj_2, xj_same, xq_jo, xq_sa1, xq_same, xq_other, upd_s, oI_n, oI_s, e11, pt_10 F2 hpp, c1, g]
        first | refine by_iald (by first | exact rfl | assumption | exact ps_1 hpp | exact ps_2 hpp | exact ps_3 hpp | exact ps_4 hpp | exact ps_5 hpp | exact ps_6 hpp | exact ps_7 hpp | exact ps_8 hpp | exact ps_9 hpp | exact ps_10 hpp | exact ps_11 hpp | exact ps_15 hpp | exact ps_16 hpp | exact ps_17 hpp | exact ps_18 hpp | exact ps_19 hpp | exact ps_21 hpp | exact ps_22 hpp | exact ps_23 hpp | exact ps_24 hpp) ⟨by omega, by omega⟩ ?_ | refine by_tald rfl rfl ⟨by omega, by omega⟩ ?_
        refine by_istore (by rw [ml_174]; decide) ?_
        refine by_iload rfl ?_
        refine by_if_lt 72 rfl ?_
        simp (disch := first | exact Nat.ne_of_beq_eq_false rfl | exact rfl | omega) only [nI_add, xa_sub, xa_mul, pk_div, nm_mod, xa_shr, xa_and7, xa_and1, xa_and255, xa_by_and, nI_m1, Nat.add_sub_cancel, Nat.reducePow, Nat.zero_add, Nat.add_zero, Nat.reduceAdd, Nat.reduceMul, Nat.reduceSub, xf_same, xq_ff, xq_fo, xf_1, xf_2, xs_1, xs_2, xs_same, xq_so, xj_1, xj_2, xj_same, xq_jo, xq_sa1, xq_same, xq_other, upd_s, oI_n, oI_s, xv_0, xv_1, xv_2, xv_3, xm_p1, xm_p2, xq_fp, xq_fn, List.filter_nil, Nat.reduceBEq, Bool.not_true, Bool.not_false, Bool.and_true, Bool.and_false, Bool.false_and, Bool.true_and, if_true, if_false, Bool.false_eq_true, reduceIte, xc_i, xc_j, xc_r, xc_n, List.nil_append, List.cons_append, Option.toList_some, Option.toList_none, nI_ltJ, nI_leJ, nI_eqJ, nI_ltz, nI_gez, nI_gtz, nI_lez, nI_eqz, m1_ltz, m1_gez, true_imp_iff, false_imp_iff, true_and, and_true, ne_eq, not_false_eq_true, not_true_eq_false, Nat.reduceEqDiff, Nat.reduceLT, Nat.reduceLeDiff, e11, pt_10 F2 hpp, c1, g]
        with_reducible refine xm_go_blk b_X10_readValue_72 k_X10_readValue_72 ?_
        refine by_aload_n rfl ?_
        refine by_iload rfl ?_
        refine by_inv1 cn_174 lk_10_111 (by rw [xe_cnt]; decide) is_126 np_126 cn_126 (by first | exact rfl | assumption | exact ps_12 hpp) (Nat.le_of_ble_eq_true rfl) ?_
        refine sp_atL sh_1 sh_2 r3 (by omega) ?_
        by_cases e : l.getD p 0 = c
        · have e' : (l.getD p 0 = c) = True := eq_true e
          have hpl : p < l.length := Nat.lt_of_not_le (fun z => by rw [gN_out z] at e; omega)
          rw [if_pos e] at he
          with_reducible refine xm_go_blk b_X10_readValue_78 k_X10_readValue_78 ?_
          refine by_iload rfl ?_
          refine by_ineg ?_
          refine by_ic_ne 91 rfl ?_
          simp (disch := first | exact Nat.ne_of_beq_eq_false rfl | exact rfl | omega) only [nI_add, xa_sub, xa_mul, pk_div, nm_mod, xa_shr, xa_and7, xa_and1, xa_and255, xa_by_and, nI_m1, Nat.add_sub_cancel, Nat.reducePow, Nat.zero_add, Nat.add_zero, Nat.reduceAdd, Nat.reduceMul, Nat.reduceSub, xf_same, xq_ff, xq_fo, xf_1, xf_2, xs_1, xs_2, xs_same, xq_so, xj_1, xj_2, xj_same, xq_jo, xq_sa1, xq_same, xq_other, upd_s, oI_n, oI_s, xv_0, xv_1, xv_2, xv_3, xm_p1, xm_p2, xq_fp, xq_fn, List.filter_nil, Nat.reduceBEq, Bool.not_true, Bool.not_false, Bool.and_true, Bool.and_false, Bool.false_and, Bool.true_and, if_true, if_false, Bool.false_eq_true, reduceIte, xc_i, xc_j, xc_r, xc_n, List.nil_append, List.cons_append, Option.toList_some, Option.toList_none, nI_ltJ, nI_leJ, nI_eqJ, nI_ltz, nI_gez, nI_gtz, nI_lez, nI_eqz, m1_ltz, m1_gez, true_imp_iff, false_imp_iff, true_and, and_true, ne_eq, not_false_eq_true, not_true_eq_false, Nat.reduceEqDiff, Nat.reduceLT, Nat.reduceLeDiff, Int32.neg_neg, e']
          with_reducible refine xm_go_blk b_X10_readValue_84 k_X10_readValue_84 ?_
          refine by_iload rfl ?_
          refine by_iconst ci_1 ?_
          refine by_iadd ?_
          refine by_goto 92 rfl ?_
          try simp (disch := first | exact Nat.ne_of_beq_eq_false rfl | exact rfl | omega) only [nI_add, xa_sub, xa_mul, pk_div, nm_mod, xa_shr, xa_and7, xa_and1, xa_and255, xa_by_and, nI_m1, Nat.add_sub_cancel, Nat.reducePow, Nat.zero_add, Nat.add_zero, Nat.reduceAdd, Nat.reduceMul, Nat.reduceSub, xf_same, xq_ff, xq_fo, xf_1, xf_2, xs_1, xs_2, xs_same, xq_so, xj_1, xj_2, xj_same, xq_jo, xq_sa1, xq_same, xq_other, upd_s, oI_n, oI_s, xv_0, xv_1, xv_2, xv_3, xm_p1, xm_p2, xq_fp, xq_fn, List.filter_nil, Nat.reduceBEq, Bool.not_true, Bool.not_false, Bool.and_true, Bool.and_false, Bool.false_and, Bool.true_and, if_true, if_false, Bool.false_eq_true, reduceIte, xc_i, xc_j, xc_r, xc_n, List.nil_append, List.cons_append, Option.toList_some, Option.toList_none, Int32.neg_neg, e']
          with_reducible refine xm_go_blk b_X10_readValue_92 k_X10_readValue_92 ?_
          refine by_istore (by rw [ml_174]; decide) ?_
          refine by_nil ?_
          try simp (disch := first | exact Nat.ne_of_beq_eq_false rfl | exact rfl | omega) only [nI_add, xa_sub, xa_mul, pk_div, nm_mod, xa_shr, xa_and7, xa_and1, xa_and255, xa_by_and, nI_m1, Nat.add_sub_cancel, Nat.reducePow, Nat.zero_add, Nat.add_zero, Nat.reduceAdd, Nat.reduceMul, Nat.reduceSub, xf_same, xq_ff, xq_fo, xf_1, xf_2, xs_1, xs_2, xs_same, xq_so, xj_1, xj_2, xj_same, xq_jo, xq_sa1, xq_same, xq_other, upd_s, oI_n, oI_s, xv_0, xv_1, xv_2, xv_3, xm_p1, xm_p2, xq_fp, xq_fn, List.filter_nil, Nat.reduceBEq, Bool.not_true, Bool.not_false, Bool.and_true, Bool.and_false, Bool.false_and, Bool.true_and, if_true, if_false, Bool.false_eq_true, reduceIte, xc_i, xc_j, xc_r, xc_n, List.nil_append, List.cons_append, Option.toList_some, Option.toList_none, Int32.neg_neg, e']
          with_reducible refine xm_go_blk b_X10_readValue_94 k_X10_readValue_94 ?_
          refine by_iload rfl ?_
          refine by_if_ge 101 rfl ?_
          simp (disch := first | exact Nat.ne_of_beq_eq_false rfl | exact rfl | omega) only [nI_add, xa_sub, xa_mul, pk_div, nm_mod, xa_shr, xa_and7, xa_and1, xa_and255, xa_by_and, nI_m1, Nat.add_sub_cancel, Nat.reducePow, Nat.zero_add, Nat.add_zero, Nat.reduceAdd, Nat.reduceMul, Nat.reduceSub, xf_same, xq_ff, xq_fo, xf_1, xf_2, xs_1, xs_2, xs_same, xq_so, xj_1, xj_2, xj_same, xq_jo, xq_sa1, xq_same, xq_other, upd_s, oI_n, oI_s, xv_0, xv_1, xv_2, xv_3, xm_p1, xm_p2, xq_fp, xq_fn, List.filter_nil, Nat.reduceBEq, Bool.not_true, Bool.not_false, Bool.and_true, Bool.and_false, Bool.false_and, Bool.true_and, if_true, if_false, Bool.false_eq_true, reduceIte, xc_i, xc_j, xc_r, xc_n, List.nil_append, List.cons_append, Option.toList_some, Option.toList_none, nI_ltJ, nI_leJ, nI_eqJ, nI_ltz, nI_gez, nI_gtz, nI_lez, nI_eqz, m1_ltz, m1_gez, true_imp_iff, false_imp_iff, true_and, and_true, ne_eq, not_false_eq_true, not_true_eq_false, Nat.reduceEqDiff, Nat.reduceLT, Nat.reduceLeDiff, Int32.neg_neg, e']
          with_reducible refine xm_go_blk b_X10_readValue_101 k_X10_readValue_101 ?_
          refine by_iinc (by rw [ml_174]; decide) rfl ci_1 ?_
          refine by_goto 16 rfl ?_
          try simp (disch := first | exact Nat.ne_of_beq_eq_false rfl | exact rfl | omega) only [nI_add, xa_sub, xa_mul, pk_div, nm_mod, xa_shr, xa_and7, xa_and1, xa_and255, xa_by_and, nI_m1, Nat.add_sub_cancel, Nat.reducePow, Nat.zero_add, Nat.add_zero, Nat.reduceAdd, Nat.reduceMul, Nat.reduceSub, xf_same, xq_ff, xq_fo, xf_1, xf_2, xs_1, xs_2, xs_same, xq_so, xj_1, xj_2, xj_same, xq_jo, xq_sa1, xq_same, xq_other, upd_s, oI_n, oI_s, xv_0, xv_1, xv_2, xv_3, xm_p1, xm_p2, xq_fp, xq_fn, List.filter_nil, Nat.reduceBEq, Bool.not_true, Bool.not_false, Bool.and_true, Bool.and_false, Bool.false_and, Bool.true_and, if_true, if_false, Bool.false_eq_true, reduceIte, xc_i, xc_j, xc_r, xc_n, List.nil_append, List.cons_append, Option.toList_some, Option.toList_none, Int32.neg_neg, e']
          exact xm_go_wk (by simp [Value.category]) (ih q (p + 1) (tn + 1) bl _ (by omega) (by omega) he hwt f03 p3 S3)
        · have e' : (l.getD p 0 = c) = False := eq_false e
          rw [if_neg e] at he
          with_reducible refine xm_go_blk b_X10_readValue_78 k_X10_readValue_78 ?_
          refine by_iload rfl ?_
          refine by_ineg ?_
          refine by_ic_ne 91 rfl ?_
          simp (disch := first | exact Nat.ne_of_beq_eq_false rfl | exact rfl | omega) only [nI_add, xa_sub, xa_mul, pk_div, nm_mod, xa_shr, xa_and7, xa_and1, xa_and255, xa_by_and, nI_m1, Nat.add_sub_cancel, Nat.reducePow, Nat.zero_add, Nat.add_zero, Nat.reduceAdd, Nat.reduceMul, Nat.reduceSub, xf_same, xq_ff, xq_fo, xf_1, xf_2, xs_1, xs_2, xs_same, xq_so, xj_1, xj_2, xj_same, xq_jo, xq_sa1, xq_same, xq_other, upd_s, oI_n, oI_s, xv_0, xv_1, xv_2, xv_3, xm_p1, xm_p2, xq_fp, xq_fn, List.filter_nil, Nat.reduceBEq, Bool.not_true, Bool.not_false, Bool.and_true, Bool.and_false, Bool.false_and, Bool.true_and, if_true, if_false, Bool.false_eq_true, reduceIte, xc_i, xc_j, xc_r, xc_n, List.nil_append, List.cons_append, Option.toList_some, Option.toList_none, nI_ltJ, nI_leJ, nI_eqJ, nI_ltz, nI_gez, nI_gtz, nI_lez, nI_eqz, m1_ltz, m1_gez, true_imp_iff, false_imp_iff, true_and, and_true, ne_eq, not_false_eq_true, not_true_eq_false, Nat.reduceEqDiff, Nat.reduceLT, Nat.reduceLeDiff, Int32.neg_neg, e']
          with_reducible refine xm_go_blk b_X10_readValue_91 k_X10_readValue_91 ?_
          refine by_iconst ci_m1 ?_
          refine by_nil ?_
          with_reducible refine xm_go_blk b_X10_readValue_92 k_X10_readValue_92 ?_
          refine by_istore (by rw [ml_174]; decide) ?_
          refine by_nil ?_
          try simp (disch := first | exact Nat.ne_of_beq_eq_false rfl | exact rfl | omega) only [nI_add, xa_sub, xa_mul, pk_div, nm_mod, xa_shr, xa_and7, xa_and1, xa_and255, xa_by_and, nI_m1, Nat.add_sub_cancel, Nat.reducePow, Nat.zero_add, Nat.add_zero, Nat.reduceAdd, Nat.reduceMul, Nat.reduceSub, xf_same, xq_ff, xq_fo, xf_1, xf_2, xs_1, xs_2, xs_same, xq_so, xj_1, xj_2, xj_same, xq_jo, xq_sa1, xq_same, xq_other, upd_s, oI_n, oI_s, xv_0, xv_1, xv_2, xv_3, xm_p1, xm_p2, xq_fp, xq_fn, List.filter_nil, Nat.reduceBEq, Bool.not_true, Bool.not_false, Bool.and_true, Bool.and_false, Bool.false_and, Bool.true_and, if_true, if_false, Bool.false_eq_true, reduceIte, xc_i, xc_j, xc_r, xc_n, List.nil_append, List.cons_append, Option.toList_some, Option.toList_none, Int32.neg_neg, e']
          with_reducible refine xm_go_blk b_X10_readValue_94 k_X10_readValue_94 ?_
          refine by_iload rfl ?_
          refine by_if_ge 101 rfl ?_
          simp (disch := first | exact Nat.ne_of_beq_eq_false rfl | exact rfl | omega) only [nI_add, xa_sub, xa_mul, pk_div, nm_mod, xa_shr, xa_and7, xa_and1, xa_and255, xa_by_and, nI_m1, Nat.add_sub_cancel, Nat.reducePow, Nat.zero_add, Nat.add_zero, Nat.reduceAdd, Nat.reduceMul, Nat.reduceSub, xf_same, xq_ff, xq_fo, xf_1, xf_2, xs_1, xs_2, xs_same, xq_so, xj_1, xj_2, xj_same, xq_jo, xq_sa1, xq_same, xq_other, upd_s, oI_n, oI_s, xv_0, xv_1, xv_2, xv_3, xm_p1, xm_p2, xq_fp, xq_fn, List.filter_nil, Nat.reduceBEq, Bool.not_true, Bool.not_false, Bool.and_true, Bool.and_false, Bool.false_and, Bool.true_and, if_true, if_false, Bool.false_eq_true, reduceIte, xc_i, xc_j, xc_r, xc_n, List.nil_append, List.cons_append, Option.toList_some, Option.toList_none, nI_ltJ, nI_leJ, nI_eqJ, nI_ltz, nI_gez, nI_gtz, nI_lez, nI_eqz, m1_ltz, m1_gez, true_imp_iff, false_imp_iff, true_and, and_true, ne_eq, not_false_eq_true, not_true_eq_false, Nat.reduceEqDiff, Nat.reduceLT, Nat.reduceLeDiff, Int32.neg_neg, e']
          with_reducible refine xm_go_blk b_X10_readValue_99 k_X10_readValue_99 ?_
          refine by_iconst ci_0 ?_
          refine by_iret ry_174 (by first | rfl | assumption) ?_
          exact h0 _ he.symm f03
      · obtain ⟨⟨i, _, i1, i2, i3, i4⟩, s3⟩ := s2.2
        have S3 : xSt (xm_sf h2 (pp + 14) 11 (.int (nI q.length))) pp cn tr q := ⟨e3, xStk_o s3 (fun _ _ => rfl)⟩
        have hT3 : tyT (xm_sf h2 (pp + 14) 11 (.int (nI q.length))) pp cn tr K L R := tyT_fr hT f03 (by simp [rdT] <;> omega) (by simp [taR] <;> omega)
        have tok := (hT.2.1 i i1).2.2.1
        subst i2
        simp only [wiT] at hwt
        with_reducible refine xm_go_blk b_X10_readValue_16 k_X10_readValue_16 ?_
        refine by_iload rfl ?_
        refine by_sipush cs_8192 ?_
        refine by_ic_gt 107 rfl ?_
        simp (disch := first | exact Nat.ne_of_beq_eq_false rfl | exact rfl | omega) only [nI_add, xa_sub, xa_mul, pk_div, nm_mod, xa_shr, xa_and7, xa_and1, xa_and255, xa_by_and, nI_m1, Nat.add_sub_cancel, Nat.reducePow, Nat.zero_add, Nat.add_zero, Nat.reduceAdd, Nat.reduceMul, Nat.reduceSub, xf_same, xq_ff, xq_fo, xf_1, xf_2, xs_1, xs_2, xs_same, xq_so, xj_1, xj_2, xj_same, xq_jo, xq_sa1, xq_same, xq_other, upd_s, oI_n, oI_s, xv_0, xv_1, xv_2, xv_3, xm_p1, xm_p2, xq_fp, xq_fn, List.filter_nil, Nat.reduceBEq, Bool.not_true, Bool.not_false, Bool.and_true, Bool.and_false, Bool.false_and, Bool.true_and, if_true, if_false, Bool.false_eq_true, reduceIte, xc_i, xc_j, xc_r, xc_n, List.nil_append, List.cons_append, Option.toList_some, Option.toList_none, nI_ltJ, nI_leJ, nI_eqJ, nI_ltz, nI_gez, nI_gtz, nI_lez, nI_eqz, m1_ltz, m1_gez, true_imp_iff, false_imp_iff, true_and, and_true, ne_eq, not_false_eq_true, not_true_eq_false, Nat.reduceEqDiff, Nat.reduceLT, Nat.reduceLeDiff, e11, pt_10 F2 hpp, i3]
        refine ⟨fun c => absurd c (by omega), fun c16 => ?_⟩
        with_reducible refine xm_go_blk b_X10_readValue_24 k_X10_readValue_24 ?_
        refine by_aload_n rfl ?_
        refine by_getf cn_174 fl_10_62 (by first | exact rfl | assumption | exact ps_14 hpp) (by decide) ?_
        simp (disch := first | exact Nat.ne_of_beq_eq_false rfl | exact rfl | omega) only [nI_add, xa_sub, xa_mul, pk_div, nm_mod, xa_shr, xa_and7, xa_and1, xa_and255, xa_by_and, nI_m1, Nat.add_sub_cancel, Nat.reducePow, Nat.zero_add, Nat.add_zero, Nat.reduceAdd, Nat.reduceMul, Nat.reduceSub, xf_same, xq_ff, xq_fo, xf_1, xf_2, xs_1, xs_2, xs_same, xq_so, xj_1, xj_2, xj_same, xq_jo, xq_sa1, xq_same, xq_other, upd_s, oI_n, oI_s, e11, pt_10 F2 hpp, i3]
        refine by_if_le 107 rfl ?_
        simp (disch := first | exact Nat.ne_of_beq_eq_false rfl | exact rfl | omega) only [nI_add, xa_sub, xa_mul, pk_div, nm_mod, xa_shr, xa_and7, xa_and1, xa_and255, xa_by_and, nI_m1, Nat.add_sub_cancel, Nat.reducePow, Nat.zero_add, Nat.add_zero, Nat.reduceAdd, Nat.reduceMul, Nat.reduceSub, xf_same, xq_ff, xq_fo, xf_1, xf_2, xs_1, xs_2, xs_same, xq_so, xj_1, xj_2, xj_same, xq_jo, xq_sa1, xq_same, xq_other, upd_s, oI_n, oI_s, xv_0, xv_1, xv_2, xv_3, xm_p1, xm_p2, xq_fp, xq_fn, List.filter_nil, Nat.reduceBEq, Bool.not_true, Bool.not_false, Bool.and_true, Bool.and_false, Bool.false_and, Bool.true_and, if_true, if_false, Bool.false_eq_true, reduceIte, xc_i, xc_j, xc_r, xc_n, List.nil_append, List.cons_append, Option.toList_some, Option.toList_none, nI_ltJ, nI_leJ, nI_eqJ, nI_ltz, nI_gez, nI_gtz, nI_lez, nI_eqz, m1_ltz, m1_gez, true_imp_iff, false_imp_iff, true_and, and_true, ne_eq, not_false_eq_true, not_true_eq_false, Nat.reduceEqDiff, Nat.reduceLT, Nat.reduceLeDiff, e11, pt_10 F2 hpp, i3]
        with_reducible refine xm_go_blk b_X10_readValue_31 k_X10_readValue_31 ?_
        refine by_aload_n rfl ?_
        refine by_dup rfl ?_
        refine by_getf cn_174 fl_10_62 (by first | exact rfl | assumption | exact ps_14 hpp) (by decide) ?_
        refine by_iconst ci_1 ?_
        simp (disch := first | exact Nat.ne_of_beq_eq_false rfl | exact rfl | omega) only [nI_add, xa_sub, xa_mul, pk_div, nm_mod, xa_shr, xa_and7, xa_and1, xa_and255, xa_by_and, nI_m1, Nat.add_sub_cancel, Nat.reducePow, Nat.zero_add, Nat.add_zero, Nat.reduceAdd, Nat.reduceMul, Nat.reduceSub, xf_same, xq_ff, xq_fo, xf_1, xf_2, xs_1, xs_2, xs_same, xq_so, xj_1, xj_2, xj_same, xq_jo, xq_sa1, xq_same, xq_other, upd_s, oI_n, oI_s, e11, pt_10 F2 hpp, i3]
        refine by_isub ?_
        refine by_putf cn_174 fl_10_62 (by first | exact rfl | assumption | exact ps_14 hpp) (by decide) nf_10_11 ft_10_11 (by first | rfl | assumption) (by first | rfl | assumption) ?_
        refine by_aload_n rfl ?_
        refine by_getf cn_174 fl_10_40 (by first | exact rfl | assumption | exact ps_14 hpp) (by decide) ?_
        refine by_aload_n rfl ?_
        refine by_getf cn_174 fl_10_62 (by first | exact rfl | assumption | exact ps_14 hpp) (by decide) ?_
        simp (disch := first | exact Nat.ne_of_beq_eq_false rfl | exact rfl | omega) only [nI_add, xa_sub, xa_mul, pk_div, nm_mod, xa_shr, xa_and7, xa_and1, xa_and255, xa_by_and, nI_m1, Nat.add_sub_cancel, Nat.reducePow, Nat.zero_add, Nat.add_zero, Nat.reduceAdd, Nat.reduceMul, Nat.reduceSub, xf_same, xq_ff, xq_fo, xf_1, xf_2, xs_1, xs_2, xs_same, xq_so, xj_1, xj_2, xj_same, xq_jo, xq_sa1, xq_same, xq_other, upd_s, oI_n, oI_s, e11, pt_10 F2 hpp, i3]
        first | refine by_iald (by first | exact rfl | assumption | exact ps_1 hpp | exact ps_2 hpp | exact ps_3 hpp | exact ps_4 hpp | exact ps_5 hpp | exact ps_6 hpp | exact ps_7 hpp | exact ps_8 hpp | exact ps_9 hpp | exact ps_10 hpp | exact ps_11 hpp | exact ps_15 hpp | exact ps_16 hpp | exact ps_17 hpp | exact ps_18 hpp | exact ps_19 hpp | exact ps_21 hpp | exact ps_22 hpp | exact ps_23 hpp | exact ps_24 hpp) ⟨by omega, by omega⟩ ?_ | refine by_tald rfl rfl ⟨by omega, by omega⟩ ?_
        refine by_istore (by rw [ml_174]; decide) ?_
        refine by_iload rfl ?_
        refine by_if_lt 72 rfl ?_
        simp (disch := first | exact Nat.ne_of_beq_eq_false rfl | exact rfl | omega) only [nI_add, xa_sub, xa_mul, pk_div, nm_mod, xa_shr, xa_and7, xa_and1, xa_and255, xa_by_and, nI_m1, Nat.add_sub_cancel, Nat.reducePow, Nat.zero_add, Nat.add_zero, Nat.reduceAdd, Nat.reduceMul, Nat.reduceSub, xf_same, xq_ff, xq_fo, xf_1, xf_2, xs_1, xs_2, xs_same, xq_so, xj_1, xj_2, xj_same, xq_jo, xq_sa1, xq_same, xq_other, upd_s, oI_n, oI_s, xv_0, xv_1, xv_2, xv_3, xm_p1, xm_p2, xq_fp, xq_fn, List.filter_nil, Nat.reduceBEq, Bool.not_true, Bool.not_false, Bool.and_true, Bool.and_false, Bool.false_and, Bool.true_and, if_true, if_false, Bool.false_eq_true, reduceIte, xc_i, xc_j, xc_r, xc_n, List.nil_append, List.cons_append, Option.toList_some, Option.toList_none, nI_ltJ, nI_leJ, nI_eqJ, nI_ltz, nI_gez, nI_gtz, nI_lez, nI_eqz, m1_ltz, m1_gez, true_imp_iff, false_imp_iff, true_and, and_true, ne_eq, not_false_eq_true, not_true_eq_false, Nat.reduceEqDiff, Nat.reduceLT, Nat.reduceLeDiff, e11, pt_10 F2 hpp, i3]
        with_reducible refine xm_go_blk b_X10_readValue_57 k_X10_readValue_57 ?_
        refine by_aload_n rfl ?_
        refine by_aload_n rfl ?_
        refine by_iload rfl ?_
        refine by_iload rfl ?_
        refine by_aload_n rfl ?_
        refine by_inv4 cn_174 lk_10_108 (by rw [xe_cnt]; decide) is_173 np_173 cn_173 (by first | exact rfl | assumption | exact ps_14 hpp) (Nat.le_of_ble_eq_true rfl) ?_
        refine rp_all (d := d) (l := l) (bl := bl) (q := q) F3 hpp hT3 hcn i1 r3 (by omega) (by omega) p3 S3 i4 ⟨fun h4 p' b its er f4 p4 S4 => ?_, fun h4 er f4 => ?_⟩
        · obtain ⟨u1, u2, u3⟩ := rdP_sp tok er
          rw [rdS_t er] at he
          with_reducible refine xm_go_blk b_X10_readValue_67 k_X10_readValue_67 ?_
          refine by_istore (by rw [ml_174]; decide) ?_
          refine by_goto 94 rfl ?_
          try simp (disch := first | exact Nat.ne_of_beq_eq_false rfl | exact rfl | omega) only [nI_add, xa_sub, xa_mul, pk_div, nm_mod, xa_shr, xa_and7, xa_and1, xa_and255, xa_by_and, nI_m1, Nat.add_sub_cancel, Nat.reducePow, Nat.zero_add, Nat.add_zero, Nat.reduceAdd, Nat.reduceMul, Nat.reduceSub, xf_same, xq_ff, xq_fo, xf_1, xf_2, xs_1, xs_2, xs_same, xq_so, xj_1, xj_2, xj_same, xq_jo, xq_sa1, xq_same, xq_other, upd_s, oI_n, oI_s, xv_0, xv_1, xv_2, xv_3, xm_p1, xm_p2, xq_fp, xq_fn, List.filter_nil, Nat.reduceBEq, Bool.not_true, Bool.not_false, Bool.and_true, Bool.and_false, Bool.false_and, Bool.true_and, if_true, if_false, Bool.false_eq_true, reduceIte, xc_i, xc_j, xc_r, xc_n, List.nil_append, List.cons_append, Option.toList_some, Option.toList_none]
          with_reducible refine xm_go_blk b_X10_readValue_94 k_X10_readValue_94 ?_
          refine by_iload rfl ?_
          refine by_if_ge 101 rfl ?_
          simp (disch := first | exact Nat.ne_of_beq_eq_false rfl | exact rfl | omega) only [nI_add, xa_sub, xa_mul, pk_div, nm_mod, xa_shr, xa_and7, xa_and1, xa_and255, xa_by_and, nI_m1, Nat.add_sub_cancel, Nat.reducePow, Nat.zero_add, Nat.add_zero, Nat.reduceAdd, Nat.reduceMul, Nat.reduceSub, xf_same, xq_ff, xq_fo, xf_1, xf_2, xs_1, xs_2, xs_same, xq_so, xj_1, xj_2, xj_same, xq_jo, xq_sa1, xq_same, xq_other, upd_s, oI_n, oI_s, xv_0, xv_1, xv_2, xv_3, xm_p1, xm_p2, xq_fp, xq_fn, List.filter_nil, Nat.reduceBEq, Bool.not_true, Bool.not_false, Bool.and_true, Bool.and_false, Bool.false_and, Bool.true_and, if_true, if_false, Bool.false_eq_true, reduceIte, xc_i, xc_j, xc_r, xc_n, List.nil_append, List.cons_append, Option.toList_some, Option.toList_none, nI_ltJ, nI_leJ, nI_eqJ, nI_ltz, nI_gez, nI_gtz, nI_lez, nI_eqz, m1_ltz, m1_gez, true_imp_iff, false_imp_iff, true_and, and_true, ne_eq, not_false_eq_true, not_true_eq_false, Nat.reduceEqDiff, Nat.reduceLT, Nat.reduceLeDiff]
          with_reducible refine xm_go_blk b_X10_readValue_101 k_X10_readValue_101 ?_
          refine by_iinc (by rw [ml_174]; decide) rfl ci_1 ?_
          refine by_goto 16 rfl ?_
          try simp (disch := first | exact Nat.ne_of_beq_eq_false rfl | exact rfl | omega) only [nI_add, xa_sub, xa_mul, pk_div, nm_mod, xa_shr, xa_and7, xa_and1, xa_and255, xa_by_and, nI_m1, Nat.add_sub_cancel, Nat.reducePow, Nat.zero_add, Nat.add_zero, Nat.reduceAdd, Nat.reduceMul, Nat.reduceSub, xf_same, xq_ff, xq_fo, xf_1, xf_2, xs_1, xs_2, xs_same, xq_so, xj_1, xj_2, xj_same, xq_jo, xq_sa1, xq_same, xq_other, upd_s, oI_n, oI_s, xv_0, xv_1, xv_2, xv_3, xm_p1, xm_p2, xq_fp, xq_fn, List.filter_nil, Nat.reduceBEq, Bool.not_true, Bool.not_false, Bool.and_true, Bool.and_false, Bool.false_and, Bool.true_and, if_true, if_false, Bool.false_eq_true, reduceIte, xc_i, xc_j, xc_r, xc_n, List.nil_append, List.cons_append, Option.toList_some, Option.toList_none]
          exact xm_go_wk (by simp [Value.category]) (ih (its ++ q) p' (tn + 1) (bl ++ b) h4 (by omega) u2 he (by rw [List.length_append, wiT_app]; omega) (Fr_tr f03 f4 (fun _ z => z) (fun _ z => z)) p4 S4)
        · rw [rdS_n er] at he
          with_reducible refine xm_go_blk b_X10_readValue_67 k_X10_readValue_67 ?_
          refine by_istore (by rw [ml_174]; decide) ?_
          refine by_goto 94 rfl ?_
          try simp (disch := first | exact Nat.ne_of_beq_eq_false rfl | exact rfl | omega) only [nI_add, xa_sub, xa_mul, pk_div, nm_mod, xa_shr, xa_and7, xa_and1, xa_and255, xa_by_and, nI_m1, Nat.add_sub_cancel, Nat.reducePow, Nat.zero_add, Nat.add_zero, Nat.reduceAdd, Nat.reduceMul, Nat.reduceSub, xf_same, xq_ff, xq_fo, xf_1, xf_2, xs_1, xs_2, xs_same, xq_so, xj_1, xj_2, xj_same, xq_jo, xq_sa1, xq_same, xq_other, upd_s, oI_n, oI_s, xv_0, xv_1, xv_2, xv_3, xm_p1, xm_p2, xq_fp, xq_fn, List.filter_nil, Nat.reduceBEq, Bool.not_true, Bool.not_false, Bool.and_true, Bool.and_false, Bool.false_and, Bool.true_and, if_true, if_false, Bool.false_eq_true, reduceIte, xc_i, xc_j, xc_r, xc_n, List.nil_append, List.cons_append, Option.toList_some, Option.toList_none]
          with_reducible refine xm_go_blk b_X10_readValue_94 k_X10_readValue_94 ?_
          refine by_iload rfl ?_
          refine by_if_ge 101 rfl ?_
          simp (disch := first | exact Nat.ne_of_beq_eq_false rfl | exact rfl | omega) only [nI_add, xa_sub, xa_mul, pk_div, nm_mod, xa_shr, xa_and7, xa_and1, xa_and255, xa_by_and, nI_m1, Nat.add_sub_cancel, Nat.reducePow, Nat.zero_add, Nat.add_zero, Nat.reduceAdd, Nat.reduceMul, Nat.reduceSub, xf_same, xq_ff, xq_fo, xf_1, xf_2, xs_1, xs_2, xs_same, xq_so, xj_1, xj_2, xj_same, xq_jo, xq_sa1, xq_same, xq_other, upd_s, oI_n, oI_s, xv_0, xv_1, xv_2, xv_3, xm_p1, xm_p2, xq_fp, xq_fn, List.filter_nil, Nat.reduceBEq, Bool.not_true, Bool.not_false, Bool.and_true, Bool.and_false, Bool.false_and, Bool.true_and, if_true, if_false, Bool.false_eq_true, reduceIte, xc_i, xc_j, xc_r, xc_n, List.nil_append, List.cons_append, Option.toList_some, Option.toList_none, nI_ltJ, nI_leJ, nI_eqJ, nI_ltz, nI_gez, nI_gtz, nI_lez, nI_eqz, m1_ltz, m1_gez, true_imp_iff, false_imp_iff, true_and, and_true, ne_eq, not_false_eq_true, not_true_eq_false, Nat.reduceEqDiff, Nat.reduceLT, Nat.reduceLeDiff]
          with_reducible refine xm_go_blk b_X10_readValue_99 k_X10_readValue_99 ?_
          refine by_iconst ci_0 ?_
          refine by_iret ry_174 (by first | rfl | assumption) ?_
          exact h0 h4 he.symm (Fr_tr f03 f4 (fun _ z => z) (fun _ z => z))
  refine xq_in rfl ?_
  simp only [xq_a0, xq_aI, xq_aJ, xq_aR, Nat.reduceAdd]
  with_reducible refine xm_go_blk b_X10_readValue_0 k_X10_readValue_0 ?_
  refine by_iconst ci_0 ?_
  refine by_istore (by rw [ml_174]; decide) ?_
  refine by_aload_n rfl ?_
  refine by_iconst ci_0 ?_
  refine by_putf cn_174 fl_10_62 (by first | exact rfl | assumption | exact ps_14 hpp) (by decide) nf_10_11 ft_10_11 (by first | rfl | assumption) (by first | rfl | assumption) ?_
  refine by_aload_n rfl ?_
  refine by_iload_n rfl ?_
  simp (disch := first | exact Nat.ne_of_beq_eq_false rfl | exact rfl | omega) only [nI_add, xa_sub, xa_mul, pk_div, nm_mod, xa_shr, xa_and7, xa_and1, xa_and255, xa_by_and, nI_m1, Nat.add_sub_cancel, Nat.reducePow, Nat.zero_add, Nat.add_zero, Nat.reduceAdd, Nat.reduceMul, Nat.reduceSub, xf_same, xq_ff, xq_fo, xf_1, xf_2, xs_1, xs_2, xs_same, xq_so, xj_1, xj_2, xj_same, xq_jo, xq_sa1, xq_same, xq_other, upd_s, oI_n, oI_s, xv_0, xv_1, xv_2, xv_3, xm_p1, xm_p2, xq_fp, xq_fn, List.filter_nil, Nat.reduceBEq, Bool.not_true, Bool.not_false, Bool.and_true, Bool.and_false, Bool.false_and, Bool.true_and, if_true, if_false, Bool.false_eq_true, reduceIte, xc_i, xc_j, xc_r, xc_n, List.nil_append, List.cons_append, Option.toList_some, Option.toList_none]
  refine by_inv1 cn_174 lk_10_78 (by rw [xe_cnt]; decide) is_170 np_170 cn_170 (by first | exact rfl | assumption | exact ps_14 hpp) (Nat.le_of_ble_eq_true rfl) ?_
  have f1 : Fr [] [(pp + 14, 11)] h (xm_sf h (pp + 14) 11 (.int (nI 0))) := Fr_sf Fr_rf (by simp)
  have F1 := Fr_XF hF f1 (sy_fin hpp)
  have S1 : xSt (xm_sf h (pp + 14) 11 (.int (nI 0))) pp cn tr [] := ⟨by simp only [xf_same, List.length_nil], trivial⟩
  refine xS_pushT F1 hpp S1 ht (by simp only [List.length_nil]; omega) hcn (fun h2 f2 S2 => ?_)
  have f12 : Fr [6, pp + 24] (rdT pp) h h2 := Fr_tr (Fr_mo f1 (by simp) (by simp [rdT])) f2 (by simp) (by simp [rdT])
  with_reducible refine xm_go_blk b_X10_readValue_13 k_X10_readValue_13 ?_
  refine by_iconst ci_0 ?_
  refine by_istore (by rw [ml_174]; decide) ?_
  refine by_nil ?_
  try simp (disch := first | exact Nat.ne_of_beq_eq_false rfl | exact rfl | omega) only [nI_add, xa_sub, xa_mul, pk_div, nm_mod, xa_shr, xa_and7, xa_and1, xa_and255, xa_by_and, nI_m1, Nat.add_sub_cancel, Nat.reducePow, Nat.zero_add, Nat.add_zero, Nat.reduceAdd, Nat.reduceMul, Nat.reduceSub, xf_same, xq_ff, xq_fo, xf_1, xf_2, xs_1, xs_2, xs_same, xq_so, xj_1, xj_2, xj_same, xq_jo, xq_sa1, xq_same, xq_other, upd_s, oI_n, oI_s, xv_0, xv_1, xv_2, xv_3, xm_p1, xm_p2, xq_fp, xq_fn, List.filter_nil, Nat.reduceBEq, Bool.not_true, Bool.not_false, Bool.and_true, Bool.and_false, Bool.false_and, Bool.true_and, if_true, if_false, Bool.false_eq_true, reduceIte, xc_i, xc_j, xc_r, xc_n, List.nil_append, List.cons_append, Option.toList_some, Option.toList_none]
  exact xm_go_wk (by simp [Value.category]) (key 8193 [.inr (tr t)] 0 0 [] h2 (by omega) (Nat.zero_le _) rfl (by simp [wiT]) f12 (penB_fr hpen (Fr_tr (Fr_mo f1 (S := [pp + 24]) (T := [(pp + 14, 11)]) (by simp) (by simp)) f2 (fun _ z => z) (fun _ z => z)) (by simp <;> omega) (by simp <;> omega) (by simp <;> omega) (by simp <;> omega)) S2)
end RV
section XW
variable {sc : xm_Sc} {d pp tb : Nat} {o : Option PgD} {l : List Nat} {h : xm_H} {post : xm_Po} {px : String → xm_H → Prop} {i : Int32}
theorem sp_xworth (hF : XF h) (hpp : pp = 52 ∨ pp = 77) (h9 : h.2.2 0 9 = .ref pp) (hP : xPg h pp o) (htb : tb < 2) (hrow : rowIs h 1 2 l)
    (hA : (∀ n, ¬ ndA o i n) → px "java/util/NoSuchElementException" h)
    (hH : ∀ n q h', o = some q → ndA o i n → pC q.2.1 n = 11 → Fr [6, pp + 24] (vbT pp) h h' → rowIs h' 1 2 [] → post (some (.int (-2))) h')
    (hB : ∀ n q h', o = some q → ndA o i n → pC q.2.1 n ≠ 11 → rdS l 8194 [.inr (tyOf q tb n)] 0 [] = none → Fr [6, pp + 24] (vbT pp) h h' → rowIs h' 1 2 [] → post (some (.int (-4))) h')
    (hC : ∀ n q h' bs, o = some q → ndA o i n → pC q.2.1 n ≠ 11 → rdS l 8194 [.inr (tyOf q tb n)] 0 [] = some bs → Fr [4, 6, pp + 24] (vaT pp) h h' → rowIs h' 3 4 (pkL bs) → rowIs h' 1 2 [] → post (some (.int (nI (pkL bs).length))) h') :
    xm_goX (XE sc) (xm_T (XE sc) (d + 7)) 198 post tw_X11_worth px 0 [(0, .ref 0), (1, .int i), (2, .int (nI tb))] [] h := by
  obtain ⟨hc, hc4⟩ := xPg_c hP
  with_reducible refine xx_blk b_X11_worth_0 k_X11_worth_0 ?_
  refine by_aload_n rfl ?_
  refine by_iload_n rfl ?_
  refine by_inv1 cn_198 lk_11_201 (by rw [xe_cnt]; decide) is_180 np_180 cn_180 (by first | exact rfl | assumption) (Nat.le_of_ble_eq_true rfl) ?_
  refine sp_xisNode hpp h9 hc (by omega) ⟨fun n hn hlt => ?_, fun hno => ?_⟩
  · subst hn
    with_reducible refine xx_blk b_X11_worth_5 k_X11_worth_5 ?_
    refine by_if_ne 18 rfl ?_
    simp (disch := first | exact Nat.ne_of_beq_eq_false rfl | exact rfl | omega) only [nI_add, xa_sub, xa_mul, pk_div, nm_mod, xa_shr, xa_and7, xa_and1, xa_and255, xa_by_and, nI_m1, Nat.add_sub_cancel, Nat.reducePow, Nat.zero_add, Nat.add_zero, Nat.reduceAdd, Nat.reduceMul, Nat.reduceSub, xf_same, xq_ff, xq_fo, xf_1, xf_2, xs_1, xs_2, xs_same, xq_so, xj_1, xj_2, xj_same, xq_jo, xq_sa1, xq_same, xq_other, upd_s, oI_n, oI_s, xv_0, xv_1, xv_2, xv_3, xm_p1, xm_p2, xq_fp, xq_fn, List.filter_nil, Nat.reduceBEq, Bool.not_true, Bool.not_false, Bool.and_true, Bool.and_false, Bool.false_and, Bool.true_and, if_true, if_false, Bool.false_eq_true, reduceIte, xc_i, xc_j, xc_r, xc_n, List.nil_append, List.cons_append, Option.toList_some, Option.toList_none, nI_ltJ, nI_leJ, nI_eqJ, nI_ltz, nI_gez, nI_gtz, nI_lez, nI_eqz, m1_ltz, m1_gez, true_imp_iff, false_imp_iff, true_and, and_true, ne_eq, not_false_eq_true, not_true_eq_false, Nat.reduceEqDiff, Nat.reduceLT, Nat.reduceLeDiff]
    obtain _ | ⟨bl, ps, a, S, T⟩ := o
    · exact absurd hlt (Nat.not_lt_zero _)
    have hlt' : n < ps.length := hlt
    have hps : ps.length ≤ 400 := hP.1.1.2.2.1
    obtain ⟨t11, cn, tr, K, L, R, hcn, hT, tne⟩ := xPg_ty (tb := tb) hP.1.1 htb hlt'
    refine xx_go ?_
    have hend : ∀ h2 (x : Int32), XF h2 → (∀ h', Fr [] [(1, 1), (1, 2), (1, 3)] h2 h' → rowIs h' 1 2 [] → post (some (.int x)) h') → xm_go (XE sc) (xm_T (XE sc) (d + 7)) 198 post 31 [(0, .ref 0), (1, .int (nI n)), (2, .int (nI tb))] [.int x] h2 := by
      intro h2 x F2 hk
      with_reducible refine xm_go_blk b_X11_worth_31 k_X11_worth_31 ?_
      refine by_istore_n (by rw [ml_198]; decide) ?_
      refine by_aload_n rfl ?_
      refine by_getf cn_198 fl_11_10 (by first | exact rfl | assumption) (by decide) ?_
      simp (disch := first | exact Nat.ne_of_beq_eq_false rfl | exact rfl | omega) only [nI_add, xa_sub, xa_mul, pk_div, nm_mod, xa_shr, xa_and7, xa_and1, xa_and255, xa_by_and, nI_m1, Nat.add_sub_cancel, Nat.reducePow, Nat.zero_add, Nat.add_zero, Nat.reduceAdd, Nat.reduceMul, Nat.reduceSub, xf_same, xq_ff, xq_fo, xf_1, xf_2, xs_1, xs_2, xs_same, xq_so, xj_1, xj_2, xj_same, xq_jo, xq_sa1, xq_same, xq_other, upd_s, oI_n, oI_s, xv_0, xv_1, xv_2, xv_3, xm_p1, xm_p2, xq_fp, xq_fn, List.filter_nil, Nat.reduceBEq, Bool.not_true, Bool.not_false, Bool.and_true, Bool.and_false, Bool.false_and, Bool.true_and, if_true, if_false, Bool.false_eq_true, reduceIte, xc_i, xc_j, xc_r, xc_n, List.nil_append, List.cons_append, Option.toList_some, Option.toList_none, xf_0_0 F2]
      refine by_inv0 cn_198 lk_11_98 (by rw [xe_cnt]; decide) is_128 np_128 cn_128 (by first | exact rfl | assumption | exact ps_12 hpp) (Nat.le_of_ble_eq_true rfl) ?_
      refine sp_clear sh_1 ?_
      with_reducible refine xm_go_blk b_X11_worth_39 k_X11_worth_39 ?_
      refine by_iload_n rfl ?_
      refine by_iret ry_198 (by first | rfl | assumption) ?_
      exact hk _ (Fr_sf (Fr_sf (Fr_sf Fr_rf (by simp)) (by simp)) (by simp)) (rowIs_0 (xf_1_0 F2))
    have hw : pC ps n ≠ 11 → ty_w (tyOf (bl, ps, a, S, T) tb n) ≤ 2048 := fun z => PG_w hP.1.2.1 hlt' z
    with_reducible refine xm_go_blk b_X11_worth_18 k_X11_worth_18 ?_
    refine by_aload_n rfl ?_
    refine by_aload_n rfl ?_
    refine by_getf cn_198 fl_11_71 (by first | exact rfl | assumption) (by decide) ?_
    refine by_iload_n rfl ?_
    refine by_iload_n rfl ?_
    simp (disch := first | exact Nat.ne_of_beq_eq_false rfl | exact rfl | omega) only [nI_add, xa_sub, xa_mul, pk_div, nm_mod, xa_shr, xa_and7, xa_and1, xa_and255, xa_by_and, nI_m1, Nat.add_sub_cancel, Nat.reducePow, Nat.zero_add, Nat.add_zero, Nat.reduceAdd, Nat.reduceMul, Nat.reduceSub, xf_same, xq_ff, xq_fo, xf_1, xf_2, xs_1, xs_2, xs_same, xq_so, xj_1, xj_2, xj_same, xq_jo, xq_sa1, xq_same, xq_other, upd_s, oI_n, oI_s, xv_0, xv_1, xv_2, xv_3, xm_p1, xm_p2, xq_fp, xq_fn, List.filter_nil, Nat.reduceBEq, Bool.not_true, Bool.not_false, Bool.and_true, Bool.and_false, Bool.false_and, Bool.true_and, if_true, if_false, Bool.false_eq_true, reduceIte, xc_i, xc_j, xc_r, xc_n, List.nil_append, List.cons_append, Option.toList_some, Option.toList_none, h9]
    refine by_inv2 cn_198 lk_11_231 (by rw [xe_cnt]; decide) is_112 np_112 cn_112 (by first | exact rfl | assumption | exact ps_0 hpp) (Nat.le_of_ble_eq_true rfl) ?_
    refine sp_typeOf hF hpp (by omega) htb ?_
    by_cases e11 : pC ps n = 11
    · rw [t11 e11]
      with_reducible refine xm_go_blk b_X11_worth_28 k_X11_worth_28 ?_
      refine by_inv1 cn_198 lk_11_269 (by rw [xe_cnt]; decide) is_192 np_192 cn_192 (by first | exact rfl | assumption) (Nat.le_of_ble_eq_true rfl) ?_
      refine xq_in rfl ?_
      simp only [xq_a0, xq_aI, xq_aJ, xq_aR, Nat.reduceAdd]
      with_reducible refine xm_go_blk b_X11_tellWorth_0 k_X11_tellWorth_0 ?_
      refine by_iload_n rfl ?_
      refine by_if_ge 7 rfl ?_
      simp (disch := first | exact Nat.ne_of_beq_eq_false rfl | exact rfl | omega) only [nI_add, xa_sub, xa_mul, pk_div, nm_mod, xa_shr, xa_and7, xa_and1, xa_and255, xa_by_and, nI_m1, Nat.add_sub_cancel, Nat.reducePow, Nat.zero_add, Nat.add_zero, Nat.reduceAdd, Nat.reduceMul, Nat.reduceSub, xf_same, xq_ff, xq_fo, xf_1, xf_2, xs_1, xs_2, xs_same, xq_so, xj_1, xj_2, xj_same, xq_jo, xq_sa1, xq_same, xq_other, upd_s, oI_n, oI_s, xv_0, xv_1, xv_2, xv_3, xm_p1, xm_p2, xq_fp, xq_fn, List.filter_nil, Nat.reduceBEq, Bool.not_true, Bool.not_false, Bool.and_true, Bool.and_false, Bool.false_and, Bool.true_and, if_true, if_false, Bool.false_eq_true, reduceIte, xc_i, xc_j, xc_r, xc_n, List.nil_append, List.cons_append, Option.toList_some, Option.toList_none, nI_ltJ, nI_leJ, nI_eqJ, nI_ltz, nI_gez, nI_gtz, nI_lez, nI_eqz, m1_ltz, m1_gez, true_imp_iff, false_imp_iff, true_and, and_true, ne_eq, not_false_eq_true, not_true_eq_false, Nat.reduceEqDiff, Nat.reduceLT, Nat.reduceLeDiff]
      with_reducible refine xm_go_blk b_X11_tellWorth_4 k_X11_tellWorth_4 ?_
      refine by_bipush cb_m2 ?_
      refine by_iret ry_192 (by first | rfl | assumption) ?_
      refine hend h _ hF (fun h' f r => hH n _ h' rfl ⟨rfl, hlt⟩ e11 (Fr_mo f (by simp) (by simp [vbT])) r)
    · obtain ⟨t, ht, et, er⟩ := tne e11
      rw [et]
      with_reducible refine xm_go_blk b_X11_worth_28 k_X11_worth_28 ?_
      refine by_inv1 cn_198 lk_11_269 (by rw [xe_cnt]; decide) is_192 np_192 cn_192 (by first | exact rfl | assumption) (Nat.le_of_ble_eq_true rfl) ?_
      refine xq_in rfl ?_
      simp only [xq_a0, xq_aI, xq_aJ, xq_aR, Nat.reduceAdd]
      with_reducible refine xm_go_blk b_X11_tellWorth_0 k_X11_tellWorth_0 ?_
      refine by_iload_n rfl ?_
      refine by_if_ge 7 rfl ?_
      simp (disch := first | exact Nat.ne_of_beq_eq_false rfl | exact rfl | omega) only [nI_add, xa_sub, xa_mul, pk_div, nm_mod, xa_shr, xa_and7, xa_and1, xa_and255, xa_by_and, nI_m1, Nat.add_sub_cancel, Nat.reducePow, Nat.zero_add, Nat.add_zero, Nat.reduceAdd, Nat.reduceMul, Nat.reduceSub, xf_same, xq_ff, xq_fo, xf_1, xf_2, xs_1, xs_2, xs_same, xq_so, xj_1, xj_2, xj_same, xq_jo, xq_sa1, xq_same, xq_other, upd_s, oI_n, oI_s, xv_0, xv_1, xv_2, xv_3, xm_p1, xm_p2, xq_fp, xq_fn, List.filter_nil, Nat.reduceBEq, Bool.not_true, Bool.not_false, Bool.and_true, Bool.and_false, Bool.false_and, Bool.true_and, if_true, if_false, Bool.false_eq_true, reduceIte, xc_i, xc_j, xc_r, xc_n, List.nil_append, List.cons_append, Option.toList_some, Option.toList_none, nI_ltJ, nI_leJ, nI_eqJ, nI_ltz, nI_gez, nI_gtz, nI_lez, nI_eqz, m1_ltz, m1_gez, true_imp_iff, false_imp_iff, true_and, and_true, ne_eq, not_false_eq_true, not_true_eq_false, Nat.reduceEqDiff, Nat.reduceLT, Nat.reduceLeDiff, xf_0_2 hF]
      with_reducible refine xm_go_blk b_X11_tellWorth_7 k_X11_tellWorth_7 ?_
      refine by_aload_n rfl ?_
      refine by_getf cn_192 fl_11_19 (by first | exact rfl | assumption) (by decide) ?_
      simp (disch := first | exact Nat.ne_of_beq_eq_false rfl | exact rfl | omega) only [nI_add, xa_sub, xa_mul, pk_div, nm_mod, xa_shr, xa_and7, xa_and1, xa_and255, xa_by_and, nI_m1, Nat.add_sub_cancel, Nat.reducePow, Nat.zero_add, Nat.add_zero, Nat.reduceAdd, Nat.reduceMul, Nat.reduceSub, xf_same, xq_ff, xq_fo, xf_1, xf_2, xs_1, xs_2, xs_same, xq_so, xj_1, xj_2, xj_same, xq_jo, xq_sa1, xq_same, xq_other, upd_s, oI_n, oI_s, xv_0, xv_1, xv_2, xv_3, xm_p1, xm_p2, xq_fp, xq_fn, List.filter_nil, Nat.reduceBEq, Bool.not_true, Bool.not_false, Bool.and_true, Bool.and_false, Bool.false_and, Bool.true_and, if_true, if_false, Bool.false_eq_true, reduceIte, xc_i, xc_j, xc_r, xc_n, List.nil_append, List.cons_append, Option.toList_some, Option.toList_none, xf_0_2 hF]
      refine by_inv0 cn_192 lk_11_98 (by rw [xe_cnt]; decide) is_128 np_128 cn_128 (by first | exact rfl | assumption | exact ps_12 hpp) (Nat.le_of_ble_eq_true rfl) ?_
      refine sp_penclr hF (fun h2 f2 p2 b2 => ?_)
      have F2 := Fr_XF hF f2 (by decide +kernel)
      have e9 : h2.2.2 0 9 = .ref pp := by rw [f2.2.2 _ _ (by simp)]; exact h9
      have hT2 : tyT h2 pp cn tr K L R := tyT_fr hT f2 (by simp <;> omega) (by simp [taR])
      have row2 : rowIs h2 1 2 l := rowIs_fr hrow f2 (by simp) (by simp) (by simp)
      have pB : penB h2 [] := ⟨fun x hx => by simp at hx, by simp, p2.1, p2.2.1, b2, fun k hk => by simp at hk⟩
      with_reducible refine xm_go_blk b_X11_tellWorth_14 k_X11_tellWorth_14 ?_
      refine by_aload_n rfl ?_
      refine by_getf cn_192 fl_11_71 (by first | exact rfl | assumption) (by decide) ?_
      simp (disch := first | exact Nat.ne_of_beq_eq_false rfl | exact rfl | omega) only [nI_add, xa_sub, xa_mul, pk_div, nm_mod, xa_shr, xa_and7, xa_and1, xa_and255, xa_by_and, nI_m1, Nat.add_sub_cancel, Nat.reducePow, Nat.zero_add, Nat.add_zero, Nat.reduceAdd, Nat.reduceMul, Nat.reduceSub, xf_same, xq_ff, xq_fo, xf_1, xf_2, xs_1, xs_2, xs_same, xq_so, xj_1, xj_2, xj_same, xq_jo, xq_sa1, xq_same, xq_other, upd_s, oI_n, oI_s, e9, pf_13 F2 hpp, xf_0_0 F2, xf_0_2 F2]
      refine by_getf cn_192 fl_11_128 (by first | exact rfl | assumption | exact ps_0 hpp) (by decide) ?_
      refine by_aload_n rfl ?_
      refine by_getf cn_192 fl_11_10 (by first | exact rfl | assumption) (by decide) ?_
      refine by_iload_n rfl ?_
      refine by_aload_n rfl ?_
      refine by_getf cn_192 fl_11_19 (by first | exact rfl | assumption) (by decide) ?_
      simp (disch := first | exact Nat.ne_of_beq_eq_false rfl | exact rfl | omega) only [nI_add, xa_sub, xa_mul, pk_div, nm_mod, xa_shr, xa_and7, xa_and1, xa_and255, xa_by_and, nI_m1, Nat.add_sub_cancel, Nat.reducePow, Nat.zero_add, Nat.add_zero, Nat.reduceAdd, Nat.reduceMul, Nat.reduceSub, xf_same, xq_ff, xq_fo, xf_1, xf_2, xs_1, xs_2, xs_same, xq_so, xj_1, xj_2, xj_same, xq_jo, xq_sa1, xq_same, xq_other, upd_s, oI_n, oI_s, xv_0, xv_1, xv_2, xv_3, xm_p1, xm_p2, xq_fp, xq_fn, List.filter_nil, Nat.reduceBEq, Bool.not_true, Bool.not_false, Bool.and_true, Bool.and_false, Bool.false_and, Bool.true_and, if_true, if_false, Bool.false_eq_true, reduceIte, xc_i, xc_j, xc_r, xc_n, List.nil_append, List.cons_append, Option.toList_some, Option.toList_none, e9, pf_13 F2 hpp, xf_0_0 F2, xf_0_2 F2]
      refine by_inv3 cn_192 lk_11_272 (by rw [xe_cnt]; decide) is_174 np_174 cn_174 (by first | exact rfl | assumption | exact ps_14 hpp) (Nat.le_of_ble_eq_true rfl) ?_
      refine sp_readValue (d := d) (l := l) F2 hpp hT2 hcn ht row2 (by rw [er]; exact hw e11) pB (fun h3 bs hr hbl f3 p3 => ?_) (fun h3 hr f3 => ?_)
      · rw [er] at hr
        have F3 := Fr_XF F2 f3 (rdT_fin hpp)
        have f03 : Fr [6, pp + 24] (vbT pp) h h3 := Fr_tr (Fr_mo f2 (by simp) (by simp [vbT])) f3 (by simp) (by simp [vbT, rdT])
        have ov : (pkL bs).length ≤ 8192 := by rw [pkL_len]; have := p3.2.1; omega
        with_reducible refine xm_go_blk b_X11_tellWorth_33 k_X11_tellWorth_33 ?_
        refine by_if_eq 43 rfl ?_
        simp (disch := first | exact Nat.ne_of_beq_eq_false rfl | exact rfl | omega) only [nI_add, xa_sub, xa_mul, pk_div, nm_mod, xa_shr, xa_and7, xa_and1, xa_and255, xa_by_and, nI_m1, Nat.add_sub_cancel, Nat.reducePow, Nat.zero_add, Nat.add_zero, Nat.reduceAdd, Nat.reduceMul, Nat.reduceSub, xf_same, xq_ff, xq_fo, xf_1, xf_2, xs_1, xs_2, xs_same, xq_so, xj_1, xj_2, xj_same, xq_jo, xq_sa1, xq_same, xq_other, upd_s, oI_n, oI_s, xv_0, xv_1, xv_2, xv_3, xm_p1, xm_p2, xq_fp, xq_fn, List.filter_nil, Nat.reduceBEq, Bool.not_true, Bool.not_false, Bool.and_true, Bool.and_false, Bool.false_and, Bool.true_and, if_true, if_false, Bool.false_eq_true, reduceIte, xc_i, xc_j, xc_r, xc_n, List.nil_append, List.cons_append, Option.toList_some, Option.toList_none, nI_ltJ, nI_leJ, nI_eqJ, nI_ltz, nI_gez, nI_gtz, nI_lez, nI_eqz, m1_ltz, m1_gez, true_imp_iff, false_imp_iff, true_and, and_true, ne_eq, not_false_eq_true, not_true_eq_false, Nat.reduceEqDiff, Nat.reduceLT, Nat.reduceLeDiff]
        with_reducible refine xm_go_blk b_X11_tellWorth_36 k_X11_tellWorth_36 ?_
        refine by_aload_n rfl ?_
        refine by_inv0 cn_192 lk_11_194 (by rw [xe_cnt]; decide) is_186 np_186 cn_186 (by first | exact rfl | assumption) (Nat.le_of_ble_eq_true rfl) ?_
        refine sp_publishL F3 (penB_pen p3) ov (fun h4 f4 r4 => ?_)
        with_reducible refine xm_go_blk b_X11_tellWorth_40 k_X11_tellWorth_40 ?_
        refine by_goto 45 rfl ?_
        with_reducible refine xm_go_blk b_X11_tellWorth_45 k_X11_tellWorth_45 ?_
        refine by_iret ry_192 (by first | rfl | assumption) ?_
        refine hend h4 _ (Fr_XF F3 f4 (by decide +kernel)) (fun h' f r => ?_)
        exact hC n _ h' bs rfl ⟨rfl, hlt⟩ e11 hr (Fr_tr (Fr_tr (Fr_mo f03 (by simp) (by simp [vaT, vbT])) f4 (by simp) (by simp [vaT])) f (by simp) (by simp [vaT])) (rowIs_fr r4 f (by simp) (by simp) (by simp)) r
      · rw [er] at hr
        have F3 := Fr_XF F2 f3 (rdT_fin hpp)
        have f03 : Fr [6, pp + 24] (vbT pp) h h3 := Fr_tr (Fr_mo f2 (by simp) (by simp [vbT])) f3 (by simp) (by simp [vbT, rdT])
        with_reducible refine xm_go_blk b_X11_tellWorth_33 k_X11_tellWorth_33 ?_
        refine by_if_eq 43 rfl ?_
        simp (disch := first | exact Nat.ne_of_beq_eq_false rfl | exact rfl | omega) only [nI_add, xa_sub, xa_mul, pk_div, nm_mod, xa_shr, xa_and7, xa_and1, xa_and255, xa_by_and, nI_m1, Nat.add_sub_cancel, Nat.reducePow, Nat.zero_add, Nat.add_zero, Nat.reduceAdd, Nat.reduceMul, Nat.reduceSub, xf_same, xq_ff, xq_fo, xf_1, xf_2, xs_1, xs_2, xs_same, xq_so, xj_1, xj_2, xj_same, xq_jo, xq_sa1, xq_same, xq_other, upd_s, oI_n, oI_s, xv_0, xv_1, xv_2, xv_3, xm_p1, xm_p2, xq_fp, xq_fn, List.filter_nil, Nat.reduceBEq, Bool.not_true, Bool.not_false, Bool.and_true, Bool.and_false, Bool.false_and, Bool.true_and, if_true, if_false, Bool.false_eq_true, reduceIte, xc_i, xc_j, xc_r, xc_n, List.nil_append, List.cons_append, Option.toList_some, Option.toList_none, nI_ltJ, nI_leJ, nI_eqJ, nI_ltz, nI_gez, nI_gtz, nI_lez, nI_eqz, m1_ltz, m1_gez, true_imp_iff, false_imp_iff, true_and, and_true, ne_eq, not_false_eq_true, not_true_eq_false, Nat.reduceEqDiff, Nat.reduceLT, Nat.reduceLeDiff]
        with_reducible refine xm_go_blk b_X11_tellWorth_43 k_X11_tellWorth_43 ?_
        refine by_bipush cb_m4 ?_
        refine by_nil ?_
        with_reducible refine xm_go_blk b_X11_tellWorth_45 k_X11_tellWorth_45 ?_
        refine by_iret ry_192 (by first | rfl | assumption) ?_
        refine hend h3 _ F3 (fun h' f r => ?_)
        exact hB n _ h' rfl ⟨rfl, hlt⟩ e11 hr (Fr_tr f03 f (by simp) (by simp [vbT])) r
  · with_reducible refine xx_blk b_X11_worth_5 k_X11_worth_5 ?_
    refine by_if_ne 18 rfl ?_
    simp (disch := first | exact Nat.ne_of_beq_eq_false rfl | exact rfl | omega) only [nI_add, xa_sub, xa_mul, pk_div, nm_mod, xa_shr, xa_and7, xa_and1, xa_and255, xa_by_and, nI_m1, Nat.add_sub_cancel, Nat.reducePow, Nat.zero_add, Nat.add_zero, Nat.reduceAdd, Nat.reduceMul, Nat.reduceSub, xf_same, xq_ff, xq_fo, xf_1, xf_2, xs_1, xs_2, xs_same, xq_so, xj_1, xj_2, xj_same, xq_jo, xq_sa1, xq_same, xq_other, upd_s, oI_n, oI_s, xv_0, xv_1, xv_2, xv_3, xm_p1, xm_p2, xq_fp, xq_fn, List.filter_nil, Nat.reduceBEq, Bool.not_true, Bool.not_false, Bool.and_true, Bool.and_false, Bool.false_and, Bool.true_and, if_true, if_false, Bool.false_eq_true, reduceIte, xc_i, xc_j, xc_r, xc_n, List.nil_append, List.cons_append, Option.toList_some, Option.toList_none, nI_ltJ, nI_leJ, nI_eqJ, nI_ltz, nI_gez, nI_gtz, nI_lez, nI_eqz, m1_ltz, m1_gez, true_imp_iff, false_imp_iff, true_and, and_true, ne_eq, not_false_eq_true, not_true_eq_false, Nat.reduceEqDiff, Nat.reduceLT, Nat.reduceLeDiff]
    exact xx_thr rfl (hA (fun n z => hno n z.2 z.1))
end XW
