/-! ===== witnesses: what is asked of their bits ===== -/
def wtF (cd : Nat → Nat) (T : Nat → Ty) (n : Nat) : Nat := if cd n = 10 then ty_w (T n) else 0
def wsum (cd : Nat → Nat) (T : Nat → Ty) : Nat → Nat
  | 0 => 0
  | n + 1 => wsum cd T n + wtF cd T n
def wall (v : Nat → Nat) (cd : Nat → Nat) (T : Nat → Ty) (b : Nat) : Nat → Bool
  | 0 => true
  | n + 1 => wall v cd T b n && (if cd n = 10 then ty_val v (T n) (b + wsum cd T n) else true)
theorem wall_f {v : Nat → Nat} {cd : Nat → Nat} {T : Nat → Ty} {b n : Nat} (h : wall v cd T b n = false) : ∀ m, n ≤ m → wall v cd T b m = false := by
  intro m hm
  induction m with
  | zero => have : n = 0 := by omega
            subst this; exact h
  | succ m ih =>
    by_cases e : n = m + 1
    · subst e; exact h
    · rw [wall, ih (by omega), Bool.false_and]
theorem wsum_le {cd : Nat → Nat} {T : Nat → Ty} {n : Nat} : ∀ m, n ≤ m → wsum cd T n ≤ wsum cd T m := by
  intro m hm
  induction m with
  | zero => have : n = 0 := by omega
            subst this; exact Nat.le_refl _
  | succ m ih =>
    by_cases e : n = m + 1
    · subst e; exact Nat.le_refl _
    · have := ih (by omega)
      simp only [wsum]; omega
/-- what behind the witnesses' bits may stand -/
def wend (v : Nat → Nat) (e a : Nat) : Bool := decide (e - a < 8) && bz v a (e - a)
def wf (v : Nat → Nat) (e a N : Nat) (cd : Nat → Nat) (T : Nat → Ty) : Nat := match pr_nat v e a with
  | .error x => x
  | .ok (k, b) => if e < b + (k - 1) then 1 else if wsum cd T N ≠ k - 1 then 10 else if wall v cd T b N = false then 11 else if wend v e (b + (k - 1)) = true then 0 else 12
section WI
variable {sc : xm_Sc} {d pp N cn : Nat} {cd : Nat → Nat} {S T : Nat → Ty} {tr : Nat → Ty} {K Lf R : Nat → Nat} {l : List Nat} {h : xm_H} {post : xm_Po}
def rrR (pp : Nat) : List Nat := [pp + 4, pp + 24]
def rrT (pp : Nat) : List (Nat × Nat) := [(45, 3), (45, 5), (pp + 14, 11)]
theorem rr_fin (hpp : pp = 52 ∨ pp = 77) : xt_fin.all (fun q => !((rrT pp).contains (q.1, q.2.1))) = true := by rcases hpp with rfl | rfl <;> decide +kernel
/-- what readRows needs of the program -/
def wiN (h : xm_H) (pp N : Nat) (cd : Nat → Nat) (T : Nat → Ty) (cn : Nat) (tr : Nat → Ty) : Prop := h.2.2 pp 0 = .int (nI N) ∧ ∀ n, n < N → h.1 (pp + 1) n = nI (cd n) ∧ cd n ≤ 12 ∧ (cd n = 10 → ∃ j, j < cn ∧ h.1 (pp + 7) n = nI j ∧ tr j = T n ∧ ty_w (T n) ≤ 2048)
theorem rr_2 {b : Nat} (hpp : pp = 52 ∨ pp = 77) (hN : N ≤ 2000) (hW : wiN h pp N cd T cn tr) (hT : tyT h pp cn tr K Lf R) (hcn : cn ≤ 14026) (hbe : b + wsum cd T N ≤ 8 * l.length) (hlen : l.length ≤ 8192)
    (hgo : ∀ h', Fr (rrR pp) (rrT pp) h h' → ldS h' pp l (b + wsum cd T N) 0 → wall (by_bit l) cd T b N = true → (∀ m, m < N → (cd m = 10 → h'.1 (pp + 4) m = nI (b + wsum cd T m)) ∧ (cd m ≠ 10 → h'.1 (pp + 4) m = h.1 (pp + 4) m)) → xm_go (XE sc) (xm_T (XE sc) (d + 4)) 75 post 100 [(0, .ref 45)] [] h')
    (h11 : ∀ h', Fr (rrR pp) (rrT pp) h h' → h'.2.2 45 5 = .int (nI 11) → wall (by_bit l) cd T b N = false → post none h') :
    ∀ (j n : Nat) (h' : xm_H), n + j = N → Fr (rrR pp) (rrT pp) h h' → ldS h' pp l (b + wsum cd T n) 0 → wall (by_bit l) cd T b n = true → (∀ m, m < n → (cd m = 10 → h'.1 (pp + 4) m = nI (b + wsum cd T m)) ∧ (cd m ≠ 10 → h'.1 (pp + 4) m = h.1 (pp + 4) m)) → (∀ m, n ≤ m → h'.1 (pp + 4) m = h.1 (pp + 4) m) → xm_go (XE sc) (xm_T (XE sc) (d + 4)) 75 post 2 [(1, .int (nI n)), (0, .ref 45)] [] h' := by
  intro j
  induction j with
  | zero =>
    intro n h' hj hf hS hw hrow hrow2
    have : n = N := by omega
    subst this
    have e0 : h'.2.2 pp 0 = .int (nI n) := by rw [hf.2.2 _ _ (by simp [rrT] <;> omega)]; exact hW.1
    have hS0 := hS
    obtain ⟨s1, s2, s3, s4, s5, s6, s7, s8, s9, s10⟩ := hS0
    with_reducible refine xm_go_blk b_X3_readRows_2 k_X3_readRows_2 ?_
    refine by_iload_n rfl ?_
    refine by_aload_n rfl ?_
    refine by_getf cn_75 fl_3_15 (by first | exact rfl | assumption) (by decide) ?_
    simp (disch := first | exact Nat.ne_of_beq_eq_false rfl | exact rfl | omega) only [nI_add, xa_sub, xa_mul, pk_div, nm_mod, xa_shr, xa_and7, xa_and1, xa_and255, xa_by_and, nI_m1, Nat.add_sub_cancel, Nat.reducePow, Nat.zero_add, Nat.add_zero, Nat.reduceAdd, Nat.reduceMul, Nat.reduceSub, xf_same, xq_ff, xq_fo, xf_1, xf_2, xs_1, xs_2, xs_same, xq_so, xj_1, xj_2, xj_same, xq_jo, xq_sa1, xq_same, xq_other, upd_s, oI_n, oI_s, s3, e0]
    refine by_getf cn_75 fl_3_57 (by first | exact rfl | assumption | exact ps_0 hpp) (by decide) ?_
    simp (disch := first | exact Nat.ne_of_beq_eq_false rfl | exact rfl | omega) only [nI_add, xa_sub, xa_mul, pk_div, nm_mod, xa_shr, xa_and7, xa_and1, xa_and255, xa_by_and, nI_m1, Nat.add_sub_cancel, Nat.reducePow, Nat.zero_add, Nat.add_zero, Nat.reduceAdd, Nat.reduceMul, Nat.reduceSub, xf_same, xq_ff, xq_fo, xf_1, xf_2, xs_1, xs_2, xs_same, xq_so, xj_1, xj_2, xj_same, xq_jo, xq_sa1, xq_same, xq_other, upd_s, oI_n, oI_s, s3, e0]
    refine by_ic_ge 100 rfl ?_
    simp (disch := first | exact Nat.ne_of_beq_eq_false rfl | exact rfl | omega) only [nI_add, xa_sub, xa_mul, pk_div, nm_mod, xa_shr, xa_and7, xa_and1, xa_and255, xa_by_and, nI_m1, Nat.add_sub_cancel, Nat.reducePow, Nat.zero_add, Nat.add_zero, Nat.reduceAdd, Nat.reduceMul, Nat.reduceSub, xf_same, xq_ff, xq_fo, xf_1, xf_2, xs_1, xs_2, xs_same, xq_so, xj_1, xj_2, xj_same, xq_jo, xq_sa1, xq_same, xq_other, upd_s, oI_n, oI_s, xv_0, xv_1, xv_2, xv_3, xm_p1, xm_p2, xq_fp, xq_fn, List.filter_nil, Nat.reduceBEq, Bool.not_true, Bool.not_false, Bool.and_true, Bool.and_false, Bool.false_and, Bool.true_and, if_true, if_false, Bool.false_eq_true, reduceIte, xc_i, xc_j, xc_r, xc_n, List.nil_append, List.cons_append, Option.toList_some, Option.toList_none, nI_ltJ, nI_leJ, nI_eqJ, nI_ltz, nI_gez, nI_gtz, nI_lez, nI_eqz, m1_ltz, m1_gez, true_imp_iff, false_imp_iff, true_and, and_true, ne_eq, not_false_eq_true, not_true_eq_false, Nat.reduceEqDiff, Nat.reduceLT, Nat.reduceLeDiff, s3, e0]
    refine ⟨fun c2 => ?_, fun c => absurd (by omega) c⟩
    exact xm_go_wk (by simp [Value.category]) (hgo h' hf hS hw hrow)
  | succ j ih =>
    intro n h' hj hf hS hw hrow hrow2
    have hnN : n < N := by omega
    have e0 : h'.2.2 pp 0 = .int (nI N) := by rw [hf.2.2 _ _ (by simp [rrT] <;> omega)]; exact hW.1
    have hS0 := hS
    obtain ⟨s1, s2, s3, s4, s5, s6, s7, s8, s9, s10⟩ := hS0
    obtain ⟨a1, a2, a3⟩ := hW.2 n hnN
    have e1 : h'.1 (pp + 1) n = nI (cd n) := by rw [hf.1 (pp + 1) (by simp [rrR])]; exact a1
    have hsl := wsum_le (cd := cd) (T := T) (n := n + 1) N (by omega)
    by_cases hc : cd n = 10
    · have hc' : (cd n = 10) = True := eq_true hc
      obtain ⟨jj, j1, j2, j3, j4⟩ := a3 hc
      have e7 : h'.1 (pp + 7) n = nI jj := by rw [hf.1 (pp + 7) (by simp [rrR])]; exact j2
      have hwt : wsum cd T (n + 1) = wsum cd T n + ty_w (T n) := by simp only [wsum, wtF, hc, if_true]
      with_reducible refine xm_go_blk b_X3_readRows_2 k_X3_readRows_2 ?_
      refine by_iload_n rfl ?_
      refine by_aload_n rfl ?_
      refine by_getf cn_75 fl_3_15 (by first | exact rfl | assumption) (by decide) ?_
      simp (disch := first | exact Nat.ne_of_beq_eq_false rfl | exact rfl | omega) only [nI_add, xa_sub, xa_mul, pk_div, nm_mod, xa_shr, xa_and7, xa_and1, xa_and255, xa_by_and, nI_m1, Nat.add_sub_cancel, Nat.reducePow, Nat.zero_add, Nat.add_zero, Nat.reduceAdd, Nat.reduceMul, Nat.reduceSub, xf_same, xq_ff, xq_fo, xf_1, xf_2, xs_1, xs_2, xs_same, xq_so, xj_1, xj_2, xj_same, xq_jo, xq_sa1, xq_same, xq_other, upd_s, oI_n, oI_s, s3, e0, pf_1 s1 hpp, e1, hc', pf_4 s1 hpp, s5, pf_13 s1 hpp, s4, pf_7 s1 hpp, e7]
      refine by_getf cn_75 fl_3_57 (by first | exact rfl | assumption | exact ps_0 hpp) (by decide) ?_
      simp (disch := first | exact Nat.ne_of_beq_eq_false rfl | exact rfl | omega) only [nI_add, xa_sub, xa_mul, pk_div, nm_mod, xa_shr, xa_and7, xa_and1, xa_and255, xa_by_and, nI_m1, Nat.add_sub_cancel, Nat.reducePow, Nat.zero_add, Nat.add_zero, Nat.reduceAdd, Nat.reduceMul, Nat.reduceSub, xf_same, xq_ff, xq_fo, xf_1, xf_2, xs_1, xs_2, xs_same, xq_so, xj_1, xj_2, xj_same, xq_jo, xq_sa1, xq_same, xq_other, upd_s, oI_n, oI_s, s3, e0, pf_1 s1 hpp, e1, hc', pf_4 s1 hpp, s5, pf_13 s1 hpp, s4, pf_7 s1 hpp, e7]
      refine by_ic_ge 100 rfl ?_
      simp (disch := first | exact Nat.ne_of_beq_eq_false rfl | exact rfl | omega) only [nI_add, xa_sub, xa_mul, pk_div, nm_mod, xa_shr, xa_and7, xa_and1, xa_and255, xa_by_and, nI_m1, Nat.add_sub_cancel, Nat.reducePow, Nat.zero_add, Nat.add_zero, Nat.reduceAdd, Nat.reduceMul, Nat.reduceSub, xf_same, xq_ff, xq_fo, xf_1, xf_2, xs_1, xs_2, xs_same, xq_so, xj_1, xj_2, xj_same, xq_jo, xq_sa1, xq_same, xq_other, upd_s, oI_n, oI_s, xv_0, xv_1, xv_2, xv_3, xm_p1, xm_p2, xq_fp, xq_fn, List.filter_nil, Nat.reduceBEq, Bool.not_true, Bool.not_false, Bool.and_true, Bool.and_false, Bool.false_and, Bool.true_and, if_true, if_false, Bool.false_eq_true, reduceIte, xc_i, xc_j, xc_r, xc_n, List.nil_append, List.cons_append, Option.toList_some, Option.toList_none, nI_ltJ, nI_leJ, nI_eqJ, nI_ltz, nI_gez, nI_gtz, nI_lez, nI_eqz, m1_ltz, m1_gez, true_imp_iff, false_imp_iff, true_and, and_true, ne_eq, not_false_eq_true, not_true_eq_false, Nat.reduceEqDiff, Nat.reduceLT, Nat.reduceLeDiff, s3, e0, pf_1 s1 hpp, e1, hc', pf_4 s1 hpp, s5, pf_13 s1 hpp, s4, pf_7 s1 hpp, e7]
      refine ⟨fun c => absurd c (by omega), fun c2 => ?_⟩
      with_reducible refine xm_go_blk b_X3_readRows_13 k_X3_readRows_13 ?_
      refine by_aload_n rfl ?_
      refine by_getf cn_75 fl_3_15 (by first | exact rfl | assumption) (by decide) ?_
      simp (disch := first | exact Nat.ne_of_beq_eq_false rfl | exact rfl | omega) only [nI_add, xa_sub, xa_mul, pk_div, nm_mod, xa_shr, xa_and7, xa_and1, xa_and255, xa_by_and, nI_m1, Nat.add_sub_cancel, Nat.reducePow, Nat.zero_add, Nat.add_zero, Nat.reduceAdd, Nat.reduceMul, Nat.reduceSub, xf_same, xq_ff, xq_fo, xf_1, xf_2, xs_1, xs_2, xs_same, xq_so, xj_1, xj_2, xj_same, xq_jo, xq_sa1, xq_same, xq_other, upd_s, oI_n, oI_s, s3, e0, pf_1 s1 hpp, e1, hc', pf_4 s1 hpp, s5, pf_13 s1 hpp, s4, pf_7 s1 hpp, e7]
      refine by_getf cn_75 fl_3_113 (by first | exact rfl | assumption | exact ps_0 hpp) (by decide) ?_
      refine by_iload_n rfl ?_
      simp (disch := first | exact Nat.ne_of_beq_eq_false rfl | exact rfl | omega) only [nI_add, xa_sub, xa_mul, pk_div, nm_mod, xa_shr, xa_and7, xa_and1, xa_and255, xa_by_and, nI_m1, Nat.add_sub_cancel, Nat.reducePow, Nat.zero_add, Nat.add_zero, Nat.reduceAdd, Nat.reduceMul, Nat.reduceSub, xf_same, xq_ff, xq_fo, xf_1, xf_2, xs_1, xs_2, xs_same, xq_so, xj_1, xj_2, xj_same, xq_jo, xq_sa1, xq_same, xq_other, upd_s, oI_n, oI_s, s3, e0, pf_1 s1 hpp, e1, hc', pf_4 s1 hpp, s5, pf_13 s1 hpp, s4, pf_7 s1 hpp, e7]
      first | refine by_iald (by first | exact rfl | assumption | exact ps_1 hpp | exact ps_2 hpp | exact ps_3 hpp | exact ps_4 hpp | exact ps_5 hpp | exact ps_6 hpp | exact ps_7 hpp | exact ps_8 hpp | exact ps_9 hpp | exact ps_10 hpp | exact ps_11 hpp | exact ps_15 hpp | exact ps_16 hpp | exact ps_17 hpp | exact ps_18 hpp | exact ps_19 hpp | exact ps_21 hpp | exact ps_22 hpp | exact ps_23 hpp | exact ps_24 hpp) ⟨by omega, by omega⟩ ?_ | refine by_tald rfl rfl ⟨by omega, by omega⟩ ?_
      refine by_bipush cb_10 ?_
      refine by_ic_ne 94 rfl ?_
      simp (disch := first | exact Nat.ne_of_beq_eq_false rfl | exact rfl | omega) only [nI_add, xa_sub, xa_mul, pk_div, nm_mod, xa_shr, xa_and7, xa_and1, xa_and255, xa_by_and, nI_m1, Nat.add_sub_cancel, Nat.reducePow, Nat.zero_add, Nat.add_zero, Nat.reduceAdd, Nat.reduceMul, Nat.reduceSub, xf_same, xq_ff, xq_fo, xf_1, xf_2, xs_1, xs_2, xs_same, xq_so, xj_1, xj_2, xj_same, xq_jo, xq_sa1, xq_same, xq_other, upd_s, oI_n, oI_s, xv_0, xv_1, xv_2, xv_3, xm_p1, xm_p2, xq_fp, xq_fn, List.filter_nil, Nat.reduceBEq, Bool.not_true, Bool.not_false, Bool.and_true, Bool.and_false, Bool.false_and, Bool.true_and, if_true, if_false, Bool.false_eq_true, reduceIte, xc_i, xc_j, xc_r, xc_n, List.nil_append, List.cons_append, Option.toList_some, Option.toList_none, nI_ltJ, nI_leJ, nI_eqJ, nI_ltz, nI_gez, nI_gtz, nI_lez, nI_eqz, m1_ltz, m1_gez, true_imp_iff, false_imp_iff, true_and, and_true, ne_eq, not_false_eq_true, not_true_eq_false, Nat.reduceEqDiff, Nat.reduceLT, Nat.reduceLeDiff, s3, e0, pf_1 s1 hpp, e1, hc', pf_4 s1 hpp, s5, pf_13 s1 hpp, s4, pf_7 s1 hpp, e7]
      with_reducible refine xm_go_blk b_X3_readRows_27 k_X3_readRows_27 ?_
      refine by_aload_n rfl ?_
      refine by_getf cn_75 fl_3_15 (by first | exact rfl | assumption) (by decide) ?_
      simp (disch := first | exact Nat.ne_of_beq_eq_false rfl | exact rfl | omega) only [nI_add, xa_sub, xa_mul, pk_div, nm_mod, xa_shr, xa_and7, xa_and1, xa_and255, xa_by_and, nI_m1, Nat.add_sub_cancel, Nat.reducePow, Nat.zero_add, Nat.add_zero, Nat.reduceAdd, Nat.reduceMul, Nat.reduceSub, xf_same, xq_ff, xq_fo, xf_1, xf_2, xs_1, xs_2, xs_same, xq_so, xj_1, xj_2, xj_same, xq_jo, xq_sa1, xq_same, xq_other, upd_s, oI_n, oI_s, s3, e0, pf_1 s1 hpp, e1, hc', pf_4 s1 hpp, s5, pf_13 s1 hpp, s4, pf_7 s1 hpp, e7]
      refine by_getf cn_75 fl_3_101 (by first | exact rfl | assumption | exact ps_0 hpp) (by decide) ?_
      refine by_iload_n rfl ?_
      refine by_aload_n rfl ?_
      refine by_getf cn_75 fl_3_37 (by first | exact rfl | assumption) (by decide) ?_
      simp (disch := first | exact Nat.ne_of_beq_eq_false rfl | exact rfl | omega) only [nI_add, xa_sub, xa_mul, pk_div, nm_mod, xa_shr, xa_and7, xa_and1, xa_and255, xa_by_and, nI_m1, Nat.add_sub_cancel, Nat.reducePow, Nat.zero_add, Nat.add_zero, Nat.reduceAdd, Nat.reduceMul, Nat.reduceSub, xf_same, xq_ff, xq_fo, xf_1, xf_2, xs_1, xs_2, xs_same, xq_so, xj_1, xj_2, xj_same, xq_jo, xq_sa1, xq_same, xq_other, upd_s, oI_n, oI_s, s3, e0, pf_1 s1 hpp, e1, hc', pf_4 s1 hpp, s5, pf_13 s1 hpp, s4, pf_7 s1 hpp, e7]
      refine by_iast (by first | exact rfl | assumption | exact ps_1 hpp | exact ps_2 hpp | exact ps_3 hpp | exact ps_4 hpp | exact ps_5 hpp | exact ps_6 hpp | exact ps_7 hpp | exact ps_8 hpp | exact ps_9 hpp | exact ps_10 hpp | exact ps_11 hpp | exact ps_15 hpp | exact ps_16 hpp | exact ps_17 hpp | exact ps_18 hpp | exact ps_19 hpp | exact ps_21 hpp | exact ps_22 hpp | exact ps_23 hpp | exact ps_24 hpp) ⟨by omega, by omega⟩ ?_
      refine by_aload_n rfl ?_
      refine by_getf cn_75 fl_3_15 (by first | exact rfl | assumption) (by decide) ?_
      simp (disch := first | exact Nat.ne_of_beq_eq_false rfl | exact rfl | omega) only [nI_add, xa_sub, xa_mul, pk_div, nm_mod, xa_shr, xa_and7, xa_and1, xa_and255, xa_by_and, nI_m1, Nat.add_sub_cancel, Nat.reducePow, Nat.zero_add, Nat.add_zero, Nat.reduceAdd, Nat.reduceMul, Nat.reduceSub, xf_same, xq_ff, xq_fo, xf_1, xf_2, xs_1, xs_2, xs_same, xq_so, xj_1, xj_2, xj_same, xq_jo, xq_sa1, xq_same, xq_other, upd_s, oI_n, oI_s, s3, e0, pf_1 s1 hpp, e1, hc', pf_4 s1 hpp, s5, pf_13 s1 hpp, s4, pf_7 s1 hpp, e7]
      refine by_getf cn_75 fl_3_122 (by first | exact rfl | assumption | exact ps_0 hpp) (by decide) ?_
      refine by_aload_n rfl ?_
      refine by_getf cn_75 fl_3_34 (by first | exact rfl | assumption) (by decide) ?_
      refine by_aload_n rfl ?_
      refine by_getf cn_75 fl_3_37 (by first | exact rfl | assumption) (by decide) ?_
      refine by_aload_n rfl ?_
      refine by_getf cn_75 fl_3_15 (by first | exact rfl | assumption) (by decide) ?_
      simp (disch := first | exact Nat.ne_of_beq_eq_false rfl | exact rfl | omega) only [nI_add, xa_sub, xa_mul, pk_div, nm_mod, xa_shr, xa_and7, xa_and1, xa_and255, xa_by_and, nI_m1, Nat.add_sub_cancel, Nat.reducePow, Nat.zero_add, Nat.add_zero, Nat.reduceAdd, Nat.reduceMul, Nat.reduceSub, xf_same, xq_ff, xq_fo, xf_1, xf_2, xs_1, xs_2, xs_same, xq_so, xj_1, xj_2, xj_same, xq_jo, xq_sa1, xq_same, xq_other, upd_s, oI_n, oI_s, s3, e0, pf_1 s1 hpp, e1, hc', pf_4 s1 hpp, s5, pf_13 s1 hpp, s4, pf_7 s1 hpp, e7]
      refine by_getf cn_75 fl_3_126 (by first | exact rfl | assumption | exact ps_0 hpp) (by decide) ?_
      refine by_iload_n rfl ?_
      simp (disch := first | exact Nat.ne_of_beq_eq_false rfl | exact rfl | omega) only [nI_add, xa_sub, xa_mul, pk_div, nm_mod, xa_shr, xa_and7, xa_and1, xa_and255, xa_by_and, nI_m1, Nat.add_sub_cancel, Nat.reducePow, Nat.zero_add, Nat.add_zero, Nat.reduceAdd, Nat.reduceMul, Nat.reduceSub, xf_same, xq_ff, xq_fo, xf_1, xf_2, xs_1, xs_2, xs_same, xq_so, xj_1, xj_2, xj_same, xq_jo, xq_sa1, xq_same, xq_other, upd_s, oI_n, oI_s, s3, e0, pf_1 s1 hpp, e1, hc', pf_4 s1 hpp, s5, pf_13 s1 hpp, s4, pf_7 s1 hpp, e7]
      first | refine by_iald (by first | exact rfl | assumption | exact ps_1 hpp | exact ps_2 hpp | exact ps_3 hpp | exact ps_4 hpp | exact ps_5 hpp | exact ps_6 hpp | exact ps_7 hpp | exact ps_8 hpp | exact ps_9 hpp | exact ps_10 hpp | exact ps_11 hpp | exact ps_15 hpp | exact ps_16 hpp | exact ps_17 hpp | exact ps_18 hpp | exact ps_19 hpp | exact ps_21 hpp | exact ps_22 hpp | exact ps_23 hpp | exact ps_24 hpp) ⟨by omega, by omega⟩ ?_ | refine by_tald rfl rfl ⟨by omega, by omega⟩ ?_
      simp (disch := first | exact Nat.ne_of_beq_eq_false rfl | exact rfl | omega) only [nI_add, xa_sub, xa_mul, pk_div, nm_mod, xa_shr, xa_and7, xa_and1, xa_and255, xa_by_and, nI_m1, Nat.add_sub_cancel, Nat.reducePow, Nat.zero_add, Nat.add_zero, Nat.reduceAdd, Nat.reduceMul, Nat.reduceSub, xf_same, xq_ff, xq_fo, xf_1, xf_2, xs_1, xs_2, xs_same, xq_so, xj_1, xj_2, xj_same, xq_jo, xq_sa1, xq_same, xq_other, upd_s, oI_n, oI_s, xv_0, xv_1, xv_2, xv_3, xm_p1, xm_p2, xq_fp, xq_fn, List.filter_nil, Nat.reduceBEq, Bool.not_true, Bool.not_false, Bool.and_true, Bool.and_false, Bool.false_and, Bool.true_and, if_true, if_false, Bool.false_eq_true, reduceIte, xc_i, xc_j, xc_r, xc_n, List.nil_append, List.cons_append, Option.toList_some, Option.toList_none, s3, e0, pf_1 s1 hpp, e1, hc', pf_4 s1 hpp, s5, pf_13 s1 hpp, s4, pf_7 s1 hpp, e7]
      refine by_inv3 cn_75 lk_3_129 (by rw [xe_cnt]; decide) is_167 np_167 cn_167 (by first | exact rfl | assumption | exact ps_14 hpp) (Nat.le_of_ble_eq_true rfl) ?_
      have f2 : Fr [pp + 4] [] h' (xm_si h' (pp + 4) n (nI (b + wsum cd T n))) := Fr_si Fr_rf (by simp)
      have F2 := Fr_XF s1 f2 (by decide +kernel)
      have hT2 : tyT (xm_si h' (pp + 4) n (nI (b + wsum cd T n))) pp cn tr K Lf R := tyT_fr hT (Fr_tr hf f2 (by simp [rrR]) (by simp [rrT])) (by simp [rrT] <;> omega) (by simp [taR, rrR] <;> omega)
      refine sp_fits (r := pp + 12) (b := pp + 13) (l := l) F2 hpp hT2 hcn j1 (by rw [j3]; exact j4) (by omega) (ps_12 hpp) (ps_13 hpp) (rowIs_fr s8 f2 (by simp) (by simp) (by simp)) (by omega) (by omega) (fun h3 hv f3 => ?_) (fun h3 hv f3 => ?_)
      · rw [j3] at hv
        have f23 : Fr [pp + 4, pp + 24] [(pp + 14, 11)] h' h3 := Fr_tr (Fr_mo f2 (by simp) (by simp)) f3 (by simp) (by simp)
        have F3 : XF h3 := Fr_XF F2 f3 (fi_fin hpp)
        have s3' : h3.2.2 45 1 = .ref pp := by rw [f23.2.2 _ _ (by simp <;> omega)]; exact s3
        have s5' : h3.2.2 45 3 = .int (nI (b + wsum cd T n)) := by rw [f23.2.2 _ _ (by simp <;> omega)]; exact s5
        have e7' : h3.1 (pp + 7) n = nI jj := by rw [f23.1 (pp + 7) (by simp)]; exact e7
        have hT3 : tyT h3 pp cn tr K Lf R := tyT_fr hT (Fr_tr hf f23 (by simp [rrR]) (by simp [rrT])) (by simp [rrT] <;> omega) (by simp [taR, rrR] <;> omega)
        with_reducible refine xm_go_blk b_X3_readRows_67 k_X3_readRows_67 ?_
        refine by_if_ne 77 rfl ?_
        simp (disch := first | exact Nat.ne_of_beq_eq_false rfl | exact rfl | omega) only [nI_add, xa_sub, xa_mul, pk_div, nm_mod, xa_shr, xa_and7, xa_and1, xa_and255, xa_by_and, nI_m1, Nat.add_sub_cancel, Nat.reducePow, Nat.zero_add, Nat.add_zero, Nat.reduceAdd, Nat.reduceMul, Nat.reduceSub, xf_same, xq_ff, xq_fo, xf_1, xf_2, xs_1, xs_2, xs_same, xq_so, xj_1, xj_2, xj_same, xq_jo, xq_sa1, xq_same, xq_other, upd_s, oI_n, oI_s, xv_0, xv_1, xv_2, xv_3, xm_p1, xm_p2, xq_fp, xq_fn, List.filter_nil, Nat.reduceBEq, Bool.not_true, Bool.not_false, Bool.and_true, Bool.and_false, Bool.false_and, Bool.true_and, if_true, if_false, Bool.false_eq_true, reduceIte, xc_i, xc_j, xc_r, xc_n, List.nil_append, List.cons_append, Option.toList_some, Option.toList_none, nI_ltJ, nI_leJ, nI_eqJ, nI_ltz, nI_gez, nI_gtz, nI_lez, nI_eqz, m1_ltz, m1_gez, true_imp_iff, false_imp_iff, true_and, and_true, ne_eq, not_false_eq_true, not_true_eq_false, Nat.reduceEqDiff, Nat.reduceLT, Nat.reduceLeDiff, s3', s5']
        with_reducible refine xm_go_blk b_X3_readRows_77 k_X3_readRows_77 ?_
        refine by_aload_n rfl ?_
        refine by_dup rfl ?_
        refine by_getf cn_75 fl_3_37 (by first | exact rfl | assumption) (by decide) ?_
        refine by_aload_n rfl ?_
        refine by_getf cn_75 fl_3_15 (by first | exact rfl | assumption) (by decide) ?_
        refine by_iload_n rfl ?_
        simp (disch := first | exact Nat.ne_of_beq_eq_false rfl | exact rfl | omega) only [nI_add, xa_sub, xa_mul, pk_div, nm_mod, xa_shr, xa_and7, xa_and1, xa_and255, xa_by_and, nI_m1, Nat.add_sub_cancel, Nat.reducePow, Nat.zero_add, Nat.add_zero, Nat.reduceAdd, Nat.reduceMul, Nat.reduceSub, xf_same, xq_ff, xq_fo, xf_1, xf_2, xs_1, xs_2, xs_same, xq_so, xj_1, xj_2, xj_same, xq_jo, xq_sa1, xq_same, xq_other, upd_s, oI_n, oI_s, xv_0, xv_1, xv_2, xv_3, xm_p1, xm_p2, xq_fp, xq_fn, List.filter_nil, Nat.reduceBEq, Bool.not_true, Bool.not_false, Bool.and_true, Bool.and_false, Bool.false_and, Bool.true_and, if_true, if_false, Bool.false_eq_true, reduceIte, xc_i, xc_j, xc_r, xc_n, List.nil_append, List.cons_append, Option.toList_some, Option.toList_none, s3', s5']
        refine by_inv1 cn_75 lk_3_116 (by rw [xe_cnt]; decide) is_111 np_111 cn_111 (by first | exact rfl | assumption | exact ps_0 hpp) (Nat.le_of_ble_eq_true rfl) ?_
        refine sp_tgtW F3 hpp (by omega) hT3 hcn j1 e7' ?_
        rw [j3, Nat.min_eq_right (by omega)]
        have f34 : Fr [] [(45, 3)] h3 (xm_sf h3 45 3 (.int (nI (b + wsum cd T n + ty_w (T n))))) := Fr_sf Fr_rf (by simp)
        have f4 : Fr [pp + 4, pp + 24] [(45, 3), (pp + 14, 11)] h' (xm_sf h3 45 3 (.int (nI (b + wsum cd T n + ty_w (T n))))) := Fr_sf (Fr_mo f23 (by simp) (by simp)) (by simp)
        have hS4 : ldS (xm_sf h3 45 3 (.int (nI (b + wsum cd T n + ty_w (T n))))) pp l (b + wsum cd T (n + 1)) 0 := by
          rw [hwt, ← Nat.add_assoc]
          refine ldS_fr hS f4 (by rcases hpp with rfl | rfl <;> decide +kernel) (by simp <;> omega) (by simp <;> omega) (by simp <;> omega) (by simp) (by simp) (by simp) (by simp only [xf_same]) ?_ (by omega) (by decide)
          rw [f4.2.2 _ _ (by simp <;> omega)]; exact s7
        have hg := ih (n + 1) (xm_sf h3 45 3 (.int (nI (b + wsum cd T n + ty_w (T n))))) (by omega) (Fr_tr hf f4 (by simp [rrR]) (by simp [rrT])) hS4 (by rw [wall, hw, if_pos hc, hv]; rfl) (fun m hm => ?_) (fun m hm => ?_)
        · with_reducible refine xm_go_blk b_X3_readRows_90 k_X3_readRows_90 ?_
          refine by_iadd ?_
          refine by_putf cn_75 fl_3_37 (by first | exact rfl | assumption) (by decide) nf_3_3 ft_3_3 (by first | rfl | assumption) (by first | rfl | assumption) ?_
          refine by_nil ?_
          simp (disch := first | exact Nat.ne_of_beq_eq_false rfl | exact rfl | omega) only [nI_add, xa_sub, xa_mul, pk_div, nm_mod, xa_shr, xa_and7, xa_and1, xa_and255, xa_by_and, nI_m1, Nat.add_sub_cancel, Nat.reducePow, Nat.zero_add, Nat.add_zero, Nat.reduceAdd, Nat.reduceMul, Nat.reduceSub, xf_same, xq_ff, xq_fo, xf_1, xf_2, xs_1, xs_2, xs_same, xq_so, xj_1, xj_2, xj_same, xq_jo, xq_sa1, xq_same, xq_other, upd_s, oI_n, oI_s, xv_0, xv_1, xv_2, xv_3, xm_p1, xm_p2, xq_fp, xq_fn, List.filter_nil, Nat.reduceBEq, Bool.not_true, Bool.not_false, Bool.and_true, Bool.and_false, Bool.false_and, Bool.true_and, if_true, if_false, Bool.false_eq_true, reduceIte, xc_i, xc_j, xc_r, xc_n, List.nil_append, List.cons_append, Option.toList_some, Option.toList_none]
          with_reducible refine xm_go_blk b_X3_readRows_94 k_X3_readRows_94 ?_
          refine by_iinc (by rw [ml_75]; decide) rfl ci_1 ?_
          refine by_goto 2 rfl ?_
          simp (disch := first | exact Nat.ne_of_beq_eq_false rfl | exact rfl | omega) only [nI_add, xa_sub, xa_mul, pk_div, nm_mod, xa_shr, xa_and7, xa_and1, xa_and255, xa_by_and, nI_m1, Nat.add_sub_cancel, Nat.reducePow, Nat.zero_add, Nat.add_zero, Nat.reduceAdd, Nat.reduceMul, Nat.reduceSub, xf_same, xq_ff, xq_fo, xf_1, xf_2, xs_1, xs_2, xs_same, xq_so, xj_1, xj_2, xj_same, xq_jo, xq_sa1, xq_same, xq_other, upd_s, oI_n, oI_s, xv_0, xv_1, xv_2, xv_3, xm_p1, xm_p2, xq_fp, xq_fn, List.filter_nil, Nat.reduceBEq, Bool.not_true, Bool.not_false, Bool.and_true, Bool.and_false, Bool.false_and, Bool.true_and, if_true, if_false, Bool.false_eq_true, reduceIte, xc_i, xc_j, xc_r, xc_n, List.nil_append, List.cons_append, Option.toList_some, Option.toList_none]
          exact xm_go_wk (by simp [Value.category]) hg
        · show (cd m = 10 → h3.1 (pp + 4) m = _) ∧ (cd m ≠ 10 → h3.1 (pp + 4) m = _)
          rw [f3.1 (pp + 4) (by simp), xs_same]
          by_cases e : m = n
          · subst e
            exact ⟨fun _ => by rw [upd_s], fun z => absurd hc z⟩
          · rw [upd_o e]; exact hrow m (by omega)
        · show h3.1 (pp + 4) m = _
          rw [f3.1 (pp + 4) (by simp), xs_same, upd_o (by omega)]
          exact hrow2 m (by omega)
      · rw [j3] at hv
        have f23 : Fr [pp + 4, pp + 24] [(pp + 14, 11)] h' h3 := Fr_tr (Fr_mo f2 (by simp) (by simp)) f3 (by simp) (by simp)
        with_reducible refine xm_go_blk b_X3_readRows_67 k_X3_readRows_67 ?_
        refine by_if_ne 77 rfl ?_
        simp (disch := first | exact Nat.ne_of_beq_eq_false rfl | exact rfl | omega) only [nI_add, xa_sub, xa_mul, pk_div, nm_mod, xa_shr, xa_and7, xa_and1, xa_and255, xa_by_and, nI_m1, Nat.add_sub_cancel, Nat.reducePow, Nat.zero_add, Nat.add_zero, Nat.reduceAdd, Nat.reduceMul, Nat.reduceSub, xf_same, xq_ff, xq_fo, xf_1, xf_2, xs_1, xs_2, xs_same, xq_so, xj_1, xj_2, xj_same, xq_jo, xq_sa1, xq_same, xq_other, upd_s, oI_n, oI_s, xv_0, xv_1, xv_2, xv_3, xm_p1, xm_p2, xq_fp, xq_fn, List.filter_nil, Nat.reduceBEq, Bool.not_true, Bool.not_false, Bool.and_true, Bool.and_false, Bool.false_and, Bool.true_and, if_true, if_false, Bool.false_eq_true, reduceIte, xc_i, xc_j, xc_r, xc_n, List.nil_append, List.cons_append, Option.toList_some, Option.toList_none, nI_ltJ, nI_leJ, nI_eqJ, nI_ltz, nI_gez, nI_gtz, nI_lez, nI_eqz, m1_ltz, m1_gez, true_imp_iff, false_imp_iff, true_and, and_true, ne_eq, not_false_eq_true, not_true_eq_false, Nat.reduceEqDiff, Nat.reduceLT, Nat.reduceLeDiff]
        with_reducible refine xm_go_blk b_X3_readRows_70 k_X3_readRows_70 ?_
        refine by_aload_n rfl ?_
        refine by_bipush cb_11 ?_
        refine by_putf cn_75 fl_3_47 (by first | exact rfl | assumption) (by decide) nf_3_5 ft_3_5 (by first | rfl | assumption) (by first | rfl | assumption) ?_
        refine by_ret ry_75 ?_
        refine h11 _ (Fr_sf (Fr_tr hf f23 (by simp [rrR]) (by simp [rrT])) (by simp [rrT])) (by simp only [xf_same]) (wall_f (n := n + 1) ?_ N (by omega))
        rw [wall, if_pos hc, hv, Bool.and_false]
    · have hc' : (cd n = 10) = False := eq_false hc
      have hwt : wsum cd T (n + 1) = wsum cd T n := by simp only [wsum, wtF, hc, if_false]; omega
      with_reducible refine xm_go_blk b_X3_readRows_2 k_X3_readRows_2 ?_
      refine by_iload_n rfl ?_
      refine by_aload_n rfl ?_
      refine by_getf cn_75 fl_3_15 (by first | exact rfl | assumption) (by decide) ?_
      simp (disch := first | exact Nat.ne_of_beq_eq_false rfl | exact rfl | omega) only [nI_add, xa_sub, xa_mul, pk_div, nm_mod, xa_shr, xa_and7, xa_and1, xa_and255, xa_by_and, nI_m1, Nat.add_sub_cancel, Nat.reducePow, Nat.zero_add, Nat.add_zero, Nat.reduceAdd, Nat.reduceMul, Nat.reduceSub, xf_same, xq_ff, xq_fo, xf_1, xf_2, xs_1, xs_2, xs_same, xq_so, xj_1, xj_2, xj_same, xq_jo, xq_sa1, xq_same, xq_other, upd_s, oI_n, oI_s, s3, e0, pf_1 s1 hpp, e1, hc']
      refine by_getf cn_75 fl_3_57 (by first | exact rfl | assumption | exact ps_0 hpp) (by decide) ?_
      simp (disch := first | exact Nat.ne_of_beq_eq_false rfl | exact rfl | omega) only [nI_add, xa_sub, xa_mul, pk_div, nm_mod, xa_shr, xa_and7, xa_and1, xa_and255, xa_by_and, nI_m1, Nat.add_sub_cancel, Nat.reducePow, Nat.zero_add, Nat.add_zero, Nat.reduceAdd, Nat.reduceMul, Nat.reduceSub, xf_same, xq_ff, xq_fo, xf_1, xf_2, xs_1, xs_2, xs_same, xq_so, xj_1, xj_2, xj_same, xq_jo, xq_sa1, xq_same, xq_other, upd_s, oI_n, oI_s, s3, e0, pf_1 s1 hpp, e1, hc']
      refine by_ic_ge 100 rfl ?_
      simp (disch := first | exact Nat.ne_of_beq_eq_false rfl | exact rfl | omega) only [nI_add, xa_sub, xa_mul, pk_div, nm_mod, xa_shr, xa_and7, xa_and1, xa_and255, xa_by_and, nI_m1, Nat.add_sub_cancel, Nat.reducePow, Nat.zero_add, Nat.add_zero, Nat.reduceAdd, Nat.reduceMul, Nat.reduceSub, xf_same, xq_ff, xq_fo, xf_1, xf_2, xs_1, xs_2, xs_same, xq_so, xj_1, xj_2, xj_same, xq_jo, xq_sa1, xq_same, xq_other, upd_s, oI_n, oI_s, xv_0, xv_1, xv_2, xv_3, xm_p1, xm_p2, xq_fp, xq_fn, List.filter_nil, Nat.reduceBEq, Bool.not_true, Bool.not_false, Bool.and_true, Bool.and_false, Bool.false_and, Bool.true_and, if_true, if_false, Bool.false_eq_true, reduceIte, xc_i, xc_j, xc_r, xc_n, List.nil_append, List.cons_append, Option.toList_some, Option.toList_none, nI_ltJ, nI_leJ, nI_eqJ, nI_ltz, nI_gez, nI_gtz, nI_lez, nI_eqz, m1_ltz, m1_gez, true_imp_iff, false_imp_iff, true_and, and_true, ne_eq, not_false_eq_true, not_true_eq_false, Nat.reduceEqDiff, Nat.reduceLT, Nat.reduceLeDiff, s3, e0, pf_1 s1 hpp, e1, hc']
      refine ⟨fun c => absurd c (by omega), fun c2 => ?_⟩
      with_reducible refine xm_go_blk b_X3_readRows_13 k_X3_readRows_13 ?_
      refine by_aload_n rfl ?_
      refine by_getf cn_75 fl_3_15 (by first | exact rfl | assumption) (by decide) ?_
      simp (disch := first | exact Nat.ne_of_beq_eq_false rfl | exact rfl | omega) only [nI_add, xa_sub, xa_mul, pk_div, nm_mod, xa_shr, xa_and7, xa_and1, xa_and255, xa_by_and, nI_m1, Nat.add_sub_cancel, Nat.reducePow, Nat.zero_add, Nat.add_zero, Nat.reduceAdd, Nat.reduceMul, Nat.reduceSub, xf_same, xq_ff, xq_fo, xf_1, xf_2, xs_1, xs_2, xs_same, xq_so, xj_1, xj_2, xj_same, xq_jo, xq_sa1, xq_same, xq_other, upd_s, oI_n, oI_s, s3, e0, pf_1 s1 hpp, e1, hc']
      refine by_getf cn_75 fl_3_113 (by first | exact rfl | assumption | exact ps_0 hpp) (by decide) ?_
      refine by_iload_n rfl ?_
      simp (disch := first | exact Nat.ne_of_beq_eq_false rfl | exact rfl | omega) only [nI_add, xa_sub, xa_mul, pk_div, nm_mod, xa_shr, xa_and7, xa_and1, xa_and255, xa_by_and, nI_m1, Nat.add_sub_cancel, Nat.reducePow, Nat.zero_add, Nat.add_zero, Nat.reduceAdd, Nat.reduceMul, Nat.reduceSub, xf_same, xq_ff, xq_fo, xf_1, xf_2, xs_1, xs_2, xs_same, xq_so, xj_1, xj_2, xj_same, xq_jo, xq_sa1, xq_same, xq_other, upd_s, oI_n, oI_s, s3, e0, pf_1 s1 hpp, e1, hc']
      first | refine by_iald (by first | exact rfl | assumption | exact ps_1 hpp | exact ps_2 hpp | exact ps_3 hpp | exact ps_4 hpp | exact ps_5 hpp | exact ps_6 hpp | exact ps_7 hpp | exact ps_8 hpp | exact ps_9 hpp | exact ps_10 hpp | exact ps_11 hpp | exact ps_15 hpp | exact ps_16 hpp | exact ps_17 hpp | exact ps_18 hpp | exact ps_19 hpp | exact ps_21 hpp | exact ps_22 hpp | exact ps_23 hpp | exact ps_24 hpp) ⟨by omega, by omega⟩ ?_ | refine by_tald rfl rfl ⟨by omega, by omega⟩ ?_
      refine by_bipush cb_10 ?_
      refine by_ic_ne 94 rfl ?_
      simp (disch := first | exact Nat.ne_of_beq_eq_false rfl | exact rfl | omega) only [nI_add, xa_sub, xa_mul, pk_div, nm_mod, xa_shr, xa_and7, xa_and1, xa_and255, xa_by_and, nI_m1, Nat.add_sub_cancel, Nat.reducePow, Nat.zero_add, Nat.add_zero, Nat.reduceAdd, Nat.reduceMul, Nat.reduceSub, xf_same, xq_ff, xq_fo, xf_1, xf_2, xs_1, xs_2, xs_same, xq_so, xj_1, xj_2, xj_same, xq_jo, xq_sa1, xq_same, xq_other, upd_s, oI_n, oI_s, xv_0, xv_1, xv_2, xv_3, xm_p1, xm_p2, xq_fp, xq_fn, List.filter_nil, Nat.reduceBEq, Bool.not_true, Bool.not_false, Bool.and_true, Bool.and_false, Bool.false_and, Bool.true_and, if_true, if_false, Bool.false_eq_true, reduceIte, xc_i, xc_j, xc_r, xc_n, List.nil_append, List.cons_append, Option.toList_some, Option.toList_none, nI_ltJ, nI_leJ, nI_eqJ, nI_ltz, nI_gez, nI_gtz, nI_lez, nI_eqz, m1_ltz, m1_gez, true_imp_iff, false_imp_iff, true_and, and_true, ne_eq, not_false_eq_true, not_true_eq_false, Nat.reduceEqDiff, Nat.reduceLT, Nat.reduceLeDiff, s3, e0, pf_1 s1 hpp, e1, hc']
      with_reducible refine xm_go_blk b_X3_readRows_94 k_X3_readRows_94 ?_
      refine by_iinc (by rw [ml_75]; decide) rfl ci_1 ?_
      refine by_goto 2 rfl ?_
      simp (disch := first | exact Nat.ne_of_beq_eq_false rfl | exact rfl | omega) only [nI_add, xa_sub, xa_mul, pk_div, nm_mod, xa_shr, xa_and7, xa_and1, xa_and255, xa_by_and, nI_m1, Nat.add_sub_cancel, Nat.reducePow, Nat.zero_add, Nat.add_zero, Nat.reduceAdd, Nat.reduceMul, Nat.reduceSub, xf_same, xq_ff, xq_fo, xf_1, xf_2, xs_1, xs_2, xs_same, xq_so, xj_1, xj_2, xj_same, xq_jo, xq_sa1, xq_same, xq_other, upd_s, oI_n, oI_s, xv_0, xv_1, xv_2, xv_3, xm_p1, xm_p2, xq_fp, xq_fn, List.filter_nil, Nat.reduceBEq, Bool.not_true, Bool.not_false, Bool.and_true, Bool.and_false, Bool.false_and, Bool.true_and, if_true, if_false, Bool.false_eq_true, reduceIte, xc_i, xc_j, xc_r, xc_n, List.nil_append, List.cons_append, Option.toList_some, Option.toList_none, s3, e0, pf_1 s1 hpp, e1, hc']
      refine xm_go_wk (by simp [Value.category]) (ih (n + 1) h' (by omega) hf (by rw [hwt]; exact hS) (by rw [wall, hw, if_neg hc]; rfl) (fun m hm => ?_) (fun m hm => hrow2 m (by omega)))
      by_cases e : m = n
      · subst e
        exact ⟨fun z => absurd z hc, fun _ => hrow2 m (Nat.le_refl _)⟩
      · exact hrow m (by omega)
end WI
