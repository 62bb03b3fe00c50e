/-! ===== Types: the table of the class's types ===== -/
theorem mn_I {a b : Nat} : (if b < a then nI b else nI a) = nI (min a b) := by
  split
  · rw [Nat.min_eq_right (by omega)]
  · rw [Nat.min_eq_left (by omega)]
theorem mx_I {a b : Nat} : (if a < b then nI b else nI a) = nI (max a b) := by
  split
  · rw [Nat.max_eq_right (by omega)]
  · rw [Nat.max_eq_left (by omega)]
theorem vz_0 : vp_nar .boolean (nI 0) = nI 0 := by decide
theorem vz_1 : vp_nar .boolean (nI 1) = nI 1 := by decide
def tsv (tr : Nat → Ty) (k l r : Nat) : Ty := match k with
  | 0 => tO
  | 1 => .add (tr l) (tr r)
  | _ => .mul (tr l) (tr r)
def tsh (B k l r : Nat) : Prop := k ≤ 2 ∧ (k = 0 → l = 0 ∧ r = 0) ∧ (1 ≤ k → l < B ∧ r < B)
theorem ts_cs {k : Nat} (h : k ≤ 2) : k = 0 ∨ k = 1 ∨ k = 2 := by omega
theorem tsv_inj {tr : Nat → Ty} {b B k l r k' l' r' : Nat} (h1 : tsh B k l r) (h2 : tsh B k' l' r') (hb1 : 1 ≤ k → b ≤ l ∧ b ≤ r) (hb2 : 1 ≤ k' → b ≤ l' ∧ b ≤ r') (hj : ∀ i j, b ≤ i → i < B → b ≤ j → j < B → tr i = tr j → i = j) (e : tsv tr k l r = tsv tr k' l' r') : k = k' ∧ l = l' ∧ r = r' := by
  obtain ⟨a1, a2, a3⟩ := h1
  obtain ⟨b1, b2, b3⟩ := h2
  rcases ts_cs a1 with rfl | rfl | rfl <;> rcases ts_cs b1 with rfl | rfl | rfl
  · exact ⟨rfl, by rw [(a2 rfl).1, (b2 rfl).1], by rw [(a2 rfl).2, (b2 rfl).2]⟩
  · simp [tsv, tO] at e
  · simp [tsv, tO] at e
  · simp [tsv, tO] at e
  · simp only [tsv, Lean.Grind.CommRing.Expr.add.injEq] at e
    exact ⟨rfl, hj _ _ (hb1 (by decide)).1 (a3 (by decide)).1 (hb2 (by decide)).1 (b3 (by decide)).1 e.1, hj _ _ (hb1 (by decide)).2 (a3 (by decide)).2 (hb2 (by decide)).2 (b3 (by decide)).2 e.2⟩
  · simp [tsv] at e
  · simp [tsv, tO] at e
  · simp [tsv] at e
  · simp only [tsv, Lean.Grind.CommRing.Expr.mul.injEq] at e
    exact ⟨rfl, hj _ _ (hb1 (by decide)).1 (a3 (by decide)).1 (hb2 (by decide)).1 (b3 (by decide)).1 e.1, hj _ _ (hb1 (by decide)).2 (a3 (by decide)).2 (hb2 (by decide)).2 (b3 (by decide)).2 e.2⟩
theorem tsv_mo {tr tr' : Nat → Ty} {B k l r : Nat} (h : tsh B k l r) (he : ∀ j, j < B → tr' j = tr j) : tsv tr' k l r = tsv tr k l r := by
  obtain ⟨a1, a2, a3⟩ := h
  rcases ts_cs a1 with rfl | rfl | rfl
  · rfl
  · simp only [tsv]; rw [he _ (a3 (by decide)).1, he _ (a3 (by decide)).2]
  · simp only [tsv]; rw [he _ (a3 (by decide)).1, he _ (a3 (by decide)).2]
/-- a number's row, and all others as they were -/
def dsR (pp : Nat) : List Nat := [pp + 15, pp + 16, pp + 17, pp + 18, pp + 19, pp + 20, pp + 21]
def dsO (pp t : Nat) (h h' : xm_H) : Prop := Fr (dsR pp) [] h h' ∧ ∀ a i, i ≠ t → h'.1 a i = h.1 a i
theorem dsO_rf {pp t : Nat} {h : xm_H} : dsO pp t h h := ⟨Fr_rf, fun _ _ _ => rfl⟩
theorem dsO_si {pp t a : Nat} {h h' : xm_H} {v : Int32} (hd : dsO pp t h h') (ha : a ∈ dsR pp) : dsO pp t h (xm_si h' a t v) := by
  refine ⟨Fr_si hd.1 ha, fun b i hi => ?_⟩
  by_cases e : b = a
  · subst e
    rw [xs_same, upd_o hi]; exact hd.2 b i hi
  · rw [xq_so e]; exact hd.2 b i hi
def dsV (h : xm_H) (pp t k l r w o x : Nat) (b : Bool) : Prop := h.1 (pp + 15) t = nI k ∧ h.1 (pp + 16) t = nI l ∧ h.1 (pp + 17) t = nI r ∧ h.1 (pp + 18) t = nI w ∧ h.1 (pp + 19) t = nI o ∧ h.1 (pp + 20) t = nI b.toNat ∧ h.1 (pp + 21) t = nI x
section DS
variable {sc : xm_Sc} {d pp t k l r : Nat} {h h1 : xm_H} {post : xm_Po}
theorem ds_XF (hF : XF h) (hd : dsO pp t h h1) : XF h1 := Fr_XF hF hd.1 (by decide +kernel)
theorem ds_0 (hF : XF h) (hpp : pp = 52 ∨ pp = 77) (ht : t < 14032) (hp : ∀ h', dsO pp t h h' → dsV h' pp t 0 0 0 0 0 1 true → post none h') : xm_T (XE sc) (d + 1) 166 [.ref (pp + 14), .int (nI t), .int (nI 0), .int (nI 0), .int (nI 0)] h post := by
  refine xq_in rfl ?_
  simp only [xq_a0, xq_aI, xq_aJ, xq_aR, Nat.reduceAdd]
  with_reducible refine xm_go_blk b_X10_describe_0 k_X10_describe_0 ?_
  refine by_aload_n rfl ?_
  refine by_getf cn_166 fl_10_11 (by first | exact rfl | assumption | exact ps_14 hpp) (by decide) ?_
  refine by_iload_n rfl ?_
  refine by_iload_n rfl ?_
  simp (disch := first | exact Nat.ne_of_beq_eq_false rfl | exact rfl | omega) only [nI_add, xa_sub, xa_mul, pk_div, nm_mod, xa_shr, xa_and7, xa_and1, xa_and255, xa_by_and, nI_m1, Nat.add_sub_cancel, Nat.reducePow, Nat.zero_add, Nat.add_zero, Nat.reduceAdd, Nat.reduceMul, Nat.reduceSub, xf_same, xq_ff, xq_fo, xf_1, xf_2, xs_1, xs_2, xs_same, xq_so, xj_1, xj_2, xj_same, xq_jo, xq_sa1, xq_same, xq_other, upd_s, oI_n, oI_s, pt_1 hF hpp, pt_2 hF hpp, pt_3 hF hpp, pt_4 hF hpp, pt_5 hF hpp, pt_6 hF hpp, pt_7 hF hpp, vz_0, vz_1]
  refine by_iast (by first | exact rfl | assumption | exact ps_1 hpp | exact ps_2 hpp | exact ps_3 hpp | exact ps_4 hpp | exact ps_5 hpp | exact ps_6 hpp | exact ps_7 hpp | exact ps_8 hpp | exact ps_9 hpp | exact ps_10 hpp | exact ps_11 hpp | exact ps_15 hpp | exact ps_16 hpp | exact ps_17 hpp | exact ps_18 hpp | exact ps_19 hpp | exact ps_21 hpp | exact ps_22 hpp | exact ps_23 hpp | exact ps_24 hpp) ⟨by omega, by omega⟩ ?_
  refine by_aload_n rfl ?_
  refine by_getf cn_166 fl_10_15 (by first | exact rfl | assumption | exact ps_14 hpp) (by decide) ?_
  refine by_iload_n rfl ?_
  refine by_iload_n rfl ?_
  simp (disch := first | exact Nat.ne_of_beq_eq_false rfl | exact rfl | omega) only [nI_add, xa_sub, xa_mul, pk_div, nm_mod, xa_shr, xa_and7, xa_and1, xa_and255, xa_by_and, nI_m1, Nat.add_sub_cancel, Nat.reducePow, Nat.zero_add, Nat.add_zero, Nat.reduceAdd, Nat.reduceMul, Nat.reduceSub, xf_same, xq_ff, xq_fo, xf_1, xf_2, xs_1, xs_2, xs_same, xq_so, xj_1, xj_2, xj_same, xq_jo, xq_sa1, xq_same, xq_other, upd_s, oI_n, oI_s, pt_1 hF hpp, pt_2 hF hpp, pt_3 hF hpp, pt_4 hF hpp, pt_5 hF hpp, pt_6 hF hpp, pt_7 hF hpp, vz_0, vz_1]
  refine by_iast (by first | exact rfl | assumption | exact ps_1 hpp | exact ps_2 hpp | exact ps_3 hpp | exact ps_4 hpp | exact ps_5 hpp | exact ps_6 hpp | exact ps_7 hpp | exact ps_8 hpp | exact ps_9 hpp | exact ps_10 hpp | exact ps_11 hpp | exact ps_15 hpp | exact ps_16 hpp | exact ps_17 hpp | exact ps_18 hpp | exact ps_19 hpp | exact ps_21 hpp | exact ps_22 hpp | exact ps_23 hpp | exact ps_24 hpp) ⟨by omega, by omega⟩ ?_
  refine by_aload_n rfl ?_
  refine by_getf cn_166 fl_10_18 (by first | exact rfl | assumption | exact ps_14 hpp) (by decide) ?_
  refine by_iload_n rfl ?_
  refine by_iload rfl ?_
  simp (disch := first | exact Nat.ne_of_beq_eq_false rfl | exact rfl | omega) only [nI_add, xa_sub, xa_mul, pk_div, nm_mod, xa_shr, xa_and7, xa_and1, xa_and255, xa_by_and, nI_m1, Nat.add_sub_cancel, Nat.reducePow, Nat.zero_add, Nat.add_zero, Nat.reduceAdd, Nat.reduceMul, Nat.reduceSub, xf_same, xq_ff, xq_fo, xf_1, xf_2, xs_1, xs_2, xs_same, xq_so, xj_1, xj_2, xj_same, xq_jo, xq_sa1, xq_same, xq_other, upd_s, oI_n, oI_s, pt_1 hF hpp, pt_2 hF hpp, pt_3 hF hpp, pt_4 hF hpp, pt_5 hF hpp, pt_6 hF hpp, pt_7 hF hpp, vz_0, vz_1]
  refine by_iast (by first | exact rfl | assumption | exact ps_1 hpp | exact ps_2 hpp | exact ps_3 hpp | exact ps_4 hpp | exact ps_5 hpp | exact ps_6 hpp | exact ps_7 hpp | exact ps_8 hpp | exact ps_9 hpp | exact ps_10 hpp | exact ps_11 hpp | exact ps_15 hpp | exact ps_16 hpp | exact ps_17 hpp | exact ps_18 hpp | exact ps_19 hpp | exact ps_21 hpp | exact ps_22 hpp | exact ps_23 hpp | exact ps_24 hpp) ⟨by omega, by omega⟩ ?_
  refine by_aload_n rfl ?_
  refine by_getf cn_166 fl_10_21 (by first | exact rfl | assumption | exact ps_14 hpp) (by decide) ?_
  refine by_iload_n rfl ?_
  refine by_iconst ci_0 ?_
  simp (disch := first | exact Nat.ne_of_beq_eq_false rfl | exact rfl | omega) only [nI_add, xa_sub, xa_mul, pk_div, nm_mod, xa_shr, xa_and7, xa_and1, xa_and255, xa_by_and, nI_m1, Nat.add_sub_cancel, Nat.reducePow, Nat.zero_add, Nat.add_zero, Nat.reduceAdd, Nat.reduceMul, Nat.reduceSub, xf_same, xq_ff, xq_fo, xf_1, xf_2, xs_1, xs_2, xs_same, xq_so, xj_1, xj_2, xj_same, xq_jo, xq_sa1, xq_same, xq_other, upd_s, oI_n, oI_s, pt_1 hF hpp, pt_2 hF hpp, pt_3 hF hpp, pt_4 hF hpp, pt_5 hF hpp, pt_6 hF hpp, pt_7 hF hpp, vz_0, vz_1]
  refine by_iast (by first | exact rfl | assumption | exact ps_1 hpp | exact ps_2 hpp | exact ps_3 hpp | exact ps_4 hpp | exact ps_5 hpp | exact ps_6 hpp | exact ps_7 hpp | exact ps_8 hpp | exact ps_9 hpp | exact ps_10 hpp | exact ps_11 hpp | exact ps_15 hpp | exact ps_16 hpp | exact ps_17 hpp | exact ps_18 hpp | exact ps_19 hpp | exact ps_21 hpp | exact ps_22 hpp | exact ps_23 hpp | exact ps_24 hpp) ⟨by omega, by omega⟩ ?_
  refine by_aload_n rfl ?_
  refine by_getf cn_166 fl_10_24 (by first | exact rfl | assumption | exact ps_14 hpp) (by decide) ?_
  refine by_iload_n rfl ?_
  refine by_iconst ci_0 ?_
  simp (disch := first | exact Nat.ne_of_beq_eq_false rfl | exact rfl | omega) only [nI_add, xa_sub, xa_mul, pk_div, nm_mod, xa_shr, xa_and7, xa_and1, xa_and255, xa_by_and, nI_m1, Nat.add_sub_cancel, Nat.reducePow, Nat.zero_add, Nat.add_zero, Nat.reduceAdd, Nat.reduceMul, Nat.reduceSub, xf_same, xq_ff, xq_fo, xf_1, xf_2, xs_1, xs_2, xs_same, xq_so, xj_1, xj_2, xj_same, xq_jo, xq_sa1, xq_same, xq_other, upd_s, oI_n, oI_s, pt_1 hF hpp, pt_2 hF hpp, pt_3 hF hpp, pt_4 hF hpp, pt_5 hF hpp, pt_6 hF hpp, pt_7 hF hpp, vz_0, vz_1]
  refine by_iast (by first | exact rfl | assumption | exact ps_1 hpp | exact ps_2 hpp | exact ps_3 hpp | exact ps_4 hpp | exact ps_5 hpp | exact ps_6 hpp | exact ps_7 hpp | exact ps_8 hpp | exact ps_9 hpp | exact ps_10 hpp | exact ps_11 hpp | exact ps_15 hpp | exact ps_16 hpp | exact ps_17 hpp | exact ps_18 hpp | exact ps_19 hpp | exact ps_21 hpp | exact ps_22 hpp | exact ps_23 hpp | exact ps_24 hpp) ⟨by omega, by omega⟩ ?_
  refine by_aload_n rfl ?_
  refine by_getf cn_166 fl_10_27 (by first | exact rfl | assumption | exact ps_14 hpp) (by decide) ?_
  refine by_iload_n rfl ?_
  refine by_iconst ci_1 ?_
  simp (disch := first | exact Nat.ne_of_beq_eq_false rfl | exact rfl | omega) only [nI_add, xa_sub, xa_mul, pk_div, nm_mod, xa_shr, xa_and7, xa_and1, xa_and255, xa_by_and, nI_m1, Nat.add_sub_cancel, Nat.reducePow, Nat.zero_add, Nat.add_zero, Nat.reduceAdd, Nat.reduceMul, Nat.reduceSub, xf_same, xq_ff, xq_fo, xf_1, xf_2, xs_1, xs_2, xs_same, xq_so, xj_1, xj_2, xj_same, xq_jo, xq_sa1, xq_same, xq_other, upd_s, oI_n, oI_s, pt_1 hF hpp, pt_2 hF hpp, pt_3 hF hpp, pt_4 hF hpp, pt_5 hF hpp, pt_6 hF hpp, pt_7 hF hpp, vz_0, vz_1]
  first | refine by_bast (by first | exact rfl | assumption | exact ps_13 hpp) ⟨by omega, by omega⟩ ?_ | refine by_zast (by first | exact rfl | assumption | exact ps_20 hpp) ⟨by omega, by omega⟩ ?_
  refine by_aload_n rfl ?_
  refine by_getf cn_166 fl_10_31 (by first | exact rfl | assumption | exact ps_14 hpp) (by decide) ?_
  refine by_iload_n rfl ?_
  refine by_iconst ci_1 ?_
  simp (disch := first | exact Nat.ne_of_beq_eq_false rfl | exact rfl | omega) only [nI_add, xa_sub, xa_mul, pk_div, nm_mod, xa_shr, xa_and7, xa_and1, xa_and255, xa_by_and, nI_m1, Nat.add_sub_cancel, Nat.reducePow, Nat.zero_add, Nat.add_zero, Nat.reduceAdd, Nat.reduceMul, Nat.reduceSub, xf_same, xq_ff, xq_fo, xf_1, xf_2, xs_1, xs_2, xs_same, xq_so, xj_1, xj_2, xj_same, xq_jo, xq_sa1, xq_same, xq_other, upd_s, oI_n, oI_s, pt_1 hF hpp, pt_2 hF hpp, pt_3 hF hpp, pt_4 hF hpp, pt_5 hF hpp, pt_6 hF hpp, pt_7 hF hpp, vz_0, vz_1]
  refine by_iast (by first | exact rfl | assumption | exact ps_1 hpp | exact ps_2 hpp | exact ps_3 hpp | exact ps_4 hpp | exact ps_5 hpp | exact ps_6 hpp | exact ps_7 hpp | exact ps_8 hpp | exact ps_9 hpp | exact ps_10 hpp | exact ps_11 hpp | exact ps_15 hpp | exact ps_16 hpp | exact ps_17 hpp | exact ps_18 hpp | exact ps_19 hpp | exact ps_21 hpp | exact ps_22 hpp | exact ps_23 hpp | exact ps_24 hpp) ⟨by omega, by omega⟩ ?_
  refine by_iload_n rfl ?_
  refine by_if_ne 55 rfl ?_
  simp (disch := first | exact Nat.ne_of_beq_eq_false rfl | exact rfl | omega) only [nI_add, xa_sub, xa_mul, pk_div, nm_mod, xa_shr, xa_and7, xa_and1, xa_and255, xa_by_and, nI_m1, Nat.add_sub_cancel, Nat.reducePow, Nat.zero_add, Nat.add_zero, Nat.reduceAdd, Nat.reduceMul, Nat.reduceSub, xf_same, xq_ff, xq_fo, xf_1, xf_2, xs_1, xs_2, xs_same, xq_so, xj_1, xj_2, xj_same, xq_jo, xq_sa1, xq_same, xq_other, upd_s, oI_n, oI_s, xv_0, xv_1, xv_2, xv_3, xm_p1, xm_p2, xq_fp, xq_fn, List.filter_nil, Nat.reduceBEq, Bool.not_true, Bool.not_false, Bool.and_true, Bool.and_false, Bool.false_and, Bool.true_and, if_true, if_false, Bool.false_eq_true, reduceIte, xc_i, xc_j, xc_r, xc_n, List.nil_append, List.cons_append, Option.toList_some, Option.toList_none, nI_ltJ, nI_leJ, nI_eqJ, nI_ltz, nI_gez, nI_gtz, nI_lez, nI_eqz, m1_ltz, m1_gez, true_imp_iff, false_imp_iff, true_and, and_true, ne_eq, not_false_eq_true, not_true_eq_false, Nat.reduceEqDiff, Nat.reduceLT, Nat.reduceLeDiff, pt_1 hF hpp, pt_2 hF hpp, pt_3 hF hpp, pt_4 hF hpp, pt_5 hF hpp, pt_6 hF hpp, pt_7 hF hpp, vz_0, vz_1]
  with_reducible refine xm_go_blk b_X10_describe_54 k_X10_describe_54 ?_
  refine by_ret ry_166 ?_
  refine hp _ (dsO_si (dsO_si (dsO_si (dsO_si (dsO_si (dsO_si (dsO_si dsO_rf ?_) ?_) ?_) ?_) ?_) ?_) ?_) ⟨?_, ?_, ?_, ?_, ?_, ?_, ?_⟩
  iterate 7 (· simp [dsR])
  iterate 7 (· simp (disch := omega) only [xq_so, xs_same, upd_s]; first | done | rfl)
def dsL (pp t k l r : Nat) : xm_L := [(0, .ref (pp + 14)), (1, .int (nI t)), (2, .int (nI k)), (3, .int (nI l)), (4, .int (nI r))]
/-- the first rows of a sum or a product -/
theorem ds_1 (hF : XF h) (hpp : pp = 52 ∨ pp = 77) (ht : t < 14032) (hk : k = 1 ∨ k = 2) (hgo : ∀ h1, dsO pp t h h1 → h1.1 (pp + 15) t = nI k → h1.1 (pp + 16) t = nI l → h1.1 (pp + 17) t = nI r → xm_go (XE sc) (xm_T (XE sc) d) 166 post 55 (dsL pp t k l r) [] h1) : xm_T (XE sc) (d + 1) 166 [.ref (pp + 14), .int (nI t), .int (nI k), .int (nI l), .int (nI r)] h post := by
  refine xq_in rfl ?_
  simp only [xq_a0, xq_aI, xq_aJ, xq_aR, Nat.reduceAdd]
  have e0 : (k = 0) = False := eq_false (by omega)
  unfold dsL at hgo
  with_reducible refine xm_go_blk b_X10_describe_0 k_X10_describe_0 ?_
  refine by_aload_n rfl ?_
  refine by_getf cn_166 fl_10_11 (by first | exact rfl | assumption | exact ps_14 hpp) (by decide) ?_
  refine by_iload_n rfl ?_
  refine by_iload_n rfl ?_
  simp (disch := first | exact Nat.ne_of_beq_eq_false rfl | exact rfl | omega) only [nI_add, xa_sub, xa_mul, pk_div, nm_mod, xa_shr, xa_and7, xa_and1, xa_and255, xa_by_and, nI_m1, Nat.add_sub_cancel, Nat.reducePow, Nat.zero_add, Nat.add_zero, Nat.reduceAdd, Nat.reduceMul, Nat.reduceSub, xf_same, xq_ff, xq_fo, xf_1, xf_2, xs_1, xs_2, xs_same, xq_so, xj_1, xj_2, xj_same, xq_jo, xq_sa1, xq_same, xq_other, upd_s, oI_n, oI_s, pt_1 hF hpp, pt_2 hF hpp, pt_3 hF hpp, pt_4 hF hpp, pt_5 hF hpp, pt_6 hF hpp, pt_7 hF hpp, vz_0, vz_1, e0]
  refine by_iast (by first | exact rfl | assumption | exact ps_1 hpp | exact ps_2 hpp | exact ps_3 hpp | exact ps_4 hpp | exact ps_5 hpp | exact ps_6 hpp | exact ps_7 hpp | exact ps_8 hpp | exact ps_9 hpp | exact ps_10 hpp | exact ps_11 hpp | exact ps_15 hpp | exact ps_16 hpp | exact ps_17 hpp | exact ps_18 hpp | exact ps_19 hpp | exact ps_21 hpp | exact ps_22 hpp | exact ps_23 hpp | exact ps_24 hpp) ⟨by omega, by omega⟩ ?_
  refine by_aload_n rfl ?_
  refine by_getf cn_166 fl_10_15 (by first | exact rfl | assumption | exact ps_14 hpp) (by decide) ?_
  refine by_iload_n rfl ?_
  refine by_iload_n rfl ?_
  simp (disch := first | exact Nat.ne_of_beq_eq_false rfl | exact rfl | omega) only [nI_add, xa_sub, xa_mul, pk_div, nm_mod, xa_shr, xa_and7, xa_and1, xa_and255, xa_by_and, nI_m1, Nat.add_sub_cancel, Nat.reducePow, Nat.zero_add, Nat.add_zero, Nat.reduceAdd, Nat.reduceMul, Nat.reduceSub, xf_same, xq_ff, xq_fo, xf_1, xf_2, xs_1, xs_2, xs_same, xq_so, xj_1, xj_2, xj_same, xq_jo, xq_sa1, xq_same, xq_other, upd_s, oI_n, oI_s, pt_1 hF hpp, pt_2 hF hpp, pt_3 hF hpp, pt_4 hF hpp, pt_5 hF hpp, pt_6 hF hpp, pt_7 hF hpp, vz_0, vz_1, e0]
  refine by_iast (by first | exact rfl | assumption | exact ps_1 hpp | exact ps_2 hpp | exact ps_3 hpp | exact ps_4 hpp | exact ps_5 hpp | exact ps_6 hpp | exact ps_7 hpp | exact ps_8 hpp | exact ps_9 hpp | exact ps_10 hpp | exact ps_11 hpp | exact ps_15 hpp | exact ps_16 hpp | exact ps_17 hpp | exact ps_18 hpp | exact ps_19 hpp | exact ps_21 hpp | exact ps_22 hpp | exact ps_23 hpp | exact ps_24 hpp) ⟨by omega, by omega⟩ ?_
  refine by_aload_n rfl ?_
  refine by_getf cn_166 fl_10_18 (by first | exact rfl | assumption | exact ps_14 hpp) (by decide) ?_
  refine by_iload_n rfl ?_
  refine by_iload rfl ?_
  simp (disch := first | exact Nat.ne_of_beq_eq_false rfl | exact rfl | omega) only [nI_add, xa_sub, xa_mul, pk_div, nm_mod, xa_shr, xa_and7, xa_and1, xa_and255, xa_by_and, nI_m1, Nat.add_sub_cancel, Nat.reducePow, Nat.zero_add, Nat.add_zero, Nat.reduceAdd, Nat.reduceMul, Nat.reduceSub, xf_same, xq_ff, xq_fo, xf_1, xf_2, xs_1, xs_2, xs_same, xq_so, xj_1, xj_2, xj_same, xq_jo, xq_sa1, xq_same, xq_other, upd_s, oI_n, oI_s, pt_1 hF hpp, pt_2 hF hpp, pt_3 hF hpp, pt_4 hF hpp, pt_5 hF hpp, pt_6 hF hpp, pt_7 hF hpp, vz_0, vz_1, e0]
  refine by_iast (by first | exact rfl | assumption | exact ps_1 hpp | exact ps_2 hpp | exact ps_3 hpp | exact ps_4 hpp | exact ps_5 hpp | exact ps_6 hpp | exact ps_7 hpp | exact ps_8 hpp | exact ps_9 hpp | exact ps_10 hpp | exact ps_11 hpp | exact ps_15 hpp | exact ps_16 hpp | exact ps_17 hpp | exact ps_18 hpp | exact ps_19 hpp | exact ps_21 hpp | exact ps_22 hpp | exact ps_23 hpp | exact ps_24 hpp) ⟨by omega, by omega⟩ ?_
  refine by_aload_n rfl ?_
  refine by_getf cn_166 fl_10_21 (by first | exact rfl | assumption | exact ps_14 hpp) (by decide) ?_
  refine by_iload_n rfl ?_
  refine by_iconst ci_0 ?_
  simp (disch := first | exact Nat.ne_of_beq_eq_false rfl | exact rfl | omega) only [nI_add, xa_sub, xa_mul, pk_div, nm_mod, xa_shr, xa_and7, xa_and1, xa_and255, xa_by_and, nI_m1, Nat.add_sub_cancel, Nat.reducePow, Nat.zero_add, Nat.add_zero, Nat.reduceAdd, Nat.reduceMul, Nat.reduceSub, xf_same, xq_ff, xq_fo, xf_1, xf_2, xs_1, xs_2, xs_same, xq_so, xj_1, xj_2, xj_same, xq_jo, xq_sa1, xq_same, xq_other, upd_s, oI_n, oI_s, pt_1 hF hpp, pt_2 hF hpp, pt_3 hF hpp, pt_4 hF hpp, pt_5 hF hpp, pt_6 hF hpp, pt_7 hF hpp, vz_0, vz_1, e0]
  refine by_iast (by first | exact rfl | assumption | exact ps_1 hpp | exact ps_2 hpp | exact ps_3 hpp | exact ps_4 hpp | exact ps_5 hpp | exact ps_6 hpp | exact ps_7 hpp | exact ps_8 hpp | exact ps_9 hpp | exact ps_10 hpp | exact ps_11 hpp | exact ps_15 hpp | exact ps_16 hpp | exact ps_17 hpp | exact ps_18 hpp | exact ps_19 hpp | exact ps_21 hpp | exact ps_22 hpp | exact ps_23 hpp | exact ps_24 hpp) ⟨by omega, by omega⟩ ?_
  refine by_aload_n rfl ?_
  refine by_getf cn_166 fl_10_24 (by first | exact rfl | assumption | exact ps_14 hpp) (by decide) ?_
  refine by_iload_n rfl ?_
  refine by_iconst ci_0 ?_
  simp (disch := first | exact Nat.ne_of_beq_eq_false rfl | exact rfl | omega) only [nI_add, xa_sub, xa_mul, pk_div, nm_mod, xa_shr, xa_and7, xa_and1, xa_and255, xa_by_and, nI_m1, Nat.add_sub_cancel, Nat.reducePow, Nat.zero_add, Nat.add_zero, Nat.reduceAdd, Nat.reduceMul, Nat.reduceSub, xf_same, xq_ff, xq_fo, xf_1, xf_2, xs_1, xs_2, xs_same, xq_so, xj_1, xj_2, xj_same, xq_jo, xq_sa1, xq_same, xq_other, upd_s, oI_n, oI_s, pt_1 hF hpp, pt_2 hF hpp, pt_3 hF hpp, pt_4 hF hpp, pt_5 hF hpp, pt_6 hF hpp, pt_7 hF hpp, vz_0, vz_1, e0]
  refine by_iast (by first | exact rfl | assumption | exact ps_1 hpp | exact ps_2 hpp | exact ps_3 hpp | exact ps_4 hpp | exact ps_5 hpp | exact ps_6 hpp | exact ps_7 hpp | exact ps_8 hpp | exact ps_9 hpp | exact ps_10 hpp | exact ps_11 hpp | exact ps_15 hpp | exact ps_16 hpp | exact ps_17 hpp | exact ps_18 hpp | exact ps_19 hpp | exact ps_21 hpp | exact ps_22 hpp | exact ps_23 hpp | exact ps_24 hpp) ⟨by omega, by omega⟩ ?_
  refine by_aload_n rfl ?_
  refine by_getf cn_166 fl_10_27 (by first | exact rfl | assumption | exact ps_14 hpp) (by decide) ?_
  refine by_iload_n rfl ?_
  refine by_iconst ci_1 ?_
  simp (disch := first | exact Nat.ne_of_beq_eq_false rfl | exact rfl | omega) only [nI_add, xa_sub, xa_mul, pk_div, nm_mod, xa_shr, xa_and7, xa_and1, xa_and255, xa_by_and, nI_m1, Nat.add_sub_cancel, Nat.reducePow, Nat.zero_add, Nat.add_zero, Nat.reduceAdd, Nat.reduceMul, Nat.reduceSub, xf_same, xq_ff, xq_fo, xf_1, xf_2, xs_1, xs_2, xs_same, xq_so, xj_1, xj_2, xj_same, xq_jo, xq_sa1, xq_same, xq_other, upd_s, oI_n, oI_s, pt_1 hF hpp, pt_2 hF hpp, pt_3 hF hpp, pt_4 hF hpp, pt_5 hF hpp, pt_6 hF hpp, pt_7 hF hpp, vz_0, vz_1, e0]
  first | refine by_bast (by first | exact rfl | assumption | exact ps_13 hpp) ⟨by omega, by omega⟩ ?_ | refine by_zast (by first | exact rfl | assumption | exact ps_20 hpp) ⟨by omega, by omega⟩ ?_
  refine by_aload_n rfl ?_
  refine by_getf cn_166 fl_10_31 (by first | exact rfl | assumption | exact ps_14 hpp) (by decide) ?_
  refine by_iload_n rfl ?_
  refine by_iconst ci_1 ?_
  simp (disch := first | exact Nat.ne_of_beq_eq_false rfl | exact rfl | omega) only [nI_add, xa_sub, xa_mul, pk_div, nm_mod, xa_shr, xa_and7, xa_and1, xa_and255, xa_by_and, nI_m1, Nat.add_sub_cancel, Nat.reducePow, Nat.zero_add, Nat.add_zero, Nat.reduceAdd, Nat.reduceMul, Nat.reduceSub, xf_same, xq_ff, xq_fo, xf_1, xf_2, xs_1, xs_2, xs_same, xq_so, xj_1, xj_2, xj_same, xq_jo, xq_sa1, xq_same, xq_other, upd_s, oI_n, oI_s, pt_1 hF hpp, pt_2 hF hpp, pt_3 hF hpp, pt_4 hF hpp, pt_5 hF hpp, pt_6 hF hpp, pt_7 hF hpp, vz_0, vz_1, e0]
  refine by_iast (by first | exact rfl | assumption | exact ps_1 hpp | exact ps_2 hpp | exact ps_3 hpp | exact ps_4 hpp | exact ps_5 hpp | exact ps_6 hpp | exact ps_7 hpp | exact ps_8 hpp | exact ps_9 hpp | exact ps_10 hpp | exact ps_11 hpp | exact ps_15 hpp | exact ps_16 hpp | exact ps_17 hpp | exact ps_18 hpp | exact ps_19 hpp | exact ps_21 hpp | exact ps_22 hpp | exact ps_23 hpp | exact ps_24 hpp) ⟨by omega, by omega⟩ ?_
  refine by_iload_n rfl ?_
  refine by_if_ne 55 rfl ?_
  simp (disch := first | exact Nat.ne_of_beq_eq_false rfl | exact rfl | omega) only [nI_add, xa_sub, xa_mul, pk_div, nm_mod, xa_shr, xa_and7, xa_and1, xa_and255, xa_by_and, nI_m1, Nat.add_sub_cancel, Nat.reducePow, Nat.zero_add, Nat.add_zero, Nat.reduceAdd, Nat.reduceMul, Nat.reduceSub, xf_same, xq_ff, xq_fo, xf_1, xf_2, xs_1, xs_2, xs_same, xq_so, xj_1, xj_2, xj_same, xq_jo, xq_sa1, xq_same, xq_other, upd_s, oI_n, oI_s, xv_0, xv_1, xv_2, xv_3, xm_p1, xm_p2, xq_fp, xq_fn, List.filter_nil, Nat.reduceBEq, Bool.not_true, Bool.not_false, Bool.and_true, Bool.and_false, Bool.false_and, Bool.true_and, if_true, if_false, Bool.false_eq_true, reduceIte, xc_i, xc_j, xc_r, xc_n, List.nil_append, List.cons_append, Option.toList_some, Option.toList_none, nI_ltJ, nI_leJ, nI_eqJ, nI_ltz, nI_gez, nI_gtz, nI_lez, nI_eqz, m1_ltz, m1_gez, true_imp_iff, false_imp_iff, true_and, and_true, ne_eq, not_false_eq_true, not_true_eq_false, Nat.reduceEqDiff, Nat.reduceLT, Nat.reduceLeDiff, pt_1 hF hpp, pt_2 hF hpp, pt_3 hF hpp, pt_4 hF hpp, pt_5 hF hpp, pt_6 hF hpp, pt_7 hF hpp, vz_0, vz_1, e0]
  refine hgo _ (dsO_si (dsO_si (dsO_si (dsO_si (dsO_si (dsO_si (dsO_si dsO_rf ?_) ?_) ?_) ?_) ?_) ?_) ?_) ?_ ?_ ?_
  iterate 7 (· simp [dsR])
  iterate 3 (· simp (disch := omega) only [xq_so, xs_same, upd_s])
end DS
