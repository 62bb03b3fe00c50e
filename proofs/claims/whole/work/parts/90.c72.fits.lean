/-! ===== Types.fits ===== -/
def muF (tr : Nat → Ty) (i : Nat) : Nat := if ty_full (tr i) then 1 else ty_w (tr i) * (i + 1)
def muL (tr : Nat → Ty) : List Nat → Nat
  | [] => 0
  | i :: q => muF tr i + muL tr q
def wiL (tr : Nat → Ty) : List Nat → Nat
  | [] => 0
  | i :: q => ty_w (tr i) + wiL tr q
def stH (cn : Nat) : List Nat → Prop
  | [] => True
  | i :: q => q.length + 1 + i ≤ cn ∧ stH cn q
theorem stH_len {cn : Nat} : ∀ {q : List Nat}, stH cn q → q.length ≤ cn
  | [], _ => Nat.zero_le _
  | i :: q, h => by simp only [List.length_cons]; have := h.1; omega
theorem muF_pos {tr : Nat → Ty} {i : Nat} : 1 ≤ muF tr i := by
  unfold muF
  split
  · exact Nat.le_refl _
  · rename_i h
    have := ty_nfull_w (tr i) (by simpa using h)
    exact Nat.le_trans (by omega : 1 ≤ ty_w (tr i)) (Nat.le_mul_of_pos_right _ (by omega))
theorem mu_half {tr : Nat → Ty} {p i : Nat} (hp : p < i) : muF tr p ≤ 1 ∨ (2 ≤ ty_w (tr p) ∧ muF tr p ≤ ty_w (tr p) * i) := by
  unfold muF
  split
  · exact Or.inl (Nat.le_refl _)
  · rename_i h
    exact Or.inr ⟨ty_nfull_w _ (by simpa using h), Nat.mul_le_mul_left _ (by omega)⟩
theorem mu_prod {tr : Nat → Ty} {i l r : Nat} (hf : ty_full (tr i) = false) (he : tr i = .mul (tr l) (tr r)) (hl : l < i) (hr : r < i) : muF tr l + muF tr r + 1 ≤ muF tr i := by
  have e : muF tr i = (ty_w (tr l) + ty_w (tr r)) * (i + 1) := by
    unfold muF
    rw [hf, he]
    rfl
  have hw := ty_nfull_w _ hf
  rw [he] at hw hf
  simp only [ty_w] at hw
  rw [e, Nat.mul_add, Nat.mul_one, Nat.add_mul]
  rcases mu_half (tr := tr) hl with a | ⟨a1, a2⟩
  · rcases mu_half (tr := tr) hr with b | ⟨b1, b2⟩
    · have hi : 1 ≤ i := by omega
      have fl : ty_full (tr l) = true ∨ ¬ ty_full (tr l) = true := by cases ty_full (tr l) <;> simp
      -- both full: then the product is full
      have h3 : ty_full (tr l) = false ∨ ty_full (tr r) = false := by
        simp only [ty_full] at hf
        cases h4 : ty_full (tr l) <;> cases h5 : ty_full (tr r) <;> simp_all
      have h4 : 2 ≤ ty_w (tr l) * i ∨ 2 ≤ ty_w (tr r) * i := by
        rcases h3 with h | h
        · exact Or.inl (Nat.le_trans (ty_nfull_w _ h) (Nat.le_mul_of_pos_right _ hi))
        · exact Or.inr (Nat.le_trans (ty_nfull_w _ h) (Nat.le_mul_of_pos_right _ hi))
      omega
    · omega
  · rcases mu_half (tr := tr) hr with b | ⟨b1, b2⟩
    · omega
    · omega
theorem mu_sum {tr : Nat → Ty} {i p : Nat} (hf : ty_full (tr i) = false) (hw : ty_w (tr p) + 1 ≤ ty_w (tr i)) (hp : p < i) : muF tr p + 1 ≤ muF tr i := by
  have e : muF tr i = ty_w (tr i) * (i + 1) := by
    unfold muF
    rw [hf]
    rfl
  have hw2 := ty_nfull_w _ hf
  rw [e, Nat.mul_add, Nat.mul_one]
  rcases mu_half (tr := tr) hp with a | ⟨a1, a2⟩
  · omega
  · have : ty_w (tr p) * i ≤ ty_w (tr i) * i := Nat.mul_le_mul_right _ (by omega)
    omega
section FI
variable {sc : xm_Sc} {d pp : Nat} {h : xm_H} {post : xm_Po}
theorem sp_tpush {n x : Nat} (hF : XF h) (hpp : pp = 52 ∨ pp = 77) (hn : n < 14048) (ht : h.2.2 (pp + 14) 11 = .int (nI n)) (hp : post none (xm_sf (xm_si h (pp + 24) n (nI x)) (pp + 14) 11 (.int (nI (n + 1))))) : xm_T (XE sc) (d + 1) 170 [.ref (pp + 14), .int (nI x)] h post := by
  refine xq_in rfl ?_
  simp only [xq_a0, xq_aI, xq_aJ, xq_aR, Nat.reduceAdd]
  with_reducible refine xm_go_blk b_X10_push_0 k_X10_push_0 ?_
  refine by_aload_n rfl ?_
  refine by_getf cn_170 fl_10_62 (by first | exact rfl | assumption | exact ps_14 hpp) (by decide) ?_
  refine by_sipush cs_14048 ?_
  simp (disch := first | exact Nat.ne_of_beq_eq_false rfl | exact rfl | omega) only [nI_add, xa_sub, xa_mul, pk_div, nm_mod, xa_shr, xa_and7, xa_and1, xa_and255, xa_by_and, nI_m1, Nat.add_sub_cancel, Nat.reducePow, Nat.zero_add, Nat.add_zero, Nat.reduceAdd, Nat.reduceMul, Nat.reduceSub, xf_same, xq_ff, xq_fo, xf_1, xf_2, xs_1, xs_2, xs_same, xq_so, xj_1, xj_2, xj_same, xq_jo, xq_sa1, xq_same, xq_other, upd_s, oI_n, oI_s, ht, pt_10 hF hpp]
  refine by_ic_ge 30 rfl ?_
  simp (disch := first | exact Nat.ne_of_beq_eq_false rfl | exact rfl | omega) only [nI_add, xa_sub, xa_mul, pk_div, nm_mod, xa_shr, xa_and7, xa_and1, xa_and255, xa_by_and, nI_m1, Nat.add_sub_cancel, Nat.reducePow, Nat.zero_add, Nat.add_zero, Nat.reduceAdd, Nat.reduceMul, Nat.reduceSub, xf_same, xq_ff, xq_fo, xf_1, xf_2, xs_1, xs_2, xs_same, xq_so, xj_1, xj_2, xj_same, xq_jo, xq_sa1, xq_same, xq_other, upd_s, oI_n, oI_s, xv_0, xv_1, xv_2, xv_3, xm_p1, xm_p2, xq_fp, xq_fn, List.filter_nil, Nat.reduceBEq, Bool.not_true, Bool.not_false, Bool.and_true, Bool.and_false, Bool.false_and, Bool.true_and, if_true, if_false, Bool.false_eq_true, reduceIte, xc_i, xc_j, xc_r, xc_n, List.nil_append, List.cons_append, Option.toList_some, Option.toList_none, nI_ltJ, nI_leJ, nI_eqJ, nI_ltz, nI_gez, nI_gtz, nI_lez, nI_eqz, m1_ltz, m1_gez, true_imp_iff, false_imp_iff, true_and, and_true, ne_eq, not_false_eq_true, not_true_eq_false, Nat.reduceEqDiff, Nat.reduceLT, Nat.reduceLeDiff, ht, pt_10 hF hpp]
  refine ⟨fun c => absurd c (by omega), fun c0 => ?_⟩
  with_reducible refine xm_go_blk b_X10_push_10 k_X10_push_10 ?_
  refine by_aload_n rfl ?_
  refine by_getf cn_170 fl_10_40 (by first | exact rfl | assumption | exact ps_14 hpp) (by decide) ?_
  refine by_aload_n rfl ?_
  refine by_getf cn_170 fl_10_62 (by first | exact rfl | assumption | exact ps_14 hpp) (by decide) ?_
  refine by_iload_n rfl ?_
  simp (disch := first | exact Nat.ne_of_beq_eq_false rfl | exact rfl | omega) only [nI_add, xa_sub, xa_mul, pk_div, nm_mod, xa_shr, xa_and7, xa_and1, xa_and255, xa_by_and, nI_m1, Nat.add_sub_cancel, Nat.reducePow, Nat.zero_add, Nat.add_zero, Nat.reduceAdd, Nat.reduceMul, Nat.reduceSub, xf_same, xq_ff, xq_fo, xf_1, xf_2, xs_1, xs_2, xs_same, xq_so, xj_1, xj_2, xj_same, xq_jo, xq_sa1, xq_same, xq_other, upd_s, oI_n, oI_s, ht, pt_10 hF hpp]
  refine by_iast (by first | exact rfl | assumption | exact ps_1 hpp | exact ps_2 hpp | exact ps_3 hpp | exact ps_4 hpp | exact ps_5 hpp | exact ps_6 hpp | exact ps_7 hpp | exact ps_8 hpp | exact ps_9 hpp | exact ps_10 hpp | exact ps_11 hpp | exact ps_15 hpp | exact ps_16 hpp | exact ps_17 hpp | exact ps_18 hpp | exact ps_19 hpp | exact ps_21 hpp | exact ps_22 hpp | exact ps_23 hpp | exact ps_24 hpp) ⟨by omega, by omega⟩ ?_
  refine by_aload_n rfl ?_
  refine by_dup rfl ?_
  refine by_getf cn_170 fl_10_62 (by first | exact rfl | assumption | exact ps_14 hpp) (by decide) ?_
  refine by_iconst ci_1 ?_
  simp (disch := first | exact Nat.ne_of_beq_eq_false rfl | exact rfl | omega) only [nI_add, xa_sub, xa_mul, pk_div, nm_mod, xa_shr, xa_and7, xa_and1, xa_and255, xa_by_and, nI_m1, Nat.add_sub_cancel, Nat.reducePow, Nat.zero_add, Nat.add_zero, Nat.reduceAdd, Nat.reduceMul, Nat.reduceSub, xf_same, xq_ff, xq_fo, xf_1, xf_2, xs_1, xs_2, xs_same, xq_so, xj_1, xj_2, xj_same, xq_jo, xq_sa1, xq_same, xq_other, upd_s, oI_n, oI_s, ht, pt_10 hF hpp]
  refine by_iadd ?_
  refine by_putf cn_170 fl_10_62 (by first | exact rfl | assumption | exact ps_14 hpp) (by decide) nf_10_11 ft_10_11 (by first | rfl | assumption) (by first | rfl | assumption) ?_
  refine by_nil ?_
  simp (disch := first | exact Nat.ne_of_beq_eq_false rfl | exact rfl | omega) only [nI_add, xa_sub, xa_mul, pk_div, nm_mod, xa_shr, xa_and7, xa_and1, xa_and255, xa_by_and, nI_m1, Nat.add_sub_cancel, Nat.reducePow, Nat.zero_add, Nat.add_zero, Nat.reduceAdd, Nat.reduceMul, Nat.reduceSub, xf_same, xq_ff, xq_fo, xf_1, xf_2, xs_1, xs_2, xs_same, xq_so, xj_1, xj_2, xj_same, xq_jo, xq_sa1, xq_same, xq_other, upd_s, oI_n, oI_s, xv_0, xv_1, xv_2, xv_3, xm_p1, xm_p2, xq_fp, xq_fn, List.filter_nil, Nat.reduceBEq, Bool.not_true, Bool.not_false, Bool.and_true, Bool.and_false, Bool.false_and, Bool.true_and, if_true, if_false, Bool.false_eq_true, reduceIte, xc_i, xc_j, xc_r, xc_n, List.nil_append, List.cons_append, Option.toList_some, Option.toList_none, ht, pt_10 hF hpp]
  with_reducible refine xm_go_blk b_X10_push_30 k_X10_push_30 ?_
  refine by_ret ry_170 ?_
  exact hp
theorem sp_padding {s p ws wp : Nat} (hF : XF h) (hpp : pp = 52 ∨ pp = 77) (hs : s < 14032) (hp2 : p < 14032) (e1 : h.1 (pp + 18) s = nI ws) (e2 : h.1 (pp + 18) p = nI wp) (hw : wp + 1 ≤ ws) (hp : post (some (.int (nI (ws - 1 - wp)))) h) : xm_T (XE sc) (d + 1) 169 [.ref (pp + 14), .int (nI s), .int (nI p)] h post := by
  refine xq_in rfl ?_
  simp only [xq_a0, xq_aI, xq_aJ, xq_aR, Nat.reduceAdd]
  with_reducible refine xm_go_blk b_X10_padding_0 k_X10_padding_0 ?_
  refine by_aload_n rfl ?_
  refine by_getf cn_169 fl_10_21 (by first | exact rfl | assumption | exact ps_14 hpp) (by decide) ?_
  refine by_iload_n rfl ?_
  simp (disch := first | exact Nat.ne_of_beq_eq_false rfl | exact rfl | omega) only [nI_add, xa_sub, xa_mul, pk_div, nm_mod, xa_shr, xa_and7, xa_and1, xa_and255, xa_by_and, nI_m1, Nat.add_sub_cancel, Nat.reducePow, Nat.zero_add, Nat.add_zero, Nat.reduceAdd, Nat.reduceMul, Nat.reduceSub, xf_same, xq_ff, xq_fo, xf_1, xf_2, xs_1, xs_2, xs_same, xq_so, xj_1, xj_2, xj_same, xq_jo, xq_sa1, xq_same, xq_other, upd_s, oI_n, oI_s, pt_4 hF hpp, e1, e2]
  first | refine by_iald (by first | exact rfl | assumption | exact ps_1 hpp | exact ps_2 hpp | exact ps_3 hpp | exact ps_4 hpp | exact ps_5 hpp | exact ps_6 hpp | exact ps_7 hpp | exact ps_8 hpp | exact ps_9 hpp | exact ps_10 hpp | exact ps_11 hpp | exact ps_15 hpp | exact ps_16 hpp | exact ps_17 hpp | exact ps_18 hpp | exact ps_19 hpp | exact ps_21 hpp | exact ps_22 hpp | exact ps_23 hpp | exact ps_24 hpp) ⟨by omega, by omega⟩ ?_ | refine by_tald rfl rfl ⟨by omega, by omega⟩ ?_
  refine by_iconst ci_1 ?_
  refine by_isub ?_
  refine by_aload_n rfl ?_
  refine by_getf cn_169 fl_10_21 (by first | exact rfl | assumption | exact ps_14 hpp) (by decide) ?_
  refine by_iload_n rfl ?_
  simp (disch := first | exact Nat.ne_of_beq_eq_false rfl | exact rfl | omega) only [nI_add, xa_sub, xa_mul, pk_div, nm_mod, xa_shr, xa_and7, xa_and1, xa_and255, xa_by_and, nI_m1, Nat.add_sub_cancel, Nat.reducePow, Nat.zero_add, Nat.add_zero, Nat.reduceAdd, Nat.reduceMul, Nat.reduceSub, xf_same, xq_ff, xq_fo, xf_1, xf_2, xs_1, xs_2, xs_same, xq_so, xj_1, xj_2, xj_same, xq_jo, xq_sa1, xq_same, xq_other, upd_s, oI_n, oI_s, pt_4 hF hpp, e1, e2]
  first | refine by_iald (by first | exact rfl | assumption | exact ps_1 hpp | exact ps_2 hpp | exact ps_3 hpp | exact ps_4 hpp | exact ps_5 hpp | exact ps_6 hpp | exact ps_7 hpp | exact ps_8 hpp | exact ps_9 hpp | exact ps_10 hpp | exact ps_11 hpp | exact ps_15 hpp | exact ps_16 hpp | exact ps_17 hpp | exact ps_18 hpp | exact ps_19 hpp | exact ps_21 hpp | exact ps_22 hpp | exact ps_23 hpp | exact ps_24 hpp) ⟨by omega, by omega⟩ ?_ | refine by_tald rfl rfl ⟨by omega, by omega⟩ ?_
  refine by_isub ?_
  simp (disch := first | exact Nat.ne_of_beq_eq_false rfl | exact rfl | omega) only [nI_add, xa_sub, xa_mul, pk_div, nm_mod, xa_shr, xa_and7, xa_and1, xa_and255, xa_by_and, nI_m1, Nat.add_sub_cancel, Nat.reducePow, Nat.zero_add, Nat.add_zero, Nat.reduceAdd, Nat.reduceMul, Nat.reduceSub, xf_same, xq_ff, xq_fo, xf_1, xf_2, xs_1, xs_2, xs_same, xq_so, xj_1, xj_2, xj_same, xq_jo, xq_sa1, xq_same, xq_other, upd_s, oI_n, oI_s, pt_4 hF hpp, e1, e2]
  refine by_iret ry_169 (by first | rfl | assumption) ?_
  exact hp
end FI
