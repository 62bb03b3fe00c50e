/-! ===== the reference: isValue ===== -/
def vtE (h : xm_H) (lo : Nat) (tr : Nat → Ty) (K L R : Nat → Nat) (i : Nat) : Prop := K i ≤ 2 ∧ tr i = tsv tr (K i) (L i) (R i) ∧ h.1 129 i = nI (K i + 1) ∧ (1 ≤ K i → h.1 130 i = nI (L i) ∧ h.1 131 i = nI (R i) ∧ L i < i ∧ R i < i ∧ lo ≤ L i ∧ lo ≤ R i) ∧ h.1 132 i = nI (min 4096 (ty_w (tr i)))
def vT (h : xm_H) (lo hi : Nat) (tr : Nat → Ty) (K L R : Nat → Nat) : Prop := hi ≤ 17400 ∧ ∀ i, lo ≤ i → i < hi → vtE h lo tr K L R i
theorem vT_mt {h : xm_H} {cn : Nat} {tr : Nat → Ty} {K L R : Nat → Nat} (hT : mtT h cn tr K L R) (hcn : cn ≤ 17400) : vT h 3200 cn tr K L R := by
  refine ⟨hcn, fun i h0 h1 => ?_⟩
  obtain ⟨e1, e1b, e1c, e2, e3, e4, e5, e7, e8, e10⟩ := hT.2.2.1 i h0 h1
  exact ⟨e1.1, e2, e4, fun z => ⟨(e5 z).1, (e5 z).2, (e1.2.2 z).1, (e1.2.2 z).2, (e1b z).1, (e1b z).2⟩, e7⟩
theorem vT_fr {S : List Nat} {T : List (Nat × Nat)} {h h' : xm_H} {lo hi : Nat} {tr : Nat → Ty} {K L R : Nat → Nat} (hT : vT h lo hi tr K L R) (hf : Fr S T h h') (h1 : 129 ∉ S) (h2 : 130 ∉ S) (h3 : 131 ∉ S) (h4 : 132 ∉ S) : vT h' lo hi tr K L R := by
  refine ⟨hT.1, fun i a b => ?_⟩
  have := hT.2 i a b
  unfold vtE at this ⊢
  rw [hf.1 _ h1, hf.1 _ h2, hf.1 _ h3, hf.1 _ h4]
  exact this
def vaL (v : Nat → Nat) (tr : Nat → Ty) : List (Nat × Nat) → Bool
  | [] => true
  | x :: q => ty_val v (tr x.1) x.2 && vaL v tr q
def szL (tr : Nat → Ty) : List (Nat × Nat) → Nat
  | [] => 0
  | x :: q => ty_sz (tr x.1) + szL tr q
section IV
variable {sc : xm_Sc} {d lo hi E at0 : Nat} {tr : Nat → Ty} {K L R v : Nat → Nat} {h : xm_H} {post : xm_Po}
def ivL (n : Nat) : xm_L := [(0, .ref 102), (3, .int (nI n))]
def ivS (h h' : xm_H) (lo hi E at0 : Nat) (tr : Nat → Ty) (q : List (Nat × Nat)) : Prop := XF h' ∧ Fr [115, 116] [] h h' ∧ skA h' 115 (q.map (·.1)) ∧ skA h' 116 (q.map (·.2)) ∧ stH hi (q.map (·.1)) ∧ ∀ x ∈ q, lo ≤ x.1 ∧ x.1 < hi ∧ ty_w (tr x.1) ≤ 2048 ∧ at0 ≤ x.2 ∧ x.2 + ty_w (tr x.1) ≤ E
/-- the zeros behind a sum's first bit -/
theorem iv_183 {p e n t s : Nat} {h' : xm_H} (hF : XF h') (hv : ∀ i, at0 ≤ i → i < E → h'.1 145 i = nI (v i) ∧ v i < 2) (hE : E ≤ 824000) (h0 : at0 ≤ p) (he : e ≤ E) (hgo : bz v p (e - p) = true → xm_go (XE sc) (xm_T (XE sc) d) 237 post 208 [(6, .int (nI s)), (7, .int (nI e)), (0, .ref 102), (3, .int (nI n))] [] h') (hb : bz v p (e - p) = false → post (some (.int (nI 0))) h') :
    ∀ (j k : Nat), k + j = e → p ≤ k → bz v p (k - p) = true → xm_go (XE sc) (xm_T (XE sc) d) 237 post 183 [(8, .int (nI k)), (6, .int (nI s)), (7, .int (nI e)), (0, .ref 102), (3, .int (nI n)), (4, .int (nI t))] [] h' := by
  intro j
  induction j with
  | zero =>
    intro k hk hpk hz
    have : k = e := by omega
    subst this
    with_reducible refine xm_go_blk b_X12_isValue_183 k_X12_isValue_183 ?_
    refine by_iload rfl ?_
    refine by_iload rfl ?_
    refine by_ic_ge 208 rfl ?_
    simp (disch := first | exact Nat.ne_of_beq_eq_false rfl | exact rfl | omega) only [nI_add, xa_sub, xa_mul, pk_div, nm_mod, xa_shr, xa_and7, xa_and1, xa_and255, xa_by_and, nI_m1, Nat.add_sub_cancel, Nat.reducePow, Nat.zero_add, Nat.add_zero, Nat.reduceAdd, Nat.reduceMul, Nat.reduceSub, xf_same, xq_ff, xq_fo, xf_1, xf_2, xs_1, xs_2, xs_same, xq_so, xj_1, xj_2, xj_same, xq_jo, xq_sa1, xq_same, xq_other, upd_s, oI_n, oI_s, xv_0, xv_1, xv_2, xv_3, xm_p1, xm_p2, xq_fp, xq_fn, List.filter_nil, Nat.reduceBEq, Bool.not_true, Bool.not_false, Bool.and_true, Bool.and_false, Bool.false_and, Bool.true_and, if_true, if_false, Bool.false_eq_true, reduceIte, xc_i, xc_j, xc_r, xc_n, List.nil_append, List.cons_append, Option.toList_some, Option.toList_none, nI_ltJ, nI_leJ, nI_eqJ, nI_ltz, nI_gez, nI_gtz, nI_lez, nI_eqz, m1_ltz, m1_gez, true_imp_iff, false_imp_iff, true_and, and_true, ne_eq, not_false_eq_true, not_true_eq_false, Nat.reduceEqDiff, Nat.reduceLT, Nat.reduceLeDiff]
    refine ⟨fun c183 => ?_, fun c => absurd (by omega) c⟩
    exact xm_go_wk (by simp [Value.category]) (hgo hz)
  | succ j ih =>
    intro k hk hpk hz
    obtain ⟨w1, w2⟩ := hv k (by omega) (by omega)
    by_cases e0 : v k = 0
    · rw [e0] at w1
      with_reducible refine xm_go_blk b_X12_isValue_183 k_X12_isValue_183 ?_
      refine by_iload rfl ?_
      refine by_iload rfl ?_
      refine by_ic_ge 208 rfl ?_
      simp (disch := first | exact Nat.ne_of_beq_eq_false rfl | exact rfl | omega) only [nI_add, xa_sub, xa_mul, pk_div, nm_mod, xa_shr, xa_and7, xa_and1, xa_and255, xa_by_and, nI_m1, Nat.add_sub_cancel, Nat.reducePow, Nat.zero_add, Nat.add_zero, Nat.reduceAdd, Nat.reduceMul, Nat.reduceSub, xf_same, xq_ff, xq_fo, xf_1, xf_2, xs_1, xs_2, xs_same, xq_so, xj_1, xj_2, xj_same, xq_jo, xq_sa1, xq_same, xq_other, upd_s, oI_n, oI_s, xv_0, xv_1, xv_2, xv_3, xm_p1, xm_p2, xq_fp, xq_fn, List.filter_nil, Nat.reduceBEq, Bool.not_true, Bool.not_false, Bool.and_true, Bool.and_false, Bool.false_and, Bool.true_and, if_true, if_false, Bool.false_eq_true, reduceIte, xc_i, xc_j, xc_r, xc_n, List.nil_append, List.cons_append, Option.toList_some, Option.toList_none, nI_ltJ, nI_leJ, nI_eqJ, nI_ltz, nI_gez, nI_gtz, nI_lez, nI_eqz, m1_ltz, m1_gez, true_imp_iff, false_imp_iff, true_and, and_true, ne_eq, not_false_eq_true, not_true_eq_false, Nat.reduceEqDiff, Nat.reduceLT, Nat.reduceLeDiff, xf_102_58 hF, w1]
      refine ⟨fun c => absurd c (by omega), fun c183 => ?_⟩
      with_reducible refine xm_go_blk b_X12_isValue_190 k_X12_isValue_190 ?_
      refine by_aload_n rfl ?_
      refine by_getf cn_237 fl_12_141 (by first | exact rfl | assumption) (by decide) ?_
      refine by_iload rfl ?_
      simp (disch := first | exact Nat.ne_of_beq_eq_false rfl | exact rfl | omega) only [nI_add, xa_sub, xa_mul, pk_div, nm_mod, xa_shr, xa_and7, xa_and1, xa_and255, xa_by_and, nI_m1, Nat.add_sub_cancel, Nat.reducePow, Nat.zero_add, Nat.add_zero, Nat.reduceAdd, Nat.reduceMul, Nat.reduceSub, xf_same, xq_ff, xq_fo, xf_1, xf_2, xs_1, xs_2, xs_same, xq_so, xj_1, xj_2, xj_same, xq_jo, xq_sa1, xq_same, xq_other, upd_s, oI_n, oI_s, xf_102_58 hF, w1]
      first | refine by_bald (Or.inl rfl) (by first | exact rfl | assumption | exact ps_13 hpp) ⟨by omega, by omega⟩ ?_ | refine by_bald (Or.inr rfl) (by first | exact rfl | assumption | exact ps_20 hpp) ⟨by omega, by omega⟩ ?_
      refine by_if_eq 202 rfl ?_
      simp (disch := first | exact Nat.ne_of_beq_eq_false rfl | exact rfl | omega) only [nI_add, xa_sub, xa_mul, pk_div, nm_mod, xa_shr, xa_and7, xa_and1, xa_and255, xa_by_and, nI_m1, Nat.add_sub_cancel, Nat.reducePow, Nat.zero_add, Nat.add_zero, Nat.reduceAdd, Nat.reduceMul, Nat.reduceSub, xf_same, xq_ff, xq_fo, xf_1, xf_2, xs_1, xs_2, xs_same, xq_so, xj_1, xj_2, xj_same, xq_jo, xq_sa1, xq_same, xq_other, upd_s, oI_n, oI_s, xv_0, xv_1, xv_2, xv_3, xm_p1, xm_p2, xq_fp, xq_fn, List.filter_nil, Nat.reduceBEq, Bool.not_true, Bool.not_false, Bool.and_true, Bool.and_false, Bool.false_and, Bool.true_and, if_true, if_false, Bool.false_eq_true, reduceIte, xc_i, xc_j, xc_r, xc_n, List.nil_append, List.cons_append, Option.toList_some, Option.toList_none, nI_ltJ, nI_leJ, nI_eqJ, nI_ltz, nI_gez, nI_gtz, nI_lez, nI_eqz, m1_ltz, m1_gez, true_imp_iff, false_imp_iff, true_and, and_true, ne_eq, not_false_eq_true, not_true_eq_false, Nat.reduceEqDiff, Nat.reduceLT, Nat.reduceLeDiff, xf_102_58 hF, w1]
      with_reducible refine xm_go_blk b_X12_isValue_202 k_X12_isValue_202 ?_
      refine by_iinc (by rw [ml_237]; decide) rfl ci_1 ?_
      refine by_goto 183 rfl ?_
      simp (disch := first | exact Nat.ne_of_beq_eq_false rfl | exact rfl | omega) only [nI_add, xa_sub, xa_mul, pk_div, nm_mod, xa_shr, xa_and7, xa_and1, xa_and255, xa_by_and, nI_m1, Nat.add_sub_cancel, Nat.reducePow, Nat.zero_add, Nat.add_zero, Nat.reduceAdd, Nat.reduceMul, Nat.reduceSub, xf_same, xq_ff, xq_fo, xf_1, xf_2, xs_1, xs_2, xs_same, xq_so, xj_1, xj_2, xj_same, xq_jo, xq_sa1, xq_same, xq_other, upd_s, oI_n, oI_s, xv_0, xv_1, xv_2, xv_3, xm_p1, xm_p2, xq_fp, xq_fn, List.filter_nil, Nat.reduceBEq, Bool.not_true, Bool.not_false, Bool.and_true, Bool.and_false, Bool.false_and, Bool.true_and, if_true, if_false, Bool.false_eq_true, reduceIte, xc_i, xc_j, xc_r, xc_n, List.nil_append, List.cons_append, Option.toList_some, Option.toList_none, xf_102_58 hF, w1]
      refine xm_go_wk (by simp [Value.category]) (ih (k + 1) (by omega) (by omega) ?_)
      rw [show k + 1 - p = (k - p) + 1 by omega, bz, hz, show p + (k - p) = k by omega, e0]
      rfl
    · have e1 : v k = 1 := by omega
      rw [e1] at w1
      with_reducible refine xm_go_blk b_X12_isValue_183 k_X12_isValue_183 ?_
      refine by_iload rfl ?_
      refine by_iload rfl ?_
      refine by_ic_ge 208 rfl ?_
      simp (disch := first | exact Nat.ne_of_beq_eq_false rfl | exact rfl | omega) only [nI_add, xa_sub, xa_mul, pk_div, nm_mod, xa_shr, xa_and7, xa_and1, xa_and255, xa_by_and, nI_m1, Nat.add_sub_cancel, Nat.reducePow, Nat.zero_add, Nat.add_zero, Nat.reduceAdd, Nat.reduceMul, Nat.reduceSub, xf_same, xq_ff, xq_fo, xf_1, xf_2, xs_1, xs_2, xs_same, xq_so, xj_1, xj_2, xj_same, xq_jo, xq_sa1, xq_same, xq_other, upd_s, oI_n, oI_s, xv_0, xv_1, xv_2, xv_3, xm_p1, xm_p2, xq_fp, xq_fn, List.filter_nil, Nat.reduceBEq, Bool.not_true, Bool.not_false, Bool.and_true, Bool.and_false, Bool.false_and, Bool.true_and, if_true, if_false, Bool.false_eq_true, reduceIte, xc_i, xc_j, xc_r, xc_n, List.nil_append, List.cons_append, Option.toList_some, Option.toList_none, nI_ltJ, nI_leJ, nI_eqJ, nI_ltz, nI_gez, nI_gtz, nI_lez, nI_eqz, m1_ltz, m1_gez, true_imp_iff, false_imp_iff, true_and, and_true, ne_eq, not_false_eq_true, not_true_eq_false, Nat.reduceEqDiff, Nat.reduceLT, Nat.reduceLeDiff, xf_102_58 hF, w1]
      refine ⟨fun c => absurd c (by omega), fun c183 => ?_⟩
      with_reducible refine xm_go_blk b_X12_isValue_190 k_X12_isValue_190 ?_
      refine by_aload_n rfl ?_
      refine by_getf cn_237 fl_12_141 (by first | exact rfl | assumption) (by decide) ?_
      refine by_iload rfl ?_
      simp (disch := first | exact Nat.ne_of_beq_eq_false rfl | exact rfl | omega) only [nI_add, xa_sub, xa_mul, pk_div, nm_mod, xa_shr, xa_and7, xa_and1, xa_and255, xa_by_and, nI_m1, Nat.add_sub_cancel, Nat.reducePow, Nat.zero_add, Nat.add_zero, Nat.reduceAdd, Nat.reduceMul, Nat.reduceSub, xf_same, xq_ff, xq_fo, xf_1, xf_2, xs_1, xs_2, xs_same, xq_so, xj_1, xj_2, xj_same, xq_jo, xq_sa1, xq_same, xq_other, upd_s, oI_n, oI_s, xf_102_58 hF, w1]
      first | refine by_bald (Or.inl rfl) (by first | exact rfl | assumption | exact ps_13 hpp) ⟨by omega, by omega⟩ ?_ | refine by_bald (Or.inr rfl) (by first | exact rfl | assumption | exact ps_20 hpp) ⟨by omega, by omega⟩ ?_
      refine by_if_eq 202 rfl ?_
      simp (disch := first | exact Nat.ne_of_beq_eq_false rfl | exact rfl | omega) only [nI_add, xa_sub, xa_mul, pk_div, nm_mod, xa_shr, xa_and7, xa_and1, xa_and255, xa_by_and, nI_m1, Nat.add_sub_cancel, Nat.reducePow, Nat.zero_add, Nat.add_zero, Nat.reduceAdd, Nat.reduceMul, Nat.reduceSub, xf_same, xq_ff, xq_fo, xf_1, xf_2, xs_1, xs_2, xs_same, xq_so, xj_1, xj_2, xj_same, xq_jo, xq_sa1, xq_same, xq_other, upd_s, oI_n, oI_s, xv_0, xv_1, xv_2, xv_3, xm_p1, xm_p2, xq_fp, xq_fn, List.filter_nil, Nat.reduceBEq, Bool.not_true, Bool.not_false, Bool.and_true, Bool.and_false, Bool.false_and, Bool.true_and, if_true, if_false, Bool.false_eq_true, reduceIte, xc_i, xc_j, xc_r, xc_n, List.nil_append, List.cons_append, Option.toList_some, Option.toList_none, nI_ltJ, nI_leJ, nI_eqJ, nI_ltz, nI_gez, nI_gtz, nI_lez, nI_eqz, m1_ltz, m1_gez, true_imp_iff, false_imp_iff, true_and, and_true, ne_eq, not_false_eq_true, not_true_eq_false, Nat.reduceEqDiff, Nat.reduceLT, Nat.reduceLeDiff, xf_102_58 hF, w1]
      with_reducible refine xm_go_blk b_X12_isValue_200 k_X12_isValue_200 ?_
      refine by_iconst ci_0 ?_
      refine by_iret ry_237 (by first | rfl | assumption) ?_
      refine hb ?_
      cases hq : bz v p (e - p)
      · rfl
      · have := bz_iff.mp hq (k - p) (by omega)
        rw [show p + (k - p) = k by omega] at this
        exact absurd this e0
theorem ty_sz_pos : ∀ (t : Ty), 1 ≤ ty_sz t
  | .add _ _ => by simp only [ty_sz]; omega
  | .mul _ _ => by simp only [ty_sz]; omega
  | .num _ => Nat.le_refl _
  | .natCast _ => Nat.le_refl _
  | .intCast _ => Nat.le_refl _
  | .var _ => Nat.le_refl _
  | .neg _ => Nat.le_refl _
  | .sub _ _ => Nat.le_refl _
  | .pow _ _ => Nat.le_refl _
theorem ty_w0_val {v : Nat → Nat} {t : Ty} {p : Nat} (h : ty_w t = 0) : ty_val v t p = true := ty_full_val t p (ty_w0_full t h)
theorem iv_16 (hT : vT h lo hi tr K L R) (hlo : lo ≤ 17400) (hE : E ≤ 824000) (hv : ∀ i, at0 ≤ i → i < E → h.1 145 i = nI (v i) ∧ v i < 2) {t at1 : Nat}
    (h1 : ∀ h', ty_val v (tr t) at1 = true → Fr [115, 116] [] h h' → post (some (.int (nI 1))) h') (h0 : ∀ h', ty_val v (tr t) at1 = false → Fr [115, 116] [] h h' → post (some (.int (nI 0))) h') :
    ∀ (M : Nat) (q : List (Nat × Nat)) (h' : xm_H), szL tr q ≤ M → ivS h h' lo hi E at0 tr q → ty_val v (tr t) at1 = vaL v tr q → xm_go (XE sc) (xm_T (XE sc) d) 237 post 16 (ivL q.length) [] h' := by
  intro M
  induction M with
  | zero =>
    intro q h' hm hS hval
    cases q with
    | nil =>
      obtain ⟨s1, s2, s3, s4, s5, s6⟩ := hS
      rw [List.length_nil]
      unfold ivL
      with_reducible refine xm_go_blk b_X12_isValue_16 k_X12_isValue_16 ?_
      refine by_iload_n rfl ?_
      refine by_if_le 230 rfl ?_
      simp (disch := first | exact Nat.ne_of_beq_eq_false rfl | exact rfl | omega) only [nI_add, xa_sub, xa_mul, pk_div, nm_mod, xa_shr, xa_and7, xa_and1, xa_and255, xa_by_and, nI_m1, Nat.add_sub_cancel, Nat.reducePow, Nat.zero_add, Nat.add_zero, Nat.reduceAdd, Nat.reduceMul, Nat.reduceSub, xf_same, xq_ff, xq_fo, xf_1, xf_2, xs_1, xs_2, xs_same, xq_so, xj_1, xj_2, xj_same, xq_jo, xq_sa1, xq_same, xq_other, upd_s, oI_n, oI_s, xv_0, xv_1, xv_2, xv_3, xm_p1, xm_p2, xq_fp, xq_fn, List.filter_nil, Nat.reduceBEq, Bool.not_true, Bool.not_false, Bool.and_true, Bool.and_false, Bool.false_and, Bool.true_and, if_true, if_false, Bool.false_eq_true, reduceIte, xc_i, xc_j, xc_r, xc_n, List.nil_append, List.cons_append, Option.toList_some, Option.toList_none, nI_ltJ, nI_leJ, nI_eqJ, nI_ltz, nI_gez, nI_gtz, nI_lez, nI_eqz, m1_ltz, m1_gez, true_imp_iff, false_imp_iff, true_and, and_true, ne_eq, not_false_eq_true, not_true_eq_false, Nat.reduceEqDiff, Nat.reduceLT, Nat.reduceLeDiff]
      with_reducible refine xm_go_blk b_X12_isValue_230 k_X12_isValue_230 ?_
      refine by_iconst ci_1 ?_
      refine by_iret ry_237 (by first | rfl | assumption) ?_
      exact h1 h' (by rw [hval]; rfl) s2
    | cons x q =>
      exfalso
      have := ty_sz_pos (tr x.1)
      simp only [szL] at hm
      omega
  | succ M ih =>
    intro q h' hm hS hval
    cases q with
    | nil =>
      obtain ⟨s1, s2, s3, s4, s5, s6⟩ := hS
      rw [List.length_nil]
      unfold ivL
      with_reducible refine xm_go_blk b_X12_isValue_16 k_X12_isValue_16 ?_
      refine by_iload_n rfl ?_
      refine by_if_le 230 rfl ?_
      simp (disch := first | exact Nat.ne_of_beq_eq_false rfl | exact rfl | omega) only [nI_add, xa_sub, xa_mul, pk_div, nm_mod, xa_shr, xa_and7, xa_and1, xa_and255, xa_by_and, nI_m1, Nat.add_sub_cancel, Nat.reducePow, Nat.zero_add, Nat.add_zero, Nat.reduceAdd, Nat.reduceMul, Nat.reduceSub, xf_same, xq_ff, xq_fo, xf_1, xf_2, xs_1, xs_2, xs_same, xq_so, xj_1, xj_2, xj_same, xq_jo, xq_sa1, xq_same, xq_other, upd_s, oI_n, oI_s, xv_0, xv_1, xv_2, xv_3, xm_p1, xm_p2, xq_fp, xq_fn, List.filter_nil, Nat.reduceBEq, Bool.not_true, Bool.not_false, Bool.and_true, Bool.and_false, Bool.false_and, Bool.true_and, if_true, if_false, Bool.false_eq_true, reduceIte, xc_i, xc_j, xc_r, xc_n, List.nil_append, List.cons_append, Option.toList_some, Option.toList_none, nI_ltJ, nI_leJ, nI_eqJ, nI_ltz, nI_gez, nI_gtz, nI_lez, nI_eqz, m1_ltz, m1_gez, true_imp_iff, false_imp_iff, true_and, and_true, ne_eq, not_false_eq_true, not_true_eq_false, Nat.reduceEqDiff, Nat.reduceLT, Nat.reduceLeDiff]
      with_reducible refine xm_go_blk b_X12_isValue_230 k_X12_isValue_230 ?_
      refine by_iconst ci_1 ?_
      refine by_iret ry_237 (by first | rfl | assumption) ?_
      exact h1 h' (by rw [hval]; rfl) s2
    | cons x q =>
      obtain ⟨i, p⟩ := x
      simp only [szL] at hm
      rw [List.length_cons]
      obtain ⟨s1, s2, s3, s4, s5, s6⟩ := hS
      obtain ⟨b1, b2, b3, b4, b5⟩ := s6 (i, p) (List.mem_cons_self ..)
      have b1 : lo ≤ i := b1
      have b2 : i < hi := b2
      have b3 : ty_w (tr i) ≤ 2048 := b3
      have b4 : at0 ≤ p := b4
      have b5 : p + ty_w (tr i) ≤ E := b5
      have e1 : h'.1 115 q.length = nI i := by have := s3.1; simpa using this
      have e2 : h'.1 116 q.length = nI p := by have := s4.1; simpa using this
      have hst := s5.1
      simp only [List.length_map] at hst
      have hh := hT.1
      obtain ⟨k1, k2, k3, k4, k5⟩ := hT.2 i b1 b2
      rw [Nat.min_eq_right (by omega)] at k5
      have y5 : h'.1 132 i = nI (ty_w (tr i)) := by rw [s2.1 132 (by simp)]; exact k5
      have y3 : h'.1 129 i = nI (K i + 1) := by rw [s2.1 129 (by simp)]; exact k3
      have hval' : ty_val v (tr t) at1 = (ty_val v (tr i) p && vaL v tr q) := hval
      have hsp := ty_sz_pos (tr i)
      have rest : ∀ y ∈ q, lo ≤ y.1 ∧ y.1 < hi ∧ ty_w (tr y.1) ≤ 2048 ∧ at0 ≤ y.2 ∧ y.2 + ty_w (tr y.1) ≤ E := fun y hy => s6 y (List.mem_cons_of_mem _ hy)
      by_cases w0 : ty_w (tr i) = 0
      · have w0' : (ty_w (tr i) = 0) = True := eq_true w0
        have hg := ih q h' (by omega) ⟨s1, s2, s3.2, s4.2, s5.2, rest⟩ (by rw [hval', ty_w0_val w0, Bool.true_and])
        unfold ivL at hg ⊢
        with_reducible refine xm_go_blk b_X12_isValue_16 k_X12_isValue_16 ?_
        refine by_iload_n rfl ?_
        refine by_if_le 230 rfl ?_
        simp (disch := first | exact Nat.ne_of_beq_eq_false rfl | exact rfl | omega) only [nI_add, xa_sub, xa_mul, pk_div, nm_mod, xa_shr, xa_and7, xa_and1, xa_and255, xa_by_and, nI_m1, Nat.add_sub_cancel, Nat.reducePow, Nat.zero_add, Nat.add_zero, Nat.reduceAdd, Nat.reduceMul, Nat.reduceSub, xf_same, xq_ff, xq_fo, xf_1, xf_2, xs_1, xs_2, xs_same, xq_so, xj_1, xj_2, xj_same, xq_jo, xq_sa1, xq_same, xq_other, upd_s, oI_n, oI_s, xv_0, xv_1, xv_2, xv_3, xm_p1, xm_p2, xq_fp, xq_fn, List.filter_nil, Nat.reduceBEq, Bool.not_true, Bool.not_false, Bool.and_true, Bool.and_false, Bool.false_and, Bool.true_and, if_true, if_false, Bool.false_eq_true, reduceIte, xc_i, xc_j, xc_r, xc_n, List.nil_append, List.cons_append, Option.toList_some, Option.toList_none, nI_ltJ, nI_leJ, nI_eqJ, nI_ltz, nI_gez, nI_gtz, nI_lez, nI_eqz, m1_ltz, m1_gez, true_imp_iff, false_imp_iff, true_and, and_true, ne_eq, not_false_eq_true, not_true_eq_false, Nat.reduceEqDiff, Nat.reduceLT, Nat.reduceLeDiff, xf_102_17 s1, xf_102_18 s1, xf_102_44 s1, e1, e2, y5, w0']
        with_reducible refine xm_go_blk b_X12_isValue_20 k_X12_isValue_20 ?_
        refine by_iinc (by rw [ml_237]; decide) rfl ci_m1 ?_
        refine by_aload_n rfl ?_
        refine by_getf cn_237 fl_12_48 (by first | exact rfl | assumption) (by decide) ?_
        refine by_iload_n rfl ?_
        simp (disch := first | exact Nat.ne_of_beq_eq_false rfl | exact rfl | omega) only [nI_add, xa_sub, xa_mul, pk_div, nm_mod, xa_shr, xa_and7, xa_and1, xa_and255, xa_by_and, nI_m1, Nat.add_sub_cancel, Nat.reducePow, Nat.zero_add, Nat.add_zero, Nat.reduceAdd, Nat.reduceMul, Nat.reduceSub, xf_same, xq_ff, xq_fo, xf_1, xf_2, xs_1, xs_2, xs_same, xq_so, xj_1, xj_2, xj_same, xq_jo, xq_sa1, xq_same, xq_other, upd_s, oI_n, oI_s, xf_102_17 s1, xf_102_18 s1, xf_102_44 s1, e1, e2, y5, w0']
        first | refine by_iald (by first | exact rfl | assumption | exact ps_1 hpp | exact ps_2 hpp | exact ps_3 hpp | exact ps_4 hpp | exact ps_5 hpp | exact ps_6 hpp | exact ps_7 hpp | exact ps_8 hpp | exact ps_9 hpp | exact ps_10 hpp | exact ps_11 hpp | exact ps_15 hpp | exact ps_16 hpp | exact ps_17 hpp | exact ps_18 hpp | exact ps_19 hpp | exact ps_21 hpp | exact ps_22 hpp | exact ps_23 hpp | exact ps_24 hpp) ⟨by omega, by omega⟩ ?_ | refine by_tald rfl rfl ⟨by omega, by omega⟩ ?_
        refine by_istore (by rw [ml_237]; decide) ?_
        refine by_aload_n rfl ?_
        refine by_getf cn_237 fl_12_51 (by first | exact rfl | assumption) (by decide) ?_
        refine by_iload_n rfl ?_
        simp (disch := first | exact Nat.ne_of_beq_eq_false rfl | exact rfl | omega) only [nI_add, xa_sub, xa_mul, pk_div, nm_mod, xa_shr, xa_and7, xa_and1, xa_and255, xa_by_and, nI_m1, Nat.add_sub_cancel, Nat.reducePow, Nat.zero_add, Nat.add_zero, Nat.reduceAdd, Nat.reduceMul, Nat.reduceSub, xf_same, xq_ff, xq_fo, xf_1, xf_2, xs_1, xs_2, xs_same, xq_so, xj_1, xj_2, xj_same, xq_jo, xq_sa1, xq_same, xq_other, upd_s, oI_n, oI_s, xf_102_17 s1, xf_102_18 s1, xf_102_44 s1, e1, e2, y5, w0']
        first | refine by_iald (by first | exact rfl | assumption | exact ps_1 hpp | exact ps_2 hpp | exact ps_3 hpp | exact ps_4 hpp | exact ps_5 hpp | exact ps_6 hpp | exact ps_7 hpp | exact ps_8 hpp | exact ps_9 hpp | exact ps_10 hpp | exact ps_11 hpp | exact ps_15 hpp | exact ps_16 hpp | exact ps_17 hpp | exact ps_18 hpp | exact ps_19 hpp | exact ps_21 hpp | exact ps_22 hpp | exact ps_23 hpp | exact ps_24 hpp) ⟨by omega, by omega⟩ ?_ | refine by_tald rfl rfl ⟨by omega, by omega⟩ ?_
        refine by_istore (by rw [ml_237]; decide) ?_
        refine by_aload_n rfl ?_
        refine by_getf cn_237 fl_12_100 (by first | exact rfl | assumption) (by decide) ?_
        refine by_iload rfl ?_
        simp (disch := first | exact Nat.ne_of_beq_eq_false rfl | exact rfl | omega) only [nI_add, xa_sub, xa_mul, pk_div, nm_mod, xa_shr, xa_and7, xa_and1, xa_and255, xa_by_and, nI_m1, Nat.add_sub_cancel, Nat.reducePow, Nat.zero_add, Nat.add_zero, Nat.reduceAdd, Nat.reduceMul, Nat.reduceSub, xf_same, xq_ff, xq_fo, xf_1, xf_2, xs_1, xs_2, xs_same, xq_so, xj_1, xj_2, xj_same, xq_jo, xq_sa1, xq_same, xq_other, upd_s, oI_n, oI_s, xf_102_17 s1, xf_102_18 s1, xf_102_44 s1, e1, e2, y5, w0']
        first | refine by_iald (by first | exact rfl | assumption | exact ps_1 hpp | exact ps_2 hpp | exact ps_3 hpp | exact ps_4 hpp | exact ps_5 hpp | exact ps_6 hpp | exact ps_7 hpp | exact ps_8 hpp | exact ps_9 hpp | exact ps_10 hpp | exact ps_11 hpp | exact ps_15 hpp | exact ps_16 hpp | exact ps_17 hpp | exact ps_18 hpp | exact ps_19 hpp | exact ps_21 hpp | exact ps_22 hpp | exact ps_23 hpp | exact ps_24 hpp) ⟨by omega, by omega⟩ ?_ | refine by_tald rfl rfl ⟨by omega, by omega⟩ ?_
        refine by_if_ne 52 rfl ?_
        simp (disch := first | exact Nat.ne_of_beq_eq_false rfl | exact rfl | omega) only [nI_add, xa_sub, xa_mul, pk_div, nm_mod, xa_shr, xa_and7, xa_and1, xa_and255, xa_by_and, nI_m1, Nat.add_sub_cancel, Nat.reducePow, Nat.zero_add, Nat.add_zero, Nat.reduceAdd, Nat.reduceMul, Nat.reduceSub, xf_same, xq_ff, xq_fo, xf_1, xf_2, xs_1, xs_2, xs_same, xq_so, xj_1, xj_2, xj_same, xq_jo, xq_sa1, xq_same, xq_other, upd_s, oI_n, oI_s, xv_0, xv_1, xv_2, xv_3, xm_p1, xm_p2, xq_fp, xq_fn, List.filter_nil, Nat.reduceBEq, Bool.not_true, Bool.not_false, Bool.and_true, Bool.and_false, Bool.false_and, Bool.true_and, if_true, if_false, Bool.false_eq_true, reduceIte, xc_i, xc_j, xc_r, xc_n, List.nil_append, List.cons_append, Option.toList_some, Option.toList_none, nI_ltJ, nI_leJ, nI_eqJ, nI_ltz, nI_gez, nI_gtz, nI_lez, nI_eqz, m1_ltz, m1_gez, true_imp_iff, false_imp_iff, true_and, and_true, ne_eq, not_false_eq_true, not_true_eq_false, Nat.reduceEqDiff, Nat.reduceLT, Nat.reduceLeDiff, xf_102_17 s1, xf_102_18 s1, xf_102_44 s1, e1, e2, y5, w0']
        with_reducible refine xm_go_blk b_X12_isValue_49 k_X12_isValue_49 ?_
        refine by_goto 16 rfl ?_
        exact xm_go_wk (by simp [Value.category]) hg
      have w0' : (ty_w (tr i) = 0) = False := eq_false w0
      have hK : K i = 1 ∨ K i = 2 := by
        rcases ts_cs k1 with e | e | e
        · exfalso
          rw [k2, e] at w0
          exact w0 rfl
        · exact Or.inl e
        · exact Or.inr e
      obtain ⟨m1, m2, m3, m4, m5, m6⟩ := k4 (by omega)
      have y1 : h'.1 130 i = nI (L i) := by rw [s2.1 130 (by simp)]; exact m1
      have y2 : h'.1 131 i = nI (R i) := by rw [s2.1 131 (by simp)]; exact m2
      rcases hK with e | e
      · -- a sum
        rw [e] at k2 y3
        have k2 : tr i = .add (tr (L i)) (tr (R i)) := k2
        have ww : ty_w (tr i) = 1 + max (ty_w (tr (L i))) (ty_w (tr (R i))) := by rw [k2]; rfl
        have ss : ty_sz (tr i) = ty_sz (tr (L i)) + ty_sz (tr (R i)) + 1 := by rw [k2]; rfl
        have part : ∀ s, (s = L i ∨ s = R i) → (ty_val v (tr i) p = (bz v (p + 1) (max (ty_w (tr (L i))) (ty_w (tr (R i))) - ty_w (tr s)) && ty_val v (tr s) (p + 1 + (max (ty_w (tr (L i))) (ty_w (tr (R i))) - ty_w (tr s))))) → xm_go (XE sc) (xm_T (XE sc) d) 237 post 155 [(5, .int (nI p)), (4, .int (nI i)), (3, .int (nI q.length)), (0, .ref 102)] [.int (nI s)] h' := by
          intro s hsLR hvs
          have hs1 : s < i := by rcases hsLR with rfl | rfl <;> omega
          have hs2 : lo ≤ s := by rcases hsLR with rfl | rfl <;> omega
          have hsw : ty_w (tr s) + 1 ≤ ty_w (tr i) := by rcases hsLR with rfl | rfl <;> omega
          have hss : ty_sz (tr s) < ty_sz (tr i) := by rcases hsLR with rfl | rfl <;> omega
          have ks := (hT.2 s hs2 (by omega)).2.2.2.2
          rw [Nat.min_eq_right (by omega)] at ks
          have y6 : h'.1 132 s = nI (ty_w (tr s)) := by rw [s2.1 132 (by simp)]; exact ks
          generalize hz : max (ty_w (tr (L i))) (ty_w (tr (R i))) - ty_w (tr s) = z at hvs
          have ez : p + ty_w (tr i) - ty_w (tr s) = p + 1 + z := by omega
          have hvr : ∀ i, at0 ≤ i → i < E → h'.1 145 i = nI (v i) ∧ v i < 2 := fun i a b => by rw [s2.1 145 (by simp)]; exact hv i a b
          with_reducible refine xm_go_blk b_X12_isValue_155 k_X12_isValue_155 ?_
          refine by_istore (by rw [ml_237]; decide) ?_
          refine by_iload rfl ?_
          refine by_aload_n rfl ?_
          refine by_getf cn_237 fl_12_100 (by first | exact rfl | assumption) (by decide) ?_
          refine by_iload rfl ?_
          simp (disch := first | exact Nat.ne_of_beq_eq_false rfl | exact rfl | omega) only [nI_add, xa_sub, xa_mul, pk_div, nm_mod, xa_shr, xa_and7, xa_and1, xa_and255, xa_by_and, nI_m1, Nat.add_sub_cancel, Nat.reducePow, Nat.zero_add, Nat.add_zero, Nat.reduceAdd, Nat.reduceMul, Nat.reduceSub, xf_same, xq_ff, xq_fo, xf_1, xf_2, xs_1, xs_2, xs_same, xq_so, xj_1, xj_2, xj_same, xq_jo, xq_sa1, xq_same, xq_other, upd_s, oI_n, oI_s, xf_102_44 s1, y5, y6]
          first | refine by_iald (by first | exact rfl | assumption | exact ps_1 hpp | exact ps_2 hpp | exact ps_3 hpp | exact ps_4 hpp | exact ps_5 hpp | exact ps_6 hpp | exact ps_7 hpp | exact ps_8 hpp | exact ps_9 hpp | exact ps_10 hpp | exact ps_11 hpp | exact ps_15 hpp | exact ps_16 hpp | exact ps_17 hpp | exact ps_18 hpp | exact ps_19 hpp | exact ps_21 hpp | exact ps_22 hpp | exact ps_23 hpp | exact ps_24 hpp) ⟨by omega, by omega⟩ ?_ | refine by_tald rfl rfl ⟨by omega, by omega⟩ ?_
          refine by_iadd ?_
          refine by_aload_n rfl ?_
          refine by_getf cn_237 fl_12_100 (by first | exact rfl | assumption) (by decide) ?_
          refine by_iload rfl ?_
          simp (disch := first | exact Nat.ne_of_beq_eq_false rfl | exact rfl | omega) only [nI_add, xa_sub, xa_mul, pk_div, nm_mod, xa_shr, xa_and7, xa_and1, xa_and255, xa_by_and, nI_m1, Nat.add_sub_cancel, Nat.reducePow, Nat.zero_add, Nat.add_zero, Nat.reduceAdd, Nat.reduceMul, Nat.reduceSub, xf_same, xq_ff, xq_fo, xf_1, xf_2, xs_1, xs_2, xs_same, xq_so, xj_1, xj_2, xj_same, xq_jo, xq_sa1, xq_same, xq_other, upd_s, oI_n, oI_s, xf_102_44 s1, y5, y6]
          first | refine by_iald (by first | exact rfl | assumption | exact ps_1 hpp | exact ps_2 hpp | exact ps_3 hpp | exact ps_4 hpp | exact ps_5 hpp | exact ps_6 hpp | exact ps_7 hpp | exact ps_8 hpp | exact ps_9 hpp | exact ps_10 hpp | exact ps_11 hpp | exact ps_15 hpp | exact ps_16 hpp | exact ps_17 hpp | exact ps_18 hpp | exact ps_19 hpp | exact ps_21 hpp | exact ps_22 hpp | exact ps_23 hpp | exact ps_24 hpp) ⟨by omega, by omega⟩ ?_ | refine by_tald rfl rfl ⟨by omega, by omega⟩ ?_
          refine by_isub ?_
          refine by_istore (by rw [ml_237]; decide) ?_
          refine by_iload rfl ?_
          refine by_iconst ci_1 ?_
          refine by_iadd ?_
          refine by_istore (by rw [ml_237]; decide) ?_
          refine by_nil ?_
          simp (disch := first | exact Nat.ne_of_beq_eq_false rfl | exact rfl | omega) only [nI_add, xa_sub, xa_mul, pk_div, nm_mod, xa_shr, xa_and7, xa_and1, xa_and255, xa_by_and, nI_m1, Nat.add_sub_cancel, Nat.reducePow, Nat.zero_add, Nat.add_zero, Nat.reduceAdd, Nat.reduceMul, Nat.reduceSub, xf_same, xq_ff, xq_fo, xf_1, xf_2, xs_1, xs_2, xs_same, xq_so, xj_1, xj_2, xj_same, xq_jo, xq_sa1, xq_same, xq_other, upd_s, oI_n, oI_s, xv_0, xv_1, xv_2, xv_3, xm_p1, xm_p2, xq_fp, xq_fn, List.filter_nil, Nat.reduceBEq, Bool.not_true, Bool.not_false, Bool.and_true, Bool.and_false, Bool.false_and, Bool.true_and, if_true, if_false, Bool.false_eq_true, reduceIte, xc_i, xc_j, xc_r, xc_n, List.nil_append, List.cons_append, Option.toList_some, Option.toList_none, xf_102_44 s1, y5, y6]
          rw [ez]
          refine xm_go_wk (by simp [Value.category]) (iv_183 (p := p + 1) (t := i) (s := s) (e := p + 1 + z) (n := q.length) s1 hvr hE (by omega) (by omega) (fun hbz => ?_) (fun hbz => ?_) z (p + 1) (by omega) (by omega) (by rw [Nat.sub_self]; rfl))
          · rw [show p + 1 + z - (p + 1) = z by omega] at hbz
            rw [hbz, Bool.true_and] at hvs
            have f3 : Fr [115, 116] [] h' (xm_si (xm_si h' 115 q.length (nI s)) 116 q.length (nI (p + 1 + z))) := Fr_si (Fr_si Fr_rf (by simp)) (by simp)
            have hq1 : skA h' 115 (q.map (·.1)) := s3.2
            have hq2 : skA h' 116 (q.map (·.2)) := s4.2
            have a1 := skA_push (u := s) hq1
            have a2 := skA_push (u := p + 1 + z) (skA_si (b := 115) (j := q.length) (v := nI s) hq2 (by decide))
            rw [List.length_map] at a1 a2
            have hg := ih ((s, p + 1 + z) :: q) (xm_si (xm_si h' 115 q.length (nI s)) 116 q.length (nI (p + 1 + z))) (by simp only [szL]; omega) ⟨Fr_XF s1 f3 (by decide +kernel), Fr_tr s2 f3 (fun _ z => z) (fun _ z => z), skA_si a1 (by decide), a2, ⟨by simp only [List.length_map]; omega, s5.2⟩, fun y hy => ?_⟩ (by rw [hval', hvs]; rfl)
            · unfold ivL at hg
              with_reducible refine xm_go_blk b_X12_isValue_208 k_X12_isValue_208 ?_
              refine by_aload_n rfl ?_
              refine by_getf cn_237 fl_12_48 (by first | exact rfl | assumption) (by decide) ?_
              refine by_iload_n rfl ?_
              refine by_iload rfl ?_
              simp (disch := first | exact Nat.ne_of_beq_eq_false rfl | exact rfl | omega) only [nI_add, xa_sub, xa_mul, pk_div, nm_mod, xa_shr, xa_and7, xa_and1, xa_and255, xa_by_and, nI_m1, Nat.add_sub_cancel, Nat.reducePow, Nat.zero_add, Nat.add_zero, Nat.reduceAdd, Nat.reduceMul, Nat.reduceSub, xf_same, xq_ff, xq_fo, xf_1, xf_2, xs_1, xs_2, xs_same, xq_so, xj_1, xj_2, xj_same, xq_jo, xq_sa1, xq_same, xq_other, upd_s, oI_n, oI_s, xf_102_17 s1, xf_102_18 s1]
              refine by_iast (by first | exact rfl | assumption | exact ps_1 hpp | exact ps_2 hpp | exact ps_3 hpp | exact ps_4 hpp | exact ps_5 hpp | exact ps_6 hpp | exact ps_7 hpp | exact ps_8 hpp | exact ps_9 hpp | exact ps_10 hpp | exact ps_11 hpp | exact ps_15 hpp | exact ps_16 hpp | exact ps_17 hpp | exact ps_18 hpp | exact ps_19 hpp | exact ps_21 hpp | exact ps_22 hpp | exact ps_23 hpp | exact ps_24 hpp) ⟨by omega, by omega⟩ ?_
              refine by_aload_n rfl ?_
              refine by_getf cn_237 fl_12_51 (by first | exact rfl | assumption) (by decide) ?_
              refine by_iload_n rfl ?_
              refine by_iload rfl ?_
              simp (disch := first | exact Nat.ne_of_beq_eq_false rfl | exact rfl | omega) only [nI_add, xa_sub, xa_mul, pk_div, nm_mod, xa_shr, xa_and7, xa_and1, xa_and255, xa_by_and, nI_m1, Nat.add_sub_cancel, Nat.reducePow, Nat.zero_add, Nat.add_zero, Nat.reduceAdd, Nat.reduceMul, Nat.reduceSub, xf_same, xq_ff, xq_fo, xf_1, xf_2, xs_1, xs_2, xs_same, xq_so, xj_1, xj_2, xj_same, xq_jo, xq_sa1, xq_same, xq_other, upd_s, oI_n, oI_s, xf_102_17 s1, xf_102_18 s1]
              refine by_iast (by first | exact rfl | assumption | exact ps_1 hpp | exact ps_2 hpp | exact ps_3 hpp | exact ps_4 hpp | exact ps_5 hpp | exact ps_6 hpp | exact ps_7 hpp | exact ps_8 hpp | exact ps_9 hpp | exact ps_10 hpp | exact ps_11 hpp | exact ps_15 hpp | exact ps_16 hpp | exact ps_17 hpp | exact ps_18 hpp | exact ps_19 hpp | exact ps_21 hpp | exact ps_22 hpp | exact ps_23 hpp | exact ps_24 hpp) ⟨by omega, by omega⟩ ?_
              refine by_iinc (by rw [ml_237]; decide) rfl ci_1 ?_
              refine by_nil ?_
              simp (disch := first | exact Nat.ne_of_beq_eq_false rfl | exact rfl | omega) only [nI_add, xa_sub, xa_mul, pk_div, nm_mod, xa_shr, xa_and7, xa_and1, xa_and255, xa_by_and, nI_m1, Nat.add_sub_cancel, Nat.reducePow, Nat.zero_add, Nat.add_zero, Nat.reduceAdd, Nat.reduceMul, Nat.reduceSub, xf_same, xq_ff, xq_fo, xf_1, xf_2, xs_1, xs_2, xs_same, xq_so, xj_1, xj_2, xj_same, xq_jo, xq_sa1, xq_same, xq_other, upd_s, oI_n, oI_s, xv_0, xv_1, xv_2, xv_3, xm_p1, xm_p2, xq_fp, xq_fn, List.filter_nil, Nat.reduceBEq, Bool.not_true, Bool.not_false, Bool.and_true, Bool.and_false, Bool.false_and, Bool.true_and, if_true, if_false, Bool.false_eq_true, reduceIte, xc_i, xc_j, xc_r, xc_n, List.nil_append, List.cons_append, Option.toList_some, Option.toList_none, xf_102_17 s1, xf_102_18 s1]
              with_reducible refine xm_go_blk b_X12_isValue_227 k_X12_isValue_227 ?_
              refine by_goto 16 rfl ?_
              exact xm_go_wk (by simp [Value.category]) hg
            · rcases List.mem_cons.mp hy with rfl | hy
              · exact ⟨hs2, by show s < hi; omega, by show ty_w (tr s) ≤ 2048; omega, by show at0 ≤ p + 1 + z; omega, by show p + 1 + z + ty_w (tr s) ≤ E; omega⟩
              · exact rest y hy
          · rw [show p + 1 + z - (p + 1) = z by omega] at hbz
            rw [hbz, Bool.false_and] at hvs
            exact h0 h' (by rw [hval', hvs, Bool.false_and]) s2
        obtain ⟨v1, v2⟩ := hv p b4 (by omega)
        have v1' : h'.1 145 p = nI (v p) := by rw [s2.1 145 (by simp)]; exact v1
        unfold ivL
        by_cases e0 : v p = 0
        · rw [e0] at v1'
          with_reducible refine xm_go_blk b_X12_isValue_16 k_X12_isValue_16 ?_
          refine by_iload_n rfl ?_
          refine by_if_le 230 rfl ?_
          simp (disch := first | exact Nat.ne_of_beq_eq_false rfl | exact rfl | omega) only [nI_add, xa_sub, xa_mul, pk_div, nm_mod, xa_shr, xa_and7, xa_and1, xa_and255, xa_by_and, nI_m1, Nat.add_sub_cancel, Nat.reducePow, Nat.zero_add, Nat.add_zero, Nat.reduceAdd, Nat.reduceMul, Nat.reduceSub, xf_same, xq_ff, xq_fo, xf_1, xf_2, xs_1, xs_2, xs_same, xq_so, xj_1, xj_2, xj_same, xq_jo, xq_sa1, xq_same, xq_other, upd_s, oI_n, oI_s, xv_0, xv_1, xv_2, xv_3, xm_p1, xm_p2, xq_fp, xq_fn, List.filter_nil, Nat.reduceBEq, Bool.not_true, Bool.not_false, Bool.and_true, Bool.and_false, Bool.false_and, Bool.true_and, if_true, if_false, Bool.false_eq_true, reduceIte, xc_i, xc_j, xc_r, xc_n, List.nil_append, List.cons_append, Option.toList_some, Option.toList_none, nI_ltJ, nI_leJ, nI_eqJ, nI_ltz, nI_gez, nI_gtz, nI_lez, nI_eqz, m1_ltz, m1_gez, true_imp_iff, false_imp_iff, true_and, and_true, ne_eq, not_false_eq_true, not_true_eq_false, Nat.reduceEqDiff, Nat.reduceLT, Nat.reduceLeDiff, xf_102_17 s1, xf_102_18 s1, xf_102_44 s1, xf_102_41 s1, xf_102_42 s1, xf_102_58 s1, e1, e2, y5, w0', y3, y1, v1']
          with_reducible refine xm_go_blk b_X12_isValue_20 k_X12_isValue_20 ?_
          refine by_iinc (by rw [ml_237]; decide) rfl ci_m1 ?_
          refine by_aload_n rfl ?_
          refine by_getf cn_237 fl_12_48 (by first | exact rfl | assumption) (by decide) ?_
          refine by_iload_n rfl ?_
          simp (disch := first | exact Nat.ne_of_beq_eq_false rfl | exact rfl | omega) only [nI_add, xa_sub, xa_mul, pk_div, nm_mod, xa_shr, xa_and7, xa_and1, xa_and255, xa_by_and, nI_m1, Nat.add_sub_cancel, Nat.reducePow, Nat.zero_add, Nat.add_zero, Nat.reduceAdd, Nat.reduceMul, Nat.reduceSub, xf_same, xq_ff, xq_fo, xf_1, xf_2, xs_1, xs_2, xs_same, xq_so, xj_1, xj_2, xj_same, xq_jo, xq_sa1, xq_same, xq_other, upd_s, oI_n, oI_s, xf_102_17 s1, xf_102_18 s1, xf_102_44 s1, xf_102_41 s1, xf_102_42 s1, xf_102_58 s1, e1, e2, y5, w0', y3, y1, v1']
          first | refine by_iald (by first | exact rfl | assumption | exact ps_1 hpp | exact ps_2 hpp | exact ps_3 hpp | exact ps_4 hpp | exact ps_5 hpp | exact ps_6 hpp | exact ps_7 hpp | exact ps_8 hpp | exact ps_9 hpp | exact ps_10 hpp | exact ps_11 hpp | exact ps_15 hpp | exact ps_16 hpp | exact ps_17 hpp | exact ps_18 hpp | exact ps_19 hpp | exact ps_21 hpp | exact ps_22 hpp | exact ps_23 hpp | exact ps_24 hpp) ⟨by omega, by omega⟩ ?_ | refine by_tald rfl rfl ⟨by omega, by omega⟩ ?_
          refine by_istore (by rw [ml_237]; decide) ?_
          refine by_aload_n rfl ?_
          refine by_getf cn_237 fl_12_51 (by first | exact rfl | assumption) (by decide) ?_
          refine by_iload_n rfl ?_
          simp (disch := first | exact Nat.ne_of_beq_eq_false rfl | exact rfl | omega) only [nI_add, xa_sub, xa_mul, pk_div, nm_mod, xa_shr, xa_and7, xa_and1, xa_and255, xa_by_and, nI_m1, Nat.add_sub_cancel, Nat.reducePow, Nat.zero_add, Nat.add_zero, Nat.reduceAdd, Nat.reduceMul, Nat.reduceSub, xf_same, xq_ff, xq_fo, xf_1, xf_2, xs_1, xs_2, xs_same, xq_so, xj_1, xj_2, xj_same, xq_jo, xq_sa1, xq_same, xq_other, upd_s, oI_n, oI_s, xf_102_17 s1, xf_102_18 s1, xf_102_44 s1, xf_102_41 s1, xf_102_42 s1, xf_102_58 s1, e1, e2, y5, w0', y3, y1, v1']
          first | refine by_iald (by first | exact rfl | assumption | exact ps_1 hpp | exact ps_2 hpp | exact ps_3 hpp | exact ps_4 hpp | exact ps_5 hpp | exact ps_6 hpp | exact ps_7 hpp | exact ps_8 hpp | exact ps_9 hpp | exact ps_10 hpp | exact ps_11 hpp | exact ps_15 hpp | exact ps_16 hpp | exact ps_17 hpp | exact ps_18 hpp | exact ps_19 hpp | exact ps_21 hpp | exact ps_22 hpp | exact ps_23 hpp | exact ps_24 hpp) ⟨by omega, by omega⟩ ?_ | refine by_tald rfl rfl ⟨by omega, by omega⟩ ?_
          refine by_istore (by rw [ml_237]; decide) ?_
          refine by_aload_n rfl ?_
          refine by_getf cn_237 fl_12_100 (by first | exact rfl | assumption) (by decide) ?_
          refine by_iload rfl ?_
          simp (disch := first | exact Nat.ne_of_beq_eq_false rfl | exact rfl | omega) only [nI_add, xa_sub, xa_mul, pk_div, nm_mod, xa_shr, xa_and7, xa_and1, xa_and255, xa_by_and, nI_m1, Nat.add_sub_cancel, Nat.reducePow, Nat.zero_add, Nat.add_zero, Nat.reduceAdd, Nat.reduceMul, Nat.reduceSub, xf_same, xq_ff, xq_fo, xf_1, xf_2, xs_1, xs_2, xs_same, xq_so, xj_1, xj_2, xj_same, xq_jo, xq_sa1, xq_same, xq_other, upd_s, oI_n, oI_s, xf_102_17 s1, xf_102_18 s1, xf_102_44 s1, xf_102_41 s1, xf_102_42 s1, xf_102_58 s1, e1, e2, y5, w0', y3, y1, v1']
          first | refine by_iald (by first | exact rfl | assumption | exact ps_1 hpp | exact ps_2 hpp | exact ps_3 hpp | exact ps_4 hpp | exact ps_5 hpp | exact ps_6 hpp | exact ps_7 hpp | exact ps_8 hpp | exact ps_9 hpp | exact ps_10 hpp | exact ps_11 hpp | exact ps_15 hpp | exact ps_16 hpp | exact ps_17 hpp | exact ps_18 hpp | exact ps_19 hpp | exact ps_21 hpp | exact ps_22 hpp | exact ps_23 hpp | exact ps_24 hpp) ⟨by omega, by omega⟩ ?_ | refine by_tald rfl rfl ⟨by omega, by omega⟩ ?_
          refine by_if_ne 52 rfl ?_
          simp (disch := first | exact Nat.ne_of_beq_eq_false rfl | exact rfl | omega) only [nI_add, xa_sub, xa_mul, pk_div, nm_mod, xa_shr, xa_and7, xa_and1, xa_and255, xa_by_and, nI_m1, Nat.add_sub_cancel, Nat.reducePow, Nat.zero_add, Nat.add_zero, Nat.reduceAdd, Nat.reduceMul, Nat.reduceSub, xf_same, xq_ff, xq_fo, xf_1, xf_2, xs_1, xs_2, xs_same, xq_so, xj_1, xj_2, xj_same, xq_jo, xq_sa1, xq_same, xq_other, upd_s, oI_n, oI_s, xv_0, xv_1, xv_2, xv_3, xm_p1, xm_p2, xq_fp, xq_fn, List.filter_nil, Nat.reduceBEq, Bool.not_true, Bool.not_false, Bool.and_true, Bool.and_false, Bool.false_and, Bool.true_and, if_true, if_false, Bool.false_eq_true, reduceIte, xc_i, xc_j, xc_r, xc_n, List.nil_append, List.cons_append, Option.toList_some, Option.toList_none, nI_ltJ, nI_leJ, nI_eqJ, nI_ltz, nI_gez, nI_gtz, nI_lez, nI_eqz, m1_ltz, m1_gez, true_imp_iff, false_imp_iff, true_and, and_true, ne_eq, not_false_eq_true, not_true_eq_false, Nat.reduceEqDiff, Nat.reduceLT, Nat.reduceLeDiff, xf_102_17 s1, xf_102_18 s1, xf_102_44 s1, xf_102_41 s1, xf_102_42 s1, xf_102_58 s1, e1, e2, y5, w0', y3, y1, v1']
          with_reducible refine xm_go_blk b_X12_isValue_52 k_X12_isValue_52 ?_
          refine by_aload_n rfl ?_
          refine by_getf cn_237 fl_12_91 (by first | exact rfl | assumption) (by decide) ?_
          refine by_iload rfl ?_
          simp (disch := first | exact Nat.ne_of_beq_eq_false rfl | exact rfl | omega) only [nI_add, xa_sub, xa_mul, pk_div, nm_mod, xa_shr, xa_and7, xa_and1, xa_and255, xa_by_and, nI_m1, Nat.add_sub_cancel, Nat.reducePow, Nat.zero_add, Nat.add_zero, Nat.reduceAdd, Nat.reduceMul, Nat.reduceSub, xf_same, xq_ff, xq_fo, xf_1, xf_2, xs_1, xs_2, xs_same, xq_so, xj_1, xj_2, xj_same, xq_jo, xq_sa1, xq_same, xq_other, upd_s, oI_n, oI_s, xf_102_17 s1, xf_102_18 s1, xf_102_44 s1, xf_102_41 s1, xf_102_42 s1, xf_102_58 s1, e1, e2, y5, w0', y3, y1, v1']
          first | refine by_iald (by first | exact rfl | assumption | exact ps_1 hpp | exact ps_2 hpp | exact ps_3 hpp | exact ps_4 hpp | exact ps_5 hpp | exact ps_6 hpp | exact ps_7 hpp | exact ps_8 hpp | exact ps_9 hpp | exact ps_10 hpp | exact ps_11 hpp | exact ps_15 hpp | exact ps_16 hpp | exact ps_17 hpp | exact ps_18 hpp | exact ps_19 hpp | exact ps_21 hpp | exact ps_22 hpp | exact ps_23 hpp | exact ps_24 hpp) ⟨by omega, by omega⟩ ?_ | refine by_tald rfl rfl ⟨by omega, by omega⟩ ?_
          refine by_iconst ci_3 ?_
          refine by_ic_ne 128 rfl ?_
          simp (disch := first | exact Nat.ne_of_beq_eq_false rfl | exact rfl | omega) only [nI_add, xa_sub, xa_mul, pk_div, nm_mod, xa_shr, xa_and7, xa_and1, xa_and255, xa_by_and, nI_m1, Nat.add_sub_cancel, Nat.reducePow, Nat.zero_add, Nat.add_zero, Nat.reduceAdd, Nat.reduceMul, Nat.reduceSub, xf_same, xq_ff, xq_fo, xf_1, xf_2, xs_1, xs_2, xs_same, xq_so, xj_1, xj_2, xj_same, xq_jo, xq_sa1, xq_same, xq_other, upd_s, oI_n, oI_s, xv_0, xv_1, xv_2, xv_3, xm_p1, xm_p2, xq_fp, xq_fn, List.filter_nil, Nat.reduceBEq, Bool.not_true, Bool.not_false, Bool.and_true, Bool.and_false, Bool.false_and, Bool.true_and, if_true, if_false, Bool.false_eq_true, reduceIte, xc_i, xc_j, xc_r, xc_n, List.nil_append, List.cons_append, Option.toList_some, Option.toList_none, nI_ltJ, nI_leJ, nI_eqJ, nI_ltz, nI_gez, nI_gtz, nI_lez, nI_eqz, m1_ltz, m1_gez, true_imp_iff, false_imp_iff, true_and, and_true, ne_eq, not_false_eq_true, not_true_eq_false, Nat.reduceEqDiff, Nat.reduceLT, Nat.reduceLeDiff, xf_102_17 s1, xf_102_18 s1, xf_102_44 s1, xf_102_41 s1, xf_102_42 s1, xf_102_58 s1, e1, e2, y5, w0', y3, y1, v1']
          with_reducible refine xm_go_blk b_X12_isValue_128 k_X12_isValue_128 ?_
          refine by_aload_n rfl ?_
          refine by_getf cn_237 fl_12_141 (by first | exact rfl | assumption) (by decide) ?_
          refine by_iload rfl ?_
          simp (disch := first | exact Nat.ne_of_beq_eq_false rfl | exact rfl | omega) only [nI_add, xa_sub, xa_mul, pk_div, nm_mod, xa_shr, xa_and7, xa_and1, xa_and255, xa_by_and, nI_m1, Nat.add_sub_cancel, Nat.reducePow, Nat.zero_add, Nat.add_zero, Nat.reduceAdd, Nat.reduceMul, Nat.reduceSub, xf_same, xq_ff, xq_fo, xf_1, xf_2, xs_1, xs_2, xs_same, xq_so, xj_1, xj_2, xj_same, xq_jo, xq_sa1, xq_same, xq_other, upd_s, oI_n, oI_s, xf_102_17 s1, xf_102_18 s1, xf_102_44 s1, xf_102_41 s1, xf_102_42 s1, xf_102_58 s1, e1, e2, y5, w0', y3, y1, v1']
          first | refine by_bald (Or.inl rfl) (by first | exact rfl | assumption | exact ps_13 hpp) ⟨by omega, by omega⟩ ?_ | refine by_bald (Or.inr rfl) (by first | exact rfl | assumption | exact ps_20 hpp) ⟨by omega, by omega⟩ ?_
          refine by_if_ne 148 rfl ?_
          simp (disch := first | exact Nat.ne_of_beq_eq_false rfl | exact rfl | omega) only [nI_add, xa_sub, xa_mul, pk_div, nm_mod, xa_shr, xa_and7, xa_and1, xa_and255, xa_by_and, nI_m1, Nat.add_sub_cancel, Nat.reducePow, Nat.zero_add, Nat.add_zero, Nat.reduceAdd, Nat.reduceMul, Nat.reduceSub, xf_same, xq_ff, xq_fo, xf_1, xf_2, xs_1, xs_2, xs_same, xq_so, xj_1, xj_2, xj_same, xq_jo, xq_sa1, xq_same, xq_other, upd_s, oI_n, oI_s, xv_0, xv_1, xv_2, xv_3, xm_p1, xm_p2, xq_fp, xq_fn, List.filter_nil, Nat.reduceBEq, Bool.not_true, Bool.not_false, Bool.and_true, Bool.and_false, Bool.false_and, Bool.true_and, if_true, if_false, Bool.false_eq_true, reduceIte, xc_i, xc_j, xc_r, xc_n, List.nil_append, List.cons_append, Option.toList_some, Option.toList_none, nI_ltJ, nI_leJ, nI_eqJ, nI_ltz, nI_gez, nI_gtz, nI_lez, nI_eqz, m1_ltz, m1_gez, true_imp_iff, false_imp_iff, true_and, and_true, ne_eq, not_false_eq_true, not_true_eq_false, Nat.reduceEqDiff, Nat.reduceLT, Nat.reduceLeDiff, xf_102_17 s1, xf_102_18 s1, xf_102_44 s1, xf_102_41 s1, xf_102_42 s1, xf_102_58 s1, e1, e2, y5, w0', y3, y1, v1']
          with_reducible refine xm_go_blk b_X12_isValue_138 k_X12_isValue_138 ?_
          refine by_aload_n rfl ?_
          refine by_getf cn_237 fl_12_94 (by first | exact rfl | assumption) (by decide) ?_
          refine by_iload rfl ?_
          simp (disch := first | exact Nat.ne_of_beq_eq_false rfl | exact rfl | omega) only [nI_add, xa_sub, xa_mul, pk_div, nm_mod, xa_shr, xa_and7, xa_and1, xa_and255, xa_by_and, nI_m1, Nat.add_sub_cancel, Nat.reducePow, Nat.zero_add, Nat.add_zero, Nat.reduceAdd, Nat.reduceMul, Nat.reduceSub, xf_same, xq_ff, xq_fo, xf_1, xf_2, xs_1, xs_2, xs_same, xq_so, xj_1, xj_2, xj_same, xq_jo, xq_sa1, xq_same, xq_other, upd_s, oI_n, oI_s, xf_102_17 s1, xf_102_18 s1, xf_102_44 s1, xf_102_41 s1, xf_102_42 s1, xf_102_58 s1, e1, e2, y5, w0', y3, y1, v1']
          first | refine by_iald (by first | exact rfl | assumption | exact ps_1 hpp | exact ps_2 hpp | exact ps_3 hpp | exact ps_4 hpp | exact ps_5 hpp | exact ps_6 hpp | exact ps_7 hpp | exact ps_8 hpp | exact ps_9 hpp | exact ps_10 hpp | exact ps_11 hpp | exact ps_15 hpp | exact ps_16 hpp | exact ps_17 hpp | exact ps_18 hpp | exact ps_19 hpp | exact ps_21 hpp | exact ps_22 hpp | exact ps_23 hpp | exact ps_24 hpp) ⟨by omega, by omega⟩ ?_ | refine by_tald rfl rfl ⟨by omega, by omega⟩ ?_
          refine by_goto 155 rfl ?_
          simp (disch := first | exact Nat.ne_of_beq_eq_false rfl | exact rfl | omega) only [nI_add, xa_sub, xa_mul, pk_div, nm_mod, xa_shr, xa_and7, xa_and1, xa_and255, xa_by_and, nI_m1, Nat.add_sub_cancel, Nat.reducePow, Nat.zero_add, Nat.add_zero, Nat.reduceAdd, Nat.reduceMul, Nat.reduceSub, xf_same, xq_ff, xq_fo, xf_1, xf_2, xs_1, xs_2, xs_same, xq_so, xj_1, xj_2, xj_same, xq_jo, xq_sa1, xq_same, xq_other, upd_s, oI_n, oI_s, xv_0, xv_1, xv_2, xv_3, xm_p1, xm_p2, xq_fp, xq_fn, List.filter_nil, Nat.reduceBEq, Bool.not_true, Bool.not_false, Bool.and_true, Bool.and_false, Bool.false_and, Bool.true_and, if_true, if_false, Bool.false_eq_true, reduceIte, xc_i, xc_j, xc_r, xc_n, List.nil_append, List.cons_append, Option.toList_some, Option.toList_none, xf_102_17 s1, xf_102_18 s1, xf_102_44 s1, xf_102_41 s1, xf_102_42 s1, xf_102_58 s1, e1, e2, y5, w0', y3, y1, v1']
          exact xm_go_wk (by simp [Value.category]) (part _ (Or.inl rfl) (by rw [k2]; simp only [ty_val, e0, if_true]))
        · have ev1 : v p = 1 := by omega
          rw [ev1] at v1'
          with_reducible refine xm_go_blk b_X12_isValue_16 k_X12_isValue_16 ?_
          refine by_iload_n rfl ?_
          refine by_if_le 230 rfl ?_
          simp (disch := first | exact Nat.ne_of_beq_eq_false rfl | exact rfl | omega) only [nI_add, xa_sub, xa_mul, pk_div, nm_mod, xa_shr, xa_and7, xa_and1, xa_and255, xa_by_and, nI_m1, Nat.add_sub_cancel, Nat.reducePow, Nat.zero_add, Nat.add_zero, Nat.reduceAdd, Nat.reduceMul, Nat.reduceSub, xf_same, xq_ff, xq_fo, xf_1, xf_2, xs_1, xs_2, xs_same, xq_so, xj_1, xj_2, xj_same, xq_jo, xq_sa1, xq_same, xq_other, upd_s, oI_n, oI_s, xv_0, xv_1, xv_2, xv_3, xm_p1, xm_p2, xq_fp, xq_fn, List.filter_nil, Nat.reduceBEq, Bool.not_true, Bool.not_false, Bool.and_true, Bool.and_false, Bool.false_and, Bool.true_and, if_true, if_false, Bool.false_eq_true, reduceIte, xc_i, xc_j, xc_r, xc_n, List.nil_append, List.cons_append, Option.toList_some, Option.toList_none, nI_ltJ, nI_leJ, nI_eqJ, nI_ltz, nI_gez, nI_gtz, nI_lez, nI_eqz, m1_ltz, m1_gez, true_imp_iff, false_imp_iff, true_and, and_true, ne_eq, not_false_eq_true, not_true_eq_false, Nat.reduceEqDiff, Nat.reduceLT, Nat.reduceLeDiff, xf_102_17 s1, xf_102_18 s1, xf_102_44 s1, xf_102_41 s1, xf_102_43 s1, xf_102_58 s1, e1, e2, y5, w0', y3, y2, v1']
          with_reducible refine xm_go_blk b_X12_isValue_20 k_X12_isValue_20 ?_
          refine by_iinc (by rw [ml_237]; decide) rfl ci_m1 ?_
          refine by_aload_n rfl ?_
          refine by_getf cn_237 fl_12_48 (by first | exact rfl | assumption) (by decide) ?_
          refine by_iload_n rfl ?_
          simp (disch := first | exact Nat.ne_of_beq_eq_false rfl | exact rfl | omega) only [nI_add, xa_sub, xa_mul, pk_div, nm_mod, xa_shr, xa_and7, xa_and1, xa_and255, xa_by_and, nI_m1, Nat.add_sub_cancel, Nat.reducePow, Nat.zero_add, Nat.add_zero, Nat.reduceAdd, Nat.reduceMul, Nat.reduceSub, xf_same, xq_ff, xq_fo, xf_1, xf_2, xs_1, xs_2, xs_same, xq_so, xj_1, xj_2, xj_same, xq_jo, xq_sa1, xq_same, xq_other, upd_s, oI_n, oI_s, xf_102_17 s1, xf_102_18 s1, xf_102_44 s1, xf_102_41 s1, xf_102_43 s1, xf_102_58 s1, e1, e2, y5, w0', y3, y2, v1']
          first | refine by_iald (by first | exact rfl | assumption | exact ps_1 hpp | exact ps_2 hpp | exact ps_3 hpp | exact ps_4 hpp | exact ps_5 hpp | exact ps_6 hpp | exact ps_7 hpp | exact ps_8 hpp | exact ps_9 hpp | exact ps_10 hpp | exact ps_11 hpp | exact ps_15 hpp | exact ps_16 hpp | exact ps_17 hpp | exact ps_18 hpp | exact ps_19 hpp | exact ps_21 hpp | exact ps_22 hpp | exact ps_23 hpp | exact ps_24 hpp) ⟨by omega, by omega⟩ ?_ | refine by_tald rfl rfl ⟨by omega, by omega⟩ ?_
          refine by_istore (by rw [ml_237]; decide) ?_
          refine by_aload_n rfl ?_
          refine by_getf cn_237 fl_12_51 (by first | exact rfl | assumption) (by decide) ?_
          refine by_iload_n rfl ?_
          simp (disch := first | exact Nat.ne_of_beq_eq_false rfl | exact rfl | omega) only [nI_add, xa_sub, xa_mul, pk_div, nm_mod, xa_shr, xa_and7, xa_and1, xa_and255, xa_by_and, nI_m1, Nat.add_sub_cancel, Nat.reducePow, Nat.zero_add, Nat.add_zero, Nat.reduceAdd, Nat.reduceMul, Nat.reduceSub, xf_same, xq_ff, xq_fo, xf_1, xf_2, xs_1, xs_2, xs_same, xq_so, xj_1, xj_2, xj_same, xq_jo, xq_sa1, xq_same, xq_other, upd_s, oI_n, oI_s, xf_102_17 s1, xf_102_18 s1, xf_102_44 s1, xf_102_41 s1, xf_102_43 s1, xf_102_58 s1, e1, e2, y5, w0', y3, y2, v1']
          first | refine by_iald (by first | exact rfl | assumption | exact ps_1 hpp | exact ps_2 hpp | exact ps_3 hpp | exact ps_4 hpp | exact ps_5 hpp | exact ps_6 hpp | exact ps_7 hpp | exact ps_8 hpp | exact ps_9 hpp | exact ps_10 hpp | exact ps_11 hpp | exact ps_15 hpp | exact ps_16 hpp | exact ps_17 hpp | exact ps_18 hpp | exact ps_19 hpp | exact ps_21 hpp | exact ps_22 hpp | exact ps_23 hpp | exact ps_24 hpp) ⟨by omega, by omega⟩ ?_ | refine by_tald rfl rfl ⟨by omega, by omega⟩ ?_
          refine by_istore (by rw [ml_237]; decide) ?_
          refine by_aload_n rfl ?_
          refine by_getf cn_237 fl_12_100 (by first | exact rfl | assumption) (by decide) ?_
          refine by_iload rfl ?_
          simp (disch := first | exact Nat.ne_of_beq_eq_false rfl | exact rfl | omega) only [nI_add, xa_sub, xa_mul, pk_div, nm_mod, xa_shr, xa_and7, xa_and1, xa_and255, xa_by_and, nI_m1, Nat.add_sub_cancel, Nat.reducePow, Nat.zero_add, Nat.add_zero, Nat.reduceAdd, Nat.reduceMul, Nat.reduceSub, xf_same, xq_ff, xq_fo, xf_1, xf_2, xs_1, xs_2, xs_same, xq_so, xj_1, xj_2, xj_same, xq_jo, xq_sa1, xq_same, xq_other, upd_s, oI_n, oI_s, xf_102_17 s1, xf_102_18 s1, xf_102_44 s1, xf_102_41 s1, xf_102_43 s1, xf_102_58 s1, e1, e2, y5, w0', y3, y2, v1']
          first | refine by_iald (by first | exact rfl | assumption | exact ps_1 hpp | exact ps_2 hpp | exact ps_3 hpp | exact ps_4 hpp | exact ps_5 hpp | exact ps_6 hpp | exact ps_7 hpp | exact ps_8 hpp | exact ps_9 hpp | exact ps_10 hpp | exact ps_11 hpp | exact ps_15 hpp | exact ps_16 hpp | exact ps_17 hpp | exact ps_18 hpp | exact ps_19 hpp | exact ps_21 hpp | exact ps_22 hpp | exact ps_23 hpp | exact ps_24 hpp) ⟨by omega, by omega⟩ ?_ | refine by_tald rfl rfl ⟨by omega, by omega⟩ ?_
          refine by_if_ne 52 rfl ?_
          simp (disch := first | exact Nat.ne_of_beq_eq_false rfl | exact rfl | omega) only [nI_add, xa_sub, xa_mul, pk_div, nm_mod, xa_shr, xa_and7, xa_and1, xa_and255, xa_by_and, nI_m1, Nat.add_sub_cancel, Nat.reducePow, Nat.zero_add, Nat.add_zero, Nat.reduceAdd, Nat.reduceMul, Nat.reduceSub, xf_same, xq_ff, xq_fo, xf_1, xf_2, xs_1, xs_2, xs_same, xq_so, xj_1, xj_2, xj_same, xq_jo, xq_sa1, xq_same, xq_other, upd_s, oI_n, oI_s, xv_0, xv_1, xv_2, xv_3, xm_p1, xm_p2, xq_fp, xq_fn, List.filter_nil, Nat.reduceBEq, Bool.not_true, Bool.not_false, Bool.and_true, Bool.and_false, Bool.false_and, Bool.true_and, if_true, if_false, Bool.false_eq_true, reduceIte, xc_i, xc_j, xc_r, xc_n, List.nil_append, List.cons_append, Option.toList_some, Option.toList_none, nI_ltJ, nI_leJ, nI_eqJ, nI_ltz, nI_gez, nI_gtz, nI_lez, nI_eqz, m1_ltz, m1_gez, true_imp_iff, false_imp_iff, true_and, and_true, ne_eq, not_false_eq_true, not_true_eq_false, Nat.reduceEqDiff, Nat.reduceLT, Nat.reduceLeDiff, xf_102_17 s1, xf_102_18 s1, xf_102_44 s1, xf_102_41 s1, xf_102_43 s1, xf_102_58 s1, e1, e2, y5, w0', y3, y2, v1']
          with_reducible refine xm_go_blk b_X12_isValue_52 k_X12_isValue_52 ?_
          refine by_aload_n rfl ?_
          refine by_getf cn_237 fl_12_91 (by first | exact rfl | assumption) (by decide) ?_
          refine by_iload rfl ?_
          simp (disch := first | exact Nat.ne_of_beq_eq_false rfl | exact rfl | omega) only [nI_add, xa_sub, xa_mul, pk_div, nm_mod, xa_shr, xa_and7, xa_and1, xa_and255, xa_by_and, nI_m1, Nat.add_sub_cancel, Nat.reducePow, Nat.zero_add, Nat.add_zero, Nat.reduceAdd, Nat.reduceMul, Nat.reduceSub, xf_same, xq_ff, xq_fo, xf_1, xf_2, xs_1, xs_2, xs_same, xq_so, xj_1, xj_2, xj_same, xq_jo, xq_sa1, xq_same, xq_other, upd_s, oI_n, oI_s, xf_102_17 s1, xf_102_18 s1, xf_102_44 s1, xf_102_41 s1, xf_102_43 s1, xf_102_58 s1, e1, e2, y5, w0', y3, y2, v1']
          first | refine by_iald (by first | exact rfl | assumption | exact ps_1 hpp | exact ps_2 hpp | exact ps_3 hpp | exact ps_4 hpp | exact ps_5 hpp | exact ps_6 hpp | exact ps_7 hpp | exact ps_8 hpp | exact ps_9 hpp | exact ps_10 hpp | exact ps_11 hpp | exact ps_15 hpp | exact ps_16 hpp | exact ps_17 hpp | exact ps_18 hpp | exact ps_19 hpp | exact ps_21 hpp | exact ps_22 hpp | exact ps_23 hpp | exact ps_24 hpp) ⟨by omega, by omega⟩ ?_ | refine by_tald rfl rfl ⟨by omega, by omega⟩ ?_
          refine by_iconst ci_3 ?_
          refine by_ic_ne 128 rfl ?_
          simp (disch := first | exact Nat.ne_of_beq_eq_false rfl | exact rfl | omega) only [nI_add, xa_sub, xa_mul, pk_div, nm_mod, xa_shr, xa_and7, xa_and1, xa_and255, xa_by_and, nI_m1, Nat.add_sub_cancel, Nat.reducePow, Nat.zero_add, Nat.add_zero, Nat.reduceAdd, Nat.reduceMul, Nat.reduceSub, xf_same, xq_ff, xq_fo, xf_1, xf_2, xs_1, xs_2, xs_same, xq_so, xj_1, xj_2, xj_same, xq_jo, xq_sa1, xq_same, xq_other, upd_s, oI_n, oI_s, xv_0, xv_1, xv_2, xv_3, xm_p1, xm_p2, xq_fp, xq_fn, List.filter_nil, Nat.reduceBEq, Bool.not_true, Bool.not_false, Bool.and_true, Bool.and_false, Bool.false_and, Bool.true_and, if_true, if_false, Bool.false_eq_true, reduceIte, xc_i, xc_j, xc_r, xc_n, List.nil_append, List.cons_append, Option.toList_some, Option.toList_none, nI_ltJ, nI_leJ, nI_eqJ, nI_ltz, nI_gez, nI_gtz, nI_lez, nI_eqz, m1_ltz, m1_gez, true_imp_iff, false_imp_iff, true_and, and_true, ne_eq, not_false_eq_true, not_true_eq_false, Nat.reduceEqDiff, Nat.reduceLT, Nat.reduceLeDiff, xf_102_17 s1, xf_102_18 s1, xf_102_44 s1, xf_102_41 s1, xf_102_43 s1, xf_102_58 s1, e1, e2, y5, w0', y3, y2, v1']
          with_reducible refine xm_go_blk b_X12_isValue_128 k_X12_isValue_128 ?_
          refine by_aload_n rfl ?_
          refine by_getf cn_237 fl_12_141 (by first | exact rfl | assumption) (by decide) ?_
          refine by_iload rfl ?_
          simp (disch := first | exact Nat.ne_of_beq_eq_false rfl | exact rfl | omega) only [nI_add, xa_sub, xa_mul, pk_div, nm_mod, xa_shr, xa_and7, xa_and1, xa_and255, xa_by_and, nI_m1, Nat.add_sub_cancel, Nat.reducePow, Nat.zero_add, Nat.add_zero, Nat.reduceAdd, Nat.reduceMul, Nat.reduceSub, xf_same, xq_ff, xq_fo, xf_1, xf_2, xs_1, xs_2, xs_same, xq_so, xj_1, xj_2, xj_same, xq_jo, xq_sa1, xq_same, xq_other, upd_s, oI_n, oI_s, xf_102_17 s1, xf_102_18 s1, xf_102_44 s1, xf_102_41 s1, xf_102_43 s1, xf_102_58 s1, e1, e2, y5, w0', y3, y2, v1']
          first | refine by_bald (Or.inl rfl) (by first | exact rfl | assumption | exact ps_13 hpp) ⟨by omega, by omega⟩ ?_ | refine by_bald (Or.inr rfl) (by first | exact rfl | assumption | exact ps_20 hpp) ⟨by omega, by omega⟩ ?_
          refine by_if_ne 148 rfl ?_
          simp (disch := first | exact Nat.ne_of_beq_eq_false rfl | exact rfl | omega) only [nI_add, xa_sub, xa_mul, pk_div, nm_mod, xa_shr, xa_and7, xa_and1, xa_and255, xa_by_and, nI_m1, Nat.add_sub_cancel, Nat.reducePow, Nat.zero_add, Nat.add_zero, Nat.reduceAdd, Nat.reduceMul, Nat.reduceSub, xf_same, xq_ff, xq_fo, xf_1, xf_2, xs_1, xs_2, xs_same, xq_so, xj_1, xj_2, xj_same, xq_jo, xq_sa1, xq_same, xq_other, upd_s, oI_n, oI_s, xv_0, xv_1, xv_2, xv_3, xm_p1, xm_p2, xq_fp, xq_fn, List.filter_nil, Nat.reduceBEq, Bool.not_true, Bool.not_false, Bool.and_true, Bool.and_false, Bool.false_and, Bool.true_and, if_true, if_false, Bool.false_eq_true, reduceIte, xc_i, xc_j, xc_r, xc_n, List.nil_append, List.cons_append, Option.toList_some, Option.toList_none, nI_ltJ, nI_leJ, nI_eqJ, nI_ltz, nI_gez, nI_gtz, nI_lez, nI_eqz, m1_ltz, m1_gez, true_imp_iff, false_imp_iff, true_and, and_true, ne_eq, not_false_eq_true, not_true_eq_false, Nat.reduceEqDiff, Nat.reduceLT, Nat.reduceLeDiff, xf_102_17 s1, xf_102_18 s1, xf_102_44 s1, xf_102_41 s1, xf_102_43 s1, xf_102_58 s1, e1, e2, y5, w0', y3, y2, v1']
          with_reducible refine xm_go_blk b_X12_isValue_148 k_X12_isValue_148 ?_
          refine by_aload_n rfl ?_
          refine by_getf cn_237 fl_12_97 (by first | exact rfl | assumption) (by decide) ?_
          refine by_iload rfl ?_
          simp (disch := first | exact Nat.ne_of_beq_eq_false rfl | exact rfl | omega) only [nI_add, xa_sub, xa_mul, pk_div, nm_mod, xa_shr, xa_and7, xa_and1, xa_and255, xa_by_and, nI_m1, Nat.add_sub_cancel, Nat.reducePow, Nat.zero_add, Nat.add_zero, Nat.reduceAdd, Nat.reduceMul, Nat.reduceSub, xf_same, xq_ff, xq_fo, xf_1, xf_2, xs_1, xs_2, xs_same, xq_so, xj_1, xj_2, xj_same, xq_jo, xq_sa1, xq_same, xq_other, upd_s, oI_n, oI_s, xf_102_17 s1, xf_102_18 s1, xf_102_44 s1, xf_102_41 s1, xf_102_43 s1, xf_102_58 s1, e1, e2, y5, w0', y3, y2, v1']
          first | refine by_iald (by first | exact rfl | assumption | exact ps_1 hpp | exact ps_2 hpp | exact ps_3 hpp | exact ps_4 hpp | exact ps_5 hpp | exact ps_6 hpp | exact ps_7 hpp | exact ps_8 hpp | exact ps_9 hpp | exact ps_10 hpp | exact ps_11 hpp | exact ps_15 hpp | exact ps_16 hpp | exact ps_17 hpp | exact ps_18 hpp | exact ps_19 hpp | exact ps_21 hpp | exact ps_22 hpp | exact ps_23 hpp | exact ps_24 hpp) ⟨by omega, by omega⟩ ?_ | refine by_tald rfl rfl ⟨by omega, by omega⟩ ?_
          refine by_nil ?_
          simp (disch := first | exact Nat.ne_of_beq_eq_false rfl | exact rfl | omega) only [nI_add, xa_sub, xa_mul, pk_div, nm_mod, xa_shr, xa_and7, xa_and1, xa_and255, xa_by_and, nI_m1, Nat.add_sub_cancel, Nat.reducePow, Nat.zero_add, Nat.add_zero, Nat.reduceAdd, Nat.reduceMul, Nat.reduceSub, xf_same, xq_ff, xq_fo, xf_1, xf_2, xs_1, xs_2, xs_same, xq_so, xj_1, xj_2, xj_same, xq_jo, xq_sa1, xq_same, xq_other, upd_s, oI_n, oI_s, xv_0, xv_1, xv_2, xv_3, xm_p1, xm_p2, xq_fp, xq_fn, List.filter_nil, Nat.reduceBEq, Bool.not_true, Bool.not_false, Bool.and_true, Bool.and_false, Bool.false_and, Bool.true_and, if_true, if_false, Bool.false_eq_true, reduceIte, xc_i, xc_j, xc_r, xc_n, List.nil_append, List.cons_append, Option.toList_some, Option.toList_none, xf_102_17 s1, xf_102_18 s1, xf_102_44 s1, xf_102_41 s1, xf_102_43 s1, xf_102_58 s1, e1, e2, y5, w0', y3, y2, v1']
          exact xm_go_wk (by simp [Value.category]) (part _ (Or.inr rfl) (by rw [k2]; simp only [ty_val, e0, if_false]))
      · -- a product
        rw [e] at k2 y3
        have k2 : tr i = .mul (tr (L i)) (tr (R i)) := k2
        have ww : ty_w (tr i) = ty_w (tr (L i)) + ty_w (tr (R i)) := by rw [k2]; rfl
        have ss : ty_sz (tr i) = ty_sz (tr (L i)) + ty_sz (tr (R i)) + 1 := by rw [k2]; rfl
        have kl := (hT.2 (L i) m5 (by omega)).2.2.2.2
        rw [Nat.min_eq_right (by omega)] at kl
        have y6 : h'.1 132 (L i) = nI (ty_w (tr (L i))) := by rw [s2.1 132 (by simp)]; exact kl
        have hq1 : skA h' 115 (q.map (·.1)) := s3.2
        have hq2 : skA h' 116 (q.map (·.2)) := s4.2
        have f3 : Fr [115, 116] [] h' (xm_si (xm_si (xm_si (xm_si h' 115 q.length (nI (R i))) 116 q.length (nI (p + ty_w (tr (L i))))) 115 (q.length + 1) (nI (L i))) 116 (q.length + 1) (nI p)) := Fr_si (Fr_si (Fr_si (Fr_si Fr_rf (by simp)) (by simp)) (by simp)) (by simp)
        have a1 := skA_push (u := R i) hq1
        rw [List.length_map] at a1
        have a2 := skA_push (u := L i) (skA_si (b := 116) (j := q.length) (v := nI (p + ty_w (tr (L i)))) a1 (by decide))
        have c1 := skA_push (u := p + ty_w (tr (L i))) (skA_si (b := 115) (j := q.length) (v := nI (R i)) hq2 (by decide))
        rw [List.length_map] at c1
        have c2 := skA_push (u := p) (skA_si (b := 115) (j := q.length + 1) (v := nI (L i)) c1 (by decide))
        simp only [List.length_cons, List.length_map] at a2 c2
        have hg := ih ((L i, p) :: (R i, p + ty_w (tr (L i))) :: q) (xm_si (xm_si (xm_si (xm_si h' 115 q.length (nI (R i))) 116 q.length (nI (p + ty_w (tr (L i))))) 115 (q.length + 1) (nI (L i))) 116 (q.length + 1) (nI p)) (by simp only [szL]; omega) ⟨Fr_XF s1 f3 (by decide +kernel), Fr_tr s2 f3 (fun _ z => z) (fun _ z => z), skA_si a2 (by decide), c2, ⟨by simp only [List.length_map, List.length_cons]; omega, ⟨by simp only [List.length_map]; omega, s5.2⟩⟩, fun y hy => ?_⟩ (by rw [hval', k2]; simp only [vaL, ty_val, Bool.and_assoc])
        · unfold ivL at hg ⊢
          with_reducible refine xm_go_blk b_X12_isValue_16 k_X12_isValue_16 ?_
          refine by_iload_n rfl ?_
          refine by_if_le 230 rfl ?_
          simp (disch := first | exact Nat.ne_of_beq_eq_false rfl | exact rfl | omega) only [nI_add, xa_sub, xa_mul, pk_div, nm_mod, xa_shr, xa_and7, xa_and1, xa_and255, xa_by_and, nI_m1, Nat.add_sub_cancel, Nat.reducePow, Nat.zero_add, Nat.add_zero, Nat.reduceAdd, Nat.reduceMul, Nat.reduceSub, xf_same, xq_ff, xq_fo, xf_1, xf_2, xs_1, xs_2, xs_same, xq_so, xj_1, xj_2, xj_same, xq_jo, xq_sa1, xq_same, xq_other, upd_s, oI_n, oI_s, xv_0, xv_1, xv_2, xv_3, xm_p1, xm_p2, xq_fp, xq_fn, List.filter_nil, Nat.reduceBEq, Bool.not_true, Bool.not_false, Bool.and_true, Bool.and_false, Bool.false_and, Bool.true_and, if_true, if_false, Bool.false_eq_true, reduceIte, xc_i, xc_j, xc_r, xc_n, List.nil_append, List.cons_append, Option.toList_some, Option.toList_none, nI_ltJ, nI_leJ, nI_eqJ, nI_ltz, nI_gez, nI_gtz, nI_lez, nI_eqz, m1_ltz, m1_gez, true_imp_iff, false_imp_iff, true_and, and_true, ne_eq, not_false_eq_true, not_true_eq_false, Nat.reduceEqDiff, Nat.reduceLT, Nat.reduceLeDiff, xf_102_17 s1, xf_102_18 s1, xf_102_44 s1, xf_102_41 s1, xf_102_42 s1, xf_102_43 s1, e1, e2, y5, w0', y3, y1, y2, y6]
          with_reducible refine xm_go_blk b_X12_isValue_20 k_X12_isValue_20 ?_
          refine by_iinc (by rw [ml_237]; decide) rfl ci_m1 ?_
          refine by_aload_n rfl ?_
          refine by_getf cn_237 fl_12_48 (by first | exact rfl | assumption) (by decide) ?_
          refine by_iload_n rfl ?_
          simp (disch := first | exact Nat.ne_of_beq_eq_false rfl | exact rfl | omega) only [nI_add, xa_sub, xa_mul, pk_div, nm_mod, xa_shr, xa_and7, xa_and1, xa_and255, xa_by_and, nI_m1, Nat.add_sub_cancel, Nat.reducePow, Nat.zero_add, Nat.add_zero, Nat.reduceAdd, Nat.reduceMul, Nat.reduceSub, xf_same, xq_ff, xq_fo, xf_1, xf_2, xs_1, xs_2, xs_same, xq_so, xj_1, xj_2, xj_same, xq_jo, xq_sa1, xq_same, xq_other, upd_s, oI_n, oI_s, xf_102_17 s1, xf_102_18 s1, xf_102_44 s1, xf_102_41 s1, xf_102_42 s1, xf_102_43 s1, e1, e2, y5, w0', y3, y1, y2, y6]
          first | refine by_iald (by first | exact rfl | assumption | exact ps_1 hpp | exact ps_2 hpp | exact ps_3 hpp | exact ps_4 hpp | exact ps_5 hpp | exact ps_6 hpp | exact ps_7 hpp | exact ps_8 hpp | exact ps_9 hpp | exact ps_10 hpp | exact ps_11 hpp | exact ps_15 hpp | exact ps_16 hpp | exact ps_17 hpp | exact ps_18 hpp | exact ps_19 hpp | exact ps_21 hpp | exact ps_22 hpp | exact ps_23 hpp | exact ps_24 hpp) ⟨by omega, by omega⟩ ?_ | refine by_tald rfl rfl ⟨by omega, by omega⟩ ?_
          refine by_istore (by rw [ml_237]; decide) ?_
          refine by_aload_n rfl ?_
          refine by_getf cn_237 fl_12_51 (by first | exact rfl | assumption) (by decide) ?_
          refine by_iload_n rfl ?_
          simp (disch := first | exact Nat.ne_of_beq_eq_false rfl | exact rfl | omega) only [nI_add, xa_sub, xa_mul, pk_div, nm_mod, xa_shr, xa_and7, xa_and1, xa_and255, xa_by_and, nI_m1, Nat.add_sub_cancel, Nat.reducePow, Nat.zero_add, Nat.add_zero, Nat.reduceAdd, Nat.reduceMul, Nat.reduceSub, xf_same, xq_ff, xq_fo, xf_1, xf_2, xs_1, xs_2, xs_same, xq_so, xj_1, xj_2, xj_same, xq_jo, xq_sa1, xq_same, xq_other, upd_s, oI_n, oI_s, xf_102_17 s1, xf_102_18 s1, xf_102_44 s1, xf_102_41 s1, xf_102_42 s1, xf_102_43 s1, e1, e2, y5, w0', y3, y1, y2, y6]
          first | refine by_iald (by first | exact rfl | assumption | exact ps_1 hpp | exact ps_2 hpp | exact ps_3 hpp | exact ps_4 hpp | exact ps_5 hpp | exact ps_6 hpp | exact ps_7 hpp | exact ps_8 hpp | exact ps_9 hpp | exact ps_10 hpp | exact ps_11 hpp | exact ps_15 hpp | exact ps_16 hpp | exact ps_17 hpp | exact ps_18 hpp | exact ps_19 hpp | exact ps_21 hpp | exact ps_22 hpp | exact ps_23 hpp | exact ps_24 hpp) ⟨by omega, by omega⟩ ?_ | refine by_tald rfl rfl ⟨by omega, by omega⟩ ?_
          refine by_istore (by rw [ml_237]; decide) ?_
          refine by_aload_n rfl ?_
          refine by_getf cn_237 fl_12_100 (by first | exact rfl | assumption) (by decide) ?_
          refine by_iload rfl ?_
          simp (disch := first | exact Nat.ne_of_beq_eq_false rfl | exact rfl | omega) only [nI_add, xa_sub, xa_mul, pk_div, nm_mod, xa_shr, xa_and7, xa_and1, xa_and255, xa_by_and, nI_m1, Nat.add_sub_cancel, Nat.reducePow, Nat.zero_add, Nat.add_zero, Nat.reduceAdd, Nat.reduceMul, Nat.reduceSub, xf_same, xq_ff, xq_fo, xf_1, xf_2, xs_1, xs_2, xs_same, xq_so, xj_1, xj_2, xj_same, xq_jo, xq_sa1, xq_same, xq_other, upd_s, oI_n, oI_s, xf_102_17 s1, xf_102_18 s1, xf_102_44 s1, xf_102_41 s1, xf_102_42 s1, xf_102_43 s1, e1, e2, y5, w0', y3, y1, y2, y6]
          first | refine by_iald (by first | exact rfl | assumption | exact ps_1 hpp | exact ps_2 hpp | exact ps_3 hpp | exact ps_4 hpp | exact ps_5 hpp | exact ps_6 hpp | exact ps_7 hpp | exact ps_8 hpp | exact ps_9 hpp | exact ps_10 hpp | exact ps_11 hpp | exact ps_15 hpp | exact ps_16 hpp | exact ps_17 hpp | exact ps_18 hpp | exact ps_19 hpp | exact ps_21 hpp | exact ps_22 hpp | exact ps_23 hpp | exact ps_24 hpp) ⟨by omega, by omega⟩ ?_ | refine by_tald rfl rfl ⟨by omega, by omega⟩ ?_
          refine by_if_ne 52 rfl ?_
          simp (disch := first | exact Nat.ne_of_beq_eq_false rfl | exact rfl | omega) only [nI_add, xa_sub, xa_mul, pk_div, nm_mod, xa_shr, xa_and7, xa_and1, xa_and255, xa_by_and, nI_m1, Nat.add_sub_cancel, Nat.reducePow, Nat.zero_add, Nat.add_zero, Nat.reduceAdd, Nat.reduceMul, Nat.reduceSub, xf_same, xq_ff, xq_fo, xf_1, xf_2, xs_1, xs_2, xs_same, xq_so, xj_1, xj_2, xj_same, xq_jo, xq_sa1, xq_same, xq_other, upd_s, oI_n, oI_s, xv_0, xv_1, xv_2, xv_3, xm_p1, xm_p2, xq_fp, xq_fn, List.filter_nil, Nat.reduceBEq, Bool.not_true, Bool.not_false, Bool.and_true, Bool.and_false, Bool.false_and, Bool.true_and, if_true, if_false, Bool.false_eq_true, reduceIte, xc_i, xc_j, xc_r, xc_n, List.nil_append, List.cons_append, Option.toList_some, Option.toList_none, nI_ltJ, nI_leJ, nI_eqJ, nI_ltz, nI_gez, nI_gtz, nI_lez, nI_eqz, m1_ltz, m1_gez, true_imp_iff, false_imp_iff, true_and, and_true, ne_eq, not_false_eq_true, not_true_eq_false, Nat.reduceEqDiff, Nat.reduceLT, Nat.reduceLeDiff, xf_102_17 s1, xf_102_18 s1, xf_102_44 s1, xf_102_41 s1, xf_102_42 s1, xf_102_43 s1, e1, e2, y5, w0', y3, y1, y2, y6]
          with_reducible refine xm_go_blk b_X12_isValue_52 k_X12_isValue_52 ?_
          refine by_aload_n rfl ?_
          refine by_getf cn_237 fl_12_91 (by first | exact rfl | assumption) (by decide) ?_
          refine by_iload rfl ?_
          simp (disch := first | exact Nat.ne_of_beq_eq_false rfl | exact rfl | omega) only [nI_add, xa_sub, xa_mul, pk_div, nm_mod, xa_shr, xa_and7, xa_and1, xa_and255, xa_by_and, nI_m1, Nat.add_sub_cancel, Nat.reducePow, Nat.zero_add, Nat.add_zero, Nat.reduceAdd, Nat.reduceMul, Nat.reduceSub, xf_same, xq_ff, xq_fo, xf_1, xf_2, xs_1, xs_2, xs_same, xq_so, xj_1, xj_2, xj_same, xq_jo, xq_sa1, xq_same, xq_other, upd_s, oI_n, oI_s, xf_102_17 s1, xf_102_18 s1, xf_102_44 s1, xf_102_41 s1, xf_102_42 s1, xf_102_43 s1, e1, e2, y5, w0', y3, y1, y2, y6]
          first | refine by_iald (by first | exact rfl | assumption | exact ps_1 hpp | exact ps_2 hpp | exact ps_3 hpp | exact ps_4 hpp | exact ps_5 hpp | exact ps_6 hpp | exact ps_7 hpp | exact ps_8 hpp | exact ps_9 hpp | exact ps_10 hpp | exact ps_11 hpp | exact ps_15 hpp | exact ps_16 hpp | exact ps_17 hpp | exact ps_18 hpp | exact ps_19 hpp | exact ps_21 hpp | exact ps_22 hpp | exact ps_23 hpp | exact ps_24 hpp) ⟨by omega, by omega⟩ ?_ | refine by_tald rfl rfl ⟨by omega, by omega⟩ ?_
          refine by_iconst ci_3 ?_
          refine by_ic_ne 128 rfl ?_
          simp (disch := first | exact Nat.ne_of_beq_eq_false rfl | exact rfl | omega) only [nI_add, xa_sub, xa_mul, pk_div, nm_mod, xa_shr, xa_and7, xa_and1, xa_and255, xa_by_and, nI_m1, Nat.add_sub_cancel, Nat.reducePow, Nat.zero_add, Nat.add_zero, Nat.reduceAdd, Nat.reduceMul, Nat.reduceSub, xf_same, xq_ff, xq_fo, xf_1, xf_2, xs_1, xs_2, xs_same, xq_so, xj_1, xj_2, xj_same, xq_jo, xq_sa1, xq_same, xq_other, upd_s, oI_n, oI_s, xv_0, xv_1, xv_2, xv_3, xm_p1, xm_p2, xq_fp, xq_fn, List.filter_nil, Nat.reduceBEq, Bool.not_true, Bool.not_false, Bool.and_true, Bool.and_false, Bool.false_and, Bool.true_and, if_true, if_false, Bool.false_eq_true, reduceIte, xc_i, xc_j, xc_r, xc_n, List.nil_append, List.cons_append, Option.toList_some, Option.toList_none, nI_ltJ, nI_leJ, nI_eqJ, nI_ltz, nI_gez, nI_gtz, nI_lez, nI_eqz, m1_ltz, m1_gez, true_imp_iff, false_imp_iff, true_and, and_true, ne_eq, not_false_eq_true, not_true_eq_false, Nat.reduceEqDiff, Nat.reduceLT, Nat.reduceLeDiff, xf_102_17 s1, xf_102_18 s1, xf_102_44 s1, xf_102_41 s1, xf_102_42 s1, xf_102_43 s1, e1, e2, y5, w0', y3, y1, y2, y6]
          with_reducible refine xm_go_blk b_X12_isValue_63 k_X12_isValue_63 ?_
          refine by_aload_n rfl ?_
          refine by_getf cn_237 fl_12_48 (by first | exact rfl | assumption) (by decide) ?_
          refine by_iload_n rfl ?_
          refine by_aload_n rfl ?_
          refine by_getf cn_237 fl_12_97 (by first | exact rfl | assumption) (by decide) ?_
          refine by_iload rfl ?_
          simp (disch := first | exact Nat.ne_of_beq_eq_false rfl | exact rfl | omega) only [nI_add, xa_sub, xa_mul, pk_div, nm_mod, xa_shr, xa_and7, xa_and1, xa_and255, xa_by_and, nI_m1, Nat.add_sub_cancel, Nat.reducePow, Nat.zero_add, Nat.add_zero, Nat.reduceAdd, Nat.reduceMul, Nat.reduceSub, xf_same, xq_ff, xq_fo, xf_1, xf_2, xs_1, xs_2, xs_same, xq_so, xj_1, xj_2, xj_same, xq_jo, xq_sa1, xq_same, xq_other, upd_s, oI_n, oI_s, xf_102_17 s1, xf_102_18 s1, xf_102_44 s1, xf_102_41 s1, xf_102_42 s1, xf_102_43 s1, e1, e2, y5, w0', y3, y1, y2, y6]
          first | refine by_iald (by first | exact rfl | assumption | exact ps_1 hpp | exact ps_2 hpp | exact ps_3 hpp | exact ps_4 hpp | exact ps_5 hpp | exact ps_6 hpp | exact ps_7 hpp | exact ps_8 hpp | exact ps_9 hpp | exact ps_10 hpp | exact ps_11 hpp | exact ps_15 hpp | exact ps_16 hpp | exact ps_17 hpp | exact ps_18 hpp | exact ps_19 hpp | exact ps_21 hpp | exact ps_22 hpp | exact ps_23 hpp | exact ps_24 hpp) ⟨by omega, by omega⟩ ?_ | refine by_tald rfl rfl ⟨by omega, by omega⟩ ?_
          refine by_iast (by first | exact rfl | assumption | exact ps_1 hpp | exact ps_2 hpp | exact ps_3 hpp | exact ps_4 hpp | exact ps_5 hpp | exact ps_6 hpp | exact ps_7 hpp | exact ps_8 hpp | exact ps_9 hpp | exact ps_10 hpp | exact ps_11 hpp | exact ps_15 hpp | exact ps_16 hpp | exact ps_17 hpp | exact ps_18 hpp | exact ps_19 hpp | exact ps_21 hpp | exact ps_22 hpp | exact ps_23 hpp | exact ps_24 hpp) ⟨by omega, by omega⟩ ?_
          refine by_aload_n rfl ?_
          refine by_getf cn_237 fl_12_51 (by first | exact rfl | assumption) (by decide) ?_
          refine by_iload_n rfl ?_
          refine by_iload rfl ?_
          refine by_aload_n rfl ?_
          refine by_getf cn_237 fl_12_100 (by first | exact rfl | assumption) (by decide) ?_
          refine by_aload_n rfl ?_
          refine by_getf cn_237 fl_12_94 (by first | exact rfl | assumption) (by decide) ?_
          refine by_iload rfl ?_
          simp (disch := first | exact Nat.ne_of_beq_eq_false rfl | exact rfl | omega) only [nI_add, xa_sub, xa_mul, pk_div, nm_mod, xa_shr, xa_and7, xa_and1, xa_and255, xa_by_and, nI_m1, Nat.add_sub_cancel, Nat.reducePow, Nat.zero_add, Nat.add_zero, Nat.reduceAdd, Nat.reduceMul, Nat.reduceSub, xf_same, xq_ff, xq_fo, xf_1, xf_2, xs_1, xs_2, xs_same, xq_so, xj_1, xj_2, xj_same, xq_jo, xq_sa1, xq_same, xq_other, upd_s, oI_n, oI_s, xf_102_17 s1, xf_102_18 s1, xf_102_44 s1, xf_102_41 s1, xf_102_42 s1, xf_102_43 s1, e1, e2, y5, w0', y3, y1, y2, y6]
          first | refine by_iald (by first | exact rfl | assumption | exact ps_1 hpp | exact ps_2 hpp | exact ps_3 hpp | exact ps_4 hpp | exact ps_5 hpp | exact ps_6 hpp | exact ps_7 hpp | exact ps_8 hpp | exact ps_9 hpp | exact ps_10 hpp | exact ps_11 hpp | exact ps_15 hpp | exact ps_16 hpp | exact ps_17 hpp | exact ps_18 hpp | exact ps_19 hpp | exact ps_21 hpp | exact ps_22 hpp | exact ps_23 hpp | exact ps_24 hpp) ⟨by omega, by omega⟩ ?_ | refine by_tald rfl rfl ⟨by omega, by omega⟩ ?_
          simp (disch := first | exact Nat.ne_of_beq_eq_false rfl | exact rfl | omega) only [nI_add, xa_sub, xa_mul, pk_div, nm_mod, xa_shr, xa_and7, xa_and1, xa_and255, xa_by_and, nI_m1, Nat.add_sub_cancel, Nat.reducePow, Nat.zero_add, Nat.add_zero, Nat.reduceAdd, Nat.reduceMul, Nat.reduceSub, xf_same, xq_ff, xq_fo, xf_1, xf_2, xs_1, xs_2, xs_same, xq_so, xj_1, xj_2, xj_same, xq_jo, xq_sa1, xq_same, xq_other, upd_s, oI_n, oI_s, xf_102_17 s1, xf_102_18 s1, xf_102_44 s1, xf_102_41 s1, xf_102_42 s1, xf_102_43 s1, e1, e2, y5, w0', y3, y1, y2, y6]
          first | refine by_iald (by first | exact rfl | assumption | exact ps_1 hpp | exact ps_2 hpp | exact ps_3 hpp | exact ps_4 hpp | exact ps_5 hpp | exact ps_6 hpp | exact ps_7 hpp | exact ps_8 hpp | exact ps_9 hpp | exact ps_10 hpp | exact ps_11 hpp | exact ps_15 hpp | exact ps_16 hpp | exact ps_17 hpp | exact ps_18 hpp | exact ps_19 hpp | exact ps_21 hpp | exact ps_22 hpp | exact ps_23 hpp | exact ps_24 hpp) ⟨by omega, by omega⟩ ?_ | refine by_tald rfl rfl ⟨by omega, by omega⟩ ?_
          refine by_iadd ?_
          refine by_iast (by first | exact rfl | assumption | exact ps_1 hpp | exact ps_2 hpp | exact ps_3 hpp | exact ps_4 hpp | exact ps_5 hpp | exact ps_6 hpp | exact ps_7 hpp | exact ps_8 hpp | exact ps_9 hpp | exact ps_10 hpp | exact ps_11 hpp | exact ps_15 hpp | exact ps_16 hpp | exact ps_17 hpp | exact ps_18 hpp | exact ps_19 hpp | exact ps_21 hpp | exact ps_22 hpp | exact ps_23 hpp | exact ps_24 hpp) ⟨by omega, by omega⟩ ?_
          refine by_aload_n rfl ?_
          refine by_getf cn_237 fl_12_48 (by first | exact rfl | assumption) (by decide) ?_
          refine by_iload_n rfl ?_
          refine by_iconst ci_1 ?_
          refine by_iadd ?_
          refine by_aload_n rfl ?_
          refine by_getf cn_237 fl_12_94 (by first | exact rfl | assumption) (by decide) ?_
          refine by_iload rfl ?_
          simp (disch := first | exact Nat.ne_of_beq_eq_false rfl | exact rfl | omega) only [nI_add, xa_sub, xa_mul, pk_div, nm_mod, xa_shr, xa_and7, xa_and1, xa_and255, xa_by_and, nI_m1, Nat.add_sub_cancel, Nat.reducePow, Nat.zero_add, Nat.add_zero, Nat.reduceAdd, Nat.reduceMul, Nat.reduceSub, xf_same, xq_ff, xq_fo, xf_1, xf_2, xs_1, xs_2, xs_same, xq_so, xj_1, xj_2, xj_same, xq_jo, xq_sa1, xq_same, xq_other, upd_s, oI_n, oI_s, xf_102_17 s1, xf_102_18 s1, xf_102_44 s1, xf_102_41 s1, xf_102_42 s1, xf_102_43 s1, e1, e2, y5, w0', y3, y1, y2, y6]
          first | refine by_iald (by first | exact rfl | assumption | exact ps_1 hpp | exact ps_2 hpp | exact ps_3 hpp | exact ps_4 hpp | exact ps_5 hpp | exact ps_6 hpp | exact ps_7 hpp | exact ps_8 hpp | exact ps_9 hpp | exact ps_10 hpp | exact ps_11 hpp | exact ps_15 hpp | exact ps_16 hpp | exact ps_17 hpp | exact ps_18 hpp | exact ps_19 hpp | exact ps_21 hpp | exact ps_22 hpp | exact ps_23 hpp | exact ps_24 hpp) ⟨by omega, by omega⟩ ?_ | refine by_tald rfl rfl ⟨by omega, by omega⟩ ?_
          refine by_iast (by first | exact rfl | assumption | exact ps_1 hpp | exact ps_2 hpp | exact ps_3 hpp | exact ps_4 hpp | exact ps_5 hpp | exact ps_6 hpp | exact ps_7 hpp | exact ps_8 hpp | exact ps_9 hpp | exact ps_10 hpp | exact ps_11 hpp | exact ps_15 hpp | exact ps_16 hpp | exact ps_17 hpp | exact ps_18 hpp | exact ps_19 hpp | exact ps_21 hpp | exact ps_22 hpp | exact ps_23 hpp | exact ps_24 hpp) ⟨by omega, by omega⟩ ?_
          refine by_aload_n rfl ?_
          refine by_getf cn_237 fl_12_51 (by first | exact rfl | assumption) (by decide) ?_
          refine by_iload_n rfl ?_
          refine by_iconst ci_1 ?_
          refine by_iadd ?_
          refine by_iload rfl ?_
          simp (disch := first | exact Nat.ne_of_beq_eq_false rfl | exact rfl | omega) only [nI_add, xa_sub, xa_mul, pk_div, nm_mod, xa_shr, xa_and7, xa_and1, xa_and255, xa_by_and, nI_m1, Nat.add_sub_cancel, Nat.reducePow, Nat.zero_add, Nat.add_zero, Nat.reduceAdd, Nat.reduceMul, Nat.reduceSub, xf_same, xq_ff, xq_fo, xf_1, xf_2, xs_1, xs_2, xs_same, xq_so, xj_1, xj_2, xj_same, xq_jo, xq_sa1, xq_same, xq_other, upd_s, oI_n, oI_s, xf_102_17 s1, xf_102_18 s1, xf_102_44 s1, xf_102_41 s1, xf_102_42 s1, xf_102_43 s1, e1, e2, y5, w0', y3, y1, y2, y6]
          refine by_iast (by first | exact rfl | assumption | exact ps_1 hpp | exact ps_2 hpp | exact ps_3 hpp | exact ps_4 hpp | exact ps_5 hpp | exact ps_6 hpp | exact ps_7 hpp | exact ps_8 hpp | exact ps_9 hpp | exact ps_10 hpp | exact ps_11 hpp | exact ps_15 hpp | exact ps_16 hpp | exact ps_17 hpp | exact ps_18 hpp | exact ps_19 hpp | exact ps_21 hpp | exact ps_22 hpp | exact ps_23 hpp | exact ps_24 hpp) ⟨by omega, by omega⟩ ?_
          refine by_iinc (by rw [ml_237]; decide) rfl ci_2 ?_
          refine by_goto 227 rfl ?_
          simp (disch := first | exact Nat.ne_of_beq_eq_false rfl | exact rfl | omega) only [nI_add, xa_sub, xa_mul, pk_div, nm_mod, xa_shr, xa_and7, xa_and1, xa_and255, xa_by_and, nI_m1, Nat.add_sub_cancel, Nat.reducePow, Nat.zero_add, Nat.add_zero, Nat.reduceAdd, Nat.reduceMul, Nat.reduceSub, xf_same, xq_ff, xq_fo, xf_1, xf_2, xs_1, xs_2, xs_same, xq_so, xj_1, xj_2, xj_same, xq_jo, xq_sa1, xq_same, xq_other, upd_s, oI_n, oI_s, xv_0, xv_1, xv_2, xv_3, xm_p1, xm_p2, xq_fp, xq_fn, List.filter_nil, Nat.reduceBEq, Bool.not_true, Bool.not_false, Bool.and_true, Bool.and_false, Bool.false_and, Bool.true_and, if_true, if_false, Bool.false_eq_true, reduceIte, xc_i, xc_j, xc_r, xc_n, List.nil_append, List.cons_append, Option.toList_some, Option.toList_none, xf_102_17 s1, xf_102_18 s1, xf_102_44 s1, xf_102_41 s1, xf_102_42 s1, xf_102_43 s1, e1, e2, y5, w0', y3, y1, y2, y6]
          with_reducible refine xm_go_blk b_X12_isValue_227 k_X12_isValue_227 ?_
          refine by_goto 16 rfl ?_
          exact xm_go_wk (by simp [Value.category]) hg
        · rcases List.mem_cons.mp hy with rfl | hy
          · exact ⟨m5, by show L i < hi; omega, by show ty_w (tr (L i)) ≤ 2048; omega, b4, by show p + ty_w (tr (L i)) ≤ E; omega⟩
          · rcases List.mem_cons.mp hy with rfl | hy
            · exact ⟨m6, by show R i < hi; omega, by show ty_w (tr (R i)) ≤ 2048; omega, by show at0 ≤ p + ty_w (tr (L i)); omega, by show p + ty_w (tr (L i)) + ty_w (tr (R i)) ≤ E; omega⟩
            · exact rest y hy
theorem sp_isValue {t at1 : Nat} (hF : XF h) (hT : vT h lo hi tr K L R) (ht0 : lo ≤ t) (ht : t < hi) (hw : ty_w (tr t) ≤ 2048) (hE : at1 + ty_w (tr t) ≤ 824000) (hv : ∀ i, at1 ≤ i → i < at1 + ty_w (tr t) → h.1 145 i = nI (v i) ∧ v i < 2)
    (h1 : ∀ h', ty_val v (tr t) at1 = true → Fr [115, 116] [] h h' → post (some (.int (nI 1))) h') (h0 : ∀ h', ty_val v (tr t) at1 = false → Fr [115, 116] [] h h' → post (some (.int (nI 0))) h') : xm_T (XE sc) (d + 1) 237 [.ref 102, .int (nI t), .int (nI at1)] h post := by
  have hh := hT.1
  refine xq_in rfl ?_
  simp only [xq_a0, xq_aI, xq_aJ, xq_aR, Nat.reduceAdd]
  with_reducible refine xm_go_blk b_X12_isValue_0 k_X12_isValue_0 ?_
  refine by_iconst ci_1 ?_
  refine by_istore_n (by rw [ml_237]; decide) ?_
  refine by_aload_n rfl ?_
  refine by_getf cn_237 fl_12_48 (by first | exact rfl | assumption) (by decide) ?_
  refine by_iconst ci_0 ?_
  refine by_iload_n rfl ?_
  simp (disch := first | exact Nat.ne_of_beq_eq_false rfl | exact rfl | omega) only [nI_add, xa_sub, xa_mul, pk_div, nm_mod, xa_shr, xa_and7, xa_and1, xa_and255, xa_by_and, nI_m1, Nat.add_sub_cancel, Nat.reducePow, Nat.zero_add, Nat.add_zero, Nat.reduceAdd, Nat.reduceMul, Nat.reduceSub, xf_same, xq_ff, xq_fo, xf_1, xf_2, xs_1, xs_2, xs_same, xq_so, xj_1, xj_2, xj_same, xq_jo, xq_sa1, xq_same, xq_other, upd_s, oI_n, oI_s, xf_102_17 hF, xf_102_18 hF]
  refine by_iast (by first | exact rfl | assumption | exact ps_1 hpp | exact ps_2 hpp | exact ps_3 hpp | exact ps_4 hpp | exact ps_5 hpp | exact ps_6 hpp | exact ps_7 hpp | exact ps_8 hpp | exact ps_9 hpp | exact ps_10 hpp | exact ps_11 hpp | exact ps_15 hpp | exact ps_16 hpp | exact ps_17 hpp | exact ps_18 hpp | exact ps_19 hpp | exact ps_21 hpp | exact ps_22 hpp | exact ps_23 hpp | exact ps_24 hpp) ⟨by omega, by omega⟩ ?_
  refine by_aload_n rfl ?_
  refine by_getf cn_237 fl_12_51 (by first | exact rfl | assumption) (by decide) ?_
  refine by_iconst ci_0 ?_
  refine by_iload_n rfl ?_
  simp (disch := first | exact Nat.ne_of_beq_eq_false rfl | exact rfl | omega) only [nI_add, xa_sub, xa_mul, pk_div, nm_mod, xa_shr, xa_and7, xa_and1, xa_and255, xa_by_and, nI_m1, Nat.add_sub_cancel, Nat.reducePow, Nat.zero_add, Nat.add_zero, Nat.reduceAdd, Nat.reduceMul, Nat.reduceSub, xf_same, xq_ff, xq_fo, xf_1, xf_2, xs_1, xs_2, xs_same, xq_so, xj_1, xj_2, xj_same, xq_jo, xq_sa1, xq_same, xq_other, upd_s, oI_n, oI_s, xf_102_17 hF, xf_102_18 hF]
  refine by_iast (by first | exact rfl | assumption | exact ps_1 hpp | exact ps_2 hpp | exact ps_3 hpp | exact ps_4 hpp | exact ps_5 hpp | exact ps_6 hpp | exact ps_7 hpp | exact ps_8 hpp | exact ps_9 hpp | exact ps_10 hpp | exact ps_11 hpp | exact ps_15 hpp | exact ps_16 hpp | exact ps_17 hpp | exact ps_18 hpp | exact ps_19 hpp | exact ps_21 hpp | exact ps_22 hpp | exact ps_23 hpp | exact ps_24 hpp) ⟨by omega, by omega⟩ ?_
  refine by_nil ?_
  simp (disch := first | exact Nat.ne_of_beq_eq_false rfl | exact rfl | omega) only [nI_add, xa_sub, xa_mul, pk_div, nm_mod, xa_shr, xa_and7, xa_and1, xa_and255, xa_by_and, nI_m1, Nat.add_sub_cancel, Nat.reducePow, Nat.zero_add, Nat.add_zero, Nat.reduceAdd, Nat.reduceMul, Nat.reduceSub, xf_same, xq_ff, xq_fo, xf_1, xf_2, xs_1, xs_2, xs_same, xq_so, xj_1, xj_2, xj_same, xq_jo, xq_sa1, xq_same, xq_other, upd_s, oI_n, oI_s, xv_0, xv_1, xv_2, xv_3, xm_p1, xm_p2, xq_fp, xq_fn, List.filter_nil, Nat.reduceBEq, Bool.not_true, Bool.not_false, Bool.and_true, Bool.and_false, Bool.false_and, Bool.true_and, if_true, if_false, Bool.false_eq_true, reduceIte, xc_i, xc_j, xc_r, xc_n, List.nil_append, List.cons_append, Option.toList_some, Option.toList_none, xf_102_17 hF, xf_102_18 hF]
  have f1 : Fr [115, 116] [] h (xm_si (xm_si h 115 0 (nI t)) 116 0 (nI at1)) := Fr_si (Fr_si Fr_rf (by simp)) (by simp)
  have hg := iv_16 (sc := sc) (d := d) (E := at1 + ty_w (tr t)) (at0 := at1) (post := post) hT (by omega) hE hv h1 h0 (szL tr [(t, at1)]) [(t, at1)] (xm_si (xm_si h 115 0 (nI t)) 116 0 (nI at1)) (Nat.le_refl _) ⟨Fr_XF hF f1 (by decide +kernel), f1, ⟨by show (xm_si (xm_si h 115 0 (nI t)) 116 0 (nI at1)).1 115 0 = _; rw [xq_so (by omega), xs_same, upd_s], trivial⟩, ⟨by show (xm_si (xm_si h 115 0 (nI t)) 116 0 (nI at1)).1 116 0 = _; rw [xs_same, upd_s], trivial⟩, ⟨by show 0 + 1 + t ≤ hi; omega, trivial⟩, fun y hy => by rw [List.mem_singleton.mp hy]; exact ⟨ht0, ht, hw, Nat.le_refl _, Nat.le_refl _⟩⟩ (by simp only [vaL, Bool.and_true])
  unfold ivL at hg
  exact xm_go_wk (by simp [Value.category]) hg
end IV
