/-! ===== Finder: unify whole ===== -/
/-- a pair was taken: its ends' roots are known -/
def uniP (h h' : xm_H) (c : Nat) (k l r : Nat → Nat) (es : List (Nat × Nat)) (rt : Nat → Nat) (x y : Nat) (pd : List (Nat × Nat)) : Prop :=
  Fr [19, 21] [(15, 7)] h h' ∧ h'.2.2 15 7 = .int (nI (2 * pd.length)) ∧ pdA h' 21 pd ∧ (∀ q ∈ pd, q.1 < c ∧ q.2 < c) ∧ (x < c ∧ y < c) ∧ (∃ u dd m, upA h' 19 c u ∧ uf_ok c u rt dd m ∧ m + nr c rt = c) ∧ pd.length + 1 + nr c rt ≤ 14031 ∧ ty_JS c k l r rt es ((x, y) :: pd) ∧ ty_JK c k l r rt es ((x, y) :: pd)
theorem uniP_same {h h' : xm_H} {c : Nat} {k l r : Nat → Nat} {es pd : List (Nat × Nat)} {rt : Nat → Nat} {x y : Nat} (hP : uniP h h' c k l r es rt x y pd) (he : rt x = rt y) : uniI h h' c k l r es rt pd := by
  obtain ⟨p1, p2, p3, p4, p5, p6, p7, p8, p9⟩ := hP
  exact ⟨p1, p2, p3, p4, p6, by omega, ty_JS_same p8, ty_JK_same p5.1 p5.2 he p9⟩
/-- roots a and b of the pair: a goes to b -/
theorem uniP_link {h h' : xm_H} {c : Nat} {k l r : Nat → Nat} {es pd pd' : List (Nat × Nat)} {rt : Nat → Nat} {x y a b : Nat} (hA : fnA h c k l r) (hP : uniP h h' c k l r es rt x y pd) (hab : a ≠ b) (hxy : (rt x = a ∧ rt y = b) ∨ (rt x = b ∧ rt y = a)) (hk : k a = 0 ∨ k a = k b)
    (hpS : ∀ V : Nat → Ty, ty_pd pd V → (k a = k b → 2 ≤ k a → V (l a) = V (l b) ∧ V (r a) = V (r b)) → ty_pd pd' V) (hpK : ∀ f : Nat → Nat, ty_pd pd' f → ty_pd pd f ∧ (1 ≤ k a → 2 ≤ k a → f (l a) = f (l b) ∧ f (r a) = f (r b))) :
    (∃ u dd m, upA (xm_si h' 19 a (nI b)) 19 c u ∧ uf_ok c u (ty_link rt a b) dd m ∧ m + nr c (ty_link rt a b) = c) ∧ nr c (ty_link rt a b) + 1 = nr c rt ∧ ty_JS c k l r (ty_link rt a b) es pd' ∧ ty_JK c k l r (ty_link rt a b) es pd' := by
  obtain ⟨p1, p2, p3, p4, p5, ⟨u, dd, m, u1, u2, u3⟩, p7, p8, p9⟩ := hP
  have hG := uf_G (k := k) (l := l) (r := r) u2 (fun t ht => ⟨(hA t ht).2.1, fun e => ((hA t ht).2.2 e).2.2⟩)
  have hB : a < c ∧ b < c ∧ rt a = a ∧ rt b = b := by
    have h1 := hG.1 x p5.1
    have h2 := hG.1 y p5.2
    rcases hxy with ⟨e1, e2⟩ | ⟨e1, e2⟩ <;> rw [e1] at h1 <;> rw [e2] at h2
    · exact ⟨h1.1, h2.1, h1.2, h2.2⟩
    · exact ⟨h2.1, h1.1, h2.2, h1.2⟩
  obtain ⟨ha, hb, haa, hbb⟩ := hB
  have hn := nr_link ha haa hbb hab
  obtain ⟨j1, j2⟩ := ty_J_link hG p5.1 p5.2 hxy hab hk hpS hpK p8 p9
  exact ⟨⟨_, _, m + 1, upA_si u1, uf_link u2 ha hb haa hbb hab, by omega⟩, hn, j1, j2⟩
section UNI
variable {sc : xm_Sc} {d c turn x y : Nat} {k l r rt : Nat → Nat} {es pd : List (Nat × Nat)} {h h' : xm_H} {post : xm_Po}
/-- on at the loop's head -/
def uniK (sc : xm_Sc) (d c turn n : Nat) (k l r : Nat → Nat) (es : List (Nat × Nat)) (h : xm_H) (post : xm_Po) : Prop := ∀ rt' pd' h2, uniI h h2 c k l r es rt' pd' → 2 * nr c rt' + pd'.length < n → xm_go (XE sc) (xm_T (XE sc) (d + 1)) 51 post 13 [(3, .int (nI (turn + 1))), (0, .ref 15)] [] h2
theorem uni_s198 {n : Nat} (htu : turn < 2000000) (hK : uniK sc d c turn n k l r es h post) {rt' : Nat → Nat} {pd' : List (Nat × Nat)} {h2 : xm_H} (hI : uniI h h2 c k l r es rt' pd') (hn : 2 * nr c rt' + pd'.length < n) {a b : Nat} : xm_go (XE sc) (xm_T (XE sc) (d + 1)) 51 post 198 [(5, .int (nI b)), (4, .int (nI a)), (3, .int (nI turn)), (0, .ref 15)] [] h2 := by
  with_reducible refine xm_go_blk b_X1_unify_198 k_X1_unify_198 ?_
  refine by_iinc (by rw [ml_51]; decide) rfl ci_1 ?_
  refine by_goto 13 rfl ?_
  simp (disch := first | exact Nat.ne_of_beq_eq_false rfl | omega) only [nI_add, xa_sub, xa_mul, pk_div, nm_mod, xa_shr, xa_and7, xa_and1, xa_and255, xa_by_and, nI_m1, Nat.add_sub_cancel, Nat.reducePow, Nat.zero_add, Nat.add_zero, Nat.reduceAdd, Nat.reduceMul, Nat.reduceSub, xf_same, xq_ff, xq_fo, xf_1, xf_2, xs_1, xs_2, xs_same, xq_so, xj_1, xj_2, xj_same, xq_jo, xq_sa1, xq_same, xq_other, upd_s, oI_n, oI_s, xv_0, xv_1, xv_2, xv_3, xm_p1, xm_p2, List.filter_cons, List.filter_nil, Nat.reduceBEq, Bool.not_true, Bool.not_false, Bool.and_true, Bool.and_false, Bool.false_and, Bool.true_and, if_true, if_false, Bool.false_eq_true, reduceIte, xc_i, xc_j, xc_r, xc_n, List.nil_append, List.cons_append, Option.toList_some, Option.toList_none]
  exact xm_go_wk (by simp) (hK rt' pd' h2 hI hn)
theorem uni_s66 (hF : XF h') (hA : fnA h c k l r) (hc : c ≤ 14031) (htu : turn < 2000000) (hP : uniP h h' c k l r es rt x y pd) (hK : uniK sc d c turn (2 * nr c rt + (pd.length + 1)) k l r es h post)
    (hFa : ∀ h', Fr [19, 21] [(15, 7)] h h' → (∀ V, ty_vok V → ty_all c k l r V → ty_pd es V → False) → post (some (.int (nI 0))) h') :
    xm_go (XE sc) (xm_T (XE sc) (d + 1)) 51 post 66 [(4, .int (nI (rt x))), (3, .int (nI turn)), (0, .ref 15)] [.int (nI (rt y))] h' := by
  have hP0 := hP
  obtain ⟨p1, p2, p3, p4, p5, ⟨u, dd, m, u1, u2, u3⟩, p7, p8, p9⟩ := hP0
  have hG := uf_G (k := k) (l := l) (r := r) u2 (fun t ht => ⟨(hA t ht).2.1, fun e => ((hA t ht).2.2 e).2.2⟩)
  have hx := hG.1 x p5.1
  have hy := hG.1 y p5.2
  have hA' := fnA_fr hA p1 (by decide) (by decide) (by decide)
  obtain ⟨x1, x2, x3⟩ := hA' (rt x) hx.1
  obtain ⟨y1, y2, y3⟩ := hA' (rt y) hy.1
  by_cases hab : rt x = rt y
  · have e : (rt x = rt y) = True := eq_true hab
    with_reducible refine xm_go_blk b_X1_unify_66 k_X1_unify_66 ?_
    refine by_istore (by rw [ml_51]; decide) ?_
    refine by_iload rfl ?_
    refine by_iload rfl ?_
    refine by_ic_ne 78 rfl ?_
    simp (disch := first | exact Nat.ne_of_beq_eq_false rfl | omega) only [nI_add, xa_sub, xa_mul, pk_div, nm_mod, xa_shr, xa_and7, xa_and1, xa_and255, xa_by_and, nI_m1, Nat.add_sub_cancel, Nat.reducePow, Nat.zero_add, Nat.add_zero, Nat.reduceAdd, Nat.reduceMul, Nat.reduceSub, xf_same, xq_ff, xq_fo, xf_1, xf_2, xs_1, xs_2, xs_same, xq_so, xj_1, xj_2, xj_same, xq_jo, xq_sa1, xq_same, xq_other, upd_s, oI_n, oI_s, xv_0, xv_1, xv_2, xv_3, xm_p1, xm_p2, List.filter_cons, List.filter_nil, Nat.reduceBEq, Bool.not_true, Bool.not_false, Bool.and_true, Bool.and_false, Bool.false_and, Bool.true_and, if_true, if_false, Bool.false_eq_true, reduceIte, xc_i, xc_j, xc_r, xc_n, List.nil_append, List.cons_append, Option.toList_some, Option.toList_none, nI_ltJ, nI_leJ, nI_eqJ, nI_ltz, nI_gez, nI_gtz, nI_lez, nI_eqz, m1_ltz, m1_gez, true_imp_iff, false_imp_iff, true_and, and_true, ne_eq, not_false_eq_true, not_true_eq_false, Nat.reduceEqDiff, Nat.reduceLT, Nat.reduceLeDiff, e]
    with_reducible refine xm_go_blk b_X1_unify_75 k_X1_unify_75 ?_
    refine by_goto 198 rfl ?_
    exact uni_s198 htu hK (uniP_same hP hab) (by omega)
  · have e : (rt x = rt y) = False := eq_false hab
    by_cases k0 : k (rt x) = 0
    · have e0 : (k (rt x) + 3) % 4 = 3 := by omega
      rw [e0] at x1
      obtain ⟨q1, q2, q3, q4⟩ := uniP_link (pd' := pd) hA hP hab (Or.inl ⟨rfl, rfl⟩) (Or.inl k0) (fun V hv _ => hv) (fun f hf => ⟨hf, fun z => absurd z (by omega)⟩)
      with_reducible refine xm_go_blk b_X1_unify_66 k_X1_unify_66 ?_
      refine by_istore (by rw [ml_51]; decide) ?_
      refine by_iload rfl ?_
      refine by_iload rfl ?_
      refine by_ic_ne 78 rfl ?_
      simp (disch := first | exact Nat.ne_of_beq_eq_false rfl | omega) only [nI_add, xa_sub, xa_mul, pk_div, nm_mod, xa_shr, xa_and7, xa_and1, xa_and255, xa_by_and, nI_m1, Nat.add_sub_cancel, Nat.reducePow, Nat.zero_add, Nat.add_zero, Nat.reduceAdd, Nat.reduceMul, Nat.reduceSub, xf_same, xq_ff, xq_fo, xf_1, xf_2, xs_1, xs_2, xs_same, xq_so, xj_1, xj_2, xj_same, xq_jo, xq_sa1, xq_same, xq_other, upd_s, oI_n, oI_s, xv_0, xv_1, xv_2, xv_3, xm_p1, xm_p2, List.filter_cons, List.filter_nil, Nat.reduceBEq, Bool.not_true, Bool.not_false, Bool.and_true, Bool.and_false, Bool.false_and, Bool.true_and, if_true, if_false, Bool.false_eq_true, reduceIte, xc_i, xc_j, xc_r, xc_n, List.nil_append, List.cons_append, Option.toList_some, Option.toList_none, nI_ltJ, nI_leJ, nI_eqJ, nI_ltz, nI_gez, nI_gtz, nI_lez, nI_eqz, m1_ltz, m1_gez, true_imp_iff, false_imp_iff, true_and, and_true, ne_eq, not_false_eq_true, not_true_eq_false, Nat.reduceEqDiff, Nat.reduceLT, Nat.reduceLeDiff, e, xf_15_0 hF, x1, xf_15_3 hF]
      with_reducible refine xm_go_blk b_X1_unify_78 k_X1_unify_78 ?_
      refine by_aload_n rfl ?_
      refine by_getf cn_51 fl_1_13 (by first | exact rfl | assumption) (by decide) ?_
      refine by_iload rfl ?_
      simp (disch := first | exact Nat.ne_of_beq_eq_false rfl | omega) only [nI_add, xa_sub, xa_mul, pk_div, nm_mod, xa_shr, xa_and7, xa_and1, xa_and255, xa_by_and, nI_m1, Nat.add_sub_cancel, Nat.reducePow, Nat.zero_add, Nat.add_zero, Nat.reduceAdd, Nat.reduceMul, Nat.reduceSub, xf_same, xq_ff, xq_fo, xf_1, xf_2, xs_1, xs_2, xs_same, xq_so, xj_1, xj_2, xj_same, xq_jo, xq_sa1, xq_same, xq_other, upd_s, oI_n, oI_s, e, xf_15_0 hF, x1, xf_15_3 hF]
      first | refine by_iald (by first | exact rfl | assumption | exact ps_1 hpp | exact ps_2 hpp | exact ps_3 hpp | exact ps_4 hpp | exact ps_5 hpp | exact ps_6 hpp | exact ps_7 hpp | exact ps_8 hpp | exact ps_9 hpp | exact ps_10 hpp | exact ps_11 hpp | exact ps_15 hpp | exact ps_16 hpp | exact ps_17 hpp | exact ps_18 hpp | exact ps_19 hpp | exact ps_21 hpp | exact ps_22 hpp | exact ps_23 hpp | exact ps_24 hpp) ⟨by omega, by omega⟩ ?_ | refine by_tald rfl rfl ⟨by omega, by omega⟩ ?_
      refine by_iconst ci_3 ?_
      refine by_ic_ne 101 rfl ?_
      simp (disch := first | exact Nat.ne_of_beq_eq_false rfl | omega) only [nI_add, xa_sub, xa_mul, pk_div, nm_mod, xa_shr, xa_and7, xa_and1, xa_and255, xa_by_and, nI_m1, Nat.add_sub_cancel, Nat.reducePow, Nat.zero_add, Nat.add_zero, Nat.reduceAdd, Nat.reduceMul, Nat.reduceSub, xf_same, xq_ff, xq_fo, xf_1, xf_2, xs_1, xs_2, xs_same, xq_so, xj_1, xj_2, xj_same, xq_jo, xq_sa1, xq_same, xq_other, upd_s, oI_n, oI_s, xv_0, xv_1, xv_2, xv_3, xm_p1, xm_p2, List.filter_cons, List.filter_nil, Nat.reduceBEq, Bool.not_true, Bool.not_false, Bool.and_true, Bool.and_false, Bool.false_and, Bool.true_and, if_true, if_false, Bool.false_eq_true, reduceIte, xc_i, xc_j, xc_r, xc_n, List.nil_append, List.cons_append, Option.toList_some, Option.toList_none, nI_ltJ, nI_leJ, nI_eqJ, nI_ltz, nI_gez, nI_gtz, nI_lez, nI_eqz, m1_ltz, m1_gez, true_imp_iff, false_imp_iff, true_and, and_true, ne_eq, not_false_eq_true, not_true_eq_false, Nat.reduceEqDiff, Nat.reduceLT, Nat.reduceLeDiff, e, xf_15_0 hF, x1, xf_15_3 hF]
      with_reducible refine xm_go_blk b_X1_unify_89 k_X1_unify_89 ?_
      refine by_aload_n rfl ?_
      refine by_getf cn_51 fl_1_23 (by first | exact rfl | assumption) (by decide) ?_
      refine by_iload rfl ?_
      refine by_iload rfl ?_
      simp (disch := first | exact Nat.ne_of_beq_eq_false rfl | omega) only [nI_add, xa_sub, xa_mul, pk_div, nm_mod, xa_shr, xa_and7, xa_and1, xa_and255, xa_by_and, nI_m1, Nat.add_sub_cancel, Nat.reducePow, Nat.zero_add, Nat.add_zero, Nat.reduceAdd, Nat.reduceMul, Nat.reduceSub, xf_same, xq_ff, xq_fo, xf_1, xf_2, xs_1, xs_2, xs_same, xq_so, xj_1, xj_2, xj_same, xq_jo, xq_sa1, xq_same, xq_other, upd_s, oI_n, oI_s, e, xf_15_0 hF, x1, xf_15_3 hF]
      refine by_iast (by first | exact rfl | assumption | exact ps_1 hpp | exact ps_2 hpp | exact ps_3 hpp | exact ps_4 hpp | exact ps_5 hpp | exact ps_6 hpp | exact ps_7 hpp | exact ps_8 hpp | exact ps_9 hpp | exact ps_10 hpp | exact ps_11 hpp | exact ps_15 hpp | exact ps_16 hpp | exact ps_17 hpp | exact ps_18 hpp | exact ps_19 hpp | exact ps_21 hpp | exact ps_22 hpp | exact ps_23 hpp | exact ps_24 hpp) ⟨by omega, by omega⟩ ?_
      refine by_goto 198 rfl ?_
      have hf := Fr_si (a := 19) (j := rt x) (x := nI (rt y)) (Fr_rf (S := [19]) (T := []) (h := h')) (by simp)
      exact uni_s198 htu hK ⟨Fr_si p1 (by decide), p2, pdA_fr p3 hf (by decide), p4, q1, by omega, q3, q4⟩ (by omega)
    · have e0 : ((k (rt x) + 3) % 4 = 3) = False := eq_false (by omega)
      by_cases k1 : k (rt y) = 0
      · have e1 : (k (rt y) + 3) % 4 = 3 := by omega
        rw [e1] at y1
        obtain ⟨q1, q2, q3, q4⟩ := uniP_link (pd' := pd) hA hP (fun z => hab z.symm) (Or.inr ⟨rfl, rfl⟩) (Or.inl k1) (fun V hv _ => hv) (fun f hf => ⟨hf, fun z => absurd z (by omega)⟩)
        with_reducible refine xm_go_blk b_X1_unify_66 k_X1_unify_66 ?_
        refine by_istore (by rw [ml_51]; decide) ?_
        refine by_iload rfl ?_
        refine by_iload rfl ?_
        refine by_ic_ne 78 rfl ?_
        simp (disch := first | exact Nat.ne_of_beq_eq_false rfl | omega) only [nI_add, xa_sub, xa_mul, pk_div, nm_mod, xa_shr, xa_and7, xa_and1, xa_and255, xa_by_and, nI_m1, Nat.add_sub_cancel, Nat.reducePow, Nat.zero_add, Nat.add_zero, Nat.reduceAdd, Nat.reduceMul, Nat.reduceSub, xf_same, xq_ff, xq_fo, xf_1, xf_2, xs_1, xs_2, xs_same, xq_so, xj_1, xj_2, xj_same, xq_jo, xq_sa1, xq_same, xq_other, upd_s, oI_n, oI_s, xv_0, xv_1, xv_2, xv_3, xm_p1, xm_p2, List.filter_cons, List.filter_nil, Nat.reduceBEq, Bool.not_true, Bool.not_false, Bool.and_true, Bool.and_false, Bool.false_and, Bool.true_and, if_true, if_false, Bool.false_eq_true, reduceIte, xc_i, xc_j, xc_r, xc_n, List.nil_append, List.cons_append, Option.toList_some, Option.toList_none, nI_ltJ, nI_leJ, nI_eqJ, nI_ltz, nI_gez, nI_gtz, nI_lez, nI_eqz, m1_ltz, m1_gez, true_imp_iff, false_imp_iff, true_and, and_true, ne_eq, not_false_eq_true, not_true_eq_false, Nat.reduceEqDiff, Nat.reduceLT, Nat.reduceLeDiff, e, xf_15_0 hF, x1, y1, e0, xf_15_3 hF]
        with_reducible refine xm_go_blk b_X1_unify_78 k_X1_unify_78 ?_
        refine by_aload_n rfl ?_
        refine by_getf cn_51 fl_1_13 (by first | exact rfl | assumption) (by decide) ?_
        refine by_iload rfl ?_
        simp (disch := first | exact Nat.ne_of_beq_eq_false rfl | omega) only [nI_add, xa_sub, xa_mul, pk_div, nm_mod, xa_shr, xa_and7, xa_and1, xa_and255, xa_by_and, nI_m1, Nat.add_sub_cancel, Nat.reducePow, Nat.zero_add, Nat.add_zero, Nat.reduceAdd, Nat.reduceMul, Nat.reduceSub, xf_same, xq_ff, xq_fo, xf_1, xf_2, xs_1, xs_2, xs_same, xq_so, xj_1, xj_2, xj_same, xq_jo, xq_sa1, xq_same, xq_other, upd_s, oI_n, oI_s, e, xf_15_0 hF, x1, y1, e0, xf_15_3 hF]
        first | refine by_iald (by first | exact rfl | assumption | exact ps_1 hpp | exact ps_2 hpp | exact ps_3 hpp | exact ps_4 hpp | exact ps_5 hpp | exact ps_6 hpp | exact ps_7 hpp | exact ps_8 hpp | exact ps_9 hpp | exact ps_10 hpp | exact ps_11 hpp | exact ps_15 hpp | exact ps_16 hpp | exact ps_17 hpp | exact ps_18 hpp | exact ps_19 hpp | exact ps_21 hpp | exact ps_22 hpp | exact ps_23 hpp | exact ps_24 hpp) ⟨by omega, by omega⟩ ?_ | refine by_tald rfl rfl ⟨by omega, by omega⟩ ?_
        refine by_iconst ci_3 ?_
        refine by_ic_ne 101 rfl ?_
        simp (disch := first | exact Nat.ne_of_beq_eq_false rfl | omega) only [nI_add, xa_sub, xa_mul, pk_div, nm_mod, xa_shr, xa_and7, xa_and1, xa_and255, xa_by_and, nI_m1, Nat.add_sub_cancel, Nat.reducePow, Nat.zero_add, Nat.add_zero, Nat.reduceAdd, Nat.reduceMul, Nat.reduceSub, xf_same, xq_ff, xq_fo, xf_1, xf_2, xs_1, xs_2, xs_same, xq_so, xj_1, xj_2, xj_same, xq_jo, xq_sa1, xq_same, xq_other, upd_s, oI_n, oI_s, xv_0, xv_1, xv_2, xv_3, xm_p1, xm_p2, List.filter_cons, List.filter_nil, Nat.reduceBEq, Bool.not_true, Bool.not_false, Bool.and_true, Bool.and_false, Bool.false_and, Bool.true_and, if_true, if_false, Bool.false_eq_true, reduceIte, xc_i, xc_j, xc_r, xc_n, List.nil_append, List.cons_append, Option.toList_some, Option.toList_none, nI_ltJ, nI_leJ, nI_eqJ, nI_ltz, nI_gez, nI_gtz, nI_lez, nI_eqz, m1_ltz, m1_gez, true_imp_iff, false_imp_iff, true_and, and_true, ne_eq, not_false_eq_true, not_true_eq_false, Nat.reduceEqDiff, Nat.reduceLT, Nat.reduceLeDiff, e, xf_15_0 hF, x1, y1, e0, xf_15_3 hF]
        with_reducible refine xm_go_blk b_X1_unify_101 k_X1_unify_101 ?_
        refine by_aload_n rfl ?_
        refine by_getf cn_51 fl_1_13 (by first | exact rfl | assumption) (by decide) ?_
        refine by_iload rfl ?_
        simp (disch := first | exact Nat.ne_of_beq_eq_false rfl | omega) only [nI_add, xa_sub, xa_mul, pk_div, nm_mod, xa_shr, xa_and7, xa_and1, xa_and255, xa_by_and, nI_m1, Nat.add_sub_cancel, Nat.reducePow, Nat.zero_add, Nat.add_zero, Nat.reduceAdd, Nat.reduceMul, Nat.reduceSub, xf_same, xq_ff, xq_fo, xf_1, xf_2, xs_1, xs_2, xs_same, xq_so, xj_1, xj_2, xj_same, xq_jo, xq_sa1, xq_same, xq_other, upd_s, oI_n, oI_s, e, xf_15_0 hF, x1, y1, e0, xf_15_3 hF]
        first | refine by_iald (by first | exact rfl | assumption | exact ps_1 hpp | exact ps_2 hpp | exact ps_3 hpp | exact ps_4 hpp | exact ps_5 hpp | exact ps_6 hpp | exact ps_7 hpp | exact ps_8 hpp | exact ps_9 hpp | exact ps_10 hpp | exact ps_11 hpp | exact ps_15 hpp | exact ps_16 hpp | exact ps_17 hpp | exact ps_18 hpp | exact ps_19 hpp | exact ps_21 hpp | exact ps_22 hpp | exact ps_23 hpp | exact ps_24 hpp) ⟨by omega, by omega⟩ ?_ | refine by_tald rfl rfl ⟨by omega, by omega⟩ ?_
        refine by_iconst ci_3 ?_
        refine by_ic_ne 124 rfl ?_
        simp (disch := first | exact Nat.ne_of_beq_eq_false rfl | omega) only [nI_add, xa_sub, xa_mul, pk_div, nm_mod, xa_shr, xa_and7, xa_and1, xa_and255, xa_by_and, nI_m1, Nat.add_sub_cancel, Nat.reducePow, Nat.zero_add, Nat.add_zero, Nat.reduceAdd, Nat.reduceMul, Nat.reduceSub, xf_same, xq_ff, xq_fo, xf_1, xf_2, xs_1, xs_2, xs_same, xq_so, xj_1, xj_2, xj_same, xq_jo, xq_sa1, xq_same, xq_other, upd_s, oI_n, oI_s, xv_0, xv_1, xv_2, xv_3, xm_p1, xm_p2, List.filter_cons, List.filter_nil, Nat.reduceBEq, Bool.not_true, Bool.not_false, Bool.and_true, Bool.and_false, Bool.false_and, Bool.true_and, if_true, if_false, Bool.false_eq_true, reduceIte, xc_i, xc_j, xc_r, xc_n, List.nil_append, List.cons_append, Option.toList_some, Option.toList_none, nI_ltJ, nI_leJ, nI_eqJ, nI_ltz, nI_gez, nI_gtz, nI_lez, nI_eqz, m1_ltz, m1_gez, true_imp_iff, false_imp_iff, true_and, and_true, ne_eq, not_false_eq_true, not_true_eq_false, Nat.reduceEqDiff, Nat.reduceLT, Nat.reduceLeDiff, e, xf_15_0 hF, x1, y1, e0, xf_15_3 hF]
        with_reducible refine xm_go_blk b_X1_unify_112 k_X1_unify_112 ?_
        refine by_aload_n rfl ?_
        refine by_getf cn_51 fl_1_23 (by first | exact rfl | assumption) (by decide) ?_
        refine by_iload rfl ?_
        refine by_iload rfl ?_
        simp (disch := first | exact Nat.ne_of_beq_eq_false rfl | omega) only [nI_add, xa_sub, xa_mul, pk_div, nm_mod, xa_shr, xa_and7, xa_and1, xa_and255, xa_by_and, nI_m1, Nat.add_sub_cancel, Nat.reducePow, Nat.zero_add, Nat.add_zero, Nat.reduceAdd, Nat.reduceMul, Nat.reduceSub, xf_same, xq_ff, xq_fo, xf_1, xf_2, xs_1, xs_2, xs_same, xq_so, xj_1, xj_2, xj_same, xq_jo, xq_sa1, xq_same, xq_other, upd_s, oI_n, oI_s, e, xf_15_0 hF, x1, y1, e0, xf_15_3 hF]
        refine by_iast (by first | exact rfl | assumption | exact ps_1 hpp | exact ps_2 hpp | exact ps_3 hpp | exact ps_4 hpp | exact ps_5 hpp | exact ps_6 hpp | exact ps_7 hpp | exact ps_8 hpp | exact ps_9 hpp | exact ps_10 hpp | exact ps_11 hpp | exact ps_15 hpp | exact ps_16 hpp | exact ps_17 hpp | exact ps_18 hpp | exact ps_19 hpp | exact ps_21 hpp | exact ps_22 hpp | exact ps_23 hpp | exact ps_24 hpp) ⟨by omega, by omega⟩ ?_
        refine by_goto 198 rfl ?_
        have hf := Fr_si (a := 19) (j := rt y) (x := nI (rt x)) (Fr_rf (S := [19]) (T := []) (h := h')) (by simp)
        exact uni_s198 htu hK ⟨Fr_si p1 (by decide), p2, pdA_fr p3 hf (by decide), p4, q1, by omega, q3, q4⟩ (by omega)
      · have e1 : ((k (rt y) + 3) % 4 = 3) = False := eq_false (by omega)
        by_cases kk : k (rt x) = k (rt y)
        · have e2 : ((k (rt x) + 3) % 4 = (k (rt y) + 3) % 4) = True := eq_true (by omega)
          have hf := Fr_si (a := 19) (j := rt y) (x := nI (rt x)) (Fr_rf (S := [19]) (T := []) (h := h')) (by simp)
          by_cases k2 : k (rt x) = 1
          · have e3 : ((k (rt x) + 3) % 4 = 0) = True := eq_true (by omega)
            obtain ⟨q1, q2, q3, q4⟩ := uniP_link (pd' := pd) hA hP (fun z => hab z.symm) (Or.inr ⟨rfl, rfl⟩) (Or.inr kk.symm) (fun V hv _ => hv) (fun f hf => ⟨hf, fun _ z => absurd z (by omega)⟩)
            with_reducible refine xm_go_blk b_X1_unify_66 k_X1_unify_66 ?_
            refine by_istore (by rw [ml_51]; decide) ?_
            refine by_iload rfl ?_
            refine by_iload rfl ?_
            refine by_ic_ne 78 rfl ?_
            simp (disch := first | exact Nat.ne_of_beq_eq_false rfl | omega) only [nI_add, xa_sub, xa_mul, pk_div, nm_mod, xa_shr, xa_and7, xa_and1, xa_and255, xa_by_and, nI_m1, Nat.add_sub_cancel, Nat.reducePow, Nat.zero_add, Nat.add_zero, Nat.reduceAdd, Nat.reduceMul, Nat.reduceSub, xf_same, xq_ff, xq_fo, xf_1, xf_2, xs_1, xs_2, xs_same, xq_so, xj_1, xj_2, xj_same, xq_jo, xq_sa1, xq_same, xq_other, upd_s, oI_n, oI_s, xv_0, xv_1, xv_2, xv_3, xm_p1, xm_p2, List.filter_cons, List.filter_nil, Nat.reduceBEq, Bool.not_true, Bool.not_false, Bool.and_true, Bool.and_false, Bool.false_and, Bool.true_and, if_true, if_false, Bool.false_eq_true, reduceIte, xc_i, xc_j, xc_r, xc_n, List.nil_append, List.cons_append, Option.toList_some, Option.toList_none, nI_ltJ, nI_leJ, nI_eqJ, nI_ltz, nI_gez, nI_gtz, nI_lez, nI_eqz, m1_ltz, m1_gez, true_imp_iff, false_imp_iff, true_and, and_true, ne_eq, not_false_eq_true, not_true_eq_false, Nat.reduceEqDiff, Nat.reduceLT, Nat.reduceLeDiff, e, xf_15_0 hF, x1, y1, e0, e1, e2, e3, xf_15_3 hF]
            with_reducible refine xm_go_blk b_X1_unify_78 k_X1_unify_78 ?_
            refine by_aload_n rfl ?_
            refine by_getf cn_51 fl_1_13 (by first | exact rfl | assumption) (by decide) ?_
            refine by_iload rfl ?_
            simp (disch := first | exact Nat.ne_of_beq_eq_false rfl | omega) only [nI_add, xa_sub, xa_mul, pk_div, nm_mod, xa_shr, xa_and7, xa_and1, xa_and255, xa_by_and, nI_m1, Nat.add_sub_cancel, Nat.reducePow, Nat.zero_add, Nat.add_zero, Nat.reduceAdd, Nat.reduceMul, Nat.reduceSub, xf_same, xq_ff, xq_fo, xf_1, xf_2, xs_1, xs_2, xs_same, xq_so, xj_1, xj_2, xj_same, xq_jo, xq_sa1, xq_same, xq_other, upd_s, oI_n, oI_s, e, xf_15_0 hF, x1, y1, e0, e1, e2, e3, xf_15_3 hF]
            first | refine by_iald (by first | exact rfl | assumption | exact ps_1 hpp | exact ps_2 hpp | exact ps_3 hpp | exact ps_4 hpp | exact ps_5 hpp | exact ps_6 hpp | exact ps_7 hpp | exact ps_8 hpp | exact ps_9 hpp | exact ps_10 hpp | exact ps_11 hpp | exact ps_15 hpp | exact ps_16 hpp | exact ps_17 hpp | exact ps_18 hpp | exact ps_19 hpp | exact ps_21 hpp | exact ps_22 hpp | exact ps_23 hpp | exact ps_24 hpp) ⟨by omega, by omega⟩ ?_ | refine by_tald rfl rfl ⟨by omega, by omega⟩ ?_
            refine by_iconst ci_3 ?_
            refine by_ic_ne 101 rfl ?_
            simp (disch := first | exact Nat.ne_of_beq_eq_false rfl | omega) only [nI_add, xa_sub, xa_mul, pk_div, nm_mod, xa_shr, xa_and7, xa_and1, xa_and255, xa_by_and, nI_m1, Nat.add_sub_cancel, Nat.reducePow, Nat.zero_add, Nat.add_zero, Nat.reduceAdd, Nat.reduceMul, Nat.reduceSub, xf_same, xq_ff, xq_fo, xf_1, xf_2, xs_1, xs_2, xs_same, xq_so, xj_1, xj_2, xj_same, xq_jo, xq_sa1, xq_same, xq_other, upd_s, oI_n, oI_s, xv_0, xv_1, xv_2, xv_3, xm_p1, xm_p2, List.filter_cons, List.filter_nil, Nat.reduceBEq, Bool.not_true, Bool.not_false, Bool.and_true, Bool.and_false, Bool.false_and, Bool.true_and, if_true, if_false, Bool.false_eq_true, reduceIte, xc_i, xc_j, xc_r, xc_n, List.nil_append, List.cons_append, Option.toList_some, Option.toList_none, nI_ltJ, nI_leJ, nI_eqJ, nI_ltz, nI_gez, nI_gtz, nI_lez, nI_eqz, m1_ltz, m1_gez, true_imp_iff, false_imp_iff, true_and, and_true, ne_eq, not_false_eq_true, not_true_eq_false, Nat.reduceEqDiff, Nat.reduceLT, Nat.reduceLeDiff, e, xf_15_0 hF, x1, y1, e0, e1, e2, e3, xf_15_3 hF]
            with_reducible refine xm_go_blk b_X1_unify_101 k_X1_unify_101 ?_
            refine by_aload_n rfl ?_
            refine by_getf cn_51 fl_1_13 (by first | exact rfl | assumption) (by decide) ?_
            refine by_iload rfl ?_
            simp (disch := first | exact Nat.ne_of_beq_eq_false rfl | omega) only [nI_add, xa_sub, xa_mul, pk_div, nm_mod, xa_shr, xa_and7, xa_and1, xa_and255, xa_by_and, nI_m1, Nat.add_sub_cancel, Nat.reducePow, Nat.zero_add, Nat.add_zero, Nat.reduceAdd, Nat.reduceMul, Nat.reduceSub, xf_same, xq_ff, xq_fo, xf_1, xf_2, xs_1, xs_2, xs_same, xq_so, xj_1, xj_2, xj_same, xq_jo, xq_sa1, xq_same, xq_other, upd_s, oI_n, oI_s, e, xf_15_0 hF, x1, y1, e0, e1, e2, e3, xf_15_3 hF]
            first | refine by_iald (by first | exact rfl | assumption | exact ps_1 hpp | exact ps_2 hpp | exact ps_3 hpp | exact ps_4 hpp | exact ps_5 hpp | exact ps_6 hpp | exact ps_7 hpp | exact ps_8 hpp | exact ps_9 hpp | exact ps_10 hpp | exact ps_11 hpp | exact ps_15 hpp | exact ps_16 hpp | exact ps_17 hpp | exact ps_18 hpp | exact ps_19 hpp | exact ps_21 hpp | exact ps_22 hpp | exact ps_23 hpp | exact ps_24 hpp) ⟨by omega, by omega⟩ ?_ | refine by_tald rfl rfl ⟨by omega, by omega⟩ ?_
            refine by_iconst ci_3 ?_
            refine by_ic_ne 124 rfl ?_
            simp (disch := first | exact Nat.ne_of_beq_eq_false rfl | omega) only [nI_add, xa_sub, xa_mul, pk_div, nm_mod, xa_shr, xa_and7, xa_and1, xa_and255, xa_by_and, nI_m1, Nat.add_sub_cancel, Nat.reducePow, Nat.zero_add, Nat.add_zero, Nat.reduceAdd, Nat.reduceMul, Nat.reduceSub, xf_same, xq_ff, xq_fo, xf_1, xf_2, xs_1, xs_2, xs_same, xq_so, xj_1, xj_2, xj_same, xq_jo, xq_sa1, xq_same, xq_other, upd_s, oI_n, oI_s, xv_0, xv_1, xv_2, xv_3, xm_p1, xm_p2, List.filter_cons, List.filter_nil, Nat.reduceBEq, Bool.not_true, Bool.not_false, Bool.and_true, Bool.and_false, Bool.false_and, Bool.true_and, if_true, if_false, Bool.false_eq_true, reduceIte, xc_i, xc_j, xc_r, xc_n, List.nil_append, List.cons_append, Option.toList_some, Option.toList_none, nI_ltJ, nI_leJ, nI_eqJ, nI_ltz, nI_gez, nI_gtz, nI_lez, nI_eqz, m1_ltz, m1_gez, true_imp_iff, false_imp_iff, true_and, and_true, ne_eq, not_false_eq_true, not_true_eq_false, Nat.reduceEqDiff, Nat.reduceLT, Nat.reduceLeDiff, e, xf_15_0 hF, x1, y1, e0, e1, e2, e3, xf_15_3 hF]
            with_reducible refine xm_go_blk b_X1_unify_124 k_X1_unify_124 ?_
            refine by_aload_n rfl ?_
            refine by_getf cn_51 fl_1_13 (by first | exact rfl | assumption) (by decide) ?_
            refine by_iload rfl ?_
            simp (disch := first | exact Nat.ne_of_beq_eq_false rfl | omega) only [nI_add, xa_sub, xa_mul, pk_div, nm_mod, xa_shr, xa_and7, xa_and1, xa_and255, xa_by_and, nI_m1, Nat.add_sub_cancel, Nat.reducePow, Nat.zero_add, Nat.add_zero, Nat.reduceAdd, Nat.reduceMul, Nat.reduceSub, xf_same, xq_ff, xq_fo, xf_1, xf_2, xs_1, xs_2, xs_same, xq_so, xj_1, xj_2, xj_same, xq_jo, xq_sa1, xq_same, xq_other, upd_s, oI_n, oI_s, e, xf_15_0 hF, x1, y1, e0, e1, e2, e3, xf_15_3 hF]
            first | refine by_iald (by first | exact rfl | assumption | exact ps_1 hpp | exact ps_2 hpp | exact ps_3 hpp | exact ps_4 hpp | exact ps_5 hpp | exact ps_6 hpp | exact ps_7 hpp | exact ps_8 hpp | exact ps_9 hpp | exact ps_10 hpp | exact ps_11 hpp | exact ps_15 hpp | exact ps_16 hpp | exact ps_17 hpp | exact ps_18 hpp | exact ps_19 hpp | exact ps_21 hpp | exact ps_22 hpp | exact ps_23 hpp | exact ps_24 hpp) ⟨by omega, by omega⟩ ?_ | refine by_tald rfl rfl ⟨by omega, by omega⟩ ?_
            refine by_aload_n rfl ?_
            refine by_getf cn_51 fl_1_13 (by first | exact rfl | assumption) (by decide) ?_
            refine by_iload rfl ?_
            simp (disch := first | exact Nat.ne_of_beq_eq_false rfl | omega) only [nI_add, xa_sub, xa_mul, pk_div, nm_mod, xa_shr, xa_and7, xa_and1, xa_and255, xa_by_and, nI_m1, Nat.add_sub_cancel, Nat.reducePow, Nat.zero_add, Nat.add_zero, Nat.reduceAdd, Nat.reduceMul, Nat.reduceSub, xf_same, xq_ff, xq_fo, xf_1, xf_2, xs_1, xs_2, xs_same, xq_so, xj_1, xj_2, xj_same, xq_jo, xq_sa1, xq_same, xq_other, upd_s, oI_n, oI_s, e, xf_15_0 hF, x1, y1, e0, e1, e2, e3, xf_15_3 hF]
            first | refine by_iald (by first | exact rfl | assumption | exact ps_1 hpp | exact ps_2 hpp | exact ps_3 hpp | exact ps_4 hpp | exact ps_5 hpp | exact ps_6 hpp | exact ps_7 hpp | exact ps_8 hpp | exact ps_9 hpp | exact ps_10 hpp | exact ps_11 hpp | exact ps_15 hpp | exact ps_16 hpp | exact ps_17 hpp | exact ps_18 hpp | exact ps_19 hpp | exact ps_21 hpp | exact ps_22 hpp | exact ps_23 hpp | exact ps_24 hpp) ⟨by omega, by omega⟩ ?_ | refine by_tald rfl rfl ⟨by omega, by omega⟩ ?_
            refine by_ic_eq 143 rfl ?_
            simp (disch := first | exact Nat.ne_of_beq_eq_false rfl | omega) only [nI_add, xa_sub, xa_mul, pk_div, nm_mod, xa_shr, xa_and7, xa_and1, xa_and255, xa_by_and, nI_m1, Nat.add_sub_cancel, Nat.reducePow, Nat.zero_add, Nat.add_zero, Nat.reduceAdd, Nat.reduceMul, Nat.reduceSub, xf_same, xq_ff, xq_fo, xf_1, xf_2, xs_1, xs_2, xs_same, xq_so, xj_1, xj_2, xj_same, xq_jo, xq_sa1, xq_same, xq_other, upd_s, oI_n, oI_s, xv_0, xv_1, xv_2, xv_3, xm_p1, xm_p2, List.filter_cons, List.filter_nil, Nat.reduceBEq, Bool.not_true, Bool.not_false, Bool.and_true, Bool.and_false, Bool.false_and, Bool.true_and, if_true, if_false, Bool.false_eq_true, reduceIte, xc_i, xc_j, xc_r, xc_n, List.nil_append, List.cons_append, Option.toList_some, Option.toList_none, nI_ltJ, nI_leJ, nI_eqJ, nI_ltz, nI_gez, nI_gtz, nI_lez, nI_eqz, m1_ltz, m1_gez, true_imp_iff, false_imp_iff, true_and, and_true, ne_eq, not_false_eq_true, not_true_eq_false, Nat.reduceEqDiff, Nat.reduceLT, Nat.reduceLeDiff, e, xf_15_0 hF, x1, y1, e0, e1, e2, e3, xf_15_3 hF]
            with_reducible refine xm_go_blk b_X1_unify_143 k_X1_unify_143 ?_
            refine by_aload_n rfl ?_
            refine by_getf cn_51 fl_1_23 (by first | exact rfl | assumption) (by decide) ?_
            refine by_iload rfl ?_
            refine by_iload rfl ?_
            simp (disch := first | exact Nat.ne_of_beq_eq_false rfl | omega) only [nI_add, xa_sub, xa_mul, pk_div, nm_mod, xa_shr, xa_and7, xa_and1, xa_and255, xa_by_and, nI_m1, Nat.add_sub_cancel, Nat.reducePow, Nat.zero_add, Nat.add_zero, Nat.reduceAdd, Nat.reduceMul, Nat.reduceSub, xf_same, xq_ff, xq_fo, xf_1, xf_2, xs_1, xs_2, xs_same, xq_so, xj_1, xj_2, xj_same, xq_jo, xq_sa1, xq_same, xq_other, upd_s, oI_n, oI_s, e, xf_15_0 hF, x1, y1, e0, e1, e2, e3, xf_15_3 hF]
            refine by_iast (by first | exact rfl | assumption | exact ps_1 hpp | exact ps_2 hpp | exact ps_3 hpp | exact ps_4 hpp | exact ps_5 hpp | exact ps_6 hpp | exact ps_7 hpp | exact ps_8 hpp | exact ps_9 hpp | exact ps_10 hpp | exact ps_11 hpp | exact ps_15 hpp | exact ps_16 hpp | exact ps_17 hpp | exact ps_18 hpp | exact ps_19 hpp | exact ps_21 hpp | exact ps_22 hpp | exact ps_23 hpp | exact ps_24 hpp) ⟨by omega, by omega⟩ ?_
            refine by_aload_n rfl ?_
            refine by_getf cn_51 fl_1_13 (by first | exact rfl | assumption) (by decide) ?_
            refine by_iload rfl ?_
            simp (disch := first | exact Nat.ne_of_beq_eq_false rfl | omega) only [nI_add, xa_sub, xa_mul, pk_div, nm_mod, xa_shr, xa_and7, xa_and1, xa_and255, xa_by_and, nI_m1, Nat.add_sub_cancel, Nat.reducePow, Nat.zero_add, Nat.add_zero, Nat.reduceAdd, Nat.reduceMul, Nat.reduceSub, xf_same, xq_ff, xq_fo, xf_1, xf_2, xs_1, xs_2, xs_same, xq_so, xj_1, xj_2, xj_same, xq_jo, xq_sa1, xq_same, xq_other, upd_s, oI_n, oI_s, e, xf_15_0 hF, x1, y1, e0, e1, e2, e3, xf_15_3 hF]
            first | refine by_iald (by first | exact rfl | assumption | exact ps_1 hpp | exact ps_2 hpp | exact ps_3 hpp | exact ps_4 hpp | exact ps_5 hpp | exact ps_6 hpp | exact ps_7 hpp | exact ps_8 hpp | exact ps_9 hpp | exact ps_10 hpp | exact ps_11 hpp | exact ps_15 hpp | exact ps_16 hpp | exact ps_17 hpp | exact ps_18 hpp | exact ps_19 hpp | exact ps_21 hpp | exact ps_22 hpp | exact ps_23 hpp | exact ps_24 hpp) ⟨by omega, by omega⟩ ?_ | refine by_tald rfl rfl ⟨by omega, by omega⟩ ?_
            refine by_if_eq 198 rfl ?_
            simp (disch := first | exact Nat.ne_of_beq_eq_false rfl | omega) only [nI_add, xa_sub, xa_mul, pk_div, nm_mod, xa_shr, xa_and7, xa_and1, xa_and255, xa_by_and, nI_m1, Nat.add_sub_cancel, Nat.reducePow, Nat.zero_add, Nat.add_zero, Nat.reduceAdd, Nat.reduceMul, Nat.reduceSub, xf_same, xq_ff, xq_fo, xf_1, xf_2, xs_1, xs_2, xs_same, xq_so, xj_1, xj_2, xj_same, xq_jo, xq_sa1, xq_same, xq_other, upd_s, oI_n, oI_s, xv_0, xv_1, xv_2, xv_3, xm_p1, xm_p2, List.filter_cons, List.filter_nil, Nat.reduceBEq, Bool.not_true, Bool.not_false, Bool.and_true, Bool.and_false, Bool.false_and, Bool.true_and, if_true, if_false, Bool.false_eq_true, reduceIte, xc_i, xc_j, xc_r, xc_n, List.nil_append, List.cons_append, Option.toList_some, Option.toList_none, nI_ltJ, nI_leJ, nI_eqJ, nI_ltz, nI_gez, nI_gtz, nI_lez, nI_eqz, m1_ltz, m1_gez, true_imp_iff, false_imp_iff, true_and, and_true, ne_eq, not_false_eq_true, not_true_eq_false, Nat.reduceEqDiff, Nat.reduceLT, Nat.reduceLeDiff, e, xf_15_0 hF, x1, y1, e0, e1, e2, e3, xf_15_3 hF]
            exact uni_s198 htu hK ⟨Fr_si p1 (by decide), p2, pdA_fr p3 hf (by decide), p4, q1, by omega, q3, q4⟩ (by omega)
          · have e3 : ((k (rt x) + 3) % 4 = 0) = False := eq_false (by omega)
            obtain ⟨x4, x5, x6, x7⟩ := x3 (by omega)
            obtain ⟨y4, y5, y6, y7⟩ := y3 (by omega)
            obtain ⟨q1, q2, q3, q4⟩ := uniP_link (pd' := (l (rt x), l (rt y)) :: (r (rt x), r (rt y)) :: pd) hA hP (fun z => hab z.symm) (Or.inr ⟨rfl, rfl⟩) (Or.inr kk.symm) (fun V hv hq => by
              obtain ⟨g1, g2⟩ := hq kk.symm (by omega)
              exact ty_pd_cons.mpr ⟨g1.symm, ty_pd_cons.mpr ⟨g2.symm, hv⟩⟩) (fun f hf => by
              obtain ⟨g1, g2⟩ := ty_pd_cons.mp hf
              obtain ⟨g3, g4⟩ := ty_pd_cons.mp g2
              exact ⟨g4, fun _ _ => ⟨g1.symm, g3.symm⟩⟩)
            have hF1 : XF (xm_si h' 19 (rt y) (nI (rt x))) := Fr_XF hF hf (by decide +kernel)
            with_reducible refine xm_go_blk b_X1_unify_66 k_X1_unify_66 ?_
            refine by_istore (by rw [ml_51]; decide) ?_
            refine by_iload rfl ?_
            refine by_iload rfl ?_
            refine by_ic_ne 78 rfl ?_
            simp (disch := first | exact Nat.ne_of_beq_eq_false rfl | omega) only [nI_add, xa_sub, xa_mul, pk_div, nm_mod, xa_shr, xa_and7, xa_and1, xa_and255, xa_by_and, nI_m1, Nat.add_sub_cancel, Nat.reducePow, Nat.zero_add, Nat.add_zero, Nat.reduceAdd, Nat.reduceMul, Nat.reduceSub, xf_same, xq_ff, xq_fo, xf_1, xf_2, xs_1, xs_2, xs_same, xq_so, xj_1, xj_2, xj_same, xq_jo, xq_sa1, xq_same, xq_other, upd_s, oI_n, oI_s, xv_0, xv_1, xv_2, xv_3, xm_p1, xm_p2, List.filter_cons, List.filter_nil, Nat.reduceBEq, Bool.not_true, Bool.not_false, Bool.and_true, Bool.and_false, Bool.false_and, Bool.true_and, if_true, if_false, Bool.false_eq_true, reduceIte, xc_i, xc_j, xc_r, xc_n, List.nil_append, List.cons_append, Option.toList_some, Option.toList_none, nI_ltJ, nI_leJ, nI_eqJ, nI_ltz, nI_gez, nI_gtz, nI_lez, nI_eqz, m1_ltz, m1_gez, true_imp_iff, false_imp_iff, true_and, and_true, ne_eq, not_false_eq_true, not_true_eq_false, Nat.reduceEqDiff, Nat.reduceLT, Nat.reduceLeDiff, e, xf_15_0 hF, x1, y1, e0, e1, e2, e3, xf_15_3 hF, xf_15_2 hF, x5, y5]
            with_reducible refine xm_go_blk b_X1_unify_78 k_X1_unify_78 ?_
            refine by_aload_n rfl ?_
            refine by_getf cn_51 fl_1_13 (by first | exact rfl | assumption) (by decide) ?_
            refine by_iload rfl ?_
            simp (disch := first | exact Nat.ne_of_beq_eq_false rfl | omega) only [nI_add, xa_sub, xa_mul, pk_div, nm_mod, xa_shr, xa_and7, xa_and1, xa_and255, xa_by_and, nI_m1, Nat.add_sub_cancel, Nat.reducePow, Nat.zero_add, Nat.add_zero, Nat.reduceAdd, Nat.reduceMul, Nat.reduceSub, xf_same, xq_ff, xq_fo, xf_1, xf_2, xs_1, xs_2, xs_same, xq_so, xj_1, xj_2, xj_same, xq_jo, xq_sa1, xq_same, xq_other, upd_s, oI_n, oI_s, e, xf_15_0 hF, x1, y1, e0, e1, e2, e3, xf_15_3 hF, xf_15_2 hF, x5, y5]
            first | refine by_iald (by first | exact rfl | assumption | exact ps_1 hpp | exact ps_2 hpp | exact ps_3 hpp | exact ps_4 hpp | exact ps_5 hpp | exact ps_6 hpp | exact ps_7 hpp | exact ps_8 hpp | exact ps_9 hpp | exact ps_10 hpp | exact ps_11 hpp | exact ps_15 hpp | exact ps_16 hpp | exact ps_17 hpp | exact ps_18 hpp | exact ps_19 hpp | exact ps_21 hpp | exact ps_22 hpp | exact ps_23 hpp | exact ps_24 hpp) ⟨by omega, by omega⟩ ?_ | refine by_tald rfl rfl ⟨by omega, by omega⟩ ?_
            refine by_iconst ci_3 ?_
            refine by_ic_ne 101 rfl ?_
            simp (disch := first | exact Nat.ne_of_beq_eq_false rfl | omega) only [nI_add, xa_sub, xa_mul, pk_div, nm_mod, xa_shr, xa_and7, xa_and1, xa_and255, xa_by_and, nI_m1, Nat.add_sub_cancel, Nat.reducePow, Nat.zero_add, Nat.add_zero, Nat.reduceAdd, Nat.reduceMul, Nat.reduceSub, xf_same, xq_ff, xq_fo, xf_1, xf_2, xs_1, xs_2, xs_same, xq_so, xj_1, xj_2, xj_same, xq_jo, xq_sa1, xq_same, xq_other, upd_s, oI_n, oI_s, xv_0, xv_1, xv_2, xv_3, xm_p1, xm_p2, List.filter_cons, List.filter_nil, Nat.reduceBEq, Bool.not_true, Bool.not_false, Bool.and_true, Bool.and_false, Bool.false_and, Bool.true_and, if_true, if_false, Bool.false_eq_true, reduceIte, xc_i, xc_j, xc_r, xc_n, List.nil_append, List.cons_append, Option.toList_some, Option.toList_none, nI_ltJ, nI_leJ, nI_eqJ, nI_ltz, nI_gez, nI_gtz, nI_lez, nI_eqz, m1_ltz, m1_gez, true_imp_iff, false_imp_iff, true_and, and_true, ne_eq, not_false_eq_true, not_true_eq_false, Nat.reduceEqDiff, Nat.reduceLT, Nat.reduceLeDiff, e, xf_15_0 hF, x1, y1, e0, e1, e2, e3, xf_15_3 hF, xf_15_2 hF, x5, y5]
            with_reducible refine xm_go_blk b_X1_unify_101 k_X1_unify_101 ?_
            refine by_aload_n rfl ?_
            refine by_getf cn_51 fl_1_13 (by first | exact rfl | assumption) (by decide) ?_
            refine by_iload rfl ?_
            simp (disch := first | exact Nat.ne_of_beq_eq_false rfl | omega) only [nI_add, xa_sub, xa_mul, pk_div, nm_mod, xa_shr, xa_and7, xa_and1, xa_and255, xa_by_and, nI_m1, Nat.add_sub_cancel, Nat.reducePow, Nat.zero_add, Nat.add_zero, Nat.reduceAdd, Nat.reduceMul, Nat.reduceSub, xf_same, xq_ff, xq_fo, xf_1, xf_2, xs_1, xs_2, xs_same, xq_so, xj_1, xj_2, xj_same, xq_jo, xq_sa1, xq_same, xq_other, upd_s, oI_n, oI_s, e, xf_15_0 hF, x1, y1, e0, e1, e2, e3, xf_15_3 hF, xf_15_2 hF, x5, y5]
            first | refine by_iald (by first | exact rfl | assumption | exact ps_1 hpp | exact ps_2 hpp | exact ps_3 hpp | exact ps_4 hpp | exact ps_5 hpp | exact ps_6 hpp | exact ps_7 hpp | exact ps_8 hpp | exact ps_9 hpp | exact ps_10 hpp | exact ps_11 hpp | exact ps_15 hpp | exact ps_16 hpp | exact ps_17 hpp | exact ps_18 hpp | exact ps_19 hpp | exact ps_21 hpp | exact ps_22 hpp | exact ps_23 hpp | exact ps_24 hpp) ⟨by omega, by omega⟩ ?_ | refine by_tald rfl rfl ⟨by omega, by omega⟩ ?_
            refine by_iconst ci_3 ?_
            refine by_ic_ne 124 rfl ?_
            simp (disch := first | exact Nat.ne_of_beq_eq_false rfl | omega) only [nI_add, xa_sub, xa_mul, pk_div, nm_mod, xa_shr, xa_and7, xa_and1, xa_and255, xa_by_and, nI_m1, Nat.add_sub_cancel, Nat.reducePow, Nat.zero_add, Nat.add_zero, Nat.reduceAdd, Nat.reduceMul, Nat.reduceSub, xf_same, xq_ff, xq_fo, xf_1, xf_2, xs_1, xs_2, xs_same, xq_so, xj_1, xj_2, xj_same, xq_jo, xq_sa1, xq_same, xq_other, upd_s, oI_n, oI_s, xv_0, xv_1, xv_2, xv_3, xm_p1, xm_p2, List.filter_cons, List.filter_nil, Nat.reduceBEq, Bool.not_true, Bool.not_false, Bool.and_true, Bool.and_false, Bool.false_and, Bool.true_and, if_true, if_false, Bool.false_eq_true, reduceIte, xc_i, xc_j, xc_r, xc_n, List.nil_append, List.cons_append, Option.toList_some, Option.toList_none, nI_ltJ, nI_leJ, nI_eqJ, nI_ltz, nI_gez, nI_gtz, nI_lez, nI_eqz, m1_ltz, m1_gez, true_imp_iff, false_imp_iff, true_and, and_true, ne_eq, not_false_eq_true, not_true_eq_false, Nat.reduceEqDiff, Nat.reduceLT, Nat.reduceLeDiff, e, xf_15_0 hF, x1, y1, e0, e1, e2, e3, xf_15_3 hF, xf_15_2 hF, x5, y5]
            with_reducible refine xm_go_blk b_X1_unify_124 k_X1_unify_124 ?_
            refine by_aload_n rfl ?_
            refine by_getf cn_51 fl_1_13 (by first | exact rfl | assumption) (by decide) ?_
            refine by_iload rfl ?_
            simp (disch := first | exact Nat.ne_of_beq_eq_false rfl | omega) only [nI_add, xa_sub, xa_mul, pk_div, nm_mod, xa_shr, xa_and7, xa_and1, xa_and255, xa_by_and, nI_m1, Nat.add_sub_cancel, Nat.reducePow, Nat.zero_add, Nat.add_zero, Nat.reduceAdd, Nat.reduceMul, Nat.reduceSub, xf_same, xq_ff, xq_fo, xf_1, xf_2, xs_1, xs_2, xs_same, xq_so, xj_1, xj_2, xj_same, xq_jo, xq_sa1, xq_same, xq_other, upd_s, oI_n, oI_s, e, xf_15_0 hF, x1, y1, e0, e1, e2, e3, xf_15_3 hF, xf_15_2 hF, x5, y5]
            first | refine by_iald (by first | exact rfl | assumption | exact ps_1 hpp | exact ps_2 hpp | exact ps_3 hpp | exact ps_4 hpp | exact ps_5 hpp | exact ps_6 hpp | exact ps_7 hpp | exact ps_8 hpp | exact ps_9 hpp | exact ps_10 hpp | exact ps_11 hpp | exact ps_15 hpp | exact ps_16 hpp | exact ps_17 hpp | exact ps_18 hpp | exact ps_19 hpp | exact ps_21 hpp | exact ps_22 hpp | exact ps_23 hpp | exact ps_24 hpp) ⟨by omega, by omega⟩ ?_ | refine by_tald rfl rfl ⟨by omega, by omega⟩ ?_
            refine by_aload_n rfl ?_
            refine by_getf cn_51 fl_1_13 (by first | exact rfl | assumption) (by decide) ?_
            refine by_iload rfl ?_
            simp (disch := first | exact Nat.ne_of_beq_eq_false rfl | omega) only [nI_add, xa_sub, xa_mul, pk_div, nm_mod, xa_shr, xa_and7, xa_and1, xa_and255, xa_by_and, nI_m1, Nat.add_sub_cancel, Nat.reducePow, Nat.zero_add, Nat.add_zero, Nat.reduceAdd, Nat.reduceMul, Nat.reduceSub, xf_same, xq_ff, xq_fo, xf_1, xf_2, xs_1, xs_2, xs_same, xq_so, xj_1, xj_2, xj_same, xq_jo, xq_sa1, xq_same, xq_other, upd_s, oI_n, oI_s, e, xf_15_0 hF, x1, y1, e0, e1, e2, e3, xf_15_3 hF, xf_15_2 hF, x5, y5]
            first | refine by_iald (by first | exact rfl | assumption | exact ps_1 hpp | exact ps_2 hpp | exact ps_3 hpp | exact ps_4 hpp | exact ps_5 hpp | exact ps_6 hpp | exact ps_7 hpp | exact ps_8 hpp | exact ps_9 hpp | exact ps_10 hpp | exact ps_11 hpp | exact ps_15 hpp | exact ps_16 hpp | exact ps_17 hpp | exact ps_18 hpp | exact ps_19 hpp | exact ps_21 hpp | exact ps_22 hpp | exact ps_23 hpp | exact ps_24 hpp) ⟨by omega, by omega⟩ ?_ | refine by_tald rfl rfl ⟨by omega, by omega⟩ ?_
            refine by_ic_eq 143 rfl ?_
            simp (disch := first | exact Nat.ne_of_beq_eq_false rfl | omega) only [nI_add, xa_sub, xa_mul, pk_div, nm_mod, xa_shr, xa_and7, xa_and1, xa_and255, xa_by_and, nI_m1, Nat.add_sub_cancel, Nat.reducePow, Nat.zero_add, Nat.add_zero, Nat.reduceAdd, Nat.reduceMul, Nat.reduceSub, xf_same, xq_ff, xq_fo, xf_1, xf_2, xs_1, xs_2, xs_same, xq_so, xj_1, xj_2, xj_same, xq_jo, xq_sa1, xq_same, xq_other, upd_s, oI_n, oI_s, xv_0, xv_1, xv_2, xv_3, xm_p1, xm_p2, List.filter_cons, List.filter_nil, Nat.reduceBEq, Bool.not_true, Bool.not_false, Bool.and_true, Bool.and_false, Bool.false_and, Bool.true_and, if_true, if_false, Bool.false_eq_true, reduceIte, xc_i, xc_j, xc_r, xc_n, List.nil_append, List.cons_append, Option.toList_some, Option.toList_none, nI_ltJ, nI_leJ, nI_eqJ, nI_ltz, nI_gez, nI_gtz, nI_lez, nI_eqz, m1_ltz, m1_gez, true_imp_iff, false_imp_iff, true_and, and_true, ne_eq, not_false_eq_true, not_true_eq_false, Nat.reduceEqDiff, Nat.reduceLT, Nat.reduceLeDiff, e, xf_15_0 hF, x1, y1, e0, e1, e2, e3, xf_15_3 hF, xf_15_2 hF, x5, y5]
            with_reducible refine xm_go_blk b_X1_unify_143 k_X1_unify_143 ?_
            refine by_aload_n rfl ?_
            refine by_getf cn_51 fl_1_23 (by first | exact rfl | assumption) (by decide) ?_
            refine by_iload rfl ?_
            refine by_iload rfl ?_
            simp (disch := first | exact Nat.ne_of_beq_eq_false rfl | omega) only [nI_add, xa_sub, xa_mul, pk_div, nm_mod, xa_shr, xa_and7, xa_and1, xa_and255, xa_by_and, nI_m1, Nat.add_sub_cancel, Nat.reducePow, Nat.zero_add, Nat.add_zero, Nat.reduceAdd, Nat.reduceMul, Nat.reduceSub, xf_same, xq_ff, xq_fo, xf_1, xf_2, xs_1, xs_2, xs_same, xq_so, xj_1, xj_2, xj_same, xq_jo, xq_sa1, xq_same, xq_other, upd_s, oI_n, oI_s, e, xf_15_0 hF, x1, y1, e0, e1, e2, e3, xf_15_3 hF, xf_15_2 hF, x5, y5]
            refine by_iast (by first | exact rfl | assumption | exact ps_1 hpp | exact ps_2 hpp | exact ps_3 hpp | exact ps_4 hpp | exact ps_5 hpp | exact ps_6 hpp | exact ps_7 hpp | exact ps_8 hpp | exact ps_9 hpp | exact ps_10 hpp | exact ps_11 hpp | exact ps_15 hpp | exact ps_16 hpp | exact ps_17 hpp | exact ps_18 hpp | exact ps_19 hpp | exact ps_21 hpp | exact ps_22 hpp | exact ps_23 hpp | exact ps_24 hpp) ⟨by omega, by omega⟩ ?_
            refine by_aload_n rfl ?_
            refine by_getf cn_51 fl_1_13 (by first | exact rfl | assumption) (by decide) ?_
            refine by_iload rfl ?_
            simp (disch := first | exact Nat.ne_of_beq_eq_false rfl | omega) only [nI_add, xa_sub, xa_mul, pk_div, nm_mod, xa_shr, xa_and7, xa_and1, xa_and255, xa_by_and, nI_m1, Nat.add_sub_cancel, Nat.reducePow, Nat.zero_add, Nat.add_zero, Nat.reduceAdd, Nat.reduceMul, Nat.reduceSub, xf_same, xq_ff, xq_fo, xf_1, xf_2, xs_1, xs_2, xs_same, xq_so, xj_1, xj_2, xj_same, xq_jo, xq_sa1, xq_same, xq_other, upd_s, oI_n, oI_s, e, xf_15_0 hF, x1, y1, e0, e1, e2, e3, xf_15_3 hF, xf_15_2 hF, x5, y5]
            first | refine by_iald (by first | exact rfl | assumption | exact ps_1 hpp | exact ps_2 hpp | exact ps_3 hpp | exact ps_4 hpp | exact ps_5 hpp | exact ps_6 hpp | exact ps_7 hpp | exact ps_8 hpp | exact ps_9 hpp | exact ps_10 hpp | exact ps_11 hpp | exact ps_15 hpp | exact ps_16 hpp | exact ps_17 hpp | exact ps_18 hpp | exact ps_19 hpp | exact ps_21 hpp | exact ps_22 hpp | exact ps_23 hpp | exact ps_24 hpp) ⟨by omega, by omega⟩ ?_ | refine by_tald rfl rfl ⟨by omega, by omega⟩ ?_
            refine by_if_eq 198 rfl ?_
            simp (disch := first | exact Nat.ne_of_beq_eq_false rfl | omega) only [nI_add, xa_sub, xa_mul, pk_div, nm_mod, xa_shr, xa_and7, xa_and1, xa_and255, xa_by_and, nI_m1, Nat.add_sub_cancel, Nat.reducePow, Nat.zero_add, Nat.add_zero, Nat.reduceAdd, Nat.reduceMul, Nat.reduceSub, xf_same, xq_ff, xq_fo, xf_1, xf_2, xs_1, xs_2, xs_same, xq_so, xj_1, xj_2, xj_same, xq_jo, xq_sa1, xq_same, xq_other, upd_s, oI_n, oI_s, xv_0, xv_1, xv_2, xv_3, xm_p1, xm_p2, List.filter_cons, List.filter_nil, Nat.reduceBEq, Bool.not_true, Bool.not_false, Bool.and_true, Bool.and_false, Bool.false_and, Bool.true_and, if_true, if_false, Bool.false_eq_true, reduceIte, xc_i, xc_j, xc_r, xc_n, List.nil_append, List.cons_append, Option.toList_some, Option.toList_none, nI_ltJ, nI_leJ, nI_eqJ, nI_ltz, nI_gez, nI_gtz, nI_lez, nI_eqz, m1_ltz, m1_gez, true_imp_iff, false_imp_iff, true_and, and_true, ne_eq, not_false_eq_true, not_true_eq_false, Nat.reduceEqDiff, Nat.reduceLT, Nat.reduceLeDiff, e, xf_15_0 hF, x1, y1, e0, e1, e2, e3, xf_15_3 hF, xf_15_2 hF, x5, y5]
            with_reducible refine xm_go_blk b_X1_unify_162 k_X1_unify_162 ?_
            refine by_aload_n rfl ?_
            refine by_aload_n rfl ?_
            refine by_getf cn_51 fl_1_20 (by first | exact rfl | assumption) (by decide) ?_
            refine by_iload rfl ?_
            simp (disch := first | exact Nat.ne_of_beq_eq_false rfl | omega) only [nI_add, xa_sub, xa_mul, pk_div, nm_mod, xa_shr, xa_and7, xa_and1, xa_and255, xa_by_and, nI_m1, Nat.add_sub_cancel, Nat.reducePow, Nat.zero_add, Nat.add_zero, Nat.reduceAdd, Nat.reduceMul, Nat.reduceSub, xf_same, xq_ff, xq_fo, xf_1, xf_2, xs_1, xs_2, xs_same, xq_so, xj_1, xj_2, xj_same, xq_jo, xq_sa1, xq_same, xq_other, upd_s, oI_n, oI_s, e, xf_15_0 hF, x1, y1, e0, e1, e2, e3, xf_15_3 hF, xf_15_2 hF, x5, y5]
            first | refine by_iald (by first | exact rfl | assumption | exact ps_1 hpp | exact ps_2 hpp | exact ps_3 hpp | exact ps_4 hpp | exact ps_5 hpp | exact ps_6 hpp | exact ps_7 hpp | exact ps_8 hpp | exact ps_9 hpp | exact ps_10 hpp | exact ps_11 hpp | exact ps_15 hpp | exact ps_16 hpp | exact ps_17 hpp | exact ps_18 hpp | exact ps_19 hpp | exact ps_21 hpp | exact ps_22 hpp | exact ps_23 hpp | exact ps_24 hpp) ⟨by omega, by omega⟩ ?_ | refine by_tald rfl rfl ⟨by omega, by omega⟩ ?_
            refine by_aload_n rfl ?_
            refine by_getf cn_51 fl_1_20 (by first | exact rfl | assumption) (by decide) ?_
            refine by_iload rfl ?_
            simp (disch := first | exact Nat.ne_of_beq_eq_false rfl | omega) only [nI_add, xa_sub, xa_mul, pk_div, nm_mod, xa_shr, xa_and7, xa_and1, xa_and255, xa_by_and, nI_m1, Nat.add_sub_cancel, Nat.reducePow, Nat.zero_add, Nat.add_zero, Nat.reduceAdd, Nat.reduceMul, Nat.reduceSub, xf_same, xq_ff, xq_fo, xf_1, xf_2, xs_1, xs_2, xs_same, xq_so, xj_1, xj_2, xj_same, xq_jo, xq_sa1, xq_same, xq_other, upd_s, oI_n, oI_s, e, xf_15_0 hF, x1, y1, e0, e1, e2, e3, xf_15_3 hF, xf_15_2 hF, x5, y5]
            first | refine by_iald (by first | exact rfl | assumption | exact ps_1 hpp | exact ps_2 hpp | exact ps_3 hpp | exact ps_4 hpp | exact ps_5 hpp | exact ps_6 hpp | exact ps_7 hpp | exact ps_8 hpp | exact ps_9 hpp | exact ps_10 hpp | exact ps_11 hpp | exact ps_15 hpp | exact ps_16 hpp | exact ps_17 hpp | exact ps_18 hpp | exact ps_19 hpp | exact ps_21 hpp | exact ps_22 hpp | exact ps_23 hpp | exact ps_24 hpp) ⟨by omega, by omega⟩ ?_ | refine by_tald rfl rfl ⟨by omega, by omega⟩ ?_
            simp (disch := first | exact Nat.ne_of_beq_eq_false rfl | omega) only [nI_add, xa_sub, xa_mul, pk_div, nm_mod, xa_shr, xa_and7, xa_and1, xa_and255, xa_by_and, nI_m1, Nat.add_sub_cancel, Nat.reducePow, Nat.zero_add, Nat.add_zero, Nat.reduceAdd, Nat.reduceMul, Nat.reduceSub, xf_same, xq_ff, xq_fo, xf_1, xf_2, xs_1, xs_2, xs_same, xq_so, xj_1, xj_2, xj_same, xq_jo, xq_sa1, xq_same, xq_other, upd_s, oI_n, oI_s, xv_0, xv_1, xv_2, xv_3, xm_p1, xm_p2, List.filter_cons, List.filter_nil, Nat.reduceBEq, Bool.not_true, Bool.not_false, Bool.and_true, Bool.and_false, Bool.false_and, Bool.true_and, if_true, if_false, Bool.false_eq_true, reduceIte, xc_i, xc_j, xc_r, xc_n, List.nil_append, List.cons_append, Option.toList_some, Option.toList_none, e, xf_15_0 hF, x1, y1, e0, e1, e2, e3, xf_15_3 hF, xf_15_2 hF, x5, y5]
            refine by_inv2 cn_51 lk_1_114 (by rw [xe_cnt]; decide) is_44 np_44 cn_44 (by first | exact rfl | assumption) (Nat.le_of_ble_eq_true rfl) ?_
            refine sp_pushPair (pd := pd) hF1 p2 (by omega) ?_
            with_reducible refine xm_go_blk b_X1_unify_180 k_X1_unify_180 ?_
            refine by_aload_n rfl ?_
            refine by_aload_n rfl ?_
            refine by_getf cn_51 fl_1_17 (by first | exact rfl | assumption) (by decide) ?_
            refine by_iload rfl ?_
            simp (disch := first | exact Nat.ne_of_beq_eq_false rfl | omega) only [nI_add, xa_sub, xa_mul, pk_div, nm_mod, xa_shr, xa_and7, xa_and1, xa_and255, xa_by_and, nI_m1, Nat.add_sub_cancel, Nat.reducePow, Nat.zero_add, Nat.add_zero, Nat.reduceAdd, Nat.reduceMul, Nat.reduceSub, xf_same, xq_ff, xq_fo, xf_1, xf_2, xs_1, xs_2, xs_same, xq_so, xj_1, xj_2, xj_same, xq_jo, xq_sa1, xq_same, xq_other, upd_s, oI_n, oI_s, xf_15_1 hF, x4, y4]
            first | refine by_iald (by first | exact rfl | assumption | exact ps_1 hpp | exact ps_2 hpp | exact ps_3 hpp | exact ps_4 hpp | exact ps_5 hpp | exact ps_6 hpp | exact ps_7 hpp | exact ps_8 hpp | exact ps_9 hpp | exact ps_10 hpp | exact ps_11 hpp | exact ps_15 hpp | exact ps_16 hpp | exact ps_17 hpp | exact ps_18 hpp | exact ps_19 hpp | exact ps_21 hpp | exact ps_22 hpp | exact ps_23 hpp | exact ps_24 hpp) ⟨by omega, by omega⟩ ?_ | refine by_tald rfl rfl ⟨by omega, by omega⟩ ?_
            refine by_aload_n rfl ?_
            refine by_getf cn_51 fl_1_17 (by first | exact rfl | assumption) (by decide) ?_
            refine by_iload rfl ?_
            simp (disch := first | exact Nat.ne_of_beq_eq_false rfl | omega) only [nI_add, xa_sub, xa_mul, pk_div, nm_mod, xa_shr, xa_and7, xa_and1, xa_and255, xa_by_and, nI_m1, Nat.add_sub_cancel, Nat.reducePow, Nat.zero_add, Nat.add_zero, Nat.reduceAdd, Nat.reduceMul, Nat.reduceSub, xf_same, xq_ff, xq_fo, xf_1, xf_2, xs_1, xs_2, xs_same, xq_so, xj_1, xj_2, xj_same, xq_jo, xq_sa1, xq_same, xq_other, upd_s, oI_n, oI_s, xf_15_1 hF, x4, y4]
            first | refine by_iald (by first | exact rfl | assumption | exact ps_1 hpp | exact ps_2 hpp | exact ps_3 hpp | exact ps_4 hpp | exact ps_5 hpp | exact ps_6 hpp | exact ps_7 hpp | exact ps_8 hpp | exact ps_9 hpp | exact ps_10 hpp | exact ps_11 hpp | exact ps_15 hpp | exact ps_16 hpp | exact ps_17 hpp | exact ps_18 hpp | exact ps_19 hpp | exact ps_21 hpp | exact ps_22 hpp | exact ps_23 hpp | exact ps_24 hpp) ⟨by omega, by omega⟩ ?_ | refine by_tald rfl rfl ⟨by omega, by omega⟩ ?_
            simp (disch := first | exact Nat.ne_of_beq_eq_false rfl | omega) only [nI_add, xa_sub, xa_mul, pk_div, nm_mod, xa_shr, xa_and7, xa_and1, xa_and255, xa_by_and, nI_m1, Nat.add_sub_cancel, Nat.reducePow, Nat.zero_add, Nat.add_zero, Nat.reduceAdd, Nat.reduceMul, Nat.reduceSub, xf_same, xq_ff, xq_fo, xf_1, xf_2, xs_1, xs_2, xs_same, xq_so, xj_1, xj_2, xj_same, xq_jo, xq_sa1, xq_same, xq_other, upd_s, oI_n, oI_s, xv_0, xv_1, xv_2, xv_3, xm_p1, xm_p2, List.filter_cons, List.filter_nil, Nat.reduceBEq, Bool.not_true, Bool.not_false, Bool.and_true, Bool.and_false, Bool.false_and, Bool.true_and, if_true, if_false, Bool.false_eq_true, reduceIte, xc_i, xc_j, xc_r, xc_n, List.nil_append, List.cons_append, Option.toList_some, Option.toList_none, xf_15_1 hF, x4, y4]
            refine by_inv2 cn_51 lk_1_114 (by rw [xe_cnt]; decide) is_44 np_44 cn_44 (by first | exact rfl | assumption) (Nat.le_of_ble_eq_true rfl) ?_
            have hF2 : XF (xm_sf (xm_si (xm_si (xm_si h' 19 (rt y) (nI (rt x))) 21 (2 * pd.length) (nI (r (rt x)))) 21 (2 * pd.length + 1) (nI (r (rt y)))) 15 7 (.int (nI (2 * (pd.length + 1))))) := Fr_XF hF1 (Fr_sf (Fr_si (Fr_si (Fr_rf (S := [21]) (T := [(15, 7)])) (by simp)) (by simp)) (by simp)) (by decide +kernel)
            refine sp_pushPair (pd := (r (rt x), r (rt y)) :: pd) hF2 xf_same (by simp only [List.length_cons]; omega) ?_
            refine uni_s198 htu hK ⟨Fr_sf (Fr_si (Fr_si (Fr_sf (Fr_si (Fr_si (Fr_si p1 (by decide)) (by decide)) (by decide)) (by decide)) (by decide)) (by decide)) (by decide), xf_same, ?_, ?_, ?_, by simp only [List.length_cons]; omega, q3, q4⟩ (by simp only [List.length_cons]; omega)
            · have g1 : pdA (xm_si h' 19 (rt y) (nI (rt x))) 21 pd := pdA_fr p3 hf (by decide)
              exact pdA_push (pdA_push g1)
            · intro q hq
              rcases List.mem_cons.mp hq with rfl | hq
              · exact ⟨x6, y6⟩
              · rcases List.mem_cons.mp hq with rfl | hq
                · exact ⟨x7, y7⟩
                · exact p4 q hq
            · obtain ⟨u', dd', m', v1, v2, v3⟩ := q1
              exact ⟨u', dd', m', upA_fr v1 (Fr_sf (Fr_si (Fr_si (Fr_sf (Fr_si (Fr_si (Fr_rf (S := [21]) (T := [(15, 7)])) (by simp)) (by simp)) (by simp)) (by simp)) (by simp)) (by simp)) (by decide), v2, v3⟩
        · have e2 : ((k (rt x) + 3) % 4 = (k (rt y) + 3) % 4) = False := eq_false (by omega)
          with_reducible refine xm_go_blk b_X1_unify_66 k_X1_unify_66 ?_
          refine by_istore (by rw [ml_51]; decide) ?_
          refine by_iload rfl ?_
          refine by_iload rfl ?_
          refine by_ic_ne 78 rfl ?_
          simp (disch := first | exact Nat.ne_of_beq_eq_false rfl | omega) only [nI_add, xa_sub, xa_mul, pk_div, nm_mod, xa_shr, xa_and7, xa_and1, xa_and255, xa_by_and, nI_m1, Nat.add_sub_cancel, Nat.reducePow, Nat.zero_add, Nat.add_zero, Nat.reduceAdd, Nat.reduceMul, Nat.reduceSub, xf_same, xq_ff, xq_fo, xf_1, xf_2, xs_1, xs_2, xs_same, xq_so, xj_1, xj_2, xj_same, xq_jo, xq_sa1, xq_same, xq_other, upd_s, oI_n, oI_s, xv_0, xv_1, xv_2, xv_3, xm_p1, xm_p2, List.filter_cons, List.filter_nil, Nat.reduceBEq, Bool.not_true, Bool.not_false, Bool.and_true, Bool.and_false, Bool.false_and, Bool.true_and, if_true, if_false, Bool.false_eq_true, reduceIte, xc_i, xc_j, xc_r, xc_n, List.nil_append, List.cons_append, Option.toList_some, Option.toList_none, nI_ltJ, nI_leJ, nI_eqJ, nI_ltz, nI_gez, nI_gtz, nI_lez, nI_eqz, m1_ltz, m1_gez, true_imp_iff, false_imp_iff, true_and, and_true, ne_eq, not_false_eq_true, not_true_eq_false, Nat.reduceEqDiff, Nat.reduceLT, Nat.reduceLeDiff, e, xf_15_0 hF, x1, y1, e0, e1, e2]
          with_reducible refine xm_go_blk b_X1_unify_78 k_X1_unify_78 ?_
          refine by_aload_n rfl ?_
          refine by_getf cn_51 fl_1_13 (by first | exact rfl | assumption) (by decide) ?_
          refine by_iload rfl ?_
          simp (disch := first | exact Nat.ne_of_beq_eq_false rfl | omega) only [nI_add, xa_sub, xa_mul, pk_div, nm_mod, xa_shr, xa_and7, xa_and1, xa_and255, xa_by_and, nI_m1, Nat.add_sub_cancel, Nat.reducePow, Nat.zero_add, Nat.add_zero, Nat.reduceAdd, Nat.reduceMul, Nat.reduceSub, xf_same, xq_ff, xq_fo, xf_1, xf_2, xs_1, xs_2, xs_same, xq_so, xj_1, xj_2, xj_same, xq_jo, xq_sa1, xq_same, xq_other, upd_s, oI_n, oI_s, e, xf_15_0 hF, x1, y1, e0, e1, e2]
          first | refine by_iald (by first | exact rfl | assumption | exact ps_1 hpp | exact ps_2 hpp | exact ps_3 hpp | exact ps_4 hpp | exact ps_5 hpp | exact ps_6 hpp | exact ps_7 hpp | exact ps_8 hpp | exact ps_9 hpp | exact ps_10 hpp | exact ps_11 hpp | exact ps_15 hpp | exact ps_16 hpp | exact ps_17 hpp | exact ps_18 hpp | exact ps_19 hpp | exact ps_21 hpp | exact ps_22 hpp | exact ps_23 hpp | exact ps_24 hpp) ⟨by omega, by omega⟩ ?_ | refine by_tald rfl rfl ⟨by omega, by omega⟩ ?_
          refine by_iconst ci_3 ?_
          refine by_ic_ne 101 rfl ?_
          simp (disch := first | exact Nat.ne_of_beq_eq_false rfl | omega) only [nI_add, xa_sub, xa_mul, pk_div, nm_mod, xa_shr, xa_and7, xa_and1, xa_and255, xa_by_and, nI_m1, Nat.add_sub_cancel, Nat.reducePow, Nat.zero_add, Nat.add_zero, Nat.reduceAdd, Nat.reduceMul, Nat.reduceSub, xf_same, xq_ff, xq_fo, xf_1, xf_2, xs_1, xs_2, xs_same, xq_so, xj_1, xj_2, xj_same, xq_jo, xq_sa1, xq_same, xq_other, upd_s, oI_n, oI_s, xv_0, xv_1, xv_2, xv_3, xm_p1, xm_p2, List.filter_cons, List.filter_nil, Nat.reduceBEq, Bool.not_true, Bool.not_false, Bool.and_true, Bool.and_false, Bool.false_and, Bool.true_and, if_true, if_false, Bool.false_eq_true, reduceIte, xc_i, xc_j, xc_r, xc_n, List.nil_append, List.cons_append, Option.toList_some, Option.toList_none, nI_ltJ, nI_leJ, nI_eqJ, nI_ltz, nI_gez, nI_gtz, nI_lez, nI_eqz, m1_ltz, m1_gez, true_imp_iff, false_imp_iff, true_and, and_true, ne_eq, not_false_eq_true, not_true_eq_false, Nat.reduceEqDiff, Nat.reduceLT, Nat.reduceLeDiff, e, xf_15_0 hF, x1, y1, e0, e1, e2]
          with_reducible refine xm_go_blk b_X1_unify_101 k_X1_unify_101 ?_
          refine by_aload_n rfl ?_
          refine by_getf cn_51 fl_1_13 (by first | exact rfl | assumption) (by decide) ?_
          refine by_iload rfl ?_
          simp (disch := first | exact Nat.ne_of_beq_eq_false rfl | omega) only [nI_add, xa_sub, xa_mul, pk_div, nm_mod, xa_shr, xa_and7, xa_and1, xa_and255, xa_by_and, nI_m1, Nat.add_sub_cancel, Nat.reducePow, Nat.zero_add, Nat.add_zero, Nat.reduceAdd, Nat.reduceMul, Nat.reduceSub, xf_same, xq_ff, xq_fo, xf_1, xf_2, xs_1, xs_2, xs_same, xq_so, xj_1, xj_2, xj_same, xq_jo, xq_sa1, xq_same, xq_other, upd_s, oI_n, oI_s, e, xf_15_0 hF, x1, y1, e0, e1, e2]
          first | refine by_iald (by first | exact rfl | assumption | exact ps_1 hpp | exact ps_2 hpp | exact ps_3 hpp | exact ps_4 hpp | exact ps_5 hpp | exact ps_6 hpp | exact ps_7 hpp | exact ps_8 hpp | exact ps_9 hpp | exact ps_10 hpp | exact ps_11 hpp | exact ps_15 hpp | exact ps_16 hpp | exact ps_17 hpp | exact ps_18 hpp | exact ps_19 hpp | exact ps_21 hpp | exact ps_22 hpp | exact ps_23 hpp | exact ps_24 hpp) ⟨by omega, by omega⟩ ?_ | refine by_tald rfl rfl ⟨by omega, by omega⟩ ?_
          refine by_iconst ci_3 ?_
          refine by_ic_ne 124 rfl ?_
          simp (disch := first | exact Nat.ne_of_beq_eq_false rfl | omega) only [nI_add, xa_sub, xa_mul, pk_div, nm_mod, xa_shr, xa_and7, xa_and1, xa_and255, xa_by_and, nI_m1, Nat.add_sub_cancel, Nat.reducePow, Nat.zero_add, Nat.add_zero, Nat.reduceAdd, Nat.reduceMul, Nat.reduceSub, xf_same, xq_ff, xq_fo, xf_1, xf_2, xs_1, xs_2, xs_same, xq_so, xj_1, xj_2, xj_same, xq_jo, xq_sa1, xq_same, xq_other, upd_s, oI_n, oI_s, xv_0, xv_1, xv_2, xv_3, xm_p1, xm_p2, List.filter_cons, List.filter_nil, Nat.reduceBEq, Bool.not_true, Bool.not_false, Bool.and_true, Bool.and_false, Bool.false_and, Bool.true_and, if_true, if_false, Bool.false_eq_true, reduceIte, xc_i, xc_j, xc_r, xc_n, List.nil_append, List.cons_append, Option.toList_some, Option.toList_none, nI_ltJ, nI_leJ, nI_eqJ, nI_ltz, nI_gez, nI_gtz, nI_lez, nI_eqz, m1_ltz, m1_gez, true_imp_iff, false_imp_iff, true_and, and_true, ne_eq, not_false_eq_true, not_true_eq_false, Nat.reduceEqDiff, Nat.reduceLT, Nat.reduceLeDiff, e, xf_15_0 hF, x1, y1, e0, e1, e2]
          with_reducible refine xm_go_blk b_X1_unify_124 k_X1_unify_124 ?_
          refine by_aload_n rfl ?_
          refine by_getf cn_51 fl_1_13 (by first | exact rfl | assumption) (by decide) ?_
          refine by_iload rfl ?_
          simp (disch := first | exact Nat.ne_of_beq_eq_false rfl | omega) only [nI_add, xa_sub, xa_mul, pk_div, nm_mod, xa_shr, xa_and7, xa_and1, xa_and255, xa_by_and, nI_m1, Nat.add_sub_cancel, Nat.reducePow, Nat.zero_add, Nat.add_zero, Nat.reduceAdd, Nat.reduceMul, Nat.reduceSub, xf_same, xq_ff, xq_fo, xf_1, xf_2, xs_1, xs_2, xs_same, xq_so, xj_1, xj_2, xj_same, xq_jo, xq_sa1, xq_same, xq_other, upd_s, oI_n, oI_s, e, xf_15_0 hF, x1, y1, e0, e1, e2]
          first | refine by_iald (by first | exact rfl | assumption | exact ps_1 hpp | exact ps_2 hpp | exact ps_3 hpp | exact ps_4 hpp | exact ps_5 hpp | exact ps_6 hpp | exact ps_7 hpp | exact ps_8 hpp | exact ps_9 hpp | exact ps_10 hpp | exact ps_11 hpp | exact ps_15 hpp | exact ps_16 hpp | exact ps_17 hpp | exact ps_18 hpp | exact ps_19 hpp | exact ps_21 hpp | exact ps_22 hpp | exact ps_23 hpp | exact ps_24 hpp) ⟨by omega, by omega⟩ ?_ | refine by_tald rfl rfl ⟨by omega, by omega⟩ ?_
          refine by_aload_n rfl ?_
          refine by_getf cn_51 fl_1_13 (by first | exact rfl | assumption) (by decide) ?_
          refine by_iload rfl ?_
          simp (disch := first | exact Nat.ne_of_beq_eq_false rfl | omega) only [nI_add, xa_sub, xa_mul, pk_div, nm_mod, xa_shr, xa_and7, xa_and1, xa_and255, xa_by_and, nI_m1, Nat.add_sub_cancel, Nat.reducePow, Nat.zero_add, Nat.add_zero, Nat.reduceAdd, Nat.reduceMul, Nat.reduceSub, xf_same, xq_ff, xq_fo, xf_1, xf_2, xs_1, xs_2, xs_same, xq_so, xj_1, xj_2, xj_same, xq_jo, xq_sa1, xq_same, xq_other, upd_s, oI_n, oI_s, e, xf_15_0 hF, x1, y1, e0, e1, e2]
          first | refine by_iald (by first | exact rfl | assumption | exact ps_1 hpp | exact ps_2 hpp | exact ps_3 hpp | exact ps_4 hpp | exact ps_5 hpp | exact ps_6 hpp | exact ps_7 hpp | exact ps_8 hpp | exact ps_9 hpp | exact ps_10 hpp | exact ps_11 hpp | exact ps_15 hpp | exact ps_16 hpp | exact ps_17 hpp | exact ps_18 hpp | exact ps_19 hpp | exact ps_21 hpp | exact ps_22 hpp | exact ps_23 hpp | exact ps_24 hpp) ⟨by omega, by omega⟩ ?_ | refine by_tald rfl rfl ⟨by omega, by omega⟩ ?_
          refine by_ic_eq 143 rfl ?_
          simp (disch := first | exact Nat.ne_of_beq_eq_false rfl | omega) only [nI_add, xa_sub, xa_mul, pk_div, nm_mod, xa_shr, xa_and7, xa_and1, xa_and255, xa_by_and, nI_m1, Nat.add_sub_cancel, Nat.reducePow, Nat.zero_add, Nat.add_zero, Nat.reduceAdd, Nat.reduceMul, Nat.reduceSub, xf_same, xq_ff, xq_fo, xf_1, xf_2, xs_1, xs_2, xs_same, xq_so, xj_1, xj_2, xj_same, xq_jo, xq_sa1, xq_same, xq_other, upd_s, oI_n, oI_s, xv_0, xv_1, xv_2, xv_3, xm_p1, xm_p2, List.filter_cons, List.filter_nil, Nat.reduceBEq, Bool.not_true, Bool.not_false, Bool.and_true, Bool.and_false, Bool.false_and, Bool.true_and, if_true, if_false, Bool.false_eq_true, reduceIte, xc_i, xc_j, xc_r, xc_n, List.nil_append, List.cons_append, Option.toList_some, Option.toList_none, nI_ltJ, nI_leJ, nI_eqJ, nI_ltz, nI_gez, nI_gtz, nI_lez, nI_eqz, m1_ltz, m1_gez, true_imp_iff, false_imp_iff, true_and, and_true, ne_eq, not_false_eq_true, not_true_eq_false, Nat.reduceEqDiff, Nat.reduceLT, Nat.reduceLeDiff, e, xf_15_0 hF, x1, y1, e0, e1, e2]
          with_reducible refine xm_go_blk b_X1_unify_141 k_X1_unify_141 ?_
          refine by_iconst ci_0 ?_
          refine by_iret ry_51 (by first | rfl | assumption) ?_
          exact hFa h' p1 (ty_J_bad hG p5.1 p5.2 (by omega) (by omega) kk p8)
theorem uni_s13 (hF0 : XF h) (hA : fnA h c k l r) (hc : c ≤ 14031) (htu : turn < 56128) {q : Nat × Nat} (hI : uniI h h' c k l r es rt (q :: pd)) (hK : uniK sc d c turn (2 * nr c rt + (pd.length + 1)) k l r es h post)
    (hFa : ∀ h', Fr [19, 21] [(15, 7)] h h' → (∀ V, ty_vok V → ty_all c k l r V → ty_pd es V → False) → post (some (.int (nI 0))) h') :
    xm_go (XE sc) (xm_T (XE sc) (d + 1)) 51 post 13 [(3, .int (nI turn)), (0, .ref 15)] [] h' := by
  obtain ⟨x, y⟩ := q
  obtain ⟨p1, p2, p3, p4, ⟨u, dd, m, u1, u2, u3⟩, p7, p8, p9⟩ := hI
  simp only [List.length_cons] at p2 p7
  have hF : XF h' := Fr_XF hF0 p1 (by decide +kernel)
  have hq := p4 (x, y) (by simp)
  have hst := p3 0 (by simp)
  simp only [List.length_cons, Nat.add_sub_cancel, Nat.sub_zero, List.getD_cons_zero] at hst
  have e2 : 2 * (pd.length + 1) - 2 = 2 * pd.length := by omega
  have e3 : (2 * (pd.length + 1) = 0) = False := eq_false (by omega)
  with_reducible refine xm_go_blk b_X1_unify_13 k_X1_unify_13 ?_
  refine by_iload_n rfl ?_
  refine by_ldc (x := nI 56128) cn_51 ki_1_118 (by decide) ?_
  refine by_ic_ge 204 rfl ?_
  simp (disch := first | exact Nat.ne_of_beq_eq_false rfl | omega) only [nI_add, xa_sub, xa_mul, pk_div, nm_mod, xa_shr, xa_and7, xa_and1, xa_and255, xa_by_and, nI_m1, Nat.add_sub_cancel, Nat.reducePow, Nat.zero_add, Nat.add_zero, Nat.reduceAdd, Nat.reduceMul, Nat.reduceSub, xf_same, xq_ff, xq_fo, xf_1, xf_2, xs_1, xs_2, xs_same, xq_so, xj_1, xj_2, xj_same, xq_jo, xq_sa1, xq_same, xq_other, upd_s, oI_n, oI_s, xv_0, xv_1, xv_2, xv_3, xm_p1, xm_p2, List.filter_cons, List.filter_nil, Nat.reduceBEq, Bool.not_true, Bool.not_false, Bool.and_true, Bool.and_false, Bool.false_and, Bool.true_and, if_true, if_false, Bool.false_eq_true, reduceIte, xc_i, xc_j, xc_r, xc_n, List.nil_append, List.cons_append, Option.toList_some, Option.toList_none, nI_ltJ, nI_leJ, nI_eqJ, nI_ltz, nI_gez, nI_gtz, nI_lez, nI_eqz, m1_ltz, m1_gez, true_imp_iff, false_imp_iff, true_and, and_true, ne_eq, not_false_eq_true, not_true_eq_false, Nat.reduceEqDiff, Nat.reduceLT, Nat.reduceLeDiff, p2, e2, e3, xf_15_5 hF, hst.1]
  refine ⟨fun c => absurd c (by omega), fun c13 => ?_⟩
  with_reducible refine xm_go_blk b_X1_unify_19 k_X1_unify_19 ?_
  refine by_aload_n rfl ?_
  refine by_getf cn_51 fl_1_111 (by first | exact rfl | assumption) (by decide) ?_
  simp (disch := first | exact Nat.ne_of_beq_eq_false rfl | omega) only [nI_add, xa_sub, xa_mul, pk_div, nm_mod, xa_shr, xa_and7, xa_and1, xa_and255, xa_by_and, nI_m1, Nat.add_sub_cancel, Nat.reducePow, Nat.zero_add, Nat.add_zero, Nat.reduceAdd, Nat.reduceMul, Nat.reduceSub, xf_same, xq_ff, xq_fo, xf_1, xf_2, xs_1, xs_2, xs_same, xq_so, xj_1, xj_2, xj_same, xq_jo, xq_sa1, xq_same, xq_other, upd_s, oI_n, oI_s, p2, e2, e3, xf_15_5 hF, hst.1]
  refine by_if_le 204 rfl ?_
  simp (disch := first | exact Nat.ne_of_beq_eq_false rfl | omega) only [nI_add, xa_sub, xa_mul, pk_div, nm_mod, xa_shr, xa_and7, xa_and1, xa_and255, xa_by_and, nI_m1, Nat.add_sub_cancel, Nat.reducePow, Nat.zero_add, Nat.add_zero, Nat.reduceAdd, Nat.reduceMul, Nat.reduceSub, xf_same, xq_ff, xq_fo, xf_1, xf_2, xs_1, xs_2, xs_same, xq_so, xj_1, xj_2, xj_same, xq_jo, xq_sa1, xq_same, xq_other, upd_s, oI_n, oI_s, xv_0, xv_1, xv_2, xv_3, xm_p1, xm_p2, List.filter_cons, List.filter_nil, Nat.reduceBEq, Bool.not_true, Bool.not_false, Bool.and_true, Bool.and_false, Bool.false_and, Bool.true_and, if_true, if_false, Bool.false_eq_true, reduceIte, xc_i, xc_j, xc_r, xc_n, List.nil_append, List.cons_append, Option.toList_some, Option.toList_none, nI_ltJ, nI_leJ, nI_eqJ, nI_ltz, nI_gez, nI_gtz, nI_lez, nI_eqz, m1_ltz, m1_gez, true_imp_iff, false_imp_iff, true_and, and_true, ne_eq, not_false_eq_true, not_true_eq_false, Nat.reduceEqDiff, Nat.reduceLT, Nat.reduceLeDiff, p2, e2, e3, xf_15_5 hF, hst.1]
  with_reducible refine xm_go_blk b_X1_unify_26 k_X1_unify_26 ?_
  refine by_aload_n rfl ?_
  refine by_dup rfl ?_
  refine by_getf cn_51 fl_1_111 (by first | exact rfl | assumption) (by decide) ?_
  refine by_iconst ci_2 ?_
  simp (disch := first | exact Nat.ne_of_beq_eq_false rfl | omega) only [nI_add, xa_sub, xa_mul, pk_div, nm_mod, xa_shr, xa_and7, xa_and1, xa_and255, xa_by_and, nI_m1, Nat.add_sub_cancel, Nat.reducePow, Nat.zero_add, Nat.add_zero, Nat.reduceAdd, Nat.reduceMul, Nat.reduceSub, xf_same, xq_ff, xq_fo, xf_1, xf_2, xs_1, xs_2, xs_same, xq_so, xj_1, xj_2, xj_same, xq_jo, xq_sa1, xq_same, xq_other, upd_s, oI_n, oI_s, p2, e2, e3, xf_15_5 hF, hst.1]
  refine by_isub ?_
  refine by_putf cn_51 fl_1_111 (by first | exact rfl | assumption) (by decide) nf_1_7 ft_1_7 (by first | rfl | assumption) (by first | rfl | assumption) ?_
  refine by_aload_n rfl ?_
  refine by_aload_n rfl ?_
  refine by_getf cn_51 fl_1_29 (by first | exact rfl | assumption) (by decide) ?_
  refine by_aload_n rfl ?_
  refine by_getf cn_51 fl_1_111 (by first | exact rfl | assumption) (by decide) ?_
  simp (disch := first | exact Nat.ne_of_beq_eq_false rfl | omega) only [nI_add, xa_sub, xa_mul, pk_div, nm_mod, xa_shr, xa_and7, xa_and1, xa_and255, xa_by_and, nI_m1, Nat.add_sub_cancel, Nat.reducePow, Nat.zero_add, Nat.add_zero, Nat.reduceAdd, Nat.reduceMul, Nat.reduceSub, xf_same, xq_ff, xq_fo, xf_1, xf_2, xs_1, xs_2, xs_same, xq_so, xj_1, xj_2, xj_same, xq_jo, xq_sa1, xq_same, xq_other, upd_s, oI_n, oI_s, p2, e2, e3, xf_15_5 hF, hst.1]
  first | refine by_iald (by first | exact rfl | assumption | exact ps_1 hpp | exact ps_2 hpp | exact ps_3 hpp | exact ps_4 hpp | exact ps_5 hpp | exact ps_6 hpp | exact ps_7 hpp | exact ps_8 hpp | exact ps_9 hpp | exact ps_10 hpp | exact ps_11 hpp | exact ps_15 hpp | exact ps_16 hpp | exact ps_17 hpp | exact ps_18 hpp | exact ps_19 hpp | exact ps_21 hpp | exact ps_22 hpp | exact ps_23 hpp | exact ps_24 hpp) ⟨by omega, by omega⟩ ?_ | refine by_tald rfl rfl ⟨by omega, by omega⟩ ?_
  simp (disch := first | exact Nat.ne_of_beq_eq_false rfl | omega) only [nI_add, xa_sub, xa_mul, pk_div, nm_mod, xa_shr, xa_and7, xa_and1, xa_and255, xa_by_and, nI_m1, Nat.add_sub_cancel, Nat.reducePow, Nat.zero_add, Nat.add_zero, Nat.reduceAdd, Nat.reduceMul, Nat.reduceSub, xf_same, xq_ff, xq_fo, xf_1, xf_2, xs_1, xs_2, xs_same, xq_so, xj_1, xj_2, xj_same, xq_jo, xq_sa1, xq_same, xq_other, upd_s, oI_n, oI_s, xv_0, xv_1, xv_2, xv_3, xm_p1, xm_p2, List.filter_cons, List.filter_nil, Nat.reduceBEq, Bool.not_true, Bool.not_false, Bool.and_true, Bool.and_false, Bool.false_and, Bool.true_and, if_true, if_false, Bool.false_eq_true, reduceIte, xc_i, xc_j, xc_r, xc_n, List.nil_append, List.cons_append, Option.toList_some, Option.toList_none, p2, e2, e3, xf_15_5 hF, hst.1]
  refine by_inv1 cn_51 lk_1_66 (by rw [xe_cnt]; decide) is_41 np_41 cn_41 (by first | exact rfl | assumption) (Nat.le_of_ble_eq_true rfl) ?_
  have hfa := Fr_sf (a := 15) (j := 7) (v := .int (nI (2 * pd.length))) (Fr_rf (S := []) (T := [(15, 7)]) (h := h')) (by simp)
  refine sp_xfind (Fr_XF hF hfa (by decide +kernel)) hc (by omega) hq.1 (upA_fr u1 hfa (by simp)) u2 (fun h1 u' hf1 ua1 uo1 => ?_)
  have hF1 : XF h1 := Fr_XF (Fr_XF hF hfa (by decide +kernel)) hf1 (by decide +kernel)
  have e7 : h1.2.2 15 7 = .int (nI (2 * pd.length)) := by rw [hf1.2.2 _ _ (by simp), xf_same]
  have e21 : h1.1 21 (2 * pd.length + 1) = nI y := by rw [hf1.1 _ (by simp), xf_1, hst.2]
  with_reducible refine xm_go_blk b_X1_unify_49 k_X1_unify_49 ?_
  refine by_istore (by rw [ml_51]; decide) ?_
  refine by_aload_n rfl ?_
  refine by_aload_n rfl ?_
  refine by_getf cn_51 fl_1_29 (by first | exact rfl | assumption) (by decide) ?_
  refine by_aload_n rfl ?_
  refine by_getf cn_51 fl_1_111 (by first | exact rfl | assumption) (by decide) ?_
  refine by_iconst ci_1 ?_
  simp (disch := first | exact Nat.ne_of_beq_eq_false rfl | omega) only [nI_add, xa_sub, xa_mul, pk_div, nm_mod, xa_shr, xa_and7, xa_and1, xa_and255, xa_by_and, nI_m1, Nat.add_sub_cancel, Nat.reducePow, Nat.zero_add, Nat.add_zero, Nat.reduceAdd, Nat.reduceMul, Nat.reduceSub, xf_same, xq_ff, xq_fo, xf_1, xf_2, xs_1, xs_2, xs_same, xq_so, xj_1, xj_2, xj_same, xq_jo, xq_sa1, xq_same, xq_other, upd_s, oI_n, oI_s, xf_15_5 hF1, e7, e21]
  refine by_iadd ?_
  simp (disch := first | exact Nat.ne_of_beq_eq_false rfl | omega) only [nI_add, xa_sub, xa_mul, pk_div, nm_mod, xa_shr, xa_and7, xa_and1, xa_and255, xa_by_and, nI_m1, Nat.add_sub_cancel, Nat.reducePow, Nat.zero_add, Nat.add_zero, Nat.reduceAdd, Nat.reduceMul, Nat.reduceSub, xf_same, xq_ff, xq_fo, xf_1, xf_2, xs_1, xs_2, xs_same, xq_so, xj_1, xj_2, xj_same, xq_jo, xq_sa1, xq_same, xq_other, upd_s, oI_n, oI_s, xf_15_5 hF1, e7, e21]
  first | refine by_iald (by first | exact rfl | assumption | exact ps_1 hpp | exact ps_2 hpp | exact ps_3 hpp | exact ps_4 hpp | exact ps_5 hpp | exact ps_6 hpp | exact ps_7 hpp | exact ps_8 hpp | exact ps_9 hpp | exact ps_10 hpp | exact ps_11 hpp | exact ps_15 hpp | exact ps_16 hpp | exact ps_17 hpp | exact ps_18 hpp | exact ps_19 hpp | exact ps_21 hpp | exact ps_22 hpp | exact ps_23 hpp | exact ps_24 hpp) ⟨by omega, by omega⟩ ?_ | refine by_tald rfl rfl ⟨by omega, by omega⟩ ?_
  simp (disch := first | exact Nat.ne_of_beq_eq_false rfl | omega) only [nI_add, xa_sub, xa_mul, pk_div, nm_mod, xa_shr, xa_and7, xa_and1, xa_and255, xa_by_and, nI_m1, Nat.add_sub_cancel, Nat.reducePow, Nat.zero_add, Nat.add_zero, Nat.reduceAdd, Nat.reduceMul, Nat.reduceSub, xf_same, xq_ff, xq_fo, xf_1, xf_2, xs_1, xs_2, xs_same, xq_so, xj_1, xj_2, xj_same, xq_jo, xq_sa1, xq_same, xq_other, upd_s, oI_n, oI_s, xv_0, xv_1, xv_2, xv_3, xm_p1, xm_p2, List.filter_cons, List.filter_nil, Nat.reduceBEq, Bool.not_true, Bool.not_false, Bool.and_true, Bool.and_false, Bool.false_and, Bool.true_and, if_true, if_false, Bool.false_eq_true, reduceIte, xc_i, xc_j, xc_r, xc_n, List.nil_append, List.cons_append, Option.toList_some, Option.toList_none, xf_15_5 hF1, e7, e21]
  refine by_inv1 cn_51 lk_1_66 (by rw [xe_cnt]; decide) is_41 np_41 cn_41 (by first | exact rfl | assumption) (Nat.le_of_ble_eq_true rfl) ?_
  refine sp_xfind hF1 hc (by omega) hq.2 ua1 uo1 (fun h2 u2 hf2 ua2 uo2 => ?_)
  have hF2 : XF h2 := Fr_XF hF1 hf2 (by decide +kernel)
  refine uni_s66 hF2 hA hc (by omega) ⟨Fr_tr (Fr_tr (Fr_sf p1 (by decide)) hf1 (by simp) (by simp)) hf2 (by simp) (by simp), by rw [hf2.2.2 _ _ (by simp), e7], ?_, fun q hq => p4 q (List.mem_cons_of_mem _ hq), hq, ⟨u2, dd, m, ua2, uo2, u3⟩, by omega, p8, p9⟩ hK hFa
  exact pdA_fr (pdA_fr (pdA_fr (pdA_pop p3) hfa (by simp)) hf1 (by simp)) hf2 (by simp)
theorem sp_unify (hF : XF h) (hA : fnA h c k l r) (hc : c ≤ 14030) (hx : x < c) (hy : y < c) (hU : ∃ u dd m, upA h 19 c u ∧ uf_ok c u rt dd m ∧ m + nr c rt = c) (hJ1 : ty_JS c k l r rt es []) (hJ2 : ty_JK c k l r rt es [])
    (hT : ∀ h' rt', uniI h h' c k l r ((x, y) :: es) rt' [] → post (some (.int (nI 1))) h') (hFa : ∀ h', Fr [19, 21] [(15, 7)] h h' → (∀ V, ty_vok V → ty_all c k l r V → ty_pd ((x, y) :: es) V → False) → post (some (.int (nI 0))) h') :
    xm_T (XE sc) (d + 2) 51 [.ref 15, .int (nI x), .int (nI y)] h post := by
  have key : ∀ M rt pd h' turn, 2 * nr c rt + pd.length = M → turn + M < 56128 → uniI h h' c k l r ((x, y) :: es) rt pd → xm_go (XE sc) (xm_T (XE sc) (d + 1)) 51 post 13 [(3, .int (nI turn)), (0, .ref 15)] [] h' := by
    intro M
    induction M using Nat.strongRecOn with
    | ind M ih =>
    intro rt pd h' turn hM htu hI
    cases pd with
    | nil =>
      have p2 := hI.2.1
      with_reducible refine xm_go_blk b_X1_unify_13 k_X1_unify_13 ?_
      refine by_iload_n rfl ?_
      refine by_ldc (x := nI 56128) cn_51 ki_1_118 (by decide) ?_
      refine by_ic_ge 204 rfl ?_
      simp (disch := first | exact Nat.ne_of_beq_eq_false rfl | omega) only [nI_add, xa_sub, xa_mul, pk_div, nm_mod, xa_shr, xa_and7, xa_and1, xa_and255, xa_by_and, nI_m1, Nat.add_sub_cancel, Nat.reducePow, Nat.zero_add, Nat.add_zero, Nat.reduceAdd, Nat.reduceMul, Nat.reduceSub, xf_same, xq_ff, xq_fo, xf_1, xf_2, xs_1, xs_2, xs_same, xq_so, xj_1, xj_2, xj_same, xq_jo, xq_sa1, xq_same, xq_other, upd_s, oI_n, oI_s, xv_0, xv_1, xv_2, xv_3, xm_p1, xm_p2, List.filter_cons, List.filter_nil, Nat.reduceBEq, Bool.not_true, Bool.not_false, Bool.and_true, Bool.and_false, Bool.false_and, Bool.true_and, if_true, if_false, Bool.false_eq_true, reduceIte, xc_i, xc_j, xc_r, xc_n, List.nil_append, List.cons_append, Option.toList_some, Option.toList_none, nI_ltJ, nI_leJ, nI_eqJ, nI_ltz, nI_gez, nI_gtz, nI_lez, nI_eqz, m1_ltz, m1_gez, true_imp_iff, false_imp_iff, true_and, and_true, ne_eq, not_false_eq_true, not_true_eq_false, Nat.reduceEqDiff, Nat.reduceLT, Nat.reduceLeDiff, p2, List.length_nil, Nat.mul_zero]
      refine ⟨fun c => absurd c (by omega), fun c13 => ?_⟩
      with_reducible refine xm_go_blk b_X1_unify_19 k_X1_unify_19 ?_
      refine by_aload_n rfl ?_
      refine by_getf cn_51 fl_1_111 (by first | exact rfl | assumption) (by decide) ?_
      simp (disch := first | exact Nat.ne_of_beq_eq_false rfl | omega) only [nI_add, xa_sub, xa_mul, pk_div, nm_mod, xa_shr, xa_and7, xa_and1, xa_and255, xa_by_and, nI_m1, Nat.add_sub_cancel, Nat.reducePow, Nat.zero_add, Nat.add_zero, Nat.reduceAdd, Nat.reduceMul, Nat.reduceSub, xf_same, xq_ff, xq_fo, xf_1, xf_2, xs_1, xs_2, xs_same, xq_so, xj_1, xj_2, xj_same, xq_jo, xq_sa1, xq_same, xq_other, upd_s, oI_n, oI_s, p2, List.length_nil, Nat.mul_zero]
      refine by_if_le 204 rfl ?_
      simp (disch := first | exact Nat.ne_of_beq_eq_false rfl | omega) only [nI_add, xa_sub, xa_mul, pk_div, nm_mod, xa_shr, xa_and7, xa_and1, xa_and255, xa_by_and, nI_m1, Nat.add_sub_cancel, Nat.reducePow, Nat.zero_add, Nat.add_zero, Nat.reduceAdd, Nat.reduceMul, Nat.reduceSub, xf_same, xq_ff, xq_fo, xf_1, xf_2, xs_1, xs_2, xs_same, xq_so, xj_1, xj_2, xj_same, xq_jo, xq_sa1, xq_same, xq_other, upd_s, oI_n, oI_s, xv_0, xv_1, xv_2, xv_3, xm_p1, xm_p2, List.filter_cons, List.filter_nil, Nat.reduceBEq, Bool.not_true, Bool.not_false, Bool.and_true, Bool.and_false, Bool.false_and, Bool.true_and, if_true, if_false, Bool.false_eq_true, reduceIte, xc_i, xc_j, xc_r, xc_n, List.nil_append, List.cons_append, Option.toList_some, Option.toList_none, nI_ltJ, nI_leJ, nI_eqJ, nI_ltz, nI_gez, nI_gtz, nI_lez, nI_eqz, m1_ltz, m1_gez, true_imp_iff, false_imp_iff, true_and, and_true, ne_eq, not_false_eq_true, not_true_eq_false, Nat.reduceEqDiff, Nat.reduceLT, Nat.reduceLeDiff, p2, List.length_nil, Nat.mul_zero]
      with_reducible refine xm_go_blk b_X1_unify_204 k_X1_unify_204 ?_
      refine by_iconst ci_1 ?_
      refine by_iret ry_51 (by first | rfl | assumption) ?_
      exact hT h' rt hI
    | cons q pd =>
      simp only [List.length_cons] at hM
      refine uni_s13 hF hA (by omega) (by omega) hI (fun rt' pd' h2 hI2 hlt => ?_) hFa
      exact ih _ (by omega) rt' pd' h2 (turn + 1) rfl (by omega) hI2
  have hnr := cn_le (fun t => rt t == t) c
  refine xq_in rfl ?_
  simp only [xq_a0, xq_aI, xq_aJ, xq_aR, Nat.reduceAdd]
  with_reducible refine xm_go_blk b_X1_unify_0 k_X1_unify_0 ?_
  refine by_aload_n rfl ?_
  refine by_iconst ci_0 ?_
  refine by_putf cn_51 fl_1_111 (by first | exact rfl | assumption) (by decide) nf_1_7 ft_1_7 (by first | rfl | assumption) (by first | rfl | assumption) ?_
  refine by_aload_n rfl ?_
  refine by_iload_n rfl ?_
  refine by_iload_n rfl ?_
  refine by_inv2 cn_51 lk_1_114 (by rw [xe_cnt]; decide) is_44 np_44 cn_44 (by first | exact rfl | assumption) (Nat.le_of_ble_eq_true rfl) ?_
  have hf0 := Fr_sf (a := 15) (j := 7) (v := .int (nI 0)) (Fr_rf (S := [19, 21]) (T := [(15, 7)]) (h := h)) (by simp)
  refine sp_pushPair (pd := []) (Fr_XF hF hf0 (by decide +kernel)) xf_same (by simp) ?_
  with_reducible refine xm_go_blk b_X1_unify_11 k_X1_unify_11 ?_
  refine by_iconst ci_0 ?_
  refine by_istore_n (by rw [ml_51]; decide) ?_
  refine by_nil ?_
  simp (disch := first | exact Nat.ne_of_beq_eq_false rfl | omega) only [nI_add, xa_sub, xa_mul, pk_div, nm_mod, xa_shr, xa_and7, xa_and1, xa_and255, xa_by_and, nI_m1, Nat.add_sub_cancel, Nat.reducePow, Nat.zero_add, Nat.add_zero, Nat.reduceAdd, Nat.reduceMul, Nat.reduceSub, xf_same, xq_ff, xq_fo, xf_1, xf_2, xs_1, xs_2, xs_same, xq_so, xj_1, xj_2, xj_same, xq_jo, xq_sa1, xq_same, xq_other, upd_s, oI_n, oI_s, xv_0, xv_1, xv_2, xv_3, xm_p1, xm_p2, List.filter_cons, List.filter_nil, Nat.reduceBEq, Bool.not_true, Bool.not_false, Bool.and_true, Bool.and_false, Bool.false_and, Bool.true_and, if_true, if_false, Bool.false_eq_true, reduceIte, xc_i, xc_j, xc_r, xc_n, List.nil_append, List.cons_append, Option.toList_some, Option.toList_none]
  have hn2 : nr c rt ≤ c := hnr
  refine xm_go_wk (by simp) (key _ rt [(x, y)] _ 0 rfl (by simp only [List.length_cons, List.length_nil]; omega) ⟨Fr_sf (Fr_si (Fr_si hf0 (by decide)) (by decide)) (by decide), xf_same, pdA_push (h := xm_sf h 15 7 (.int (nI 0))) (a := 21) (x := x) (y := y) (pd := []) (fun i hi => absurd hi (Nat.not_lt_zero _)), ?_, ?_, by simp only [List.length_cons, List.length_nil]; omega, ty_JS_eq x y hJ1, ty_JK_eq x y hJ2⟩)
  · intro q hq
    rw [List.mem_singleton.mp hq]
    exact ⟨hx, hy⟩
  · obtain ⟨u, dd, m, v1, v2, v3⟩ := hU
    exact ⟨u, dd, m, upA_fr v1 (Fr_sf (Fr_si (Fr_si (Fr_sf (Fr_rf (S := [21]) (T := [(15, 7)])) (by simp)) (by simp)) (by simp)) (by simp)) (by decide), v2, v3⟩
end UNI
