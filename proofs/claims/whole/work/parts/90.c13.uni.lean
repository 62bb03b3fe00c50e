/-! ===== Finder: find, unify ===== -/
def upA (h : xm_H) (a c : Nat) (u : Nat → Nat) : Prop := ∀ t, t < c → h.1 a t = nI (u t)
theorem upA_si {h : xm_H} {a c t x : Nat} {u : Nat → Nat} (hu : upA h a c u) : upA (xm_si h a t (nI x)) a c (updN u t x) := by
  intro s hs
  rw [xs_same]
  by_cases e : s = t
  · subst e
    rw [upd_s, updN_s]
  · rw [upd_o e, updN_o e, hu s hs]
theorem sp_xfind {sc : xm_Sc} {d c m x : Nat} {u rt dd : Nat → Nat} {h : xm_H} {post : xm_Po} (hF : XF h) (hc : c ≤ 14031) (hm : m ≤ c) (hx : x < c) (hu : upA h 19 c u) (hok : uf_ok c u rt dd m)
    (hp : ∀ h' u', Fr [19] [] h h' → upA h' 19 c u' → uf_ok c u' rt dd m → post (some (.int (nI (rt x)))) h') : xm_T (XE sc) (d + 1) 41 [.ref 15, .int (nI x)] h post := by
  have key : ∀ w t i u h', m - dd t = w → i ≤ dd t → t < c → rt t = rt x → Fr [19] [] h h' → upA h' 19 c u → uf_ok c u rt dd m → xm_go (XE sc) (xm_T (XE sc) d) 41 post 4 [(3, .int (nI i)), (2, .int (nI t)), (0, .ref 15), (1, .int (nI x))] [] h' := by
    intro w
    induction w using Nat.strongRecOn with
    | ind w ih =>
    intro t i u h' hw hi ht hrt hfr hu hok
    have hF' : XF h' := Fr_XF hF hfr (by decide +kernel)
    obtain ⟨a1, a2, a3, a4, a5, a6, a7⟩ := hok t ht
    have e1 := hu t ht
    by_cases he : u t = t
    · rw [he] at e1
      with_reducible refine xm_go_blk b_X1_find_4 k_X1_find_4 ?_
      refine by_iload_n rfl ?_
      refine by_sipush cs_14032 ?_
      refine by_ic_ge 51 rfl ?_
      simp (disch := first | exact Nat.ne_of_beq_eq_false rfl | omega) only [nI_add, xa_sub, xa_mul, pk_div, nm_mod, xa_shr, xa_and7, xa_and1, xa_and255, xa_by_and, nI_m1, Nat.add_sub_cancel, Nat.reducePow, Nat.zero_add, Nat.add_zero, Nat.reduceAdd, Nat.reduceMul, Nat.reduceSub, xf_same, xq_ff, xq_fo, xf_1, xf_2, xs_1, xs_2, xs_same, xq_so, xj_1, xj_2, xj_same, xq_jo, xq_sa1, xq_same, xq_other, upd_s, oI_n, oI_s, xv_0, xv_1, xv_2, xv_3, xm_p1, xm_p2, List.filter_cons, List.filter_nil, Nat.reduceBEq, Bool.not_true, Bool.not_false, Bool.and_true, Bool.and_false, Bool.false_and, Bool.true_and, if_true, if_false, Bool.false_eq_true, reduceIte, xc_i, xc_j, xc_r, xc_n, List.nil_append, List.cons_append, Option.toList_some, Option.toList_none, nI_ltJ, nI_leJ, nI_eqJ, nI_ltz, nI_gez, nI_gtz, nI_lez, nI_eqz, m1_ltz, m1_gez, true_imp_iff, false_imp_iff, true_and, and_true, ne_eq, not_false_eq_true, not_true_eq_false, Nat.reduceEqDiff, Nat.reduceLT, Nat.reduceLeDiff, xf_15_3 hF', e1]
      refine ⟨fun c => absurd c (by omega), fun c4 => ?_⟩
      with_reducible refine xm_go_blk b_X1_find_11 k_X1_find_11 ?_
      refine by_aload_n rfl ?_
      refine by_getf cn_41 fl_1_23 (by first | exact rfl | assumption) (by decide) ?_
      refine by_iload_n rfl ?_
      simp (disch := first | exact Nat.ne_of_beq_eq_false rfl | omega) only [nI_add, xa_sub, xa_mul, pk_div, nm_mod, xa_shr, xa_and7, xa_and1, xa_and255, xa_by_and, nI_m1, Nat.add_sub_cancel, Nat.reducePow, Nat.zero_add, Nat.add_zero, Nat.reduceAdd, Nat.reduceMul, Nat.reduceSub, xf_same, xq_ff, xq_fo, xf_1, xf_2, xs_1, xs_2, xs_same, xq_so, xj_1, xj_2, xj_same, xq_jo, xq_sa1, xq_same, xq_other, upd_s, oI_n, oI_s, xf_15_3 hF', e1]
      first | refine by_iald (by first | exact rfl | assumption | exact ps_1 hpp | exact ps_2 hpp | exact ps_3 hpp | exact ps_4 hpp | exact ps_5 hpp | exact ps_6 hpp | exact ps_7 hpp | exact ps_8 hpp | exact ps_9 hpp | exact ps_10 hpp | exact ps_11 hpp | exact ps_15 hpp | exact ps_16 hpp | exact ps_17 hpp | exact ps_18 hpp | exact ps_19 hpp | exact ps_21 hpp | exact ps_22 hpp | exact ps_23 hpp | exact ps_24 hpp) ⟨by omega, by omega⟩ ?_ | refine by_tald rfl rfl ⟨by omega, by omega⟩ ?_
      refine by_iload_n rfl ?_
      refine by_ic_eq 51 rfl ?_
      simp (disch := first | exact Nat.ne_of_beq_eq_false rfl | omega) only [nI_add, xa_sub, xa_mul, pk_div, nm_mod, xa_shr, xa_and7, xa_and1, xa_and255, xa_by_and, nI_m1, Nat.add_sub_cancel, Nat.reducePow, Nat.zero_add, Nat.add_zero, Nat.reduceAdd, Nat.reduceMul, Nat.reduceSub, xf_same, xq_ff, xq_fo, xf_1, xf_2, xs_1, xs_2, xs_same, xq_so, xj_1, xj_2, xj_same, xq_jo, xq_sa1, xq_same, xq_other, upd_s, oI_n, oI_s, xv_0, xv_1, xv_2, xv_3, xm_p1, xm_p2, List.filter_cons, List.filter_nil, Nat.reduceBEq, Bool.not_true, Bool.not_false, Bool.and_true, Bool.and_false, Bool.false_and, Bool.true_and, if_true, if_false, Bool.false_eq_true, reduceIte, xc_i, xc_j, xc_r, xc_n, List.nil_append, List.cons_append, Option.toList_some, Option.toList_none, nI_ltJ, nI_leJ, nI_eqJ, nI_ltz, nI_gez, nI_gtz, nI_lez, nI_eqz, m1_ltz, m1_gez, true_imp_iff, false_imp_iff, true_and, and_true, ne_eq, not_false_eq_true, not_true_eq_false, Nat.reduceEqDiff, Nat.reduceLT, Nat.reduceLeDiff, xf_15_3 hF', e1]
      with_reducible refine xm_go_blk b_X1_find_51 k_X1_find_51 ?_
      refine by_iload_n rfl ?_
      refine by_iret ry_41 (by first | rfl | assumption) ?_
      rw [← hrt, a5.mp he] at hp
      exact hp h' u hfr hu hok
    · have hne : (nI (u t) = nI t) = False := by rw [nI_eqJ (by omega) (by omega)]; exact eq_false he
      have e2 := hu (u t) a1
      obtain ⟨b1, b2, b3, b4, b5, b6, b7⟩ := hok (u t) a1
      have he' : (u t = t) = False := eq_false he
      have h7 := a7 he
      have h8 : dd (u t) ≤ dd (u (u t)) := by
        by_cases e2 : u (u t) = u t
        · rw [e2]; exact Nat.le_refl _
        · exact Nat.le_of_lt (b7 e2)
      have hm2 := (hok (u (u t)) b1).2.2.2.2.2.1
      with_reducible refine xm_go_blk b_X1_find_4 k_X1_find_4 ?_
      refine by_iload_n rfl ?_
      refine by_sipush cs_14032 ?_
      refine by_ic_ge 51 rfl ?_
      simp (disch := first | exact Nat.ne_of_beq_eq_false rfl | omega) only [nI_add, xa_sub, xa_mul, pk_div, nm_mod, xa_shr, xa_and7, xa_and1, xa_and255, xa_by_and, nI_m1, Nat.add_sub_cancel, Nat.reducePow, Nat.zero_add, Nat.add_zero, Nat.reduceAdd, Nat.reduceMul, Nat.reduceSub, xf_same, xq_ff, xq_fo, xf_1, xf_2, xs_1, xs_2, xs_same, xq_so, xj_1, xj_2, xj_same, xq_jo, xq_sa1, xq_same, xq_other, upd_s, oI_n, oI_s, xv_0, xv_1, xv_2, xv_3, xm_p1, xm_p2, List.filter_cons, List.filter_nil, Nat.reduceBEq, Bool.not_true, Bool.not_false, Bool.and_true, Bool.and_false, Bool.false_and, Bool.true_and, if_true, if_false, Bool.false_eq_true, reduceIte, xc_i, xc_j, xc_r, xc_n, List.nil_append, List.cons_append, Option.toList_some, Option.toList_none, nI_ltJ, nI_leJ, nI_eqJ, nI_ltz, nI_gez, nI_gtz, nI_lez, nI_eqz, m1_ltz, m1_gez, true_imp_iff, false_imp_iff, true_and, and_true, ne_eq, not_false_eq_true, not_true_eq_false, Nat.reduceEqDiff, Nat.reduceLT, Nat.reduceLeDiff, xf_15_3 hF', e1, e2, he']
      refine ⟨fun c => absurd c (by omega), fun c4 => ?_⟩
      with_reducible refine xm_go_blk b_X1_find_11 k_X1_find_11 ?_
      refine by_aload_n rfl ?_
      refine by_getf cn_41 fl_1_23 (by first | exact rfl | assumption) (by decide) ?_
      refine by_iload_n rfl ?_
      simp (disch := first | exact Nat.ne_of_beq_eq_false rfl | omega) only [nI_add, xa_sub, xa_mul, pk_div, nm_mod, xa_shr, xa_and7, xa_and1, xa_and255, xa_by_and, nI_m1, Nat.add_sub_cancel, Nat.reducePow, Nat.zero_add, Nat.add_zero, Nat.reduceAdd, Nat.reduceMul, Nat.reduceSub, xf_same, xq_ff, xq_fo, xf_1, xf_2, xs_1, xs_2, xs_same, xq_so, xj_1, xj_2, xj_same, xq_jo, xq_sa1, xq_same, xq_other, upd_s, oI_n, oI_s, xf_15_3 hF', e1, e2, he']
      first | refine by_iald (by first | exact rfl | assumption | exact ps_1 hpp | exact ps_2 hpp | exact ps_3 hpp | exact ps_4 hpp | exact ps_5 hpp | exact ps_6 hpp | exact ps_7 hpp | exact ps_8 hpp | exact ps_9 hpp | exact ps_10 hpp | exact ps_11 hpp | exact ps_15 hpp | exact ps_16 hpp | exact ps_17 hpp | exact ps_18 hpp | exact ps_19 hpp | exact ps_21 hpp | exact ps_22 hpp | exact ps_23 hpp | exact ps_24 hpp) ⟨by omega, by omega⟩ ?_ | refine by_tald rfl rfl ⟨by omega, by omega⟩ ?_
      refine by_iload_n rfl ?_
      refine by_ic_eq 51 rfl ?_
      simp (disch := first | exact Nat.ne_of_beq_eq_false rfl | omega) only [nI_add, xa_sub, xa_mul, pk_div, nm_mod, xa_shr, xa_and7, xa_and1, xa_and255, xa_by_and, nI_m1, Nat.add_sub_cancel, Nat.reducePow, Nat.zero_add, Nat.add_zero, Nat.reduceAdd, Nat.reduceMul, Nat.reduceSub, xf_same, xq_ff, xq_fo, xf_1, xf_2, xs_1, xs_2, xs_same, xq_so, xj_1, xj_2, xj_same, xq_jo, xq_sa1, xq_same, xq_other, upd_s, oI_n, oI_s, xv_0, xv_1, xv_2, xv_3, xm_p1, xm_p2, List.filter_cons, List.filter_nil, Nat.reduceBEq, Bool.not_true, Bool.not_false, Bool.and_true, Bool.and_false, Bool.false_and, Bool.true_and, if_true, if_false, Bool.false_eq_true, reduceIte, xc_i, xc_j, xc_r, xc_n, List.nil_append, List.cons_append, Option.toList_some, Option.toList_none, nI_ltJ, nI_leJ, nI_eqJ, nI_ltz, nI_gez, nI_gtz, nI_lez, nI_eqz, m1_ltz, m1_gez, true_imp_iff, false_imp_iff, true_and, and_true, ne_eq, not_false_eq_true, not_true_eq_false, Nat.reduceEqDiff, Nat.reduceLT, Nat.reduceLeDiff, xf_15_3 hF', e1, e2, he']
      with_reducible refine xm_go_blk b_X1_find_21 k_X1_find_21 ?_
      refine by_aload_n rfl ?_
      refine by_getf cn_41 fl_1_23 (by first | exact rfl | assumption) (by decide) ?_
      refine by_iload_n rfl ?_
      refine by_aload_n rfl ?_
      refine by_getf cn_41 fl_1_23 (by first | exact rfl | assumption) (by decide) ?_
      refine by_aload_n rfl ?_
      refine by_getf cn_41 fl_1_23 (by first | exact rfl | assumption) (by decide) ?_
      refine by_iload_n rfl ?_
      simp (disch := first | exact Nat.ne_of_beq_eq_false rfl | omega) only [nI_add, xa_sub, xa_mul, pk_div, nm_mod, xa_shr, xa_and7, xa_and1, xa_and255, xa_by_and, nI_m1, Nat.add_sub_cancel, Nat.reducePow, Nat.zero_add, Nat.add_zero, Nat.reduceAdd, Nat.reduceMul, Nat.reduceSub, xf_same, xq_ff, xq_fo, xf_1, xf_2, xs_1, xs_2, xs_same, xq_so, xj_1, xj_2, xj_same, xq_jo, xq_sa1, xq_same, xq_other, upd_s, oI_n, oI_s, xf_15_3 hF', e1, e2, he']
      first | refine by_iald (by first | exact rfl | assumption | exact ps_1 hpp | exact ps_2 hpp | exact ps_3 hpp | exact ps_4 hpp | exact ps_5 hpp | exact ps_6 hpp | exact ps_7 hpp | exact ps_8 hpp | exact ps_9 hpp | exact ps_10 hpp | exact ps_11 hpp | exact ps_15 hpp | exact ps_16 hpp | exact ps_17 hpp | exact ps_18 hpp | exact ps_19 hpp | exact ps_21 hpp | exact ps_22 hpp | exact ps_23 hpp | exact ps_24 hpp) ⟨by omega, by omega⟩ ?_ | refine by_tald rfl rfl ⟨by omega, by omega⟩ ?_
      simp (disch := first | exact Nat.ne_of_beq_eq_false rfl | omega) only [nI_add, xa_sub, xa_mul, pk_div, nm_mod, xa_shr, xa_and7, xa_and1, xa_and255, xa_by_and, nI_m1, Nat.add_sub_cancel, Nat.reducePow, Nat.zero_add, Nat.add_zero, Nat.reduceAdd, Nat.reduceMul, Nat.reduceSub, xf_same, xq_ff, xq_fo, xf_1, xf_2, xs_1, xs_2, xs_same, xq_so, xj_1, xj_2, xj_same, xq_jo, xq_sa1, xq_same, xq_other, upd_s, oI_n, oI_s, xf_15_3 hF', e1, e2, he']
      first | refine by_iald (by first | exact rfl | assumption | exact ps_1 hpp | exact ps_2 hpp | exact ps_3 hpp | exact ps_4 hpp | exact ps_5 hpp | exact ps_6 hpp | exact ps_7 hpp | exact ps_8 hpp | exact ps_9 hpp | exact ps_10 hpp | exact ps_11 hpp | exact ps_15 hpp | exact ps_16 hpp | exact ps_17 hpp | exact ps_18 hpp | exact ps_19 hpp | exact ps_21 hpp | exact ps_22 hpp | exact ps_23 hpp | exact ps_24 hpp) ⟨by omega, by omega⟩ ?_ | refine by_tald rfl rfl ⟨by omega, by omega⟩ ?_
      refine by_iast (by first | exact rfl | assumption | exact ps_1 hpp | exact ps_2 hpp | exact ps_3 hpp | exact ps_4 hpp | exact ps_5 hpp | exact ps_6 hpp | exact ps_7 hpp | exact ps_8 hpp | exact ps_9 hpp | exact ps_10 hpp | exact ps_11 hpp | exact ps_15 hpp | exact ps_16 hpp | exact ps_17 hpp | exact ps_18 hpp | exact ps_19 hpp | exact ps_21 hpp | exact ps_22 hpp | exact ps_23 hpp | exact ps_24 hpp) ⟨by omega, by omega⟩ ?_
      refine by_aload_n rfl ?_
      refine by_getf cn_41 fl_1_23 (by first | exact rfl | assumption) (by decide) ?_
      refine by_iload_n rfl ?_
      simp (disch := first | exact Nat.ne_of_beq_eq_false rfl | omega) only [nI_add, xa_sub, xa_mul, pk_div, nm_mod, xa_shr, xa_and7, xa_and1, xa_and255, xa_by_and, nI_m1, Nat.add_sub_cancel, Nat.reducePow, Nat.zero_add, Nat.add_zero, Nat.reduceAdd, Nat.reduceMul, Nat.reduceSub, xf_same, xq_ff, xq_fo, xf_1, xf_2, xs_1, xs_2, xs_same, xq_so, xj_1, xj_2, xj_same, xq_jo, xq_sa1, xq_same, xq_other, upd_s, oI_n, oI_s, xf_15_3 hF', e1, e2, he']
      first | refine by_iald (by first | exact rfl | assumption | exact ps_1 hpp | exact ps_2 hpp | exact ps_3 hpp | exact ps_4 hpp | exact ps_5 hpp | exact ps_6 hpp | exact ps_7 hpp | exact ps_8 hpp | exact ps_9 hpp | exact ps_10 hpp | exact ps_11 hpp | exact ps_15 hpp | exact ps_16 hpp | exact ps_17 hpp | exact ps_18 hpp | exact ps_19 hpp | exact ps_21 hpp | exact ps_22 hpp | exact ps_23 hpp | exact ps_24 hpp) ⟨by omega, by omega⟩ ?_ | refine by_tald rfl rfl ⟨by omega, by omega⟩ ?_
      refine by_istore_n (by rw [ml_41]; decide) ?_
      refine by_iinc (by rw [ml_41]; decide) rfl ci_1 ?_
      refine by_goto 4 rfl ?_
      simp (disch := first | exact Nat.ne_of_beq_eq_false rfl | omega) only [nI_add, xa_sub, xa_mul, pk_div, nm_mod, xa_shr, xa_and7, xa_and1, xa_and255, xa_by_and, nI_m1, Nat.add_sub_cancel, Nat.reducePow, Nat.zero_add, Nat.add_zero, Nat.reduceAdd, Nat.reduceMul, Nat.reduceSub, xf_same, xq_ff, xq_fo, xf_1, xf_2, xs_1, xs_2, xs_same, xq_so, xj_1, xj_2, xj_same, xq_jo, xq_sa1, xq_same, xq_other, upd_s, oI_n, oI_s, xv_0, xv_1, xv_2, xv_3, xm_p1, xm_p2, List.filter_cons, List.filter_nil, Nat.reduceBEq, Bool.not_true, Bool.not_false, Bool.and_true, Bool.and_false, Bool.false_and, Bool.true_and, if_true, if_false, Bool.false_eq_true, reduceIte, xc_i, xc_j, xc_r, xc_n, List.nil_append, List.cons_append, Option.toList_some, Option.toList_none, xf_15_3 hF', e1, e2, he']
      refine xm_go_wk (by simp) (ih (m - dd (u (u t))) (by omega) (u (u t)) (i + 1) (updN u t (u (u t))) _ rfl (by omega) b1 (by rw [b4, a4, hrt]) (Fr_si hfr (by decide)) (upA_si hu) (uf_half hok ht he))
  refine xq_in rfl ?_
  simp only [xq_a0, xq_aI, xq_aJ, xq_aR, Nat.reduceAdd]
  with_reducible refine xm_go_blk b_X1_find_0 k_X1_find_0 ?_
  refine by_iload_n rfl ?_
  refine by_istore_n (by rw [ml_41]; decide) ?_
  refine by_iconst ci_0 ?_
  refine by_istore_n (by rw [ml_41]; decide) ?_
  refine by_nil ?_
  simp (disch := first | exact Nat.ne_of_beq_eq_false rfl | omega) only [nI_add, xa_sub, xa_mul, pk_div, nm_mod, xa_shr, xa_and7, xa_and1, xa_and255, xa_by_and, nI_m1, Nat.add_sub_cancel, Nat.reducePow, Nat.zero_add, Nat.add_zero, Nat.reduceAdd, Nat.reduceMul, Nat.reduceSub, xf_same, xq_ff, xq_fo, xf_1, xf_2, xs_1, xs_2, xs_same, xq_so, xj_1, xj_2, xj_same, xq_jo, xq_sa1, xq_same, xq_other, upd_s, oI_n, oI_s, xv_0, xv_1, xv_2, xv_3, xm_p1, xm_p2, List.filter_cons, List.filter_nil, Nat.reduceBEq, Bool.not_true, Bool.not_false, Bool.and_true, Bool.and_false, Bool.false_and, Bool.true_and, if_true, if_false, Bool.false_eq_true, reduceIte, xc_i, xc_j, xc_r, xc_n, List.nil_append, List.cons_append, Option.toList_some, Option.toList_none]
  exact xm_go_wk (by simp) (key _ x 0 u h rfl (Nat.zero_le _) hx rfl Fr_rf hu hok)
/-- pairs that wait, on the finder's stack -/
def pdA (h : xm_H) (a : Nat) (pd : List (Nat × Nat)) : Prop := ∀ i, i < pd.length → h.1 a (2 * (pd.length - 1 - i)) = nI (pd.getD i (0, 0)).1 ∧ h.1 a (2 * (pd.length - 1 - i) + 1) = nI (pd.getD i (0, 0)).2
theorem pdA_push {h : xm_H} {a x y : Nat} {pd : List (Nat × Nat)} (hp : pdA h a pd) : pdA (xm_si (xm_si h a (2 * pd.length) (nI x)) a (2 * pd.length + 1) (nI y)) a ((x, y) :: pd) := by
  intro i hi
  cases i with
  | zero =>
    simp only [List.length_cons, Nat.add_sub_cancel, Nat.sub_zero, List.getD_cons_zero]
    exact ⟨by rw [xs_same, upd_o (by omega), xs_same, upd_s], by rw [xs_same, upd_s]⟩
  | succ i =>
    simp only [List.length_cons] at hi ⊢
    have e : pd.length + 1 - 1 - (i + 1) = pd.length - 1 - i := by omega
    rw [e, List.getD_cons_succ]
    obtain ⟨h1, h2⟩ := hp i (by omega)
    exact ⟨by rw [xs_same, upd_o (by omega), xs_same, upd_o (by omega), h1], by rw [xs_same, upd_o (by omega), xs_same, upd_o (by omega), h2]⟩
theorem pdA_pop {h : xm_H} {a : Nat} {q : Nat × Nat} {pd : List (Nat × Nat)} (hp : pdA h a (q :: pd)) : pdA h a pd := by
  intro i hi
  have := hp (i + 1) (by simp; omega)
  simp only [List.length_cons, List.getD_cons_succ] at this
  have e : pd.length + 1 - 1 - (i + 1) = pd.length - 1 - i := by omega
  rw [e] at this
  exact this
theorem sp_pushPair {sc : xm_Sc} {d x y : Nat} {pd : List (Nat × Nat)} {h : xm_H} {post : xm_Po} (hF : XF h) (ht : h.2.2 15 7 = .int (nI (2 * pd.length))) (hl : pd.length ≤ 14031) (hp : post none (xm_sf (xm_si (xm_si h 21 (2 * pd.length) (nI x)) 21 (2 * pd.length + 1) (nI y)) 15 7 (.int (nI (2 * (pd.length + 1)))))) : xm_T (XE sc) (d + 1) 44 [.ref 15, .int (nI x), .int (nI y)] h post := by
  refine xq_in rfl ?_
  simp only [xq_a0, xq_aI, xq_aJ, xq_aR, Nat.reduceAdd]
  with_reducible refine xm_go_blk b_X1_pushPair_0 k_X1_pushPair_0 ?_
  refine by_aload_n rfl ?_
  refine by_getf cn_44 fl_1_111 (by first | exact rfl | assumption) (by decide) ?_
  refine by_iconst ci_1 ?_
  simp (disch := first | exact Nat.ne_of_beq_eq_false rfl | omega) only [nI_add, xa_sub, xa_mul, pk_div, nm_mod, xa_shr, xa_and7, xa_and1, xa_and255, xa_by_and, nI_m1, Nat.add_sub_cancel, Nat.reducePow, Nat.zero_add, Nat.add_zero, Nat.reduceAdd, Nat.reduceMul, Nat.reduceSub, xf_same, xq_ff, xq_fo, xf_1, xf_2, xs_1, xs_2, xs_same, xq_so, xj_1, xj_2, xj_same, xq_jo, xq_sa1, xq_same, xq_other, upd_s, oI_n, oI_s, ht, xf_15_5 hF]
  refine by_iadd ?_
  refine by_sipush cs_28064 ?_
  refine by_ic_ge 44 rfl ?_
  simp (disch := first | exact Nat.ne_of_beq_eq_false rfl | omega) only [nI_add, xa_sub, xa_mul, pk_div, nm_mod, xa_shr, xa_and7, xa_and1, xa_and255, xa_by_and, nI_m1, Nat.add_sub_cancel, Nat.reducePow, Nat.zero_add, Nat.add_zero, Nat.reduceAdd, Nat.reduceMul, Nat.reduceSub, xf_same, xq_ff, xq_fo, xf_1, xf_2, xs_1, xs_2, xs_same, xq_so, xj_1, xj_2, xj_same, xq_jo, xq_sa1, xq_same, xq_other, upd_s, oI_n, oI_s, xv_0, xv_1, xv_2, xv_3, xm_p1, xm_p2, List.filter_cons, List.filter_nil, Nat.reduceBEq, Bool.not_true, Bool.not_false, Bool.and_true, Bool.and_false, Bool.false_and, Bool.true_and, if_true, if_false, Bool.false_eq_true, reduceIte, xc_i, xc_j, xc_r, xc_n, List.nil_append, List.cons_append, Option.toList_some, Option.toList_none, nI_ltJ, nI_leJ, nI_eqJ, nI_ltz, nI_gez, nI_gtz, nI_lez, nI_eqz, m1_ltz, m1_gez, true_imp_iff, false_imp_iff, true_and, and_true, ne_eq, not_false_eq_true, not_true_eq_false, Nat.reduceEqDiff, Nat.reduceLT, Nat.reduceLeDiff, ht, xf_15_5 hF]
  refine ⟨fun c => absurd c (by omega), fun c0 => ?_⟩
  with_reducible refine xm_go_blk b_X1_pushPair_12 k_X1_pushPair_12 ?_
  refine by_aload_n rfl ?_
  refine by_getf cn_44 fl_1_29 (by first | exact rfl | assumption) (by decide) ?_
  refine by_aload_n rfl ?_
  refine by_getf cn_44 fl_1_111 (by first | exact rfl | assumption) (by decide) ?_
  refine by_iload_n rfl ?_
  simp (disch := first | exact Nat.ne_of_beq_eq_false rfl | omega) only [nI_add, xa_sub, xa_mul, pk_div, nm_mod, xa_shr, xa_and7, xa_and1, xa_and255, xa_by_and, nI_m1, Nat.add_sub_cancel, Nat.reducePow, Nat.zero_add, Nat.add_zero, Nat.reduceAdd, Nat.reduceMul, Nat.reduceSub, xf_same, xq_ff, xq_fo, xf_1, xf_2, xs_1, xs_2, xs_same, xq_so, xj_1, xj_2, xj_same, xq_jo, xq_sa1, xq_same, xq_other, upd_s, oI_n, oI_s, ht, xf_15_5 hF]
  refine by_iast (by first | exact rfl | assumption | exact ps_1 hpp | exact ps_2 hpp | exact ps_3 hpp | exact ps_4 hpp | exact ps_5 hpp | exact ps_6 hpp | exact ps_7 hpp | exact ps_8 hpp | exact ps_9 hpp | exact ps_10 hpp | exact ps_11 hpp | exact ps_15 hpp | exact ps_16 hpp | exact ps_17 hpp | exact ps_18 hpp | exact ps_19 hpp | exact ps_21 hpp | exact ps_22 hpp | exact ps_23 hpp | exact ps_24 hpp) ⟨by omega, by omega⟩ ?_
  refine by_aload_n rfl ?_
  refine by_getf cn_44 fl_1_29 (by first | exact rfl | assumption) (by decide) ?_
  refine by_aload_n rfl ?_
  refine by_getf cn_44 fl_1_111 (by first | exact rfl | assumption) (by decide) ?_
  refine by_iconst ci_1 ?_
  simp (disch := first | exact Nat.ne_of_beq_eq_false rfl | omega) only [nI_add, xa_sub, xa_mul, pk_div, nm_mod, xa_shr, xa_and7, xa_and1, xa_and255, xa_by_and, nI_m1, Nat.add_sub_cancel, Nat.reducePow, Nat.zero_add, Nat.add_zero, Nat.reduceAdd, Nat.reduceMul, Nat.reduceSub, xf_same, xq_ff, xq_fo, xf_1, xf_2, xs_1, xs_2, xs_same, xq_so, xj_1, xj_2, xj_same, xq_jo, xq_sa1, xq_same, xq_other, upd_s, oI_n, oI_s, ht, xf_15_5 hF]
  refine by_iadd ?_
  refine by_iload_n rfl ?_
  simp (disch := first | exact Nat.ne_of_beq_eq_false rfl | omega) only [nI_add, xa_sub, xa_mul, pk_div, nm_mod, xa_shr, xa_and7, xa_and1, xa_and255, xa_by_and, nI_m1, Nat.add_sub_cancel, Nat.reducePow, Nat.zero_add, Nat.add_zero, Nat.reduceAdd, Nat.reduceMul, Nat.reduceSub, xf_same, xq_ff, xq_fo, xf_1, xf_2, xs_1, xs_2, xs_same, xq_so, xj_1, xj_2, xj_same, xq_jo, xq_sa1, xq_same, xq_other, upd_s, oI_n, oI_s, ht, xf_15_5 hF]
  refine by_iast (by first | exact rfl | assumption | exact ps_1 hpp | exact ps_2 hpp | exact ps_3 hpp | exact ps_4 hpp | exact ps_5 hpp | exact ps_6 hpp | exact ps_7 hpp | exact ps_8 hpp | exact ps_9 hpp | exact ps_10 hpp | exact ps_11 hpp | exact ps_15 hpp | exact ps_16 hpp | exact ps_17 hpp | exact ps_18 hpp | exact ps_19 hpp | exact ps_21 hpp | exact ps_22 hpp | exact ps_23 hpp | exact ps_24 hpp) ⟨by omega, by omega⟩ ?_
  refine by_aload_n rfl ?_
  refine by_dup rfl ?_
  refine by_getf cn_44 fl_1_111 (by first | exact rfl | assumption) (by decide) ?_
  refine by_iconst ci_2 ?_
  simp (disch := first | exact Nat.ne_of_beq_eq_false rfl | omega) only [nI_add, xa_sub, xa_mul, pk_div, nm_mod, xa_shr, xa_and7, xa_and1, xa_and255, xa_by_and, nI_m1, Nat.add_sub_cancel, Nat.reducePow, Nat.zero_add, Nat.add_zero, Nat.reduceAdd, Nat.reduceMul, Nat.reduceSub, xf_same, xq_ff, xq_fo, xf_1, xf_2, xs_1, xs_2, xs_same, xq_so, xj_1, xj_2, xj_same, xq_jo, xq_sa1, xq_same, xq_other, upd_s, oI_n, oI_s, ht, xf_15_5 hF]
  refine by_iadd ?_
  refine by_putf cn_44 fl_1_111 (by first | exact rfl | assumption) (by decide) nf_1_7 ft_1_7 (by first | rfl | assumption) (by first | rfl | assumption) ?_
  refine by_nil ?_
  simp (disch := first | exact Nat.ne_of_beq_eq_false rfl | omega) only [nI_add, xa_sub, xa_mul, pk_div, nm_mod, xa_shr, xa_and7, xa_and1, xa_and255, xa_by_and, nI_m1, Nat.add_sub_cancel, Nat.reducePow, Nat.zero_add, Nat.add_zero, Nat.reduceAdd, Nat.reduceMul, Nat.reduceSub, xf_same, xq_ff, xq_fo, xf_1, xf_2, xs_1, xs_2, xs_same, xq_so, xj_1, xj_2, xj_same, xq_jo, xq_sa1, xq_same, xq_other, upd_s, oI_n, oI_s, xv_0, xv_1, xv_2, xv_3, xm_p1, xm_p2, List.filter_cons, List.filter_nil, Nat.reduceBEq, Bool.not_true, Bool.not_false, Bool.and_true, Bool.and_false, Bool.false_and, Bool.true_and, if_true, if_false, Bool.false_eq_true, reduceIte, xc_i, xc_j, xc_r, xc_n, List.nil_append, List.cons_append, Option.toList_some, Option.toList_none, ht, xf_15_5 hF]
  with_reducible refine xm_go_blk b_X1_pushPair_44 k_X1_pushPair_44 ?_
  refine by_ret ry_44 ?_
  exact hp
/-- the finder's terms: kinds, parts -/
def fnA (h : xm_H) (c : Nat) (k l r : Nat → Nat) : Prop := ∀ t, t < c → h.1 16 t = nI ((k t + 3) % 4) ∧ k t < 4 ∧ (2 ≤ k t → h.1 17 t = nI (l t) ∧ h.1 18 t = nI (r t) ∧ l t < c ∧ r t < c)
theorem fnA_fr {S : List Nat} {T : List (Nat × Nat)} {h h' : xm_H} {c : Nat} {k l r : Nat → Nat} (hA : fnA h c k l r) (hf : Fr S T h h') (h6 : 16 ∉ S) (h7 : 17 ∉ S) (h8 : 18 ∉ S) : fnA h' c k l r := by
  intro t ht
  obtain ⟨a1, a2, a3⟩ := hA t ht
  exact ⟨by rw [hf.1 _ h6, a1], a2, fun e => by rw [hf.1 _ h7, hf.1 _ h8]; exact a3 e⟩
theorem upA_fr {S : List Nat} {T : List (Nat × Nat)} {h h' : xm_H} {a c : Nat} {u : Nat → Nat} (hA : upA h a c u) (hf : Fr S T h h') (ha : a ∉ S) : upA h' a c u := fun t ht => by rw [hf.1 _ ha]; exact hA t ht
theorem pdA_fr {S : List Nat} {T : List (Nat × Nat)} {h h' : xm_H} {a : Nat} {pd : List (Nat × Nat)} (hA : pdA h a pd) (hf : Fr S T h h') (ha : a ∉ S) : pdA h' a pd := fun t ht => by rw [hf.1 _ ha]; exact hA t ht
/-- unification under way -/
def uniI (h h' : xm_H) (c : Nat) (k l r : Nat → Nat) (es : List (Nat × Nat)) (rt : Nat → Nat) (pd : List (Nat × Nat)) : Prop :=
  Fr [19, 21] [(15, 7)] h h' ∧ h'.2.2 15 7 = .int (nI (2 * pd.length)) ∧ pdA h' 21 pd ∧ (∀ q ∈ pd, q.1 < c ∧ q.2 < c) ∧ (∃ u dd m, upA h' 19 c u ∧ uf_ok c u rt dd m ∧ m + nr c rt = c) ∧ pd.length + nr c rt ≤ 14031 ∧ ty_JS c k l r rt es pd ∧ ty_JK c k l r rt es pd
