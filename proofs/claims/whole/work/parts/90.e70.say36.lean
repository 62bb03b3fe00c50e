/-! ===== say: the reference's merged ===== -/
def msG (h : xm_H) (cd : Nat → Nat) (u1 u2 : Nat → Option Nat) (tw : Nat → Nat) (a b : Nat) : Prop := cd a = cd b ∧ cd a ≠ 10 ∧ (cd a = 11 → ∀ k, k < 8 → h.1 110 (8 * a + k) = h.1 110 (8 * b + k)) ∧ (cd a ≠ 11 → (u1 a).map tw = (u1 b).map tw ∧ (u2 a).map tw = (u2 b).map tw ∧ (cd a = 12 → h.1 108 a = h.1 108 b) ∧ h.1 111 a = h.1 111 b ∧ h.1 112 a = h.1 112 b)
theorem msG_upd {h : xm_H} {cd : Nat → Nat} {u1 u2 : Nat → Option Nat} {tw : Nat → Nat} {n v a b : Nat} (ha : ∀ x, (u1 a = some x ∨ u2 a = some x) → x ≠ n) (hb : ∀ x, (u1 b = some x ∨ u2 b = some x) → x ≠ n) : msG h cd u1 u2 (updN tw n v) a b ↔ msG h cd u1 u2 tw a b := by
  unfold msG
  rw [opt_map_upd (fun x hx => ha x (Or.inl hx)), opt_map_upd (fun x hx => ha x (Or.inr hx)), opt_map_upd (fun x hx => hb x (Or.inl hx)), opt_map_upd (fun x hx => hb x (Or.inr hx))]
theorem mC_snN {c : Nat → Option Nat} {A : List Nat} {tw : Nat → Nat} {n : Nat} (hn : n ∉ A) (h0 : c n = none) : mC c (A ++ [n]) tw = mC c A tw := by
  funext m
  by_cases e : m = n
  · subst e
    rw [mC_i (by simp), mC_o hn, h0]; rfl
  · by_cases z : m ∈ A
    · rw [mC_i (by simp [z]), mC_i z]
    · rw [mC_o (by simp [z, e]), mC_o z]
theorem mC_snO {c : Nat → Option Nat} {A : List Nat} {tw : Nat → Nat} {n m : Nat} (e : m ≠ n) : mC c (A ++ [n]) tw m = mC c A tw m := by
  by_cases z : m ∈ A
  · rw [mC_i (by simp [z]), mC_i z]
  · rw [mC_o (by simp [z, e]), mC_o z]
theorem mC_tw2 {c : Nat → Option Nat} {A : List Nat} {tw tw' : Nat → Nat} (h : ∀ m ∈ A, ∀ x, c m = some x → tw x = tw' x) : mC c A tw = mC c A tw' := by
  funext m
  by_cases z : m ∈ A
  · rw [mC_i z, mC_i z]; exact omap_c (h m z)
  · rw [mC_o z, mC_o z]
def mmJ (h h' : xm_H) (N : Nat) (cd : Nat → Nat) (u1 u2 : Nat → Option Nat) (A : List Nat) (tw : Nat → Nat) : Prop := XF h' ∧ Fr [106, 107, 161] [] h h' ∧ chM h' N cd (mC u1 A tw) (mC u2 A tw) ∧ (∀ n ∈ A, h'.1 161 n = nI (tw n) ∧ tw n ∈ A) ∧ twR (msG h cd u1 u2) A tw
section MM
variable {sc : xm_Sc} {d N last n k : Nat} {cd tw : Nat → Nat} {u1 u2 e1 : Nat → Option Nat} {L A B : List Nat} {h g : xm_H} {post : xm_Po}
/-- the second child -/
theorem md_43 (hF : XF g) (hN : N ≤ 2000) (hn : n < N) (hnA : n ∉ A) (hc : chM g N cd e1 (mC u2 A tw)) (hA : ∀ x, u2 n = some x → x < N ∧ g.1 161 x = nI (tw x) ∧ tw x < N)
    (hp : ∀ g', Fr [107] [] g g' → chM g' N cd e1 (mC u2 (A ++ [n]) tw) → xm_go (XE sc) (xm_T (XE sc) (d + 2)) 261 post 69 [(3, .int (nI n)), (2, .int (nI k)), (0, .ref 102), (1, .int (nI last))] [] g') :
    xm_go (XE sc) (xm_T (XE sc) (d + 2)) 261 post 43 [(3, .int (nI n)), (2, .int (nI k)), (0, .ref 102), (1, .int (nI last))] [] g := by
  obtain ⟨a1, a2, a3, a4, a5, a6⟩ := hc n hn
  rw [mC_o hnA] at a5 a6
  with_reducible refine xm_go_blk b_X12_merged_43 k_X12_merged_43 ?_
  refine by_aload_n rfl ?_
  refine by_iload_n rfl ?_
  refine by_iconst ci_1 ?_
  refine by_inv2 cn_261 lk_12_229 (by rw [xe_cnt]; decide) is_214 np_214 cn_214 (by first | exact rfl | assumption) (Nat.le_of_ble_eq_true rfl) ?_
  refine sp_childOf (d := d + 1) hF hc hN hn (by decide) ?_
  rw [show chW e1 (mC u2 A tw) n 1 = mC u2 A tw n from rfl, mC_o hnA]
  cases e : u2 n with
  | none =>
    rw [show oI none = (-1 : Int32) from rfl]
    with_reducible refine xm_go_blk b_X12_merged_49 k_X12_merged_49 ?_
    refine by_if_lt 69 rfl ?_
    simp (disch := first | exact Nat.ne_of_beq_eq_false rfl | exact rfl | omega) only [nI_add, xa_sub, xa_mul, pk_div, nm_mod, xa_shr, xa_and7, xa_and1, xa_and255, xa_by_and, nI_m1, Nat.add_sub_cancel, Nat.reducePow, Nat.zero_add, Nat.add_zero, Nat.reduceAdd, Nat.reduceMul, Nat.reduceSub, xf_same, xq_ff, xq_fo, xf_1, xf_2, xs_1, xs_2, xs_same, xq_so, xj_1, xj_2, xj_same, xq_jo, xq_sa1, xq_same, xq_other, upd_s, oI_n, oI_s, xv_0, xv_1, xv_2, xv_3, xm_p1, xm_p2, xq_fp, xq_fn, List.filter_nil, Nat.reduceBEq, Bool.not_true, Bool.not_false, Bool.and_true, Bool.and_false, Bool.false_and, Bool.true_and, if_true, if_false, Bool.false_eq_true, reduceIte, xc_i, xc_j, xc_r, xc_n, List.nil_append, List.cons_append, Option.toList_some, Option.toList_none, nI_ltJ, nI_leJ, nI_eqJ, nI_ltz, nI_gez, nI_gtz, nI_lez, nI_eqz, m1_ltz, m1_gez, true_imp_iff, false_imp_iff, true_and, and_true, ne_eq, not_false_eq_true, not_true_eq_false, Nat.reduceEqDiff, Nat.reduceLT, Nat.reduceLeDiff, m1_gez, m1_ltz]
    exact hp g Fr_rf (by rw [mC_snN hnA e]; exact hc)
  | some x =>
    obtain ⟨x1, x2, x3⟩ := hA x e
    have hc2 : cd n ≤ 2 := by
      refine Classical.byContradiction fun z => ?_
      rw [a6 (by omega)] at e
      cases e
    have r7 := a5 hc2
    rw [e] at r7
    have r7 : g.1 107 n = nI x := r7
    rw [show oI (some x) = nI x from rfl]
    with_reducible refine xm_go_blk b_X12_merged_49 k_X12_merged_49 ?_
    refine by_if_lt 69 rfl ?_
    simp (disch := first | exact Nat.ne_of_beq_eq_false rfl | exact rfl | omega) only [nI_add, xa_sub, xa_mul, pk_div, nm_mod, xa_shr, xa_and7, xa_and1, xa_and255, xa_by_and, nI_m1, Nat.add_sub_cancel, Nat.reducePow, Nat.zero_add, Nat.add_zero, Nat.reduceAdd, Nat.reduceMul, Nat.reduceSub, xf_same, xq_ff, xq_fo, xf_1, xf_2, xs_1, xs_2, xs_same, xq_so, xj_1, xj_2, xj_same, xq_jo, xq_sa1, xq_same, xq_other, upd_s, oI_n, oI_s, xv_0, xv_1, xv_2, xv_3, xm_p1, xm_p2, xq_fp, xq_fn, List.filter_nil, Nat.reduceBEq, Bool.not_true, Bool.not_false, Bool.and_true, Bool.and_false, Bool.false_and, Bool.true_and, if_true, if_false, Bool.false_eq_true, reduceIte, xc_i, xc_j, xc_r, xc_n, List.nil_append, List.cons_append, Option.toList_some, Option.toList_none, nI_ltJ, nI_leJ, nI_eqJ, nI_ltz, nI_gez, nI_gtz, nI_lez, nI_eqz, m1_ltz, m1_gez, true_imp_iff, false_imp_iff, true_and, and_true, ne_eq, not_false_eq_true, not_true_eq_false, Nat.reduceEqDiff, Nat.reduceLT, Nat.reduceLeDiff, xf_102_8 hF, xf_102_91 hF, r7, x2]
    with_reducible refine xm_go_blk b_X12_merged_52 k_X12_merged_52 ?_
    refine by_aload_n rfl ?_
    refine by_getf cn_261 fl_12_22 (by first | exact rfl | assumption) (by decide) ?_
    refine by_iload_n rfl ?_
    refine by_aload_n rfl ?_
    refine by_getf cn_261 fl_12_190 (by first | exact rfl | assumption) (by decide) ?_
    refine by_aload_n rfl ?_
    refine by_getf cn_261 fl_12_22 (by first | exact rfl | assumption) (by decide) ?_
    refine by_iload_n rfl ?_
    simp (disch := first | exact Nat.ne_of_beq_eq_false rfl | exact rfl | omega) only [nI_add, xa_sub, xa_mul, pk_div, nm_mod, xa_shr, xa_and7, xa_and1, xa_and255, xa_by_and, nI_m1, Nat.add_sub_cancel, Nat.reducePow, Nat.zero_add, Nat.add_zero, Nat.reduceAdd, Nat.reduceMul, Nat.reduceSub, xf_same, xq_ff, xq_fo, xf_1, xf_2, xs_1, xs_2, xs_same, xq_so, xj_1, xj_2, xj_same, xq_jo, xq_sa1, xq_same, xq_other, upd_s, oI_n, oI_s, xf_102_8 hF, xf_102_91 hF, r7, x2]
    first | refine by_iald (by first | exact rfl | assumption | exact ps_1 hpp | exact ps_2 hpp | exact ps_3 hpp | exact ps_4 hpp | exact ps_5 hpp | exact ps_6 hpp | exact ps_7 hpp | exact ps_8 hpp | exact ps_9 hpp | exact ps_10 hpp | exact ps_11 hpp | exact ps_15 hpp | exact ps_16 hpp | exact ps_17 hpp | exact ps_18 hpp | exact ps_19 hpp | exact ps_21 hpp | exact ps_22 hpp | exact ps_23 hpp | exact ps_24 hpp) ⟨by omega, by omega⟩ ?_ | refine by_tald rfl rfl ⟨by omega, by omega⟩ ?_
    simp (disch := first | exact Nat.ne_of_beq_eq_false rfl | exact rfl | omega) only [nI_add, xa_sub, xa_mul, pk_div, nm_mod, xa_shr, xa_and7, xa_and1, xa_and255, xa_by_and, nI_m1, Nat.add_sub_cancel, Nat.reducePow, Nat.zero_add, Nat.add_zero, Nat.reduceAdd, Nat.reduceMul, Nat.reduceSub, xf_same, xq_ff, xq_fo, xf_1, xf_2, xs_1, xs_2, xs_same, xq_so, xj_1, xj_2, xj_same, xq_jo, xq_sa1, xq_same, xq_other, upd_s, oI_n, oI_s, xf_102_8 hF, xf_102_91 hF, r7, x2]
    first | refine by_iald (by first | exact rfl | assumption | exact ps_1 hpp | exact ps_2 hpp | exact ps_3 hpp | exact ps_4 hpp | exact ps_5 hpp | exact ps_6 hpp | exact ps_7 hpp | exact ps_8 hpp | exact ps_9 hpp | exact ps_10 hpp | exact ps_11 hpp | exact ps_15 hpp | exact ps_16 hpp | exact ps_17 hpp | exact ps_18 hpp | exact ps_19 hpp | exact ps_21 hpp | exact ps_22 hpp | exact ps_23 hpp | exact ps_24 hpp) ⟨by omega, by omega⟩ ?_ | refine by_tald rfl rfl ⟨by omega, by omega⟩ ?_
    refine by_iast (by first | exact rfl | assumption | exact ps_1 hpp | exact ps_2 hpp | exact ps_3 hpp | exact ps_4 hpp | exact ps_5 hpp | exact ps_6 hpp | exact ps_7 hpp | exact ps_8 hpp | exact ps_9 hpp | exact ps_10 hpp | exact ps_11 hpp | exact ps_15 hpp | exact ps_16 hpp | exact ps_17 hpp | exact ps_18 hpp | exact ps_19 hpp | exact ps_21 hpp | exact ps_22 hpp | exact ps_23 hpp | exact ps_24 hpp) ⟨by omega, by omega⟩ ?_
    refine by_nil ?_
    try simp (disch := first | exact Nat.ne_of_beq_eq_false rfl | exact rfl | omega) only [nI_add, xa_sub, xa_mul, pk_div, nm_mod, xa_shr, xa_and7, xa_and1, xa_and255, xa_by_and, nI_m1, Nat.add_sub_cancel, Nat.reducePow, Nat.zero_add, Nat.add_zero, Nat.reduceAdd, Nat.reduceMul, Nat.reduceSub, xf_same, xq_ff, xq_fo, xf_1, xf_2, xs_1, xs_2, xs_same, xq_so, xj_1, xj_2, xj_same, xq_jo, xq_sa1, xq_same, xq_other, upd_s, oI_n, oI_s, xv_0, xv_1, xv_2, xv_3, xm_p1, xm_p2, xq_fp, xq_fn, List.filter_nil, Nat.reduceBEq, Bool.not_true, Bool.not_false, Bool.and_true, Bool.and_false, Bool.false_and, Bool.true_and, if_true, if_false, Bool.false_eq_true, reduceIte, xc_i, xc_j, xc_r, xc_n, List.nil_append, List.cons_append, Option.toList_some, Option.toList_none, xf_102_8 hF, xf_102_91 hF, r7, x2]
    refine hp _ (Fr_si Fr_rf (by simp)) (fun m hm => ?_)
    obtain ⟨b1, b2, b3, b4, b5, b6⟩ := hc m hm
    by_cases q : m = n
    · subst q
      refine ⟨by rw [xq_so (by decide)]; exact b1, b2, fun z => by rw [xq_so (by decide)]; exact b3 z, b4, fun _ => ?_, fun z => by omega⟩
      rw [xs_same, upd_s, mC_i (by simp), e]; rfl
    · rw [mC_snO q]
      refine ⟨by rw [xq_so (by decide)]; exact b1, b2, fun z => by rw [xq_so (by decide)]; exact b3 z, b4, fun z => ?_, b6⟩
      rw [xs_same, upd_o q]; exact b5 z
/-- both children -/
theorem md_10 (hF : XF g) (hN : N ≤ 2000) (hn : n < N) (hnA : n ∉ A) (hc : chM g N cd (mC u1 A tw) (mC u2 A tw)) (hA : ∀ x, (u1 n = some x ∨ u2 n = some x) → x < N ∧ g.1 161 x = nI (tw x) ∧ tw x < N) (e3 : g.1 113 k = nI n) (hk : k < 2000)
    (hp : ∀ g', Fr [106, 107] [] g g' → chM g' N cd (mC u1 (A ++ [n]) tw) (mC u2 (A ++ [n]) tw) → xm_go (XE sc) (xm_T (XE sc) (d + 2)) 261 post 69 [(3, .int (nI n)), (2, .int (nI k)), (0, .ref 102), (1, .int (nI last))] [] g') :
    xm_go (XE sc) (xm_T (XE sc) (d + 2)) 261 post 10 [(2, .int (nI k)), (0, .ref 102), (1, .int (nI last))] [] g := by
  obtain ⟨a1, a2, a3, a4, a5, a6⟩ := hc n hn
  rw [mC_o hnA] at a3 a4
  with_reducible refine xm_go_blk b_X12_merged_10 k_X12_merged_10 ?_
  refine by_aload_n rfl ?_
  refine by_getf cn_261 fl_12_40 (by first | exact rfl | assumption) (by decide) ?_
  refine by_iload_n rfl ?_
  simp (disch := first | exact Nat.ne_of_beq_eq_false rfl | exact rfl | omega) only [nI_add, xa_sub, xa_mul, pk_div, nm_mod, xa_shr, xa_and7, xa_and1, xa_and255, xa_by_and, nI_m1, Nat.add_sub_cancel, Nat.reducePow, Nat.zero_add, Nat.add_zero, Nat.reduceAdd, Nat.reduceMul, Nat.reduceSub, xf_same, xq_ff, xq_fo, xf_1, xf_2, xs_1, xs_2, xs_same, xq_so, xj_1, xj_2, xj_same, xq_jo, xq_sa1, xq_same, xq_other, upd_s, oI_n, oI_s, xf_102_15 hF, e3]
  first | refine by_iald (by first | exact rfl | assumption | exact ps_1 hpp | exact ps_2 hpp | exact ps_3 hpp | exact ps_4 hpp | exact ps_5 hpp | exact ps_6 hpp | exact ps_7 hpp | exact ps_8 hpp | exact ps_9 hpp | exact ps_10 hpp | exact ps_11 hpp | exact ps_15 hpp | exact ps_16 hpp | exact ps_17 hpp | exact ps_18 hpp | exact ps_19 hpp | exact ps_21 hpp | exact ps_22 hpp | exact ps_23 hpp | exact ps_24 hpp) ⟨by omega, by omega⟩ ?_ | refine by_tald rfl rfl ⟨by omega, by omega⟩ ?_
  refine by_istore_n (by rw [ml_261]; decide) ?_
  refine by_aload_n rfl ?_
  refine by_iload_n rfl ?_
  refine by_iconst ci_0 ?_
  simp (disch := first | exact Nat.ne_of_beq_eq_false rfl | exact rfl | omega) only [nI_add, xa_sub, xa_mul, pk_div, nm_mod, xa_shr, xa_and7, xa_and1, xa_and255, xa_by_and, nI_m1, Nat.add_sub_cancel, Nat.reducePow, Nat.zero_add, Nat.add_zero, Nat.reduceAdd, Nat.reduceMul, Nat.reduceSub, xf_same, xq_ff, xq_fo, xf_1, xf_2, xs_1, xs_2, xs_same, xq_so, xj_1, xj_2, xj_same, xq_jo, xq_sa1, xq_same, xq_other, upd_s, oI_n, oI_s, xv_0, xv_1, xv_2, xv_3, xm_p1, xm_p2, xq_fp, xq_fn, List.filter_nil, Nat.reduceBEq, Bool.not_true, Bool.not_false, Bool.and_true, Bool.and_false, Bool.false_and, Bool.true_and, if_true, if_false, Bool.false_eq_true, reduceIte, xc_i, xc_j, xc_r, xc_n, List.nil_append, List.cons_append, Option.toList_some, Option.toList_none, xf_102_15 hF, e3]
  refine by_inv2 cn_261 lk_12_229 (by rw [xe_cnt]; decide) is_214 np_214 cn_214 (by first | exact rfl | assumption) (Nat.le_of_ble_eq_true rfl) ?_
  refine sp_childOf (d := d + 1) hF hc hN hn (by decide) ?_
  rw [show chW (mC u1 A tw) (mC u2 A tw) n 0 = mC u1 A tw n from rfl, mC_o hnA]
  cases e : u1 n with
  | none =>
    rw [show oI none = (-1 : Int32) from rfl]
    with_reducible refine xm_go_blk b_X12_merged_23 k_X12_merged_23 ?_
    refine by_if_lt 43 rfl ?_
    simp (disch := first | exact Nat.ne_of_beq_eq_false rfl | exact rfl | omega) only [nI_add, xa_sub, xa_mul, pk_div, nm_mod, xa_shr, xa_and7, xa_and1, xa_and255, xa_by_and, nI_m1, Nat.add_sub_cancel, Nat.reducePow, Nat.zero_add, Nat.add_zero, Nat.reduceAdd, Nat.reduceMul, Nat.reduceSub, xf_same, xq_ff, xq_fo, xf_1, xf_2, xs_1, xs_2, xs_same, xq_so, xj_1, xj_2, xj_same, xq_jo, xq_sa1, xq_same, xq_other, upd_s, oI_n, oI_s, xv_0, xv_1, xv_2, xv_3, xm_p1, xm_p2, xq_fp, xq_fn, List.filter_nil, Nat.reduceBEq, Bool.not_true, Bool.not_false, Bool.and_true, Bool.and_false, Bool.false_and, Bool.true_and, if_true, if_false, Bool.false_eq_true, reduceIte, xc_i, xc_j, xc_r, xc_n, List.nil_append, List.cons_append, Option.toList_some, Option.toList_none, nI_ltJ, nI_leJ, nI_eqJ, nI_ltz, nI_gez, nI_gtz, nI_lez, nI_eqz, m1_ltz, m1_gez, true_imp_iff, false_imp_iff, true_and, and_true, ne_eq, not_false_eq_true, not_true_eq_false, Nat.reduceEqDiff, Nat.reduceLT, Nat.reduceLeDiff, m1_gez, m1_ltz]
    refine md_43 (A := A) (u2 := u2) (tw := tw) hF hN hn hnA (by rw [← mC_snN (tw := tw) hnA e] at hc; exact hc) (fun x hx => hA x (Or.inr hx)) (fun g' f' hc' => hp g' (Fr_mo f' (by simp) (by simp)) hc')
  | some x =>
    obtain ⟨x1, x2, x3⟩ := hA x (Or.inl e)
    have hc6 : cd n ≤ 6 := by
      refine Classical.byContradiction fun z => ?_
      rw [a4 (by omega)] at e
      cases e
    have r6 := a3 hc6
    rw [e] at r6
    have r6 : g.1 106 n = nI x := r6
    rw [show oI (some x) = nI x from rfl]
    with_reducible refine xm_go_blk b_X12_merged_23 k_X12_merged_23 ?_
    refine by_if_lt 43 rfl ?_
    simp (disch := first | exact Nat.ne_of_beq_eq_false rfl | exact rfl | omega) only [nI_add, xa_sub, xa_mul, pk_div, nm_mod, xa_shr, xa_and7, xa_and1, xa_and255, xa_by_and, nI_m1, Nat.add_sub_cancel, Nat.reducePow, Nat.zero_add, Nat.add_zero, Nat.reduceAdd, Nat.reduceMul, Nat.reduceSub, xf_same, xq_ff, xq_fo, xf_1, xf_2, xs_1, xs_2, xs_same, xq_so, xj_1, xj_2, xj_same, xq_jo, xq_sa1, xq_same, xq_other, upd_s, oI_n, oI_s, xv_0, xv_1, xv_2, xv_3, xm_p1, xm_p2, xq_fp, xq_fn, List.filter_nil, Nat.reduceBEq, Bool.not_true, Bool.not_false, Bool.and_true, Bool.and_false, Bool.false_and, Bool.true_and, if_true, if_false, Bool.false_eq_true, reduceIte, xc_i, xc_j, xc_r, xc_n, List.nil_append, List.cons_append, Option.toList_some, Option.toList_none, nI_ltJ, nI_leJ, nI_eqJ, nI_ltz, nI_gez, nI_gtz, nI_lez, nI_eqz, m1_ltz, m1_gez, true_imp_iff, false_imp_iff, true_and, and_true, ne_eq, not_false_eq_true, not_true_eq_false, Nat.reduceEqDiff, Nat.reduceLT, Nat.reduceLeDiff, xf_102_7 hF, xf_102_91 hF, r6, x2]
    with_reducible refine xm_go_blk b_X12_merged_26 k_X12_merged_26 ?_
    refine by_aload_n rfl ?_
    refine by_getf cn_261 fl_12_19 (by first | exact rfl | assumption) (by decide) ?_
    refine by_iload_n rfl ?_
    refine by_aload_n rfl ?_
    refine by_getf cn_261 fl_12_190 (by first | exact rfl | assumption) (by decide) ?_
    refine by_aload_n rfl ?_
    refine by_getf cn_261 fl_12_19 (by first | exact rfl | assumption) (by decide) ?_
    refine by_iload_n rfl ?_
    simp (disch := first | exact Nat.ne_of_beq_eq_false rfl | exact rfl | omega) only [nI_add, xa_sub, xa_mul, pk_div, nm_mod, xa_shr, xa_and7, xa_and1, xa_and255, xa_by_and, nI_m1, Nat.add_sub_cancel, Nat.reducePow, Nat.zero_add, Nat.add_zero, Nat.reduceAdd, Nat.reduceMul, Nat.reduceSub, xf_same, xq_ff, xq_fo, xf_1, xf_2, xs_1, xs_2, xs_same, xq_so, xj_1, xj_2, xj_same, xq_jo, xq_sa1, xq_same, xq_other, upd_s, oI_n, oI_s, xf_102_7 hF, xf_102_91 hF, r6, x2]
    first | refine by_iald (by first | exact rfl | assumption | exact ps_1 hpp | exact ps_2 hpp | exact ps_3 hpp | exact ps_4 hpp | exact ps_5 hpp | exact ps_6 hpp | exact ps_7 hpp | exact ps_8 hpp | exact ps_9 hpp | exact ps_10 hpp | exact ps_11 hpp | exact ps_15 hpp | exact ps_16 hpp | exact ps_17 hpp | exact ps_18 hpp | exact ps_19 hpp | exact ps_21 hpp | exact ps_22 hpp | exact ps_23 hpp | exact ps_24 hpp) ⟨by omega, by omega⟩ ?_ | refine by_tald rfl rfl ⟨by omega, by omega⟩ ?_
    simp (disch := first | exact Nat.ne_of_beq_eq_false rfl | exact rfl | omega) only [nI_add, xa_sub, xa_mul, pk_div, nm_mod, xa_shr, xa_and7, xa_and1, xa_and255, xa_by_and, nI_m1, Nat.add_sub_cancel, Nat.reducePow, Nat.zero_add, Nat.add_zero, Nat.reduceAdd, Nat.reduceMul, Nat.reduceSub, xf_same, xq_ff, xq_fo, xf_1, xf_2, xs_1, xs_2, xs_same, xq_so, xj_1, xj_2, xj_same, xq_jo, xq_sa1, xq_same, xq_other, upd_s, oI_n, oI_s, xf_102_7 hF, xf_102_91 hF, r6, x2]
    first | refine by_iald (by first | exact rfl | assumption | exact ps_1 hpp | exact ps_2 hpp | exact ps_3 hpp | exact ps_4 hpp | exact ps_5 hpp | exact ps_6 hpp | exact ps_7 hpp | exact ps_8 hpp | exact ps_9 hpp | exact ps_10 hpp | exact ps_11 hpp | exact ps_15 hpp | exact ps_16 hpp | exact ps_17 hpp | exact ps_18 hpp | exact ps_19 hpp | exact ps_21 hpp | exact ps_22 hpp | exact ps_23 hpp | exact ps_24 hpp) ⟨by omega, by omega⟩ ?_ | refine by_tald rfl rfl ⟨by omega, by omega⟩ ?_
    refine by_iast (by first | exact rfl | assumption | exact ps_1 hpp | exact ps_2 hpp | exact ps_3 hpp | exact ps_4 hpp | exact ps_5 hpp | exact ps_6 hpp | exact ps_7 hpp | exact ps_8 hpp | exact ps_9 hpp | exact ps_10 hpp | exact ps_11 hpp | exact ps_15 hpp | exact ps_16 hpp | exact ps_17 hpp | exact ps_18 hpp | exact ps_19 hpp | exact ps_21 hpp | exact ps_22 hpp | exact ps_23 hpp | exact ps_24 hpp) ⟨by omega, by omega⟩ ?_
    refine by_nil ?_
    try simp (disch := first | exact Nat.ne_of_beq_eq_false rfl | exact rfl | omega) only [nI_add, xa_sub, xa_mul, pk_div, nm_mod, xa_shr, xa_and7, xa_and1, xa_and255, xa_by_and, nI_m1, Nat.add_sub_cancel, Nat.reducePow, Nat.zero_add, Nat.add_zero, Nat.reduceAdd, Nat.reduceMul, Nat.reduceSub, xf_same, xq_ff, xq_fo, xf_1, xf_2, xs_1, xs_2, xs_same, xq_so, xj_1, xj_2, xj_same, xq_jo, xq_sa1, xq_same, xq_other, upd_s, oI_n, oI_s, xv_0, xv_1, xv_2, xv_3, xm_p1, xm_p2, xq_fp, xq_fn, List.filter_nil, Nat.reduceBEq, Bool.not_true, Bool.not_false, Bool.and_true, Bool.and_false, Bool.false_and, Bool.true_and, if_true, if_false, Bool.false_eq_true, reduceIte, xc_i, xc_j, xc_r, xc_n, List.nil_append, List.cons_append, Option.toList_some, Option.toList_none, xf_102_7 hF, xf_102_91 hF, r6, x2]
    have f1 : Fr [106] [] g (xm_si g 106 n (nI (tw x))) := Fr_si Fr_rf (by simp)
    refine md_43 (A := A) (u2 := u2) (tw := tw) (e1 := mC u1 (A ++ [n]) tw) (Fr_XF hF f1 (by decide +kernel)) hN hn hnA (fun m hm => ?_) (fun y hy => by rw [f1.1 161 (by simp)]; exact hA y (Or.inr hy)) (fun g' f' hc' => hp g' (Fr_tr (Fr_mo f1 (by simp) (by simp)) f' (by simp) (by simp)) hc')
    obtain ⟨b1, b2, b3, b4, b5, b6⟩ := hc m hm
    by_cases q : m = n
    · subst q
      refine ⟨by rw [xq_so (by decide)]; exact b1, b2, fun _ => ?_, fun z => by omega, fun z => by rw [xq_so (by decide)]; exact b5 z, b6⟩
      rw [xs_same, upd_s, mC_i (by simp), e]; rfl
    · rw [mC_snO q]
      refine ⟨by rw [xq_so (by decide)]; exact b1, b2, fun z => ?_, b4, fun z => by rw [xq_so (by decide)]; exact b5 z, b6⟩
      rw [xs_same, upd_o q]; exact b3 z
theorem sp_merged (hF : XF h) (hN : N ≤ 2000) (hc : chM h N cd u1 u2) (hcN : df_cN u1 u2 N) (hLl : h.2.2 102 14 = .int (nI L.length)) (hrow : ∀ i, i < L.length → h.1 113 i = nI (L.getD i 0)) (hLN : ∀ x ∈ L, x < N) (hnd : L.Nodup) (hcl : df_cl u1 u2 L) (hla : last ∈ L)
    (hp : ∀ h' tw, mmJ h h' N cd u1 u2 L tw → post (some (.int (nI (tw last)))) h') : xm_T (XE sc) (d + 3) 261 [.ref 102, .int (nI last)] h post := by
  have hlen : L.length ≤ 2000 := Nat.le_trans (nd_len N L hnd hLN) hN
  have run : ∀ (B A : List Nat) (h' : xm_H) (tw : Nat → Nat), L = A ++ B → mmJ h h' N cd u1 u2 A tw → xm_go (XE sc) (xm_T (XE sc) (d + 2)) 261 post 2 [(2, .int (nI A.length)), (0, .ref 102), (1, .int (nI last))] [] h' := by
    intro B
    induction B with
    | nil =>
      intro A h' tw hAB hJ
      rw [List.append_nil] at hAB
      subst hAB
      have e14 : h'.2.2 102 14 = .int (nI L.length) := by rw [hJ.2.1.2.2 _ _ (by simp)]; exact hLl
      have e161 := (hJ.2.2.2.1 last hla).1
      have ll := hLN last hla
      with_reducible refine xm_go_blk b_X12_merged_2 k_X12_merged_2 ?_
      refine by_iload_n rfl ?_
      refine by_aload_n rfl ?_
      refine by_getf cn_261 fl_12_226 (by first | exact rfl | assumption) (by decide) ?_
      simp (disch := first | exact Nat.ne_of_beq_eq_false rfl | exact rfl | omega) only [nI_add, xa_sub, xa_mul, pk_div, nm_mod, xa_shr, xa_and7, xa_and1, xa_and255, xa_by_and, nI_m1, Nat.add_sub_cancel, Nat.reducePow, Nat.zero_add, Nat.add_zero, Nat.reduceAdd, Nat.reduceMul, Nat.reduceSub, xf_same, xq_ff, xq_fo, xf_1, xf_2, xs_1, xs_2, xs_same, xq_so, xj_1, xj_2, xj_same, xq_jo, xq_sa1, xq_same, xq_other, upd_s, oI_n, oI_s, e14, xf_102_91 hJ.1, e161]
      refine by_ic_ge 136 rfl ?_
      simp (disch := first | exact Nat.ne_of_beq_eq_false rfl | exact rfl | omega) only [nI_add, xa_sub, xa_mul, pk_div, nm_mod, xa_shr, xa_and7, xa_and1, xa_and255, xa_by_and, nI_m1, Nat.add_sub_cancel, Nat.reducePow, Nat.zero_add, Nat.add_zero, Nat.reduceAdd, Nat.reduceMul, Nat.reduceSub, xf_same, xq_ff, xq_fo, xf_1, xf_2, xs_1, xs_2, xs_same, xq_so, xj_1, xj_2, xj_same, xq_jo, xq_sa1, xq_same, xq_other, upd_s, oI_n, oI_s, xv_0, xv_1, xv_2, xv_3, xm_p1, xm_p2, xq_fp, xq_fn, List.filter_nil, Nat.reduceBEq, Bool.not_true, Bool.not_false, Bool.and_true, Bool.and_false, Bool.false_and, Bool.true_and, if_true, if_false, Bool.false_eq_true, reduceIte, xc_i, xc_j, xc_r, xc_n, List.nil_append, List.cons_append, Option.toList_some, Option.toList_none, nI_ltJ, nI_leJ, nI_eqJ, nI_ltz, nI_gez, nI_gtz, nI_lez, nI_eqz, m1_ltz, m1_gez, true_imp_iff, false_imp_iff, true_and, and_true, ne_eq, not_false_eq_true, not_true_eq_false, Nat.reduceEqDiff, Nat.reduceLT, Nat.reduceLeDiff, e14, xf_102_91 hJ.1, e161]
      refine ⟨fun c2 => ?_, fun c => absurd (by omega) c⟩
      with_reducible refine xm_go_blk b_X12_merged_136 k_X12_merged_136 ?_
      refine by_aload_n rfl ?_
      refine by_getf cn_261 fl_12_190 (by first | exact rfl | assumption) (by decide) ?_
      refine by_iload_n rfl ?_
      simp (disch := first | exact Nat.ne_of_beq_eq_false rfl | exact rfl | omega) only [nI_add, xa_sub, xa_mul, pk_div, nm_mod, xa_shr, xa_and7, xa_and1, xa_and255, xa_by_and, nI_m1, Nat.add_sub_cancel, Nat.reducePow, Nat.zero_add, Nat.add_zero, Nat.reduceAdd, Nat.reduceMul, Nat.reduceSub, xf_same, xq_ff, xq_fo, xf_1, xf_2, xs_1, xs_2, xs_same, xq_so, xj_1, xj_2, xj_same, xq_jo, xq_sa1, xq_same, xq_other, upd_s, oI_n, oI_s, e14, xf_102_91 hJ.1, e161]
      first | refine by_iald (by first | exact rfl | assumption | exact ps_1 hpp | exact ps_2 hpp | exact ps_3 hpp | exact ps_4 hpp | exact ps_5 hpp | exact ps_6 hpp | exact ps_7 hpp | exact ps_8 hpp | exact ps_9 hpp | exact ps_10 hpp | exact ps_11 hpp | exact ps_15 hpp | exact ps_16 hpp | exact ps_17 hpp | exact ps_18 hpp | exact ps_19 hpp | exact ps_21 hpp | exact ps_22 hpp | exact ps_23 hpp | exact ps_24 hpp) ⟨by omega, by omega⟩ ?_ | refine by_tald rfl rfl ⟨by omega, by omega⟩ ?_
      simp (disch := first | exact Nat.ne_of_beq_eq_false rfl | exact rfl | omega) only [nI_add, xa_sub, xa_mul, pk_div, nm_mod, xa_shr, xa_and7, xa_and1, xa_and255, xa_by_and, nI_m1, Nat.add_sub_cancel, Nat.reducePow, Nat.zero_add, Nat.add_zero, Nat.reduceAdd, Nat.reduceMul, Nat.reduceSub, xf_same, xq_ff, xq_fo, xf_1, xf_2, xs_1, xs_2, xs_same, xq_so, xj_1, xj_2, xj_same, xq_jo, xq_sa1, xq_same, xq_other, upd_s, oI_n, oI_s, e14, xf_102_91 hJ.1, e161]
      refine by_iret ry_261 (by first | rfl | assumption) ?_
      exact hp h' tw hJ
    | cons n B ih =>
      intro A h' tw hAB hJ
      obtain ⟨F1, f1, j3, j4, j5⟩ := hJ
      have hmem : n ∈ L := by rw [hAB]; simp
      have hAl : A.length < L.length := by rw [hAB]; simp
      have hget : L.getD A.length 0 = n := by rw [hAB]; simp [List.getD]
      have nN := hLN n hmem
      have hnA : n ∉ A := nd_mid hnd hAB
      have hAL : ∀ x ∈ A, x ∈ L := fun x hx => by rw [hAB]; simp [hx]
      have e14 : h'.2.2 102 14 = .int (nI L.length) := by rw [f1.2.2 _ _ (by simp)]; exact hLl
      have e13 : ∀ i, i < L.length → h'.1 113 i = nI (L.getD i 0) := fun i hi => by rw [f1.1 _ (by simp)]; exact hrow i hi
      have ch : ∀ m ∈ A ++ [n], ∀ x, (u1 m = some x ∨ u2 m = some x) → x ∈ A := by
        intro m hm x hx
        rcases List.mem_append.mp hm with z | z
        · obtain ⟨A1, A2, eA⟩ := List.append_of_mem z
          have := hcl A1 m (A2 ++ n :: B) (by rw [hAB, eA]; simp) x hx
          rw [eA]; simp [this]
        · rw [List.mem_singleton.mp z] at hx
          exact hcl A n B hAB x hx
      have e13n : h'.1 113 A.length = nI n := by rw [e13 _ hAl, hget]
      with_reducible refine xm_go_blk b_X12_merged_2 k_X12_merged_2 ?_
      refine by_iload_n rfl ?_
      refine by_aload_n rfl ?_
      refine by_getf cn_261 fl_12_226 (by first | exact rfl | assumption) (by decide) ?_
      simp (disch := first | exact Nat.ne_of_beq_eq_false rfl | exact rfl | omega) only [nI_add, xa_sub, xa_mul, pk_div, nm_mod, xa_shr, xa_and7, xa_and1, xa_and255, xa_by_and, nI_m1, Nat.add_sub_cancel, Nat.reducePow, Nat.zero_add, Nat.add_zero, Nat.reduceAdd, Nat.reduceMul, Nat.reduceSub, xf_same, xq_ff, xq_fo, xf_1, xf_2, xs_1, xs_2, xs_same, xq_so, xj_1, xj_2, xj_same, xq_jo, xq_sa1, xq_same, xq_other, upd_s, oI_n, oI_s, e14]
      refine by_ic_ge 136 rfl ?_
      simp (disch := first | exact Nat.ne_of_beq_eq_false rfl | exact rfl | omega) only [nI_add, xa_sub, xa_mul, pk_div, nm_mod, xa_shr, xa_and7, xa_and1, xa_and255, xa_by_and, nI_m1, Nat.add_sub_cancel, Nat.reducePow, Nat.zero_add, Nat.add_zero, Nat.reduceAdd, Nat.reduceMul, Nat.reduceSub, xf_same, xq_ff, xq_fo, xf_1, xf_2, xs_1, xs_2, xs_same, xq_so, xj_1, xj_2, xj_same, xq_jo, xq_sa1, xq_same, xq_other, upd_s, oI_n, oI_s, xv_0, xv_1, xv_2, xv_3, xm_p1, xm_p2, xq_fp, xq_fn, List.filter_nil, Nat.reduceBEq, Bool.not_true, Bool.not_false, Bool.and_true, Bool.and_false, Bool.false_and, Bool.true_and, if_true, if_false, Bool.false_eq_true, reduceIte, xc_i, xc_j, xc_r, xc_n, List.nil_append, List.cons_append, Option.toList_some, Option.toList_none, nI_ltJ, nI_leJ, nI_eqJ, nI_ltz, nI_gez, nI_gtz, nI_lez, nI_eqz, m1_ltz, m1_gez, true_imp_iff, false_imp_iff, true_and, and_true, ne_eq, not_false_eq_true, not_true_eq_false, Nat.reduceEqDiff, Nat.reduceLT, Nat.reduceLeDiff, e14]
      refine ⟨fun c => absurd c (by omega), fun c2 => ?_⟩
      refine md_10 (A := A) (tw := tw) F1 hN nN hnA j3 (fun x hx => ?_) e13n (by omega) (fun g f2 hc2 => ?_)
      · have hxA := ch n (by simp) x hx
        exact ⟨hLN x (hAL x hxA), (j4 x hxA).1, hLN _ (hAL _ (j4 x hxA).2)⟩
      have F2 : XF g := Fr_XF F1 f2 (by decide +kernel)
      have cN2 : df_cN (mC u1 (A ++ [n]) tw) (mC u2 (A ++ [n]) tw) N := by
        intro m hm x hx
        by_cases z : m ∈ A ++ [n]
        · rw [mC_i z, mC_i z] at hx
          rcases hx with q | q
          · obtain ⟨y, y1, y2⟩ := Option.map_eq_some_iff.mp q
            rw [← y2]; exact hLN _ (hAL _ (j4 y (ch m z y (Or.inl y1))).2)
          · obtain ⟨y, y1, y2⟩ := Option.map_eq_some_iff.mp q
            rw [← y2]; exact hLN _ (hAL _ (j4 y (ch m z y (Or.inr y1))).2)
        · rw [mC_o z, mC_o z] at hx
          exact hcN m hm x hx
      have inner : ∀ (A2 A1 : List Nat) (g1 : xm_H) (v : Nat), A = A1 ++ A2 → Fr [161] [] g g1 → (∀ m, m ≠ n → g1.1 161 m = g.1 161 m) → g1.1 161 n = nI v → ((v = n ∧ ∀ m ∈ A1, tw m = m → ¬ msG h cd u1 u2 tw m n) ∨ (v ∈ A ∧ tw v = v ∧ msG h cd u1 u2 tw v n)) → xm_go (XE sc) (xm_T (XE sc) (d + 2)) 261 post 79 [(4, .int (nI A1.length)), (3, .int (nI n)), (2, .int (nI A.length)), (0, .ref 102), (1, .int (nI last))] [] g1 := by
        intro A2
        induction A2 with
        | nil =>
          intro A1 g1 v eA f3 ho hv hV
          rw [List.append_nil] at eA
          subst eA
          have F3 : XF g1 := Fr_XF F2 f3 (by decide +kernel)
          have hJ2 : mmJ h g1 N cd u1 u2 (A ++ [n]) (updN tw n v) := by
            have ew : ∀ c : Nat → Option Nat, (∀ m ∈ A ++ [n], ∀ x, c m = some x → x ∈ A) → mC c (A ++ [n]) (updN tw n v) = mC c (A ++ [n]) tw := fun c hc => mC_tw2 (fun m hm x hx => updN_o (fun z => hnA (z ▸ hc m hm x hx)))
            refine ⟨F3, Fr_tr (Fr_tr f1 f2 (by simp) (by simp)) f3 (by simp) (by simp), ?_, fun m hm => ?_, ?_⟩
            · rw [ew u1 (fun m hm x hx => ch m hm x (Or.inl hx)), ew u2 (fun m hm x hx => ch m hm x (Or.inr hx))]
              intro m hm
              rw [f3.1 105 (by simp), f3.1 106 (by simp), f3.1 107 (by simp)]
              exact hc2 m hm
            · by_cases q : m = n
              · subst q
                rw [updN_s]
                refine ⟨hv, ?_⟩
                rcases hV with z | z
                · rw [z.1]; simp
                · simp [z.1]
              · have hmA : m ∈ A := by
                  rcases List.mem_append.mp hm with z | z
                  · exact z
                  · exact absurd (List.mem_singleton.mp z) q
                rw [updN_o q, ho m q, f2.1 161 (by simp)]
                exact ⟨(j4 m hmA).1, by simp [(j4 m hmA).2]⟩
            · refine twR_snoc j5 hnA (fun a b ha hb => msG_upd (fun x hx z => hnA (z ▸ ch a ha x hx)) (fun x hx z => hnA (z ▸ ch b hb x hx))) ?_
              exact hV
          have := ih (A ++ [n]) g1 (updN tw n v) (by rw [hAB]; simp) hJ2
          rw [List.length_append] at this
          with_reducible refine xm_go_blk b_X12_merged_79 k_X12_merged_79 ?_
          refine by_iload rfl ?_
          refine by_iload_n rfl ?_
          refine by_ic_ge 130 rfl ?_
          simp (disch := first | exact Nat.ne_of_beq_eq_false rfl | exact rfl | omega) only [nI_add, xa_sub, xa_mul, pk_div, nm_mod, xa_shr, xa_and7, xa_and1, xa_and255, xa_by_and, nI_m1, Nat.add_sub_cancel, Nat.reducePow, Nat.zero_add, Nat.add_zero, Nat.reduceAdd, Nat.reduceMul, Nat.reduceSub, xf_same, xq_ff, xq_fo, xf_1, xf_2, xs_1, xs_2, xs_same, xq_so, xj_1, xj_2, xj_same, xq_jo, xq_sa1, xq_same, xq_other, upd_s, oI_n, oI_s, xv_0, xv_1, xv_2, xv_3, xm_p1, xm_p2, xq_fp, xq_fn, List.filter_nil, Nat.reduceBEq, Bool.not_true, Bool.not_false, Bool.and_true, Bool.and_false, Bool.false_and, Bool.true_and, if_true, if_false, Bool.false_eq_true, reduceIte, xc_i, xc_j, xc_r, xc_n, List.nil_append, List.cons_append, Option.toList_some, Option.toList_none, nI_ltJ, nI_leJ, nI_eqJ, nI_ltz, nI_gez, nI_gtz, nI_lez, nI_eqz, m1_ltz, m1_gez, true_imp_iff, false_imp_iff, true_and, and_true, ne_eq, not_false_eq_true, not_true_eq_false, Nat.reduceEqDiff, Nat.reduceLT, Nat.reduceLeDiff]
          refine ⟨fun c79 => ?_, fun c => absurd (by omega) c⟩
          with_reducible refine xm_go_blk b_X12_merged_130 k_X12_merged_130 ?_
          refine by_iinc (by rw [ml_261]; decide) rfl ci_1 ?_
          refine by_goto 2 rfl ?_
          try simp (disch := first | exact Nat.ne_of_beq_eq_false rfl | exact rfl | omega) only [nI_add, xa_sub, xa_mul, pk_div, nm_mod, xa_shr, xa_and7, xa_and1, xa_and255, xa_by_and, nI_m1, Nat.add_sub_cancel, Nat.reducePow, Nat.zero_add, Nat.add_zero, Nat.reduceAdd, Nat.reduceMul, Nat.reduceSub, xf_same, xq_ff, xq_fo, xf_1, xf_2, xs_1, xs_2, xs_same, xq_so, xj_1, xj_2, xj_same, xq_jo, xq_sa1, xq_same, xq_other, upd_s, oI_n, oI_s, xv_0, xv_1, xv_2, xv_3, xm_p1, xm_p2, xq_fp, xq_fn, List.filter_nil, Nat.reduceBEq, Bool.not_true, Bool.not_false, Bool.and_true, Bool.and_false, Bool.false_and, Bool.true_and, if_true, if_false, Bool.false_eq_true, reduceIte, xc_i, xc_j, xc_r, xc_n, List.nil_append, List.cons_append, Option.toList_some, Option.toList_none]
          exact xm_go_wk (by simp [Value.category]) this
        | cons o A2 ih2 =>
          intro A1 g1 v eA f3 ho hv hV
          have F3 : XF g1 := Fr_XF F2 f3 (by decide +kernel)
          have hoA : o ∈ A := by rw [eA]; simp
          have hoN := hLN o (hAL o hoA)
          have hon : o ≠ n := fun z => hnA (z ▸ hoA)
          have hl1 : A1.length < A.length := by rw [eA]; simp
          have hg1 : L.getD A1.length 0 = o := by rw [hAB, eA]; simp [List.getD]
          have e13o : g1.1 113 A1.length = nI o := by rw [f3.1 _ (by simp), f2.1 _ (by simp), e13 _ (by omega), hg1]
          have e161o : g1.1 161 o = nI (tw o) := by rw [ho o hon, f2.1 161 (by simp)]; exact (j4 o hoA).1
          have two : tw o < N := hLN _ (hAL _ (j4 o hoA).2)
          have stp : ∀ (v' : Nat) (g2 : xm_H), Fr [161] [] g g2 → (∀ m, m ≠ n → g2.1 161 m = g.1 161 m) → g2.1 161 n = nI v' → ((v' = n ∧ ∀ m ∈ A1 ++ [o], tw m = m → ¬ msG h cd u1 u2 tw m n) ∨ (v' ∈ A ∧ tw v' = v' ∧ msG h cd u1 u2 tw v' n)) → xm_go (XE sc) (xm_T (XE sc) (d + 2)) 261 post 124 [(4, .int (nI A1.length)), (3, .int (nI n)), (2, .int (nI A.length)), (0, .ref 102), (1, .int (nI last))] [] g2 := by
            intro v' g2 f4 ho4 hv4 hV4
            have := ih2 (A1 ++ [o]) g2 v' (by rw [eA]; simp) f4 ho4 hv4 hV4
            rw [List.length_append] at this
            with_reducible refine xm_go_blk b_X12_merged_124 k_X12_merged_124 ?_
            refine by_iinc (by rw [ml_261]; decide) rfl ci_1 ?_
            refine by_goto 79 rfl ?_
            try simp (disch := first | exact Nat.ne_of_beq_eq_false rfl | exact rfl | omega) only [nI_add, xa_sub, xa_mul, pk_div, nm_mod, xa_shr, xa_and7, xa_and1, xa_and255, xa_by_and, nI_m1, Nat.add_sub_cancel, Nat.reducePow, Nat.zero_add, Nat.add_zero, Nat.reduceAdd, Nat.reduceMul, Nat.reduceSub, xf_same, xq_ff, xq_fo, xf_1, xf_2, xs_1, xs_2, xs_same, xq_so, xj_1, xj_2, xj_same, xq_jo, xq_sa1, xq_same, xq_other, upd_s, oI_n, oI_s, xv_0, xv_1, xv_2, xv_3, xm_p1, xm_p2, xq_fp, xq_fn, List.filter_nil, Nat.reduceBEq, Bool.not_true, Bool.not_false, Bool.and_true, Bool.and_false, Bool.false_and, Bool.true_and, if_true, if_false, Bool.false_eq_true, reduceIte, xc_i, xc_j, xc_r, xc_n, List.nil_append, List.cons_append, Option.toList_some, Option.toList_none]
            exact xm_go_wk (by simp [Value.category]) this
          by_cases q : tw o = o
          · have q' : (tw o = o) = True := eq_true q
            with_reducible refine xm_go_blk b_X12_merged_79 k_X12_merged_79 ?_
            refine by_iload rfl ?_
            refine by_iload_n rfl ?_
            refine by_ic_ge 130 rfl ?_
            simp (disch := first | exact Nat.ne_of_beq_eq_false rfl | exact rfl | omega) only [nI_add, xa_sub, xa_mul, pk_div, nm_mod, xa_shr, xa_and7, xa_and1, xa_and255, xa_by_and, nI_m1, Nat.add_sub_cancel, Nat.reducePow, Nat.zero_add, Nat.add_zero, Nat.reduceAdd, Nat.reduceMul, Nat.reduceSub, xf_same, xq_ff, xq_fo, xf_1, xf_2, xs_1, xs_2, xs_same, xq_so, xj_1, xj_2, xj_same, xq_jo, xq_sa1, xq_same, xq_other, upd_s, oI_n, oI_s, xv_0, xv_1, xv_2, xv_3, xm_p1, xm_p2, xq_fp, xq_fn, List.filter_nil, Nat.reduceBEq, Bool.not_true, Bool.not_false, Bool.and_true, Bool.and_false, Bool.false_and, Bool.true_and, if_true, if_false, Bool.false_eq_true, reduceIte, xc_i, xc_j, xc_r, xc_n, List.nil_append, List.cons_append, Option.toList_some, Option.toList_none, nI_ltJ, nI_leJ, nI_eqJ, nI_ltz, nI_gez, nI_gtz, nI_lez, nI_eqz, m1_ltz, m1_gez, true_imp_iff, false_imp_iff, true_and, and_true, ne_eq, not_false_eq_true, not_true_eq_false, Nat.reduceEqDiff, Nat.reduceLT, Nat.reduceLeDiff, xf_102_15 F3, e13o, xf_102_91 F3, e161o, q']
            refine ⟨fun c => absurd c (by omega), fun c79 => ?_⟩
            with_reducible refine xm_go_blk b_X12_merged_85 k_X12_merged_85 ?_
            refine by_aload_n rfl ?_
            refine by_getf cn_261 fl_12_40 (by first | exact rfl | assumption) (by decide) ?_
            refine by_iload rfl ?_
            simp (disch := first | exact Nat.ne_of_beq_eq_false rfl | exact rfl | omega) only [nI_add, xa_sub, xa_mul, pk_div, nm_mod, xa_shr, xa_and7, xa_and1, xa_and255, xa_by_and, nI_m1, Nat.add_sub_cancel, Nat.reducePow, Nat.zero_add, Nat.add_zero, Nat.reduceAdd, Nat.reduceMul, Nat.reduceSub, xf_same, xq_ff, xq_fo, xf_1, xf_2, xs_1, xs_2, xs_same, xq_so, xj_1, xj_2, xj_same, xq_jo, xq_sa1, xq_same, xq_other, upd_s, oI_n, oI_s, xf_102_15 F3, e13o, xf_102_91 F3, e161o, q']
            first | refine by_iald (by first | exact rfl | assumption | exact ps_1 hpp | exact ps_2 hpp | exact ps_3 hpp | exact ps_4 hpp | exact ps_5 hpp | exact ps_6 hpp | exact ps_7 hpp | exact ps_8 hpp | exact ps_9 hpp | exact ps_10 hpp | exact ps_11 hpp | exact ps_15 hpp | exact ps_16 hpp | exact ps_17 hpp | exact ps_18 hpp | exact ps_19 hpp | exact ps_21 hpp | exact ps_22 hpp | exact ps_23 hpp | exact ps_24 hpp) ⟨by omega, by omega⟩ ?_ | refine by_tald rfl rfl ⟨by omega, by omega⟩ ?_
            refine by_istore (by rw [ml_261]; decide) ?_
            refine by_aload_n rfl ?_
            refine by_getf cn_261 fl_12_190 (by first | exact rfl | assumption) (by decide) ?_
            refine by_iload rfl ?_
            simp (disch := first | exact Nat.ne_of_beq_eq_false rfl | exact rfl | omega) only [nI_add, xa_sub, xa_mul, pk_div, nm_mod, xa_shr, xa_and7, xa_and1, xa_and255, xa_by_and, nI_m1, Nat.add_sub_cancel, Nat.reducePow, Nat.zero_add, Nat.add_zero, Nat.reduceAdd, Nat.reduceMul, Nat.reduceSub, xf_same, xq_ff, xq_fo, xf_1, xf_2, xs_1, xs_2, xs_same, xq_so, xj_1, xj_2, xj_same, xq_jo, xq_sa1, xq_same, xq_other, upd_s, oI_n, oI_s, xf_102_15 F3, e13o, xf_102_91 F3, e161o, q']
            first | refine by_iald (by first | exact rfl | assumption | exact ps_1 hpp | exact ps_2 hpp | exact ps_3 hpp | exact ps_4 hpp | exact ps_5 hpp | exact ps_6 hpp | exact ps_7 hpp | exact ps_8 hpp | exact ps_9 hpp | exact ps_10 hpp | exact ps_11 hpp | exact ps_15 hpp | exact ps_16 hpp | exact ps_17 hpp | exact ps_18 hpp | exact ps_19 hpp | exact ps_21 hpp | exact ps_22 hpp | exact ps_23 hpp | exact ps_24 hpp) ⟨by omega, by omega⟩ ?_ | refine by_tald rfl rfl ⟨by omega, by omega⟩ ?_
            refine by_iload rfl ?_
            refine by_ic_ne 124 rfl ?_
            simp (disch := first | exact Nat.ne_of_beq_eq_false rfl | exact rfl | omega) only [nI_add, xa_sub, xa_mul, pk_div, nm_mod, xa_shr, xa_and7, xa_and1, xa_and255, xa_by_and, nI_m1, Nat.add_sub_cancel, Nat.reducePow, Nat.zero_add, Nat.add_zero, Nat.reduceAdd, Nat.reduceMul, Nat.reduceSub, xf_same, xq_ff, xq_fo, xf_1, xf_2, xs_1, xs_2, xs_same, xq_so, xj_1, xj_2, xj_same, xq_jo, xq_sa1, xq_same, xq_other, upd_s, oI_n, oI_s, xv_0, xv_1, xv_2, xv_3, xm_p1, xm_p2, xq_fp, xq_fn, List.filter_nil, Nat.reduceBEq, Bool.not_true, Bool.not_false, Bool.and_true, Bool.and_false, Bool.false_and, Bool.true_and, if_true, if_false, Bool.false_eq_true, reduceIte, xc_i, xc_j, xc_r, xc_n, List.nil_append, List.cons_append, Option.toList_some, Option.toList_none, nI_ltJ, nI_leJ, nI_eqJ, nI_ltz, nI_gez, nI_gtz, nI_lez, nI_eqz, m1_ltz, m1_gez, true_imp_iff, false_imp_iff, true_and, and_true, ne_eq, not_false_eq_true, not_true_eq_false, Nat.reduceEqDiff, Nat.reduceLT, Nat.reduceLeDiff, xf_102_15 F3, e13o, xf_102_91 F3, e161o, q']
            with_reducible refine xm_go_blk b_X12_merged_106 k_X12_merged_106 ?_
            refine by_aload_n rfl ?_
            refine by_iload rfl ?_
            refine by_iload_n rfl ?_
            refine by_inv2 cn_261 lk_12_354 (by rw [xe_cnt]; decide) is_234 np_234 cn_234 (by first | exact rfl | assumption) (Nat.le_of_ble_eq_true rfl) ?_
            have hc3 : chM g1 N cd (mC u1 (A ++ [n]) tw) (mC u2 (A ++ [n]) tw) := fun m hm => by
              rw [f3.1 105 (by simp), f3.1 106 (by simp), f3.1 107 (by simp)]
              exact hc2 m hm
            have hiff : msK g1 cd (mC u1 (A ++ [n]) tw) (mC u2 (A ++ [n]) tw) o n ↔ msG h cd u1 u2 tw o n := by
              unfold msK msG
              rw [mC_i (show o ∈ A ++ [n] by simp [hoA]), mC_i (show o ∈ A ++ [n] by simp [hoA]), mC_i (show n ∈ A ++ [n] by simp), mC_i (show n ∈ A ++ [n] by simp), f3.1 108 (by simp), f3.1 110 (by simp), f3.1 111 (by simp), f3.1 112 (by simp), f2.1 108 (by simp), f2.1 110 (by simp), f2.1 111 (by simp), f2.1 112 (by simp), f1.1 108 (by simp), f1.1 110 (by simp), f1.1 111 (by simp), f1.1 112 (by simp)]
            refine sp_isSameNode (d := d) F3 hN hoN nN hc3 cN2 (fun z => ?_) (fun z => ?_)
            · with_reducible refine xm_go_blk b_X12_merged_113 k_X12_merged_113 ?_
              refine by_if_eq 124 rfl ?_
              simp (disch := first | exact Nat.ne_of_beq_eq_false rfl | exact rfl | omega) only [nI_add, xa_sub, xa_mul, pk_div, nm_mod, xa_shr, xa_and7, xa_and1, xa_and255, xa_by_and, nI_m1, Nat.add_sub_cancel, Nat.reducePow, Nat.zero_add, Nat.add_zero, Nat.reduceAdd, Nat.reduceMul, Nat.reduceSub, xf_same, xq_ff, xq_fo, xf_1, xf_2, xs_1, xs_2, xs_same, xq_so, xj_1, xj_2, xj_same, xq_jo, xq_sa1, xq_same, xq_other, upd_s, oI_n, oI_s, xv_0, xv_1, xv_2, xv_3, xm_p1, xm_p2, xq_fp, xq_fn, List.filter_nil, Nat.reduceBEq, Bool.not_true, Bool.not_false, Bool.and_true, Bool.and_false, Bool.false_and, Bool.true_and, if_true, if_false, Bool.false_eq_true, reduceIte, xc_i, xc_j, xc_r, xc_n, List.nil_append, List.cons_append, Option.toList_some, Option.toList_none, nI_ltJ, nI_leJ, nI_eqJ, nI_ltz, nI_gez, nI_gtz, nI_lez, nI_eqz, m1_ltz, m1_gez, true_imp_iff, false_imp_iff, true_and, and_true, ne_eq, not_false_eq_true, not_true_eq_false, Nat.reduceEqDiff, Nat.reduceLT, Nat.reduceLeDiff, xf_102_91 F3]
              with_reducible refine xm_go_blk b_X12_merged_116 k_X12_merged_116 ?_
              refine by_aload_n rfl ?_
              refine by_getf cn_261 fl_12_190 (by first | exact rfl | assumption) (by decide) ?_
              refine by_iload_n rfl ?_
              refine by_iload rfl ?_
              simp (disch := first | exact Nat.ne_of_beq_eq_false rfl | exact rfl | omega) only [nI_add, xa_sub, xa_mul, pk_div, nm_mod, xa_shr, xa_and7, xa_and1, xa_and255, xa_by_and, nI_m1, Nat.add_sub_cancel, Nat.reducePow, Nat.zero_add, Nat.add_zero, Nat.reduceAdd, Nat.reduceMul, Nat.reduceSub, xf_same, xq_ff, xq_fo, xf_1, xf_2, xs_1, xs_2, xs_same, xq_so, xj_1, xj_2, xj_same, xq_jo, xq_sa1, xq_same, xq_other, upd_s, oI_n, oI_s, xf_102_91 F3]
              refine by_iast (by first | exact rfl | assumption | exact ps_1 hpp | exact ps_2 hpp | exact ps_3 hpp | exact ps_4 hpp | exact ps_5 hpp | exact ps_6 hpp | exact ps_7 hpp | exact ps_8 hpp | exact ps_9 hpp | exact ps_10 hpp | exact ps_11 hpp | exact ps_15 hpp | exact ps_16 hpp | exact ps_17 hpp | exact ps_18 hpp | exact ps_19 hpp | exact ps_21 hpp | exact ps_22 hpp | exact ps_23 hpp | exact ps_24 hpp) ⟨by omega, by omega⟩ ?_
              refine by_nil ?_
              refine xm_go_wk (by simp [Value.category]) (stp o _ (Fr_si f3 (by simp)) (fun m hm => ?_) ?_ (Or.inr ⟨hoA, q, hiff.mp z⟩))
              · rw [xs_same, upd_o hm]; exact ho m hm
              · rw [xs_same, upd_s]
            · with_reducible refine xm_go_blk b_X12_merged_113 k_X12_merged_113 ?_
              refine by_if_eq 124 rfl ?_
              simp (disch := first | exact Nat.ne_of_beq_eq_false rfl | exact rfl | omega) only [nI_add, xa_sub, xa_mul, pk_div, nm_mod, xa_shr, xa_and7, xa_and1, xa_and255, xa_by_and, nI_m1, Nat.add_sub_cancel, Nat.reducePow, Nat.zero_add, Nat.add_zero, Nat.reduceAdd, Nat.reduceMul, Nat.reduceSub, xf_same, xq_ff, xq_fo, xf_1, xf_2, xs_1, xs_2, xs_same, xq_so, xj_1, xj_2, xj_same, xq_jo, xq_sa1, xq_same, xq_other, upd_s, oI_n, oI_s, xv_0, xv_1, xv_2, xv_3, xm_p1, xm_p2, xq_fp, xq_fn, List.filter_nil, Nat.reduceBEq, Bool.not_true, Bool.not_false, Bool.and_true, Bool.and_false, Bool.false_and, Bool.true_and, if_true, if_false, Bool.false_eq_true, reduceIte, xc_i, xc_j, xc_r, xc_n, List.nil_append, List.cons_append, Option.toList_some, Option.toList_none, nI_ltJ, nI_leJ, nI_eqJ, nI_ltz, nI_gez, nI_gtz, nI_lez, nI_eqz, m1_ltz, m1_gez, true_imp_iff, false_imp_iff, true_and, and_true, ne_eq, not_false_eq_true, not_true_eq_false, Nat.reduceEqDiff, Nat.reduceLT, Nat.reduceLeDiff]
              refine xm_go_wk (by simp [Value.category]) (stp v g1 f3 ho hv ?_)
              rcases hV with ⟨w1, w2⟩ | w
              · refine Or.inl ⟨w1, fun m hm hf => ?_⟩
                rcases List.mem_append.mp hm with y | y
                · exact w2 m y hf
                · rw [List.mem_singleton.mp y]; exact fun y => z (hiff.mpr y)
              · exact Or.inr w
          · have q' : (tw o = o) = False := eq_false q
            with_reducible refine xm_go_blk b_X12_merged_79 k_X12_merged_79 ?_
            refine by_iload rfl ?_
            refine by_iload_n rfl ?_
            refine by_ic_ge 130 rfl ?_
            simp (disch := first | exact Nat.ne_of_beq_eq_false rfl | exact rfl | omega) only [nI_add, xa_sub, xa_mul, pk_div, nm_mod, xa_shr, xa_and7, xa_and1, xa_and255, xa_by_and, nI_m1, Nat.add_sub_cancel, Nat.reducePow, Nat.zero_add, Nat.add_zero, Nat.reduceAdd, Nat.reduceMul, Nat.reduceSub, xf_same, xq_ff, xq_fo, xf_1, xf_2, xs_1, xs_2, xs_same, xq_so, xj_1, xj_2, xj_same, xq_jo, xq_sa1, xq_same, xq_other, upd_s, oI_n, oI_s, xv_0, xv_1, xv_2, xv_3, xm_p1, xm_p2, xq_fp, xq_fn, List.filter_nil, Nat.reduceBEq, Bool.not_true, Bool.not_false, Bool.and_true, Bool.and_false, Bool.false_and, Bool.true_and, if_true, if_false, Bool.false_eq_true, reduceIte, xc_i, xc_j, xc_r, xc_n, List.nil_append, List.cons_append, Option.toList_some, Option.toList_none, nI_ltJ, nI_leJ, nI_eqJ, nI_ltz, nI_gez, nI_gtz, nI_lez, nI_eqz, m1_ltz, m1_gez, true_imp_iff, false_imp_iff, true_and, and_true, ne_eq, not_false_eq_true, not_true_eq_false, Nat.reduceEqDiff, Nat.reduceLT, Nat.reduceLeDiff, xf_102_15 F3, e13o, xf_102_91 F3, e161o, q']
            refine ⟨fun c => absurd c (by omega), fun c79 => ?_⟩
            with_reducible refine xm_go_blk b_X12_merged_85 k_X12_merged_85 ?_
            refine by_aload_n rfl ?_
            refine by_getf cn_261 fl_12_40 (by first | exact rfl | assumption) (by decide) ?_
            refine by_iload rfl ?_
            simp (disch := first | exact Nat.ne_of_beq_eq_false rfl | exact rfl | omega) only [nI_add, xa_sub, xa_mul, pk_div, nm_mod, xa_shr, xa_and7, xa_and1, xa_and255, xa_by_and, nI_m1, Nat.add_sub_cancel, Nat.reducePow, Nat.zero_add, Nat.add_zero, Nat.reduceAdd, Nat.reduceMul, Nat.reduceSub, xf_same, xq_ff, xq_fo, xf_1, xf_2, xs_1, xs_2, xs_same, xq_so, xj_1, xj_2, xj_same, xq_jo, xq_sa1, xq_same, xq_other, upd_s, oI_n, oI_s, xf_102_15 F3, e13o, xf_102_91 F3, e161o, q']
            first | refine by_iald (by first | exact rfl | assumption | exact ps_1 hpp | exact ps_2 hpp | exact ps_3 hpp | exact ps_4 hpp | exact ps_5 hpp | exact ps_6 hpp | exact ps_7 hpp | exact ps_8 hpp | exact ps_9 hpp | exact ps_10 hpp | exact ps_11 hpp | exact ps_15 hpp | exact ps_16 hpp | exact ps_17 hpp | exact ps_18 hpp | exact ps_19 hpp | exact ps_21 hpp | exact ps_22 hpp | exact ps_23 hpp | exact ps_24 hpp) ⟨by omega, by omega⟩ ?_ | refine by_tald rfl rfl ⟨by omega, by omega⟩ ?_
            refine by_istore (by rw [ml_261]; decide) ?_
            refine by_aload_n rfl ?_
            refine by_getf cn_261 fl_12_190 (by first | exact rfl | assumption) (by decide) ?_
            refine by_iload rfl ?_
            simp (disch := first | exact Nat.ne_of_beq_eq_false rfl | exact rfl | omega) only [nI_add, xa_sub, xa_mul, pk_div, nm_mod, xa_shr, xa_and7, xa_and1, xa_and255, xa_by_and, nI_m1, Nat.add_sub_cancel, Nat.reducePow, Nat.zero_add, Nat.add_zero, Nat.reduceAdd, Nat.reduceMul, Nat.reduceSub, xf_same, xq_ff, xq_fo, xf_1, xf_2, xs_1, xs_2, xs_same, xq_so, xj_1, xj_2, xj_same, xq_jo, xq_sa1, xq_same, xq_other, upd_s, oI_n, oI_s, xf_102_15 F3, e13o, xf_102_91 F3, e161o, q']
            first | refine by_iald (by first | exact rfl | assumption | exact ps_1 hpp | exact ps_2 hpp | exact ps_3 hpp | exact ps_4 hpp | exact ps_5 hpp | exact ps_6 hpp | exact ps_7 hpp | exact ps_8 hpp | exact ps_9 hpp | exact ps_10 hpp | exact ps_11 hpp | exact ps_15 hpp | exact ps_16 hpp | exact ps_17 hpp | exact ps_18 hpp | exact ps_19 hpp | exact ps_21 hpp | exact ps_22 hpp | exact ps_23 hpp | exact ps_24 hpp) ⟨by omega, by omega⟩ ?_ | refine by_tald rfl rfl ⟨by omega, by omega⟩ ?_
            refine by_iload rfl ?_
            refine by_ic_ne 124 rfl ?_
            simp (disch := first | exact Nat.ne_of_beq_eq_false rfl | exact rfl | omega) only [nI_add, xa_sub, xa_mul, pk_div, nm_mod, xa_shr, xa_and7, xa_and1, xa_and255, xa_by_and, nI_m1, Nat.add_sub_cancel, Nat.reducePow, Nat.zero_add, Nat.add_zero, Nat.reduceAdd, Nat.reduceMul, Nat.reduceSub, xf_same, xq_ff, xq_fo, xf_1, xf_2, xs_1, xs_2, xs_same, xq_so, xj_1, xj_2, xj_same, xq_jo, xq_sa1, xq_same, xq_other, upd_s, oI_n, oI_s, xv_0, xv_1, xv_2, xv_3, xm_p1, xm_p2, xq_fp, xq_fn, List.filter_nil, Nat.reduceBEq, Bool.not_true, Bool.not_false, Bool.and_true, Bool.and_false, Bool.false_and, Bool.true_and, if_true, if_false, Bool.false_eq_true, reduceIte, xc_i, xc_j, xc_r, xc_n, List.nil_append, List.cons_append, Option.toList_some, Option.toList_none, nI_ltJ, nI_leJ, nI_eqJ, nI_ltz, nI_gez, nI_gtz, nI_lez, nI_eqz, m1_ltz, m1_gez, true_imp_iff, false_imp_iff, true_and, and_true, ne_eq, not_false_eq_true, not_true_eq_false, Nat.reduceEqDiff, Nat.reduceLT, Nat.reduceLeDiff, xf_102_15 F3, e13o, xf_102_91 F3, e161o, q']
            refine xm_go_wk (by simp [Value.category]) (stp v g1 f3 ho hv ?_)
            rcases hV with ⟨w1, w2⟩ | w
            · refine Or.inl ⟨w1, fun m hm hf => ?_⟩
              rcases List.mem_append.mp hm with y | y
              · exact w2 m y hf
              · rw [List.mem_singleton.mp y] at hf; exact absurd hf q
            · exact Or.inr w
      with_reducible refine xm_go_blk b_X12_merged_69 k_X12_merged_69 ?_
      refine by_aload_n rfl ?_
      refine by_getf cn_261 fl_12_190 (by first | exact rfl | assumption) (by decide) ?_
      refine by_iload_n rfl ?_
      refine by_iload_n rfl ?_
      simp (disch := first | exact Nat.ne_of_beq_eq_false rfl | exact rfl | omega) only [nI_add, xa_sub, xa_mul, pk_div, nm_mod, xa_shr, xa_and7, xa_and1, xa_and255, xa_by_and, nI_m1, Nat.add_sub_cancel, Nat.reducePow, Nat.zero_add, Nat.add_zero, Nat.reduceAdd, Nat.reduceMul, Nat.reduceSub, xf_same, xq_ff, xq_fo, xf_1, xf_2, xs_1, xs_2, xs_same, xq_so, xj_1, xj_2, xj_same, xq_jo, xq_sa1, xq_same, xq_other, upd_s, oI_n, oI_s, xf_102_91 F2]
      refine by_iast (by first | exact rfl | assumption | exact ps_1 hpp | exact ps_2 hpp | exact ps_3 hpp | exact ps_4 hpp | exact ps_5 hpp | exact ps_6 hpp | exact ps_7 hpp | exact ps_8 hpp | exact ps_9 hpp | exact ps_10 hpp | exact ps_11 hpp | exact ps_15 hpp | exact ps_16 hpp | exact ps_17 hpp | exact ps_18 hpp | exact ps_19 hpp | exact ps_21 hpp | exact ps_22 hpp | exact ps_23 hpp | exact ps_24 hpp) ⟨by omega, by omega⟩ ?_
      refine by_iconst ci_0 ?_
      refine by_istore (by rw [ml_261]; decide) ?_
      refine by_nil ?_
      try simp (disch := first | exact Nat.ne_of_beq_eq_false rfl | exact rfl | omega) only [nI_add, xa_sub, xa_mul, pk_div, nm_mod, xa_shr, xa_and7, xa_and1, xa_and255, xa_by_and, nI_m1, Nat.add_sub_cancel, Nat.reducePow, Nat.zero_add, Nat.add_zero, Nat.reduceAdd, Nat.reduceMul, Nat.reduceSub, xf_same, xq_ff, xq_fo, xf_1, xf_2, xs_1, xs_2, xs_same, xq_so, xj_1, xj_2, xj_same, xq_jo, xq_sa1, xq_same, xq_other, upd_s, oI_n, oI_s, xv_0, xv_1, xv_2, xv_3, xm_p1, xm_p2, xq_fp, xq_fn, List.filter_nil, Nat.reduceBEq, Bool.not_true, Bool.not_false, Bool.and_true, Bool.and_false, Bool.false_and, Bool.true_and, if_true, if_false, Bool.false_eq_true, reduceIte, xc_i, xc_j, xc_r, xc_n, List.nil_append, List.cons_append, Option.toList_some, Option.toList_none, xf_102_91 F2]
      refine xm_go_wk (by simp [Value.category]) (inner A [] _ n rfl (Fr_si Fr_rf (by simp)) (fun m hm => ?_) ?_ (Or.inl ⟨rfl, fun m hm => nomatch hm⟩))
      · rw [xs_same, upd_o hm]
      · rw [xs_same, upd_s]
  refine xq_in rfl ?_
  simp only [xq_a0, xq_aI, xq_aJ, xq_aR, Nat.reduceAdd]
  with_reducible refine xm_go_blk b_X12_merged_0 k_X12_merged_0 ?_
  refine by_iconst ci_0 ?_
  refine by_istore_n (by rw [ml_261]; decide) ?_
  refine by_nil ?_
  try simp (disch := first | exact Nat.ne_of_beq_eq_false rfl | exact rfl | omega) only [nI_add, xa_sub, xa_mul, pk_div, nm_mod, xa_shr, xa_and7, xa_and1, xa_and255, xa_by_and, nI_m1, Nat.add_sub_cancel, Nat.reducePow, Nat.zero_add, Nat.add_zero, Nat.reduceAdd, Nat.reduceMul, Nat.reduceSub, xf_same, xq_ff, xq_fo, xf_1, xf_2, xs_1, xs_2, xs_same, xq_so, xj_1, xj_2, xj_same, xq_jo, xq_sa1, xq_same, xq_other, upd_s, oI_n, oI_s, xv_0, xv_1, xv_2, xv_3, xm_p1, xm_p2, xq_fp, xq_fn, List.filter_nil, Nat.reduceBEq, Bool.not_true, Bool.not_false, Bool.and_true, Bool.and_false, Bool.false_and, Bool.true_and, if_true, if_false, Bool.false_eq_true, reduceIte, xc_i, xc_j, xc_r, xc_n, List.nil_append, List.cons_append, Option.toList_some, Option.toList_none]
  have e0 : ∀ c : Nat → Option Nat, mC c [] (fun x => x) = c := fun c => funext fun m => mC_o (by simp)
  exact xm_go_wk (by simp [Value.category]) (run L [] h (fun x => x) rfl ⟨hF, Fr_rf, by rw [e0, e0]; exact hc, fun n hn => (nomatch hn), fun A n B e => by simp at e⟩)
end MM
