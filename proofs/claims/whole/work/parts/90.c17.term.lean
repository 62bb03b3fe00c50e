/-! ===== Finder: terms, as a graph that grows ===== -/
theorem uf_new {c : Nat} {u rt dd : Nat → Nat} {m : Nat} (h : uf_ok c u rt dd m) : uf_ok (c + 1) (updN u c c) (updN rt c c) (updN dd c 0) m := by
  intro t ht
  by_cases e : t = c
  · subst e
    simp [updN]
  · obtain ⟨a1, a2, a3, a4, a5, a6, a7⟩ := h t (by omega)
    rw [updN_o e, updN_o e, updN_o e]
    refine ⟨by omega, by omega, by rw [updN_o (by omega), a3], by rw [updN_o (by omega), a4], a5, a6, fun z => by rw [updN_o (by omega)]; exact a7 z⟩
theorem nr_new {c : Nat} {rt : Nat → Nat} : nr (c + 1) (updN rt c c) = nr c rt + 1 := by
  unfold nr
  rw [cn, updN_s, cn_congr (q := fun t => rt t == t) (fun t ht => by rw [updN_o (by omega)])]
  simp
theorem updN_tx {c : Nat} {k l r : Nat → Nat} {x y z : Nat} : tx c (c + 1) k l r (updN k c x) (updN l c y) (updN r c z) := ⟨by omega, fun t ht => ⟨updN_o (by omega), updN_o (by omega), updN_o (by omega)⟩⟩
/-- the finder's graph -/
def gr (h : xm_H) (c : Nat) (k l r rt : Nat → Nat) (es : List (Nat × Nat)) : Prop := h.2.2 15 6 = .int (nI c) ∧ fnA h c k l r ∧ (∃ u dd m, upA h 19 c u ∧ uf_ok c u rt dd m ∧ m + nr c rt = c) ∧ ty_JS c k l r rt es [] ∧ ty_JK c k l r rt es [] ∧ ∀ t, t < c → h.1 20 t = -1
def grR : List Nat := [16, 17, 18, 19, 20, 21]
def grT : List (Nat × Nat) := [(15, 6), (15, 7)]
theorem gr_fr {S : List Nat} {T : List (Nat × Nat)} {h h' : xm_H} {c : Nat} {k l r rt : Nat → Nat} {es : List (Nat × Nat)} (hg : gr h c k l r rt es) (hf : Fr S T h h') (h1 : (15, 6) ∉ T) (h6 : 16 ∉ S) (h7 : 17 ∉ S) (h8 : 18 ∉ S) (h9 : 19 ∉ S) (h0 : 20 ∉ S) : gr h' c k l r rt es := by
  obtain ⟨g1, g2, ⟨u, dd, m, g3, g4, g5⟩, g6, g7, g8⟩ := hg
  exact ⟨by rw [hf.2.2 _ _ h1, g1], fnA_fr g2 hf h6 h7 h8, ⟨u, dd, m, upA_fr g3 hf h9, g4, g5⟩, g6, g7, fun t ht => by rw [hf.1 _ h0]; exact g8 t ht⟩
section TRM
variable {sc : xm_Sc} {d c kc : Nat} {k l r rt : Nat → Nat} {es : List (Nat × Nat)} {h : xm_H} {post : xm_Po}
theorem sp_term {ll rr kk : Nat} (hF : XF h) (hg : gr h c k l r rt es) (hc : c < 14031) (hk : kk < 4) (hkc : kc = (kk + 3) % 4) (hl : 2 ≤ kk → ll < c + 1 ∧ rr < c + 1) (hll : ll < 2147483648 ∧ rr < 2147483648)
    (hp : ∀ h', Fr grR grT h h' → gr h' (c + 1) (updN k c kk) (updN l c ll) (updN r c rr) (updN rt c c) es → post (some (.int (nI c))) h') : xm_T (XE sc) (d + 1) 50 [.ref 15, .int (nI kc), .int (nI ll), .int (nI rr)] h post := by
  obtain ⟨g1, g2, ⟨u, dd, m, g3, g4, g5⟩, g6, g7, g8⟩ := hg
  have hG := uf_G (k := k) (l := l) (r := r) g4 (fun t ht => ⟨(g2 t ht).2.1, fun e => ((g2 t ht).2.2 e).2.2⟩)
  have hN := ty_J_new (k' := updN k c kk) (l' := updN l c ll) (r' := updN r c rr) (rt' := updN rt c c) (fun t ht => ⟨updN_o (Nat.ne_of_lt ht), updN_o (Nat.ne_of_lt ht), updN_o (Nat.ne_of_lt ht), updN_o (Nat.ne_of_lt ht)⟩) updN_s hG g6 g7
  refine xq_in rfl ?_
  simp only [xq_a0, xq_aI, xq_aJ, xq_aR, Nat.reduceAdd]
  with_reducible refine xm_go_blk b_X1_term_0 k_X1_term_0 ?_
  refine by_aload_n rfl ?_
  refine by_getf cn_50 fl_1_36 (by first | exact rfl | assumption) (by decide) ?_
  refine by_sipush cs_14032 ?_
  simp (disch := first | exact Nat.ne_of_beq_eq_false rfl | omega) only [nI_add, xa_sub, xa_mul, pk_div, nm_mod, xa_shr, xa_and7, xa_and1, xa_and255, xa_by_and, nI_m1, Nat.add_sub_cancel, Nat.reducePow, Nat.zero_add, Nat.add_zero, Nat.reduceAdd, Nat.reduceMul, Nat.reduceSub, xf_same, xq_ff, xq_fo, xf_1, xf_2, xs_1, xs_2, xs_same, xq_so, xj_1, xj_2, xj_same, xq_jo, xq_sa1, xq_same, xq_other, upd_s, oI_n, oI_s, g1, xf_15_0 hF, xf_15_1 hF, xf_15_2 hF, xf_15_3 hF, xf_15_4 hF]
  refine by_ic_lt 12 rfl ?_
  simp (disch := first | exact Nat.ne_of_beq_eq_false rfl | omega) only [nI_add, xa_sub, xa_mul, pk_div, nm_mod, xa_shr, xa_and7, xa_and1, xa_and255, xa_by_and, nI_m1, Nat.add_sub_cancel, Nat.reducePow, Nat.zero_add, Nat.add_zero, Nat.reduceAdd, Nat.reduceMul, Nat.reduceSub, xf_same, xq_ff, xq_fo, xf_1, xf_2, xs_1, xs_2, xs_same, xq_so, xj_1, xj_2, xj_same, xq_jo, xq_sa1, xq_same, xq_other, upd_s, oI_n, oI_s, xv_0, xv_1, xv_2, xv_3, xm_p1, xm_p2, List.filter_cons, List.filter_nil, Nat.reduceBEq, Bool.not_true, Bool.not_false, Bool.and_true, Bool.and_false, Bool.false_and, Bool.true_and, if_true, if_false, Bool.false_eq_true, reduceIte, xc_i, xc_j, xc_r, xc_n, List.nil_append, List.cons_append, Option.toList_some, Option.toList_none, nI_ltJ, nI_leJ, nI_eqJ, nI_ltz, nI_gez, nI_gtz, nI_lez, nI_eqz, m1_ltz, m1_gez, true_imp_iff, false_imp_iff, true_and, and_true, ne_eq, not_false_eq_true, not_true_eq_false, Nat.reduceEqDiff, Nat.reduceLT, Nat.reduceLeDiff, g1, xf_15_0 hF, xf_15_1 hF, xf_15_2 hF, xf_15_3 hF, xf_15_4 hF]
  refine ⟨fun c0 => ?_, fun c => absurd (by omega) c⟩
  with_reducible refine xm_go_blk b_X1_term_12 k_X1_term_12 ?_
  refine by_aload_n rfl ?_
  refine by_getf cn_50 fl_1_36 (by first | exact rfl | assumption) (by decide) ?_
  simp (disch := first | exact Nat.ne_of_beq_eq_false rfl | omega) only [nI_add, xa_sub, xa_mul, pk_div, nm_mod, xa_shr, xa_and7, xa_and1, xa_and255, xa_by_and, nI_m1, Nat.add_sub_cancel, Nat.reducePow, Nat.zero_add, Nat.add_zero, Nat.reduceAdd, Nat.reduceMul, Nat.reduceSub, xf_same, xq_ff, xq_fo, xf_1, xf_2, xs_1, xs_2, xs_same, xq_so, xj_1, xj_2, xj_same, xq_jo, xq_sa1, xq_same, xq_other, upd_s, oI_n, oI_s, g1, xf_15_0 hF, xf_15_1 hF, xf_15_2 hF, xf_15_3 hF, xf_15_4 hF]
  refine by_istore (by rw [ml_50]; decide) ?_
  refine by_aload_n rfl ?_
  refine by_dup rfl ?_
  refine by_getf cn_50 fl_1_36 (by first | exact rfl | assumption) (by decide) ?_
  refine by_iconst ci_1 ?_
  simp (disch := first | exact Nat.ne_of_beq_eq_false rfl | omega) only [nI_add, xa_sub, xa_mul, pk_div, nm_mod, xa_shr, xa_and7, xa_and1, xa_and255, xa_by_and, nI_m1, Nat.add_sub_cancel, Nat.reducePow, Nat.zero_add, Nat.add_zero, Nat.reduceAdd, Nat.reduceMul, Nat.reduceSub, xf_same, xq_ff, xq_fo, xf_1, xf_2, xs_1, xs_2, xs_same, xq_so, xj_1, xj_2, xj_same, xq_jo, xq_sa1, xq_same, xq_other, upd_s, oI_n, oI_s, g1, xf_15_0 hF, xf_15_1 hF, xf_15_2 hF, xf_15_3 hF, xf_15_4 hF]
  refine by_iadd ?_
  refine by_putf cn_50 fl_1_36 (by first | exact rfl | assumption) (by decide) nf_1_6 ft_1_6 (by first | rfl | assumption) (by first | rfl | assumption) ?_
  refine by_aload_n rfl ?_
  refine by_getf cn_50 fl_1_13 (by first | exact rfl | assumption) (by decide) ?_
  refine by_iload rfl ?_
  refine by_iload_n rfl ?_
  simp (disch := first | exact Nat.ne_of_beq_eq_false rfl | omega) only [nI_add, xa_sub, xa_mul, pk_div, nm_mod, xa_shr, xa_and7, xa_and1, xa_and255, xa_by_and, nI_m1, Nat.add_sub_cancel, Nat.reducePow, Nat.zero_add, Nat.add_zero, Nat.reduceAdd, Nat.reduceMul, Nat.reduceSub, xf_same, xq_ff, xq_fo, xf_1, xf_2, xs_1, xs_2, xs_same, xq_so, xj_1, xj_2, xj_same, xq_jo, xq_sa1, xq_same, xq_other, upd_s, oI_n, oI_s, g1, xf_15_0 hF, xf_15_1 hF, xf_15_2 hF, xf_15_3 hF, xf_15_4 hF]
  refine by_iast (by first | exact rfl | assumption | exact ps_1 hpp | exact ps_2 hpp | exact ps_3 hpp | exact ps_4 hpp | exact ps_5 hpp | exact ps_6 hpp | exact ps_7 hpp | exact ps_8 hpp | exact ps_9 hpp | exact ps_10 hpp | exact ps_11 hpp | exact ps_15 hpp | exact ps_16 hpp | exact ps_17 hpp | exact ps_18 hpp | exact ps_19 hpp | exact ps_21 hpp | exact ps_22 hpp | exact ps_23 hpp | exact ps_24 hpp) ⟨by omega, by omega⟩ ?_
  refine by_aload_n rfl ?_
  refine by_getf cn_50 fl_1_17 (by first | exact rfl | assumption) (by decide) ?_
  refine by_iload rfl ?_
  refine by_iload_n rfl ?_
  simp (disch := first | exact Nat.ne_of_beq_eq_false rfl | omega) only [nI_add, xa_sub, xa_mul, pk_div, nm_mod, xa_shr, xa_and7, xa_and1, xa_and255, xa_by_and, nI_m1, Nat.add_sub_cancel, Nat.reducePow, Nat.zero_add, Nat.add_zero, Nat.reduceAdd, Nat.reduceMul, Nat.reduceSub, xf_same, xq_ff, xq_fo, xf_1, xf_2, xs_1, xs_2, xs_same, xq_so, xj_1, xj_2, xj_same, xq_jo, xq_sa1, xq_same, xq_other, upd_s, oI_n, oI_s, g1, xf_15_0 hF, xf_15_1 hF, xf_15_2 hF, xf_15_3 hF, xf_15_4 hF]
  refine by_iast (by first | exact rfl | assumption | exact ps_1 hpp | exact ps_2 hpp | exact ps_3 hpp | exact ps_4 hpp | exact ps_5 hpp | exact ps_6 hpp | exact ps_7 hpp | exact ps_8 hpp | exact ps_9 hpp | exact ps_10 hpp | exact ps_11 hpp | exact ps_15 hpp | exact ps_16 hpp | exact ps_17 hpp | exact ps_18 hpp | exact ps_19 hpp | exact ps_21 hpp | exact ps_22 hpp | exact ps_23 hpp | exact ps_24 hpp) ⟨by omega, by omega⟩ ?_
  refine by_aload_n rfl ?_
  refine by_getf cn_50 fl_1_20 (by first | exact rfl | assumption) (by decide) ?_
  refine by_iload rfl ?_
  refine by_iload_n rfl ?_
  simp (disch := first | exact Nat.ne_of_beq_eq_false rfl | omega) only [nI_add, xa_sub, xa_mul, pk_div, nm_mod, xa_shr, xa_and7, xa_and1, xa_and255, xa_by_and, nI_m1, Nat.add_sub_cancel, Nat.reducePow, Nat.zero_add, Nat.add_zero, Nat.reduceAdd, Nat.reduceMul, Nat.reduceSub, xf_same, xq_ff, xq_fo, xf_1, xf_2, xs_1, xs_2, xs_same, xq_so, xj_1, xj_2, xj_same, xq_jo, xq_sa1, xq_same, xq_other, upd_s, oI_n, oI_s, g1, xf_15_0 hF, xf_15_1 hF, xf_15_2 hF, xf_15_3 hF, xf_15_4 hF]
  refine by_iast (by first | exact rfl | assumption | exact ps_1 hpp | exact ps_2 hpp | exact ps_3 hpp | exact ps_4 hpp | exact ps_5 hpp | exact ps_6 hpp | exact ps_7 hpp | exact ps_8 hpp | exact ps_9 hpp | exact ps_10 hpp | exact ps_11 hpp | exact ps_15 hpp | exact ps_16 hpp | exact ps_17 hpp | exact ps_18 hpp | exact ps_19 hpp | exact ps_21 hpp | exact ps_22 hpp | exact ps_23 hpp | exact ps_24 hpp) ⟨by omega, by omega⟩ ?_
  refine by_aload_n rfl ?_
  refine by_getf cn_50 fl_1_23 (by first | exact rfl | assumption) (by decide) ?_
  refine by_iload rfl ?_
  refine by_iload rfl ?_
  simp (disch := first | exact Nat.ne_of_beq_eq_false rfl | omega) only [nI_add, xa_sub, xa_mul, pk_div, nm_mod, xa_shr, xa_and7, xa_and1, xa_and255, xa_by_and, nI_m1, Nat.add_sub_cancel, Nat.reducePow, Nat.zero_add, Nat.add_zero, Nat.reduceAdd, Nat.reduceMul, Nat.reduceSub, xf_same, xq_ff, xq_fo, xf_1, xf_2, xs_1, xs_2, xs_same, xq_so, xj_1, xj_2, xj_same, xq_jo, xq_sa1, xq_same, xq_other, upd_s, oI_n, oI_s, g1, xf_15_0 hF, xf_15_1 hF, xf_15_2 hF, xf_15_3 hF, xf_15_4 hF]
  refine by_iast (by first | exact rfl | assumption | exact ps_1 hpp | exact ps_2 hpp | exact ps_3 hpp | exact ps_4 hpp | exact ps_5 hpp | exact ps_6 hpp | exact ps_7 hpp | exact ps_8 hpp | exact ps_9 hpp | exact ps_10 hpp | exact ps_11 hpp | exact ps_15 hpp | exact ps_16 hpp | exact ps_17 hpp | exact ps_18 hpp | exact ps_19 hpp | exact ps_21 hpp | exact ps_22 hpp | exact ps_23 hpp | exact ps_24 hpp) ⟨by omega, by omega⟩ ?_
  refine by_aload_n rfl ?_
  refine by_getf cn_50 fl_1_26 (by first | exact rfl | assumption) (by decide) ?_
  refine by_iload rfl ?_
  refine by_iconst ci_m1 ?_
  simp (disch := first | exact Nat.ne_of_beq_eq_false rfl | omega) only [nI_add, xa_sub, xa_mul, pk_div, nm_mod, xa_shr, xa_and7, xa_and1, xa_and255, xa_by_and, nI_m1, Nat.add_sub_cancel, Nat.reducePow, Nat.zero_add, Nat.add_zero, Nat.reduceAdd, Nat.reduceMul, Nat.reduceSub, xf_same, xq_ff, xq_fo, xf_1, xf_2, xs_1, xs_2, xs_same, xq_so, xj_1, xj_2, xj_same, xq_jo, xq_sa1, xq_same, xq_other, upd_s, oI_n, oI_s, g1, xf_15_0 hF, xf_15_1 hF, xf_15_2 hF, xf_15_3 hF, xf_15_4 hF]
  refine by_iast (by first | exact rfl | assumption | exact ps_1 hpp | exact ps_2 hpp | exact ps_3 hpp | exact ps_4 hpp | exact ps_5 hpp | exact ps_6 hpp | exact ps_7 hpp | exact ps_8 hpp | exact ps_9 hpp | exact ps_10 hpp | exact ps_11 hpp | exact ps_15 hpp | exact ps_16 hpp | exact ps_17 hpp | exact ps_18 hpp | exact ps_19 hpp | exact ps_21 hpp | exact ps_22 hpp | exact ps_23 hpp | exact ps_24 hpp) ⟨by omega, by omega⟩ ?_
  refine by_iload rfl ?_
  refine by_iret ry_50 (by first | rfl | assumption) ?_
  refine hp _ (Fr_si (Fr_si (Fr_si (Fr_si (Fr_si (Fr_sf Fr_rf (by decide)) (by decide)) (by decide)) (by decide)) (by decide)) (by decide)) ⟨by simp only [xs_1, xf_same], fun t ht => ?_, ⟨updN u c c, updN dd c 0, m, fun t ht => ?_, uf_new g4, by rw [nr_new]; omega⟩, ?_, ?_, fun t ht => ?_⟩
  · by_cases e : t = c
    · subst e
      rw [updN_s, updN_s, updN_s]
      refine ⟨?_, hk, fun q => ⟨?_, ?_, hl q⟩⟩
      · simp (disch := omega) only [xq_so, xs_same, upd_s]; rw [hkc]
      · simp (disch := omega) only [xq_so, xs_same, upd_s]
      · simp (disch := omega) only [xq_so, xs_same, upd_s]
    · obtain ⟨a1, a2, a3⟩ := g2 t (by omega)
      rw [updN_o e, updN_o e, updN_o e]
      refine ⟨?_, a2, fun q => ?_⟩
      · simp (disch := omega) only [xq_so, xs_same]; rw [upd_o e]; exact a1
      · obtain ⟨b1, b2, b3, b4⟩ := a3 q
        refine ⟨?_, ?_, by omega, by omega⟩
        · simp (disch := omega) only [xq_so, xs_same]; rw [upd_o e]; exact b1
        · simp (disch := omega) only [xq_so, xs_same]; rw [upd_o e]; exact b2
  · simp (disch := omega) only [xq_so, xs_same]
    by_cases e : t = c
    · subst e
      rw [updN_s, upd_s]
    · rw [updN_o e, upd_o e]; exact g3 t (by omega)
  · exact hN.1
  · exact hN.2
  · rw [xs_same]
    by_cases e : t = c
    · subst e
      rw [upd_s]
    · rw [upd_o e]
      simp (disch := omega) only [xq_so]
      exact g8 t (by omega)
theorem sp_open (hF : XF h) (hg : gr h c k l r rt es) (hc : c < 14031)
    (hp : ∀ h', Fr grR grT h h' → gr h' (c + 1) (updN k c 0) (updN l c 0) (updN r c 0) (updN rt c c) es → post (some (.int (nI c))) h') : xm_T (XE sc) (d + 2) 43 [.ref 15] h post := by
  refine xq_in rfl ?_
  simp only [xq_a0, xq_aI, xq_aJ, xq_aR, Nat.reduceAdd]
  with_reducible refine xm_go_blk b_X1_open_0 k_X1_open_0 ?_
  refine by_aload_n rfl ?_
  refine by_iconst ci_3 ?_
  refine by_iconst ci_0 ?_
  refine by_iconst ci_0 ?_
  refine by_inv3 cn_43 lk_1_88 (by rw [xe_cnt]; decide) is_50 np_50 cn_50 (by first | exact rfl | assumption) (Nat.le_of_ble_eq_true rfl) ?_
  refine sp_term (kk := 0) hF hg hc (by decide) rfl (fun q => absurd q (by decide)) (by decide) (fun h' hf hg' => ?_)
  with_reducible refine xm_go_blk b_X1_open_7 k_X1_open_7 ?_
  refine by_iret ry_43 (by first | rfl | assumption) ?_
  exact hp h' hf hg'
theorem sp_uniG {x y : Nat} (hF : XF h) (hg : gr h c k l r rt es) (hc : c ≤ 14030) (hx : x < c) (hy : y < c)
    (hT : ∀ h' rt', Fr [19, 21] [(15, 7)] h h' → gr h' c k l r rt' ((x, y) :: es) → post (some (.int (nI 1))) h') (hFa : ∀ h', Fr [19, 21] [(15, 7)] h h' → (∀ V, ty_vok V → ty_all c k l r V → ty_pd ((x, y) :: es) V → False) → post (some (.int (nI 0))) h') :
    xm_T (XE sc) (d + 2) 51 [.ref 15, .int (nI x), .int (nI y)] h post := by
  obtain ⟨g1, g2, g3, g6, g7, g8⟩ := hg
  refine sp_unify hF g2 hc hx hy g3 g6 g7 (fun h' rt' hI => ?_) hFa
  obtain ⟨p1, p2, p3, p4, p5, p6, p7, p8⟩ := hI
  exact hT h' rt' p1 ⟨by rw [p1.2.2 _ _ (by decide), g1], fnA_fr g2 p1 (by decide) (by decide) (by decide), p5, p7, p8, fun t ht => by rw [p1.1 _ (by decide)]; exact g8 t ht⟩
end TRM
