/-! ===== the reference's cells, as a graph that grows ===== -/
def mgr (h : xm_H) (c : Nat) (k l r rt : Nat → Nat) (es : List (Nat × Nat)) : Prop := h.2.2 102 50 = .int (nI c) ∧ mnA h c k l r ∧ (∃ u dd m, upA h 141 c u ∧ uf_ok c u rt dd m ∧ m + nr c rt = c) ∧ ty_JS c k l r rt es [] ∧ ty_JK c k l r rt es []
def mgR : List Nat := [138, 139, 140, 141, 143]
def mgT : List (Nat × Nat) := [(102, 50)]
theorem mg_fin : xt_fin.all (fun q => !(mgT.contains (q.1, q.2.1))) = true := by decide +kernel
theorem mgr_fr {S : List Nat} {T : List (Nat × Nat)} {h h' : xm_H} {c : Nat} {k l r rt : Nat → Nat} {es : List (Nat × Nat)} (hg : mgr h c k l r rt es) (hf : Fr S T h h') (h1 : (102, 50) ∉ T) (h6 : 138 ∉ S) (h7 : 139 ∉ S) (h8 : 140 ∉ S) (h9 : 141 ∉ S) : mgr h' c k l r rt es := by
  obtain ⟨g1, g2, ⟨u, dd, m, g3, g4, g5⟩, g6, g7⟩ := hg
  exact ⟨by rw [hf.2.2 _ _ h1, g1], mnA_fr g2 hf h6 h7 h8, ⟨u, dd, m, upA_fr g3 hf h9, g4, g5⟩, g6, g7⟩
section TRM
variable {sc : xm_Sc} {d c : Nat} {k l r rt : Nat → Nat} {es : List (Nat × Nat)} {h : xm_H} {post : xm_Po}
theorem sp_mcell {ll rr kk : Nat} {xl xr : Int32} (hF : XF h) (hg : mgr h c k l r rt es) (hc : c < 14200) (hk : kk < 4) (hl : 2 ≤ kk → xl = nI ll ∧ xr = nI rr ∧ ll < c + 1 ∧ rr < c + 1)
    (hp : ∀ h', Fr mgR mgT h h' → mgr h' (c + 1) (updN k c kk) (updN l c ll) (updN r c rr) (updN rt c c) es → post (some (.int (nI c))) h') : xm_T (XE sc) (d + 1) 213 [.ref 102, .int (nI kk), .int xl, .int xr] h post := by
  obtain ⟨g1, g2, ⟨u, dd, m, g3, g4, g5⟩, g6, g7⟩ := hg
  have hG := uf_G (k := k) (l := l) (r := r) g4 (fun t ht => ⟨(g2 t ht).2.1, fun e => ((g2 t ht).2.2 e).2.2⟩)
  have hN := ty_J_new (k' := updN k c kk) (l' := updN l c ll) (r' := updN r c rr) (rt' := updN rt c c) (fun t ht => ⟨updN_o (Nat.ne_of_lt ht), updN_o (Nat.ne_of_lt ht), updN_o (Nat.ne_of_lt ht), updN_o (Nat.ne_of_lt ht)⟩) updN_s hG g6 g7
  refine xq_in rfl ?_
  simp only [xq_a0, xq_aI, xq_aJ, xq_aR, Nat.reduceAdd]
  with_reducible refine xm_go_blk b_X12_cell_0 k_X12_cell_0 ?_
  refine by_aload_n rfl ?_
  refine by_getf cn_213 fl_12_118 (by first | exact rfl | assumption) (by decide) ?_
  refine by_aload_n rfl ?_
  refine by_getf cn_213 fl_12_233 (by first | exact rfl | assumption) (by decide) ?_
  refine by_iload_n rfl ?_
  simp (disch := first | exact Nat.ne_of_beq_eq_false rfl | exact rfl | omega) only [nI_add, xa_sub, xa_mul, pk_div, nm_mod, xa_shr, xa_and7, xa_and1, xa_and255, xa_by_and, nI_m1, Nat.add_sub_cancel, Nat.reducePow, Nat.zero_add, Nat.add_zero, Nat.reduceAdd, Nat.reduceMul, Nat.reduceSub, xf_same, xq_ff, xq_fo, xf_1, xf_2, xs_1, xs_2, xs_same, xq_so, xj_1, xj_2, xj_same, xq_jo, xq_sa1, xq_same, xq_other, upd_s, oI_n, oI_s, g1, xf_102_51 hF, xf_102_52 hF, xf_102_53 hF, xf_102_54 hF]
  refine by_iast (by first | exact rfl | assumption | exact ps_1 hpp | exact ps_2 hpp | exact ps_3 hpp | exact ps_4 hpp | exact ps_5 hpp | exact ps_6 hpp | exact ps_7 hpp | exact ps_8 hpp | exact ps_9 hpp | exact ps_10 hpp | exact ps_11 hpp | exact ps_15 hpp | exact ps_16 hpp | exact ps_17 hpp | exact ps_18 hpp | exact ps_19 hpp | exact ps_21 hpp | exact ps_22 hpp | exact ps_23 hpp | exact ps_24 hpp) ⟨by omega, by omega⟩ ?_
  refine by_aload_n rfl ?_
  refine by_getf cn_213 fl_12_121 (by first | exact rfl | assumption) (by decide) ?_
  refine by_aload_n rfl ?_
  refine by_getf cn_213 fl_12_233 (by first | exact rfl | assumption) (by decide) ?_
  refine by_iload_n rfl ?_
  simp (disch := first | exact Nat.ne_of_beq_eq_false rfl | exact rfl | omega) only [nI_add, xa_sub, xa_mul, pk_div, nm_mod, xa_shr, xa_and7, xa_and1, xa_and255, xa_by_and, nI_m1, Nat.add_sub_cancel, Nat.reducePow, Nat.zero_add, Nat.add_zero, Nat.reduceAdd, Nat.reduceMul, Nat.reduceSub, xf_same, xq_ff, xq_fo, xf_1, xf_2, xs_1, xs_2, xs_same, xq_so, xj_1, xj_2, xj_same, xq_jo, xq_sa1, xq_same, xq_other, upd_s, oI_n, oI_s, g1, xf_102_51 hF, xf_102_52 hF, xf_102_53 hF, xf_102_54 hF]
  refine by_iast (by first | exact rfl | assumption | exact ps_1 hpp | exact ps_2 hpp | exact ps_3 hpp | exact ps_4 hpp | exact ps_5 hpp | exact ps_6 hpp | exact ps_7 hpp | exact ps_8 hpp | exact ps_9 hpp | exact ps_10 hpp | exact ps_11 hpp | exact ps_15 hpp | exact ps_16 hpp | exact ps_17 hpp | exact ps_18 hpp | exact ps_19 hpp | exact ps_21 hpp | exact ps_22 hpp | exact ps_23 hpp | exact ps_24 hpp) ⟨by omega, by omega⟩ ?_
  refine by_aload_n rfl ?_
  refine by_getf cn_213 fl_12_124 (by first | exact rfl | assumption) (by decide) ?_
  refine by_aload_n rfl ?_
  refine by_getf cn_213 fl_12_233 (by first | exact rfl | assumption) (by decide) ?_
  refine by_iload_n rfl ?_
  simp (disch := first | exact Nat.ne_of_beq_eq_false rfl | exact rfl | omega) only [nI_add, xa_sub, xa_mul, pk_div, nm_mod, xa_shr, xa_and7, xa_and1, xa_and255, xa_by_and, nI_m1, Nat.add_sub_cancel, Nat.reducePow, Nat.zero_add, Nat.add_zero, Nat.reduceAdd, Nat.reduceMul, Nat.reduceSub, xf_same, xq_ff, xq_fo, xf_1, xf_2, xs_1, xs_2, xs_same, xq_so, xj_1, xj_2, xj_same, xq_jo, xq_sa1, xq_same, xq_other, upd_s, oI_n, oI_s, g1, xf_102_51 hF, xf_102_52 hF, xf_102_53 hF, xf_102_54 hF]
  refine by_iast (by first | exact rfl | assumption | exact ps_1 hpp | exact ps_2 hpp | exact ps_3 hpp | exact ps_4 hpp | exact ps_5 hpp | exact ps_6 hpp | exact ps_7 hpp | exact ps_8 hpp | exact ps_9 hpp | exact ps_10 hpp | exact ps_11 hpp | exact ps_15 hpp | exact ps_16 hpp | exact ps_17 hpp | exact ps_18 hpp | exact ps_19 hpp | exact ps_21 hpp | exact ps_22 hpp | exact ps_23 hpp | exact ps_24 hpp) ⟨by omega, by omega⟩ ?_
  refine by_aload_n rfl ?_
  refine by_getf cn_213 fl_12_127 (by first | exact rfl | assumption) (by decide) ?_
  refine by_aload_n rfl ?_
  refine by_getf cn_213 fl_12_233 (by first | exact rfl | assumption) (by decide) ?_
  refine by_aload_n rfl ?_
  refine by_getf cn_213 fl_12_233 (by first | exact rfl | assumption) (by decide) ?_
  simp (disch := first | exact Nat.ne_of_beq_eq_false rfl | exact rfl | omega) only [nI_add, xa_sub, xa_mul, pk_div, nm_mod, xa_shr, xa_and7, xa_and1, xa_and255, xa_by_and, nI_m1, Nat.add_sub_cancel, Nat.reducePow, Nat.zero_add, Nat.add_zero, Nat.reduceAdd, Nat.reduceMul, Nat.reduceSub, xf_same, xq_ff, xq_fo, xf_1, xf_2, xs_1, xs_2, xs_same, xq_so, xj_1, xj_2, xj_same, xq_jo, xq_sa1, xq_same, xq_other, upd_s, oI_n, oI_s, g1, xf_102_51 hF, xf_102_52 hF, xf_102_53 hF, xf_102_54 hF]
  refine by_iast (by first | exact rfl | assumption | exact ps_1 hpp | exact ps_2 hpp | exact ps_3 hpp | exact ps_4 hpp | exact ps_5 hpp | exact ps_6 hpp | exact ps_7 hpp | exact ps_8 hpp | exact ps_9 hpp | exact ps_10 hpp | exact ps_11 hpp | exact ps_15 hpp | exact ps_16 hpp | exact ps_17 hpp | exact ps_18 hpp | exact ps_19 hpp | exact ps_21 hpp | exact ps_22 hpp | exact ps_23 hpp | exact ps_24 hpp) ⟨by omega, by omega⟩ ?_
  refine by_aload_n rfl ?_
  refine by_dup rfl ?_
  refine by_getf cn_213 fl_12_233 (by first | exact rfl | assumption) (by decide) ?_
  refine by_iconst ci_1 ?_
  simp (disch := first | exact Nat.ne_of_beq_eq_false rfl | exact rfl | omega) only [nI_add, xa_sub, xa_mul, pk_div, nm_mod, xa_shr, xa_and7, xa_and1, xa_and255, xa_by_and, nI_m1, Nat.add_sub_cancel, Nat.reducePow, Nat.zero_add, Nat.add_zero, Nat.reduceAdd, Nat.reduceMul, Nat.reduceSub, xf_same, xq_ff, xq_fo, xf_1, xf_2, xs_1, xs_2, xs_same, xq_so, xj_1, xj_2, xj_same, xq_jo, xq_sa1, xq_same, xq_other, upd_s, oI_n, oI_s, g1, xf_102_51 hF, xf_102_52 hF, xf_102_53 hF, xf_102_54 hF]
  refine by_iadd ?_
  refine by_putf cn_213 fl_12_233 (by first | exact rfl | assumption) (by decide) nf_12_50 ft_12_50 (by first | rfl | assumption) (by first | rfl | assumption) ?_
  refine by_aload_n rfl ?_
  refine by_getf cn_213 fl_12_233 (by first | exact rfl | assumption) (by decide) ?_
  refine by_iconst ci_1 ?_
  simp (disch := first | exact Nat.ne_of_beq_eq_false rfl | exact rfl | omega) only [nI_add, xa_sub, xa_mul, pk_div, nm_mod, xa_shr, xa_and7, xa_and1, xa_and255, xa_by_and, nI_m1, Nat.add_sub_cancel, Nat.reducePow, Nat.zero_add, Nat.add_zero, Nat.reduceAdd, Nat.reduceMul, Nat.reduceSub, xf_same, xq_ff, xq_fo, xf_1, xf_2, xs_1, xs_2, xs_same, xq_so, xj_1, xj_2, xj_same, xq_jo, xq_sa1, xq_same, xq_other, upd_s, oI_n, oI_s, g1, xf_102_51 hF, xf_102_52 hF, xf_102_53 hF, xf_102_54 hF]
  refine by_isub ?_
  simp (disch := first | exact Nat.ne_of_beq_eq_false rfl | exact rfl | omega) only [nI_add, xa_sub, xa_mul, pk_div, nm_mod, xa_shr, xa_and7, xa_and1, xa_and255, xa_by_and, nI_m1, Nat.add_sub_cancel, Nat.reducePow, Nat.zero_add, Nat.add_zero, Nat.reduceAdd, Nat.reduceMul, Nat.reduceSub, xf_same, xq_ff, xq_fo, xf_1, xf_2, xs_1, xs_2, xs_same, xq_so, xj_1, xj_2, xj_same, xq_jo, xq_sa1, xq_same, xq_other, upd_s, oI_n, oI_s, g1, xf_102_51 hF, xf_102_52 hF, xf_102_53 hF, xf_102_54 hF]
  refine by_iret ry_213 (by first | rfl | assumption) ?_
  refine hp _ (Fr_sf (Fr_si (Fr_si (Fr_si (Fr_si Fr_rf (by decide)) (by decide)) (by decide)) (by decide)) (by decide)) ⟨by simp only [xf_same], fun t ht => ?_, ⟨updN u c c, updN dd c 0, m, fun t ht => ?_, uf_new g4, by rw [nr_new]; omega⟩, hN.1, hN.2⟩
  · by_cases e : t = c
    · subst e
      rw [updN_s, updN_s, updN_s]
      refine ⟨?_, hk, fun q => ⟨?_, ?_, (hl q).2.2⟩⟩
      · simp (disch := omega) only [xf_1, xq_so, xs_same, upd_s]
      · simp (disch := omega) only [xf_1, xq_so, xs_same, upd_s]; exact (hl q).1
      · simp (disch := omega) only [xf_1, xq_so, xs_same, upd_s]; exact (hl q).2.1
    · obtain ⟨a1, a2, a3⟩ := g2 t (by omega)
      rw [updN_o e, updN_o e, updN_o e]
      refine ⟨?_, a2, fun q => ?_⟩
      · simp (disch := omega) only [xf_1, xq_so, xs_same]; rw [upd_o e]; exact a1
      · obtain ⟨b1, b2, b3, b4⟩ := a3 q
        refine ⟨?_, ?_, by omega, by omega⟩
        · simp (disch := omega) only [xf_1, xq_so, xs_same]; rw [upd_o e]; exact b1
        · simp (disch := omega) only [xf_1, xq_so, xs_same]; rw [upd_o e]; exact b2
  · simp (disch := omega) only [xf_1, xq_so, xs_same]
    by_cases e : t = c
    · subst e
      rw [updN_s, upd_s]
    · rw [updN_o e, upd_o e]; exact g3 t (by omega)
theorem sp_mopen (hF : XF h) (hg : mgr h c k l r rt es) (hc : c < 14200)
    (hp : ∀ h', Fr mgR mgT h h' → mgr h' (c + 1) (updN k c 0) (updN l c 0) (updN r c 0) (updN rt c c) es → post (some (.int (nI c))) h') : xm_T (XE sc) (d + 2) 273 [.ref 102] h post := by
  refine xq_in rfl ?_
  simp only [xq_a0, xq_aI, xq_aJ, xq_aR, Nat.reduceAdd]
  with_reducible refine xm_go_blk b_X12_open_0 k_X12_open_0 ?_
  refine by_aload_n rfl ?_
  refine by_iconst ci_0 ?_
  refine by_iconst ci_m1 ?_
  refine by_iconst ci_m1 ?_
  refine by_inv3 cn_273 lk_12_236 (by rw [xe_cnt]; decide) is_213 np_213 cn_213 (by first | exact rfl | assumption) (Nat.le_of_ble_eq_true rfl) ?_
  refine sp_mcell (kk := 0) (ll := 0) (rr := 0) hF hg hc (by decide) (fun q => absurd q (by decide)) (fun h' hf hg' => ?_)
  with_reducible refine xm_go_blk b_X12_open_7 k_X12_open_7 ?_
  refine by_iret ry_273 (by first | rfl | assumption) ?_
  exact hp h' hf hg'
theorem sp_mjoinG {x y : Nat} (hF : XF h) (hg : mgr h c k l r rt es) (hc : c ≤ 14200) (hx : x < c) (hy : y < c)
    (hT : ∀ h' rt', Fr [141, 143] [] h h' → mgr h' c k l r rt' ((x, y) :: es) → post (some (.int (nI 1))) h') (hFa : ∀ h', Fr [141, 143] [] h h' → (∀ V, ty_vok V → ty_all c k l r V → ty_pd ((x, y) :: es) V → False) → post (some (.int (nI 0))) h') :
    xm_T (XE sc) (d + 2) 242 [.ref 102, .int (nI x), .int (nI y)] h post := by
  obtain ⟨g1, g2, g3, g6, g7⟩ := hg
  refine sp_mjoin hF g2 hc hx hy g3 g6 g7 (fun h' rt' hI => ?_) hFa
  obtain ⟨p1, p3, p4, p5, p6, p7, p8⟩ := hI
  exact hT h' rt' p1 ⟨by rw [p1.2.2 _ _ (by simp), g1], mnA_fr g2 p1 (by decide) (by decide) (by decide), p5, p7, p8⟩
end TRM
