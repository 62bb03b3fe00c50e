/-! ===== say: the reference's copies ===== -/
section SY
variable {sc : xm_Sc} {d n c p k : Nat} {t L : List Nat} {NL : List (List Nat × Nat)} {G : sG} {st : List (Option Nat)} {rk : Nat → Nat} {M : Nat} {h h' : xm_H} {post : xm_Po}
theorem mG_ch (hd : sOK t G st rk M) (hg : ∀ n, n < sCt G → h.1 105 n = nI (sCd G n) ∧ h.1 106 n = oI (sC1 G n) ∧ h.1 107 n = oI (sC2 G n)) : chM h (sCt G) (sCd G) (sC1 G) (sC2 G) := by
  intro n hn
  obtain ⟨a1, a2, a3⟩ := hg n hn
  obtain ⟨b1, b2, b3, b4, _⟩ := hd.2.2.2 n hn
  refine ⟨a1, b1, fun _ => a2, fun z => ?_, fun _ => a3, fun z => ?_⟩
  · by_cases q : n ∈ stl st
    · have := (b4 q).1; omega
    · cases e : sC1 G n with
      | none => rfl
      | some x => have := (b3 q).2.1.mpr (by rw [e]; rfl); omega
  · by_cases q : n ∈ stl st
    · exact (b4 q).2.1
    · cases e : sC2 G n with
      | none => rfl
      | some x => have := (b3 q).2.2.mpr (by rw [e]; rfl); omega
theorem mG0_cp (hg : mG0 h (sCp G L k)) (ho : L.getD k 0 < sCt G) (e1 : h'.1 105 (sCt G + k) = h.1 105 (L.getD k 0)) (e2 : h'.1 106 (sCt G + k) = oI ((sC1 G (L.getD k 0)).map (fun y => sCt G + ixF L y))) (e3 : h'.1 107 (sCt G + k) = oI ((sC2 G (L.getD k 0)).map (fun y => sCt G + ixF L y))) (e4 : h'.1 108 (sCt G + k) = h.1 108 (L.getD k 0)) (e5 : h'.1 109 (sCt G + k) = h.1 109 (L.getD k 0)) (e6 : sCd G (L.getD k 0) = 11 → ∀ i, i < 8 → h'.1 110 (8 * (sCt G + k) + i) = h.1 110 (8 * L.getD k 0 + i)) (go : ∀ r m, r ∈ mnR → m < sCt G + k → h'.1 r m = h.1 r m) (g10 : ∀ j, j < 8 * (sCt G + k) → h'.1 110 j = h.1 110 j) : mG0 h' (sCp G L (k + 1)) := by
  intro m hm
  have hm : m < sCt G + (k + 1) := hm
  by_cases e : m = sCt G + k
  · subst e
    obtain ⟨a1, a2, a3, a4, a5, a6⟩ := hg (L.getD k 0) (by show _ < sCt G + k; omega)
    obtain ⟨b1, b2, b3, b4, b5, b6⟩ := sCp_o (G := G) (L := L) (k := k) (Or.inl ho)
    obtain ⟨c1, c2, c3, c4, c5, c6⟩ := sCp_n (G := G) (L := L) (k := k + 1) (Nat.lt_succ_self k)
    rw [b1] at a1 a6
    rw [b4] at a4
    rw [b5] at a5
    rw [b6] at a6
    rw [c1, c2, c3, c4, c5, c6, e1, e2, e3, e4, e5]
    exact ⟨a1, rfl, rfl, a4, a5, fun z i hi => by rw [e6 z i hi]; exact a6 z i hi⟩
  · obtain ⟨a1, a2, a3, a4, a5, a6⟩ := hg m (by show _ < sCt G + k; omega)
    obtain ⟨c1, c2, c3, c4, c5, c6⟩ := sCp_s (G := G) (L := L) (i := k) (x := m) (by omega)
    rw [c1, c2, c3, c4, c5, c6, go _ m (by simp) (by omega), go _ m (by simp) (by omega), go _ m (by simp) (by omega), go _ m (by simp) (by omega), go _ m (by simp) (by omega)]
    exact ⟨a1, a2, a3, a4, a5, fun z i hi => by rw [g10 _ (by omega)]; exact a6 z i hi⟩
abbrev srwR : List Nat := [105, 106, 107, 108, 109, 110, 161]
theorem rn_100 {root : Nat} {x0 : Int32} {x2 : Int64} (hF : XF h) (hd : sOK t G st rk M) (hN : sCt G + L.length ≤ 2000) (l1 : L.Nodup) (l2 : ∀ x ∈ L, x < sCt G ∧ x ∉ stl st) (l3 : df_cl (sC1 G) (sC2 G) L) (hroot : ∃ o, L = o ++ [root]) (hord : h.2.2 102 14 = .int (nI L.length)) (hli : ∀ i, i < L.length → h.1 113 i = nI (L.getD i 0)) (hs : h.2.2 102 81 = .int (nI 0)) (hfr : ∃ v, h.2.2 102 84 = .int v)
    (hp : ∀ h', Fr srwR [(102, 5)] h h' → h'.2.2 102 5 = .int (nI (sCt G + L.length)) → mG0 h' (sCp G L L.length) → post (some (.int (nI (sCt G + L.length - 1)))) h') : ∀ (y k : Nat) (g : xm_H), k + y = L.length → Fr srwR [(102, 5)] h g → g.2.2 102 5 = .int (nI (sCt G + k)) → mG0 g (sCp G L k) → (∀ j, j < k → g.1 161 (L.getD j 0) = nI (sCt G + j)) → xm_go (XE sc) (xm_T (XE sc) (d + 3)) 285 post 100 [(5, .int (nI k)), (4, .int (nI root)), (2, .long x2), (1, .int x0), (0, .ref 102)] [] g := by
  obtain ⟨fv, hfv⟩ := hfr
  intro y
  induction y with
  | zero =>
    intro k g hk fg gc gg gcp
    have : k = L.length := by omega
    subst this
    have Fg := Fr_XF hF fg (by decide +kernel)
    have x14 : g.2.2 102 14 = .int (nI L.length) := by rw [fg.2.2 _ _ (by simp)]; exact hord
    obtain ⟨o, ho⟩ := hroot
    have hl1 : 1 ≤ L.length := by rw [ho, List.length_append]; exact Nat.le_add_left _ _
    have er : L.getD (L.length - 1) 0 = root := by
      rw [ho]
      simp
    have hrN := (l2 root (by rw [ho]; simp)).1
    have hN0 := hd.1
    have xr := gcp (L.length - 1) (by omega)
    rw [er] at xr
    with_reducible refine xm_go_blk b_X12_renewed_100 k_X12_renewed_100 ?_
    refine by_iload rfl ?_
    refine by_aload_n rfl ?_
    refine by_getf cn_285 fl_12_226 (by first | exact rfl | assumption) (by decide) ?_
    simp (disch := first | exact Nat.ne_of_beq_eq_false rfl | exact rfl | omega) only [nI_add, xa_sub, xa_mul, pk_div, nm_mod, xa_shr, xa_and7, xa_and1, xa_and255, xa_by_and, nI_m1, Nat.add_sub_cancel, Nat.reducePow, Nat.zero_add, Nat.add_zero, Nat.reduceAdd, Nat.reduceMul, Nat.reduceSub, xf_same, xq_ff, xq_fo, xf_1, xf_2, xs_1, xs_2, xs_same, xq_so, xj_1, xj_2, xj_same, xq_jo, xq_sa1, xq_same, xq_other, upd_s, oI_n, oI_s, x14, xf_102_91 Fg, xr]
    refine by_ic_ge 294 rfl ?_
    simp (disch := first | exact Nat.ne_of_beq_eq_false rfl | exact rfl | omega) only [nI_add, xa_sub, xa_mul, pk_div, nm_mod, xa_shr, xa_and7, xa_and1, xa_and255, xa_by_and, nI_m1, Nat.add_sub_cancel, Nat.reducePow, Nat.zero_add, Nat.add_zero, Nat.reduceAdd, Nat.reduceMul, Nat.reduceSub, xf_same, xq_ff, xq_fo, xf_1, xf_2, xs_1, xs_2, xs_same, xq_so, xj_1, xj_2, xj_same, xq_jo, xq_sa1, xq_same, xq_other, upd_s, oI_n, oI_s, xv_0, xv_1, xv_2, xv_3, xm_p1, xm_p2, xq_fp, xq_fn, List.filter_nil, Nat.reduceBEq, Bool.not_true, Bool.not_false, Bool.and_true, Bool.and_false, Bool.false_and, Bool.true_and, if_true, if_false, Bool.false_eq_true, reduceIte, xc_i, xc_j, xc_r, xc_n, List.nil_append, List.cons_append, Option.toList_some, Option.toList_none, nI_ltJ, nI_leJ, nI_eqJ, nI_ltz, nI_gez, nI_gtz, nI_lez, nI_eqz, m1_ltz, m1_gez, true_imp_iff, false_imp_iff, true_and, and_true, ne_eq, not_false_eq_true, not_true_eq_false, Nat.reduceEqDiff, Nat.reduceLT, Nat.reduceLeDiff, x14, xf_102_91 Fg, xr]
    refine ⟨fun c100 => ?_, fun c => absurd (by omega) c⟩
    with_reducible refine xm_go_blk b_X12_renewed_294 k_X12_renewed_294 ?_
    refine by_aload_n rfl ?_
    refine by_getf cn_285 fl_12_190 (by first | exact rfl | assumption) (by decide) ?_
    refine by_iload rfl ?_
    simp (disch := first | exact Nat.ne_of_beq_eq_false rfl | exact rfl | omega) only [nI_add, xa_sub, xa_mul, pk_div, nm_mod, xa_shr, xa_and7, xa_and1, xa_and255, xa_by_and, nI_m1, Nat.add_sub_cancel, Nat.reducePow, Nat.zero_add, Nat.add_zero, Nat.reduceAdd, Nat.reduceMul, Nat.reduceSub, xf_same, xq_ff, xq_fo, xf_1, xf_2, xs_1, xs_2, xs_same, xq_so, xj_1, xj_2, xj_same, xq_jo, xq_sa1, xq_same, xq_other, upd_s, oI_n, oI_s, x14, xf_102_91 Fg, xr]
    first | refine by_iald (by first | exact rfl | assumption | exact ps_1 hpp | exact ps_2 hpp | exact ps_3 hpp | exact ps_4 hpp | exact ps_5 hpp | exact ps_6 hpp | exact ps_7 hpp | exact ps_8 hpp | exact ps_9 hpp | exact ps_10 hpp | exact ps_11 hpp | exact ps_15 hpp | exact ps_16 hpp | exact ps_17 hpp | exact ps_18 hpp | exact ps_19 hpp | exact ps_21 hpp | exact ps_22 hpp | exact ps_23 hpp | exact ps_24 hpp) ⟨by omega, by omega⟩ ?_ | refine by_tald rfl rfl ⟨by omega, by omega⟩ ?_
    simp (disch := first | exact Nat.ne_of_beq_eq_false rfl | exact rfl | omega) only [nI_add, xa_sub, xa_mul, pk_div, nm_mod, xa_shr, xa_and7, xa_and1, xa_and255, xa_by_and, nI_m1, Nat.add_sub_cancel, Nat.reducePow, Nat.zero_add, Nat.add_zero, Nat.reduceAdd, Nat.reduceMul, Nat.reduceSub, xf_same, xq_ff, xq_fo, xf_1, xf_2, xs_1, xs_2, xs_same, xq_so, xj_1, xj_2, xj_same, xq_jo, xq_sa1, xq_same, xq_other, upd_s, oI_n, oI_s, x14, xf_102_91 Fg, xr]
    refine by_iret ry_285 (by first | rfl | assumption) ?_
    rw [show sCt G + (L.length - 1) = sCt G + L.length - 1 by omega]
    exact hp g fg gc gg
  | succ y ih =>
    intro k g hk fg gc gg gcp
    have Fg := Fr_XF hF fg (by decide +kernel)
    have x14 : g.2.2 102 14 = .int (nI L.length) := by rw [fg.2.2 _ _ (by simp)]; exact hord
    have xl : g.1 113 k = nI (L.getD k 0) := by rw [fg.1 _ (by simp)]; exact hli k (by omega)
    have hoN := (l2 _ (gdm (L := L) (x := k) (by omega))).1
    have hN0 := hd.1
    obtain ⟨a1, a2, a3, a4, a5, a6⟩ := gg (L.getD k 0) (by show _ < sCt G + k; omega)
    obtain ⟨b1, b2, b3, b4, b5, b6⟩ := sCp_o (G := G) (L := L) (k := k) (Or.inl hoN)
    rw [b1] at a1
    rw [b2] at a2
    rw [b3] at a3
    have c12 := (hd.2.2.2 _ hoN).1
    have gfv : g.2.2 102 84 = .int fv := by rw [fg.2.2 _ _ (by simp)]; exact hfv
    have gs : g.2.2 102 81 = .int (nI 0) := by rw [fg.2.2 _ _ (by simp)]; exact hs
    have xcp : ∀ v, (sC1 G (L.getD k 0) = some v ∨ sC2 G (L.getD k 0) = some v) → g.1 161 v = nI (sCt G + ixF L v) ∧ v < 2000 ∧ v ≠ L.getD k 0 := fun v hv => by
      obtain ⟨e1, e2⟩ := cl_ix l1 l3 (by omega) hv
      have := gcp (ixF L v) e1
      rw [e2] at this
      have hvN := sOK_cN hd _ hoN v hv
      refine ⟨this, by omega, fun z => ?_⟩
      have h1 := ixF_of l1 (i := k) (by omega)
      rw [← z] at h1
      omega
    obtain ⟨o, eo⟩ : ∃ o, L.getD k 0 = o := ⟨_, rfl⟩
    with_reducible refine xm_go_blk b_X12_renewed_100 k_X12_renewed_100 ?_
    refine by_iload rfl ?_
    refine by_aload_n rfl ?_
    refine by_getf cn_285 fl_12_226 (by first | exact rfl | assumption) (by decide) ?_
    simp (disch := first | exact Nat.ne_of_beq_eq_false rfl | exact rfl | omega) only [nI_add, xa_sub, xa_mul, pk_div, nm_mod, xa_shr, xa_and7, xa_and1, xa_and255, xa_by_and, nI_m1, Nat.add_sub_cancel, Nat.reducePow, Nat.zero_add, Nat.add_zero, Nat.reduceAdd, Nat.reduceMul, Nat.reduceSub, xf_same, xq_ff, xq_fo, xf_1, xf_2, xs_1, xs_2, xs_same, xq_so, xj_1, xj_2, xj_same, xq_jo, xq_sa1, xq_same, xq_other, upd_s, oI_n, oI_s, x14, xf_102_15 Fg, xl, xf_102_6 Fg, a1]
    refine by_ic_ge 294 rfl ?_
    simp (disch := first | exact Nat.ne_of_beq_eq_false rfl | exact rfl | omega) only [nI_add, xa_sub, xa_mul, pk_div, nm_mod, xa_shr, xa_and7, xa_and1, xa_and255, xa_by_and, nI_m1, Nat.add_sub_cancel, Nat.reducePow, Nat.zero_add, Nat.add_zero, Nat.reduceAdd, Nat.reduceMul, Nat.reduceSub, xf_same, xq_ff, xq_fo, xf_1, xf_2, xs_1, xs_2, xs_same, xq_so, xj_1, xj_2, xj_same, xq_jo, xq_sa1, xq_same, xq_other, upd_s, oI_n, oI_s, xv_0, xv_1, xv_2, xv_3, xm_p1, xm_p2, xq_fp, xq_fn, List.filter_nil, Nat.reduceBEq, Bool.not_true, Bool.not_false, Bool.and_true, Bool.and_false, Bool.false_and, Bool.true_and, if_true, if_false, Bool.false_eq_true, reduceIte, xc_i, xc_j, xc_r, xc_n, List.nil_append, List.cons_append, Option.toList_some, Option.toList_none, nI_ltJ, nI_leJ, nI_eqJ, nI_ltz, nI_gez, nI_gtz, nI_lez, nI_eqz, m1_ltz, m1_gez, true_imp_iff, false_imp_iff, true_and, and_true, ne_eq, not_false_eq_true, not_true_eq_false, Nat.reduceEqDiff, Nat.reduceLT, Nat.reduceLeDiff, x14, xf_102_15 Fg, xl, xf_102_6 Fg, a1]
    refine ⟨fun c => absurd c (by omega), fun c100 => ?_⟩
    with_reducible refine xm_go_blk b_X12_renewed_109 k_X12_renewed_109 ?_
    refine by_aload_n rfl ?_
    refine by_getf cn_285 fl_12_40 (by first | exact rfl | assumption) (by decide) ?_
    refine by_iload rfl ?_
    simp (disch := first | exact Nat.ne_of_beq_eq_false rfl | exact rfl | omega) only [nI_add, xa_sub, xa_mul, pk_div, nm_mod, xa_shr, xa_and7, xa_and1, xa_and255, xa_by_and, nI_m1, Nat.add_sub_cancel, Nat.reducePow, Nat.zero_add, Nat.add_zero, Nat.reduceAdd, Nat.reduceMul, Nat.reduceSub, xf_same, xq_ff, xq_fo, xf_1, xf_2, xs_1, xs_2, xs_same, xq_so, xj_1, xj_2, xj_same, xq_jo, xq_sa1, xq_same, xq_other, upd_s, oI_n, oI_s, x14, xf_102_15 Fg, xl, xf_102_6 Fg, a1]
    first | refine by_iald (by first | exact rfl | assumption | exact ps_1 hpp | exact ps_2 hpp | exact ps_3 hpp | exact ps_4 hpp | exact ps_5 hpp | exact ps_6 hpp | exact ps_7 hpp | exact ps_8 hpp | exact ps_9 hpp | exact ps_10 hpp | exact ps_11 hpp | exact ps_15 hpp | exact ps_16 hpp | exact ps_17 hpp | exact ps_18 hpp | exact ps_19 hpp | exact ps_21 hpp | exact ps_22 hpp | exact ps_23 hpp | exact ps_24 hpp) ⟨by omega, by omega⟩ ?_ | refine by_tald rfl rfl ⟨by omega, by omega⟩ ?_
    refine by_istore (by rw [ml_285]; decide) ?_
    refine by_aload_n rfl ?_
    refine by_aload_n rfl ?_
    refine by_getf cn_285 fl_12_16 (by first | exact rfl | assumption) (by decide) ?_
    refine by_iload rfl ?_
    simp (disch := first | exact Nat.ne_of_beq_eq_false rfl | exact rfl | omega) only [nI_add, xa_sub, xa_mul, pk_div, nm_mod, xa_shr, xa_and7, xa_and1, xa_and255, xa_by_and, nI_m1, Nat.add_sub_cancel, Nat.reducePow, Nat.zero_add, Nat.add_zero, Nat.reduceAdd, Nat.reduceMul, Nat.reduceSub, xf_same, xq_ff, xq_fo, xf_1, xf_2, xs_1, xs_2, xs_same, xq_so, xj_1, xj_2, xj_same, xq_jo, xq_sa1, xq_same, xq_other, upd_s, oI_n, oI_s, x14, xf_102_15 Fg, xl, xf_102_6 Fg, a1]
    first | refine by_iald (by first | exact rfl | assumption | exact ps_1 hpp | exact ps_2 hpp | exact ps_3 hpp | exact ps_4 hpp | exact ps_5 hpp | exact ps_6 hpp | exact ps_7 hpp | exact ps_8 hpp | exact ps_9 hpp | exact ps_10 hpp | exact ps_11 hpp | exact ps_15 hpp | exact ps_16 hpp | exact ps_17 hpp | exact ps_18 hpp | exact ps_19 hpp | exact ps_21 hpp | exact ps_22 hpp | exact ps_23 hpp | exact ps_24 hpp) ⟨by omega, by omega⟩ ?_ | refine by_tald rfl rfl ⟨by omega, by omega⟩ ?_
    simp (disch := first | exact Nat.ne_of_beq_eq_false rfl | exact rfl | omega) only [nI_add, xa_sub, xa_mul, pk_div, nm_mod, xa_shr, xa_and7, xa_and1, xa_and255, xa_by_and, nI_m1, Nat.add_sub_cancel, Nat.reducePow, Nat.zero_add, Nat.add_zero, Nat.reduceAdd, Nat.reduceMul, Nat.reduceSub, xf_same, xq_ff, xq_fo, xf_1, xf_2, xs_1, xs_2, xs_same, xq_so, xj_1, xj_2, xj_same, xq_jo, xq_sa1, xq_same, xq_other, upd_s, oI_n, oI_s, xv_0, xv_1, xv_2, xv_3, xm_p1, xm_p2, xq_fp, xq_fn, List.filter_nil, Nat.reduceBEq, Bool.not_true, Bool.not_false, Bool.and_true, Bool.and_false, Bool.false_and, Bool.true_and, if_true, if_false, Bool.false_eq_true, reduceIte, xc_i, xc_j, xc_r, xc_n, List.nil_append, List.cons_append, Option.toList_some, Option.toList_none, x14, xf_102_15 Fg, xl, xf_102_6 Fg, a1]
    refine by_inv1 cn_285 lk_12_626 (by rw [xe_cnt]; decide) is_253 np_253 cn_253 (by first | exact rfl | assumption) (Nat.le_of_ble_eq_true rfl) ?_
    refine sp_madeNode (d := d + 1) Fg gc (by omega) gfv gs (fun z => by omega) (fun _ g1 f1 k5 r1 r2 r3 r4 r5 ro => ?_)
    -- rows of nodes that stand
    have F1 := Fr_XF Fg f1 (by decide +kernel)
    have old : ∀ r m, r ∈ mnR → m < sCt G + k → g1.1 r m = g.1 r m := fun r m hr hm => ro r m hr (by omega)
    have ch : ∀ g2 : xm_H, (∀ r m, r ∈ mnR → m < sCt G + k → g2.1 r m = g.1 r m) → chM g2 (sCt G) (sCd G) (sC1 G) (sC2 G) := fun g2 h2 => mG_ch hd (fun m hm => by
      obtain ⟨u1, u2, u3, _⟩ := gg m (by show _ < sCt G + k; omega)
      obtain ⟨v1, v2, v3, _⟩ := sCp_o (G := G) (L := L) (k := k) (Or.inl hm)
      rw [h2 _ m (by simp) (by omega), h2 _ m (by simp) (by omega), h2 _ m (by simp) (by omega), u1, u2, u3, v1, v2, v3]
      exact ⟨rfl, rfl, rfl⟩)
    let g2 := xm_si g1 161 (L.getD k 0) (nI (sCt G + k))
    have f2 : Fr srwR [(102, 5)] h g2 := Fr_si (Fr_tr fg f1 (by simp) (by simp)) (by simp)
    have F2 : XF g2 := Fr_XF hF f2 (by decide +kernel)
    have o2 : ∀ r m, r ∈ mnR → m < sCt G + k → g2.1 r m = g.1 r m := fun r m hr hm => by
      show (xm_si g1 161 (L.getD k 0) (nI (sCt G + k))).1 r m = _
      rw [xq_so (by simp only [List.mem_cons, List.not_mem_nil, or_false] at hr; omega)]
      exact old r m hr hm
    have cp2 : ∀ v, (sC1 G (L.getD k 0) = some v ∨ sC2 G (L.getD k 0) = some v) → g2.1 161 v = nI (sCt G + ixF L v) := fun v hv => by
      obtain ⟨e1, e2, e3⟩ := xcp v hv
      show (xm_si g1 161 (L.getD k 0) (nI (sCt G + k))).1 161 v = _
      rw [xs_same]
      unfold upd
      rw [if_neg e3, f1.1 _ (by simp)]
      exact e1
    -- the end of a copy: from 237 on
    have fin : ∀ (g6 : xm_H), Fr srwR [(102, 5)] h g6 → g6.2.2 102 5 = .int (nI (sCt G + k + 1)) → g6.1 105 (sCt G + k) = g.1 105 (L.getD k 0) → g6.1 106 (sCt G + k) = oI ((sC1 G (L.getD k 0)).map (fun y => sCt G + ixF L y)) → g6.1 107 (sCt G + k) = oI ((sC2 G (L.getD k 0)).map (fun y => sCt G + ixF L y)) → g6.1 108 (sCt G + k) = g.1 108 (L.getD k 0) → g6.1 109 (sCt G + k) = g.1 109 (L.getD k 0) → (∀ r m, r ∈ mnR → m < sCt G + k → g6.1 r m = g.1 r m) → g6.1 110 = g.1 110 → g6.1 161 = g2.1 161 → xm_go (XE sc) (xm_T (XE sc) (d + 3)) 285 post 237 [(8, .int (nI 0)), (7, .int (nI (sCt G + k))), (6, .int (nI (L.getD k 0))), (5, .int (nI k)), (4, .int (nI root)), (2, .long x2), (1, .int x0), (0, .ref 102)] [] g6 := by
      intro g6 f6 q5 q105 q106 q107 q108 q109 q6 q110 q161
      have F6 := Fr_XF hF f6 (by decide +kernel)
      have x105 : g6.1 105 (L.getD k 0) = nI (sCd G (L.getD k 0)) := by rw [q6 _ _ (by simp) (by omega)]; exact a1
      have nxt : ∀ g7 i, Fr [110] [] g6 g7 → (sCd G (L.getD k 0) = 11 → ∀ i, i < 8 → g7.1 110 (8 * (sCt G + k) + i) = g.1 110 (8 * L.getD k 0 + i)) → (∀ j, j < 8 * (sCt G + k) → g7.1 110 j = g.1 110 j) → xm_go (XE sc) (xm_T (XE sc) (d + 3)) 285 post 288 [(8, .int i), (7, .int (nI (sCt G + k))), (6, .int (nI (L.getD k 0))), (5, .int (nI k)), (4, .int (nI root)), (2, .long x2), (1, .int x0), (0, .ref 102)] [] g7 := fun g7 i f7 e6 e10 => by
        with_reducible refine xm_go_blk b_X12_renewed_288 k_X12_renewed_288 ?_
        refine by_iinc (by rw [ml_285]; decide) rfl ci_1 ?_
        refine by_goto 100 rfl ?_
        try simp (disch := first | exact Nat.ne_of_beq_eq_false rfl | exact rfl | omega) only [nI_add, xa_sub, xa_mul, pk_div, nm_mod, xa_shr, xa_and7, xa_and1, xa_and255, xa_by_and, nI_m1, Nat.add_sub_cancel, Nat.reducePow, Nat.zero_add, Nat.add_zero, Nat.reduceAdd, Nat.reduceMul, Nat.reduceSub, xf_same, xq_ff, xq_fo, xf_1, xf_2, xs_1, xs_2, xs_same, xq_so, xj_1, xj_2, xj_same, xq_jo, xq_sa1, xq_same, xq_other, upd_s, oI_n, oI_s, xv_0, xv_1, xv_2, xv_3, xm_p1, xm_p2, xq_fp, xq_fn, List.filter_nil, Nat.reduceBEq, Bool.not_true, Bool.not_false, Bool.and_true, Bool.and_false, Bool.false_and, Bool.true_and, if_true, if_false, Bool.false_eq_true, reduceIte, xc_i, xc_j, xc_r, xc_n, List.nil_append, List.cons_append, Option.toList_some, Option.toList_none]
        refine xm_go_wk (by simp [Value.category]) (ih (k + 1) g7 (by omega) (Fr_tr f6 f7 (by simp) (by simp)) (by rw [f7.2.2 _ _ (by simp)]; exact q5) (mG0_cp gg hoN (by rw [f7.1 _ (by simp)]; exact q105) (by rw [f7.1 _ (by simp)]; exact q106) (by rw [f7.1 _ (by simp)]; exact q107) (by rw [f7.1 _ (by simp)]; exact q108) (by rw [f7.1 _ (by simp)]; exact q109) e6 (fun r m hr hm => by rw [f7.1 r (by simp only [List.mem_cons, List.not_mem_nil, or_false] at hr ⊢; omega)]; exact q6 r m hr hm) e10) (fun j hj => ?_))
        rw [f7.1 _ (by simp), q161]
        show (xm_si g1 161 (L.getD k 0) (nI (sCt G + k))).1 161 (L.getD j 0) = _
        rw [xs_same]
        unfold upd
        by_cases z : j = k
        · subst z
          rw [if_pos rfl]
        · have hne : L.getD j 0 ≠ L.getD k 0 := fun q => by
            have h1 := ixF_of l1 (i := j) (by omega)
            rw [q, ixF_of l1 (by omega)] at h1
            omega
          rw [if_neg hne, f1.1 _ (by simp)]
          exact gcp j (by omega)
      by_cases e11 : sCd G (L.getD k 0) = 11
      · rw [e11] at x105
        have lp : ∀ (z i : Nat) (g7 : xm_H), i + z = 8 → Fr [110] [] g6 g7 → (∀ j, j < i → g7.1 110 (8 * (sCt G + k) + j) = g.1 110 (8 * L.getD k 0 + j)) → (∀ j, j < 8 * (sCt G + k) → g7.1 110 j = g.1 110 j) → xm_go (XE sc) (xm_T (XE sc) (d + 3)) 285 post 237 [(8, .int (nI i)), (7, .int (nI (sCt G + k))), (6, .int (nI (L.getD k 0))), (5, .int (nI k)), (4, .int (nI root)), (2, .long x2), (1, .int x0), (0, .ref 102)] [] g7 := by
          intro z
          induction z with
          | zero =>
            intro i g7 hi f7 e6 e10
            have : i = 8 := by omega
            subst this
            with_reducible refine xm_go_blk b_X12_renewed_237 k_X12_renewed_237 ?_
            refine by_iload rfl ?_
            refine by_bipush cb_8 ?_
            refine by_ic_ge 288 rfl ?_
            simp (disch := first | exact Nat.ne_of_beq_eq_false rfl | exact rfl | omega) only [nI_add, xa_sub, xa_mul, pk_div, nm_mod, xa_shr, xa_and7, xa_and1, xa_and255, xa_by_and, nI_m1, Nat.add_sub_cancel, Nat.reducePow, Nat.zero_add, Nat.add_zero, Nat.reduceAdd, Nat.reduceMul, Nat.reduceSub, xf_same, xq_ff, xq_fo, xf_1, xf_2, xs_1, xs_2, xs_same, xq_so, xj_1, xj_2, xj_same, xq_jo, xq_sa1, xq_same, xq_other, upd_s, oI_n, oI_s, xv_0, xv_1, xv_2, xv_3, xm_p1, xm_p2, xq_fp, xq_fn, List.filter_nil, Nat.reduceBEq, Bool.not_true, Bool.not_false, Bool.and_true, Bool.and_false, Bool.false_and, Bool.true_and, if_true, if_false, Bool.false_eq_true, reduceIte, xc_i, xc_j, xc_r, xc_n, List.nil_append, List.cons_append, Option.toList_some, Option.toList_none, nI_ltJ, nI_leJ, nI_eqJ, nI_ltz, nI_gez, nI_gtz, nI_lez, nI_eqz, m1_ltz, m1_gez, true_imp_iff, false_imp_iff, true_and, and_true, ne_eq, not_false_eq_true, not_true_eq_false, Nat.reduceEqDiff, Nat.reduceLT, Nat.reduceLeDiff]
            exact nxt g7 (nI 8) f7 (fun _ => e6) e10
          | succ z ihz =>
            intro i g7 hi f7 e6 e10
            have F7 := Fr_XF F6 f7 (by decide +kernel)
            have y105 : g7.1 105 (L.getD k 0) = nI 11 := by rw [f7.1 _ (by simp)]; exact x105
            have y110 : g7.1 110 (8 * L.getD k 0 + i) = g.1 110 (8 * L.getD k 0 + i) := e10 _ (by omega)
            with_reducible refine xm_go_blk b_X12_renewed_237 k_X12_renewed_237 ?_
            refine by_iload rfl ?_
            refine by_bipush cb_8 ?_
            refine by_ic_ge 288 rfl ?_
            simp (disch := first | exact Nat.ne_of_beq_eq_false rfl | exact rfl | omega) only [nI_add, xa_sub, xa_mul, pk_div, nm_mod, xa_shr, xa_and7, xa_and1, xa_and255, xa_by_and, nI_m1, Nat.add_sub_cancel, Nat.reducePow, Nat.zero_add, Nat.add_zero, Nat.reduceAdd, Nat.reduceMul, Nat.reduceSub, xf_same, xq_ff, xq_fo, xf_1, xf_2, xs_1, xs_2, xs_same, xq_so, xj_1, xj_2, xj_same, xq_jo, xq_sa1, xq_same, xq_other, upd_s, oI_n, oI_s, xv_0, xv_1, xv_2, xv_3, xm_p1, xm_p2, xq_fp, xq_fn, List.filter_nil, Nat.reduceBEq, Bool.not_true, Bool.not_false, Bool.and_true, Bool.and_false, Bool.false_and, Bool.true_and, if_true, if_false, Bool.false_eq_true, reduceIte, xc_i, xc_j, xc_r, xc_n, List.nil_append, List.cons_append, Option.toList_some, Option.toList_none, nI_ltJ, nI_leJ, nI_eqJ, nI_ltz, nI_gez, nI_gtz, nI_lez, nI_eqz, m1_ltz, m1_gez, true_imp_iff, false_imp_iff, true_and, and_true, ne_eq, not_false_eq_true, not_true_eq_false, Nat.reduceEqDiff, Nat.reduceLT, Nat.reduceLeDiff, xf_102_6 F7, y105, xf_102_11 F7, y110]
            refine ⟨fun c => absurd c (by omega), fun c237 => ?_⟩
            with_reducible refine xm_go_blk b_X12_renewed_244 k_X12_renewed_244 ?_
            refine by_aload_n rfl ?_
            refine by_getf cn_285 fl_12_16 (by first | exact rfl | assumption) (by decide) ?_
            refine by_iload rfl ?_
            simp (disch := first | exact Nat.ne_of_beq_eq_false rfl | exact rfl | omega) only [nI_add, xa_sub, xa_mul, pk_div, nm_mod, xa_shr, xa_and7, xa_and1, xa_and255, xa_by_and, nI_m1, Nat.add_sub_cancel, Nat.reducePow, Nat.zero_add, Nat.add_zero, Nat.reduceAdd, Nat.reduceMul, Nat.reduceSub, xf_same, xq_ff, xq_fo, xf_1, xf_2, xs_1, xs_2, xs_same, xq_so, xj_1, xj_2, xj_same, xq_jo, xq_sa1, xq_same, xq_other, upd_s, oI_n, oI_s, xf_102_6 F7, y105, xf_102_11 F7, y110]
            first | refine by_iald (by first | exact rfl | assumption | exact ps_1 hpp | exact ps_2 hpp | exact ps_3 hpp | exact ps_4 hpp | exact ps_5 hpp | exact ps_6 hpp | exact ps_7 hpp | exact ps_8 hpp | exact ps_9 hpp | exact ps_10 hpp | exact ps_11 hpp | exact ps_15 hpp | exact ps_16 hpp | exact ps_17 hpp | exact ps_18 hpp | exact ps_19 hpp | exact ps_21 hpp | exact ps_22 hpp | exact ps_23 hpp | exact ps_24 hpp) ⟨by omega, by omega⟩ ?_ | refine by_tald rfl rfl ⟨by omega, by omega⟩ ?_
            refine by_bipush cb_11 ?_
            refine by_ic_ne 288 rfl ?_
            simp (disch := first | exact Nat.ne_of_beq_eq_false rfl | exact rfl | omega) only [nI_add, xa_sub, xa_mul, pk_div, nm_mod, xa_shr, xa_and7, xa_and1, xa_and255, xa_by_and, nI_m1, Nat.add_sub_cancel, Nat.reducePow, Nat.zero_add, Nat.add_zero, Nat.reduceAdd, Nat.reduceMul, Nat.reduceSub, xf_same, xq_ff, xq_fo, xf_1, xf_2, xs_1, xs_2, xs_same, xq_so, xj_1, xj_2, xj_same, xq_jo, xq_sa1, xq_same, xq_other, upd_s, oI_n, oI_s, xv_0, xv_1, xv_2, xv_3, xm_p1, xm_p2, xq_fp, xq_fn, List.filter_nil, Nat.reduceBEq, Bool.not_true, Bool.not_false, Bool.and_true, Bool.and_false, Bool.false_and, Bool.true_and, if_true, if_false, Bool.false_eq_true, reduceIte, xc_i, xc_j, xc_r, xc_n, List.nil_append, List.cons_append, Option.toList_some, Option.toList_none, nI_ltJ, nI_leJ, nI_eqJ, nI_ltz, nI_gez, nI_gtz, nI_lez, nI_eqz, m1_ltz, m1_gez, true_imp_iff, false_imp_iff, true_and, and_true, ne_eq, not_false_eq_true, not_true_eq_false, Nat.reduceEqDiff, Nat.reduceLT, Nat.reduceLeDiff, xf_102_6 F7, y105, xf_102_11 F7, y110]
            with_reducible refine xm_go_blk b_X12_renewed_256 k_X12_renewed_256 ?_
            refine by_aload_n rfl ?_
            refine by_getf cn_285 fl_12_31 (by first | exact rfl | assumption) (by decide) ?_
            refine by_bipush cb_8 ?_
            refine by_iload rfl ?_
            refine by_imul ?_
            refine by_iload rfl ?_
            refine by_iadd ?_
            refine by_aload_n rfl ?_
            refine by_getf cn_285 fl_12_31 (by first | exact rfl | assumption) (by decide) ?_
            refine by_bipush cb_8 ?_
            refine by_iload rfl ?_
            refine by_imul ?_
            refine by_iload rfl ?_
            refine by_iadd ?_
            simp (disch := first | exact Nat.ne_of_beq_eq_false rfl | exact rfl | omega) only [nI_add, xa_sub, xa_mul, pk_div, nm_mod, xa_shr, xa_and7, xa_and1, xa_and255, xa_by_and, nI_m1, Nat.add_sub_cancel, Nat.reducePow, Nat.zero_add, Nat.add_zero, Nat.reduceAdd, Nat.reduceMul, Nat.reduceSub, xf_same, xq_ff, xq_fo, xf_1, xf_2, xs_1, xs_2, xs_same, xq_so, xj_1, xj_2, xj_same, xq_jo, xq_sa1, xq_same, xq_other, upd_s, oI_n, oI_s, xf_102_6 F7, y105, xf_102_11 F7, y110]
            first | refine by_iald (by first | exact rfl | assumption | exact ps_1 hpp | exact ps_2 hpp | exact ps_3 hpp | exact ps_4 hpp | exact ps_5 hpp | exact ps_6 hpp | exact ps_7 hpp | exact ps_8 hpp | exact ps_9 hpp | exact ps_10 hpp | exact ps_11 hpp | exact ps_15 hpp | exact ps_16 hpp | exact ps_17 hpp | exact ps_18 hpp | exact ps_19 hpp | exact ps_21 hpp | exact ps_22 hpp | exact ps_23 hpp | exact ps_24 hpp) ⟨by omega, by omega⟩ ?_ | refine by_tald rfl rfl ⟨by omega, by omega⟩ ?_
            refine by_iast (by first | exact rfl | assumption | exact ps_1 hpp | exact ps_2 hpp | exact ps_3 hpp | exact ps_4 hpp | exact ps_5 hpp | exact ps_6 hpp | exact ps_7 hpp | exact ps_8 hpp | exact ps_9 hpp | exact ps_10 hpp | exact ps_11 hpp | exact ps_15 hpp | exact ps_16 hpp | exact ps_17 hpp | exact ps_18 hpp | exact ps_19 hpp | exact ps_21 hpp | exact ps_22 hpp | exact ps_23 hpp | exact ps_24 hpp) ⟨by omega, by omega⟩ ?_
            refine by_iinc (by rw [ml_285]; decide) rfl ci_1 ?_
            refine by_goto 237 rfl ?_
            try simp (disch := first | exact Nat.ne_of_beq_eq_false rfl | exact rfl | omega) only [nI_add, xa_sub, xa_mul, pk_div, nm_mod, xa_shr, xa_and7, xa_and1, xa_and255, xa_by_and, nI_m1, Nat.add_sub_cancel, Nat.reducePow, Nat.zero_add, Nat.add_zero, Nat.reduceAdd, Nat.reduceMul, Nat.reduceSub, xf_same, xq_ff, xq_fo, xf_1, xf_2, xs_1, xs_2, xs_same, xq_so, xj_1, xj_2, xj_same, xq_jo, xq_sa1, xq_same, xq_other, upd_s, oI_n, oI_s, xv_0, xv_1, xv_2, xv_3, xm_p1, xm_p2, xq_fp, xq_fn, List.filter_nil, Nat.reduceBEq, Bool.not_true, Bool.not_false, Bool.and_true, Bool.and_false, Bool.false_and, Bool.true_and, if_true, if_false, Bool.false_eq_true, reduceIte, xc_i, xc_j, xc_r, xc_n, List.nil_append, List.cons_append, Option.toList_some, Option.toList_none, xf_102_6 F7, y105, xf_102_11 F7, y110]
            refine xm_go_wk (by simp [Value.category]) (ihz (i + 1) _ (by omega) (Fr_si f7 (by simp)) (fun j hj => ?_) (fun j hj => ?_))
            · rw [xs_same]
              unfold upd
              by_cases q : j = i
              · subst q
                rw [if_pos rfl]
              · rw [if_neg (by omega)]
                exact e6 j (by omega)
            · rw [xs_same]
              unfold upd
              rw [if_neg (by omega)]
              exact e10 j hj
        exact lp 8 0 g6 rfl Fr_rf (fun j hj => absurd hj (Nat.not_lt_zero _)) (fun j _ => by rw [q110])
      · have e11' : (sCd G (L.getD k 0) = 11) = False := eq_false e11
        with_reducible refine xm_go_blk b_X12_renewed_237 k_X12_renewed_237 ?_
        refine by_iload rfl ?_
        refine by_bipush cb_8 ?_
        refine by_ic_ge 288 rfl ?_
        simp (disch := first | exact Nat.ne_of_beq_eq_false rfl | exact rfl | omega) only [nI_add, xa_sub, xa_mul, pk_div, nm_mod, xa_shr, xa_and7, xa_and1, xa_and255, xa_by_and, nI_m1, Nat.add_sub_cancel, Nat.reducePow, Nat.zero_add, Nat.add_zero, Nat.reduceAdd, Nat.reduceMul, Nat.reduceSub, xf_same, xq_ff, xq_fo, xf_1, xf_2, xs_1, xs_2, xs_same, xq_so, xj_1, xj_2, xj_same, xq_jo, xq_sa1, xq_same, xq_other, upd_s, oI_n, oI_s, xv_0, xv_1, xv_2, xv_3, xm_p1, xm_p2, xq_fp, xq_fn, List.filter_nil, Nat.reduceBEq, Bool.not_true, Bool.not_false, Bool.and_true, Bool.and_false, Bool.false_and, Bool.true_and, if_true, if_false, Bool.false_eq_true, reduceIte, xc_i, xc_j, xc_r, xc_n, List.nil_append, List.cons_append, Option.toList_some, Option.toList_none, nI_ltJ, nI_leJ, nI_eqJ, nI_ltz, nI_gez, nI_gtz, nI_lez, nI_eqz, m1_ltz, m1_gez, true_imp_iff, false_imp_iff, true_and, and_true, ne_eq, not_false_eq_true, not_true_eq_false, Nat.reduceEqDiff, Nat.reduceLT, Nat.reduceLeDiff, xf_102_6 F6, x105, e11']
        with_reducible refine xm_go_blk b_X12_renewed_244 k_X12_renewed_244 ?_
        refine by_aload_n rfl ?_
        refine by_getf cn_285 fl_12_16 (by first | exact rfl | assumption) (by decide) ?_
        refine by_iload rfl ?_
        simp (disch := first | exact Nat.ne_of_beq_eq_false rfl | exact rfl | omega) only [nI_add, xa_sub, xa_mul, pk_div, nm_mod, xa_shr, xa_and7, xa_and1, xa_and255, xa_by_and, nI_m1, Nat.add_sub_cancel, Nat.reducePow, Nat.zero_add, Nat.add_zero, Nat.reduceAdd, Nat.reduceMul, Nat.reduceSub, xf_same, xq_ff, xq_fo, xf_1, xf_2, xs_1, xs_2, xs_same, xq_so, xj_1, xj_2, xj_same, xq_jo, xq_sa1, xq_same, xq_other, upd_s, oI_n, oI_s, xf_102_6 F6, x105, e11']
        first | refine by_iald (by first | exact rfl | assumption | exact ps_1 hpp | exact ps_2 hpp | exact ps_3 hpp | exact ps_4 hpp | exact ps_5 hpp | exact ps_6 hpp | exact ps_7 hpp | exact ps_8 hpp | exact ps_9 hpp | exact ps_10 hpp | exact ps_11 hpp | exact ps_15 hpp | exact ps_16 hpp | exact ps_17 hpp | exact ps_18 hpp | exact ps_19 hpp | exact ps_21 hpp | exact ps_22 hpp | exact ps_23 hpp | exact ps_24 hpp) ⟨by omega, by omega⟩ ?_ | refine by_tald rfl rfl ⟨by omega, by omega⟩ ?_
        refine by_bipush cb_11 ?_
        refine by_ic_ne 288 rfl ?_
        simp (disch := first | exact Nat.ne_of_beq_eq_false rfl | exact rfl | omega) only [nI_add, xa_sub, xa_mul, pk_div, nm_mod, xa_shr, xa_and7, xa_and1, xa_and255, xa_by_and, nI_m1, Nat.add_sub_cancel, Nat.reducePow, Nat.zero_add, Nat.add_zero, Nat.reduceAdd, Nat.reduceMul, Nat.reduceSub, xf_same, xq_ff, xq_fo, xf_1, xf_2, xs_1, xs_2, xs_same, xq_so, xj_1, xj_2, xj_same, xq_jo, xq_sa1, xq_same, xq_other, upd_s, oI_n, oI_s, xv_0, xv_1, xv_2, xv_3, xm_p1, xm_p2, xq_fp, xq_fn, List.filter_nil, Nat.reduceBEq, Bool.not_true, Bool.not_false, Bool.and_true, Bool.and_false, Bool.false_and, Bool.true_and, if_true, if_false, Bool.false_eq_true, reduceIte, xc_i, xc_j, xc_r, xc_n, List.nil_append, List.cons_append, Option.toList_some, Option.toList_none, nI_ltJ, nI_leJ, nI_eqJ, nI_ltz, nI_gez, nI_gtz, nI_lez, nI_eqz, m1_ltz, m1_gez, true_imp_iff, false_imp_iff, true_and, and_true, ne_eq, not_false_eq_true, not_true_eq_false, Nat.reduceEqDiff, Nat.reduceLT, Nat.reduceLeDiff, xf_102_6 F6, x105, e11']
        exact nxt g6 (nI 0) Fr_rf (fun z => absurd z e11) (fun j _ => by rw [q110])
    -- second child, number, length
    have sec : ∀ (g3 : xm_H), Fr srwR [(102, 5)] h g3 → g3.2.2 102 5 = .int (nI (sCt G + k + 1)) → g3.1 105 (sCt G + k) = g.1 105 (L.getD k 0) → g3.1 106 (sCt G + k) = oI ((sC1 G (L.getD k 0)).map (fun y => sCt G + ixF L y)) → (∀ r m, r ∈ mnR → m < sCt G + k → g3.1 r m = g.1 r m) → g3.1 110 = g.1 110 → g3.1 161 = g2.1 161 → ∀ v, v = oI ((sC2 G (L.getD k 0)).map (fun y => sCt G + ixF L y)) → xm_go (XE sc) (xm_T (XE sc) (d + 3)) 285 post 205 [(7, .int (nI (sCt G + k))), (6, .int (nI (L.getD k 0))), (5, .int (nI k)), (4, .int (nI root)), (2, .long x2), (1, .int x0), (0, .ref 102)] [.int v, .int (nI (sCt G + k)), .ref 107] g3 := by
      intro g3 f3 q5 q105 q106 q6 q110 q161 v hv
      subst hv
      have F3 := Fr_XF hF f3 (by decide +kernel)
      have y108 : g3.1 108 (L.getD k 0) = g.1 108 (L.getD k 0) := q6 _ _ (by simp) (by omega)
      have y109 : g3.1 109 (L.getD k 0) = g.1 109 (L.getD k 0) := q6 _ _ (by simp) (by omega)
      with_reducible refine xm_go_blk b_X12_renewed_205 k_X12_renewed_205 ?_
      refine by_iast (by first | exact rfl | assumption | exact ps_1 hpp | exact ps_2 hpp | exact ps_3 hpp | exact ps_4 hpp | exact ps_5 hpp | exact ps_6 hpp | exact ps_7 hpp | exact ps_8 hpp | exact ps_9 hpp | exact ps_10 hpp | exact ps_11 hpp | exact ps_15 hpp | exact ps_16 hpp | exact ps_17 hpp | exact ps_18 hpp | exact ps_19 hpp | exact ps_21 hpp | exact ps_22 hpp | exact ps_23 hpp | exact ps_24 hpp) ⟨by omega, by omega⟩ ?_
      refine by_aload_n rfl ?_
      refine by_getf cn_285 fl_12_25 (by first | exact rfl | assumption) (by decide) ?_
      refine by_iload rfl ?_
      refine by_aload_n rfl ?_
      refine by_getf cn_285 fl_12_25 (by first | exact rfl | assumption) (by decide) ?_
      refine by_iload rfl ?_
      simp (disch := first | exact Nat.ne_of_beq_eq_false rfl | exact rfl | omega) only [nI_add, xa_sub, xa_mul, pk_div, nm_mod, xa_shr, xa_and7, xa_and1, xa_and255, xa_by_and, nI_m1, Nat.add_sub_cancel, Nat.reducePow, Nat.zero_add, Nat.add_zero, Nat.reduceAdd, Nat.reduceMul, Nat.reduceSub, xf_same, xq_ff, xq_fo, xf_1, xf_2, xs_1, xs_2, xs_same, xq_so, xj_1, xj_2, xj_same, xq_jo, xq_sa1, xq_same, xq_other, upd_s, oI_n, oI_s, xf_102_9 F3, xf_102_10 F3, y108, y109]
      first | refine by_iald (by first | exact rfl | assumption | exact ps_1 hpp | exact ps_2 hpp | exact ps_3 hpp | exact ps_4 hpp | exact ps_5 hpp | exact ps_6 hpp | exact ps_7 hpp | exact ps_8 hpp | exact ps_9 hpp | exact ps_10 hpp | exact ps_11 hpp | exact ps_15 hpp | exact ps_16 hpp | exact ps_17 hpp | exact ps_18 hpp | exact ps_19 hpp | exact ps_21 hpp | exact ps_22 hpp | exact ps_23 hpp | exact ps_24 hpp) ⟨by omega, by omega⟩ ?_ | refine by_tald rfl rfl ⟨by omega, by omega⟩ ?_
      refine by_iast (by first | exact rfl | assumption | exact ps_1 hpp | exact ps_2 hpp | exact ps_3 hpp | exact ps_4 hpp | exact ps_5 hpp | exact ps_6 hpp | exact ps_7 hpp | exact ps_8 hpp | exact ps_9 hpp | exact ps_10 hpp | exact ps_11 hpp | exact ps_15 hpp | exact ps_16 hpp | exact ps_17 hpp | exact ps_18 hpp | exact ps_19 hpp | exact ps_21 hpp | exact ps_22 hpp | exact ps_23 hpp | exact ps_24 hpp) ⟨by omega, by omega⟩ ?_
      refine by_aload_n rfl ?_
      refine by_getf cn_285 fl_12_28 (by first | exact rfl | assumption) (by decide) ?_
      refine by_iload rfl ?_
      refine by_aload_n rfl ?_
      refine by_getf cn_285 fl_12_28 (by first | exact rfl | assumption) (by decide) ?_
      refine by_iload rfl ?_
      simp (disch := first | exact Nat.ne_of_beq_eq_false rfl | exact rfl | omega) only [nI_add, xa_sub, xa_mul, pk_div, nm_mod, xa_shr, xa_and7, xa_and1, xa_and255, xa_by_and, nI_m1, Nat.add_sub_cancel, Nat.reducePow, Nat.zero_add, Nat.add_zero, Nat.reduceAdd, Nat.reduceMul, Nat.reduceSub, xf_same, xq_ff, xq_fo, xf_1, xf_2, xs_1, xs_2, xs_same, xq_so, xj_1, xj_2, xj_same, xq_jo, xq_sa1, xq_same, xq_other, upd_s, oI_n, oI_s, xf_102_9 F3, xf_102_10 F3, y108, y109]
      first | refine by_iald (by first | exact rfl | assumption | exact ps_1 hpp | exact ps_2 hpp | exact ps_3 hpp | exact ps_4 hpp | exact ps_5 hpp | exact ps_6 hpp | exact ps_7 hpp | exact ps_8 hpp | exact ps_9 hpp | exact ps_10 hpp | exact ps_11 hpp | exact ps_15 hpp | exact ps_16 hpp | exact ps_17 hpp | exact ps_18 hpp | exact ps_19 hpp | exact ps_21 hpp | exact ps_22 hpp | exact ps_23 hpp | exact ps_24 hpp) ⟨by omega, by omega⟩ ?_ | refine by_tald rfl rfl ⟨by omega, by omega⟩ ?_
      refine by_iast (by first | exact rfl | assumption | exact ps_1 hpp | exact ps_2 hpp | exact ps_3 hpp | exact ps_4 hpp | exact ps_5 hpp | exact ps_6 hpp | exact ps_7 hpp | exact ps_8 hpp | exact ps_9 hpp | exact ps_10 hpp | exact ps_11 hpp | exact ps_15 hpp | exact ps_16 hpp | exact ps_17 hpp | exact ps_18 hpp | exact ps_19 hpp | exact ps_21 hpp | exact ps_22 hpp | exact ps_23 hpp | exact ps_24 hpp) ⟨by omega, by omega⟩ ?_
      refine by_iconst ci_0 ?_
      refine by_istore (by rw [ml_285]; decide) ?_
      refine by_nil ?_
      try simp (disch := first | exact Nat.ne_of_beq_eq_false rfl | exact rfl | omega) only [nI_add, xa_sub, xa_mul, pk_div, nm_mod, xa_shr, xa_and7, xa_and1, xa_and255, xa_by_and, nI_m1, Nat.add_sub_cancel, Nat.reducePow, Nat.zero_add, Nat.add_zero, Nat.reduceAdd, Nat.reduceMul, Nat.reduceSub, xf_same, xq_ff, xq_fo, xf_1, xf_2, xs_1, xs_2, xs_same, xq_so, xj_1, xj_2, xj_same, xq_jo, xq_sa1, xq_same, xq_other, upd_s, oI_n, oI_s, xv_0, xv_1, xv_2, xv_3, xm_p1, xm_p2, xq_fp, xq_fn, List.filter_nil, Nat.reduceBEq, Bool.not_true, Bool.not_false, Bool.and_true, Bool.and_false, Bool.false_and, Bool.true_and, if_true, if_false, Bool.false_eq_true, reduceIte, xc_i, xc_j, xc_r, xc_n, List.nil_append, List.cons_append, Option.toList_some, Option.toList_none, xf_102_9 F3, xf_102_10 F3, y108, y109]
      refine xm_go_wk (by simp [Value.category]) (fin _ (Fr_si (Fr_si (Fr_si f3 (by simp)) (by simp)) (by simp)) (by simpa [xm_si] using q5) ?_ ?_ ?_ ?_ ?_ (fun r m hr hm => ?_) ?_ ?_)
      · simpa [xm_si, upd] using q105
      · simpa [xm_si, upd] using q106
      · simp [xm_si, upd]
      · simp [xm_si, upd]
      · simp [xm_si, upd]
      · rw [← q6 r m hr hm]
        have hm2 : m ≠ sCt G + k := by omega
        simp only [List.mem_cons, List.not_mem_nil, or_false] at hr
        rcases hr with rfl | rfl | rfl | rfl | rfl <;> simp [xm_si, upd, hm2]
      · simpa [xm_si] using q110
      · simpa [xm_si] using q161
    have fst : ∀ v, v = oI ((sC1 G (L.getD k 0)).map (fun y => sCt G + ixF L y)) → xm_go (XE sc) (xm_T (XE sc) (d + 3)) 285 post 172 [(7, .int (nI (sCt G + k))), (6, .int (nI (L.getD k 0))), (5, .int (nI k)), (4, .int (nI root)), (2, .long x2), (1, .int x0), (0, .ref 102)] [.int v, .int (nI (sCt G + k)), .ref 106] g2 := by
      intro v hv
      subst hv
      have f3 : Fr srwR [(102, 5)] h (xm_si g2 106 (sCt G + k) (oI ((sC1 G (L.getD k 0)).map (fun y => sCt G + ixF L y)))) := Fr_si f2 (by simp)
      have F3 := Fr_XF hF f3 (by decide +kernel)
      have o3 : ∀ r m, r ∈ mnR → m < sCt G + k → (xm_si g2 106 (sCt G + k) (oI ((sC1 G (L.getD k 0)).map (fun y => sCt G + ixF L y)))).1 r m = g.1 r m := fun r m hr hm => by
        rw [← o2 r m hr hm]
        by_cases z : r = 106
        · subst z
          rw [xs_same]
          unfold upd
          rw [if_neg (by omega)]
        · rw [xq_so z]
      have s3 := sec _ f3 (show g1.2.2 102 5 = _ from k5) (by rw [xq_so (by decide)]; show (xm_si g1 161 _ _).1 105 _ = _; rw [xq_so (by decide), r1, a1]) (by rw [xs_same]; unfold upd; rw [if_pos rfl]) o3 (by rw [xq_so (by decide)]; show (xm_si g1 161 _ _).1 110 = _; rw [xq_so (by decide), f1.1 _ (by simp)]) (by rw [xq_so (by decide)])
      with_reducible refine xm_go_blk b_X12_renewed_172 k_X12_renewed_172 ?_
      refine by_iast (by first | exact rfl | assumption | exact ps_1 hpp | exact ps_2 hpp | exact ps_3 hpp | exact ps_4 hpp | exact ps_5 hpp | exact ps_6 hpp | exact ps_7 hpp | exact ps_8 hpp | exact ps_9 hpp | exact ps_10 hpp | exact ps_11 hpp | exact ps_15 hpp | exact ps_16 hpp | exact ps_17 hpp | exact ps_18 hpp | exact ps_19 hpp | exact ps_21 hpp | exact ps_22 hpp | exact ps_23 hpp | exact ps_24 hpp) ⟨by omega, by omega⟩ ?_
      refine by_aload_n rfl ?_
      refine by_getf cn_285 fl_12_22 (by first | exact rfl | assumption) (by decide) ?_
      refine by_iload rfl ?_
      refine by_aload_n rfl ?_
      refine by_iload rfl ?_
      refine by_iconst ci_1 ?_
      simp (disch := first | exact Nat.ne_of_beq_eq_false rfl | exact rfl | omega) only [nI_add, xa_sub, xa_mul, pk_div, nm_mod, xa_shr, xa_and7, xa_and1, xa_and255, xa_by_and, nI_m1, Nat.add_sub_cancel, Nat.reducePow, Nat.zero_add, Nat.add_zero, Nat.reduceAdd, Nat.reduceMul, Nat.reduceSub, xf_same, xq_ff, xq_fo, xf_1, xf_2, xs_1, xs_2, xs_same, xq_so, xj_1, xj_2, xj_same, xq_jo, xq_sa1, xq_same, xq_other, upd_s, oI_n, oI_s, xv_0, xv_1, xv_2, xv_3, xm_p1, xm_p2, xq_fp, xq_fn, List.filter_nil, Nat.reduceBEq, Bool.not_true, Bool.not_false, Bool.and_true, Bool.and_false, Bool.false_and, Bool.true_and, if_true, if_false, Bool.false_eq_true, reduceIte, xc_i, xc_j, xc_r, xc_n, List.nil_append, List.cons_append, Option.toList_some, Option.toList_none, xf_102_8 F2]
      refine by_inv2 cn_285 lk_12_229 (by rw [xe_cnt]; decide) is_214 np_214 cn_214 (by first | exact rfl | assumption) (Nat.le_of_ble_eq_true rfl) ?_
      refine sp_childOf (d := d + 2) F3 (ch _ o3) hN0 hoN (by decide) ?_
      show xm_go (XE sc) (xm_T (XE sc) (d + 3)) 285 post 186 [(7, .int (nI (sCt G + k))), (6, .int (nI (L.getD k 0))), (5, .int (nI k)), (4, .int (nI root)), (2, .long x2), (1, .int x0), (0, .ref 102)] [.int (oI (sC2 G (L.getD k 0))), .int (nI (sCt G + k)), .ref 107] _
      cases ec : sC2 G (L.getD k 0) with
      | none =>
        with_reducible refine xm_go_blk b_X12_renewed_186 k_X12_renewed_186 ?_
        refine by_if_ge 193 rfl ?_
        simp (disch := first | exact Nat.ne_of_beq_eq_false rfl | exact rfl | omega) only [nI_add, xa_sub, xa_mul, pk_div, nm_mod, xa_shr, xa_and7, xa_and1, xa_and255, xa_by_and, nI_m1, Nat.add_sub_cancel, Nat.reducePow, Nat.zero_add, Nat.add_zero, Nat.reduceAdd, Nat.reduceMul, Nat.reduceSub, xf_same, xq_ff, xq_fo, xf_1, xf_2, xs_1, xs_2, xs_same, xq_so, xj_1, xj_2, xj_same, xq_jo, xq_sa1, xq_same, xq_other, upd_s, oI_n, oI_s, xv_0, xv_1, xv_2, xv_3, xm_p1, xm_p2, xq_fp, xq_fn, List.filter_nil, Nat.reduceBEq, Bool.not_true, Bool.not_false, Bool.and_true, Bool.and_false, Bool.false_and, Bool.true_and, if_true, if_false, Bool.false_eq_true, reduceIte, xc_i, xc_j, xc_r, xc_n, List.nil_append, List.cons_append, Option.toList_some, Option.toList_none, nI_ltJ, nI_leJ, nI_eqJ, nI_ltz, nI_gez, nI_gtz, nI_lez, nI_eqz, m1_ltz, m1_gez, true_imp_iff, false_imp_iff, true_and, and_true, ne_eq, not_false_eq_true, not_true_eq_false, Nat.reduceEqDiff, Nat.reduceLT, Nat.reduceLeDiff]
        with_reducible refine xm_go_blk b_X12_renewed_189 k_X12_renewed_189 ?_
        refine by_iconst ci_m1 ?_
        refine by_goto 205 rfl ?_
        exact s3 _ (by rw [ec]; rfl)
      | some v =>
        obtain ⟨e1, e2, e3⟩ := xcp v (Or.inr ec)
        have y107 : (xm_si g2 106 (sCt G + k) (oI ((sC1 G (L.getD k 0)).map (fun y => sCt G + ixF L y)))).1 107 (L.getD k 0) = nI v := by rw [o3 _ _ (by simp) (by omega), a3, ec]; rfl
        have y161 : (xm_si g2 106 (sCt G + k) (oI ((sC1 G (L.getD k 0)).map (fun y => sCt G + ixF L y)))).1 161 v = nI (sCt G + ixF L v) := by rw [xq_so (by decide)]; exact cp2 v (Or.inr ec)
        generalize xm_si g2 106 (sCt G + k) (oI ((sC1 G (L.getD k 0)).map (fun y => sCt G + ixF L y))) = g3 at *
        with_reducible refine xm_go_blk b_X12_renewed_186 k_X12_renewed_186 ?_
        refine by_if_ge 193 rfl ?_
        simp (disch := first | exact Nat.ne_of_beq_eq_false rfl | exact rfl | omega) only [nI_add, xa_sub, xa_mul, pk_div, nm_mod, xa_shr, xa_and7, xa_and1, xa_and255, xa_by_and, nI_m1, Nat.add_sub_cancel, Nat.reducePow, Nat.zero_add, Nat.add_zero, Nat.reduceAdd, Nat.reduceMul, Nat.reduceSub, xf_same, xq_ff, xq_fo, xf_1, xf_2, xs_1, xs_2, xs_same, xq_so, xj_1, xj_2, xj_same, xq_jo, xq_sa1, xq_same, xq_other, upd_s, oI_n, oI_s, xv_0, xv_1, xv_2, xv_3, xm_p1, xm_p2, xq_fp, xq_fn, List.filter_nil, Nat.reduceBEq, Bool.not_true, Bool.not_false, Bool.and_true, Bool.and_false, Bool.false_and, Bool.true_and, if_true, if_false, Bool.false_eq_true, reduceIte, xc_i, xc_j, xc_r, xc_n, List.nil_append, List.cons_append, Option.toList_some, Option.toList_none, nI_ltJ, nI_leJ, nI_eqJ, nI_ltz, nI_gez, nI_gtz, nI_lez, nI_eqz, m1_ltz, m1_gez, true_imp_iff, false_imp_iff, true_and, and_true, ne_eq, not_false_eq_true, not_true_eq_false, Nat.reduceEqDiff, Nat.reduceLT, Nat.reduceLeDiff, xf_102_91 F3, xf_102_8 F3, y107, y161]
        with_reducible refine xm_go_blk b_X12_renewed_193 k_X12_renewed_193 ?_
        refine by_aload_n rfl ?_
        refine by_getf cn_285 fl_12_190 (by first | exact rfl | assumption) (by decide) ?_
        refine by_aload_n rfl ?_
        refine by_getf cn_285 fl_12_22 (by first | exact rfl | assumption) (by decide) ?_
        refine by_iload rfl ?_
        simp (disch := first | exact Nat.ne_of_beq_eq_false rfl | exact rfl | omega) only [nI_add, xa_sub, xa_mul, pk_div, nm_mod, xa_shr, xa_and7, xa_and1, xa_and255, xa_by_and, nI_m1, Nat.add_sub_cancel, Nat.reducePow, Nat.zero_add, Nat.add_zero, Nat.reduceAdd, Nat.reduceMul, Nat.reduceSub, xf_same, xq_ff, xq_fo, xf_1, xf_2, xs_1, xs_2, xs_same, xq_so, xj_1, xj_2, xj_same, xq_jo, xq_sa1, xq_same, xq_other, upd_s, oI_n, oI_s, xf_102_91 F3, xf_102_8 F3, y107, y161]
        first | refine by_iald (by first | exact rfl | assumption | exact ps_1 hpp | exact ps_2 hpp | exact ps_3 hpp | exact ps_4 hpp | exact ps_5 hpp | exact ps_6 hpp | exact ps_7 hpp | exact ps_8 hpp | exact ps_9 hpp | exact ps_10 hpp | exact ps_11 hpp | exact ps_15 hpp | exact ps_16 hpp | exact ps_17 hpp | exact ps_18 hpp | exact ps_19 hpp | exact ps_21 hpp | exact ps_22 hpp | exact ps_23 hpp | exact ps_24 hpp) ⟨by omega, by omega⟩ ?_ | refine by_tald rfl rfl ⟨by omega, by omega⟩ ?_
        simp (disch := first | exact Nat.ne_of_beq_eq_false rfl | exact rfl | omega) only [nI_add, xa_sub, xa_mul, pk_div, nm_mod, xa_shr, xa_and7, xa_and1, xa_and255, xa_by_and, nI_m1, Nat.add_sub_cancel, Nat.reducePow, Nat.zero_add, Nat.add_zero, Nat.reduceAdd, Nat.reduceMul, Nat.reduceSub, xf_same, xq_ff, xq_fo, xf_1, xf_2, xs_1, xs_2, xs_same, xq_so, xj_1, xj_2, xj_same, xq_jo, xq_sa1, xq_same, xq_other, upd_s, oI_n, oI_s, xf_102_91 F3, xf_102_8 F3, y107, y161]
        first | refine by_iald (by first | exact rfl | assumption | exact ps_1 hpp | exact ps_2 hpp | exact ps_3 hpp | exact ps_4 hpp | exact ps_5 hpp | exact ps_6 hpp | exact ps_7 hpp | exact ps_8 hpp | exact ps_9 hpp | exact ps_10 hpp | exact ps_11 hpp | exact ps_15 hpp | exact ps_16 hpp | exact ps_17 hpp | exact ps_18 hpp | exact ps_19 hpp | exact ps_21 hpp | exact ps_22 hpp | exact ps_23 hpp | exact ps_24 hpp) ⟨by omega, by omega⟩ ?_ | refine by_tald rfl rfl ⟨by omega, by omega⟩ ?_
        refine by_nil ?_
        try simp (disch := first | exact Nat.ne_of_beq_eq_false rfl | exact rfl | omega) only [nI_add, xa_sub, xa_mul, pk_div, nm_mod, xa_shr, xa_and7, xa_and1, xa_and255, xa_by_and, nI_m1, Nat.add_sub_cancel, Nat.reducePow, Nat.zero_add, Nat.add_zero, Nat.reduceAdd, Nat.reduceMul, Nat.reduceSub, xf_same, xq_ff, xq_fo, xf_1, xf_2, xs_1, xs_2, xs_same, xq_so, xj_1, xj_2, xj_same, xq_jo, xq_sa1, xq_same, xq_other, upd_s, oI_n, oI_s, xv_0, xv_1, xv_2, xv_3, xm_p1, xm_p2, xq_fp, xq_fn, List.filter_nil, Nat.reduceBEq, Bool.not_true, Bool.not_false, Bool.and_true, Bool.and_false, Bool.false_and, Bool.true_and, if_true, if_false, Bool.false_eq_true, reduceIte, xc_i, xc_j, xc_r, xc_n, List.nil_append, List.cons_append, Option.toList_some, Option.toList_none, xf_102_91 F3, xf_102_8 F3, y107, y161]
        exact s3 _ (by rw [ec]; rfl)
    with_reducible refine xm_go_blk b_X12_renewed_129 k_X12_renewed_129 ?_
    refine by_istore (by rw [ml_285]; decide) ?_
    refine by_aload_n rfl ?_
    refine by_getf cn_285 fl_12_190 (by first | exact rfl | assumption) (by decide) ?_
    refine by_iload rfl ?_
    refine by_iload rfl ?_
    simp (disch := first | exact Nat.ne_of_beq_eq_false rfl | exact rfl | omega) only [nI_add, xa_sub, xa_mul, pk_div, nm_mod, xa_shr, xa_and7, xa_and1, xa_and255, xa_by_and, nI_m1, Nat.add_sub_cancel, Nat.reducePow, Nat.zero_add, Nat.add_zero, Nat.reduceAdd, Nat.reduceMul, Nat.reduceSub, xf_same, xq_ff, xq_fo, xf_1, xf_2, xs_1, xs_2, xs_same, xq_so, xj_1, xj_2, xj_same, xq_jo, xq_sa1, xq_same, xq_other, upd_s, oI_n, oI_s, xf_102_91 F1, xf_102_7 F1]
    refine by_iast (by first | exact rfl | assumption | exact ps_1 hpp | exact ps_2 hpp | exact ps_3 hpp | exact ps_4 hpp | exact ps_5 hpp | exact ps_6 hpp | exact ps_7 hpp | exact ps_8 hpp | exact ps_9 hpp | exact ps_10 hpp | exact ps_11 hpp | exact ps_15 hpp | exact ps_16 hpp | exact ps_17 hpp | exact ps_18 hpp | exact ps_19 hpp | exact ps_21 hpp | exact ps_22 hpp | exact ps_23 hpp | exact ps_24 hpp) ⟨by omega, by omega⟩ ?_
    refine by_aload_n rfl ?_
    refine by_getf cn_285 fl_12_19 (by first | exact rfl | assumption) (by decide) ?_
    refine by_iload rfl ?_
    refine by_aload_n rfl ?_
    refine by_iload rfl ?_
    refine by_iconst ci_0 ?_
    simp (disch := first | exact Nat.ne_of_beq_eq_false rfl | exact rfl | omega) only [nI_add, xa_sub, xa_mul, pk_div, nm_mod, xa_shr, xa_and7, xa_and1, xa_and255, xa_by_and, nI_m1, Nat.add_sub_cancel, Nat.reducePow, Nat.zero_add, Nat.add_zero, Nat.reduceAdd, Nat.reduceMul, Nat.reduceSub, xf_same, xq_ff, xq_fo, xf_1, xf_2, xs_1, xs_2, xs_same, xq_so, xj_1, xj_2, xj_same, xq_jo, xq_sa1, xq_same, xq_other, upd_s, oI_n, oI_s, xv_0, xv_1, xv_2, xv_3, xm_p1, xm_p2, xq_fp, xq_fn, List.filter_nil, Nat.reduceBEq, Bool.not_true, Bool.not_false, Bool.and_true, Bool.and_false, Bool.false_and, Bool.true_and, if_true, if_false, Bool.false_eq_true, reduceIte, xc_i, xc_j, xc_r, xc_n, List.nil_append, List.cons_append, Option.toList_some, Option.toList_none, xf_102_91 F1, xf_102_7 F1]
    refine by_inv2 cn_285 lk_12_229 (by rw [xe_cnt]; decide) is_214 np_214 cn_214 (by first | exact rfl | assumption) (Nat.le_of_ble_eq_true rfl) ?_
    refine sp_childOf (d := d + 2) F2 (ch _ o2) hN0 hoN (by decide) ?_
    show xm_go (XE sc) (xm_T (XE sc) (d + 3)) 285 post 153 [(7, .int (nI (sCt G + k))), (6, .int (nI (L.getD k 0))), (5, .int (nI k)), (4, .int (nI root)), (2, .long x2), (1, .int x0), (0, .ref 102)] [.int (oI (sC1 G (L.getD k 0))), .int (nI (sCt G + k)), .ref 106] g2
    cases ec : sC1 G (L.getD k 0) with
    | none =>
      with_reducible refine xm_go_blk b_X12_renewed_153 k_X12_renewed_153 ?_
      refine by_if_ge 160 rfl ?_
      simp (disch := first | exact Nat.ne_of_beq_eq_false rfl | exact rfl | omega) only [nI_add, xa_sub, xa_mul, pk_div, nm_mod, xa_shr, xa_and7, xa_and1, xa_and255, xa_by_and, nI_m1, Nat.add_sub_cancel, Nat.reducePow, Nat.zero_add, Nat.add_zero, Nat.reduceAdd, Nat.reduceMul, Nat.reduceSub, xf_same, xq_ff, xq_fo, xf_1, xf_2, xs_1, xs_2, xs_same, xq_so, xj_1, xj_2, xj_same, xq_jo, xq_sa1, xq_same, xq_other, upd_s, oI_n, oI_s, xv_0, xv_1, xv_2, xv_3, xm_p1, xm_p2, xq_fp, xq_fn, List.filter_nil, Nat.reduceBEq, Bool.not_true, Bool.not_false, Bool.and_true, Bool.and_false, Bool.false_and, Bool.true_and, if_true, if_false, Bool.false_eq_true, reduceIte, xc_i, xc_j, xc_r, xc_n, List.nil_append, List.cons_append, Option.toList_some, Option.toList_none, nI_ltJ, nI_leJ, nI_eqJ, nI_ltz, nI_gez, nI_gtz, nI_lez, nI_eqz, m1_ltz, m1_gez, true_imp_iff, false_imp_iff, true_and, and_true, ne_eq, not_false_eq_true, not_true_eq_false, Nat.reduceEqDiff, Nat.reduceLT, Nat.reduceLeDiff]
      with_reducible refine xm_go_blk b_X12_renewed_156 k_X12_renewed_156 ?_
      refine by_iconst ci_m1 ?_
      refine by_goto 172 rfl ?_
      exact fst _ (by rw [ec]; rfl)
    | some v =>
      obtain ⟨e1, e2, e3⟩ := xcp v (Or.inl ec)
      have y106 : g2.1 106 (L.getD k 0) = nI v := by rw [o2 _ _ (by simp) (by omega), a2, ec]; rfl
      have y161 : g2.1 161 v = nI (sCt G + ixF L v) := cp2 v (Or.inl ec)
      generalize g2 = gz at *
      with_reducible refine xm_go_blk b_X12_renewed_153 k_X12_renewed_153 ?_
      refine by_if_ge 160 rfl ?_
      simp (disch := first | exact Nat.ne_of_beq_eq_false rfl | exact rfl | omega) only [nI_add, xa_sub, xa_mul, pk_div, nm_mod, xa_shr, xa_and7, xa_and1, xa_and255, xa_by_and, nI_m1, Nat.add_sub_cancel, Nat.reducePow, Nat.zero_add, Nat.add_zero, Nat.reduceAdd, Nat.reduceMul, Nat.reduceSub, xf_same, xq_ff, xq_fo, xf_1, xf_2, xs_1, xs_2, xs_same, xq_so, xj_1, xj_2, xj_same, xq_jo, xq_sa1, xq_same, xq_other, upd_s, oI_n, oI_s, xv_0, xv_1, xv_2, xv_3, xm_p1, xm_p2, xq_fp, xq_fn, List.filter_nil, Nat.reduceBEq, Bool.not_true, Bool.not_false, Bool.and_true, Bool.and_false, Bool.false_and, Bool.true_and, if_true, if_false, Bool.false_eq_true, reduceIte, xc_i, xc_j, xc_r, xc_n, List.nil_append, List.cons_append, Option.toList_some, Option.toList_none, nI_ltJ, nI_leJ, nI_eqJ, nI_ltz, nI_gez, nI_gtz, nI_lez, nI_eqz, m1_ltz, m1_gez, true_imp_iff, false_imp_iff, true_and, and_true, ne_eq, not_false_eq_true, not_true_eq_false, Nat.reduceEqDiff, Nat.reduceLT, Nat.reduceLeDiff, xf_102_91 F2, xf_102_7 F2, y106, y161]
      with_reducible refine xm_go_blk b_X12_renewed_160 k_X12_renewed_160 ?_
      refine by_aload_n rfl ?_
      refine by_getf cn_285 fl_12_190 (by first | exact rfl | assumption) (by decide) ?_
      refine by_aload_n rfl ?_
      refine by_getf cn_285 fl_12_19 (by first | exact rfl | assumption) (by decide) ?_
      refine by_iload rfl ?_
      simp (disch := first | exact Nat.ne_of_beq_eq_false rfl | exact rfl | omega) only [nI_add, xa_sub, xa_mul, pk_div, nm_mod, xa_shr, xa_and7, xa_and1, xa_and255, xa_by_and, nI_m1, Nat.add_sub_cancel, Nat.reducePow, Nat.zero_add, Nat.add_zero, Nat.reduceAdd, Nat.reduceMul, Nat.reduceSub, xf_same, xq_ff, xq_fo, xf_1, xf_2, xs_1, xs_2, xs_same, xq_so, xj_1, xj_2, xj_same, xq_jo, xq_sa1, xq_same, xq_other, upd_s, oI_n, oI_s, xf_102_91 F2, xf_102_7 F2, y106, y161]
      first | refine by_iald (by first | exact rfl | assumption | exact ps_1 hpp | exact ps_2 hpp | exact ps_3 hpp | exact ps_4 hpp | exact ps_5 hpp | exact ps_6 hpp | exact ps_7 hpp | exact ps_8 hpp | exact ps_9 hpp | exact ps_10 hpp | exact ps_11 hpp | exact ps_15 hpp | exact ps_16 hpp | exact ps_17 hpp | exact ps_18 hpp | exact ps_19 hpp | exact ps_21 hpp | exact ps_22 hpp | exact ps_23 hpp | exact ps_24 hpp) ⟨by omega, by omega⟩ ?_ | refine by_tald rfl rfl ⟨by omega, by omega⟩ ?_
      simp (disch := first | exact Nat.ne_of_beq_eq_false rfl | exact rfl | omega) only [nI_add, xa_sub, xa_mul, pk_div, nm_mod, xa_shr, xa_and7, xa_and1, xa_and255, xa_by_and, nI_m1, Nat.add_sub_cancel, Nat.reducePow, Nat.zero_add, Nat.add_zero, Nat.reduceAdd, Nat.reduceMul, Nat.reduceSub, xf_same, xq_ff, xq_fo, xf_1, xf_2, xs_1, xs_2, xs_same, xq_so, xj_1, xj_2, xj_same, xq_jo, xq_sa1, xq_same, xq_other, upd_s, oI_n, oI_s, xf_102_91 F2, xf_102_7 F2, y106, y161]
      first | refine by_iald (by first | exact rfl | assumption | exact ps_1 hpp | exact ps_2 hpp | exact ps_3 hpp | exact ps_4 hpp | exact ps_5 hpp | exact ps_6 hpp | exact ps_7 hpp | exact ps_8 hpp | exact ps_9 hpp | exact ps_10 hpp | exact ps_11 hpp | exact ps_15 hpp | exact ps_16 hpp | exact ps_17 hpp | exact ps_18 hpp | exact ps_19 hpp | exact ps_21 hpp | exact ps_22 hpp | exact ps_23 hpp | exact ps_24 hpp) ⟨by omega, by omega⟩ ?_ | refine by_tald rfl rfl ⟨by omega, by omega⟩ ?_
      refine by_nil ?_
      try simp (disch := first | exact Nat.ne_of_beq_eq_false rfl | exact rfl | omega) only [nI_add, xa_sub, xa_mul, pk_div, nm_mod, xa_shr, xa_and7, xa_and1, xa_and255, xa_by_and, nI_m1, Nat.add_sub_cancel, Nat.reducePow, Nat.zero_add, Nat.add_zero, Nat.reduceAdd, Nat.reduceMul, Nat.reduceSub, xf_same, xq_ff, xq_fo, xf_1, xf_2, xs_1, xs_2, xs_same, xq_so, xj_1, xj_2, xj_same, xq_jo, xq_sa1, xq_same, xq_other, upd_s, oI_n, oI_s, xv_0, xv_1, xv_2, xv_3, xm_p1, xm_p2, xq_fp, xq_fn, List.filter_nil, Nat.reduceBEq, Bool.not_true, Bool.not_false, Bool.and_true, Bool.and_false, Bool.false_and, Bool.true_and, if_true, if_false, Bool.false_eq_true, reduceIte, xc_i, xc_j, xc_r, xc_n, List.nil_append, List.cons_append, Option.toList_some, Option.toList_none, xf_102_91 F2, xf_102_7 F2, y106, y161]
      exact fst _ (by rw [ec]; rfl)
end SY
