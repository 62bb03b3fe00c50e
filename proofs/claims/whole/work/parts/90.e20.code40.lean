/-! ===== the class: run ===== -/
def qS (q : PgD) : Ty := q.2.2.2.1 (q.2.1.length - 1)
def qT (q : PgD) : Ty := q.2.2.2.2 (q.2.1.length - 1)
def tpT : List (Nat × Nat) := [(1, 1), (1, 2), (1, 3)]
section XR
variable {sc : xm_Sc} {d pp df c : Nat} {tl : List Nat} {G : Nat → gN} {h : xm_H} {post : xm_Po} {px : String → xm_H → Prop} {rn st ce : Int32} {o : Option PgD}
theorem sp_xrun (hF : XF h) (hpp : pp = 52 ∨ pp = 77) (h9 : h.2.2 0 9 = .ref pp) (h12 : h.2.2 0 12 = .int rn) (hP : xPg h pp o) (hrow : rowIs h 1 2 tl) (hI : dI h G c) (hdf : df < 2)
    (hA : (st < nI 1 ∨ ¬ nI 1 ≤ ce) → px "java/lang/IllegalArgumentException" h) (hS : ¬ st < nI 1 → nI 1 ≤ ce → o = none → px "java/lang/IllegalStateException" h)
    (p4 : ∀ q s k, o = some q → st = nI s → ce = nI k → 1 ≤ s → s < 2147483648 → 1 ≤ k → k < 2147483648 → ¬ vOK tl (qS q) → ∀ h', XF h' → Fr (wsR pp) (tpT ++ wsT pp) h h' → wKp h h' → dI h' G c → rowIs h' 1 2 [] → post (some (.int (-4))) h')
    (p2 : ∀ q s k, o = some q → st = nI s → ce = nI k → 1 ≤ s → s < 2147483648 → 1 ≤ k → k < 2147483648 → vOK tl (qS q) → ∀ C F B, bnd q.2.1 q.2.2.2.1 q.2.2.2.2 C F B q.2.1.length → rnX q C B s k → ∀ h', XF h' → Fr (wsR pp) (tpT ++ wsT pp) h h' → wKp h h' → dI h' G c → rowIs h' 1 2 [] → post (some (.int (-2))) h')
    (p1 : ∀ q s k, o = some q → st = nI s → ce = nI k → 1 ≤ s → s < 2147483648 → 1 ≤ k → k < 2147483648 → vOK tl (qS q) → ∀ C F B, bnd q.2.1 q.2.2.2.1 q.2.2.2.2 C F B q.2.1.length → ¬ rnX q C B s k → rnE q tl = none → ∀ h' G' c', XF h' → Fr (wsR pp) (tpT ++ wsT pp) h h' → wKp h h' → dI h' G' c' → rowIs h' 1 2 [] → post (some (.int (-1))) h')
    (p0 : ∀ q s k, o = some q → st = nI s → ce = nI k → 1 ≤ s → s < 2147483648 → 1 ≤ k → k < 2147483648 → vOK tl (qS q) → ∀ C F B, bnd q.2.1 q.2.2.2.1 q.2.2.2.2 C F B q.2.1.length → ¬ rnX q C B s k → ∀ x z m e, rnE q tl = some (x, z, m, e) → x.length = ty_w (qT q) → z ≤ 1000000 → ∀ h' G' c', XF h' → Fr (weR pp) (tpT ++ weT pp) h h' → wKp h h' → dI h' G' c' → rowIs h' 1 2 [] → rowIs h' 3 4 (pkL (x.map Bool.toNat)) → h'.2.2 0 12 = .int (rn + nI 1) → (df = 0 → h'.2.2 0 13 = .int (nI (ty_w (qS q) + ty_w (qT q) + m)) ∧ h'.2.2 0 14 = .int (nI (2 + e)) ∧ h'.2.2 0 15 = .int (nI (min 2147483647 z))) → (df = 1 → h'.2.2 0 13 = h.2.2 0 13 ∧ h'.2.2 0 14 = h.2.2 0 14 ∧ h'.2.2 0 15 = h.2.2 0 15) → post (some (.int (nI ((ty_w (qT q) + 7) / 8)))) h') :
    xm_goX (XE sc) (xm_T (XE sc) (d + 53)) 188 post tw_X11_run px 0 [(0, .ref 0), (1, .int st), (2, .int ce), (3, .int (nI df))] [] h := by
  obtain ⟨hc, hc4⟩ := xPg_c hP
  with_reducible refine xx_blk b_X11_run_0 k_X11_run_0 ?_
  refine by_iload_n rfl ?_
  refine by_iconst ci_1 ?_
  refine by_ic_lt 10 rfl ?_
  simp (disch := first | exact Nat.ne_of_beq_eq_false rfl | exact rfl | omega) only [nI_add, xa_sub, xa_mul, pk_div, nm_mod, xa_shr, xa_and7, xa_and1, xa_and255, xa_by_and, nI_m1, Nat.add_sub_cancel, Nat.reducePow, Nat.zero_add, Nat.add_zero, Nat.reduceAdd, Nat.reduceMul, Nat.reduceSub, xf_same, xq_ff, xq_fo, xf_1, xf_2, xs_1, xs_2, xs_same, xq_so, xj_1, xj_2, xj_same, xq_jo, xq_sa1, xq_same, xq_other, upd_s, oI_n, oI_s, xv_0, xv_1, xv_2, xv_3, xm_p1, xm_p2, xq_fp, xq_fn, List.filter_nil, Nat.reduceBEq, Bool.not_true, Bool.not_false, Bool.and_true, Bool.and_false, Bool.false_and, Bool.true_and, if_true, if_false, Bool.false_eq_true, reduceIte, xc_i, xc_j, xc_r, xc_n, List.nil_append, List.cons_append, Option.toList_some, Option.toList_none, nI_ltJ, nI_leJ, nI_eqJ, nI_ltz, nI_gez, nI_gtz, nI_lez, nI_eqz, m1_ltz, m1_gez, true_imp_iff, false_imp_iff, true_and, and_true, ne_eq, not_false_eq_true, not_true_eq_false, Nat.reduceEqDiff, Nat.reduceLT, Nat.reduceLeDiff]
  refine ⟨fun q => xx_thr rfl (hA (Or.inl q)), fun q => ?_⟩
  with_reducible refine xx_blk b_X11_run_5 k_X11_run_5 ?_
  refine by_iload_n rfl ?_
  refine by_iconst ci_1 ?_
  refine by_ic_ge 20 rfl ?_
  simp (disch := first | exact Nat.ne_of_beq_eq_false rfl | exact rfl | omega) only [nI_add, xa_sub, xa_mul, pk_div, nm_mod, xa_shr, xa_and7, xa_and1, xa_and255, xa_by_and, nI_m1, Nat.add_sub_cancel, Nat.reducePow, Nat.zero_add, Nat.add_zero, Nat.reduceAdd, Nat.reduceMul, Nat.reduceSub, xf_same, xq_ff, xq_fo, xf_1, xf_2, xs_1, xs_2, xs_same, xq_so, xj_1, xj_2, xj_same, xq_jo, xq_sa1, xq_same, xq_other, upd_s, oI_n, oI_s, xv_0, xv_1, xv_2, xv_3, xm_p1, xm_p2, xq_fp, xq_fn, List.filter_nil, Nat.reduceBEq, Bool.not_true, Bool.not_false, Bool.and_true, Bool.and_false, Bool.false_and, Bool.true_and, if_true, if_false, Bool.false_eq_true, reduceIte, xc_i, xc_j, xc_r, xc_n, List.nil_append, List.cons_append, Option.toList_some, Option.toList_none, nI_ltJ, nI_leJ, nI_eqJ, nI_ltz, nI_gez, nI_gtz, nI_lez, nI_eqz, m1_ltz, m1_gez, true_imp_iff, false_imp_iff, true_and, and_true, ne_eq, not_false_eq_true, not_true_eq_false, Nat.reduceEqDiff, Nat.reduceLT, Nat.reduceLeDiff]
  refine ⟨fun q2 => ?_, fun q2 => xx_thr rfl (hA (Or.inr q2))⟩
  cases o with
  | none =>
    have hc0 : h.2.2 pp 0 = .int (nI 0) := hc
    with_reducible refine xx_blk b_X11_run_20 k_X11_run_20 ?_
    refine by_aload_n rfl ?_
    refine by_getf cn_188 fl_11_71 (by first | exact rfl | assumption) (by decide) ?_
    simp (disch := first | exact Nat.ne_of_beq_eq_false rfl | exact rfl | omega) only [nI_add, xa_sub, xa_mul, pk_div, nm_mod, xa_shr, xa_and7, xa_and1, xa_and255, xa_by_and, nI_m1, Nat.add_sub_cancel, Nat.reducePow, Nat.zero_add, Nat.add_zero, Nat.reduceAdd, Nat.reduceMul, Nat.reduceSub, xf_same, xq_ff, xq_fo, xf_1, xf_2, xs_1, xs_2, xs_same, xq_so, xj_1, xj_2, xj_same, xq_jo, xq_sa1, xq_same, xq_other, upd_s, oI_n, oI_s, h9, hc0]
    refine by_getf cn_188 fl_11_119 (by first | exact rfl | assumption | exact ps_0 hpp) (by decide) ?_
    simp (disch := first | exact Nat.ne_of_beq_eq_false rfl | exact rfl | omega) only [nI_add, xa_sub, xa_mul, pk_div, nm_mod, xa_shr, xa_and7, xa_and1, xa_and255, xa_by_and, nI_m1, Nat.add_sub_cancel, Nat.reducePow, Nat.zero_add, Nat.add_zero, Nat.reduceAdd, Nat.reduceMul, Nat.reduceSub, xf_same, xq_ff, xq_fo, xf_1, xf_2, xs_1, xs_2, xs_same, xq_so, xj_1, xj_2, xj_same, xq_jo, xq_sa1, xq_same, xq_other, upd_s, oI_n, oI_s, h9, hc0]
    refine by_if_ne 40 rfl ?_
    simp (disch := first | exact Nat.ne_of_beq_eq_false rfl | exact rfl | omega) only [nI_add, xa_sub, xa_mul, pk_div, nm_mod, xa_shr, xa_and7, xa_and1, xa_and255, xa_by_and, nI_m1, Nat.add_sub_cancel, Nat.reducePow, Nat.zero_add, Nat.add_zero, Nat.reduceAdd, Nat.reduceMul, Nat.reduceSub, xf_same, xq_ff, xq_fo, xf_1, xf_2, xs_1, xs_2, xs_same, xq_so, xj_1, xj_2, xj_same, xq_jo, xq_sa1, xq_same, xq_other, upd_s, oI_n, oI_s, xv_0, xv_1, xv_2, xv_3, xm_p1, xm_p2, xq_fp, xq_fn, List.filter_nil, Nat.reduceBEq, Bool.not_true, Bool.not_false, Bool.and_true, Bool.and_false, Bool.false_and, Bool.true_and, if_true, if_false, Bool.false_eq_true, reduceIte, xc_i, xc_j, xc_r, xc_n, List.nil_append, List.cons_append, Option.toList_some, Option.toList_none, nI_ltJ, nI_leJ, nI_eqJ, nI_ltz, nI_gez, nI_gtz, nI_lez, nI_eqz, m1_ltz, m1_gez, true_imp_iff, false_imp_iff, true_and, and_true, ne_eq, not_false_eq_true, not_true_eq_false, Nat.reduceEqDiff, Nat.reduceLT, Nat.reduceLeDiff, h9, hc0]
    exact xx_thr rfl (hS q q2 rfl)
  | some g =>
    obtain ⟨l, ps, a, S, T⟩ := g
    have h1 : 1 ≤ ps.length := hP.1.1.2.1
    have hN : ps.length ≤ 400 := hP.1.1.2.2.1
    obtain ⟨n, en⟩ : ∃ n, ps.length = n + 1 := ⟨ps.length - 1, by omega⟩
    have enn : ps.length - 1 = n := by omega
    have hct : h.2.2 pp 0 = .int (nI (n + 1)) := by rw [← en]; exact hP.1.1.2.2.2.1
    obtain ⟨s, hs, rfl⟩ := nI_of (x := st) (fun z => q (Int32.lt_trans z (by decide)))
    obtain ⟨k, hk, rfl⟩ := nI_of (x := ce) (fun z => absurd (Int32.lt_of_lt_of_le z (Int32.le_trans (by decide : (0 : Int32) ≤ nI 1) q2)) (Int32.lt_irrefl))
    have hs1 : 1 ≤ s := by
      by_cases z : s = 0
      · subst z; exact absurd (by decide) q
      · omega
    have hk1 : 1 ≤ k := by
      by_cases z : k = 0
      · subst z; exact absurd q2 (by decide)
      · omega
    have eS : qS (l, ps, a, S, T) = S n := by unfold qS; simp only [enn]
    have eT : qT (l, ps, a, S, T) = T n := by unfold qT; simp only [enn]
    have p4' := p4 _ s k rfl rfl rfl hs1 hs hk1 hk
    have p2' := p2 _ s k rfl rfl rfl hs1 hs hk1 hk
    have p1' := p1 _ s k rfl rfl rfl hs1 hs hk1 hk
    have p0' := p0 _ s k rfl rfl rfl hs1 hs hk1 hk
    rw [eS] at p4' p2' p1' p0'
    rw [eT] at p0'
    refine xx_go ?_
    with_reducible refine xm_go_blk b_X11_run_20 k_X11_run_20 ?_
    refine by_aload_n rfl ?_
    refine by_getf cn_188 fl_11_71 (by first | exact rfl | assumption) (by decide) ?_
    simp (disch := first | exact Nat.ne_of_beq_eq_false rfl | exact rfl | omega) only [nI_add, xa_sub, xa_mul, pk_div, nm_mod, xa_shr, xa_and7, xa_and1, xa_and255, xa_by_and, nI_m1, Nat.add_sub_cancel, Nat.reducePow, Nat.zero_add, Nat.add_zero, Nat.reduceAdd, Nat.reduceMul, Nat.reduceSub, xf_same, xq_ff, xq_fo, xf_1, xf_2, xs_1, xs_2, xs_same, xq_so, xj_1, xj_2, xj_same, xq_jo, xq_sa1, xq_same, xq_other, upd_s, oI_n, oI_s, h9, hct]
    refine by_getf cn_188 fl_11_119 (by first | exact rfl | assumption | exact ps_0 hpp) (by decide) ?_
    simp (disch := first | exact Nat.ne_of_beq_eq_false rfl | exact rfl | omega) only [nI_add, xa_sub, xa_mul, pk_div, nm_mod, xa_shr, xa_and7, xa_and1, xa_and255, xa_by_and, nI_m1, Nat.add_sub_cancel, Nat.reducePow, Nat.zero_add, Nat.add_zero, Nat.reduceAdd, Nat.reduceMul, Nat.reduceSub, xf_same, xq_ff, xq_fo, xf_1, xf_2, xs_1, xs_2, xs_same, xq_so, xj_1, xj_2, xj_same, xq_jo, xq_sa1, xq_same, xq_other, upd_s, oI_n, oI_s, h9, hct]
    refine by_if_ne 40 rfl ?_
    simp (disch := first | exact Nat.ne_of_beq_eq_false rfl | exact rfl | omega) only [nI_add, xa_sub, xa_mul, pk_div, nm_mod, xa_shr, xa_and7, xa_and1, xa_and255, xa_by_and, nI_m1, Nat.add_sub_cancel, Nat.reducePow, Nat.zero_add, Nat.add_zero, Nat.reduceAdd, Nat.reduceMul, Nat.reduceSub, xf_same, xq_ff, xq_fo, xf_1, xf_2, xs_1, xs_2, xs_same, xq_so, xj_1, xj_2, xj_same, xq_jo, xq_sa1, xq_same, xq_other, upd_s, oI_n, oI_s, xv_0, xv_1, xv_2, xv_3, xm_p1, xm_p2, xq_fp, xq_fn, List.filter_nil, Nat.reduceBEq, Bool.not_true, Bool.not_false, Bool.and_true, Bool.and_false, Bool.false_and, Bool.true_and, if_true, if_false, Bool.false_eq_true, reduceIte, xc_i, xc_j, xc_r, xc_n, List.nil_append, List.cons_append, Option.toList_some, Option.toList_none, nI_ltJ, nI_leJ, nI_eqJ, nI_ltz, nI_gez, nI_gtz, nI_lez, nI_eqz, m1_ltz, m1_gez, true_imp_iff, false_imp_iff, true_and, and_true, ne_eq, not_false_eq_true, not_true_eq_false, Nat.reduceEqDiff, Nat.reduceLT, Nat.reduceLeDiff, h9, hct]
    with_reducible refine xm_go_blk b_X11_run_40 k_X11_run_40 ?_
    refine by_aload_n rfl ?_
    refine by_iload_n rfl ?_
    refine by_iload_n rfl ?_
    refine by_iload_n rfl ?_
    refine by_inv3 cn_188 lk_11_124 (by rw [xe_cnt]; decide) is_197 np_197 cn_197 (by first | exact rfl | assumption) (Nat.le_of_ble_eq_true rfl) ?_
    have hend : ∀ (SS : List Nat) (TT : List (Nat × Nat)) h2 (x : Int32), XF h2 → Fr SS TT h h2 → (∀ h', XF h' → Fr SS (tpT ++ TT) h h' → Fr [] tpT h2 h' → rowIs h' 1 2 [] → post (some (.int x)) h') → xm_go (XE sc) (xm_T (XE sc) (d + 53)) 188 post 47 [(0, .ref 0)] [.int x] h2 := by
      intro SS TT h2 x F2 f2 hk
      with_reducible refine xm_go_blk b_X11_run_47 k_X11_run_47 ?_
      refine by_istore (by rw [ml_188]; decide) ?_
      refine by_aload_n rfl ?_
      refine by_getf cn_188 fl_11_10 (by first | exact rfl | assumption) (by decide) ?_
      simp (disch := first | exact Nat.ne_of_beq_eq_false rfl | exact rfl | omega) only [nI_add, xa_sub, xa_mul, pk_div, nm_mod, xa_shr, xa_and7, xa_and1, xa_and255, xa_by_and, nI_m1, Nat.add_sub_cancel, Nat.reducePow, Nat.zero_add, Nat.add_zero, Nat.reduceAdd, Nat.reduceMul, Nat.reduceSub, xf_same, xq_ff, xq_fo, xf_1, xf_2, xs_1, xs_2, xs_same, xq_so, xj_1, xj_2, xj_same, xq_jo, xq_sa1, xq_same, xq_other, upd_s, oI_n, oI_s, xv_0, xv_1, xv_2, xv_3, xm_p1, xm_p2, xq_fp, xq_fn, List.filter_nil, Nat.reduceBEq, Bool.not_true, Bool.not_false, Bool.and_true, Bool.and_false, Bool.false_and, Bool.true_and, if_true, if_false, Bool.false_eq_true, reduceIte, xc_i, xc_j, xc_r, xc_n, List.nil_append, List.cons_append, Option.toList_some, Option.toList_none, xf_0_0 F2]
      refine by_inv0 cn_188 lk_11_98 (by rw [xe_cnt]; decide) is_128 np_128 cn_128 (by first | exact rfl | assumption | exact ps_12 hpp) (Nat.le_of_ble_eq_true rfl) ?_
      refine sp_clear sh_1 ?_
      with_reducible refine xm_go_blk b_X11_run_56 k_X11_run_56 ?_
      refine by_iload rfl ?_
      refine by_iret ry_188 (by first | rfl | assumption) ?_
      have f3 : Fr [] tpT h2 (xm_sf (xm_sf (xm_sf h2 1 1 (.int (nI 0))) 1 3 (.int (nI 0))) 1 2 (.int (nI 0))) := Fr_sf (Fr_sf (Fr_sf Fr_rf (by simp [tpT])) (by simp [tpT])) (by simp [tpT])
      exact hk _ (Fr_XF F2 f3 (by decide +kernel)) (Fr_tr (Fr_tr (Fr_rf (S := SS) (T := tpT ++ TT)) f2 (fun _ z => z) (fun _ z => List.mem_append_right _ z)) f3 (by simp) (fun _ z => List.mem_append_left _ z)) f3 (rowIs_0 (xf_1_0 F2))
    have tk : ∀ h2 h3, Fr [] tpT h2 h3 → wKp h h2 → wKp h h3 := fun h2 h3 f w => wKp_tr w (wKp_fr f (by simp))
    have td : ∀ h2 h3 G' c', Fr [] tpT h2 h3 → dI h2 G' c' → dI h3 G' c' := fun h2 h3 G' c' f w => dI_fr w f (by simp) (by decide)
    refine sp_workTape (d := d) hF hpp h9 h12 hP.1 en hrow hI hdf hs hk (fun hv h2 F2 f2 w2 i2 => ?_) (fun hv C F B hb hx h2 F2 f2 w2 i2 => ?_) (fun hv C F B hb hx he h2 G2 c2 F2 f2 w2 i2 => ?_) (fun hv C F B hb hx x z m e he lx hz h2 G2 c2 F2 f2 w2 i2 o2 r2 u0 u1 => ?_)
    · exact xm_go_wk (by simp [Value.category]) (hend _ _ h2 _ F2 f2 (fun h3 F3 f3 g3 r3 => p4' hv h3 F3 f3 (tk _ _ g3 w2) (td _ _ _ _ g3 i2) r3))
    · exact xm_go_wk (by simp [Value.category]) (hend _ _ h2 _ F2 f2 (fun h3 F3 f3 g3 r3 => p2' hv C F B hb hx h3 F3 f3 (tk _ _ g3 w2) (td _ _ _ _ g3 i2) r3))
    · exact xm_go_wk (by simp [Value.category]) (hend _ _ h2 _ F2 f2 (fun h3 F3 f3 g3 r3 => p1' hv C F B hb hx he h3 G2 c2 F3 f3 (tk _ _ g3 w2) (td _ _ _ _ g3 i2) r3))
    · refine xm_go_wk (by simp [Value.category]) (hend _ _ h2 _ F2 f2 (fun h3 F3 f3 g3 r3 => p0' hv C F B hb hx x z m e he lx hz h3 G2 c2 F3 f3 (tk _ _ g3 w2) (td _ _ _ _ g3 i2) r3 (rowIs_fr o2 g3 (by simp) (by simp [tpT]) (by simp [tpT])) (by rw [g3.2.2 _ _ (by simp [tpT])]; exact r2) (fun y => ?_) (fun y => ?_)))
      · rw [g3.2.2 _ _ (by simp [tpT]), g3.2.2 _ _ (by simp [tpT]), g3.2.2 _ _ (by simp [tpT])]; exact u0 y
      · rw [g3.2.2 _ _ (by simp [tpT]), g3.2.2 _ _ (by simp [tpT]), g3.2.2 _ _ (by simp [tpT])]; exact u1 y
end XR
