/-! ===== the class: workTape whole ===== -/
def wsR (pp : Nat) : List Nat := (pp + 24) :: 28 :: (cdR ++ mcR)
def wsT (pp : Nat) : List (Nat × Nat) := (pp + 14, 11) :: (cdT ++ mcT)
def weR (pp : Nat) : List Nat := (pp + 24) :: 28 :: (cdR ++ wkR)
def weT (pp : Nat) : List (Nat × Nat) := (pp + 14, 11) :: (cdT ++ wkT)
def wKp (h h' : xm_H) : Prop := ∀ r j, j < 400 → r ∈ gRw → h'.1 r j = h.1 r j
theorem gR_n {r : Nat} {S : List Nat} (hr : r ∈ gRw) (h : ∀ x ∈ S, x < 23 ∨ 30 < x) : r ∉ S := fun z => by
  have := h r z
  simp only [gRw, List.mem_cons, List.not_mem_nil, or_false] at hr
  omega
theorem wKp_fr {S : List Nat} {T : List (Nat × Nat)} {h h' : xm_H} (hf : Fr S T h h') (hS : ∀ x ∈ S, x < 23 ∨ 30 < x) : wKp h h' := fun r j _ hr => by rw [hf.1 r (gR_n hr hS)]
theorem wKp_tr {h h1 h2 : xm_H} (a : wKp h h1) (b : wKp h1 h2) : wKp h h2 := fun r j hj hr => by rw [b r j hj hr, a r j hj hr]
theorem ws_m {pp : Nat} : ∀ x ∈ mcR, x ∈ wsR pp := fun _ hx => List.mem_cons_of_mem _ (List.mem_cons_of_mem _ (List.mem_append_right _ hx))
theorem ws_t {pp : Nat} : ∀ x ∈ mcT, x ∈ wsT pp := fun _ hx => List.mem_cons_of_mem _ (List.mem_append_right _ hx)
theorem we_m {pp : Nat} : ∀ x ∈ wkR, x ∈ weR pp := fun _ hx => List.mem_cons_of_mem _ (List.mem_cons_of_mem _ (List.mem_append_right _ hx))
theorem we_t {pp : Nat} : ∀ x ∈ wkT, x ∈ weT pp := fun _ hx => List.mem_cons_of_mem _ (List.mem_append_right _ hx)
section WT
variable {sc : xm_Sc} {d pp df : Nat} {l : List Nat} {ps : List pr_D} {a c : Nat} {S T : Nat → Ty} {tl : List Nat} {G : Nat → gN} {h : xm_H} {post : xm_Po} {rn : Int32}
theorem sp_workTape {n st ce : Nat} (hF : XF h) (hpp : pp = 52 ∨ pp = 77) (h9 : h.2.2 0 9 = .ref pp) (h12 : h.2.2 0 12 = .int rn) (hP : PG h pp l ps a S T) (en : ps.length = n + 1) (hrow : rowIs h 1 2 tl) (hI : dI h G c) (hdf : df < 2) (hst : st < 2147483648) (hce : ce < 2147483648)
    (p4 : ¬ vOK tl (S n) → ∀ h', XF h' → Fr (wsR pp) (wsT pp) h h' → wKp h h' → dI h' G c → post (some (.int (-4))) h')
    (p2 : vOK tl (S n) → ∀ C F B, bnd ps S T C F B ps.length → rnX (l, ps, a, S, T) C B st ce → ∀ h', XF h' → Fr (wsR pp) (wsT pp) h h' → wKp h h' → dI h' G c → post (some (.int (-2))) h')
    (p1 : vOK tl (S n) → ∀ C F B, bnd ps S T C F B ps.length → ¬ rnX (l, ps, a, S, T) C B st ce → rnE (l, ps, a, S, T) tl = none → ∀ h' G' c', XF h' → Fr (wsR pp) (wsT pp) h h' → wKp h h' → dI h' G' c' → post (some (.int (-1))) h')
    (p0 : vOK tl (S n) → ∀ C F B, bnd ps S T C F B ps.length → ¬ rnX (l, ps, a, S, T) C B st ce → ∀ x s k e, rnE (l, ps, a, S, T) tl = some (x, s, k, e) → x.length = ty_w (T n) → s ≤ 1000000 → ∀ h' G' c', XF h' → Fr (weR pp) (weT pp) h h' → wKp h h' → dI h' G' c' → rowIs h' 3 4 (pkL (x.map Bool.toNat)) → h'.2.2 0 12 = .int (rn + nI 1) → (df = 0 → h'.2.2 0 13 = .int (nI (ty_w (S n) + ty_w (T n) + k)) ∧ h'.2.2 0 14 = .int (nI (2 + e)) ∧ h'.2.2 0 15 = .int (nI (min 2147483647 s))) → (df = 1 → h'.2.2 0 13 = h.2.2 0 13 ∧ h'.2.2 0 14 = h.2.2 0 14 ∧ h'.2.2 0 15 = h.2.2 0 15) → post (some (.int (nI ((ty_w (T n) + 7) / 8)))) h') :
    xm_T (XE sc) (d + 53) 197 [.ref 0, .int (nI st), .int (nI ce), .int (nI df)] h post := by
  have hPF := hP.1
  have hLG := hP.2.1
  have ho := hPF.1
  have hN : ps.length ≤ 400 := hPF.2.2.1
  have hct : h.2.2 pp 0 = .int (nI (n + 1)) := by rw [← en]; exact hPF.2.2.2.1
  have hn : n < ps.length := by omega
  have enn : ps.length - 1 = n := by omega
  have h11 : pC ps n ≠ 11 := by have := lst_11 (by omega) hLG; rw [enn] at this; exact this
  have hws : ty_w (S n) ≤ 2048 := PG_w (tb := 0) hLG hn h11
  have hwt : ty_w (T n) ≤ 2048 := PG_w (tb := 1) hLG hn h11
  obtain ⟨cn, tr, K, L, R, c1, c2, c3⟩ := hPF.2.2.2.2.2.2.2
  obtain ⟨i, j, hi, hj, h6, ti, h7, tj⟩ := c3.1 n (List.mem_range.mpr hn) h11
  have hk1 : pgK pp [pp + 24] [(pp + 14, 11)] = true := by rcases hpp with rfl | rfl <;> decide
  have hk2 : pgK pp (28 :: cdR) cdT = true := by rcases hpp with rfl | rfl <;> decide
  have hs1 : ∀ x ∈ [pp + 24], x < 23 ∨ 30 < x := by rcases hpp with rfl | rfl <;> decide
  have nt : ∀ q : Nat × Nat, q.1 ≤ 51 → q ∉ [(pp + 14, 11)] := fun q hq z => by
    simp only [List.mem_cons, List.not_mem_nil, or_false] at z
    rw [z] at hq
    have : pp + 14 ≤ 51 := hq
    omega
  have nr : ∀ r : Nat, r ≤ 51 → r ∉ [pp + 24] := fun r hq z => by
    simp only [List.mem_cons, List.not_mem_nil, or_false] at z
    omega
  refine xq_in rfl ?_
  simp only [xq_a0, xq_aI, xq_aJ, xq_aR, Nat.reduceAdd]
  with_reducible refine xm_go_blk b_X11_workTape_0 k_X11_workTape_0 ?_
  refine by_aload_n rfl ?_
  refine by_getf cn_197 fl_11_71 (by first | exact rfl | assumption) (by decide) ?_
  simp (disch := first | exact Nat.ne_of_beq_eq_false rfl | exact rfl | omega) only [nI_add, xa_sub, xa_mul, pk_div, nm_mod, xa_shr, xa_and7, xa_and1, xa_and255, xa_by_and, nI_m1, Nat.add_sub_cancel, Nat.reducePow, Nat.zero_add, Nat.add_zero, Nat.reduceAdd, Nat.reduceMul, Nat.reduceSub, xf_same, xq_ff, xq_fo, xf_1, xf_2, xs_1, xs_2, xs_same, xq_so, xj_1, xj_2, xj_same, xq_jo, xq_sa1, xq_same, xq_other, upd_s, oI_n, oI_s, h9, hct, pf_13 hF hpp, xf_0_0 hF, pf_6 hF hpp, h6]
  refine by_getf cn_197 fl_11_119 (by first | exact rfl | assumption | exact ps_0 hpp) (by decide) ?_
  refine by_iconst ci_1 ?_
  simp (disch := first | exact Nat.ne_of_beq_eq_false rfl | exact rfl | omega) only [nI_add, xa_sub, xa_mul, pk_div, nm_mod, xa_shr, xa_and7, xa_and1, xa_and255, xa_by_and, nI_m1, Nat.add_sub_cancel, Nat.reducePow, Nat.zero_add, Nat.add_zero, Nat.reduceAdd, Nat.reduceMul, Nat.reduceSub, xf_same, xq_ff, xq_fo, xf_1, xf_2, xs_1, xs_2, xs_same, xq_so, xj_1, xj_2, xj_same, xq_jo, xq_sa1, xq_same, xq_other, upd_s, oI_n, oI_s, h9, hct, pf_13 hF hpp, xf_0_0 hF, pf_6 hF hpp, h6]
  refine by_isub ?_
  refine by_istore (by rw [ml_197]; decide) ?_
  refine by_aload_n rfl ?_
  refine by_getf cn_197 fl_11_71 (by first | exact rfl | assumption) (by decide) ?_
  simp (disch := first | exact Nat.ne_of_beq_eq_false rfl | exact rfl | omega) only [nI_add, xa_sub, xa_mul, pk_div, nm_mod, xa_shr, xa_and7, xa_and1, xa_and255, xa_by_and, nI_m1, Nat.add_sub_cancel, Nat.reducePow, Nat.zero_add, Nat.add_zero, Nat.reduceAdd, Nat.reduceMul, Nat.reduceSub, xf_same, xq_ff, xq_fo, xf_1, xf_2, xs_1, xs_2, xs_same, xq_so, xj_1, xj_2, xj_same, xq_jo, xq_sa1, xq_same, xq_other, upd_s, oI_n, oI_s, h9, hct, pf_13 hF hpp, xf_0_0 hF, pf_6 hF hpp, h6]
  refine by_getf cn_197 fl_11_128 (by first | exact rfl | assumption | exact ps_0 hpp) (by decide) ?_
  refine by_aload_n rfl ?_
  refine by_getf cn_197 fl_11_10 (by first | exact rfl | assumption) (by decide) ?_
  refine by_aload_n rfl ?_
  refine by_getf cn_197 fl_11_71 (by first | exact rfl | assumption) (by decide) ?_
  simp (disch := first | exact Nat.ne_of_beq_eq_false rfl | exact rfl | omega) only [nI_add, xa_sub, xa_mul, pk_div, nm_mod, xa_shr, xa_and7, xa_and1, xa_and255, xa_by_and, nI_m1, Nat.add_sub_cancel, Nat.reducePow, Nat.zero_add, Nat.add_zero, Nat.reduceAdd, Nat.reduceMul, Nat.reduceSub, xf_same, xq_ff, xq_fo, xf_1, xf_2, xs_1, xs_2, xs_same, xq_so, xj_1, xj_2, xj_same, xq_jo, xq_sa1, xq_same, xq_other, upd_s, oI_n, oI_s, h9, hct, pf_13 hF hpp, xf_0_0 hF, pf_6 hF hpp, h6]
  refine by_getf cn_197 fl_11_132 (by first | exact rfl | assumption | exact ps_0 hpp) (by decide) ?_
  refine by_iload rfl ?_
  simp (disch := first | exact Nat.ne_of_beq_eq_false rfl | exact rfl | omega) only [nI_add, xa_sub, xa_mul, pk_div, nm_mod, xa_shr, xa_and7, xa_and1, xa_and255, xa_by_and, nI_m1, Nat.add_sub_cancel, Nat.reducePow, Nat.zero_add, Nat.add_zero, Nat.reduceAdd, Nat.reduceMul, Nat.reduceSub, xf_same, xq_ff, xq_fo, xf_1, xf_2, xs_1, xs_2, xs_same, xq_so, xj_1, xj_2, xj_same, xq_jo, xq_sa1, xq_same, xq_other, upd_s, oI_n, oI_s, h9, hct, pf_13 hF hpp, xf_0_0 hF, pf_6 hF hpp, h6]
  first | refine by_iald (by first | exact rfl | assumption | exact ps_1 hpp | exact ps_2 hpp | exact ps_3 hpp | exact ps_4 hpp | exact ps_5 hpp | exact ps_6 hpp | exact ps_7 hpp | exact ps_8 hpp | exact ps_9 hpp | exact ps_10 hpp | exact ps_11 hpp | exact ps_15 hpp | exact ps_16 hpp | exact ps_17 hpp | exact ps_18 hpp | exact ps_19 hpp | exact ps_21 hpp | exact ps_22 hpp | exact ps_23 hpp | exact ps_24 hpp) ⟨by omega, by omega⟩ ?_ | refine by_tald rfl rfl ⟨by omega, by omega⟩ ?_
  simp (disch := first | exact Nat.ne_of_beq_eq_false rfl | exact rfl | omega) only [nI_add, xa_sub, xa_mul, pk_div, nm_mod, xa_shr, xa_and7, xa_and1, xa_and255, xa_by_and, nI_m1, Nat.add_sub_cancel, Nat.reducePow, Nat.zero_add, Nat.add_zero, Nat.reduceAdd, Nat.reduceMul, Nat.reduceSub, xf_same, xq_ff, xq_fo, xf_1, xf_2, xs_1, xs_2, xs_same, xq_so, xj_1, xj_2, xj_same, xq_jo, xq_sa1, xq_same, xq_other, upd_s, oI_n, oI_s, xv_0, xv_1, xv_2, xv_3, xm_p1, xm_p2, xq_fp, xq_fn, List.filter_nil, Nat.reduceBEq, Bool.not_true, Bool.not_false, Bool.and_true, Bool.and_false, Bool.false_and, Bool.true_and, if_true, if_false, Bool.false_eq_true, reduceIte, xc_i, xc_j, xc_r, xc_n, List.nil_append, List.cons_append, Option.toList_some, Option.toList_none, h9, hct, pf_13 hF hpp, xf_0_0 hF, pf_6 hF hpp, h6]
  refine by_inv2 cn_197 lk_11_136 (by rw [xe_cnt]; decide) is_168 np_168 cn_168 (by first | exact rfl | assumption | exact ps_14 hpp) (Nat.le_of_ble_eq_true rfl) ?_
  refine sp_fitsWhole hF hpp c2 c1 hi hrow (by rw [ti]; exact hws) (fun h1 hv f1 => ?_) (fun h1 hv f1 => ?_)
  · rw [ti] at hv
    have F1 : XF h1 := Fr_XF hF f1 (by rcases hpp with rfl | rfl <;> decide +kernel)
    have hP1 : PG h1 pp l ps a S T := PG_fk hP f1 hk1 (wKp_fr f1 hs1)
    have I1 : dI h1 G c := dI_fr hI f1 (fun r hr => nr r (by simp at hr; omega)) (nt _ (by decide))
    have w1 : wKp h h1 := wKp_fr f1 hs1
    have f1s : Fr (wsR pp) (wsT pp) h h1 := Fr_tr (Fr_rf (S := wsR pp) (T := wsT pp)) f1 (by simp [wsR]) (by simp [wsT])
    have f1e : Fr (weR pp) (weT pp) h h1 := Fr_tr (Fr_rf (S := weR pp) (T := weT pp)) f1 (by simp [weR]) (by simp [weT])
    have g9 : h1.2.2 0 9 = .ref pp := by rw [f1.2.2 _ _ (nt _ (by decide))]; exact h9
    have g12 : h1.2.2 0 12 = .int rn := by rw [f1.2.2 _ _ (nt _ (by decide))]; exact h12
    have hct1 : h1.2.2 pp 0 = .int (nI (n + 1)) := by rw [← en]; exact hP1.1.2.2.2.1
    have row1 : rowIs h1 1 2 tl := rowIs_fr hrow f1 (nr _ (by decide)) (nt _ (by decide)) (nt _ (by decide))
    obtain ⟨C, F, B, k, b, hb, hV, hc, hk⟩ := hP1.2.2.2
    obtain ⟨v1, v2, v3⟩ := hV n hn
    obtain ⟨b1, b2, b3⟩ := bnd_le hb hn
    have p2' := p2 hv C F B hb
    have p1' := p1 hv C F B hb
    have p0' := p0 hv C F B hb
    unfold rnX at p2' p1' p0'
    simp only [enn] at p2' p1' p0'
    have htl : ty_w (S n) ≤ 8 * tl.length := by have := hv.1; omega
    with_reducible refine xm_go_blk b_X11_workTape_35 k_X11_workTape_35 ?_
    refine by_if_ne 41 rfl ?_
    simp (disch := first | exact Nat.ne_of_beq_eq_false rfl | exact rfl | omega) only [nI_add, xa_sub, xa_mul, pk_div, nm_mod, xa_shr, xa_and7, xa_and1, xa_and255, xa_by_and, nI_m1, Nat.add_sub_cancel, Nat.reducePow, Nat.zero_add, Nat.add_zero, Nat.reduceAdd, Nat.reduceMul, Nat.reduceSub, xf_same, xq_ff, xq_fo, xf_1, xf_2, xs_1, xs_2, xs_same, xq_so, xj_1, xj_2, xj_same, xq_jo, xq_sa1, xq_same, xq_other, upd_s, oI_n, oI_s, xv_0, xv_1, xv_2, xv_3, xm_p1, xm_p2, xq_fp, xq_fn, List.filter_nil, Nat.reduceBEq, Bool.not_true, Bool.not_false, Bool.and_true, Bool.and_false, Bool.false_and, Bool.true_and, if_true, if_false, Bool.false_eq_true, reduceIte, xc_i, xc_j, xc_r, xc_n, List.nil_append, List.cons_append, Option.toList_some, Option.toList_none, nI_ltJ, nI_leJ, nI_eqJ, nI_ltz, nI_gez, nI_gtz, nI_lez, nI_eqz, m1_ltz, m1_gez, true_imp_iff, false_imp_iff, true_and, and_true, ne_eq, not_false_eq_true, not_true_eq_false, Nat.reduceEqDiff, Nat.reduceLT, Nat.reduceLeDiff, g9, hct1, pf_10 F1 hpp, v3]
    with_reducible refine xm_go_blk b_X11_workTape_41 k_X11_workTape_41 ?_
    refine by_aload_n rfl ?_
    refine by_getf cn_197 fl_11_71 (by first | exact rfl | assumption) (by decide) ?_
    simp (disch := first | exact Nat.ne_of_beq_eq_false rfl | exact rfl | omega) only [nI_add, xa_sub, xa_mul, pk_div, nm_mod, xa_shr, xa_and7, xa_and1, xa_and255, xa_by_and, nI_m1, Nat.add_sub_cancel, Nat.reducePow, Nat.zero_add, Nat.add_zero, Nat.reduceAdd, Nat.reduceMul, Nat.reduceSub, xf_same, xq_ff, xq_fo, xf_1, xf_2, xs_1, xs_2, xs_same, xq_so, xj_1, xj_2, xj_same, xq_jo, xq_sa1, xq_same, xq_other, upd_s, oI_n, oI_s, xv_0, xv_1, xv_2, xv_3, xm_p1, xm_p2, xq_fp, xq_fn, List.filter_nil, Nat.reduceBEq, Bool.not_true, Bool.not_false, Bool.and_true, Bool.and_false, Bool.false_and, Bool.true_and, if_true, if_false, Bool.false_eq_true, reduceIte, xc_i, xc_j, xc_r, xc_n, List.nil_append, List.cons_append, Option.toList_some, Option.toList_none, g9, hct1, pf_10 F1 hpp, v3]
    refine by_inv0 cn_197 lk_11_142 (by rw [xe_cnt]; decide) is_103 np_103 cn_103 (by first | exact rfl | assumption | exact ps_0 hpp) (Nat.le_of_ble_eq_true rfl) ?_
    refine xq_in rfl ?_
    simp only [xq_a0, xq_aI, xq_aJ, xq_aR, Nat.reduceAdd]
    with_reducible refine xm_go_blk b_X6_allSteps_0 k_X6_allSteps_0 ?_
    refine by_aload_n rfl ?_
    refine by_getf cn_103 fl_6_39 (by first | exact rfl | assumption | exact ps_0 hpp) (by decide) ?_
    refine by_aload_n rfl ?_
    refine by_getf cn_103 fl_6_59 (by first | exact rfl | assumption | exact ps_0 hpp) (by decide) ?_
    refine by_iconst ci_1 ?_
    simp (disch := first | exact Nat.ne_of_beq_eq_false rfl | exact rfl | omega) only [nI_add, xa_sub, xa_mul, pk_div, nm_mod, xa_shr, xa_and7, xa_and1, xa_and255, xa_by_and, nI_m1, Nat.add_sub_cancel, Nat.reducePow, Nat.zero_add, Nat.add_zero, Nat.reduceAdd, Nat.reduceMul, Nat.reduceSub, xf_same, xq_ff, xq_fo, xf_1, xf_2, xs_1, xs_2, xs_same, xq_so, xj_1, xj_2, xj_same, xq_jo, xq_sa1, xq_same, xq_other, upd_s, oI_n, oI_s, g9, hct1, pf_10 F1 hpp, v3]
    refine by_isub ?_
    simp (disch := first | exact Nat.ne_of_beq_eq_false rfl | exact rfl | omega) only [nI_add, xa_sub, xa_mul, pk_div, nm_mod, xa_shr, xa_and7, xa_and1, xa_and255, xa_by_and, nI_m1, Nat.add_sub_cancel, Nat.reducePow, Nat.zero_add, Nat.add_zero, Nat.reduceAdd, Nat.reduceMul, Nat.reduceSub, xf_same, xq_ff, xq_fo, xf_1, xf_2, xs_1, xs_2, xs_same, xq_so, xj_1, xj_2, xj_same, xq_jo, xq_sa1, xq_same, xq_other, upd_s, oI_n, oI_s, g9, hct1, pf_10 F1 hpp, v3]
    first | refine by_iald (by first | exact rfl | assumption | exact ps_1 hpp | exact ps_2 hpp | exact ps_3 hpp | exact ps_4 hpp | exact ps_5 hpp | exact ps_6 hpp | exact ps_7 hpp | exact ps_8 hpp | exact ps_9 hpp | exact ps_10 hpp | exact ps_11 hpp | exact ps_15 hpp | exact ps_16 hpp | exact ps_17 hpp | exact ps_18 hpp | exact ps_19 hpp | exact ps_21 hpp | exact ps_22 hpp | exact ps_23 hpp | exact ps_24 hpp) ⟨by omega, by omega⟩ ?_ | refine by_tald rfl rfl ⟨by omega, by omega⟩ ?_
    simp (disch := first | exact Nat.ne_of_beq_eq_false rfl | exact rfl | omega) only [nI_add, xa_sub, xa_mul, pk_div, nm_mod, xa_shr, xa_and7, xa_and1, xa_and255, xa_by_and, nI_m1, Nat.add_sub_cancel, Nat.reducePow, Nat.zero_add, Nat.add_zero, Nat.reduceAdd, Nat.reduceMul, Nat.reduceSub, xf_same, xq_ff, xq_fo, xf_1, xf_2, xs_1, xs_2, xs_same, xq_so, xj_1, xj_2, xj_same, xq_jo, xq_sa1, xq_same, xq_other, upd_s, oI_n, oI_s, g9, hct1, pf_10 F1 hpp, v3]
    refine by_iret ry_103 (by first | rfl | assumption) ?_
    by_cases e1 : st < B n
    · with_reducible refine xm_go_blk b_X11_workTape_48 k_X11_workTape_48 ?_
      refine by_istore (by rw [ml_197]; decide) ?_
      refine by_iload rfl ?_
      refine by_iload_n rfl ?_
      refine by_ic_gt 74 rfl ?_
      simp (disch := first | exact Nat.ne_of_beq_eq_false rfl | exact rfl | omega) only [nI_add, xa_sub, xa_mul, pk_div, nm_mod, xa_shr, xa_and7, xa_and1, xa_and255, xa_by_and, nI_m1, Nat.add_sub_cancel, Nat.reducePow, Nat.zero_add, Nat.add_zero, Nat.reduceAdd, Nat.reduceMul, Nat.reduceSub, xf_same, xq_ff, xq_fo, xf_1, xf_2, xs_1, xs_2, xs_same, xq_so, xj_1, xj_2, xj_same, xq_jo, xq_sa1, xq_same, xq_other, upd_s, oI_n, oI_s, xv_0, xv_1, xv_2, xv_3, xm_p1, xm_p2, xq_fp, xq_fn, List.filter_nil, Nat.reduceBEq, Bool.not_true, Bool.not_false, Bool.and_true, Bool.and_false, Bool.false_and, Bool.true_and, if_true, if_false, Bool.false_eq_true, reduceIte, xc_i, xc_j, xc_r, xc_n, List.nil_append, List.cons_append, Option.toList_some, Option.toList_none, nI_ltJ, nI_leJ, nI_eqJ, nI_ltz, nI_gez, nI_gtz, nI_lez, nI_eqz, m1_ltz, m1_gez, true_imp_iff, false_imp_iff, true_and, and_true, ne_eq, not_false_eq_true, not_true_eq_false, Nat.reduceEqDiff, Nat.reduceLT, Nat.reduceLeDiff]
      refine ⟨fun c48 => ?_, fun c => absurd (by omega) c⟩
      with_reducible refine xm_go_blk b_X11_workTape_74 k_X11_workTape_74 ?_
      refine by_bipush cb_m2 ?_
      refine by_iret ry_197 (by first | rfl | assumption) ?_
      exact p2' (Or.inl e1) h1 F1 f1s w1 I1
    · by_cases e2 : 1000000 < B n
      · with_reducible refine xm_go_blk b_X11_workTape_48 k_X11_workTape_48 ?_
        refine by_istore (by rw [ml_197]; decide) ?_
        refine by_iload rfl ?_
        refine by_iload_n rfl ?_
        refine by_ic_gt 74 rfl ?_
        simp (disch := first | exact Nat.ne_of_beq_eq_false rfl | exact rfl | omega) only [nI_add, xa_sub, xa_mul, pk_div, nm_mod, xa_shr, xa_and7, xa_and1, xa_and255, xa_by_and, nI_m1, Nat.add_sub_cancel, Nat.reducePow, Nat.zero_add, Nat.add_zero, Nat.reduceAdd, Nat.reduceMul, Nat.reduceSub, xf_same, xq_ff, xq_fo, xf_1, xf_2, xs_1, xs_2, xs_same, xq_so, xj_1, xj_2, xj_same, xq_jo, xq_sa1, xq_same, xq_other, upd_s, oI_n, oI_s, xv_0, xv_1, xv_2, xv_3, xm_p1, xm_p2, xq_fp, xq_fn, List.filter_nil, Nat.reduceBEq, Bool.not_true, Bool.not_false, Bool.and_true, Bool.and_false, Bool.false_and, Bool.true_and, if_true, if_false, Bool.false_eq_true, reduceIte, xc_i, xc_j, xc_r, xc_n, List.nil_append, List.cons_append, Option.toList_some, Option.toList_none, nI_ltJ, nI_leJ, nI_eqJ, nI_ltz, nI_gez, nI_gtz, nI_lez, nI_eqz, m1_ltz, m1_gez, true_imp_iff, false_imp_iff, true_and, and_true, ne_eq, not_false_eq_true, not_true_eq_false, Nat.reduceEqDiff, Nat.reduceLT, Nat.reduceLeDiff]
        refine ⟨fun c => absurd c (by omega), fun c48 => ?_⟩
        with_reducible refine xm_go_blk b_X11_workTape_56 k_X11_workTape_56 ?_
        refine by_iload rfl ?_
        refine by_ldc (x := nI 1000000) cn_197 ki_11_146 (by decide) ?_
        refine by_ic_gt 74 rfl ?_
        simp (disch := first | exact Nat.ne_of_beq_eq_false rfl | exact rfl | omega) only [nI_add, xa_sub, xa_mul, pk_div, nm_mod, xa_shr, xa_and7, xa_and1, xa_and255, xa_by_and, nI_m1, Nat.add_sub_cancel, Nat.reducePow, Nat.zero_add, Nat.add_zero, Nat.reduceAdd, Nat.reduceMul, Nat.reduceSub, xf_same, xq_ff, xq_fo, xf_1, xf_2, xs_1, xs_2, xs_same, xq_so, xj_1, xj_2, xj_same, xq_jo, xq_sa1, xq_same, xq_other, upd_s, oI_n, oI_s, xv_0, xv_1, xv_2, xv_3, xm_p1, xm_p2, xq_fp, xq_fn, List.filter_nil, Nat.reduceBEq, Bool.not_true, Bool.not_false, Bool.and_true, Bool.and_false, Bool.false_and, Bool.true_and, if_true, if_false, Bool.false_eq_true, reduceIte, xc_i, xc_j, xc_r, xc_n, List.nil_append, List.cons_append, Option.toList_some, Option.toList_none, nI_ltJ, nI_leJ, nI_eqJ, nI_ltz, nI_gez, nI_gtz, nI_lez, nI_eqz, m1_ltz, m1_gez, true_imp_iff, false_imp_iff, true_and, and_true, ne_eq, not_false_eq_true, not_true_eq_false, Nat.reduceEqDiff, Nat.reduceLT, Nat.reduceLeDiff]
        refine ⟨fun c56 => ?_, fun c => absurd (by omega) c⟩
        with_reducible refine xm_go_blk b_X11_workTape_74 k_X11_workTape_74 ?_
        refine by_bipush cb_m2 ?_
        refine by_iret ry_197 (by first | rfl | assumption) ?_
        exact p2' (Or.inr (Or.inl e2)) h1 F1 f1s w1 I1
      · with_reducible refine xm_go_blk b_X11_workTape_48 k_X11_workTape_48 ?_
        refine by_istore (by rw [ml_197]; decide) ?_
        refine by_iload rfl ?_
        refine by_iload_n rfl ?_
        refine by_ic_gt 74 rfl ?_
        simp (disch := first | exact Nat.ne_of_beq_eq_false rfl | exact rfl | omega) only [nI_add, xa_sub, xa_mul, pk_div, nm_mod, xa_shr, xa_and7, xa_and1, xa_and255, xa_by_and, nI_m1, Nat.add_sub_cancel, Nat.reducePow, Nat.zero_add, Nat.add_zero, Nat.reduceAdd, Nat.reduceMul, Nat.reduceSub, xf_same, xq_ff, xq_fo, xf_1, xf_2, xs_1, xs_2, xs_same, xq_so, xj_1, xj_2, xj_same, xq_jo, xq_sa1, xq_same, xq_other, upd_s, oI_n, oI_s, xv_0, xv_1, xv_2, xv_3, xm_p1, xm_p2, xq_fp, xq_fn, List.filter_nil, Nat.reduceBEq, Bool.not_true, Bool.not_false, Bool.and_true, Bool.and_false, Bool.false_and, Bool.true_and, if_true, if_false, Bool.false_eq_true, reduceIte, xc_i, xc_j, xc_r, xc_n, List.nil_append, List.cons_append, Option.toList_some, Option.toList_none, nI_ltJ, nI_leJ, nI_eqJ, nI_ltz, nI_gez, nI_gtz, nI_lez, nI_eqz, m1_ltz, m1_gez, true_imp_iff, false_imp_iff, true_and, and_true, ne_eq, not_false_eq_true, not_true_eq_false, Nat.reduceEqDiff, Nat.reduceLT, Nat.reduceLeDiff, g9, hct1, pf_8 F1 hpp, v1]
        refine ⟨fun c => absurd c (by omega), fun c48 => ?_⟩
        with_reducible refine xm_go_blk b_X11_workTape_56 k_X11_workTape_56 ?_
        refine by_iload rfl ?_
        refine by_ldc (x := nI 1000000) cn_197 ki_11_146 (by decide) ?_
        refine by_ic_gt 74 rfl ?_
        simp (disch := first | exact Nat.ne_of_beq_eq_false rfl | exact rfl | omega) only [nI_add, xa_sub, xa_mul, pk_div, nm_mod, xa_shr, xa_and7, xa_and1, xa_and255, xa_by_and, nI_m1, Nat.add_sub_cancel, Nat.reducePow, Nat.zero_add, Nat.add_zero, Nat.reduceAdd, Nat.reduceMul, Nat.reduceSub, xf_same, xq_ff, xq_fo, xf_1, xf_2, xs_1, xs_2, xs_same, xq_so, xj_1, xj_2, xj_same, xq_jo, xq_sa1, xq_same, xq_other, upd_s, oI_n, oI_s, xv_0, xv_1, xv_2, xv_3, xm_p1, xm_p2, xq_fp, xq_fn, List.filter_nil, Nat.reduceBEq, Bool.not_true, Bool.not_false, Bool.and_true, Bool.and_false, Bool.false_and, Bool.true_and, if_true, if_false, Bool.false_eq_true, reduceIte, xc_i, xc_j, xc_r, xc_n, List.nil_append, List.cons_append, Option.toList_some, Option.toList_none, nI_ltJ, nI_leJ, nI_eqJ, nI_ltz, nI_gez, nI_gtz, nI_lez, nI_eqz, m1_ltz, m1_gez, true_imp_iff, false_imp_iff, true_and, and_true, ne_eq, not_false_eq_true, not_true_eq_false, Nat.reduceEqDiff, Nat.reduceLT, Nat.reduceLeDiff, g9, hct1, pf_8 F1 hpp, v1]
        refine ⟨fun c => absurd c (by omega), fun c56 => ?_⟩
        with_reducible refine xm_go_blk b_X11_workTape_63 k_X11_workTape_63 ?_
        refine by_aload_n rfl ?_
        refine by_getf cn_197 fl_11_71 (by first | exact rfl | assumption) (by decide) ?_
        simp (disch := first | exact Nat.ne_of_beq_eq_false rfl | exact rfl | omega) only [nI_add, xa_sub, xa_mul, pk_div, nm_mod, xa_shr, xa_and7, xa_and1, xa_and255, xa_by_and, nI_m1, Nat.add_sub_cancel, Nat.reducePow, Nat.zero_add, Nat.add_zero, Nat.reduceAdd, Nat.reduceMul, Nat.reduceSub, xf_same, xq_ff, xq_fo, xf_1, xf_2, xs_1, xs_2, xs_same, xq_so, xj_1, xj_2, xj_same, xq_jo, xq_sa1, xq_same, xq_other, upd_s, oI_n, oI_s, xv_0, xv_1, xv_2, xv_3, xm_p1, xm_p2, xq_fp, xq_fn, List.filter_nil, Nat.reduceBEq, Bool.not_true, Bool.not_false, Bool.and_true, Bool.and_false, Bool.false_and, Bool.true_and, if_true, if_false, Bool.false_eq_true, reduceIte, xc_i, xc_j, xc_r, xc_n, List.nil_append, List.cons_append, Option.toList_some, Option.toList_none, g9, hct1, pf_8 F1 hpp, v1]
        refine by_inv0 cn_197 lk_11_147 (by rw [xe_cnt]; decide) is_101 np_101 cn_101 (by first | exact rfl | assumption | exact ps_0 hpp) (Nat.le_of_ble_eq_true rfl) ?_
        refine xq_in rfl ?_
        simp only [xq_a0, xq_aI, xq_aJ, xq_aR, Nat.reduceAdd]
        with_reducible refine xm_go_blk b_X6_allCells_0 k_X6_allCells_0 ?_
        refine by_aload_n rfl ?_
        refine by_getf cn_101 fl_6_59 (by first | exact rfl | assumption | exact ps_0 hpp) (by decide) ?_
        refine by_iconst ci_1 ?_
        simp (disch := first | exact Nat.ne_of_beq_eq_false rfl | exact rfl | omega) only [nI_add, xa_sub, xa_mul, pk_div, nm_mod, xa_shr, xa_and7, xa_and1, xa_and255, xa_by_and, nI_m1, Nat.add_sub_cancel, Nat.reducePow, Nat.zero_add, Nat.add_zero, Nat.reduceAdd, Nat.reduceMul, Nat.reduceSub, xf_same, xq_ff, xq_fo, xf_1, xf_2, xs_1, xs_2, xs_same, xq_so, xj_1, xj_2, xj_same, xq_jo, xq_sa1, xq_same, xq_other, upd_s, oI_n, oI_s, g9, hct1, pf_8 F1 hpp, v1]
        refine by_isub ?_
        refine by_istore_n (by rw [ml_101]; decide) ?_
        refine by_aload_n rfl ?_
        refine by_getf cn_101 fl_6_33 (by first | exact rfl | assumption | exact ps_0 hpp) (by decide) ?_
        refine by_iload_n rfl ?_
        simp (disch := first | exact Nat.ne_of_beq_eq_false rfl | exact rfl | omega) only [nI_add, xa_sub, xa_mul, pk_div, nm_mod, xa_shr, xa_and7, xa_and1, xa_and255, xa_by_and, nI_m1, Nat.add_sub_cancel, Nat.reducePow, Nat.zero_add, Nat.add_zero, Nat.reduceAdd, Nat.reduceMul, Nat.reduceSub, xf_same, xq_ff, xq_fo, xf_1, xf_2, xs_1, xs_2, xs_same, xq_so, xj_1, xj_2, xj_same, xq_jo, xq_sa1, xq_same, xq_other, upd_s, oI_n, oI_s, g9, hct1, pf_8 F1 hpp, v1]
        first | refine by_iald (by first | exact rfl | assumption | exact ps_1 hpp | exact ps_2 hpp | exact ps_3 hpp | exact ps_4 hpp | exact ps_5 hpp | exact ps_6 hpp | exact ps_7 hpp | exact ps_8 hpp | exact ps_9 hpp | exact ps_10 hpp | exact ps_11 hpp | exact ps_15 hpp | exact ps_16 hpp | exact ps_17 hpp | exact ps_18 hpp | exact ps_19 hpp | exact ps_21 hpp | exact ps_22 hpp | exact ps_23 hpp | exact ps_24 hpp) ⟨by omega, by omega⟩ ?_ | refine by_tald rfl rfl ⟨by omega, by omega⟩ ?_
        refine by_i2l ?_
        refine by_aload_n rfl ?_
        refine by_iload_n rfl ?_
        simp (disch := first | exact Nat.ne_of_beq_eq_false rfl | exact rfl | omega) only [nI_add, xa_sub, xa_mul, pk_div, nm_mod, xa_shr, xa_and7, xa_and1, xa_and255, xa_by_and, nI_m1, Nat.add_sub_cancel, Nat.reducePow, Nat.zero_add, Nat.add_zero, Nat.reduceAdd, Nat.reduceMul, Nat.reduceSub, xf_same, xq_ff, xq_fo, xf_1, xf_2, xs_1, xs_2, xs_same, xq_so, xj_1, xj_2, xj_same, xq_jo, xq_sa1, xq_same, xq_other, upd_s, oI_n, oI_s, xv_0, xv_1, xv_2, xv_3, xm_p1, xm_p2, xq_fp, xq_fn, List.filter_nil, Nat.reduceBEq, Bool.not_true, Bool.not_false, Bool.and_true, Bool.and_false, Bool.false_and, Bool.true_and, if_true, if_false, Bool.false_eq_true, reduceIte, xc_i, xc_j, xc_r, xc_n, List.nil_append, List.cons_append, Option.toList_some, Option.toList_none, g9, hct1, pf_8 F1 hpp, v1]
        refine by_inv1 cn_101 lk_6_76 (by rw [xe_cnt]; decide) is_110 np_110 cn_110 (by first | exact rfl | assumption | exact ps_0 hpp) (Nat.le_of_ble_eq_true rfl) ?_
        have i2c : (nI (C n)).toInt64 = lN (C n) := i2l_n (by omega)
        have i2s : (nI (ty_w (S n))).toInt64 = lN (ty_w (S n)) := i2l_n (by omega)
        have i2t : (nI (ty_w (T n))).toInt64 = lN (ty_w (T n)) := i2l_n (by omega)
        refine sp_pgs F1 hpp hP1.1 hn h11 hws ?_
        with_reducible refine xm_go_blk b_X6_allCells_19 k_X6_allCells_19 ?_
        refine by_i2l ?_
        refine by_ladd ?_
        refine by_aload_n rfl ?_
        refine by_iload_n rfl ?_
        simp (disch := first | exact Nat.ne_of_beq_eq_false rfl | exact rfl | omega) only [nI_add, xa_sub, xa_mul, pk_div, nm_mod, xa_shr, xa_and7, xa_and1, xa_and255, xa_by_and, nI_m1, Nat.add_sub_cancel, Nat.reducePow, Nat.zero_add, Nat.add_zero, Nat.reduceAdd, Nat.reduceMul, Nat.reduceSub, xf_same, xq_ff, xq_fo, xf_1, xf_2, xs_1, xs_2, xs_same, xq_so, xj_1, xj_2, xj_same, xq_jo, xq_sa1, xq_same, xq_other, upd_s, oI_n, oI_s, xv_0, xv_1, xv_2, xv_3, xm_p1, xm_p2, xq_fp, xq_fn, List.filter_nil, Nat.reduceBEq, Bool.not_true, Bool.not_false, Bool.and_true, Bool.and_false, Bool.false_and, Bool.true_and, if_true, if_false, Bool.false_eq_true, reduceIte, xc_i, xc_j, xc_r, xc_n, List.nil_append, List.cons_append, Option.toList_some, Option.toList_none, i2c, i2s, lN_pl]
        refine by_inv1 cn_101 lk_6_79 (by rw [xe_cnt]; decide) is_111 np_111 cn_111 (by first | exact rfl | assumption | exact ps_0 hpp) (Nat.le_of_ble_eq_true rfl) ?_
        refine sp_pgt F1 hpp hP1.1 hn h11 hwt ?_
        with_reducible refine xm_go_blk b_X6_allCells_26 k_X6_allCells_26 ?_
        refine by_i2l ?_
        refine by_ladd ?_
        simp (disch := first | exact Nat.ne_of_beq_eq_false rfl | exact rfl | omega) only [nI_add, xa_sub, xa_mul, pk_div, nm_mod, xa_shr, xa_and7, xa_and1, xa_and255, xa_by_and, nI_m1, Nat.add_sub_cancel, Nat.reducePow, Nat.zero_add, Nat.add_zero, Nat.reduceAdd, Nat.reduceMul, Nat.reduceSub, xf_same, xq_ff, xq_fo, xf_1, xf_2, xs_1, xs_2, xs_same, xq_so, xj_1, xj_2, xj_same, xq_jo, xq_sa1, xq_same, xq_other, upd_s, oI_n, oI_s, xv_0, xv_1, xv_2, xv_3, xm_p1, xm_p2, xq_fp, xq_fn, List.filter_nil, Nat.reduceBEq, Bool.not_true, Bool.not_false, Bool.and_true, Bool.and_false, Bool.false_and, Bool.true_and, if_true, if_false, Bool.false_eq_true, reduceIte, xc_i, xc_j, xc_r, xc_n, List.nil_append, List.cons_append, Option.toList_some, Option.toList_none, i2t, i2c, lN_pl]
        refine by_ins1 cn_101 lk_6_82 (by rw [xe_cnt]; decide) is_104 np_104 (Nat.le_of_ble_eq_true rfl) ?_
        refine sp_capped (x := C n + ty_w (S n) + ty_w (T n)) (by omega) ?_
        with_reducible refine xm_go_blk b_X6_allCells_31 k_X6_allCells_31 ?_
        refine by_iret ry_101 (by first | rfl | assumption) ?_
        by_cases e3 : ce < min 2147483647 (C n + ty_w (S n) + ty_w (T n))
        · with_reducible refine xm_go_blk b_X11_workTape_70 k_X11_workTape_70 ?_
          refine by_iload_n rfl ?_
          refine by_ic_le 77 rfl ?_
          simp (disch := first | exact Nat.ne_of_beq_eq_false rfl | exact rfl | omega) only [nI_add, xa_sub, xa_mul, pk_div, nm_mod, xa_shr, xa_and7, xa_and1, xa_and255, xa_by_and, nI_m1, Nat.add_sub_cancel, Nat.reducePow, Nat.zero_add, Nat.add_zero, Nat.reduceAdd, Nat.reduceMul, Nat.reduceSub, xf_same, xq_ff, xq_fo, xf_1, xf_2, xs_1, xs_2, xs_same, xq_so, xj_1, xj_2, xj_same, xq_jo, xq_sa1, xq_same, xq_other, upd_s, oI_n, oI_s, xv_0, xv_1, xv_2, xv_3, xm_p1, xm_p2, xq_fp, xq_fn, List.filter_nil, Nat.reduceBEq, Bool.not_true, Bool.not_false, Bool.and_true, Bool.and_false, Bool.false_and, Bool.true_and, if_true, if_false, Bool.false_eq_true, reduceIte, xc_i, xc_j, xc_r, xc_n, List.nil_append, List.cons_append, Option.toList_some, Option.toList_none, nI_ltJ, nI_leJ, nI_eqJ, nI_ltz, nI_gez, nI_gtz, nI_lez, nI_eqz, m1_ltz, m1_gez, true_imp_iff, false_imp_iff, true_and, and_true, ne_eq, not_false_eq_true, not_true_eq_false, Nat.reduceEqDiff, Nat.reduceLT, Nat.reduceLeDiff]
          refine ⟨fun c => absurd c (by omega), fun c70 => ?_⟩
          with_reducible refine xm_go_blk b_X11_workTape_74 k_X11_workTape_74 ?_
          refine by_bipush cb_m2 ?_
          refine by_iret ry_197 (by first | rfl | assumption) ?_
          exact p2' (Or.inr (Or.inr e3)) h1 F1 f1s w1 I1
        · have hX : pX ps B n := ⟨hn, by omega⟩
          have hnX : ¬ (st < B n ∨ 1000000 < B n ∨ ce < min 2147483647 (C n + ty_w (S n) + ty_w (T n))) := by omega
          have hE : rnE (l, ps, a, S, T) tl = mc_ev (mcQ (l, ps, a, S, T)) (jf0 (mcQ (l, ps, a, S, T))) (byB l) 8000 n (byB tl) := by
            unfold rnE
            simp only [enn]
          have hst2 := ev_steps (wb := byB l) ho hLG hb 8000 n (byB tl)
          rcases (by omega : df = 0 ∨ df = 1) with rfl | rfl
          · with_reducible refine xm_go_blk b_X11_workTape_70 k_X11_workTape_70 ?_
            refine by_iload_n rfl ?_
            refine by_ic_le 77 rfl ?_
            simp (disch := first | exact Nat.ne_of_beq_eq_false rfl | exact rfl | omega) only [nI_add, xa_sub, xa_mul, pk_div, nm_mod, xa_shr, xa_and7, xa_and1, xa_and255, xa_by_and, nI_m1, Nat.add_sub_cancel, Nat.reducePow, Nat.zero_add, Nat.add_zero, Nat.reduceAdd, Nat.reduceMul, Nat.reduceSub, xf_same, xq_ff, xq_fo, xf_1, xf_2, xs_1, xs_2, xs_same, xq_so, xj_1, xj_2, xj_same, xq_jo, xq_sa1, xq_same, xq_other, upd_s, oI_n, oI_s, xv_0, xv_1, xv_2, xv_3, xm_p1, xm_p2, xq_fp, xq_fn, List.filter_nil, Nat.reduceBEq, Bool.not_true, Bool.not_false, Bool.and_true, Bool.and_false, Bool.false_and, Bool.true_and, if_true, if_false, Bool.false_eq_true, reduceIte, xc_i, xc_j, xc_r, xc_n, List.nil_append, List.cons_append, Option.toList_some, Option.toList_none, nI_ltJ, nI_leJ, nI_eqJ, nI_ltz, nI_gez, nI_gtz, nI_lez, nI_eqz, m1_ltz, m1_gez, true_imp_iff, false_imp_iff, true_and, and_true, ne_eq, not_false_eq_true, not_true_eq_false, Nat.reduceEqDiff, Nat.reduceLT, Nat.reduceLeDiff, g9, hct1]
            refine ⟨fun c70 => ?_, fun c => absurd (by omega) c⟩
            with_reducible refine xm_go_blk b_X11_workTape_77 k_X11_workTape_77 ?_
            refine by_iconst ci_0 ?_
            refine by_istore (by rw [ml_197]; decide) ?_
            refine by_nil ?_
            try simp (disch := first | exact Nat.ne_of_beq_eq_false rfl | exact rfl | omega) only [nI_add, xa_sub, xa_mul, pk_div, nm_mod, xa_shr, xa_and7, xa_and1, xa_and255, xa_by_and, nI_m1, Nat.add_sub_cancel, Nat.reducePow, Nat.zero_add, Nat.add_zero, Nat.reduceAdd, Nat.reduceMul, Nat.reduceSub, xf_same, xq_ff, xq_fo, xf_1, xf_2, xs_1, xs_2, xs_same, xq_so, xj_1, xj_2, xj_same, xq_jo, xq_sa1, xq_same, xq_other, upd_s, oI_n, oI_s, xv_0, xv_1, xv_2, xv_3, xm_p1, xm_p2, xq_fp, xq_fn, List.filter_nil, Nat.reduceBEq, Bool.not_true, Bool.not_false, Bool.and_true, Bool.and_false, Bool.false_and, Bool.true_and, if_true, if_false, Bool.false_eq_true, reduceIte, xc_i, xc_j, xc_r, xc_n, List.nil_append, List.cons_append, Option.toList_some, Option.toList_none, g9, hct1]
            with_reducible refine xm_go_blk b_X11_workTape_80 k_X11_workTape_80 ?_
            refine by_iload rfl ?_
            refine by_aload_n rfl ?_
            refine by_getf cn_197 fl_11_71 (by first | exact rfl | assumption) (by decide) ?_
            simp (disch := first | exact Nat.ne_of_beq_eq_false rfl | exact rfl | omega) only [nI_add, xa_sub, xa_mul, pk_div, nm_mod, xa_shr, xa_and7, xa_and1, xa_and255, xa_by_and, nI_m1, Nat.add_sub_cancel, Nat.reducePow, Nat.zero_add, Nat.add_zero, Nat.reduceAdd, Nat.reduceMul, Nat.reduceSub, xf_same, xq_ff, xq_fo, xf_1, xf_2, xs_1, xs_2, xs_same, xq_so, xj_1, xj_2, xj_same, xq_jo, xq_sa1, xq_same, xq_other, upd_s, oI_n, oI_s, g9, hct1]
            refine by_getf cn_197 fl_11_119 (by first | exact rfl | assumption | exact ps_0 hpp) (by decide) ?_
            simp (disch := first | exact Nat.ne_of_beq_eq_false rfl | exact rfl | omega) only [nI_add, xa_sub, xa_mul, pk_div, nm_mod, xa_shr, xa_and7, xa_and1, xa_and255, xa_by_and, nI_m1, Nat.add_sub_cancel, Nat.reducePow, Nat.zero_add, Nat.add_zero, Nat.reduceAdd, Nat.reduceMul, Nat.reduceSub, xf_same, xq_ff, xq_fo, xf_1, xf_2, xs_1, xs_2, xs_same, xq_so, xj_1, xj_2, xj_same, xq_jo, xq_sa1, xq_same, xq_other, upd_s, oI_n, oI_s, g9, hct1]
            refine by_ic_ge 134 rfl ?_
            simp (disch := first | exact Nat.ne_of_beq_eq_false rfl | exact rfl | omega) only [nI_add, xa_sub, xa_mul, pk_div, nm_mod, xa_shr, xa_and7, xa_and1, xa_and255, xa_by_and, nI_m1, Nat.add_sub_cancel, Nat.reducePow, Nat.zero_add, Nat.add_zero, Nat.reduceAdd, Nat.reduceMul, Nat.reduceSub, xf_same, xq_ff, xq_fo, xf_1, xf_2, xs_1, xs_2, xs_same, xq_so, xj_1, xj_2, xj_same, xq_jo, xq_sa1, xq_same, xq_other, upd_s, oI_n, oI_s, xv_0, xv_1, xv_2, xv_3, xm_p1, xm_p2, xq_fp, xq_fn, List.filter_nil, Nat.reduceBEq, Bool.not_true, Bool.not_false, Bool.and_true, Bool.and_false, Bool.false_and, Bool.true_and, if_true, if_false, Bool.false_eq_true, reduceIte, xc_i, xc_j, xc_r, xc_n, List.nil_append, List.cons_append, Option.toList_some, Option.toList_none, nI_ltJ, nI_leJ, nI_eqJ, nI_ltz, nI_gez, nI_gtz, nI_lez, nI_eqz, m1_ltz, m1_gez, true_imp_iff, false_imp_iff, true_and, and_true, ne_eq, not_false_eq_true, not_true_eq_false, Nat.reduceEqDiff, Nat.reduceLT, Nat.reduceLeDiff, g9, hct1]
            with_reducible refine xm_go_blk b_X11_workTape_92 k_X11_workTape_92 ?_
            refine by_iload_n rfl ?_
            refine by_if_eq 134 rfl ?_
            simp (disch := first | exact Nat.ne_of_beq_eq_false rfl | exact rfl | omega) only [nI_add, xa_sub, xa_mul, pk_div, nm_mod, xa_shr, xa_and7, xa_and1, xa_and255, xa_by_and, nI_m1, Nat.add_sub_cancel, Nat.reducePow, Nat.zero_add, Nat.add_zero, Nat.reduceAdd, Nat.reduceMul, Nat.reduceSub, xf_same, xq_ff, xq_fo, xf_1, xf_2, xs_1, xs_2, xs_same, xq_so, xj_1, xj_2, xj_same, xq_jo, xq_sa1, xq_same, xq_other, upd_s, oI_n, oI_s, xv_0, xv_1, xv_2, xv_3, xm_p1, xm_p2, xq_fp, xq_fn, List.filter_nil, Nat.reduceBEq, Bool.not_true, Bool.not_false, Bool.and_true, Bool.and_false, Bool.false_and, Bool.true_and, if_true, if_false, Bool.false_eq_true, reduceIte, xc_i, xc_j, xc_r, xc_n, List.nil_append, List.cons_append, Option.toList_some, Option.toList_none, nI_ltJ, nI_leJ, nI_eqJ, nI_ltz, nI_gez, nI_gtz, nI_lez, nI_eqz, m1_ltz, m1_gez, true_imp_iff, false_imp_iff, true_and, and_true, ne_eq, not_false_eq_true, not_true_eq_false, Nat.reduceEqDiff, Nat.reduceLT, Nat.reduceLeDiff, g9, hct1]
            have hbg := fun post => bg_p0 (sc := sc) (d := d + 44) (post := post) hpp hP1.1.2.2.2.2.1 hc ho hLG hk hN hb hX
            refine xm_go_wk (by simp [Value.category]) (wt_works (d := d + 44) (ce := ce) (st := st) F1 hpp g9 g12 hP1.1 en h11 rfl rfl hws hwt row1 htl (by decide) (fun post => (hbg post).1) (hbg post).2 (by show 2048 * (n + 1) + 4000 ≤ 830000; omega) (by show n + 4001 ≤ 90000; omega) (by show n + 40 ≤ 1600; omega) (by show 7600 + n < 8000; omega) (by show 200000 * B n + _ ≤ _; rw [if_neg h11]; omega) (fun x s k e hr _ => by have := hst2 x s k e hX hr; omega) (fun hr h2 F2 f2 => ?_) (fun x s k e hr lx h2 F2 f2 o2 r2 u0 u1 => ?_))
            · exact p1' hnX (by rw [hE]; exact hr) h2 G c F2 (Fr_tr f1s f2 ws_m ws_t) (wKp_tr w1 (wKp_fr f2 (by decide))) (dI_fr I1 f2 (by decide) (by decide))
            · have hs := hst2 x s k e hX hr
              refine p0' hnX x s k e (by rw [hE]; exact hr) lx (by omega) h2 G c F2 (Fr_tr f1e f2 we_m we_t) (wKp_tr w1 (wKp_fr f2 (by decide))) (dI_fr I1 f2 (by decide) (by decide)) o2 r2 u0 (fun z => absurd z (by decide))
          · have key : ∀ (y z : Nat) (h2 : xm_H) (G2 : Nat → gN) (c2 : Nat), z + y = ps.length → XF h2 → dE h1 G c h2 G2 c2 → dI h2 G2 c2 → (∀ m, m < z → pC ps m = 12 → ∃ p, h2.1 28 (pNu ps m) = nI p ∧ gJ G2 c2 p (pNu ps m / 4) (3 + pNu ps m % 4)) → xm_go (XE sc) (xm_T (XE sc) (d + 52)) 197 post 80 [(6, .int (nI z)), (4, .int (nI n)), (0, .ref 0), (3, .int (nI 1))] [] h2 := by
              intro y
              induction y with
              | zero =>
                intro z h2 G2 c2 hz F2 e2 I2 hd
                have hz' : z = n + 1 := by omega
                have hP2 : PG h2 pp l ps a S T := PG_fk hP1 e2.1 hk2 e2.2.1
                have g92 : h2.2.2 0 9 = .ref pp := by rw [e2.1.2.2 _ _ (by decide)]; exact g9
                have g122 : h2.2.2 0 12 = .int rn := by rw [e2.1.2.2 _ _ (by decide)]; exact g12
                have hct2 : h2.2.2 pp 0 = .int (nI (n + 1)) := by rw [← en]; exact hP2.1.2.2.2.1
                have row2 : rowIs h2 1 2 tl := rowIs_fr row1 e2.1 (by decide) (by decide) (by decide)
                have f2s : Fr (wsR pp) (wsT pp) h h2 := Fr_tr f1s e2.1 (by simp [wsR, cdR]) (by simp [wsT, cdT])
                have f2e : Fr (weR pp) (weT pp) h h2 := Fr_tr f1e e2.1 (by simp [weR, cdR]) (by simp [weT, cdT])
                have w2 : wKp h h2 := wKp_tr w1 e2.2.1
                have hc2 : ciV h2 ps.length b ps S T := fun m hm => by
                  rw [e2.2.1 23 m (by omega) (by simp [gRw]), e2.2.1 24 m (by omega) (by simp [gRw]), e2.2.1 25 m (by omega) (by simp [gRw]), e2.2.1 26 m (by omega) (by simp [gRw]), e2.2.1 27 m (by omega) (by simp [gRw])]
                  exact hc m hm
                subst hz'
                with_reducible refine xm_go_blk b_X11_workTape_80 k_X11_workTape_80 ?_
                refine by_iload rfl ?_
                refine by_aload_n rfl ?_
                refine by_getf cn_197 fl_11_71 (by first | exact rfl | assumption) (by decide) ?_
                simp (disch := first | exact Nat.ne_of_beq_eq_false rfl | exact rfl | omega) only [nI_add, xa_sub, xa_mul, pk_div, nm_mod, xa_shr, xa_and7, xa_and1, xa_and255, xa_by_and, nI_m1, Nat.add_sub_cancel, Nat.reducePow, Nat.zero_add, Nat.add_zero, Nat.reduceAdd, Nat.reduceMul, Nat.reduceSub, xf_same, xq_ff, xq_fo, xf_1, xf_2, xs_1, xs_2, xs_same, xq_so, xj_1, xj_2, xj_same, xq_jo, xq_sa1, xq_same, xq_other, upd_s, oI_n, oI_s, g92, hct2]
                refine by_getf cn_197 fl_11_119 (by first | exact rfl | assumption | exact ps_0 hpp) (by decide) ?_
                simp (disch := first | exact Nat.ne_of_beq_eq_false rfl | exact rfl | omega) only [nI_add, xa_sub, xa_mul, pk_div, nm_mod, xa_shr, xa_and7, xa_and1, xa_and255, xa_by_and, nI_m1, Nat.add_sub_cancel, Nat.reducePow, Nat.zero_add, Nat.add_zero, Nat.reduceAdd, Nat.reduceMul, Nat.reduceSub, xf_same, xq_ff, xq_fo, xf_1, xf_2, xs_1, xs_2, xs_same, xq_so, xj_1, xj_2, xj_same, xq_jo, xq_sa1, xq_same, xq_other, upd_s, oI_n, oI_s, g92, hct2]
                refine by_ic_ge 134 rfl ?_
                simp (disch := first | exact Nat.ne_of_beq_eq_false rfl | exact rfl | omega) only [nI_add, xa_sub, xa_mul, pk_div, nm_mod, xa_shr, xa_and7, xa_and1, xa_and255, xa_by_and, nI_m1, Nat.add_sub_cancel, Nat.reducePow, Nat.zero_add, Nat.add_zero, Nat.reduceAdd, Nat.reduceMul, Nat.reduceSub, xf_same, xq_ff, xq_fo, xf_1, xf_2, xs_1, xs_2, xs_same, xq_so, xj_1, xj_2, xj_same, xq_jo, xq_sa1, xq_same, xq_other, upd_s, oI_n, oI_s, xv_0, xv_1, xv_2, xv_3, xm_p1, xm_p2, xq_fp, xq_fn, List.filter_nil, Nat.reduceBEq, Bool.not_true, Bool.not_false, Bool.and_true, Bool.and_false, Bool.false_and, Bool.true_and, if_true, if_false, Bool.false_eq_true, reduceIte, xc_i, xc_j, xc_r, xc_n, List.nil_append, List.cons_append, Option.toList_some, Option.toList_none, nI_ltJ, nI_leJ, nI_eqJ, nI_ltz, nI_gez, nI_gtz, nI_lez, nI_eqz, m1_ltz, m1_gez, true_imp_iff, false_imp_iff, true_and, and_true, ne_eq, not_false_eq_true, not_true_eq_false, Nat.reduceEqDiff, Nat.reduceLT, Nat.reduceLeDiff, g92, hct2]
                refine ⟨fun c80 => ?_, fun c => absurd (by omega) c⟩
                obtain ⟨r, hbg, hlr, hbits⟩ := bg_p1 (sc := sc) (d := d + 44) hpp hP2.1.2.2.2.2.1 hc2 ho hLG hk hN hb I2.1.1 (fun m hm e => hd m (by omega) e) hX
                obtain ⟨m1, m2, m3, m4, m5, m6, m7⟩ := gM_lo (W := pW (l, ps, a, S, T) B) (G := G2) (show n < 400 by omega)
                refine xm_go_wk (by simp [Value.category]) (wt_works (d := d + 44) (ce := ce) (st := st) F2 hpp g92 g122 hP2.1 en h11 (m1.trans rfl) (m2.trans rfl) hws hwt row2 htl (by decide) hbg hlr (by rw [m5]; show 2048 * (n + 1) + 4000 ≤ 830000; omega) (by rw [m6]; show n + 4001 ≤ 90000; omega) (by rw [m4]; show n + 40 ≤ 1600; omega) (by rw [m7]; omega) (by rw [m3]; show 200000 * B n + _ ≤ _; rw [if_neg h11]; omega) (fun x s k e hr z => absurd z (by decide)) (fun hr h3 F3 f3 => ?_) (fun x s k e hr lx h3 F3 f3 o3 r3 u0 u1 => ?_))
                · have hbt := hbits (byB tl)
                  rw [hr, ← hE] at hbt
                  have hnone : rnE (l, ps, a, S, T) tl = none := by
                    cases hh : rnE (l, ps, a, S, T) tl with
                    | none => rfl
                    | some v => rw [hh] at hbt; cases hbt
                  exact p1' hnX hnone h3 G2 c2 F3 (Fr_tr f2s f3 ws_m ws_t) (wKp_tr w2 (wKp_fr f3 (by decide))) (dI_fr I2 f3 (by decide) (by decide))
                · have hbt := hbits (byB tl)
                  rw [hr, ← hE] at hbt
                  rcases map_cs hbt with ⟨z, _⟩ | ⟨x', s1, k1, e1', s2, k2, e2', q1, q2⟩
                  · cases z
                  · simp only [Option.some.injEq, Prod.mk.injEq] at q1
                    obtain ⟨rfl, _⟩ := q1
                    have hs := hst2 x s2 k2 e2' hX (by rw [← hE]; exact q2)
                    have u13 : ∀ j, h2.2.2 0 j = h.2.2 0 j := fun j => by rw [e2.1.2.2 _ _ (by simp [cdT]), f1.2.2 _ _ (nt _ (by show 0 ≤ 51; decide))]
                    refine p0' hnX x s2 k2 e2' q2 lx (by omega) h3 G2 c2 F3 (Fr_tr f2e f3 we_m we_t) (wKp_tr w2 (wKp_fr f3 (by decide))) (dI_fr I2 f3 (by decide) (by decide)) o3 r3 (fun z => absurd z (by decide)) (fun z => ?_)
                    have := u1 rfl
                    rw [u13, u13, u13] at this
                    exact this
              | succ y ih =>
                intro z h2 G2 c2 hz F2 e2 I2 hd
                have hP2 : PF h2 pp l ps a S T := PF_fk hP1.1 e2.1 hk2
                have g92 : h2.2.2 0 9 = .ref pp := by rw [e2.1.2.2 _ _ (by decide)]; exact g9
                have hct2 : h2.2.2 pp 0 = .int (nI (n + 1)) := by rw [← en]; exact hP2.2.2.2.1
                have hm12 : pC ps z ≤ 12 := (ho z (by omega)).1
                obtain ⟨hx, nh, _, _, q3⟩ := hP2.2.2.2.2.2.2.1
                obtain ⟨x1, _, _, x4, _⟩ := q3 z (by omega)
                by_cases e : pC ps z = 12
                · have hnu : pNu ps z < 168 := Nat.lt_succ_of_le (ho z (by omega)).2.2.2.2.2.1
                  have x4' := x4 (by omega) (by omega)
                  rw [e] at x1
                  with_reducible refine xm_go_blk b_X11_workTape_80 k_X11_workTape_80 ?_
                  refine by_iload rfl ?_
                  refine by_aload_n rfl ?_
                  refine by_getf cn_197 fl_11_71 (by first | exact rfl | assumption) (by decide) ?_
                  simp (disch := first | exact Nat.ne_of_beq_eq_false rfl | exact rfl | omega) only [nI_add, xa_sub, xa_mul, pk_div, nm_mod, xa_shr, xa_and7, xa_and1, xa_and255, xa_by_and, nI_m1, Nat.add_sub_cancel, Nat.reducePow, Nat.zero_add, Nat.add_zero, Nat.reduceAdd, Nat.reduceMul, Nat.reduceSub, xf_same, xq_ff, xq_fo, xf_1, xf_2, xs_1, xs_2, xs_same, xq_so, xj_1, xj_2, xj_same, xq_jo, xq_sa1, xq_same, xq_other, upd_s, oI_n, oI_s, g92, hct2, pf_1 F2 hpp, x1, xf_0_4 F2, pf_4 F2 hpp, x4']
                  refine by_getf cn_197 fl_11_119 (by first | exact rfl | assumption | exact ps_0 hpp) (by decide) ?_
                  simp (disch := first | exact Nat.ne_of_beq_eq_false rfl | exact rfl | omega) only [nI_add, xa_sub, xa_mul, pk_div, nm_mod, xa_shr, xa_and7, xa_and1, xa_and255, xa_by_and, nI_m1, Nat.add_sub_cancel, Nat.reducePow, Nat.zero_add, Nat.add_zero, Nat.reduceAdd, Nat.reduceMul, Nat.reduceSub, xf_same, xq_ff, xq_fo, xf_1, xf_2, xs_1, xs_2, xs_same, xq_so, xj_1, xj_2, xj_same, xq_jo, xq_sa1, xq_same, xq_other, upd_s, oI_n, oI_s, g92, hct2, pf_1 F2 hpp, x1, xf_0_4 F2, pf_4 F2 hpp, x4']
                  refine by_ic_ge 134 rfl ?_
                  simp (disch := first | exact Nat.ne_of_beq_eq_false rfl | exact rfl | omega) only [nI_add, xa_sub, xa_mul, pk_div, nm_mod, xa_shr, xa_and7, xa_and1, xa_and255, xa_by_and, nI_m1, Nat.add_sub_cancel, Nat.reducePow, Nat.zero_add, Nat.add_zero, Nat.reduceAdd, Nat.reduceMul, Nat.reduceSub, xf_same, xq_ff, xq_fo, xf_1, xf_2, xs_1, xs_2, xs_same, xq_so, xj_1, xj_2, xj_same, xq_jo, xq_sa1, xq_same, xq_other, upd_s, oI_n, oI_s, xv_0, xv_1, xv_2, xv_3, xm_p1, xm_p2, xq_fp, xq_fn, List.filter_nil, Nat.reduceBEq, Bool.not_true, Bool.not_false, Bool.and_true, Bool.and_false, Bool.false_and, Bool.true_and, if_true, if_false, Bool.false_eq_true, reduceIte, xc_i, xc_j, xc_r, xc_n, List.nil_append, List.cons_append, Option.toList_some, Option.toList_none, nI_ltJ, nI_leJ, nI_eqJ, nI_ltz, nI_gez, nI_gtz, nI_lez, nI_eqz, m1_ltz, m1_gez, true_imp_iff, false_imp_iff, true_and, and_true, ne_eq, not_false_eq_true, not_true_eq_false, Nat.reduceEqDiff, Nat.reduceLT, Nat.reduceLeDiff, g92, hct2, pf_1 F2 hpp, x1, xf_0_4 F2, pf_4 F2 hpp, x4']
                  refine ⟨fun c => absurd c (by omega), fun c80 => ?_⟩
                  with_reducible refine xm_go_blk b_X11_workTape_92 k_X11_workTape_92 ?_
                  refine by_iload_n rfl ?_
                  refine by_if_eq 134 rfl ?_
                  simp (disch := first | exact Nat.ne_of_beq_eq_false rfl | exact rfl | omega) only [nI_add, xa_sub, xa_mul, pk_div, nm_mod, xa_shr, xa_and7, xa_and1, xa_and255, xa_by_and, nI_m1, Nat.add_sub_cancel, Nat.reducePow, Nat.zero_add, Nat.add_zero, Nat.reduceAdd, Nat.reduceMul, Nat.reduceSub, xf_same, xq_ff, xq_fo, xf_1, xf_2, xs_1, xs_2, xs_same, xq_so, xj_1, xj_2, xj_same, xq_jo, xq_sa1, xq_same, xq_other, upd_s, oI_n, oI_s, xv_0, xv_1, xv_2, xv_3, xm_p1, xm_p2, xq_fp, xq_fn, List.filter_nil, Nat.reduceBEq, Bool.not_true, Bool.not_false, Bool.and_true, Bool.and_false, Bool.false_and, Bool.true_and, if_true, if_false, Bool.false_eq_true, reduceIte, xc_i, xc_j, xc_r, xc_n, List.nil_append, List.cons_append, Option.toList_some, Option.toList_none, nI_ltJ, nI_leJ, nI_eqJ, nI_ltz, nI_gez, nI_gtz, nI_lez, nI_eqz, m1_ltz, m1_gez, true_imp_iff, false_imp_iff, true_and, and_true, ne_eq, not_false_eq_true, not_true_eq_false, Nat.reduceEqDiff, Nat.reduceLT, Nat.reduceLeDiff, g92, hct2, pf_1 F2 hpp, x1, xf_0_4 F2, pf_4 F2 hpp, x4']
                  with_reducible refine xm_go_blk b_X11_workTape_96 k_X11_workTape_96 ?_
                  refine by_aload_n rfl ?_
                  refine by_getf cn_197 fl_11_71 (by first | exact rfl | assumption) (by decide) ?_
                  simp (disch := first | exact Nat.ne_of_beq_eq_false rfl | exact rfl | omega) only [nI_add, xa_sub, xa_mul, pk_div, nm_mod, xa_shr, xa_and7, xa_and1, xa_and255, xa_by_and, nI_m1, Nat.add_sub_cancel, Nat.reducePow, Nat.zero_add, Nat.add_zero, Nat.reduceAdd, Nat.reduceMul, Nat.reduceSub, xf_same, xq_ff, xq_fo, xf_1, xf_2, xs_1, xs_2, xs_same, xq_so, xj_1, xj_2, xj_same, xq_jo, xq_sa1, xq_same, xq_other, upd_s, oI_n, oI_s, g92, hct2, pf_1 F2 hpp, x1, xf_0_4 F2, pf_4 F2 hpp, x4']
                  refine by_getf cn_197 fl_11_150 (by first | exact rfl | assumption | exact ps_0 hpp) (by decide) ?_
                  refine by_iload rfl ?_
                  simp (disch := first | exact Nat.ne_of_beq_eq_false rfl | exact rfl | omega) only [nI_add, xa_sub, xa_mul, pk_div, nm_mod, xa_shr, xa_and7, xa_and1, xa_and255, xa_by_and, nI_m1, Nat.add_sub_cancel, Nat.reducePow, Nat.zero_add, Nat.add_zero, Nat.reduceAdd, Nat.reduceMul, Nat.reduceSub, xf_same, xq_ff, xq_fo, xf_1, xf_2, xs_1, xs_2, xs_same, xq_so, xj_1, xj_2, xj_same, xq_jo, xq_sa1, xq_same, xq_other, upd_s, oI_n, oI_s, g92, hct2, pf_1 F2 hpp, x1, xf_0_4 F2, pf_4 F2 hpp, x4']
                  first | refine by_iald (by first | exact rfl | assumption | exact ps_1 hpp | exact ps_2 hpp | exact ps_3 hpp | exact ps_4 hpp | exact ps_5 hpp | exact ps_6 hpp | exact ps_7 hpp | exact ps_8 hpp | exact ps_9 hpp | exact ps_10 hpp | exact ps_11 hpp | exact ps_15 hpp | exact ps_16 hpp | exact ps_17 hpp | exact ps_18 hpp | exact ps_19 hpp | exact ps_21 hpp | exact ps_22 hpp | exact ps_23 hpp | exact ps_24 hpp) ⟨by omega, by omega⟩ ?_ | refine by_tald rfl rfl ⟨by omega, by omega⟩ ?_
                  refine by_bipush cb_12 ?_
                  refine by_ic_ne 128 rfl ?_
                  simp (disch := first | exact Nat.ne_of_beq_eq_false rfl | exact rfl | omega) only [nI_add, xa_sub, xa_mul, pk_div, nm_mod, xa_shr, xa_and7, xa_and1, xa_and255, xa_by_and, nI_m1, Nat.add_sub_cancel, Nat.reducePow, Nat.zero_add, Nat.add_zero, Nat.reduceAdd, Nat.reduceMul, Nat.reduceSub, xf_same, xq_ff, xq_fo, xf_1, xf_2, xs_1, xs_2, xs_same, xq_so, xj_1, xj_2, xj_same, xq_jo, xq_sa1, xq_same, xq_other, upd_s, oI_n, oI_s, xv_0, xv_1, xv_2, xv_3, xm_p1, xm_p2, xq_fp, xq_fn, List.filter_nil, Nat.reduceBEq, Bool.not_true, Bool.not_false, Bool.and_true, Bool.and_false, Bool.false_and, Bool.true_and, if_true, if_false, Bool.false_eq_true, reduceIte, xc_i, xc_j, xc_r, xc_n, List.nil_append, List.cons_append, Option.toList_some, Option.toList_none, nI_ltJ, nI_leJ, nI_eqJ, nI_ltz, nI_gez, nI_gtz, nI_lez, nI_eqz, m1_ltz, m1_gez, true_imp_iff, false_imp_iff, true_and, and_true, ne_eq, not_false_eq_true, not_true_eq_false, Nat.reduceEqDiff, Nat.reduceLT, Nat.reduceLeDiff, g92, hct2, pf_1 F2 hpp, x1, xf_0_4 F2, pf_4 F2 hpp, x4']
                  with_reducible refine xm_go_blk b_X11_workTape_111 k_X11_workTape_111 ?_
                  refine by_aload_n rfl ?_
                  refine by_getf cn_197 fl_11_32 (by first | exact rfl | assumption) (by decide) ?_
                  refine by_aload_n rfl ?_
                  refine by_getf cn_197 fl_11_71 (by first | exact rfl | assumption) (by decide) ?_
                  simp (disch := first | exact Nat.ne_of_beq_eq_false rfl | exact rfl | omega) only [nI_add, xa_sub, xa_mul, pk_div, nm_mod, xa_shr, xa_and7, xa_and1, xa_and255, xa_by_and, nI_m1, Nat.add_sub_cancel, Nat.reducePow, Nat.zero_add, Nat.add_zero, Nat.reduceAdd, Nat.reduceMul, Nat.reduceSub, xf_same, xq_ff, xq_fo, xf_1, xf_2, xs_1, xs_2, xs_same, xq_so, xj_1, xj_2, xj_same, xq_jo, xq_sa1, xq_same, xq_other, upd_s, oI_n, oI_s, g92, hct2, pf_1 F2 hpp, x1, xf_0_4 F2, pf_4 F2 hpp, x4']
                  refine by_getf cn_197 fl_11_152 (by first | exact rfl | assumption | exact ps_0 hpp) (by decide) ?_
                  refine by_iload rfl ?_
                  simp (disch := first | exact Nat.ne_of_beq_eq_false rfl | exact rfl | omega) only [nI_add, xa_sub, xa_mul, pk_div, nm_mod, xa_shr, xa_and7, xa_and1, xa_and255, xa_by_and, nI_m1, Nat.add_sub_cancel, Nat.reducePow, Nat.zero_add, Nat.add_zero, Nat.reduceAdd, Nat.reduceMul, Nat.reduceSub, xf_same, xq_ff, xq_fo, xf_1, xf_2, xs_1, xs_2, xs_same, xq_so, xj_1, xj_2, xj_same, xq_jo, xq_sa1, xq_same, xq_other, upd_s, oI_n, oI_s, g92, hct2, pf_1 F2 hpp, x1, xf_0_4 F2, pf_4 F2 hpp, x4']
                  first | refine by_iald (by first | exact rfl | assumption | exact ps_1 hpp | exact ps_2 hpp | exact ps_3 hpp | exact ps_4 hpp | exact ps_5 hpp | exact ps_6 hpp | exact ps_7 hpp | exact ps_8 hpp | exact ps_9 hpp | exact ps_10 hpp | exact ps_11 hpp | exact ps_15 hpp | exact ps_16 hpp | exact ps_17 hpp | exact ps_18 hpp | exact ps_19 hpp | exact ps_21 hpp | exact ps_22 hpp | exact ps_23 hpp | exact ps_24 hpp) ⟨by omega, by omega⟩ ?_ | refine by_tald rfl rfl ⟨by omega, by omega⟩ ?_
                  simp (disch := first | exact Nat.ne_of_beq_eq_false rfl | exact rfl | omega) only [nI_add, xa_sub, xa_mul, pk_div, nm_mod, xa_shr, xa_and7, xa_and1, xa_and255, xa_by_and, nI_m1, Nat.add_sub_cancel, Nat.reducePow, Nat.zero_add, Nat.add_zero, Nat.reduceAdd, Nat.reduceMul, Nat.reduceSub, xf_same, xq_ff, xq_fo, xf_1, xf_2, xs_1, xs_2, xs_same, xq_so, xj_1, xj_2, xj_same, xq_jo, xq_sa1, xq_same, xq_other, upd_s, oI_n, oI_s, xv_0, xv_1, xv_2, xv_3, xm_p1, xm_p2, xq_fp, xq_fn, List.filter_nil, Nat.reduceBEq, Bool.not_true, Bool.not_false, Bool.and_true, Bool.and_false, Bool.false_and, Bool.true_and, if_true, if_false, Bool.false_eq_true, reduceIte, xc_i, xc_j, xc_r, xc_n, List.nil_append, List.cons_append, Option.toList_some, Option.toList_none, g92, hct2, pf_1 F2 hpp, x1, xf_0_4 F2, pf_4 F2 hpp, x4']
                  refine by_inv1 cn_197 lk_11_155 (by rw [xe_cnt]; decide) is_9 np_9 cn_9 (by first | exact rfl | assumption) (Nat.le_of_ble_eq_true rfl) ?_
                  refine sp_define (d := d) hnu F2 I2 (fun h3 G3 c3 p F3 I3 e3 d3 g3 => ?_)
                  with_reducible refine xm_go_blk b_X11_workTape_128 k_X11_workTape_128 ?_
                  refine by_iinc (by rw [ml_197]; decide) rfl ci_1 ?_
                  refine by_goto 80 rfl ?_
                  try simp (disch := first | exact Nat.ne_of_beq_eq_false rfl | exact rfl | omega) only [nI_add, xa_sub, xa_mul, pk_div, nm_mod, xa_shr, xa_and7, xa_and1, xa_and255, xa_by_and, nI_m1, Nat.add_sub_cancel, Nat.reducePow, Nat.zero_add, Nat.add_zero, Nat.reduceAdd, Nat.reduceMul, Nat.reduceSub, xf_same, xq_ff, xq_fo, xf_1, xf_2, xs_1, xs_2, xs_same, xq_so, xj_1, xj_2, xj_same, xq_jo, xq_sa1, xq_same, xq_other, upd_s, oI_n, oI_s, xv_0, xv_1, xv_2, xv_3, xm_p1, xm_p2, xq_fp, xq_fn, List.filter_nil, Nat.reduceBEq, Bool.not_true, Bool.not_false, Bool.and_true, Bool.and_false, Bool.false_and, Bool.true_and, if_true, if_false, Bool.false_eq_true, reduceIte, xc_i, xc_j, xc_r, xc_n, List.nil_append, List.cons_append, Option.toList_some, Option.toList_none]
                  refine xm_go_wk (by simp [Value.category]) (ih (z + 1) h3 G3 c3 (by omega) F3 (dE_tr e2 e3) I3 (fun m hm em => ?_))
                  by_cases hmz : m = z
                  · subst hmz
                    exact ⟨p, d3, g3⟩
                  · obtain ⟨p', y1, y2⟩ := hd m (by omega) em
                    refine ⟨p', ?_, gJ_up y2 e3.2.2.1 e3.2.2.2.1⟩
                    have hne : h2.1 28 (pNu ps m) ≠ 0 := by
                      rw [y1]
                      obtain ⟨F', v', _⟩ := y2
                      have a1 := v'.1
                      have a2 := v'.2.1
                      have a3 := I2.1.1.2.2.1
                      intro hz0
                      rw [nI_eqz (by omega)] at hz0
                      omega
                    rw [e3.2.2.2.2 _ hne]
                    exact y1
                · with_reducible refine xm_go_blk b_X11_workTape_80 k_X11_workTape_80 ?_
                  refine by_iload rfl ?_
                  refine by_aload_n rfl ?_
                  refine by_getf cn_197 fl_11_71 (by first | exact rfl | assumption) (by decide) ?_
                  simp (disch := first | exact Nat.ne_of_beq_eq_false rfl | exact rfl | omega) only [nI_add, xa_sub, xa_mul, pk_div, nm_mod, xa_shr, xa_and7, xa_and1, xa_and255, xa_by_and, nI_m1, Nat.add_sub_cancel, Nat.reducePow, Nat.zero_add, Nat.add_zero, Nat.reduceAdd, Nat.reduceMul, Nat.reduceSub, xf_same, xq_ff, xq_fo, xf_1, xf_2, xs_1, xs_2, xs_same, xq_so, xj_1, xj_2, xj_same, xq_jo, xq_sa1, xq_same, xq_other, upd_s, oI_n, oI_s, g92, hct2, pf_1 F2 hpp, x1]
                  refine by_getf cn_197 fl_11_119 (by first | exact rfl | assumption | exact ps_0 hpp) (by decide) ?_
                  simp (disch := first | exact Nat.ne_of_beq_eq_false rfl | exact rfl | omega) only [nI_add, xa_sub, xa_mul, pk_div, nm_mod, xa_shr, xa_and7, xa_and1, xa_and255, xa_by_and, nI_m1, Nat.add_sub_cancel, Nat.reducePow, Nat.zero_add, Nat.add_zero, Nat.reduceAdd, Nat.reduceMul, Nat.reduceSub, xf_same, xq_ff, xq_fo, xf_1, xf_2, xs_1, xs_2, xs_same, xq_so, xj_1, xj_2, xj_same, xq_jo, xq_sa1, xq_same, xq_other, upd_s, oI_n, oI_s, g92, hct2, pf_1 F2 hpp, x1]
                  refine by_ic_ge 134 rfl ?_
                  simp (disch := first | exact Nat.ne_of_beq_eq_false rfl | exact rfl | omega) only [nI_add, xa_sub, xa_mul, pk_div, nm_mod, xa_shr, xa_and7, xa_and1, xa_and255, xa_by_and, nI_m1, Nat.add_sub_cancel, Nat.reducePow, Nat.zero_add, Nat.add_zero, Nat.reduceAdd, Nat.reduceMul, Nat.reduceSub, xf_same, xq_ff, xq_fo, xf_1, xf_2, xs_1, xs_2, xs_same, xq_so, xj_1, xj_2, xj_same, xq_jo, xq_sa1, xq_same, xq_other, upd_s, oI_n, oI_s, xv_0, xv_1, xv_2, xv_3, xm_p1, xm_p2, xq_fp, xq_fn, List.filter_nil, Nat.reduceBEq, Bool.not_true, Bool.not_false, Bool.and_true, Bool.and_false, Bool.false_and, Bool.true_and, if_true, if_false, Bool.false_eq_true, reduceIte, xc_i, xc_j, xc_r, xc_n, List.nil_append, List.cons_append, Option.toList_some, Option.toList_none, nI_ltJ, nI_leJ, nI_eqJ, nI_ltz, nI_gez, nI_gtz, nI_lez, nI_eqz, m1_ltz, m1_gez, true_imp_iff, false_imp_iff, true_and, and_true, ne_eq, not_false_eq_true, not_true_eq_false, Nat.reduceEqDiff, Nat.reduceLT, Nat.reduceLeDiff, g92, hct2, pf_1 F2 hpp, x1]
                  refine ⟨fun c => absurd c (by omega), fun c80 => ?_⟩
                  with_reducible refine xm_go_blk b_X11_workTape_92 k_X11_workTape_92 ?_
                  refine by_iload_n rfl ?_
                  refine by_if_eq 134 rfl ?_
                  simp (disch := first | exact Nat.ne_of_beq_eq_false rfl | exact rfl | omega) only [nI_add, xa_sub, xa_mul, pk_div, nm_mod, xa_shr, xa_and7, xa_and1, xa_and255, xa_by_and, nI_m1, Nat.add_sub_cancel, Nat.reducePow, Nat.zero_add, Nat.add_zero, Nat.reduceAdd, Nat.reduceMul, Nat.reduceSub, xf_same, xq_ff, xq_fo, xf_1, xf_2, xs_1, xs_2, xs_same, xq_so, xj_1, xj_2, xj_same, xq_jo, xq_sa1, xq_same, xq_other, upd_s, oI_n, oI_s, xv_0, xv_1, xv_2, xv_3, xm_p1, xm_p2, xq_fp, xq_fn, List.filter_nil, Nat.reduceBEq, Bool.not_true, Bool.not_false, Bool.and_true, Bool.and_false, Bool.false_and, Bool.true_and, if_true, if_false, Bool.false_eq_true, reduceIte, xc_i, xc_j, xc_r, xc_n, List.nil_append, List.cons_append, Option.toList_some, Option.toList_none, nI_ltJ, nI_leJ, nI_eqJ, nI_ltz, nI_gez, nI_gtz, nI_lez, nI_eqz, m1_ltz, m1_gez, true_imp_iff, false_imp_iff, true_and, and_true, ne_eq, not_false_eq_true, not_true_eq_false, Nat.reduceEqDiff, Nat.reduceLT, Nat.reduceLeDiff, g92, hct2, pf_1 F2 hpp, x1]
                  with_reducible refine xm_go_blk b_X11_workTape_96 k_X11_workTape_96 ?_
                  refine by_aload_n rfl ?_
                  refine by_getf cn_197 fl_11_71 (by first | exact rfl | assumption) (by decide) ?_
                  simp (disch := first | exact Nat.ne_of_beq_eq_false rfl | exact rfl | omega) only [nI_add, xa_sub, xa_mul, pk_div, nm_mod, xa_shr, xa_and7, xa_and1, xa_and255, xa_by_and, nI_m1, Nat.add_sub_cancel, Nat.reducePow, Nat.zero_add, Nat.add_zero, Nat.reduceAdd, Nat.reduceMul, Nat.reduceSub, xf_same, xq_ff, xq_fo, xf_1, xf_2, xs_1, xs_2, xs_same, xq_so, xj_1, xj_2, xj_same, xq_jo, xq_sa1, xq_same, xq_other, upd_s, oI_n, oI_s, g92, hct2, pf_1 F2 hpp, x1]
                  refine by_getf cn_197 fl_11_150 (by first | exact rfl | assumption | exact ps_0 hpp) (by decide) ?_
                  refine by_iload rfl ?_
                  simp (disch := first | exact Nat.ne_of_beq_eq_false rfl | exact rfl | omega) only [nI_add, xa_sub, xa_mul, pk_div, nm_mod, xa_shr, xa_and7, xa_and1, xa_and255, xa_by_and, nI_m1, Nat.add_sub_cancel, Nat.reducePow, Nat.zero_add, Nat.add_zero, Nat.reduceAdd, Nat.reduceMul, Nat.reduceSub, xf_same, xq_ff, xq_fo, xf_1, xf_2, xs_1, xs_2, xs_same, xq_so, xj_1, xj_2, xj_same, xq_jo, xq_sa1, xq_same, xq_other, upd_s, oI_n, oI_s, g92, hct2, pf_1 F2 hpp, x1]
                  first | refine by_iald (by first | exact rfl | assumption | exact ps_1 hpp | exact ps_2 hpp | exact ps_3 hpp | exact ps_4 hpp | exact ps_5 hpp | exact ps_6 hpp | exact ps_7 hpp | exact ps_8 hpp | exact ps_9 hpp | exact ps_10 hpp | exact ps_11 hpp | exact ps_15 hpp | exact ps_16 hpp | exact ps_17 hpp | exact ps_18 hpp | exact ps_19 hpp | exact ps_21 hpp | exact ps_22 hpp | exact ps_23 hpp | exact ps_24 hpp) ⟨by omega, by omega⟩ ?_ | refine by_tald rfl rfl ⟨by omega, by omega⟩ ?_
                  refine by_bipush cb_12 ?_
                  refine by_ic_ne 128 rfl ?_
                  simp (disch := first | exact Nat.ne_of_beq_eq_false rfl | exact rfl | omega) only [nI_add, xa_sub, xa_mul, pk_div, nm_mod, xa_shr, xa_and7, xa_and1, xa_and255, xa_by_and, nI_m1, Nat.add_sub_cancel, Nat.reducePow, Nat.zero_add, Nat.add_zero, Nat.reduceAdd, Nat.reduceMul, Nat.reduceSub, xf_same, xq_ff, xq_fo, xf_1, xf_2, xs_1, xs_2, xs_same, xq_so, xj_1, xj_2, xj_same, xq_jo, xq_sa1, xq_same, xq_other, upd_s, oI_n, oI_s, xv_0, xv_1, xv_2, xv_3, xm_p1, xm_p2, xq_fp, xq_fn, List.filter_nil, Nat.reduceBEq, Bool.not_true, Bool.not_false, Bool.and_true, Bool.and_false, Bool.false_and, Bool.true_and, if_true, if_false, Bool.false_eq_true, reduceIte, xc_i, xc_j, xc_r, xc_n, List.nil_append, List.cons_append, Option.toList_some, Option.toList_none, nI_ltJ, nI_leJ, nI_eqJ, nI_ltz, nI_gez, nI_gtz, nI_lez, nI_eqz, m1_ltz, m1_gez, true_imp_iff, false_imp_iff, true_and, and_true, ne_eq, not_false_eq_true, not_true_eq_false, Nat.reduceEqDiff, Nat.reduceLT, Nat.reduceLeDiff, g92, hct2, pf_1 F2 hpp, x1]
                  refine ⟨fun c96 => ?_, fun c => absurd (by omega) c⟩
                  with_reducible refine xm_go_blk b_X11_workTape_128 k_X11_workTape_128 ?_
                  refine by_iinc (by rw [ml_197]; decide) rfl ci_1 ?_
                  refine by_goto 80 rfl ?_
                  try simp (disch := first | exact Nat.ne_of_beq_eq_false rfl | exact rfl | omega) only [nI_add, xa_sub, xa_mul, pk_div, nm_mod, xa_shr, xa_and7, xa_and1, xa_and255, xa_by_and, nI_m1, Nat.add_sub_cancel, Nat.reducePow, Nat.zero_add, Nat.add_zero, Nat.reduceAdd, Nat.reduceMul, Nat.reduceSub, xf_same, xq_ff, xq_fo, xf_1, xf_2, xs_1, xs_2, xs_same, xq_so, xj_1, xj_2, xj_same, xq_jo, xq_sa1, xq_same, xq_other, upd_s, oI_n, oI_s, xv_0, xv_1, xv_2, xv_3, xm_p1, xm_p2, xq_fp, xq_fn, List.filter_nil, Nat.reduceBEq, Bool.not_true, Bool.not_false, Bool.and_true, Bool.and_false, Bool.false_and, Bool.true_and, if_true, if_false, Bool.false_eq_true, reduceIte, xc_i, xc_j, xc_r, xc_n, List.nil_append, List.cons_append, Option.toList_some, Option.toList_none, g92, hct2, pf_1 F2 hpp, x1]
                  exact xm_go_wk (by simp [Value.category]) (ih (z + 1) h2 G2 c2 (by omega) F2 e2 I2 (fun m hm em => hd m (Nat.lt_of_le_of_ne (by omega) (fun hmz => e (hmz ▸ em))) em))
            with_reducible refine xm_go_blk b_X11_workTape_70 k_X11_workTape_70 ?_
            refine by_iload_n rfl ?_
            refine by_ic_le 77 rfl ?_
            simp (disch := first | exact Nat.ne_of_beq_eq_false rfl | exact rfl | omega) only [nI_add, xa_sub, xa_mul, pk_div, nm_mod, xa_shr, xa_and7, xa_and1, xa_and255, xa_by_and, nI_m1, Nat.add_sub_cancel, Nat.reducePow, Nat.zero_add, Nat.add_zero, Nat.reduceAdd, Nat.reduceMul, Nat.reduceSub, xf_same, xq_ff, xq_fo, xf_1, xf_2, xs_1, xs_2, xs_same, xq_so, xj_1, xj_2, xj_same, xq_jo, xq_sa1, xq_same, xq_other, upd_s, oI_n, oI_s, xv_0, xv_1, xv_2, xv_3, xm_p1, xm_p2, xq_fp, xq_fn, List.filter_nil, Nat.reduceBEq, Bool.not_true, Bool.not_false, Bool.and_true, Bool.and_false, Bool.false_and, Bool.true_and, if_true, if_false, Bool.false_eq_true, reduceIte, xc_i, xc_j, xc_r, xc_n, List.nil_append, List.cons_append, Option.toList_some, Option.toList_none, nI_ltJ, nI_leJ, nI_eqJ, nI_ltz, nI_gez, nI_gtz, nI_lez, nI_eqz, m1_ltz, m1_gez, true_imp_iff, false_imp_iff, true_and, and_true, ne_eq, not_false_eq_true, not_true_eq_false, Nat.reduceEqDiff, Nat.reduceLT, Nat.reduceLeDiff]
            refine ⟨fun c70 => ?_, fun c => absurd (by omega) c⟩
            with_reducible refine xm_go_blk b_X11_workTape_77 k_X11_workTape_77 ?_
            refine by_iconst ci_0 ?_
            refine by_istore (by rw [ml_197]; decide) ?_
            refine by_nil ?_
            try simp (disch := first | exact Nat.ne_of_beq_eq_false rfl | exact rfl | omega) only [nI_add, xa_sub, xa_mul, pk_div, nm_mod, xa_shr, xa_and7, xa_and1, xa_and255, xa_by_and, nI_m1, Nat.add_sub_cancel, Nat.reducePow, Nat.zero_add, Nat.add_zero, Nat.reduceAdd, Nat.reduceMul, Nat.reduceSub, xf_same, xq_ff, xq_fo, xf_1, xf_2, xs_1, xs_2, xs_same, xq_so, xj_1, xj_2, xj_same, xq_jo, xq_sa1, xq_same, xq_other, upd_s, oI_n, oI_s, xv_0, xv_1, xv_2, xv_3, xm_p1, xm_p2, xq_fp, xq_fn, List.filter_nil, Nat.reduceBEq, Bool.not_true, Bool.not_false, Bool.and_true, Bool.and_false, Bool.false_and, Bool.true_and, if_true, if_false, Bool.false_eq_true, reduceIte, xc_i, xc_j, xc_r, xc_n, List.nil_append, List.cons_append, Option.toList_some, Option.toList_none]
            exact xm_go_wk (by simp [Value.category]) (key ps.length 0 h1 G c (by omega) F1 dE_rf I1 (fun m hm => by omega))
  · rw [ti] at hv
    have F1 : XF h1 := Fr_XF hF f1 (by rcases hpp with rfl | rfl <;> decide +kernel)
    with_reducible refine xm_go_blk b_X11_workTape_35 k_X11_workTape_35 ?_
    refine by_if_ne 41 rfl ?_
    simp (disch := first | exact Nat.ne_of_beq_eq_false rfl | exact rfl | omega) only [nI_add, xa_sub, xa_mul, pk_div, nm_mod, xa_shr, xa_and7, xa_and1, xa_and255, xa_by_and, nI_m1, Nat.add_sub_cancel, Nat.reducePow, Nat.zero_add, Nat.add_zero, Nat.reduceAdd, Nat.reduceMul, Nat.reduceSub, xf_same, xq_ff, xq_fo, xf_1, xf_2, xs_1, xs_2, xs_same, xq_so, xj_1, xj_2, xj_same, xq_jo, xq_sa1, xq_same, xq_other, upd_s, oI_n, oI_s, xv_0, xv_1, xv_2, xv_3, xm_p1, xm_p2, xq_fp, xq_fn, List.filter_nil, Nat.reduceBEq, Bool.not_true, Bool.not_false, Bool.and_true, Bool.and_false, Bool.false_and, Bool.true_and, if_true, if_false, Bool.false_eq_true, reduceIte, xc_i, xc_j, xc_r, xc_n, List.nil_append, List.cons_append, Option.toList_some, Option.toList_none, nI_ltJ, nI_leJ, nI_eqJ, nI_ltz, nI_gez, nI_gtz, nI_lez, nI_eqz, m1_ltz, m1_gez, true_imp_iff, false_imp_iff, true_and, and_true, ne_eq, not_false_eq_true, not_true_eq_false, Nat.reduceEqDiff, Nat.reduceLT, Nat.reduceLeDiff]
    with_reducible refine xm_go_blk b_X11_workTape_38 k_X11_workTape_38 ?_
    refine by_bipush cb_m4 ?_
    refine by_iret ry_197 (by first | rfl | assumption) ?_
    exact p4 hv h1 F1 (Fr_tr (Fr_rf (S := wsR pp) (T := wsT pp)) f1 (by simp [wsR]) (by simp [wsT])) (wKp_fr f1 hs1) (dI_fr hI f1 (fun r hr => nr r (by simp at hr; omega)) (nt _ (by decide)))
end WT
