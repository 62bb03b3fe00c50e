/-! ===== say: the class's copies ===== -/
section SY
variable {sc : xm_Sc} {d pp n c nh p W i : Nat} {t L : List Nat} {NL : List (List Nat × Nat)} {G : sG} {st : List (Option Nat)} {hx : Nat → Nat} {h h' : xm_H} {post : xm_Po}
theorem sp_addCopy {m : Nat} {a b : Int32} (hF : XF h) (hpp : pp = 52 ∨ pp = 77) (hn : n < 2000) (hm : m < n) (hc : h.2.2 pp 0 = .int (nI n))
    (hp : ∀ h', Fr (paR pp) [(pp, 0)] h h' → h'.2.2 pp 0 = .int (nI (n + 1)) → h'.1 (pp + 1) n = h.1 (pp + 1) m → h'.1 (pp + 2) n = a → h'.1 (pp + 3) n = b → h'.1 (pp + 4) n = h.1 (pp + 4) m → h'.1 (pp + 5) n = h.1 (pp + 5) m → (∀ r k, r ∈ paR pp → k ≠ n → h'.1 r k = h.1 r k) → post none h') : xm_T (XE sc) (d + 2) 99 [.ref pp, .int (nI m), .int a, .int b] h post := by
  have qf : xt_fin.all (fun q => !([(pp, 0)].contains (q.1, q.2.1))) = true := by rcases hpp with rfl | rfl <;> decide +kernel
  refine xq_in rfl ?_
  simp only [xq_a0, xq_aI, xq_aJ, xq_aR, Nat.reduceAdd]
  with_reducible refine xm_go_blk b_X6_addCopy_0 k_X6_addCopy_0 ?_
  refine by_aload_n rfl ?_
  refine by_aload_n rfl ?_
  refine by_getf cn_99 fl_6_9 (by first | exact rfl | assumption | exact ps_0 hpp) (by decide) ?_
  refine by_iload_n rfl ?_
  simp (disch := first | exact Nat.ne_of_beq_eq_false rfl | exact rfl | omega) only [nI_add, xa_sub, xa_mul, pk_div, nm_mod, xa_shr, xa_and7, xa_and1, xa_and255, xa_by_and, nI_m1, Nat.add_sub_cancel, Nat.reducePow, Nat.zero_add, Nat.add_zero, Nat.reduceAdd, Nat.reduceMul, Nat.reduceSub, xf_same, xq_ff, xq_fo, xf_1, xf_2, xs_1, xs_2, xs_same, xq_so, xj_1, xj_2, xj_same, xq_jo, xq_sa1, xq_same, xq_other, upd_s, oI_n, oI_s, pf_1 hF hpp]
  first | refine by_iald (by first | exact rfl | assumption | exact ps_1 hpp | exact ps_2 hpp | exact ps_3 hpp | exact ps_4 hpp | exact ps_5 hpp | exact ps_6 hpp | exact ps_7 hpp | exact ps_8 hpp | exact ps_9 hpp | exact ps_10 hpp | exact ps_11 hpp | exact ps_15 hpp | exact ps_16 hpp | exact ps_17 hpp | exact ps_18 hpp | exact ps_19 hpp | exact ps_21 hpp | exact ps_22 hpp | exact ps_23 hpp | exact ps_24 hpp) ⟨by omega, by omega⟩ ?_ | refine by_tald rfl rfl ⟨by omega, by omega⟩ ?_
  simp (disch := first | exact Nat.ne_of_beq_eq_false rfl | exact rfl | omega) only [nI_add, xa_sub, xa_mul, pk_div, nm_mod, xa_shr, xa_and7, xa_and1, xa_and255, xa_by_and, nI_m1, Nat.add_sub_cancel, Nat.reducePow, Nat.zero_add, Nat.add_zero, Nat.reduceAdd, Nat.reduceMul, Nat.reduceSub, xf_same, xq_ff, xq_fo, xf_1, xf_2, xs_1, xs_2, xs_same, xq_so, xj_1, xj_2, xj_same, xq_jo, xq_sa1, xq_same, xq_other, upd_s, oI_n, oI_s, xv_0, xv_1, xv_2, xv_3, xm_p1, xm_p2, xq_fp, xq_fn, List.filter_nil, Nat.reduceBEq, Bool.not_true, Bool.not_false, Bool.and_true, Bool.and_false, Bool.false_and, Bool.true_and, if_true, if_false, Bool.false_eq_true, reduceIte, xc_i, xc_j, xc_r, xc_n, List.nil_append, List.cons_append, Option.toList_some, Option.toList_none, pf_1 hF hpp]
  refine by_inv1 cn_99 lk_6_69 (by rw [xe_cnt]; decide) is_98 np_98 cn_98 (by first | exact rfl | assumption | exact ps_0 hpp) (Nat.le_of_ble_eq_true rfl) ?_
  refine sp_padd hF hpp hn hc (fun h1 f1 c1 g1 g2 g3 g4 g5 go => ?_)
  have F1 := Fr_XF hF f1 qf
  have r4 : h1.1 (pp + 4) m = h.1 (pp + 4) m := go _ m (by simp) (by omega)
  have r5 : h1.1 (pp + 5) m = h.1 (pp + 5) m := go _ m (by simp) (by omega)
  with_reducible refine xm_go_blk b_X6_addCopy_10 k_X6_addCopy_10 ?_
  refine by_istore (by rw [ml_99]; decide) ?_
  refine by_aload_n rfl ?_
  refine by_getf cn_99 fl_6_15 (by first | exact rfl | assumption | exact ps_0 hpp) (by decide) ?_
  refine by_iload rfl ?_
  refine by_iload_n rfl ?_
  simp (disch := first | exact Nat.ne_of_beq_eq_false rfl | exact rfl | omega) only [nI_add, xa_sub, xa_mul, pk_div, nm_mod, xa_shr, xa_and7, xa_and1, xa_and255, xa_by_and, nI_m1, Nat.add_sub_cancel, Nat.reducePow, Nat.zero_add, Nat.add_zero, Nat.reduceAdd, Nat.reduceMul, Nat.reduceSub, xf_same, xq_ff, xq_fo, xf_1, xf_2, xs_1, xs_2, xs_same, xq_so, xj_1, xj_2, xj_same, xq_jo, xq_sa1, xq_same, xq_other, upd_s, oI_n, oI_s, pf_2 F1 hpp, pf_3 F1 hpp, pf_4 F1 hpp, pf_5 F1 hpp, r4, r5]
  refine by_iast (by first | exact rfl | assumption | exact ps_1 hpp | exact ps_2 hpp | exact ps_3 hpp | exact ps_4 hpp | exact ps_5 hpp | exact ps_6 hpp | exact ps_7 hpp | exact ps_8 hpp | exact ps_9 hpp | exact ps_10 hpp | exact ps_11 hpp | exact ps_15 hpp | exact ps_16 hpp | exact ps_17 hpp | exact ps_18 hpp | exact ps_19 hpp | exact ps_21 hpp | exact ps_22 hpp | exact ps_23 hpp | exact ps_24 hpp) ⟨by omega, by omega⟩ ?_
  refine by_aload_n rfl ?_
  refine by_getf cn_99 fl_6_18 (by first | exact rfl | assumption | exact ps_0 hpp) (by decide) ?_
  refine by_iload rfl ?_
  refine by_iload_n rfl ?_
  simp (disch := first | exact Nat.ne_of_beq_eq_false rfl | exact rfl | omega) only [nI_add, xa_sub, xa_mul, pk_div, nm_mod, xa_shr, xa_and7, xa_and1, xa_and255, xa_by_and, nI_m1, Nat.add_sub_cancel, Nat.reducePow, Nat.zero_add, Nat.add_zero, Nat.reduceAdd, Nat.reduceMul, Nat.reduceSub, xf_same, xq_ff, xq_fo, xf_1, xf_2, xs_1, xs_2, xs_same, xq_so, xj_1, xj_2, xj_same, xq_jo, xq_sa1, xq_same, xq_other, upd_s, oI_n, oI_s, pf_2 F1 hpp, pf_3 F1 hpp, pf_4 F1 hpp, pf_5 F1 hpp, r4, r5]
  refine by_iast (by first | exact rfl | assumption | exact ps_1 hpp | exact ps_2 hpp | exact ps_3 hpp | exact ps_4 hpp | exact ps_5 hpp | exact ps_6 hpp | exact ps_7 hpp | exact ps_8 hpp | exact ps_9 hpp | exact ps_10 hpp | exact ps_11 hpp | exact ps_15 hpp | exact ps_16 hpp | exact ps_17 hpp | exact ps_18 hpp | exact ps_19 hpp | exact ps_21 hpp | exact ps_22 hpp | exact ps_23 hpp | exact ps_24 hpp) ⟨by omega, by omega⟩ ?_
  refine by_aload_n rfl ?_
  refine by_getf cn_99 fl_6_21 (by first | exact rfl | assumption | exact ps_0 hpp) (by decide) ?_
  refine by_iload rfl ?_
  refine by_aload_n rfl ?_
  refine by_getf cn_99 fl_6_21 (by first | exact rfl | assumption | exact ps_0 hpp) (by decide) ?_
  refine by_iload_n rfl ?_
  simp (disch := first | exact Nat.ne_of_beq_eq_false rfl | exact rfl | omega) only [nI_add, xa_sub, xa_mul, pk_div, nm_mod, xa_shr, xa_and7, xa_and1, xa_and255, xa_by_and, nI_m1, Nat.add_sub_cancel, Nat.reducePow, Nat.zero_add, Nat.add_zero, Nat.reduceAdd, Nat.reduceMul, Nat.reduceSub, xf_same, xq_ff, xq_fo, xf_1, xf_2, xs_1, xs_2, xs_same, xq_so, xj_1, xj_2, xj_same, xq_jo, xq_sa1, xq_same, xq_other, upd_s, oI_n, oI_s, pf_2 F1 hpp, pf_3 F1 hpp, pf_4 F1 hpp, pf_5 F1 hpp, r4, r5]
  first | refine by_iald (by first | exact rfl | assumption | exact ps_1 hpp | exact ps_2 hpp | exact ps_3 hpp | exact ps_4 hpp | exact ps_5 hpp | exact ps_6 hpp | exact ps_7 hpp | exact ps_8 hpp | exact ps_9 hpp | exact ps_10 hpp | exact ps_11 hpp | exact ps_15 hpp | exact ps_16 hpp | exact ps_17 hpp | exact ps_18 hpp | exact ps_19 hpp | exact ps_21 hpp | exact ps_22 hpp | exact ps_23 hpp | exact ps_24 hpp) ⟨by omega, by omega⟩ ?_ | refine by_tald rfl rfl ⟨by omega, by omega⟩ ?_
  refine by_iast (by first | exact rfl | assumption | exact ps_1 hpp | exact ps_2 hpp | exact ps_3 hpp | exact ps_4 hpp | exact ps_5 hpp | exact ps_6 hpp | exact ps_7 hpp | exact ps_8 hpp | exact ps_9 hpp | exact ps_10 hpp | exact ps_11 hpp | exact ps_15 hpp | exact ps_16 hpp | exact ps_17 hpp | exact ps_18 hpp | exact ps_19 hpp | exact ps_21 hpp | exact ps_22 hpp | exact ps_23 hpp | exact ps_24 hpp) ⟨by omega, by omega⟩ ?_
  refine by_aload_n rfl ?_
  refine by_getf cn_99 fl_6_24 (by first | exact rfl | assumption | exact ps_0 hpp) (by decide) ?_
  refine by_iload rfl ?_
  refine by_aload_n rfl ?_
  refine by_getf cn_99 fl_6_24 (by first | exact rfl | assumption | exact ps_0 hpp) (by decide) ?_
  refine by_iload_n rfl ?_
  simp (disch := first | exact Nat.ne_of_beq_eq_false rfl | exact rfl | omega) only [nI_add, xa_sub, xa_mul, pk_div, nm_mod, xa_shr, xa_and7, xa_and1, xa_and255, xa_by_and, nI_m1, Nat.add_sub_cancel, Nat.reducePow, Nat.zero_add, Nat.add_zero, Nat.reduceAdd, Nat.reduceMul, Nat.reduceSub, xf_same, xq_ff, xq_fo, xf_1, xf_2, xs_1, xs_2, xs_same, xq_so, xj_1, xj_2, xj_same, xq_jo, xq_sa1, xq_same, xq_other, upd_s, oI_n, oI_s, pf_2 F1 hpp, pf_3 F1 hpp, pf_4 F1 hpp, pf_5 F1 hpp, r4, r5]
  first | refine by_iald (by first | exact rfl | assumption | exact ps_1 hpp | exact ps_2 hpp | exact ps_3 hpp | exact ps_4 hpp | exact ps_5 hpp | exact ps_6 hpp | exact ps_7 hpp | exact ps_8 hpp | exact ps_9 hpp | exact ps_10 hpp | exact ps_11 hpp | exact ps_15 hpp | exact ps_16 hpp | exact ps_17 hpp | exact ps_18 hpp | exact ps_19 hpp | exact ps_21 hpp | exact ps_22 hpp | exact ps_23 hpp | exact ps_24 hpp) ⟨by omega, by omega⟩ ?_ | refine by_tald rfl rfl ⟨by omega, by omega⟩ ?_
  refine by_iast (by first | exact rfl | assumption | exact ps_1 hpp | exact ps_2 hpp | exact ps_3 hpp | exact ps_4 hpp | exact ps_5 hpp | exact ps_6 hpp | exact ps_7 hpp | exact ps_8 hpp | exact ps_9 hpp | exact ps_10 hpp | exact ps_11 hpp | exact ps_15 hpp | exact ps_16 hpp | exact ps_17 hpp | exact ps_18 hpp | exact ps_19 hpp | exact ps_21 hpp | exact ps_22 hpp | exact ps_23 hpp | exact ps_24 hpp) ⟨by omega, by omega⟩ ?_
  refine by_ret ry_99 ?_
  try simp (disch := first | exact Nat.ne_of_beq_eq_false rfl | exact rfl | omega) only [nI_add, xa_sub, xa_mul, pk_div, nm_mod, xa_shr, xa_and7, xa_and1, xa_and255, xa_by_and, nI_m1, Nat.add_sub_cancel, Nat.reducePow, Nat.zero_add, Nat.add_zero, Nat.reduceAdd, Nat.reduceMul, Nat.reduceSub, xf_same, xq_ff, xq_fo, xf_1, xf_2, xs_1, xs_2, xs_same, xq_so, xj_1, xj_2, xj_same, xq_jo, xq_sa1, xq_same, xq_other, upd_s, oI_n, oI_s, pf_2 F1 hpp, pf_3 F1 hpp, pf_4 F1 hpp, pf_5 F1 hpp, r4, r5]
  refine hp _ (Fr_si (Fr_si (Fr_si (Fr_si f1 (by simp)) (by simp)) (by simp)) (by simp)) (by simpa [xm_si] using c1) ?_ ?_ ?_ ?_ ?_ (fun r k hr hk => ?_)
  · simp [xm_si, upd]
    exact g1
  · simp [xm_si, upd]
  · simp [xm_si, upd]
  · simp [xm_si, upd]
  · simp [xm_si, upd]
  · rw [← go r k hr hk]
    simp only [List.mem_cons, List.not_mem_nil, or_false] at hr
    rcases hr with rfl | rfl | rfl | rfl | rfl <;> simp [xm_si, upd, hk]
theorem sCp_s {x : Nat} (hx : x < sCt G + i) : sCd (sCp G L (i + 1)) x = sCd (sCp G L i) x ∧ sC1 (sCp G L (i + 1)) x = sC1 (sCp G L i) x ∧ sC2 (sCp G L (i + 1)) x = sC2 (sCp G L i) x ∧ sNu (sCp G L (i + 1)) x = sNu (sCp G L i) x ∧ sLn (sCp G L (i + 1)) x = sLn (sCp G L i) x ∧ sHw (sCp G L (i + 1)) x = sHw (sCp G L i) x := by
  by_cases e : x < sCt G
  · obtain ⟨a1, a2, a3, a4, a5, a6⟩ := sCp_o (G := G) (L := L) (k := i + 1) (Or.inl e)
    obtain ⟨b1, b2, b3, b4, b5, b6⟩ := sCp_o (G := G) (L := L) (k := i) (Or.inl e)
    exact ⟨a1.trans b1.symm, a2.trans b2.symm, a3.trans b3.symm, a4.trans b4.symm, a5.trans b5.symm, a6.trans b6.symm⟩
  · obtain ⟨j, rfl⟩ : ∃ j, x = sCt G + j := ⟨x - sCt G, by omega⟩
    obtain ⟨a1, a2, a3, a4, a5, a6⟩ := sCp_n (G := G) (L := L) (k := i + 1) (i := j) (by omega)
    obtain ⟨b1, b2, b3, b4, b5, b6⟩ := sCp_n (G := G) (L := L) (k := i) (i := j) (by omega)
    exact ⟨a1.trans b1.symm, a2.trans b2.symm, a3.trans b3.symm, a4.trans b4.symm, a5.trans b5.symm, a6.trans b6.symm⟩
theorem cG0_cp (hg : cG0 h pp (sCp G L i) hx nh) (ho : L.getD i 0 < sCt G) (e1 : h'.1 (pp + 1) (sCt G + i) = h.1 (pp + 1) (L.getD i 0)) (e2 : h'.1 (pp + 2) (sCt G + i) = oI ((sC1 G (L.getD i 0)).map (fun y => sCt G + ixF L y))) (e3 : h'.1 (pp + 3) (sCt G + i) = oI ((sC2 G (L.getD i 0)).map (fun y => sCt G + ixF L y))) (e4 : h'.1 (pp + 4) (sCt G + i) = h.1 (pp + 4) (L.getD i 0)) (e5 : h'.1 (pp + 5) (sCt G + i) = h.1 (pp + 5) (L.getD i 0)) (go : ∀ r k, r ∈ paR pp → k ≠ sCt G + i → h'.1 r k = h.1 r k) (e11 : h'.1 (pp + 11) = h.1 (pp + 11)) : cG0 h' pp (sCp G L (i + 1)) (sUp hx (sCt G + i) (hx (L.getD i 0))) nh := by
  intro m hm
  have hm : m < sCt G + (i + 1) := hm
  by_cases e : m = sCt G + i
  · subst e
    obtain ⟨a1, a2, a3, a4, a5, a6⟩ := hg (L.getD i 0) (by show _ < sCt G + i; omega)
    obtain ⟨b1, b2, b3, b4, b5, b6⟩ := sCp_o (G := G) (L := L) (k := i) (Or.inl ho)
    obtain ⟨c1, c2, c3, c4, c5, c6⟩ := sCp_n (G := G) (L := L) (k := i + 1) (Nat.lt_succ_self i)
    rw [b1] at a1 a5 a6
    rw [b4] at a5
    rw [b5] at a4
    rw [b6] at a6
    rw [c1, c2, c3, c4, c5, c6, sUp_s, e1, e2, e3, e4, e5, e11]
    exact ⟨a1, rfl, rfl, a4, a5, a6⟩
  · obtain ⟨a1, a2, a3, a4, a5, a6⟩ := hg m (by show _ < sCt G + i; omega)
    obtain ⟨c1, c2, c3, c4, c5, c6⟩ := sCp_s (G := G) (L := L) (i := i) (x := m) (by omega)
    rw [c1, c2, c3, c4, c5, c6, sUp_o _ _ e, go _ m (by simp) e, go _ m (by simp) e, go _ m (by simp) e, go _ m (by simp) e, go _ m (by simp) e, e11]
    exact ⟨a1, a2, a3, a4, a5, a6⟩
abbrev rnR (pp : Nat) : List Nat := [8, 9, 10, 11, pp + 1, pp + 2, pp + 3, pp + 4, pp + 5]
abbrev rnT (pp : Nat) : List (Nat × Nat) := [(7, 2), (7, 9), (46, 0), (46, 16), (pp, 0)]
theorem sp_renew {old wh : Nat} {rk : Nat → Nat} {M : Nat} (hF : XF h) (hpp : pp = 52 ∨ pp = 77) (h10 : h.2.2 46 10 = .ref pp) (hO : ordI h W) (hW : W < 1000000) (hd : sOK t G st rk M) (hold : old < sCt G) (hoq : old ∉ stl st) (hg : ckG h pp G nh)
    (hB : 2000 < sCt G + (dfL (sC1 G) (sC2 G) old).length → ∀ h', Fr (rnR pp) (rnT pp) h h' → ordI h' (W + 1) → h'.2.2 46 16 = .int (nI 3) → h'.2.2 46 0 = .int (nI wh) → post (some (.int (-1))) h')
    (hG : ¬ 2000 < sCt G + (dfL (sC1 G) (sC2 G) old).length → ∀ h', Fr (rnR pp) (rnT pp) h h' → ordI h' (W + 1) → ckG h' pp (sCp G (dfL (sC1 G) (sC2 G) old) (dfL (sC1 G) (sC2 G) old).length) nh → h'.2.2 46 16 = h.2.2 46 16 → h'.2.2 46 0 = h.2.2 46 0 → post (some (.int (nI (sCt G + (dfL (sC1 G) (sC2 G) old).length - 1)))) h') : xm_T (XE sc) (d + 3) 157 [.ref 46, .int (nI old), .int (nI wh)] h post := by
  obtain ⟨g1, g2, hx, g3⟩ := hg
  have hN := hd.1
  have qq : (46, 10) ∉ rnT pp ∧ 8 ∉ paR pp ∧ 9 ∉ paR pp ∧ 10 ∉ paR pp ∧ pp + 1 ∉ ([8, 9, 10, 11] : List Nat) ∧ pp + 2 ∉ ([8, 9, 10, 11] : List Nat) ∧ pp + 3 ∉ ([8, 9, 10, 11] : List Nat) ∧ pp + 4 ∉ ([8, 9, 10, 11] : List Nat) ∧ pp + 5 ∉ ([8, 9, 10, 11] : List Nat) ∧ pp + 11 ∉ ([8, 9, 10, 11] : List Nat) ∧ (pp, 0) ∉ ([(7, 2), (7, 9)] : List (Nat × Nat)) ∧ (7, 2) ∉ [(pp, 0)] ∧ (7, 9) ∉ [(pp, 0)] ∧ pp + 11 ∉ paR pp ∧ (46, 10) ∉ [(pp, 0)] ∧ (46, 0) ∉ [(pp, 0)] ∧ (46, 16) ∉ [(pp, 0)] ∧ (pp, 15) ∉ [(pp, 0)] ∧ (pp, 15) ∉ ([(7, 2), (7, 9)] : List (Nat × Nat)) := by rcases hpp with rfl | rfl <;> (repeat' apply And.intro) <;> decide
  obtain ⟨q0, q8, q9, q10, r1, r2, r3, r4, r5, r11, s0, s72, s79, s11, s10, s00, s16, s15, s15b⟩ := qq
  have qf : xt_fin.all (fun q => !((rnT pp).contains (q.1, q.2.1))) = true := by rcases hpp with rfl | rfl <;> decide +kernel
  refine xq_in rfl ?_
  simp only [xq_a0, xq_aI, xq_aJ, xq_aR, Nat.reduceAdd]
  with_reducible refine xm_go_blk b_X9_renew_0 k_X9_renew_0 ?_
  refine by_aload_n rfl ?_
  refine by_getf cn_157 fl_9_28 (by first | exact rfl | assumption) (by decide) ?_
  refine by_aload_n rfl ?_
  refine by_getf cn_157 fl_9_36 (by first | exact rfl | assumption) (by decide) ?_
  refine by_iload_n rfl ?_
  simp (disch := first | exact Nat.ne_of_beq_eq_false rfl | exact rfl | omega) only [nI_add, xa_sub, xa_mul, pk_div, nm_mod, xa_shr, xa_and7, xa_and1, xa_and255, xa_by_and, nI_m1, Nat.add_sub_cancel, Nat.reducePow, Nat.zero_add, Nat.add_zero, Nat.reduceAdd, Nat.reduceMul, Nat.reduceSub, xf_same, xq_ff, xq_fo, xf_1, xf_2, xs_1, xs_2, xs_same, xq_so, xj_1, xj_2, xj_same, xq_jo, xq_sa1, xq_same, xq_other, upd_s, oI_n, oI_s, xv_0, xv_1, xv_2, xv_3, xm_p1, xm_p2, xq_fp, xq_fn, List.filter_nil, Nat.reduceBEq, Bool.not_true, Bool.not_false, Bool.and_true, Bool.and_false, Bool.false_and, Bool.true_and, if_true, if_false, Bool.false_eq_true, reduceIte, xc_i, xc_j, xc_r, xc_n, List.nil_append, List.cons_append, Option.toList_some, Option.toList_none, xf_46_1 hF, h10]
  refine by_inv2 cn_157 lk_9_62 (by rw [xe_cnt]; decide) is_97 np_97 cn_97 (by first | exact rfl | assumption) (Nat.le_of_ble_eq_true rfl) ?_
  refine sp_walk (d := d + 1) hpp hF hO.1 hW hO.2 hN hold (fun m hm => (g3 m hm).2.1) (fun m hm => (g3 m hm).2.2.1) (sOK_cN hd) (fun h1 L ho f1 hs hlN hw1 hmm hli hsp => ?_)
  obtain ⟨l1, l2, l3, o9, l4⟩ := sOK_L hd hold hoq ho
  have hl1 : 1 ≤ L.length := by rw [l4, List.length_append]; exact Nat.le_add_left _ _
  rw [dfL_of ho] at hB hG
  have F1 := Fr_XF hF f1 (by decide +kernel)
  have e10 : h1.2.2 46 10 = .ref pp := by rw [f1.2.2 _ _ (by simp)]; exact h10
  have ect : h1.2.2 pp 0 = .int (nI (sCt G)) := by rw [f1.2.2 _ _ s0]; exact g1
  by_cases big : 2000 < sCt G + L.length
  · with_reducible refine xm_go_blk b_X9_renew_12 k_X9_renew_12 ?_
    refine by_aload_n rfl ?_
    refine by_getf cn_157 fl_9_36 (by first | exact rfl | assumption) (by decide) ?_
    simp (disch := first | exact Nat.ne_of_beq_eq_false rfl | exact rfl | omega) only [nI_add, xa_sub, xa_mul, pk_div, nm_mod, xa_shr, xa_and7, xa_and1, xa_and255, xa_by_and, nI_m1, Nat.add_sub_cancel, Nat.reducePow, Nat.zero_add, Nat.add_zero, Nat.reduceAdd, Nat.reduceMul, Nat.reduceSub, xf_same, xq_ff, xq_fo, xf_1, xf_2, xs_1, xs_2, xs_same, xq_so, xj_1, xj_2, xj_same, xq_jo, xq_sa1, xq_same, xq_other, upd_s, oI_n, oI_s, e10, ect, xf_46_1 F1, hs]
    refine by_getf cn_157 fl_9_166 (by first | exact rfl | assumption | exact ps_0 hpp) (by decide) ?_
    refine by_aload_n rfl ?_
    refine by_getf cn_157 fl_9_28 (by first | exact rfl | assumption) (by decide) ?_
    simp (disch := first | exact Nat.ne_of_beq_eq_false rfl | exact rfl | omega) only [nI_add, xa_sub, xa_mul, pk_div, nm_mod, xa_shr, xa_and7, xa_and1, xa_and255, xa_by_and, nI_m1, Nat.add_sub_cancel, Nat.reducePow, Nat.zero_add, Nat.add_zero, Nat.reduceAdd, Nat.reduceMul, Nat.reduceSub, xf_same, xq_ff, xq_fo, xf_1, xf_2, xs_1, xs_2, xs_same, xq_so, xj_1, xj_2, xj_same, xq_jo, xq_sa1, xq_same, xq_other, upd_s, oI_n, oI_s, e10, ect, xf_46_1 F1, hs]
    refine by_getf cn_157 fl_9_79 (by first | exact rfl | assumption) (by decide) ?_
    simp (disch := first | exact Nat.ne_of_beq_eq_false rfl | exact rfl | omega) only [nI_add, xa_sub, xa_mul, pk_div, nm_mod, xa_shr, xa_and7, xa_and1, xa_and255, xa_by_and, nI_m1, Nat.add_sub_cancel, Nat.reducePow, Nat.zero_add, Nat.add_zero, Nat.reduceAdd, Nat.reduceMul, Nat.reduceSub, xf_same, xq_ff, xq_fo, xf_1, xf_2, xs_1, xs_2, xs_same, xq_so, xj_1, xj_2, xj_same, xq_jo, xq_sa1, xq_same, xq_other, upd_s, oI_n, oI_s, e10, ect, xf_46_1 F1, hs]
    refine by_iadd ?_
    refine by_sipush cs_2000 ?_
    refine by_ic_le 40 rfl ?_
    simp (disch := first | exact Nat.ne_of_beq_eq_false rfl | exact rfl | omega) only [nI_add, xa_sub, xa_mul, pk_div, nm_mod, xa_shr, xa_and7, xa_and1, xa_and255, xa_by_and, nI_m1, Nat.add_sub_cancel, Nat.reducePow, Nat.zero_add, Nat.add_zero, Nat.reduceAdd, Nat.reduceMul, Nat.reduceSub, xf_same, xq_ff, xq_fo, xf_1, xf_2, xs_1, xs_2, xs_same, xq_so, xj_1, xj_2, xj_same, xq_jo, xq_sa1, xq_same, xq_other, upd_s, oI_n, oI_s, xv_0, xv_1, xv_2, xv_3, xm_p1, xm_p2, xq_fp, xq_fn, List.filter_nil, Nat.reduceBEq, Bool.not_true, Bool.not_false, Bool.and_true, Bool.and_false, Bool.false_and, Bool.true_and, if_true, if_false, Bool.false_eq_true, reduceIte, xc_i, xc_j, xc_r, xc_n, List.nil_append, List.cons_append, Option.toList_some, Option.toList_none, nI_ltJ, nI_leJ, nI_eqJ, nI_ltz, nI_gez, nI_gtz, nI_lez, nI_eqz, m1_ltz, m1_gez, true_imp_iff, false_imp_iff, true_and, and_true, ne_eq, not_false_eq_true, not_true_eq_false, Nat.reduceEqDiff, Nat.reduceLT, Nat.reduceLeDiff, e10, ect, xf_46_1 F1, hs]
    refine ⟨fun c => absurd c (by omega), fun c12 => ?_⟩
    with_reducible refine xm_go_blk b_X9_renew_33 k_X9_renew_33 ?_
    refine by_aload_n rfl ?_
    refine by_iconst ci_3 ?_
    refine by_iload_n rfl ?_
    refine by_inv2 cn_157 lk_9_110 (by rw [xe_cnt]; decide) is_156 np_156 cn_156 (by first | exact rfl | assumption) (Nat.le_of_ble_eq_true rfl) ?_
    refine sp_refuse ?_
    with_reducible refine xm_go_blk b_X9_renew_39 k_X9_renew_39 ?_
    refine by_iret ry_157 (by first | rfl | assumption) ?_
    exact hB big _ (Fr_sf (Fr_sf (Fr_mo f1 (by simp) (by simp)) (by simp)) (by simp)) ⟨by simpa [xm_sf, updV] using hw1, hmm⟩ (by simp [xm_sf, updV]) (by simp [xm_sf, updV])
  · have key : ∀ (y i : Nat) (g : xm_H), i + y = L.length → Fr (paR pp) [(pp, 0)] h1 g → g.2.2 pp 0 = .int (nI (sCt G + i)) → (∃ hx, cG0 g pp (sCp G L i) hx nh) → xm_go (XE sc) (xm_T (XE sc) (d + 2)) 157 post 51 [(4, .int (nI i)), (3, .int (nI (sCt G))), (0, .ref 46), (1, .int (nI old)), (2, .int (nI wh))] [] g := by
      intro y
      induction y with
      | zero =>
        intro i g hi fg gc gx
        have : i = L.length := by omega
        subst this
        have f2 : Fr (rnR pp) (rnT pp) h g := Fr_tr (Fr_mo f1 (by simp) (by simp)) fg (by simp) (by simp)
        have Fg := Fr_XF hF f2 qf
        have x10 : g.2.2 46 10 = .ref pp := by rw [f2.2.2 _ _ q0]; exact h10
        have xs : g.2.2 7 2 = .int (nI L.length) := by rw [fg.2.2 _ _ s72]; exact hs
        with_reducible refine xm_go_blk b_X9_renew_51 k_X9_renew_51 ?_
        refine by_iload rfl ?_
        refine by_aload_n rfl ?_
        refine by_getf cn_157 fl_9_28 (by first | exact rfl | assumption) (by decide) ?_
        simp (disch := first | exact Nat.ne_of_beq_eq_false rfl | exact rfl | omega) only [nI_add, xa_sub, xa_mul, pk_div, nm_mod, xa_shr, xa_and7, xa_and1, xa_and255, xa_by_and, nI_m1, Nat.add_sub_cancel, Nat.reducePow, Nat.zero_add, Nat.add_zero, Nat.reduceAdd, Nat.reduceMul, Nat.reduceSub, xf_same, xq_ff, xq_fo, xf_1, xf_2, xs_1, xs_2, xs_same, xq_so, xj_1, xj_2, xj_same, xq_jo, xq_sa1, xq_same, xq_other, upd_s, oI_n, oI_s, x10, xs, gc, xf_46_1 Fg]
        refine by_getf cn_157 fl_9_79 (by first | exact rfl | assumption) (by decide) ?_
        simp (disch := first | exact Nat.ne_of_beq_eq_false rfl | exact rfl | omega) only [nI_add, xa_sub, xa_mul, pk_div, nm_mod, xa_shr, xa_and7, xa_and1, xa_and255, xa_by_and, nI_m1, Nat.add_sub_cancel, Nat.reducePow, Nat.zero_add, Nat.add_zero, Nat.reduceAdd, Nat.reduceMul, Nat.reduceSub, xf_same, xq_ff, xq_fo, xf_1, xf_2, xs_1, xs_2, xs_same, xq_so, xj_1, xj_2, xj_same, xq_jo, xq_sa1, xq_same, xq_other, upd_s, oI_n, oI_s, x10, xs, gc, xf_46_1 Fg]
        refine by_ic_ge 156 rfl ?_
        simp (disch := first | exact Nat.ne_of_beq_eq_false rfl | exact rfl | omega) only [nI_add, xa_sub, xa_mul, pk_div, nm_mod, xa_shr, xa_and7, xa_and1, xa_and255, xa_by_and, nI_m1, Nat.add_sub_cancel, Nat.reducePow, Nat.zero_add, Nat.add_zero, Nat.reduceAdd, Nat.reduceMul, Nat.reduceSub, xf_same, xq_ff, xq_fo, xf_1, xf_2, xs_1, xs_2, xs_same, xq_so, xj_1, xj_2, xj_same, xq_jo, xq_sa1, xq_same, xq_other, upd_s, oI_n, oI_s, xv_0, xv_1, xv_2, xv_3, xm_p1, xm_p2, xq_fp, xq_fn, List.filter_nil, Nat.reduceBEq, Bool.not_true, Bool.not_false, Bool.and_true, Bool.and_false, Bool.false_and, Bool.true_and, if_true, if_false, Bool.false_eq_true, reduceIte, xc_i, xc_j, xc_r, xc_n, List.nil_append, List.cons_append, Option.toList_some, Option.toList_none, nI_ltJ, nI_leJ, nI_eqJ, nI_ltz, nI_gez, nI_gtz, nI_lez, nI_eqz, m1_ltz, m1_gez, true_imp_iff, false_imp_iff, true_and, and_true, ne_eq, not_false_eq_true, not_true_eq_false, Nat.reduceEqDiff, Nat.reduceLT, Nat.reduceLeDiff, x10, xs, gc, xf_46_1 Fg]
        refine ⟨fun c51 => ?_, fun c => absurd (by omega) c⟩
        with_reducible refine xm_go_blk b_X9_renew_156 k_X9_renew_156 ?_
        refine by_aload_n rfl ?_
        refine by_getf cn_157 fl_9_36 (by first | exact rfl | assumption) (by decide) ?_
        simp (disch := first | exact Nat.ne_of_beq_eq_false rfl | exact rfl | omega) only [nI_add, xa_sub, xa_mul, pk_div, nm_mod, xa_shr, xa_and7, xa_and1, xa_and255, xa_by_and, nI_m1, Nat.add_sub_cancel, Nat.reducePow, Nat.zero_add, Nat.add_zero, Nat.reduceAdd, Nat.reduceMul, Nat.reduceSub, xf_same, xq_ff, xq_fo, xf_1, xf_2, xs_1, xs_2, xs_same, xq_so, xj_1, xj_2, xj_same, xq_jo, xq_sa1, xq_same, xq_other, upd_s, oI_n, oI_s, x10, xs, gc, xf_46_1 Fg]
        refine by_getf cn_157 fl_9_166 (by first | exact rfl | assumption | exact ps_0 hpp) (by decide) ?_
        refine by_iconst ci_1 ?_
        simp (disch := first | exact Nat.ne_of_beq_eq_false rfl | exact rfl | omega) only [nI_add, xa_sub, xa_mul, pk_div, nm_mod, xa_shr, xa_and7, xa_and1, xa_and255, xa_by_and, nI_m1, Nat.add_sub_cancel, Nat.reducePow, Nat.zero_add, Nat.add_zero, Nat.reduceAdd, Nat.reduceMul, Nat.reduceSub, xf_same, xq_ff, xq_fo, xf_1, xf_2, xs_1, xs_2, xs_same, xq_so, xj_1, xj_2, xj_same, xq_jo, xq_sa1, xq_same, xq_other, upd_s, oI_n, oI_s, x10, xs, gc, xf_46_1 Fg]
        refine by_isub ?_
        simp (disch := first | exact Nat.ne_of_beq_eq_false rfl | exact rfl | omega) only [nI_add, xa_sub, xa_mul, pk_div, nm_mod, xa_shr, xa_and7, xa_and1, xa_and255, xa_by_and, nI_m1, Nat.add_sub_cancel, Nat.reducePow, Nat.zero_add, Nat.add_zero, Nat.reduceAdd, Nat.reduceMul, Nat.reduceSub, xf_same, xq_ff, xq_fo, xf_1, xf_2, xs_1, xs_2, xs_same, xq_so, xj_1, xj_2, xj_same, xq_jo, xq_sa1, xq_same, xq_other, upd_s, oI_n, oI_s, x10, xs, gc, xf_46_1 Fg]
        refine by_iret ry_157 (by first | rfl | assumption) ?_
        exact hG big g f2 ⟨by rw [fg.2.2 _ _ s79]; exact hw1, fun x hx => by rw [fg.1 _ q10]; exact hmm x hx⟩ ⟨gc, by rw [fg.2.2 _ _ s15, f1.2.2 _ _ s15b]; exact g2, gx⟩ (by rw [fg.2.2 _ _ s16, f1.2.2 _ _ (by simp)]) (by rw [fg.2.2 _ _ s00, f1.2.2 _ _ (by simp)])
      | succ y ih =>
        intro i g hi fg gc gx
        obtain ⟨hxg, gx⟩ := gx
        have f2 : Fr (rnR pp) (rnT pp) h g := Fr_tr (Fr_mo f1 (by simp) (by simp)) fg (by simp) (by simp)
        have Fg := Fr_XF hF f2 qf
        have x10 : g.2.2 46 10 = .ref pp := by rw [f2.2.2 _ _ q0]; exact h10
        have xs : g.2.2 7 2 = .int (nI L.length) := by rw [fg.2.2 _ _ s72]; exact hs
        have hoN := (l2 _ (gdm (L := L) (x := i) (by omega))).1
        have xl : g.1 8 i = nI (L.getD i 0) := by rw [fg.1 _ q8]; exact hli i (by omega)
        have xsp : ∀ v, (sC1 G (L.getD i 0) = some v ∨ sC2 G (L.getD i 0) = some v) → g.1 9 v = nI (ixF L v) ∧ v < 2000 ∧ ixF L v < 2000 := fun v hv => by
          obtain ⟨c1, c2⟩ := cl_ix l1 l3 (by omega) hv
          have := hsp (ixF L v) (by omega)
          rw [c2] at this
          have hvN := sOK_cN hd _ hoN v hv
          exact ⟨by rw [fg.1 _ q9]; exact this, by omega, by omega⟩
        obtain ⟨a1, a2, a3, a4, a5, a6⟩ := gx (L.getD i 0) (by show _ < sCt G + i; omega)
        obtain ⟨b1, b2, b3, b4, b5, b6⟩ := sCp_o (G := G) (L := L) (k := i) (Or.inl hoN)
        rw [b2] at a2
        rw [b3] at a3
        have fin : xm_go (XE sc) (xm_T (XE sc) (d + 2)) 157 post 147 [(7, .int (oI (sC2 G (L.getD i 0)))), (6, .int (oI (sC1 G (L.getD i 0)))), (5, .int (nI (L.getD i 0))), (4, .int (nI i)), (3, .int (nI (sCt G))), (0, .ref 46), (1, .int (nI old)), (2, .int (nI wh))] [.int (oI ((sC2 G (L.getD i 0)).map (fun y => sCt G + ixF L y))), .int (oI ((sC1 G (L.getD i 0)).map (fun y => sCt G + ixF L y))), .int (nI (L.getD i 0)), .ref pp] g := by
          with_reducible refine xm_go_blk b_X9_renew_147 k_X9_renew_147 ?_
          refine by_inv3 cn_157 lk_9_211 (by rw [xe_cnt]; decide) is_99 np_99 cn_99 (by first | exact rfl | assumption | exact ps_0 hpp) (Nat.le_of_ble_eq_true rfl) ?_
          refine sp_addCopy (d := d) Fg hpp (by omega) (by omega) gc (fun h3 f3 k0 k1 k2 k3 k4 k5 ko => ?_)
          with_reducible refine xm_go_blk b_X9_renew_150 k_X9_renew_150 ?_
          refine by_iinc (by rw [ml_157]; decide) rfl ci_1 ?_
          refine by_goto 51 rfl ?_
          try simp (disch := first | exact Nat.ne_of_beq_eq_false rfl | exact rfl | omega) only [nI_add, xa_sub, xa_mul, pk_div, nm_mod, xa_shr, xa_and7, xa_and1, xa_and255, xa_by_and, nI_m1, Nat.add_sub_cancel, Nat.reducePow, Nat.zero_add, Nat.add_zero, Nat.reduceAdd, Nat.reduceMul, Nat.reduceSub, xf_same, xq_ff, xq_fo, xf_1, xf_2, xs_1, xs_2, xs_same, xq_so, xj_1, xj_2, xj_same, xq_jo, xq_sa1, xq_same, xq_other, upd_s, oI_n, oI_s, xv_0, xv_1, xv_2, xv_3, xm_p1, xm_p2, xq_fp, xq_fn, List.filter_nil, Nat.reduceBEq, Bool.not_true, Bool.not_false, Bool.and_true, Bool.and_false, Bool.false_and, Bool.true_and, if_true, if_false, Bool.false_eq_true, reduceIte, xc_i, xc_j, xc_r, xc_n, List.nil_append, List.cons_append, Option.toList_some, Option.toList_none]
          exact xm_go_wk (by simp [Value.category]) (ih (i + 1) h3 (by omega) (Fr_tr fg f3 (fun _ z => z) (fun _ z => z)) (by rw [k0]; congr 2) ⟨_, cG0_cp gx hoN k1 k2 k3 k4 k5 ko (f3.1 _ s11)⟩)
        have two : xm_go (XE sc) (xm_T (XE sc) (d + 2)) 157 post 126 [(7, .int (oI (sC2 G (L.getD i 0)))), (6, .int (oI (sC1 G (L.getD i 0)))), (5, .int (nI (L.getD i 0))), (4, .int (nI i)), (3, .int (nI (sCt G))), (0, .ref 46), (1, .int (nI old)), (2, .int (nI wh))] [.int (oI ((sC1 G (L.getD i 0)).map (fun y => sCt G + ixF L y))), .int (nI (L.getD i 0)), .ref pp] g := by
          cases ec : sC2 G (L.getD i 0) with
          | none =>
            rw [ec] at fin
            with_reducible refine xm_go_blk b_X9_renew_126 k_X9_renew_126 ?_
            refine by_iload rfl ?_
            refine by_if_ge 135 rfl ?_
            simp (disch := first | exact Nat.ne_of_beq_eq_false rfl | exact rfl | omega) only [nI_add, xa_sub, xa_mul, pk_div, nm_mod, xa_shr, xa_and7, xa_and1, xa_and255, xa_by_and, nI_m1, Nat.add_sub_cancel, Nat.reducePow, Nat.zero_add, Nat.add_zero, Nat.reduceAdd, Nat.reduceMul, Nat.reduceSub, xf_same, xq_ff, xq_fo, xf_1, xf_2, xs_1, xs_2, xs_same, xq_so, xj_1, xj_2, xj_same, xq_jo, xq_sa1, xq_same, xq_other, upd_s, oI_n, oI_s, xv_0, xv_1, xv_2, xv_3, xm_p1, xm_p2, xq_fp, xq_fn, List.filter_nil, Nat.reduceBEq, Bool.not_true, Bool.not_false, Bool.and_true, Bool.and_false, Bool.false_and, Bool.true_and, if_true, if_false, Bool.false_eq_true, reduceIte, xc_i, xc_j, xc_r, xc_n, List.nil_append, List.cons_append, Option.toList_some, Option.toList_none, nI_ltJ, nI_leJ, nI_eqJ, nI_ltz, nI_gez, nI_gtz, nI_lez, nI_eqz, m1_ltz, m1_gez, true_imp_iff, false_imp_iff, true_and, and_true, ne_eq, not_false_eq_true, not_true_eq_false, Nat.reduceEqDiff, Nat.reduceLT, Nat.reduceLeDiff]
            with_reducible refine xm_go_blk b_X9_renew_131 k_X9_renew_131 ?_
            refine by_iconst ci_m1 ?_
            refine by_goto 147 rfl ?_
            exact fin
          | some v =>
            obtain ⟨x9, x9a, x9b⟩ := xsp v (Or.inr ec)
            rw [ec] at fin
            with_reducible refine xm_go_blk b_X9_renew_126 k_X9_renew_126 ?_
            refine by_iload rfl ?_
            refine by_if_ge 135 rfl ?_
            simp (disch := first | exact Nat.ne_of_beq_eq_false rfl | exact rfl | omega) only [nI_add, xa_sub, xa_mul, pk_div, nm_mod, xa_shr, xa_and7, xa_and1, xa_and255, xa_by_and, nI_m1, Nat.add_sub_cancel, Nat.reducePow, Nat.zero_add, Nat.add_zero, Nat.reduceAdd, Nat.reduceMul, Nat.reduceSub, xf_same, xq_ff, xq_fo, xf_1, xf_2, xs_1, xs_2, xs_same, xq_so, xj_1, xj_2, xj_same, xq_jo, xq_sa1, xq_same, xq_other, upd_s, oI_n, oI_s, xv_0, xv_1, xv_2, xv_3, xm_p1, xm_p2, xq_fp, xq_fn, List.filter_nil, Nat.reduceBEq, Bool.not_true, Bool.not_false, Bool.and_true, Bool.and_false, Bool.false_and, Bool.true_and, if_true, if_false, Bool.false_eq_true, reduceIte, xc_i, xc_j, xc_r, xc_n, List.nil_append, List.cons_append, Option.toList_some, Option.toList_none, nI_ltJ, nI_leJ, nI_eqJ, nI_ltz, nI_gez, nI_gtz, nI_lez, nI_eqz, m1_ltz, m1_gez, true_imp_iff, false_imp_iff, true_and, and_true, ne_eq, not_false_eq_true, not_true_eq_false, Nat.reduceEqDiff, Nat.reduceLT, Nat.reduceLeDiff, xf_46_1 Fg, xf_7_1 Fg, x9]
            with_reducible refine xm_go_blk b_X9_renew_135 k_X9_renew_135 ?_
            refine by_iload_n rfl ?_
            refine by_aload_n rfl ?_
            refine by_getf cn_157 fl_9_28 (by first | exact rfl | assumption) (by decide) ?_
            simp (disch := first | exact Nat.ne_of_beq_eq_false rfl | exact rfl | omega) only [nI_add, xa_sub, xa_mul, pk_div, nm_mod, xa_shr, xa_and7, xa_and1, xa_and255, xa_by_and, nI_m1, Nat.add_sub_cancel, Nat.reducePow, Nat.zero_add, Nat.add_zero, Nat.reduceAdd, Nat.reduceMul, Nat.reduceSub, xf_same, xq_ff, xq_fo, xf_1, xf_2, xs_1, xs_2, xs_same, xq_so, xj_1, xj_2, xj_same, xq_jo, xq_sa1, xq_same, xq_other, upd_s, oI_n, oI_s, xf_46_1 Fg, xf_7_1 Fg, x9]
            refine by_getf cn_157 fl_9_208 (by first | exact rfl | assumption) (by decide) ?_
            refine by_iload rfl ?_
            simp (disch := first | exact Nat.ne_of_beq_eq_false rfl | exact rfl | omega) only [nI_add, xa_sub, xa_mul, pk_div, nm_mod, xa_shr, xa_and7, xa_and1, xa_and255, xa_by_and, nI_m1, Nat.add_sub_cancel, Nat.reducePow, Nat.zero_add, Nat.add_zero, Nat.reduceAdd, Nat.reduceMul, Nat.reduceSub, xf_same, xq_ff, xq_fo, xf_1, xf_2, xs_1, xs_2, xs_same, xq_so, xj_1, xj_2, xj_same, xq_jo, xq_sa1, xq_same, xq_other, upd_s, oI_n, oI_s, xf_46_1 Fg, xf_7_1 Fg, x9]
            first | refine by_iald (by first | exact rfl | assumption | exact ps_1 hpp | exact ps_2 hpp | exact ps_3 hpp | exact ps_4 hpp | exact ps_5 hpp | exact ps_6 hpp | exact ps_7 hpp | exact ps_8 hpp | exact ps_9 hpp | exact ps_10 hpp | exact ps_11 hpp | exact ps_15 hpp | exact ps_16 hpp | exact ps_17 hpp | exact ps_18 hpp | exact ps_19 hpp | exact ps_21 hpp | exact ps_22 hpp | exact ps_23 hpp | exact ps_24 hpp) ⟨by omega, by omega⟩ ?_ | refine by_tald rfl rfl ⟨by omega, by omega⟩ ?_
            refine by_iadd ?_
            refine by_nil ?_
            try simp (disch := first | exact Nat.ne_of_beq_eq_false rfl | exact rfl | omega) only [nI_add, xa_sub, xa_mul, pk_div, nm_mod, xa_shr, xa_and7, xa_and1, xa_and255, xa_by_and, nI_m1, Nat.add_sub_cancel, Nat.reducePow, Nat.zero_add, Nat.add_zero, Nat.reduceAdd, Nat.reduceMul, Nat.reduceSub, xf_same, xq_ff, xq_fo, xf_1, xf_2, xs_1, xs_2, xs_same, xq_so, xj_1, xj_2, xj_same, xq_jo, xq_sa1, xq_same, xq_other, upd_s, oI_n, oI_s, xv_0, xv_1, xv_2, xv_3, xm_p1, xm_p2, xq_fp, xq_fn, List.filter_nil, Nat.reduceBEq, Bool.not_true, Bool.not_false, Bool.and_true, Bool.and_false, Bool.false_and, Bool.true_and, if_true, if_false, Bool.false_eq_true, reduceIte, xc_i, xc_j, xc_r, xc_n, List.nil_append, List.cons_append, Option.toList_some, Option.toList_none, xf_46_1 Fg, xf_7_1 Fg, x9]
            exact fin
        cases ec : sC1 G (L.getD i 0) with
        | none =>
          rw [ec] at a2 two
          with_reducible refine xm_go_blk b_X9_renew_51 k_X9_renew_51 ?_
          refine by_iload rfl ?_
          refine by_aload_n rfl ?_
          refine by_getf cn_157 fl_9_28 (by first | exact rfl | assumption) (by decide) ?_
          simp (disch := first | exact Nat.ne_of_beq_eq_false rfl | exact rfl | omega) only [nI_add, xa_sub, xa_mul, pk_div, nm_mod, xa_shr, xa_and7, xa_and1, xa_and255, xa_by_and, nI_m1, Nat.add_sub_cancel, Nat.reducePow, Nat.zero_add, Nat.add_zero, Nat.reduceAdd, Nat.reduceMul, Nat.reduceSub, xf_same, xq_ff, xq_fo, xf_1, xf_2, xs_1, xs_2, xs_same, xq_so, xj_1, xj_2, xj_same, xq_jo, xq_sa1, xq_same, xq_other, upd_s, oI_n, oI_s, x10, xs, xf_46_1 Fg, xf_7_0 Fg, xl, pf_2 Fg hpp, pf_3 Fg hpp, a2, a3]
          refine by_getf cn_157 fl_9_79 (by first | exact rfl | assumption) (by decide) ?_
          simp (disch := first | exact Nat.ne_of_beq_eq_false rfl | exact rfl | omega) only [nI_add, xa_sub, xa_mul, pk_div, nm_mod, xa_shr, xa_and7, xa_and1, xa_and255, xa_by_and, nI_m1, Nat.add_sub_cancel, Nat.reducePow, Nat.zero_add, Nat.add_zero, Nat.reduceAdd, Nat.reduceMul, Nat.reduceSub, xf_same, xq_ff, xq_fo, xf_1, xf_2, xs_1, xs_2, xs_same, xq_so, xj_1, xj_2, xj_same, xq_jo, xq_sa1, xq_same, xq_other, upd_s, oI_n, oI_s, x10, xs, xf_46_1 Fg, xf_7_0 Fg, xl, pf_2 Fg hpp, pf_3 Fg hpp, a2, a3]
          refine by_ic_ge 156 rfl ?_
          simp (disch := first | exact Nat.ne_of_beq_eq_false rfl | exact rfl | omega) only [nI_add, xa_sub, xa_mul, pk_div, nm_mod, xa_shr, xa_and7, xa_and1, xa_and255, xa_by_and, nI_m1, Nat.add_sub_cancel, Nat.reducePow, Nat.zero_add, Nat.add_zero, Nat.reduceAdd, Nat.reduceMul, Nat.reduceSub, xf_same, xq_ff, xq_fo, xf_1, xf_2, xs_1, xs_2, xs_same, xq_so, xj_1, xj_2, xj_same, xq_jo, xq_sa1, xq_same, xq_other, upd_s, oI_n, oI_s, xv_0, xv_1, xv_2, xv_3, xm_p1, xm_p2, xq_fp, xq_fn, List.filter_nil, Nat.reduceBEq, Bool.not_true, Bool.not_false, Bool.and_true, Bool.and_false, Bool.false_and, Bool.true_and, if_true, if_false, Bool.false_eq_true, reduceIte, xc_i, xc_j, xc_r, xc_n, List.nil_append, List.cons_append, Option.toList_some, Option.toList_none, nI_ltJ, nI_leJ, nI_eqJ, nI_ltz, nI_gez, nI_gtz, nI_lez, nI_eqz, m1_ltz, m1_gez, true_imp_iff, false_imp_iff, true_and, and_true, ne_eq, not_false_eq_true, not_true_eq_false, Nat.reduceEqDiff, Nat.reduceLT, Nat.reduceLeDiff, x10, xs, xf_46_1 Fg, xf_7_0 Fg, xl, pf_2 Fg hpp, pf_3 Fg hpp, a2, a3]
          refine ⟨fun c => absurd c (by omega), fun c51 => ?_⟩
          with_reducible refine xm_go_blk b_X9_renew_63 k_X9_renew_63 ?_
          refine by_aload_n rfl ?_
          refine by_getf cn_157 fl_9_28 (by first | exact rfl | assumption) (by decide) ?_
          simp (disch := first | exact Nat.ne_of_beq_eq_false rfl | exact rfl | omega) only [nI_add, xa_sub, xa_mul, pk_div, nm_mod, xa_shr, xa_and7, xa_and1, xa_and255, xa_by_and, nI_m1, Nat.add_sub_cancel, Nat.reducePow, Nat.zero_add, Nat.add_zero, Nat.reduceAdd, Nat.reduceMul, Nat.reduceSub, xf_same, xq_ff, xq_fo, xf_1, xf_2, xs_1, xs_2, xs_same, xq_so, xj_1, xj_2, xj_same, xq_jo, xq_sa1, xq_same, xq_other, upd_s, oI_n, oI_s, x10, xs, xf_46_1 Fg, xf_7_0 Fg, xl, pf_2 Fg hpp, pf_3 Fg hpp, a2, a3]
          refine by_getf cn_157 fl_9_199 (by first | exact rfl | assumption) (by decide) ?_
          refine by_iload rfl ?_
          simp (disch := first | exact Nat.ne_of_beq_eq_false rfl | exact rfl | omega) only [nI_add, xa_sub, xa_mul, pk_div, nm_mod, xa_shr, xa_and7, xa_and1, xa_and255, xa_by_and, nI_m1, Nat.add_sub_cancel, Nat.reducePow, Nat.zero_add, Nat.add_zero, Nat.reduceAdd, Nat.reduceMul, Nat.reduceSub, xf_same, xq_ff, xq_fo, xf_1, xf_2, xs_1, xs_2, xs_same, xq_so, xj_1, xj_2, xj_same, xq_jo, xq_sa1, xq_same, xq_other, upd_s, oI_n, oI_s, x10, xs, xf_46_1 Fg, xf_7_0 Fg, xl, pf_2 Fg hpp, pf_3 Fg hpp, a2, a3]
          first | refine by_iald (by first | exact rfl | assumption | exact ps_1 hpp | exact ps_2 hpp | exact ps_3 hpp | exact ps_4 hpp | exact ps_5 hpp | exact ps_6 hpp | exact ps_7 hpp | exact ps_8 hpp | exact ps_9 hpp | exact ps_10 hpp | exact ps_11 hpp | exact ps_15 hpp | exact ps_16 hpp | exact ps_17 hpp | exact ps_18 hpp | exact ps_19 hpp | exact ps_21 hpp | exact ps_22 hpp | exact ps_23 hpp | exact ps_24 hpp) ⟨by omega, by omega⟩ ?_ | refine by_tald rfl rfl ⟨by omega, by omega⟩ ?_
          refine by_istore (by rw [ml_157]; decide) ?_
          refine by_aload_n rfl ?_
          refine by_getf cn_157 fl_9_36 (by first | exact rfl | assumption) (by decide) ?_
          simp (disch := first | exact Nat.ne_of_beq_eq_false rfl | exact rfl | omega) only [nI_add, xa_sub, xa_mul, pk_div, nm_mod, xa_shr, xa_and7, xa_and1, xa_and255, xa_by_and, nI_m1, Nat.add_sub_cancel, Nat.reducePow, Nat.zero_add, Nat.add_zero, Nat.reduceAdd, Nat.reduceMul, Nat.reduceSub, xf_same, xq_ff, xq_fo, xf_1, xf_2, xs_1, xs_2, xs_same, xq_so, xj_1, xj_2, xj_same, xq_jo, xq_sa1, xq_same, xq_other, upd_s, oI_n, oI_s, x10, xs, xf_46_1 Fg, xf_7_0 Fg, xl, pf_2 Fg hpp, pf_3 Fg hpp, a2, a3]
          refine by_getf cn_157 fl_9_202 (by first | exact rfl | assumption | exact ps_0 hpp) (by decide) ?_
          refine by_iload rfl ?_
          simp (disch := first | exact Nat.ne_of_beq_eq_false rfl | exact rfl | omega) only [nI_add, xa_sub, xa_mul, pk_div, nm_mod, xa_shr, xa_and7, xa_and1, xa_and255, xa_by_and, nI_m1, Nat.add_sub_cancel, Nat.reducePow, Nat.zero_add, Nat.add_zero, Nat.reduceAdd, Nat.reduceMul, Nat.reduceSub, xf_same, xq_ff, xq_fo, xf_1, xf_2, xs_1, xs_2, xs_same, xq_so, xj_1, xj_2, xj_same, xq_jo, xq_sa1, xq_same, xq_other, upd_s, oI_n, oI_s, x10, xs, xf_46_1 Fg, xf_7_0 Fg, xl, pf_2 Fg hpp, pf_3 Fg hpp, a2, a3]
          first | refine by_iald (by first | exact rfl | assumption | exact ps_1 hpp | exact ps_2 hpp | exact ps_3 hpp | exact ps_4 hpp | exact ps_5 hpp | exact ps_6 hpp | exact ps_7 hpp | exact ps_8 hpp | exact ps_9 hpp | exact ps_10 hpp | exact ps_11 hpp | exact ps_15 hpp | exact ps_16 hpp | exact ps_17 hpp | exact ps_18 hpp | exact ps_19 hpp | exact ps_21 hpp | exact ps_22 hpp | exact ps_23 hpp | exact ps_24 hpp) ⟨by omega, by omega⟩ ?_ | refine by_tald rfl rfl ⟨by omega, by omega⟩ ?_
          refine by_istore (by rw [ml_157]; decide) ?_
          refine by_aload_n rfl ?_
          refine by_getf cn_157 fl_9_36 (by first | exact rfl | assumption) (by decide) ?_
          simp (disch := first | exact Nat.ne_of_beq_eq_false rfl | exact rfl | omega) only [nI_add, xa_sub, xa_mul, pk_div, nm_mod, xa_shr, xa_and7, xa_and1, xa_and255, xa_by_and, nI_m1, Nat.add_sub_cancel, Nat.reducePow, Nat.zero_add, Nat.add_zero, Nat.reduceAdd, Nat.reduceMul, Nat.reduceSub, xf_same, xq_ff, xq_fo, xf_1, xf_2, xs_1, xs_2, xs_same, xq_so, xj_1, xj_2, xj_same, xq_jo, xq_sa1, xq_same, xq_other, upd_s, oI_n, oI_s, x10, xs, xf_46_1 Fg, xf_7_0 Fg, xl, pf_2 Fg hpp, pf_3 Fg hpp, a2, a3]
          refine by_getf cn_157 fl_9_205 (by first | exact rfl | assumption | exact ps_0 hpp) (by decide) ?_
          refine by_iload rfl ?_
          simp (disch := first | exact Nat.ne_of_beq_eq_false rfl | exact rfl | omega) only [nI_add, xa_sub, xa_mul, pk_div, nm_mod, xa_shr, xa_and7, xa_and1, xa_and255, xa_by_and, nI_m1, Nat.add_sub_cancel, Nat.reducePow, Nat.zero_add, Nat.add_zero, Nat.reduceAdd, Nat.reduceMul, Nat.reduceSub, xf_same, xq_ff, xq_fo, xf_1, xf_2, xs_1, xs_2, xs_same, xq_so, xj_1, xj_2, xj_same, xq_jo, xq_sa1, xq_same, xq_other, upd_s, oI_n, oI_s, x10, xs, xf_46_1 Fg, xf_7_0 Fg, xl, pf_2 Fg hpp, pf_3 Fg hpp, a2, a3]
          first | refine by_iald (by first | exact rfl | assumption | exact ps_1 hpp | exact ps_2 hpp | exact ps_3 hpp | exact ps_4 hpp | exact ps_5 hpp | exact ps_6 hpp | exact ps_7 hpp | exact ps_8 hpp | exact ps_9 hpp | exact ps_10 hpp | exact ps_11 hpp | exact ps_15 hpp | exact ps_16 hpp | exact ps_17 hpp | exact ps_18 hpp | exact ps_19 hpp | exact ps_21 hpp | exact ps_22 hpp | exact ps_23 hpp | exact ps_24 hpp) ⟨by omega, by omega⟩ ?_ | refine by_tald rfl rfl ⟨by omega, by omega⟩ ?_
          refine by_istore (by rw [ml_157]; decide) ?_
          refine by_aload_n rfl ?_
          refine by_getf cn_157 fl_9_36 (by first | exact rfl | assumption) (by decide) ?_
          refine by_iload rfl ?_
          refine by_iload rfl ?_
          refine by_if_ge 114 rfl ?_
          simp (disch := first | exact Nat.ne_of_beq_eq_false rfl | exact rfl | omega) only [nI_add, xa_sub, xa_mul, pk_div, nm_mod, xa_shr, xa_and7, xa_and1, xa_and255, xa_by_and, nI_m1, Nat.add_sub_cancel, Nat.reducePow, Nat.zero_add, Nat.add_zero, Nat.reduceAdd, Nat.reduceMul, Nat.reduceSub, xf_same, xq_ff, xq_fo, xf_1, xf_2, xs_1, xs_2, xs_same, xq_so, xj_1, xj_2, xj_same, xq_jo, xq_sa1, xq_same, xq_other, upd_s, oI_n, oI_s, xv_0, xv_1, xv_2, xv_3, xm_p1, xm_p2, xq_fp, xq_fn, List.filter_nil, Nat.reduceBEq, Bool.not_true, Bool.not_false, Bool.and_true, Bool.and_false, Bool.false_and, Bool.true_and, if_true, if_false, Bool.false_eq_true, reduceIte, xc_i, xc_j, xc_r, xc_n, List.nil_append, List.cons_append, Option.toList_some, Option.toList_none, nI_ltJ, nI_leJ, nI_eqJ, nI_ltz, nI_gez, nI_gtz, nI_lez, nI_eqz, m1_ltz, m1_gez, true_imp_iff, false_imp_iff, true_and, and_true, ne_eq, not_false_eq_true, not_true_eq_false, Nat.reduceEqDiff, Nat.reduceLT, Nat.reduceLeDiff, x10, xs, xf_46_1 Fg, xf_7_0 Fg, xl, pf_2 Fg hpp, pf_3 Fg hpp, a2, a3]
          with_reducible refine xm_go_blk b_X9_renew_110 k_X9_renew_110 ?_
          refine by_iconst ci_m1 ?_
          refine by_goto 126 rfl ?_
          exact two
        | some v =>
          obtain ⟨x9, x9a, x9b⟩ := xsp v (Or.inl ec)
          rw [ec] at a2 two
          with_reducible refine xm_go_blk b_X9_renew_51 k_X9_renew_51 ?_
          refine by_iload rfl ?_
          refine by_aload_n rfl ?_
          refine by_getf cn_157 fl_9_28 (by first | exact rfl | assumption) (by decide) ?_
          simp (disch := first | exact Nat.ne_of_beq_eq_false rfl | exact rfl | omega) only [nI_add, xa_sub, xa_mul, pk_div, nm_mod, xa_shr, xa_and7, xa_and1, xa_and255, xa_by_and, nI_m1, Nat.add_sub_cancel, Nat.reducePow, Nat.zero_add, Nat.add_zero, Nat.reduceAdd, Nat.reduceMul, Nat.reduceSub, xf_same, xq_ff, xq_fo, xf_1, xf_2, xs_1, xs_2, xs_same, xq_so, xj_1, xj_2, xj_same, xq_jo, xq_sa1, xq_same, xq_other, upd_s, oI_n, oI_s, x10, xs, xf_46_1 Fg, xf_7_0 Fg, xf_7_1 Fg, xl, pf_2 Fg hpp, pf_3 Fg hpp, a2, a3, x9]
          refine by_getf cn_157 fl_9_79 (by first | exact rfl | assumption) (by decide) ?_
          simp (disch := first | exact Nat.ne_of_beq_eq_false rfl | exact rfl | omega) only [nI_add, xa_sub, xa_mul, pk_div, nm_mod, xa_shr, xa_and7, xa_and1, xa_and255, xa_by_and, nI_m1, Nat.add_sub_cancel, Nat.reducePow, Nat.zero_add, Nat.add_zero, Nat.reduceAdd, Nat.reduceMul, Nat.reduceSub, xf_same, xq_ff, xq_fo, xf_1, xf_2, xs_1, xs_2, xs_same, xq_so, xj_1, xj_2, xj_same, xq_jo, xq_sa1, xq_same, xq_other, upd_s, oI_n, oI_s, x10, xs, xf_46_1 Fg, xf_7_0 Fg, xf_7_1 Fg, xl, pf_2 Fg hpp, pf_3 Fg hpp, a2, a3, x9]
          refine by_ic_ge 156 rfl ?_
          simp (disch := first | exact Nat.ne_of_beq_eq_false rfl | exact rfl | omega) only [nI_add, xa_sub, xa_mul, pk_div, nm_mod, xa_shr, xa_and7, xa_and1, xa_and255, xa_by_and, nI_m1, Nat.add_sub_cancel, Nat.reducePow, Nat.zero_add, Nat.add_zero, Nat.reduceAdd, Nat.reduceMul, Nat.reduceSub, xf_same, xq_ff, xq_fo, xf_1, xf_2, xs_1, xs_2, xs_same, xq_so, xj_1, xj_2, xj_same, xq_jo, xq_sa1, xq_same, xq_other, upd_s, oI_n, oI_s, xv_0, xv_1, xv_2, xv_3, xm_p1, xm_p2, xq_fp, xq_fn, List.filter_nil, Nat.reduceBEq, Bool.not_true, Bool.not_false, Bool.and_true, Bool.and_false, Bool.false_and, Bool.true_and, if_true, if_false, Bool.false_eq_true, reduceIte, xc_i, xc_j, xc_r, xc_n, List.nil_append, List.cons_append, Option.toList_some, Option.toList_none, nI_ltJ, nI_leJ, nI_eqJ, nI_ltz, nI_gez, nI_gtz, nI_lez, nI_eqz, m1_ltz, m1_gez, true_imp_iff, false_imp_iff, true_and, and_true, ne_eq, not_false_eq_true, not_true_eq_false, Nat.reduceEqDiff, Nat.reduceLT, Nat.reduceLeDiff, x10, xs, xf_46_1 Fg, xf_7_0 Fg, xf_7_1 Fg, xl, pf_2 Fg hpp, pf_3 Fg hpp, a2, a3, x9]
          refine ⟨fun c => absurd c (by omega), fun c51 => ?_⟩
          with_reducible refine xm_go_blk b_X9_renew_63 k_X9_renew_63 ?_
          refine by_aload_n rfl ?_
          refine by_getf cn_157 fl_9_28 (by first | exact rfl | assumption) (by decide) ?_
          simp (disch := first | exact Nat.ne_of_beq_eq_false rfl | exact rfl | omega) only [nI_add, xa_sub, xa_mul, pk_div, nm_mod, xa_shr, xa_and7, xa_and1, xa_and255, xa_by_and, nI_m1, Nat.add_sub_cancel, Nat.reducePow, Nat.zero_add, Nat.add_zero, Nat.reduceAdd, Nat.reduceMul, Nat.reduceSub, xf_same, xq_ff, xq_fo, xf_1, xf_2, xs_1, xs_2, xs_same, xq_so, xj_1, xj_2, xj_same, xq_jo, xq_sa1, xq_same, xq_other, upd_s, oI_n, oI_s, x10, xs, xf_46_1 Fg, xf_7_0 Fg, xf_7_1 Fg, xl, pf_2 Fg hpp, pf_3 Fg hpp, a2, a3, x9]
          refine by_getf cn_157 fl_9_199 (by first | exact rfl | assumption) (by decide) ?_
          refine by_iload rfl ?_
          simp (disch := first | exact Nat.ne_of_beq_eq_false rfl | exact rfl | omega) only [nI_add, xa_sub, xa_mul, pk_div, nm_mod, xa_shr, xa_and7, xa_and1, xa_and255, xa_by_and, nI_m1, Nat.add_sub_cancel, Nat.reducePow, Nat.zero_add, Nat.add_zero, Nat.reduceAdd, Nat.reduceMul, Nat.reduceSub, xf_same, xq_ff, xq_fo, xf_1, xf_2, xs_1, xs_2, xs_same, xq_so, xj_1, xj_2, xj_same, xq_jo, xq_sa1, xq_same, xq_other, upd_s, oI_n, oI_s, x10, xs, xf_46_1 Fg, xf_7_0 Fg, xf_7_1 Fg, xl, pf_2 Fg hpp, pf_3 Fg hpp, a2, a3, x9]
          first | refine by_iald (by first | exact rfl | assumption | exact ps_1 hpp | exact ps_2 hpp | exact ps_3 hpp | exact ps_4 hpp | exact ps_5 hpp | exact ps_6 hpp | exact ps_7 hpp | exact ps_8 hpp | exact ps_9 hpp | exact ps_10 hpp | exact ps_11 hpp | exact ps_15 hpp | exact ps_16 hpp | exact ps_17 hpp | exact ps_18 hpp | exact ps_19 hpp | exact ps_21 hpp | exact ps_22 hpp | exact ps_23 hpp | exact ps_24 hpp) ⟨by omega, by omega⟩ ?_ | refine by_tald rfl rfl ⟨by omega, by omega⟩ ?_
          refine by_istore (by rw [ml_157]; decide) ?_
          refine by_aload_n rfl ?_
          refine by_getf cn_157 fl_9_36 (by first | exact rfl | assumption) (by decide) ?_
          simp (disch := first | exact Nat.ne_of_beq_eq_false rfl | exact rfl | omega) only [nI_add, xa_sub, xa_mul, pk_div, nm_mod, xa_shr, xa_and7, xa_and1, xa_and255, xa_by_and, nI_m1, Nat.add_sub_cancel, Nat.reducePow, Nat.zero_add, Nat.add_zero, Nat.reduceAdd, Nat.reduceMul, Nat.reduceSub, xf_same, xq_ff, xq_fo, xf_1, xf_2, xs_1, xs_2, xs_same, xq_so, xj_1, xj_2, xj_same, xq_jo, xq_sa1, xq_same, xq_other, upd_s, oI_n, oI_s, x10, xs, xf_46_1 Fg, xf_7_0 Fg, xf_7_1 Fg, xl, pf_2 Fg hpp, pf_3 Fg hpp, a2, a3, x9]
          refine by_getf cn_157 fl_9_202 (by first | exact rfl | assumption | exact ps_0 hpp) (by decide) ?_
          refine by_iload rfl ?_
          simp (disch := first | exact Nat.ne_of_beq_eq_false rfl | exact rfl | omega) only [nI_add, xa_sub, xa_mul, pk_div, nm_mod, xa_shr, xa_and7, xa_and1, xa_and255, xa_by_and, nI_m1, Nat.add_sub_cancel, Nat.reducePow, Nat.zero_add, Nat.add_zero, Nat.reduceAdd, Nat.reduceMul, Nat.reduceSub, xf_same, xq_ff, xq_fo, xf_1, xf_2, xs_1, xs_2, xs_same, xq_so, xj_1, xj_2, xj_same, xq_jo, xq_sa1, xq_same, xq_other, upd_s, oI_n, oI_s, x10, xs, xf_46_1 Fg, xf_7_0 Fg, xf_7_1 Fg, xl, pf_2 Fg hpp, pf_3 Fg hpp, a2, a3, x9]
          first | refine by_iald (by first | exact rfl | assumption | exact ps_1 hpp | exact ps_2 hpp | exact ps_3 hpp | exact ps_4 hpp | exact ps_5 hpp | exact ps_6 hpp | exact ps_7 hpp | exact ps_8 hpp | exact ps_9 hpp | exact ps_10 hpp | exact ps_11 hpp | exact ps_15 hpp | exact ps_16 hpp | exact ps_17 hpp | exact ps_18 hpp | exact ps_19 hpp | exact ps_21 hpp | exact ps_22 hpp | exact ps_23 hpp | exact ps_24 hpp) ⟨by omega, by omega⟩ ?_ | refine by_tald rfl rfl ⟨by omega, by omega⟩ ?_
          refine by_istore (by rw [ml_157]; decide) ?_
          refine by_aload_n rfl ?_
          refine by_getf cn_157 fl_9_36 (by first | exact rfl | assumption) (by decide) ?_
          simp (disch := first | exact Nat.ne_of_beq_eq_false rfl | exact rfl | omega) only [nI_add, xa_sub, xa_mul, pk_div, nm_mod, xa_shr, xa_and7, xa_and1, xa_and255, xa_by_and, nI_m1, Nat.add_sub_cancel, Nat.reducePow, Nat.zero_add, Nat.add_zero, Nat.reduceAdd, Nat.reduceMul, Nat.reduceSub, xf_same, xq_ff, xq_fo, xf_1, xf_2, xs_1, xs_2, xs_same, xq_so, xj_1, xj_2, xj_same, xq_jo, xq_sa1, xq_same, xq_other, upd_s, oI_n, oI_s, x10, xs, xf_46_1 Fg, xf_7_0 Fg, xf_7_1 Fg, xl, pf_2 Fg hpp, pf_3 Fg hpp, a2, a3, x9]
          refine by_getf cn_157 fl_9_205 (by first | exact rfl | assumption | exact ps_0 hpp) (by decide) ?_
          refine by_iload rfl ?_
          simp (disch := first | exact Nat.ne_of_beq_eq_false rfl | exact rfl | omega) only [nI_add, xa_sub, xa_mul, pk_div, nm_mod, xa_shr, xa_and7, xa_and1, xa_and255, xa_by_and, nI_m1, Nat.add_sub_cancel, Nat.reducePow, Nat.zero_add, Nat.add_zero, Nat.reduceAdd, Nat.reduceMul, Nat.reduceSub, xf_same, xq_ff, xq_fo, xf_1, xf_2, xs_1, xs_2, xs_same, xq_so, xj_1, xj_2, xj_same, xq_jo, xq_sa1, xq_same, xq_other, upd_s, oI_n, oI_s, x10, xs, xf_46_1 Fg, xf_7_0 Fg, xf_7_1 Fg, xl, pf_2 Fg hpp, pf_3 Fg hpp, a2, a3, x9]
          first | refine by_iald (by first | exact rfl | assumption | exact ps_1 hpp | exact ps_2 hpp | exact ps_3 hpp | exact ps_4 hpp | exact ps_5 hpp | exact ps_6 hpp | exact ps_7 hpp | exact ps_8 hpp | exact ps_9 hpp | exact ps_10 hpp | exact ps_11 hpp | exact ps_15 hpp | exact ps_16 hpp | exact ps_17 hpp | exact ps_18 hpp | exact ps_19 hpp | exact ps_21 hpp | exact ps_22 hpp | exact ps_23 hpp | exact ps_24 hpp) ⟨by omega, by omega⟩ ?_ | refine by_tald rfl rfl ⟨by omega, by omega⟩ ?_
          refine by_istore (by rw [ml_157]; decide) ?_
          refine by_aload_n rfl ?_
          refine by_getf cn_157 fl_9_36 (by first | exact rfl | assumption) (by decide) ?_
          refine by_iload rfl ?_
          refine by_iload rfl ?_
          refine by_if_ge 114 rfl ?_
          simp (disch := first | exact Nat.ne_of_beq_eq_false rfl | exact rfl | omega) only [nI_add, xa_sub, xa_mul, pk_div, nm_mod, xa_shr, xa_and7, xa_and1, xa_and255, xa_by_and, nI_m1, Nat.add_sub_cancel, Nat.reducePow, Nat.zero_add, Nat.add_zero, Nat.reduceAdd, Nat.reduceMul, Nat.reduceSub, xf_same, xq_ff, xq_fo, xf_1, xf_2, xs_1, xs_2, xs_same, xq_so, xj_1, xj_2, xj_same, xq_jo, xq_sa1, xq_same, xq_other, upd_s, oI_n, oI_s, xv_0, xv_1, xv_2, xv_3, xm_p1, xm_p2, xq_fp, xq_fn, List.filter_nil, Nat.reduceBEq, Bool.not_true, Bool.not_false, Bool.and_true, Bool.and_false, Bool.false_and, Bool.true_and, if_true, if_false, Bool.false_eq_true, reduceIte, xc_i, xc_j, xc_r, xc_n, List.nil_append, List.cons_append, Option.toList_some, Option.toList_none, nI_ltJ, nI_leJ, nI_eqJ, nI_ltz, nI_gez, nI_gtz, nI_lez, nI_eqz, m1_ltz, m1_gez, true_imp_iff, false_imp_iff, true_and, and_true, ne_eq, not_false_eq_true, not_true_eq_false, Nat.reduceEqDiff, Nat.reduceLT, Nat.reduceLeDiff, x10, xs, xf_46_1 Fg, xf_7_0 Fg, xf_7_1 Fg, xl, pf_2 Fg hpp, pf_3 Fg hpp, a2, a3, x9]
          with_reducible refine xm_go_blk b_X9_renew_114 k_X9_renew_114 ?_
          refine by_iload_n rfl ?_
          refine by_aload_n rfl ?_
          refine by_getf cn_157 fl_9_28 (by first | exact rfl | assumption) (by decide) ?_
          simp (disch := first | exact Nat.ne_of_beq_eq_false rfl | exact rfl | omega) only [nI_add, xa_sub, xa_mul, pk_div, nm_mod, xa_shr, xa_and7, xa_and1, xa_and255, xa_by_and, nI_m1, Nat.add_sub_cancel, Nat.reducePow, Nat.zero_add, Nat.add_zero, Nat.reduceAdd, Nat.reduceMul, Nat.reduceSub, xf_same, xq_ff, xq_fo, xf_1, xf_2, xs_1, xs_2, xs_same, xq_so, xj_1, xj_2, xj_same, xq_jo, xq_sa1, xq_same, xq_other, upd_s, oI_n, oI_s, x10, xs, xf_46_1 Fg, xf_7_0 Fg, xf_7_1 Fg, xl, pf_2 Fg hpp, pf_3 Fg hpp, a2, a3, x9]
          refine by_getf cn_157 fl_9_208 (by first | exact rfl | assumption) (by decide) ?_
          refine by_iload rfl ?_
          simp (disch := first | exact Nat.ne_of_beq_eq_false rfl | exact rfl | omega) only [nI_add, xa_sub, xa_mul, pk_div, nm_mod, xa_shr, xa_and7, xa_and1, xa_and255, xa_by_and, nI_m1, Nat.add_sub_cancel, Nat.reducePow, Nat.zero_add, Nat.add_zero, Nat.reduceAdd, Nat.reduceMul, Nat.reduceSub, xf_same, xq_ff, xq_fo, xf_1, xf_2, xs_1, xs_2, xs_same, xq_so, xj_1, xj_2, xj_same, xq_jo, xq_sa1, xq_same, xq_other, upd_s, oI_n, oI_s, x10, xs, xf_46_1 Fg, xf_7_0 Fg, xf_7_1 Fg, xl, pf_2 Fg hpp, pf_3 Fg hpp, a2, a3, x9]
          first | refine by_iald (by first | exact rfl | assumption | exact ps_1 hpp | exact ps_2 hpp | exact ps_3 hpp | exact ps_4 hpp | exact ps_5 hpp | exact ps_6 hpp | exact ps_7 hpp | exact ps_8 hpp | exact ps_9 hpp | exact ps_10 hpp | exact ps_11 hpp | exact ps_15 hpp | exact ps_16 hpp | exact ps_17 hpp | exact ps_18 hpp | exact ps_19 hpp | exact ps_21 hpp | exact ps_22 hpp | exact ps_23 hpp | exact ps_24 hpp) ⟨by omega, by omega⟩ ?_ | refine by_tald rfl rfl ⟨by omega, by omega⟩ ?_
          refine by_iadd ?_
          refine by_nil ?_
          try simp (disch := first | exact Nat.ne_of_beq_eq_false rfl | exact rfl | omega) only [nI_add, xa_sub, xa_mul, pk_div, nm_mod, xa_shr, xa_and7, xa_and1, xa_and255, xa_by_and, nI_m1, Nat.add_sub_cancel, Nat.reducePow, Nat.zero_add, Nat.add_zero, Nat.reduceAdd, Nat.reduceMul, Nat.reduceSub, xf_same, xq_ff, xq_fo, xf_1, xf_2, xs_1, xs_2, xs_same, xq_so, xj_1, xj_2, xj_same, xq_jo, xq_sa1, xq_same, xq_other, upd_s, oI_n, oI_s, xv_0, xv_1, xv_2, xv_3, xm_p1, xm_p2, xq_fp, xq_fn, List.filter_nil, Nat.reduceBEq, Bool.not_true, Bool.not_false, Bool.and_true, Bool.and_false, Bool.false_and, Bool.true_and, if_true, if_false, Bool.false_eq_true, reduceIte, xc_i, xc_j, xc_r, xc_n, List.nil_append, List.cons_append, Option.toList_some, Option.toList_none, x10, xs, xf_46_1 Fg, xf_7_0 Fg, xf_7_1 Fg, xl, pf_2 Fg hpp, pf_3 Fg hpp, a2, a3, x9]
          exact two
    with_reducible refine xm_go_blk b_X9_renew_12 k_X9_renew_12 ?_
    refine by_aload_n rfl ?_
    refine by_getf cn_157 fl_9_36 (by first | exact rfl | assumption) (by decide) ?_
    simp (disch := first | exact Nat.ne_of_beq_eq_false rfl | exact rfl | omega) only [nI_add, xa_sub, xa_mul, pk_div, nm_mod, xa_shr, xa_and7, xa_and1, xa_and255, xa_by_and, nI_m1, Nat.add_sub_cancel, Nat.reducePow, Nat.zero_add, Nat.add_zero, Nat.reduceAdd, Nat.reduceMul, Nat.reduceSub, xf_same, xq_ff, xq_fo, xf_1, xf_2, xs_1, xs_2, xs_same, xq_so, xj_1, xj_2, xj_same, xq_jo, xq_sa1, xq_same, xq_other, upd_s, oI_n, oI_s, e10, ect, xf_46_1 F1, hs]
    refine by_getf cn_157 fl_9_166 (by first | exact rfl | assumption | exact ps_0 hpp) (by decide) ?_
    refine by_aload_n rfl ?_
    refine by_getf cn_157 fl_9_28 (by first | exact rfl | assumption) (by decide) ?_
    simp (disch := first | exact Nat.ne_of_beq_eq_false rfl | exact rfl | omega) only [nI_add, xa_sub, xa_mul, pk_div, nm_mod, xa_shr, xa_and7, xa_and1, xa_and255, xa_by_and, nI_m1, Nat.add_sub_cancel, Nat.reducePow, Nat.zero_add, Nat.add_zero, Nat.reduceAdd, Nat.reduceMul, Nat.reduceSub, xf_same, xq_ff, xq_fo, xf_1, xf_2, xs_1, xs_2, xs_same, xq_so, xj_1, xj_2, xj_same, xq_jo, xq_sa1, xq_same, xq_other, upd_s, oI_n, oI_s, e10, ect, xf_46_1 F1, hs]
    refine by_getf cn_157 fl_9_79 (by first | exact rfl | assumption) (by decide) ?_
    simp (disch := first | exact Nat.ne_of_beq_eq_false rfl | exact rfl | omega) only [nI_add, xa_sub, xa_mul, pk_div, nm_mod, xa_shr, xa_and7, xa_and1, xa_and255, xa_by_and, nI_m1, Nat.add_sub_cancel, Nat.reducePow, Nat.zero_add, Nat.add_zero, Nat.reduceAdd, Nat.reduceMul, Nat.reduceSub, xf_same, xq_ff, xq_fo, xf_1, xf_2, xs_1, xs_2, xs_same, xq_so, xj_1, xj_2, xj_same, xq_jo, xq_sa1, xq_same, xq_other, upd_s, oI_n, oI_s, e10, ect, xf_46_1 F1, hs]
    refine by_iadd ?_
    refine by_sipush cs_2000 ?_
    refine by_ic_le 40 rfl ?_
    simp (disch := first | exact Nat.ne_of_beq_eq_false rfl | exact rfl | omega) only [nI_add, xa_sub, xa_mul, pk_div, nm_mod, xa_shr, xa_and7, xa_and1, xa_and255, xa_by_and, nI_m1, Nat.add_sub_cancel, Nat.reducePow, Nat.zero_add, Nat.add_zero, Nat.reduceAdd, Nat.reduceMul, Nat.reduceSub, xf_same, xq_ff, xq_fo, xf_1, xf_2, xs_1, xs_2, xs_same, xq_so, xj_1, xj_2, xj_same, xq_jo, xq_sa1, xq_same, xq_other, upd_s, oI_n, oI_s, xv_0, xv_1, xv_2, xv_3, xm_p1, xm_p2, xq_fp, xq_fn, List.filter_nil, Nat.reduceBEq, Bool.not_true, Bool.not_false, Bool.and_true, Bool.and_false, Bool.false_and, Bool.true_and, if_true, if_false, Bool.false_eq_true, reduceIte, xc_i, xc_j, xc_r, xc_n, List.nil_append, List.cons_append, Option.toList_some, Option.toList_none, nI_ltJ, nI_leJ, nI_eqJ, nI_ltz, nI_gez, nI_gtz, nI_lez, nI_eqz, m1_ltz, m1_gez, true_imp_iff, false_imp_iff, true_and, and_true, ne_eq, not_false_eq_true, not_true_eq_false, Nat.reduceEqDiff, Nat.reduceLT, Nat.reduceLeDiff, e10, ect, xf_46_1 F1, hs]
    refine ⟨fun c12 => ?_, fun c => absurd (by omega) c⟩
    with_reducible refine xm_go_blk b_X9_renew_40 k_X9_renew_40 ?_
    refine by_aload_n rfl ?_
    refine by_getf cn_157 fl_9_36 (by first | exact rfl | assumption) (by decide) ?_
    simp (disch := first | exact Nat.ne_of_beq_eq_false rfl | exact rfl | omega) only [nI_add, xa_sub, xa_mul, pk_div, nm_mod, xa_shr, xa_and7, xa_and1, xa_and255, xa_by_and, nI_m1, Nat.add_sub_cancel, Nat.reducePow, Nat.zero_add, Nat.add_zero, Nat.reduceAdd, Nat.reduceMul, Nat.reduceSub, xf_same, xq_ff, xq_fo, xf_1, xf_2, xs_1, xs_2, xs_same, xq_so, xj_1, xj_2, xj_same, xq_jo, xq_sa1, xq_same, xq_other, upd_s, oI_n, oI_s, e10, ect, xf_46_1 F1, hs]
    refine by_getf cn_157 fl_9_166 (by first | exact rfl | assumption | exact ps_0 hpp) (by decide) ?_
    simp (disch := first | exact Nat.ne_of_beq_eq_false rfl | exact rfl | omega) only [nI_add, xa_sub, xa_mul, pk_div, nm_mod, xa_shr, xa_and7, xa_and1, xa_and255, xa_by_and, nI_m1, Nat.add_sub_cancel, Nat.reducePow, Nat.zero_add, Nat.add_zero, Nat.reduceAdd, Nat.reduceMul, Nat.reduceSub, xf_same, xq_ff, xq_fo, xf_1, xf_2, xs_1, xs_2, xs_same, xq_so, xj_1, xj_2, xj_same, xq_jo, xq_sa1, xq_same, xq_other, upd_s, oI_n, oI_s, e10, ect, xf_46_1 F1, hs]
    refine by_istore_n (by rw [ml_157]; decide) ?_
    refine by_iconst ci_0 ?_
    refine by_istore (by rw [ml_157]; decide) ?_
    refine by_nil ?_
    try simp (disch := first | exact Nat.ne_of_beq_eq_false rfl | exact rfl | omega) only [nI_add, xa_sub, xa_mul, pk_div, nm_mod, xa_shr, xa_and7, xa_and1, xa_and255, xa_by_and, nI_m1, Nat.add_sub_cancel, Nat.reducePow, Nat.zero_add, Nat.add_zero, Nat.reduceAdd, Nat.reduceMul, Nat.reduceSub, xf_same, xq_ff, xq_fo, xf_1, xf_2, xs_1, xs_2, xs_same, xq_so, xj_1, xj_2, xj_same, xq_jo, xq_sa1, xq_same, xq_other, upd_s, oI_n, oI_s, xv_0, xv_1, xv_2, xv_3, xm_p1, xm_p2, xq_fp, xq_fn, List.filter_nil, Nat.reduceBEq, Bool.not_true, Bool.not_false, Bool.and_true, Bool.and_false, Bool.false_and, Bool.true_and, if_true, if_false, Bool.false_eq_true, reduceIte, xc_i, xc_j, xc_r, xc_n, List.nil_append, List.cons_append, Option.toList_some, Option.toList_none, e10, ect, xf_46_1 F1, hs]
    refine key L.length 0 h1 (by omega) Fr_rf ect ⟨hx, ?_⟩
    intro m hm
    obtain ⟨b1, b2, b3, b4, b5, b6⟩ := sCp_o (G := G) (L := L) (k := 0) (x := m) (Or.inl hm)
    rw [b1, b2, b3, b4, b5, b6, f1.1 _ r1, f1.1 _ r2, f1.1 _ r3, f1.1 _ r4, f1.1 _ r5, f1.1 _ r11]
    exact g3 m hm
end SY
