/-! ===== Loader.readProgram ===== -/
theorem cpy_lt {f g : Nat → Int32} {n i : Nat} (hi : i < n) : va_cpy f g 0 0 n i = f i := by simp [va_cpy, hi]
def lpM (h : xm_H) (pp : Nat) (l : List Nat) (r : Except Nat (List pr_D × Nat)) : Prop := match r with
  | .error x => 1 ≤ x ∧ ∃ a', ldS h pp l a' x
  | .ok (ps, b) => ldS h pp l b 0 ∧ ∃ hx nh, ndC h pp ps hx nh
section LP
variable {sc : xm_Sc} {d pp : Nat} {l : List Nat} {h : xm_H} {post : xm_Po}
theorem sp_pclear (hpp : pp = 52 ∨ pp = 77) (hp : post none (xm_sf (xm_sf (xm_sf h pp 0 (.int (nI 0))) pp 15 (.int (nI 0))) pp 14 (.int (nI 0)))) : xm_T (XE sc) (d + 1) 105 [.ref pp] h post := by
  refine xq_in rfl ?_
  simp only [xq_a0, xq_aI, xq_aJ, xq_aR, Nat.reduceAdd]
  with_reducible refine xm_go_blk b_X6_clear_0 k_X6_clear_0 ?_
  refine by_aload_n rfl ?_
  refine by_iconst ci_0 ?_
  refine by_putf cn_105 fl_6_59 (by first | exact rfl | assumption | exact ps_0 hpp) (by decide) nf_6_0 ft_6_0 (by first | rfl | assumption) (by first | rfl | assumption) ?_
  refine by_aload_n rfl ?_
  refine by_iconst ci_0 ?_
  refine by_putf cn_105 fl_6_63 (by first | exact rfl | assumption | exact ps_0 hpp) (by decide) nf_6_15 ft_6_15 (by first | rfl | assumption) (by first | rfl | assumption) ?_
  refine by_aload_n rfl ?_
  refine by_iconst ci_0 ?_
  refine by_putf cn_105 fl_6_66 (by first | exact rfl | assumption | exact ps_0 hpp) (by decide) nf_6_14 ft_6_14 (by first | rfl | assumption) (by first | rfl | assumption) ?_
  refine by_ret ry_105 ?_
  exact hp
theorem lp_108 {W : Nat} {r0 : Except Nat (List pr_D × Nat)} (hpp : pp = 52 ∨ pp = 77) (hr : pr_prog (by_bit l) (8 * l.length) = r0) (hfx : fxA h) (hO : ordI h W) (hW2 : W < 1000000) (hL : lpM h pp l r0)
    (hp : ∀ h' f ps a S T W', Fr (lgR pp) (lgT pp) h h' → LdF l f ps a S T → fxA h' → ordI h' W' → W' ≤ W + 1 → f ≤ 12 → (f = 0 → PF h' pp l ps a S T) → post (some (.int (nI f))) h') :
    xm_go (XE sc) (xm_T (XE sc) (d + 6)) 74 post 108 [(0, .ref 45)] [] h := by
  cases r0 with
  | error x =>
    obtain ⟨hx1, a', hS⟩ := hL
    have s7 := hS.2.2.2.2.2.2.1
    have s10 := hS.2.2.2.2.2.2.2.2.2
    have e0 : (x = 0) = False := eq_false (by omega)
    with_reducible refine xm_go_blk b_X3_readProgram_108 k_X3_readProgram_108 ?_
    refine by_aload_n rfl ?_
    refine by_getf cn_74 fl_3_47 (by first | exact rfl | assumption) (by decide) ?_
    simp (disch := first | exact Nat.ne_of_beq_eq_false rfl | exact rfl | omega) only [nI_add, xa_sub, xa_mul, pk_div, nm_mod, xa_shr, xa_and7, xa_and1, xa_and255, xa_by_and, nI_m1, Nat.add_sub_cancel, Nat.reducePow, Nat.zero_add, Nat.add_zero, Nat.reduceAdd, Nat.reduceMul, Nat.reduceSub, xf_same, xq_ff, xq_fo, xf_1, xf_2, xs_1, xs_2, xs_same, xq_so, xj_1, xj_2, xj_same, xq_jo, xq_sa1, xq_same, xq_other, upd_s, oI_n, oI_s, s7, e0]
    refine by_if_eq 120 rfl ?_
    simp (disch := first | exact Nat.ne_of_beq_eq_false rfl | exact rfl | omega) only [nI_add, xa_sub, xa_mul, pk_div, nm_mod, xa_shr, xa_and7, xa_and1, xa_and255, xa_by_and, nI_m1, Nat.add_sub_cancel, Nat.reducePow, Nat.zero_add, Nat.add_zero, Nat.reduceAdd, Nat.reduceMul, Nat.reduceSub, xf_same, xq_ff, xq_fo, xf_1, xf_2, xs_1, xs_2, xs_same, xq_so, xj_1, xj_2, xj_same, xq_jo, xq_sa1, xq_same, xq_other, upd_s, oI_n, oI_s, xv_0, xv_1, xv_2, xv_3, xm_p1, xm_p2, xq_fp, xq_fn, List.filter_nil, Nat.reduceBEq, Bool.not_true, Bool.not_false, Bool.and_true, Bool.and_false, Bool.false_and, Bool.true_and, if_true, if_false, Bool.false_eq_true, reduceIte, xc_i, xc_j, xc_r, xc_n, List.nil_append, List.cons_append, Option.toList_some, Option.toList_none, nI_ltJ, nI_leJ, nI_eqJ, nI_ltz, nI_gez, nI_gtz, nI_lez, nI_eqz, m1_ltz, m1_gez, true_imp_iff, false_imp_iff, true_and, and_true, ne_eq, not_false_eq_true, not_true_eq_false, Nat.reduceEqDiff, Nat.reduceLT, Nat.reduceLeDiff, s7, e0]
    with_reducible refine xm_go_blk b_X3_readProgram_115 k_X3_readProgram_115 ?_
    refine by_aload_n rfl ?_
    refine by_getf cn_74 fl_3_47 (by first | exact rfl | assumption) (by decide) ?_
    simp (disch := first | exact Nat.ne_of_beq_eq_false rfl | exact rfl | omega) only [nI_add, xa_sub, xa_mul, pk_div, nm_mod, xa_shr, xa_and7, xa_and1, xa_and255, xa_by_and, nI_m1, Nat.add_sub_cancel, Nat.reducePow, Nat.zero_add, Nat.add_zero, Nat.reduceAdd, Nat.reduceMul, Nat.reduceSub, xf_same, xq_ff, xq_fo, xf_1, xf_2, xs_1, xs_2, xs_same, xq_so, xj_1, xj_2, xj_same, xq_jo, xq_sa1, xq_same, xq_other, upd_s, oI_n, oI_s, s7, e0]
    refine by_iret ry_74 (by first | rfl | assumption) ?_
    exact hp h x [] 0 (fun _ => tO) (fun _ => tO) W Fr_rf (Or.inl ⟨hx1, hr⟩) hfx hO (by omega) s10 (fun z => by omega)
  | ok r =>
    obtain ⟨ps, b⟩ := r
    obtain ⟨hS, hx, nh, hC⟩ := hL
    have s7 := hS.2.2.2.2.2.2.1
    with_reducible refine xm_go_blk b_X3_readProgram_108 k_X3_readProgram_108 ?_
    refine by_aload_n rfl ?_
    refine by_getf cn_74 fl_3_47 (by first | exact rfl | assumption) (by decide) ?_
    simp (disch := first | exact Nat.ne_of_beq_eq_false rfl | exact rfl | omega) only [nI_add, xa_sub, xa_mul, pk_div, nm_mod, xa_shr, xa_and7, xa_and1, xa_and255, xa_by_and, nI_m1, Nat.add_sub_cancel, Nat.reducePow, Nat.zero_add, Nat.add_zero, Nat.reduceAdd, Nat.reduceMul, Nat.reduceSub, xf_same, xq_ff, xq_fo, xf_1, xf_2, xs_1, xs_2, xs_same, xq_so, xj_1, xj_2, xj_same, xq_jo, xq_sa1, xq_same, xq_other, upd_s, oI_n, oI_s, s7]
    refine by_if_eq 120 rfl ?_
    simp (disch := first | exact Nat.ne_of_beq_eq_false rfl | exact rfl | omega) only [nI_add, xa_sub, xa_mul, pk_div, nm_mod, xa_shr, xa_and7, xa_and1, xa_and255, xa_by_and, nI_m1, Nat.add_sub_cancel, Nat.reducePow, Nat.zero_add, Nat.add_zero, Nat.reduceAdd, Nat.reduceMul, Nat.reduceSub, xf_same, xq_ff, xq_fo, xf_1, xf_2, xs_1, xs_2, xs_same, xq_so, xj_1, xj_2, xj_same, xq_jo, xq_sa1, xq_same, xq_other, upd_s, oI_n, oI_s, xv_0, xv_1, xv_2, xv_3, xm_p1, xm_p2, xq_fp, xq_fn, List.filter_nil, Nat.reduceBEq, Bool.not_true, Bool.not_false, Bool.and_true, Bool.and_false, Bool.false_and, Bool.true_and, if_true, if_false, Bool.false_eq_true, reduceIte, xc_i, xc_j, xc_r, xc_n, List.nil_append, List.cons_append, Option.toList_some, Option.toList_none, nI_ltJ, nI_leJ, nI_eqJ, nI_ltz, nI_gez, nI_gtz, nI_lez, nI_eqz, m1_ltz, m1_gez, true_imp_iff, false_imp_iff, true_and, and_true, ne_eq, not_false_eq_true, not_true_eq_false, Nat.reduceEqDiff, Nat.reduceLT, Nat.reduceLeDiff, s7]
    exact xm_go_wk (by simp [Value.category]) (lp_120 hpp hr hS hC hfx hO hW2 (fun h' f S T hf hG hA hO' hf12 hPF => hp h' f ps b S T (W + 1) hf (Or.inr ⟨hr, hG⟩) hA hO' (by omega) hf12 hPF))
theorem sp_readProgram {W : Nat} (hF : XF h) (hpp : pp = 52 ∨ pp = 77) (hrow : rowIs h 1 2 l) (hfx : fxA h) (hO : ordI h W) (hW2 : W < 1000000)
    (hp : ∀ h' f ps a S T W', Fr (lgR pp) (lgT pp) h h' → LdF l f ps a S T → fxA h' → ordI h' W' → W' ≤ W + 1 → f ≤ 12 → (f = 0 → PF h' pp l ps a S T) → post (some (.int (nI f))) h') :
    xm_T (XE sc) (d + 7) 74 [.ref 45, .ref 1, .ref pp] h post := by
  refine xq_in rfl ?_
  simp only [xq_a0, xq_aI, xq_aJ, xq_aR, Nat.reduceAdd]
  with_reducible refine xm_go_blk b_X3_readProgram_0 k_X3_readProgram_0 ?_
  refine by_aload_n rfl ?_
  refine by_aload_n rfl ?_
  refine by_putf cn_74 fl_3_15 (by first | exact rfl | assumption) (by decide) nf_3_1 ft_3_1 (by first | rfl | assumption) (by first | rfl | assumption) ?_
  refine by_aload_n rfl ?_
  refine by_getf cn_74 fl_3_15 (by first | exact rfl | assumption) (by decide) ?_
  simp (disch := first | exact Nat.ne_of_beq_eq_false rfl | exact rfl | omega) only [nI_add, xa_sub, xa_mul, pk_div, nm_mod, xa_shr, xa_and7, xa_and1, xa_and255, xa_by_and, nI_m1, Nat.add_sub_cancel, Nat.reducePow, Nat.zero_add, Nat.add_zero, Nat.reduceAdd, Nat.reduceMul, Nat.reduceSub, xf_same, xq_ff, xq_fo, xf_1, xf_2, xs_1, xs_2, xs_same, xq_so, xj_1, xj_2, xj_same, xq_jo, xq_sa1, xq_same, xq_other, upd_s, oI_n, oI_s, xv_0, xv_1, xv_2, xv_3, xm_p1, xm_p2, xq_fp, xq_fn, List.filter_nil, Nat.reduceBEq, Bool.not_true, Bool.not_false, Bool.and_true, Bool.and_false, Bool.false_and, Bool.true_and, if_true, if_false, Bool.false_eq_true, reduceIte, xc_i, xc_j, xc_r, xc_n, List.nil_append, List.cons_append, Option.toList_some, Option.toList_none]
  refine by_inv0 cn_74 lk_3_19 (by rw [xe_cnt]; decide) is_105 np_105 cn_105 (by first | exact rfl | assumption | exact ps_0 hpp) (Nat.le_of_ble_eq_true rfl) ?_
  refine sp_pclear hpp ?_
  have f1 : Fr (lgR pp) (lgT pp) h (xm_sf (xm_sf (xm_sf (xm_sf h 45 1 (.ref pp)) pp 0 (.int (nI 0))) pp 15 (.int (nI 0))) pp 14 (.int (nI 0))) := Fr_sf (Fr_sf (Fr_sf (Fr_sf Fr_rf (by simp [lgT])) (by simp [lgT])) (by simp [lgT])) (by simp [lgT])
  have f1' : Fr [] [(45, 1), (pp, 0), (pp, 15), (pp, 14)] h (xm_sf (xm_sf (xm_sf (xm_sf h 45 1 (.ref pp)) pp 0 (.int (nI 0))) pp 15 (.int (nI 0))) pp 14 (.int (nI 0))) := Fr_sf (Fr_sf (Fr_sf (Fr_sf Fr_rf (by simp)) (by simp)) (by simp)) (by simp)
  have F1 := Fr_XF hF f1 (lg_fin hpp)
  have e45 : (xm_sf (xm_sf (xm_sf (xm_sf h 45 1 (.ref pp)) pp 0 (.int (nI 0))) pp 15 (.int (nI 0))) pp 14 (.int (nI 0))).2.2 45 1 = .ref pp := by
    rw [xq_fo (by omega), xq_fo (by omega), xq_fo (by omega)]; simp only [xf_same]
  have ep0 : (xm_sf (xm_sf (xm_sf (xm_sf h 45 1 (.ref pp)) pp 0 (.int (nI 0))) pp 15 (.int (nI 0))) pp 14 (.int (nI 0))).2.2 pp 0 = .int (nI 0) := by
    rw [xq_ff (by omega), xq_ff (by omega)]; simp only [xf_same]
  have ep15 : (xm_sf (xm_sf (xm_sf (xm_sf h 45 1 (.ref pp)) pp 0 (.int (nI 0))) pp 15 (.int (nI 0))) pp 14 (.int (nI 0))).2.2 pp 15 = .int (nI 0) := by
    rw [xq_ff (by omega)]; simp only [xf_same]
  have row1 : rowIs (xm_sf (xm_sf (xm_sf (xm_sf h 45 1 (.ref pp)) pp 0 (.int (nI 0))) pp 15 (.int (nI 0))) pp 14 (.int (nI 0))) 1 2 l := rowIs_fr hrow f1 (by simp [lgR] <;> omega) (by simp [lgT] <;> omega) (by simp [lgT] <;> omega)
  generalize xm_sf (xm_sf (xm_sf (xm_sf h 45 1 (.ref pp)) pp 0 (.int (nI 0))) pp 15 (.int (nI 0))) pp 14 (.int (nI 0)) = h1 at *
  with_reducible refine xm_go_blk b_X3_readProgram_12 k_X3_readProgram_12 ?_
  refine by_aload_n rfl ?_
  refine by_getf cn_74 fl_3_15 (by first | exact rfl | assumption) (by decide) ?_
  simp (disch := first | exact Nat.ne_of_beq_eq_false rfl | exact rfl | omega) only [nI_add, xa_sub, xa_mul, pk_div, nm_mod, xa_shr, xa_and7, xa_and1, xa_and255, xa_by_and, nI_m1, Nat.add_sub_cancel, Nat.reducePow, Nat.zero_add, Nat.add_zero, Nat.reduceAdd, Nat.reduceMul, Nat.reduceSub, xf_same, xq_ff, xq_fo, xf_1, xf_2, xs_1, xs_2, xs_same, xq_so, xj_1, xj_2, xj_same, xq_jo, xq_sa1, xq_same, xq_other, upd_s, oI_n, oI_s, e45, pf_12 F1 hpp]
  refine by_getf cn_74 fl_3_24 (by first | exact rfl | assumption | exact ps_0 hpp) (by decide) ?_
  refine by_aload_n rfl ?_
  simp (disch := first | exact Nat.ne_of_beq_eq_false rfl | exact rfl | omega) only [nI_add, xa_sub, xa_mul, pk_div, nm_mod, xa_shr, xa_and7, xa_and1, xa_and255, xa_by_and, nI_m1, Nat.add_sub_cancel, Nat.reducePow, Nat.zero_add, Nat.add_zero, Nat.reduceAdd, Nat.reduceMul, Nat.reduceSub, xf_same, xq_ff, xq_fo, xf_1, xf_2, xs_1, xs_2, xs_same, xq_so, xj_1, xj_2, xj_same, xq_jo, xq_sa1, xq_same, xq_other, upd_s, oI_n, oI_s, xv_0, xv_1, xv_2, xv_3, xm_p1, xm_p2, xq_fp, xq_fn, List.filter_nil, Nat.reduceBEq, Bool.not_true, Bool.not_false, Bool.and_true, Bool.and_false, Bool.false_and, Bool.true_and, if_true, if_false, Bool.false_eq_true, reduceIte, xc_i, xc_j, xc_r, xc_n, List.nil_append, List.cons_append, Option.toList_some, Option.toList_none, e45, pf_12 F1 hpp]
  refine by_inv1 cn_74 lk_3_28 (by rw [xe_cnt]; decide) is_129 np_129 cn_129 (by first | exact rfl | assumption | exact ps_12 hpp) (Nat.le_of_ble_eq_true rfl) ?_
  refine sp_copy (n := l.length) (ps_12 hpp) (ps_13 hpp) (pw_0 F1 hpp) rfl rfl row1.1 row1.2.1 (by rcases hpp with rfl | rfl <;> rfl) row1.2.2.1 row1.2.2.2.2 ?_
  have f2 : Fr [pp + 13] [(pp + 12, 1), (pp + 12, 2), (pp + 12, 3)] h1 (xm_sa (xm_sf (xm_sf (xm_sf (xm_sf h1 (pp + 12) 1 (.int (nI 0))) (pp + 12) 3 (.int (nI 0))) (pp + 12) 2 (.int (nI 0))) (pp + 12) 1 (.int (nI l.length))) (pp + 13) (va_cpy (h1.1 2) (h1.1 (pp + 13)) 0 0 l.length)) := Fr_sa (Fr_sf (Fr_sf (Fr_sf (Fr_sf Fr_rf (by simp)) (by simp)) (by simp)) (by simp)) (by simp)
  have hrowN : rowIs (xm_sa (xm_sf (xm_sf (xm_sf (xm_sf h1 (pp + 12) 1 (.int (nI 0))) (pp + 12) 3 (.int (nI 0))) (pp + 12) 2 (.int (nI 0))) (pp + 12) 1 (.int (nI l.length))) (pp + 13) (va_cpy (h1.1 2) (h1.1 (pp + 13)) 0 0 l.length)) (pp + 12) (pp + 13) l := by
    refine ⟨by rw [f2.2.2 _ _ (by simp)]; exact pw_0 F1 hpp, ?_, row1.2.2.1, fun i hi => ?_, fun i hi => ?_⟩
    · show (xm_sf (xm_sf (xm_sf (xm_sf h1 (pp + 12) 1 (.int (nI 0))) (pp + 12) 3 (.int (nI 0))) (pp + 12) 2 (.int (nI 0))) (pp + 12) 1 (.int (nI l.length))).2.2 (pp + 12) 1 = _
      simp only [xf_same]
    · rw [xq_same, cpy_lt hi]; exact row1.2.2.2.1 i hi
    · rw [xq_same, cpy_lt hi]; exact row1.2.2.2.2 i hi
  have F2 := Fr_XF F1 f2 (by rcases hpp with rfl | rfl <;> decide +kernel)
  have e45' : (xm_sa (xm_sf (xm_sf (xm_sf (xm_sf h1 (pp + 12) 1 (.int (nI 0))) (pp + 12) 3 (.int (nI 0))) (pp + 12) 2 (.int (nI 0))) (pp + 12) 1 (.int (nI l.length))) (pp + 13) (va_cpy (h1.1 2) (h1.1 (pp + 13)) 0 0 l.length)).2.2 45 1 = .ref pp := by rw [f2.2.2 _ _ (by simp <;> omega)]; exact e45
  have ep0' : (xm_sa (xm_sf (xm_sf (xm_sf (xm_sf h1 (pp + 12) 1 (.int (nI 0))) (pp + 12) 3 (.int (nI 0))) (pp + 12) 2 (.int (nI 0))) (pp + 12) 1 (.int (nI l.length))) (pp + 13) (va_cpy (h1.1 2) (h1.1 (pp + 13)) 0 0 l.length)).2.2 pp 0 = .int (nI 0) := by rw [f2.2.2 _ _ (by simp)]; exact ep0
  have ep15' : (xm_sa (xm_sf (xm_sf (xm_sf (xm_sf h1 (pp + 12) 1 (.int (nI 0))) (pp + 12) 3 (.int (nI 0))) (pp + 12) 2 (.int (nI 0))) (pp + 12) 1 (.int (nI l.length))) (pp + 13) (va_cpy (h1.1 2) (h1.1 (pp + 13)) 0 0 l.length)).2.2 pp 15 = .int (nI 0) := by rw [f2.2.2 _ _ (by simp)]; exact ep15
  have f02 : Fr (lgR pp) (lgT pp) h (xm_sa (xm_sf (xm_sf (xm_sf (xm_sf h1 (pp + 12) 1 (.int (nI 0))) (pp + 12) 3 (.int (nI 0))) (pp + 12) 2 (.int (nI 0))) (pp + 12) 1 (.int (nI l.length))) (pp + 13) (va_cpy (h1.1 2) (h1.1 (pp + 13)) 0 0 l.length)) := Fr_tr f1 f2 (by simp [lgR]) (by simp [lgT])
  generalize xm_sa (xm_sf (xm_sf (xm_sf (xm_sf h1 (pp + 12) 1 (.int (nI 0))) (pp + 12) 3 (.int (nI 0))) (pp + 12) 2 (.int (nI 0))) (pp + 12) 1 (.int (nI l.length))) (pp + 13) (va_cpy (h1.1 2) (h1.1 (pp + 13)) 0 0 l.length) = h2 at *
  have hlen := hrowN.2.2.1
  with_reducible refine xm_go_blk b_X3_readProgram_23 k_X3_readProgram_23 ?_
  refine by_aload_n rfl ?_
  refine by_aload_n rfl ?_
  refine by_getf cn_74 fl_3_15 (by first | exact rfl | assumption) (by decide) ?_
  simp (disch := first | exact Nat.ne_of_beq_eq_false rfl | exact rfl | omega) only [nI_add, xa_sub, xa_mul, pk_div, nm_mod, xa_shr, xa_and7, xa_and1, xa_and255, xa_by_and, nI_m1, Nat.add_sub_cancel, Nat.reducePow, Nat.zero_add, Nat.add_zero, Nat.reduceAdd, Nat.reduceMul, Nat.reduceSub, xf_same, xq_ff, xq_fo, xf_1, xf_2, xs_1, xs_2, xs_same, xq_so, xj_1, xj_2, xj_same, xq_jo, xq_sa1, xq_same, xq_other, upd_s, oI_n, oI_s, e45', pf_12 F2 hpp, hrowN.2.1]
  refine by_getf cn_74 fl_3_24 (by first | exact rfl | assumption | exact ps_0 hpp) (by decide) ?_
  simp (disch := first | exact Nat.ne_of_beq_eq_false rfl | exact rfl | omega) only [nI_add, xa_sub, xa_mul, pk_div, nm_mod, xa_shr, xa_and7, xa_and1, xa_and255, xa_by_and, nI_m1, Nat.add_sub_cancel, Nat.reducePow, Nat.zero_add, Nat.add_zero, Nat.reduceAdd, Nat.reduceMul, Nat.reduceSub, xf_same, xq_ff, xq_fo, xf_1, xf_2, xs_1, xs_2, xs_same, xq_so, xj_1, xj_2, xj_same, xq_jo, xq_sa1, xq_same, xq_other, upd_s, oI_n, oI_s, e45', pf_12 F2 hpp, hrowN.2.1]
  refine by_putf cn_74 fl_3_34 (by first | exact rfl | assumption) (by decide) nf_3_2 ft_3_2 (by first | rfl | assumption) (by first | rfl | assumption) ?_
  refine by_aload_n rfl ?_
  refine by_iconst ci_0 ?_
  refine by_putf cn_74 fl_3_37 (by first | exact rfl | assumption) (by decide) nf_3_3 ft_3_3 (by first | rfl | assumption) (by first | rfl | assumption) ?_
  refine by_aload_n rfl ?_
  refine by_bipush cb_8 ?_
  refine by_aload_n rfl ?_
  refine by_getf cn_74 fl_3_34 (by first | exact rfl | assumption) (by decide) ?_
  simp (disch := first | exact Nat.ne_of_beq_eq_false rfl | exact rfl | omega) only [nI_add, xa_sub, xa_mul, pk_div, nm_mod, xa_shr, xa_and7, xa_and1, xa_and255, xa_by_and, nI_m1, Nat.add_sub_cancel, Nat.reducePow, Nat.zero_add, Nat.add_zero, Nat.reduceAdd, Nat.reduceMul, Nat.reduceSub, xf_same, xq_ff, xq_fo, xf_1, xf_2, xs_1, xs_2, xs_same, xq_so, xj_1, xj_2, xj_same, xq_jo, xq_sa1, xq_same, xq_other, upd_s, oI_n, oI_s, e45', pf_12 F2 hpp, hrowN.2.1]
  refine by_getf cn_74 fl_3_41 (by first | exact rfl | assumption | exact ps_12 hpp) (by decide) ?_
  simp (disch := first | exact Nat.ne_of_beq_eq_false rfl | exact rfl | omega) only [nI_add, xa_sub, xa_mul, pk_div, nm_mod, xa_shr, xa_and7, xa_and1, xa_and255, xa_by_and, nI_m1, Nat.add_sub_cancel, Nat.reducePow, Nat.zero_add, Nat.add_zero, Nat.reduceAdd, Nat.reduceMul, Nat.reduceSub, xf_same, xq_ff, xq_fo, xf_1, xf_2, xs_1, xs_2, xs_same, xq_so, xj_1, xj_2, xj_same, xq_jo, xq_sa1, xq_same, xq_other, upd_s, oI_n, oI_s, e45', pf_12 F2 hpp, hrowN.2.1]
  refine by_imul ?_
  refine by_putf cn_74 fl_3_44 (by first | exact rfl | assumption) (by decide) nf_3_4 ft_3_4 (by first | rfl | assumption) (by first | rfl | assumption) ?_
  refine by_aload_n rfl ?_
  refine by_iconst ci_0 ?_
  refine by_putf cn_74 fl_3_47 (by first | exact rfl | assumption) (by decide) nf_3_5 ft_3_5 (by first | rfl | assumption) (by first | rfl | assumption) ?_
  refine by_aload_n rfl ?_
  simp (disch := first | exact Nat.ne_of_beq_eq_false rfl | exact rfl | omega) only [nI_add, xa_sub, xa_mul, pk_div, nm_mod, xa_shr, xa_and7, xa_and1, xa_and255, xa_by_and, nI_m1, Nat.add_sub_cancel, Nat.reducePow, Nat.zero_add, Nat.add_zero, Nat.reduceAdd, Nat.reduceMul, Nat.reduceSub, xf_same, xq_ff, xq_fo, xf_1, xf_2, xs_1, xs_2, xs_same, xq_so, xj_1, xj_2, xj_same, xq_jo, xq_sa1, xq_same, xq_other, upd_s, oI_n, oI_s, xv_0, xv_1, xv_2, xv_3, xm_p1, xm_p2, xq_fp, xq_fn, List.filter_nil, Nat.reduceBEq, Bool.not_true, Bool.not_false, Bool.and_true, Bool.and_false, Bool.false_and, Bool.true_and, if_true, if_false, Bool.false_eq_true, reduceIte, xc_i, xc_j, xc_r, xc_n, List.nil_append, List.cons_append, Option.toList_some, Option.toList_none, e45', pf_12 F2 hpp, hrowN.2.1]
  refine by_inv0 cn_74 lk_3_50 (by rw [xe_cnt]; decide) is_72 np_72 cn_72 (by first | exact rfl | assumption) (Nat.le_of_ble_eq_true rfl) ?_
  have f3 : Fr [] [(45, 2), (45, 3), (45, 4), (45, 5)] h2 (xm_sf (xm_sf (xm_sf (xm_sf h2 45 2 (.ref (pp + 12))) 45 3 (.int (nI 0))) 45 4 (.int (nI (8 * l.length)))) 45 5 (.int (nI 0))) := Fr_sf (Fr_sf (Fr_sf (Fr_sf Fr_rf (by simp)) (by simp)) (by simp)) (by simp)
  have F3 := Fr_XF F2 f3 (by decide +kernel)
  have hS3 : ldS (xm_sf (xm_sf (xm_sf (xm_sf h2 45 2 (.ref (pp + 12))) 45 3 (.int (nI 0))) 45 4 (.int (nI (8 * l.length)))) 45 5 (.int (nI 0))) pp l 0 0 := by
    refine ⟨F3, hpp, by rw [f3.2.2 _ _ (by simp)]; exact e45', ?_, ?_, ?_, ?_, rowIs_fr hrowN f3 (by simp) (by simp <;> omega) (by simp <;> omega), Nat.zero_le _, by decide⟩
    · rw [xq_ff (by omega), xq_ff (by omega), xq_ff (by omega)]; simp only [xf_same]
    · rw [xq_ff (by omega), xq_ff (by omega)]; simp only [xf_same]
    · rw [xq_ff (by omega)]; simp only [xf_same]
    · simp only [xf_same]
  have ep0'' : (xm_sf (xm_sf (xm_sf (xm_sf h2 45 2 (.ref (pp + 12))) 45 3 (.int (nI 0))) 45 4 (.int (nI (8 * l.length)))) 45 5 (.int (nI 0))).2.2 pp 0 = .int (nI 0) := by rw [f3.2.2 _ _ (by simp <;> omega)]; exact ep0'
  have ep15'' : (xm_sf (xm_sf (xm_sf (xm_sf h2 45 2 (.ref (pp + 12))) 45 3 (.int (nI 0))) 45 4 (.int (nI (8 * l.length)))) 45 5 (.int (nI 0))).2.2 pp 15 = .int (nI 0) := by rw [f3.2.2 _ _ (by simp <;> omega)]; exact ep15'
  have f03 : Fr (lgR pp) (lgT pp) h (xm_sf (xm_sf (xm_sf (xm_sf h2 45 2 (.ref (pp + 12))) 45 3 (.int (nI 0))) 45 4 (.int (nI (8 * l.length)))) 45 5 (.int (nI 0))) := Fr_tr f02 f3 (by simp) (by simp [lgT])
  have f03' : Fr [pp + 13] [(45, 1), (45, 2), (45, 3), (45, 4), (45, 5), (pp, 0), (pp, 14), (pp, 15), (pp + 12, 1), (pp + 12, 2), (pp + 12, 3)] h (xm_sf (xm_sf (xm_sf (xm_sf h2 45 2 (.ref (pp + 12))) 45 3 (.int (nI 0))) 45 4 (.int (nI (8 * l.length)))) 45 5 (.int (nI 0))) := Fr_tr (Fr_tr (Fr_mo f1' (by simp) (by simp)) f2 (by simp) (by simp)) f3 (by simp) (by simp)
  generalize xm_sf (xm_sf (xm_sf (xm_sf h2 45 2 (.ref (pp + 12))) 45 3 (.int (nI 0))) 45 4 (.int (nI (8 * l.length)))) 45 5 (.int (nI 0)) = h3 at *
  have ends : ∀ h5 r0, pr_prog (by_bit l) (8 * l.length) = r0 → Fr ((pp + 13) :: ldR pp) [(45, 1), (45, 2), (45, 3), (45, 4), (45, 5), (pp, 0), (pp, 14), (pp, 15), (pp + 12, 1), (pp + 12, 2), (pp + 12, 3)] h h5 → lpM h5 pp l r0 → xm_go (XE sc) (xm_T (XE sc) (d + 6)) 74 post 108 [(0, .ref 45)] [] h5 := by
    intro h5 r0 hr f5 hL
    refine lp_108 hpp hr (fun t ht => ?_) ⟨by rw [f5.2.2 _ _ (by simp <;> omega)]; exact hO.1, fun x hx => by rw [f5.1 10 (by simp [ldR] <;> omega)]; exact hO.2 x hx⟩ hW2 hL (fun h' f ps a S T W' hf hG hA hO' hw hf12 hPF => hp h' f ps a S T W' (Fr_tr (Fr_mo f5 (by simp [ldR, lgR]) (by simp [lgT])) hf (fun _ z => z) (fun _ z => z)) hG hA hO' hw hf12 hPF)
    rw [f5.1 16 (by simp [ldR] <;> omega), f5.1 17 (by simp [ldR] <;> omega), f5.1 18 (by simp [ldR] <;> omega)]
    exact hfx t ht
  refine sp_rdN hS3 (fun y h4 hN4 => ?_)
  obtain ⟨f4, hr4⟩ := hN4
  have f04 : Fr ((pp + 13) :: ldR pp) [(45, 1), (45, 2), (45, 3), (45, 4), (45, 5), (pp, 0), (pp, 14), (pp, 15), (pp + 12, 1), (pp + 12, 2), (pp + 12, 3)] h h4 := Fr_tr (Fr_mo f03' (by simp) (fun _ z => z)) f4 (by simp) (by simp)
  unfold pr_prog at ends
  cases er : pr_nat (by_bit l) (8 * l.length) 0 with
  | error x =>
    rw [er] at hr4 ends
    obtain ⟨hx1, a', hS4⟩ := hr4
    have s7 := hS4.2.2.2.2.2.2.1
    have s10 := hS4.2.2.2.2.2.2.2.2.2
    have e0 : (x = 0) = False := eq_false (by omega)
    have hg := ends h4 (.error x) rfl f04 ⟨hx1, a', hS4⟩
    with_reducible refine xm_go_blk b_X3_readProgram_62 k_X3_readProgram_62 ?_
    refine by_istore_n (by rw [ml_74]; decide) ?_
    refine by_aload_n rfl ?_
    refine by_getf cn_74 fl_3_47 (by first | exact rfl | assumption) (by decide) ?_
    simp (disch := first | exact Nat.ne_of_beq_eq_false rfl | exact rfl | omega) only [nI_add, xa_sub, xa_mul, pk_div, nm_mod, xa_shr, xa_and7, xa_and1, xa_and255, xa_by_and, nI_m1, Nat.add_sub_cancel, Nat.reducePow, Nat.zero_add, Nat.add_zero, Nat.reduceAdd, Nat.reduceMul, Nat.reduceSub, xf_same, xq_ff, xq_fo, xf_1, xf_2, xs_1, xs_2, xs_same, xq_so, xj_1, xj_2, xj_same, xq_jo, xq_sa1, xq_same, xq_other, upd_s, oI_n, oI_s, s7, e0]
    refine by_if_ne 82 rfl ?_
    simp (disch := first | exact Nat.ne_of_beq_eq_false rfl | exact rfl | omega) only [nI_add, xa_sub, xa_mul, pk_div, nm_mod, xa_shr, xa_and7, xa_and1, xa_and255, xa_by_and, nI_m1, Nat.add_sub_cancel, Nat.reducePow, Nat.zero_add, Nat.add_zero, Nat.reduceAdd, Nat.reduceMul, Nat.reduceSub, xf_same, xq_ff, xq_fo, xf_1, xf_2, xs_1, xs_2, xs_same, xq_so, xj_1, xj_2, xj_same, xq_jo, xq_sa1, xq_same, xq_other, upd_s, oI_n, oI_s, xv_0, xv_1, xv_2, xv_3, xm_p1, xm_p2, xq_fp, xq_fn, List.filter_nil, Nat.reduceBEq, Bool.not_true, Bool.not_false, Bool.and_true, Bool.and_false, Bool.false_and, Bool.true_and, if_true, if_false, Bool.false_eq_true, reduceIte, xc_i, xc_j, xc_r, xc_n, List.nil_append, List.cons_append, Option.toList_some, Option.toList_none, nI_ltJ, nI_leJ, nI_eqJ, nI_ltz, nI_gez, nI_gtz, nI_lez, nI_eqz, m1_ltz, m1_gez, true_imp_iff, false_imp_iff, true_and, and_true, ne_eq, not_false_eq_true, not_true_eq_false, Nat.reduceEqDiff, Nat.reduceLT, Nat.reduceLeDiff, s7, e0]
    with_reducible refine xm_go_blk b_X3_readProgram_82 k_X3_readProgram_82 ?_
    refine by_iconst ci_0 ?_
    refine by_istore (by rw [ml_74]; decide) ?_
    refine by_nil ?_
    simp (disch := first | exact Nat.ne_of_beq_eq_false rfl | exact rfl | omega) only [nI_add, xa_sub, xa_mul, pk_div, nm_mod, xa_shr, xa_and7, xa_and1, xa_and255, xa_by_and, nI_m1, Nat.add_sub_cancel, Nat.reducePow, Nat.zero_add, Nat.add_zero, Nat.reduceAdd, Nat.reduceMul, Nat.reduceSub, xf_same, xq_ff, xq_fo, xf_1, xf_2, xs_1, xs_2, xs_same, xq_so, xj_1, xj_2, xj_same, xq_jo, xq_sa1, xq_same, xq_other, upd_s, oI_n, oI_s, xv_0, xv_1, xv_2, xv_3, xm_p1, xm_p2, xq_fp, xq_fn, List.filter_nil, Nat.reduceBEq, Bool.not_true, Bool.not_false, Bool.and_true, Bool.and_false, Bool.false_and, Bool.true_and, if_true, if_false, Bool.false_eq_true, reduceIte, xc_i, xc_j, xc_r, xc_n, List.nil_append, List.cons_append, Option.toList_some, Option.toList_none, s7, e0]
    with_reducible refine xm_go_blk b_X3_readProgram_85 k_X3_readProgram_85 ?_
    refine by_iload rfl ?_
    refine by_iload_n rfl ?_
    refine by_ic_ge 108 rfl ?_
    simp (disch := first | exact Nat.ne_of_beq_eq_false rfl | exact rfl | omega) only [nI_add, xa_sub, xa_mul, pk_div, nm_mod, xa_shr, xa_and7, xa_and1, xa_and255, xa_by_and, nI_m1, Nat.add_sub_cancel, Nat.reducePow, Nat.zero_add, Nat.add_zero, Nat.reduceAdd, Nat.reduceMul, Nat.reduceSub, xf_same, xq_ff, xq_fo, xf_1, xf_2, xs_1, xs_2, xs_same, xq_so, xj_1, xj_2, xj_same, xq_jo, xq_sa1, xq_same, xq_other, upd_s, oI_n, oI_s, xv_0, xv_1, xv_2, xv_3, xm_p1, xm_p2, xq_fp, xq_fn, List.filter_nil, Nat.reduceBEq, Bool.not_true, Bool.not_false, Bool.and_true, Bool.and_false, Bool.false_and, Bool.true_and, if_true, if_false, Bool.false_eq_true, reduceIte, xc_i, xc_j, xc_r, xc_n, List.nil_append, List.cons_append, Option.toList_some, Option.toList_none, nI_ltJ, nI_leJ, nI_eqJ, nI_ltz, nI_gez, nI_gtz, nI_lez, nI_eqz, m1_ltz, m1_gez, true_imp_iff, false_imp_iff, true_and, and_true, ne_eq, not_false_eq_true, not_true_eq_false, Nat.reduceEqDiff, Nat.reduceLT, Nat.reduceLeDiff, s7, e0]
    refine ⟨fun c => ?_, fun c => ?_⟩
    · exact xm_go_wk (by simp [Value.category]) hg
    · with_reducible refine xm_go_blk b_X3_readProgram_91 k_X3_readProgram_91 ?_
      refine by_aload_n rfl ?_
      refine by_getf cn_74 fl_3_47 (by first | exact rfl | assumption) (by decide) ?_
      simp (disch := first | exact Nat.ne_of_beq_eq_false rfl | exact rfl | omega) only [nI_add, xa_sub, xa_mul, pk_div, nm_mod, xa_shr, xa_and7, xa_and1, xa_and255, xa_by_and, nI_m1, Nat.add_sub_cancel, Nat.reducePow, Nat.zero_add, Nat.add_zero, Nat.reduceAdd, Nat.reduceMul, Nat.reduceSub, xf_same, xq_ff, xq_fo, xf_1, xf_2, xs_1, xs_2, xs_same, xq_so, xj_1, xj_2, xj_same, xq_jo, xq_sa1, xq_same, xq_other, upd_s, oI_n, oI_s, s7, e0]
      refine by_if_ne 108 rfl ?_
      simp (disch := first | exact Nat.ne_of_beq_eq_false rfl | exact rfl | omega) only [nI_add, xa_sub, xa_mul, pk_div, nm_mod, xa_shr, xa_and7, xa_and1, xa_and255, xa_by_and, nI_m1, Nat.add_sub_cancel, Nat.reducePow, Nat.zero_add, Nat.add_zero, Nat.reduceAdd, Nat.reduceMul, Nat.reduceSub, xf_same, xq_ff, xq_fo, xf_1, xf_2, xs_1, xs_2, xs_same, xq_so, xj_1, xj_2, xj_same, xq_jo, xq_sa1, xq_same, xq_other, upd_s, oI_n, oI_s, xv_0, xv_1, xv_2, xv_3, xm_p1, xm_p2, xq_fp, xq_fn, List.filter_nil, Nat.reduceBEq, Bool.not_true, Bool.not_false, Bool.and_true, Bool.and_false, Bool.false_and, Bool.true_and, if_true, if_false, Bool.false_eq_true, reduceIte, xc_i, xc_j, xc_r, xc_n, List.nil_append, List.cons_append, Option.toList_some, Option.toList_none, nI_ltJ, nI_leJ, nI_eqJ, nI_ltz, nI_gez, nI_gtz, nI_lez, nI_eqz, m1_ltz, m1_gez, true_imp_iff, false_imp_iff, true_and, and_true, ne_eq, not_false_eq_true, not_true_eq_false, Nat.reduceEqDiff, Nat.reduceLT, Nat.reduceLeDiff, s7, e0]
      exact xm_go_wk (by simp [Value.category]) hg
  | ok r =>
    obtain ⟨N, b⟩ := r
    rw [er] at hr4 ends
    obtain ⟨hy, hS4⟩ := hr4
    subst hy
    obtain ⟨k1, k2, k3, k4⟩ := pr_nat_le (by_bit_lt l) (Nat.zero_le _) er
    have s7 := hS4.2.2.2.2.2.2.1
    simp only at ends
    by_cases q : 400 < N
    · rw [if_pos q] at ends
      have hS5 : ldS (xm_sf h4 45 5 (.int (nI 4))) pp l b 4 := ldS_f hS4 (by decide)
      have hg := ends (xm_sf h4 45 5 (.int (nI 4))) (.error 4) rfl (Fr_sf f04 (by simp)) ⟨by decide, b, hS5⟩
      with_reducible refine xm_go_blk b_X3_readProgram_62 k_X3_readProgram_62 ?_
      refine by_istore_n (by rw [ml_74]; decide) ?_
      refine by_aload_n rfl ?_
      refine by_getf cn_74 fl_3_47 (by first | exact rfl | assumption) (by decide) ?_
      simp (disch := first | exact Nat.ne_of_beq_eq_false rfl | exact rfl | omega) only [nI_add, xa_sub, xa_mul, pk_div, nm_mod, xa_shr, xa_and7, xa_and1, xa_and255, xa_by_and, nI_m1, Nat.add_sub_cancel, Nat.reducePow, Nat.zero_add, Nat.add_zero, Nat.reduceAdd, Nat.reduceMul, Nat.reduceSub, xf_same, xq_ff, xq_fo, xf_1, xf_2, xs_1, xs_2, xs_same, xq_so, xj_1, xj_2, xj_same, xq_jo, xq_sa1, xq_same, xq_other, upd_s, oI_n, oI_s, s7]
      refine by_if_ne 82 rfl ?_
      simp (disch := first | exact Nat.ne_of_beq_eq_false rfl | exact rfl | omega) only [nI_add, xa_sub, xa_mul, pk_div, nm_mod, xa_shr, xa_and7, xa_and1, xa_and255, xa_by_and, nI_m1, Nat.add_sub_cancel, Nat.reducePow, Nat.zero_add, Nat.add_zero, Nat.reduceAdd, Nat.reduceMul, Nat.reduceSub, xf_same, xq_ff, xq_fo, xf_1, xf_2, xs_1, xs_2, xs_same, xq_so, xj_1, xj_2, xj_same, xq_jo, xq_sa1, xq_same, xq_other, upd_s, oI_n, oI_s, xv_0, xv_1, xv_2, xv_3, xm_p1, xm_p2, xq_fp, xq_fn, List.filter_nil, Nat.reduceBEq, Bool.not_true, Bool.not_false, Bool.and_true, Bool.and_false, Bool.false_and, Bool.true_and, if_true, if_false, Bool.false_eq_true, reduceIte, xc_i, xc_j, xc_r, xc_n, List.nil_append, List.cons_append, Option.toList_some, Option.toList_none, nI_ltJ, nI_leJ, nI_eqJ, nI_ltz, nI_gez, nI_gtz, nI_lez, nI_eqz, m1_ltz, m1_gez, true_imp_iff, false_imp_iff, true_and, and_true, ne_eq, not_false_eq_true, not_true_eq_false, Nat.reduceEqDiff, Nat.reduceLT, Nat.reduceLeDiff, s7]
      with_reducible refine xm_go_blk b_X3_readProgram_70 k_X3_readProgram_70 ?_
      refine by_iload_n rfl ?_
      refine by_sipush cs_400 ?_
      refine by_ic_le 82 rfl ?_
      simp (disch := first | exact Nat.ne_of_beq_eq_false rfl | exact rfl | omega) only [nI_add, xa_sub, xa_mul, pk_div, nm_mod, xa_shr, xa_and7, xa_and1, xa_and255, xa_by_and, nI_m1, Nat.add_sub_cancel, Nat.reducePow, Nat.zero_add, Nat.add_zero, Nat.reduceAdd, Nat.reduceMul, Nat.reduceSub, xf_same, xq_ff, xq_fo, xf_1, xf_2, xs_1, xs_2, xs_same, xq_so, xj_1, xj_2, xj_same, xq_jo, xq_sa1, xq_same, xq_other, upd_s, oI_n, oI_s, xv_0, xv_1, xv_2, xv_3, xm_p1, xm_p2, xq_fp, xq_fn, List.filter_nil, Nat.reduceBEq, Bool.not_true, Bool.not_false, Bool.and_true, Bool.and_false, Bool.false_and, Bool.true_and, if_true, if_false, Bool.false_eq_true, reduceIte, xc_i, xc_j, xc_r, xc_n, List.nil_append, List.cons_append, Option.toList_some, Option.toList_none, nI_ltJ, nI_leJ, nI_eqJ, nI_ltz, nI_gez, nI_gtz, nI_lez, nI_eqz, m1_ltz, m1_gez, true_imp_iff, false_imp_iff, true_and, and_true, ne_eq, not_false_eq_true, not_true_eq_false, Nat.reduceEqDiff, Nat.reduceLT, Nat.reduceLeDiff, s7]
      refine ⟨fun c => absurd c (by omega), fun c70 => ?_⟩
      with_reducible refine xm_go_blk b_X3_readProgram_77 k_X3_readProgram_77 ?_
      refine by_aload_n rfl ?_
      refine by_iconst ci_4 ?_
      refine by_putf cn_74 fl_3_47 (by first | exact rfl | assumption) (by decide) nf_3_5 ft_3_5 (by first | rfl | assumption) (by first | rfl | assumption) ?_
      refine by_nil ?_
      with_reducible refine xm_go_blk b_X3_readProgram_82 k_X3_readProgram_82 ?_
      refine by_iconst ci_0 ?_
      refine by_istore (by rw [ml_74]; decide) ?_
      refine by_nil ?_
      simp (disch := first | exact Nat.ne_of_beq_eq_false rfl | exact rfl | omega) only [nI_add, xa_sub, xa_mul, pk_div, nm_mod, xa_shr, xa_and7, xa_and1, xa_and255, xa_by_and, nI_m1, Nat.add_sub_cancel, Nat.reducePow, Nat.zero_add, Nat.add_zero, Nat.reduceAdd, Nat.reduceMul, Nat.reduceSub, xf_same, xq_ff, xq_fo, xf_1, xf_2, xs_1, xs_2, xs_same, xq_so, xj_1, xj_2, xj_same, xq_jo, xq_sa1, xq_same, xq_other, upd_s, oI_n, oI_s, xv_0, xv_1, xv_2, xv_3, xm_p1, xm_p2, xq_fp, xq_fn, List.filter_nil, Nat.reduceBEq, Bool.not_true, Bool.not_false, Bool.and_true, Bool.and_false, Bool.false_and, Bool.true_and, if_true, if_false, Bool.false_eq_true, reduceIte, xc_i, xc_j, xc_r, xc_n, List.nil_append, List.cons_append, Option.toList_some, Option.toList_none, s7]
      with_reducible refine xm_go_blk b_X3_readProgram_85 k_X3_readProgram_85 ?_
      refine by_iload rfl ?_
      refine by_iload_n rfl ?_
      refine by_ic_ge 108 rfl ?_
      simp (disch := first | exact Nat.ne_of_beq_eq_false rfl | exact rfl | omega) only [nI_add, xa_sub, xa_mul, pk_div, nm_mod, xa_shr, xa_and7, xa_and1, xa_and255, xa_by_and, nI_m1, Nat.add_sub_cancel, Nat.reducePow, Nat.zero_add, Nat.add_zero, Nat.reduceAdd, Nat.reduceMul, Nat.reduceSub, xf_same, xq_ff, xq_fo, xf_1, xf_2, xs_1, xs_2, xs_same, xq_so, xj_1, xj_2, xj_same, xq_jo, xq_sa1, xq_same, xq_other, upd_s, oI_n, oI_s, xv_0, xv_1, xv_2, xv_3, xm_p1, xm_p2, xq_fp, xq_fn, List.filter_nil, Nat.reduceBEq, Bool.not_true, Bool.not_false, Bool.and_true, Bool.and_false, Bool.false_and, Bool.true_and, if_true, if_false, Bool.false_eq_true, reduceIte, xc_i, xc_j, xc_r, xc_n, List.nil_append, List.cons_append, Option.toList_some, Option.toList_none, nI_ltJ, nI_leJ, nI_eqJ, nI_ltz, nI_gez, nI_gtz, nI_lez, nI_eqz, m1_ltz, m1_gez, true_imp_iff, false_imp_iff, true_and, and_true, ne_eq, not_false_eq_true, not_true_eq_false, Nat.reduceEqDiff, Nat.reduceLT, Nat.reduceLeDiff, s7]
      refine ⟨fun c => absurd c (by omega), fun c85 => ?_⟩
      with_reducible refine xm_go_blk b_X3_readProgram_91 k_X3_readProgram_91 ?_
      refine by_aload_n rfl ?_
      refine by_getf cn_74 fl_3_47 (by first | exact rfl | assumption) (by decide) ?_
      simp (disch := first | exact Nat.ne_of_beq_eq_false rfl | exact rfl | omega) only [nI_add, xa_sub, xa_mul, pk_div, nm_mod, xa_shr, xa_and7, xa_and1, xa_and255, xa_by_and, nI_m1, Nat.add_sub_cancel, Nat.reducePow, Nat.zero_add, Nat.add_zero, Nat.reduceAdd, Nat.reduceMul, Nat.reduceSub, xf_same, xq_ff, xq_fo, xf_1, xf_2, xs_1, xs_2, xs_same, xq_so, xj_1, xj_2, xj_same, xq_jo, xq_sa1, xq_same, xq_other, upd_s, oI_n, oI_s, s7]
      refine by_if_ne 108 rfl ?_
      simp (disch := first | exact Nat.ne_of_beq_eq_false rfl | exact rfl | omega) only [nI_add, xa_sub, xa_mul, pk_div, nm_mod, xa_shr, xa_and7, xa_and1, xa_and255, xa_by_and, nI_m1, Nat.add_sub_cancel, Nat.reducePow, Nat.zero_add, Nat.add_zero, Nat.reduceAdd, Nat.reduceMul, Nat.reduceSub, xf_same, xq_ff, xq_fo, xf_1, xf_2, xs_1, xs_2, xs_same, xq_so, xj_1, xj_2, xj_same, xq_jo, xq_sa1, xq_same, xq_other, upd_s, oI_n, oI_s, xv_0, xv_1, xv_2, xv_3, xm_p1, xm_p2, xq_fp, xq_fn, List.filter_nil, Nat.reduceBEq, Bool.not_true, Bool.not_false, Bool.and_true, Bool.and_false, Bool.false_and, Bool.true_and, if_true, if_false, Bool.false_eq_true, reduceIte, xc_i, xc_j, xc_r, xc_n, List.nil_append, List.cons_append, Option.toList_some, Option.toList_none, nI_ltJ, nI_leJ, nI_eqJ, nI_ltz, nI_gez, nI_gtz, nI_lez, nI_eqz, m1_ltz, m1_gez, true_imp_iff, false_imp_iff, true_and, and_true, ne_eq, not_false_eq_true, not_true_eq_false, Nat.reduceEqDiff, Nat.reduceLT, Nat.reduceLeDiff, s7]
      exact xm_go_wk (by simp [Value.category]) hg
    · rw [if_neg q] at ends
      have hC4 : ndC h4 pp [] (fun _ => 0) 0 := ⟨by rw [f4.2.2 _ _ (by simp <;> omega)]; exact ep0'', by rw [f4.2.2 _ _ (by simp <;> omega)]; exact ep15'', by decide, fun j hj => absurd hj (by simp)⟩
      have hg := lp_nodes (sc := sc) (d := d) (post := post) (h := h4) (pp := pp) (l := l) (cnt := N) (by omega) (r0 := pr_nodes (by_bit l) (8 * l.length) N [] b) (fun h5 hN5 => ends h5 _ rfl (Fr_tr f04 hN5.1 (by simp [ldR]) (by simp [ldT])) hN5.2) N [] b (fun _ => 0) 0 h4 (by simp) Fr_rf hS4 hC4 (by omega) rfl
      with_reducible refine xm_go_blk b_X3_readProgram_62 k_X3_readProgram_62 ?_
      refine by_istore_n (by rw [ml_74]; decide) ?_
      refine by_aload_n rfl ?_
      refine by_getf cn_74 fl_3_47 (by first | exact rfl | assumption) (by decide) ?_
      simp (disch := first | exact Nat.ne_of_beq_eq_false rfl | exact rfl | omega) only [nI_add, xa_sub, xa_mul, pk_div, nm_mod, xa_shr, xa_and7, xa_and1, xa_and255, xa_by_and, nI_m1, Nat.add_sub_cancel, Nat.reducePow, Nat.zero_add, Nat.add_zero, Nat.reduceAdd, Nat.reduceMul, Nat.reduceSub, xf_same, xq_ff, xq_fo, xf_1, xf_2, xs_1, xs_2, xs_same, xq_so, xj_1, xj_2, xj_same, xq_jo, xq_sa1, xq_same, xq_other, upd_s, oI_n, oI_s, s7]
      refine by_if_ne 82 rfl ?_
      simp (disch := first | exact Nat.ne_of_beq_eq_false rfl | exact rfl | omega) only [nI_add, xa_sub, xa_mul, pk_div, nm_mod, xa_shr, xa_and7, xa_and1, xa_and255, xa_by_and, nI_m1, Nat.add_sub_cancel, Nat.reducePow, Nat.zero_add, Nat.add_zero, Nat.reduceAdd, Nat.reduceMul, Nat.reduceSub, xf_same, xq_ff, xq_fo, xf_1, xf_2, xs_1, xs_2, xs_same, xq_so, xj_1, xj_2, xj_same, xq_jo, xq_sa1, xq_same, xq_other, upd_s, oI_n, oI_s, xv_0, xv_1, xv_2, xv_3, xm_p1, xm_p2, xq_fp, xq_fn, List.filter_nil, Nat.reduceBEq, Bool.not_true, Bool.not_false, Bool.and_true, Bool.and_false, Bool.false_and, Bool.true_and, if_true, if_false, Bool.false_eq_true, reduceIte, xc_i, xc_j, xc_r, xc_n, List.nil_append, List.cons_append, Option.toList_some, Option.toList_none, nI_ltJ, nI_leJ, nI_eqJ, nI_ltz, nI_gez, nI_gtz, nI_lez, nI_eqz, m1_ltz, m1_gez, true_imp_iff, false_imp_iff, true_and, and_true, ne_eq, not_false_eq_true, not_true_eq_false, Nat.reduceEqDiff, Nat.reduceLT, Nat.reduceLeDiff, s7]
      with_reducible refine xm_go_blk b_X3_readProgram_70 k_X3_readProgram_70 ?_
      refine by_iload_n rfl ?_
      refine by_sipush cs_400 ?_
      refine by_ic_le 82 rfl ?_
      simp (disch := first | exact Nat.ne_of_beq_eq_false rfl | exact rfl | omega) only [nI_add, xa_sub, xa_mul, pk_div, nm_mod, xa_shr, xa_and7, xa_and1, xa_and255, xa_by_and, nI_m1, Nat.add_sub_cancel, Nat.reducePow, Nat.zero_add, Nat.add_zero, Nat.reduceAdd, Nat.reduceMul, Nat.reduceSub, xf_same, xq_ff, xq_fo, xf_1, xf_2, xs_1, xs_2, xs_same, xq_so, xj_1, xj_2, xj_same, xq_jo, xq_sa1, xq_same, xq_other, upd_s, oI_n, oI_s, xv_0, xv_1, xv_2, xv_3, xm_p1, xm_p2, xq_fp, xq_fn, List.filter_nil, Nat.reduceBEq, Bool.not_true, Bool.not_false, Bool.and_true, Bool.and_false, Bool.false_and, Bool.true_and, if_true, if_false, Bool.false_eq_true, reduceIte, xc_i, xc_j, xc_r, xc_n, List.nil_append, List.cons_append, Option.toList_some, Option.toList_none, nI_ltJ, nI_leJ, nI_eqJ, nI_ltz, nI_gez, nI_gtz, nI_lez, nI_eqz, m1_ltz, m1_gez, true_imp_iff, false_imp_iff, true_and, and_true, ne_eq, not_false_eq_true, not_true_eq_false, Nat.reduceEqDiff, Nat.reduceLT, Nat.reduceLeDiff, s7]
      refine ⟨fun c70 => ?_, fun c => absurd (by omega) c⟩
      with_reducible refine xm_go_blk b_X3_readProgram_82 k_X3_readProgram_82 ?_
      refine by_iconst ci_0 ?_
      refine by_istore (by rw [ml_74]; decide) ?_
      refine by_nil ?_
      simp (disch := first | exact Nat.ne_of_beq_eq_false rfl | exact rfl | omega) only [nI_add, xa_sub, xa_mul, pk_div, nm_mod, xa_shr, xa_and7, xa_and1, xa_and255, xa_by_and, nI_m1, Nat.add_sub_cancel, Nat.reducePow, Nat.zero_add, Nat.add_zero, Nat.reduceAdd, Nat.reduceMul, Nat.reduceSub, xf_same, xq_ff, xq_fo, xf_1, xf_2, xs_1, xs_2, xs_same, xq_so, xj_1, xj_2, xj_same, xq_jo, xq_sa1, xq_same, xq_other, upd_s, oI_n, oI_s, xv_0, xv_1, xv_2, xv_3, xm_p1, xm_p2, xq_fp, xq_fn, List.filter_nil, Nat.reduceBEq, Bool.not_true, Bool.not_false, Bool.and_true, Bool.and_false, Bool.false_and, Bool.true_and, if_true, if_false, Bool.false_eq_true, reduceIte, xc_i, xc_j, xc_r, xc_n, List.nil_append, List.cons_append, Option.toList_some, Option.toList_none, s7]
      exact xm_go_wk (by simp [Value.category]) hg
end LP
