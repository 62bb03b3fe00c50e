/-! ===== the class: load, whole ===== -/
section XL
variable {sc : xm_Sc} {d pp qq W : Nat} {l : List Nat} {h : xm_H} {post : xm_Po}
def xlR (pp : Nat) : List Nat := lgR pp ++ [pp + 8, pp + 9, pp + 10, 23, 24, 25, 26, 27]
def xlT (pp : Nat) : List (Nat × Nat) := lgT pp ++ [(0, 9), (0, 10), (0, 11), (1, 1), (1, 2), (1, 3), (40, 5), (40, 6)]
theorem xl_fin (hpp : pp = 52 ∨ pp = 77) : xt_fin.all (fun q => !((xlT pp).contains (q.1, q.2.1))) = true := by rcases hpp with rfl | rfl <;> decide +kernel
/-- a loaded program with its bounds and codes -/
def PG (h : xm_H) (pp : Nat) (l : List Nat) (ps : List pr_D) (a : Nat) (S T : Nat → Ty) : Prop := PF h pp l ps a S T ∧ LdG l ps a 0 S T ∧ pr_prog (by_bit l) (8 * l.length) = .ok (ps, a) ∧ ∃ C F G k b, bnd ps S T C F G ps.length ∧ fbV h pp ps.length C F G ∧ ciV h ps.length b ps S T ∧ pr_nat (by_bit l) (8 * l.length) a = .ok (k, b)
theorem sp_xload (hF : XF h) (hpp : pp = 52 ∨ pp = 77) (hqq : qq = 52 ∨ qq = 77) (hrow : rowIs h 1 2 l) (hfx : fxA h) (hO : ordI h W) (hW2 : W < 1000000) (h9 : h.2.2 0 9 = .ref qq) (h10 : h.2.2 0 10 = .ref pp)
    (hp1 : ∀ h' f ps a S T W', f ≠ 0 → f ≤ 12 → Fr (lgR pp) (lgT pp ++ [(0, 11), (1, 1), (1, 2), (1, 3)]) h h' → LdF l f ps a S T → fxA h' → ordI h' W' → W' ≤ W + 1 → h'.2.2 0 11 = .int (nI f) → rowIs h' 1 2 [] → post (some (.int (nI f))) h')
    (hp0 : ∀ h' ps a S T W', Fr (xlR pp) (xlT pp) h h' → LdF l 0 ps a S T → fxA h' → ordI h' W' → W' ≤ W + 1 → h'.2.2 0 11 = .int (nI 0) → rowIs h' 1 2 [] → PG h' pp l ps a S T → (∀ x i, ps.length ≤ i → x ∈ ciR → h'.1 x i = h.1 x i) → h'.2.2 0 9 = .ref pp → h'.2.2 0 10 = .ref qq → h'.2.2 40 5 = .int (nI 0) → h'.2.2 40 6 = .int (nI 0) → post (some (.int (nI 0))) h') :
    xm_T (XE sc) (d + 8) 181 [.ref 0] h post := by
  refine xq_in rfl ?_
  simp only [xq_a0, xq_aI, xq_aJ, xq_aR, Nat.reduceAdd]
  with_reducible refine xm_go_blk b_X11_load_0 k_X11_load_0 ?_
  refine by_aload_n rfl ?_
  refine by_aload_n rfl ?_
  refine by_getf cn_181 fl_11_57 (by first | exact rfl | assumption) (by decide) ?_
  refine by_aload_n rfl ?_
  refine by_getf cn_181 fl_11_10 (by first | exact rfl | assumption) (by decide) ?_
  refine by_aload_n rfl ?_
  refine by_getf cn_181 fl_11_75 (by first | exact rfl | assumption) (by decide) ?_
  simp (disch := first | exact Nat.ne_of_beq_eq_false rfl | exact rfl | omega) only [nI_add, xa_sub, xa_mul, pk_div, nm_mod, xa_shr, xa_and7, xa_and1, xa_and255, xa_by_and, nI_m1, Nat.add_sub_cancel, Nat.reducePow, Nat.zero_add, Nat.add_zero, Nat.reduceAdd, Nat.reduceMul, Nat.reduceSub, xf_same, xq_ff, xq_fo, xf_1, xf_2, xs_1, xs_2, xs_same, xq_so, xj_1, xj_2, xj_same, xq_jo, xq_sa1, xq_same, xq_other, upd_s, oI_n, oI_s, xv_0, xv_1, xv_2, xv_3, xm_p1, xm_p2, xq_fp, xq_fn, List.filter_nil, Nat.reduceBEq, Bool.not_true, Bool.not_false, Bool.and_true, Bool.and_false, Bool.false_and, Bool.true_and, if_true, if_false, Bool.false_eq_true, reduceIte, xc_i, xc_j, xc_r, xc_n, List.nil_append, List.cons_append, Option.toList_some, Option.toList_none, xf_0_7 hF, xf_0_0 hF, h10]
  refine by_inv2 cn_181 lk_11_101 (by rw [xe_cnt]; decide) is_74 np_74 cn_74 (by first | exact rfl | assumption) (Nat.le_of_ble_eq_true rfl) ?_
  refine sp_readProgram hF hpp hrow hfx hO hW2 (fun h1 f ps a S T W' f1 hL A1 O1 hW hf12 hPF => ?_)
  have F1 : XF h1 := Fr_XF hF f1 (lg_fin hpp)
  with_reducible refine xm_go_blk b_X11_load_16 k_X11_load_16 ?_
  refine by_putf cn_181 fl_11_105 (by first | exact rfl | assumption) (by decide) nf_11_11 ft_11_11 (by first | rfl | assumption) (by first | rfl | assumption) ?_
  refine by_aload_n rfl ?_
  refine by_getf cn_181 fl_11_10 (by first | exact rfl | assumption) (by decide) ?_
  simp (disch := first | exact Nat.ne_of_beq_eq_false rfl | exact rfl | omega) only [nI_add, xa_sub, xa_mul, pk_div, nm_mod, xa_shr, xa_and7, xa_and1, xa_and255, xa_by_and, nI_m1, Nat.add_sub_cancel, Nat.reducePow, Nat.zero_add, Nat.add_zero, Nat.reduceAdd, Nat.reduceMul, Nat.reduceSub, xf_same, xq_ff, xq_fo, xf_1, xf_2, xs_1, xs_2, xs_same, xq_so, xj_1, xj_2, xj_same, xq_jo, xq_sa1, xq_same, xq_other, upd_s, oI_n, oI_s, xv_0, xv_1, xv_2, xv_3, xm_p1, xm_p2, xq_fp, xq_fn, List.filter_nil, Nat.reduceBEq, Bool.not_true, Bool.not_false, Bool.and_true, Bool.and_false, Bool.false_and, Bool.true_and, if_true, if_false, Bool.false_eq_true, reduceIte, xc_i, xc_j, xc_r, xc_n, List.nil_append, List.cons_append, Option.toList_some, Option.toList_none, xf_0_0 F1]
  refine by_inv0 cn_181 lk_11_98 (by rw [xe_cnt]; decide) is_128 np_128 cn_128 (by first | exact rfl | assumption | exact ps_12 hpp) (Nat.le_of_ble_eq_true rfl) ?_
  refine sp_clear rfl ?_
  have f2 : Fr [] [(0, 11), (1, 1), (1, 2), (1, 3)] h1 (xm_sf (xm_sf (xm_sf (xm_sf h1 0 11 (.int (nI f))) 1 1 (.int (nI 0))) 1 3 (.int (nI 0))) 1 2 (.int (nI 0))) := Fr_sf (Fr_sf (Fr_sf (Fr_sf Fr_rf (by simp)) (by simp)) (by simp)) (by simp)
  have e11 : (xm_sf (xm_sf (xm_sf (xm_sf h1 0 11 (.int (nI f))) 1 1 (.int (nI 0))) 1 3 (.int (nI 0))) 1 2 (.int (nI 0))).2.2 0 11 = .int (nI f) := by
    rw [xq_fo (by omega), xq_fo (by omega), xq_fo (by omega)]; simp only [xf_same]
  have er : rowIs (xm_sf (xm_sf (xm_sf (xm_sf h1 0 11 (.int (nI f))) 1 1 (.int (nI 0))) 1 3 (.int (nI 0))) 1 2 (.int (nI 0))) 1 2 [] := by
    refine ⟨by rw [f2.2.2 _ _ (by simp)]; exact xf_1_0 F1, ?_, by simp, fun i hi => absurd hi (by simp), fun i hi => absurd hi (by simp)⟩
    rw [xq_ff (by omega), xq_ff (by omega)]; simp only [xf_same]; rfl
  have F2 := Fr_XF F1 f2 (by decide +kernel)
  have A2 : fxA (xm_sf (xm_sf (xm_sf (xm_sf h1 0 11 (.int (nI f))) 1 1 (.int (nI 0))) 1 3 (.int (nI 0))) 1 2 (.int (nI 0))) := A1
  have O2 : ordI (xm_sf (xm_sf (xm_sf (xm_sf h1 0 11 (.int (nI f))) 1 1 (.int (nI 0))) 1 3 (.int (nI 0))) 1 2 (.int (nI 0))) W' := ⟨by rw [f2.2.2 _ _ (by simp)]; exact O1.1, O1.2⟩
  have f12 : Fr (lgR pp) (lgT pp ++ [(0, 11), (1, 1), (1, 2), (1, 3)]) h (xm_sf (xm_sf (xm_sf (xm_sf h1 0 11 (.int (nI f))) 1 1 (.int (nI 0))) 1 3 (.int (nI 0))) 1 2 (.int (nI 0))) := Fr_tr (Fr_mo f1 (fun _ z => z) (fun _ z => List.mem_append_left _ z)) f2 (by simp) (fun q hq => List.mem_append_right _ hq)
  have e9 : (xm_sf (xm_sf (xm_sf (xm_sf h1 0 11 (.int (nI f))) 1 1 (.int (nI 0))) 1 3 (.int (nI 0))) 1 2 (.int (nI 0))).2.2 0 9 = .ref qq := by rw [f2.2.2 _ _ (by simp), f1.2.2 _ _ (by simp [lgT] <;> omega)]; exact h9
  have e10 : (xm_sf (xm_sf (xm_sf (xm_sf h1 0 11 (.int (nI f))) 1 1 (.int (nI 0))) 1 3 (.int (nI 0))) 1 2 (.int (nI 0))).2.2 0 10 = .ref pp := by rw [f2.2.2 _ _ (by simp), f1.2.2 _ _ (by simp [lgT] <;> omega)]; exact h10
  have P2 : f = 0 → PF (xm_sf (xm_sf (xm_sf (xm_sf h1 0 11 (.int (nI f))) 1 1 (.int (nI 0))) 1 3 (.int (nI 0))) 1 2 (.int (nI 0))) pp l ps a S T := fun z => PF_fr (hPF z) f2 (by simp <;> omega) (by simp <;> omega) (by simp <;> omega) (by simp <;> omega) (by simp <;> omega) (by simp <;> omega) (by simp) (by simp) (by simp) (by simp) (by simp) (by simp) (by simp) (by simp) (by simp)
  generalize xm_sf (xm_sf (xm_sf (xm_sf h1 0 11 (.int (nI f))) 1 1 (.int (nI 0))) 1 3 (.int (nI 0))) 1 2 (.int (nI 0)) = h2 at *
  by_cases q : f = 0
  · subst q
    have hP2 := P2 rfl
    have hG : LdG l ps a 0 S T ∧ pr_prog (by_bit l) (8 * l.length) = .ok (ps, a) := by
      rcases hL with ⟨z, _⟩ | ⟨z1, z2⟩
      · omega
      · exact ⟨z2, z1⟩
    obtain ⟨g1, g2, g3, g4, g5⟩ := LdG_0 hG.1
    with_reducible refine xm_go_blk b_X11_load_26 k_X11_load_26 ?_
    refine by_aload_n rfl ?_
    refine by_getf cn_181 fl_11_105 (by first | exact rfl | assumption) (by decide) ?_
    simp (disch := first | exact Nat.ne_of_beq_eq_false rfl | exact rfl | omega) only [nI_add, xa_sub, xa_mul, pk_div, nm_mod, xa_shr, xa_and7, xa_and1, xa_and255, xa_by_and, nI_m1, Nat.add_sub_cancel, Nat.reducePow, Nat.zero_add, Nat.add_zero, Nat.reduceAdd, Nat.reduceMul, Nat.reduceSub, xf_same, xq_ff, xq_fo, xf_1, xf_2, xs_1, xs_2, xs_same, xq_so, xj_1, xj_2, xj_same, xq_jo, xq_sa1, xq_same, xq_other, upd_s, oI_n, oI_s, e11, e9, e10]
    refine by_if_ne 76 rfl ?_
    simp (disch := first | exact Nat.ne_of_beq_eq_false rfl | exact rfl | omega) only [nI_add, xa_sub, xa_mul, pk_div, nm_mod, xa_shr, xa_and7, xa_and1, xa_and255, xa_by_and, nI_m1, Nat.add_sub_cancel, Nat.reducePow, Nat.zero_add, Nat.add_zero, Nat.reduceAdd, Nat.reduceMul, Nat.reduceSub, xf_same, xq_ff, xq_fo, xf_1, xf_2, xs_1, xs_2, xs_same, xq_so, xj_1, xj_2, xj_same, xq_jo, xq_sa1, xq_same, xq_other, upd_s, oI_n, oI_s, xv_0, xv_1, xv_2, xv_3, xm_p1, xm_p2, xq_fp, xq_fn, List.filter_nil, Nat.reduceBEq, Bool.not_true, Bool.not_false, Bool.and_true, Bool.and_false, Bool.false_and, Bool.true_and, if_true, if_false, Bool.false_eq_true, reduceIte, xc_i, xc_j, xc_r, xc_n, List.nil_append, List.cons_append, Option.toList_some, Option.toList_none, nI_ltJ, nI_leJ, nI_eqJ, nI_ltz, nI_gez, nI_gtz, nI_lez, nI_eqz, m1_ltz, m1_gez, true_imp_iff, false_imp_iff, true_and, and_true, ne_eq, not_false_eq_true, not_true_eq_false, Nat.reduceEqDiff, Nat.reduceLT, Nat.reduceLeDiff, e11, e9, e10]
    with_reducible refine xm_go_blk b_X11_load_33 k_X11_load_33 ?_
    refine by_aload_n rfl ?_
    refine by_getf cn_181 fl_11_71 (by first | exact rfl | assumption) (by decide) ?_
    simp (disch := first | exact Nat.ne_of_beq_eq_false rfl | exact rfl | omega) only [nI_add, xa_sub, xa_mul, pk_div, nm_mod, xa_shr, xa_and7, xa_and1, xa_and255, xa_by_and, nI_m1, Nat.add_sub_cancel, Nat.reducePow, Nat.zero_add, Nat.add_zero, Nat.reduceAdd, Nat.reduceMul, Nat.reduceSub, xf_same, xq_ff, xq_fo, xf_1, xf_2, xs_1, xs_2, xs_same, xq_so, xj_1, xj_2, xj_same, xq_jo, xq_sa1, xq_same, xq_other, upd_s, oI_n, oI_s, e11, e9, e10]
    refine by_astore_n (by rw [ml_181]; decide) ?_
    refine by_aload_n rfl ?_
    refine by_aload_n rfl ?_
    refine by_getf cn_181 fl_11_75 (by first | exact rfl | assumption) (by decide) ?_
    simp (disch := first | exact Nat.ne_of_beq_eq_false rfl | exact rfl | omega) only [nI_add, xa_sub, xa_mul, pk_div, nm_mod, xa_shr, xa_and7, xa_and1, xa_and255, xa_by_and, nI_m1, Nat.add_sub_cancel, Nat.reducePow, Nat.zero_add, Nat.add_zero, Nat.reduceAdd, Nat.reduceMul, Nat.reduceSub, xf_same, xq_ff, xq_fo, xf_1, xf_2, xs_1, xs_2, xs_same, xq_so, xj_1, xj_2, xj_same, xq_jo, xq_sa1, xq_same, xq_other, upd_s, oI_n, oI_s, e11, e9, e10]
    refine by_putf cn_181 fl_11_71 (by first | exact rfl | assumption) (by decide) nf_11_9 ft_11_9 (by first | rfl | assumption) (by first | rfl | assumption) ?_
    refine by_aload_n rfl ?_
    refine by_aload_n rfl ?_
    refine by_putf cn_181 fl_11_75 (by first | exact rfl | assumption) (by decide) nf_11_10 ft_11_10 (by first | rfl | assumption) (by first | rfl | assumption) ?_
    refine by_aload_n rfl ?_
    refine by_getf cn_181 fl_11_71 (by first | exact rfl | assumption) (by decide) ?_
    simp (disch := first | exact Nat.ne_of_beq_eq_false rfl | exact rfl | omega) only [nI_add, xa_sub, xa_mul, pk_div, nm_mod, xa_shr, xa_and7, xa_and1, xa_and255, xa_by_and, nI_m1, Nat.add_sub_cancel, Nat.reducePow, Nat.zero_add, Nat.add_zero, Nat.reduceAdd, Nat.reduceMul, Nat.reduceSub, xf_same, xq_ff, xq_fo, xf_1, xf_2, xs_1, xs_2, xs_same, xq_so, xj_1, xj_2, xj_same, xq_jo, xq_sa1, xq_same, xq_other, upd_s, oI_n, oI_s, xv_0, xv_1, xv_2, xv_3, xm_p1, xm_p2, xq_fp, xq_fn, List.filter_nil, Nat.reduceBEq, Bool.not_true, Bool.not_false, Bool.and_true, Bool.and_false, Bool.false_and, Bool.true_and, if_true, if_false, Bool.false_eq_true, reduceIte, xc_i, xc_j, xc_r, xc_n, List.nil_append, List.cons_append, Option.toList_some, Option.toList_none, e11, e9, e10]
    refine by_inv0 cn_181 lk_11_108 (by rw [xe_cnt]; decide) is_107 np_107 cn_107 (by first | exact rfl | assumption | exact ps_0 hpp) (Nat.le_of_ble_eq_true rfl) ?_
    have f3 : Fr [] [(0, 9), (0, 10)] h2 (xm_sf (xm_sf h2 0 9 (.ref pp)) 0 10 (.ref qq)) := Fr_sf (Fr_sf Fr_rf (by simp)) (by simp)
    have F3 := Fr_XF F2 f3 (by decide +kernel)
    have P3 : PF (xm_sf (xm_sf h2 0 9 (.ref pp)) 0 10 (.ref qq)) pp l ps a S T := PF_fr hP2 f3 (by simp <;> omega) (by simp <;> omega) (by simp <;> omega) (by simp <;> omega) (by simp <;> omega) (by simp <;> omega) (by simp) (by simp) (by simp) (by simp) (by simp) (by simp) (by simp) (by simp) (by simp)
    have e9' : (xm_sf (xm_sf h2 0 9 (.ref pp)) 0 10 (.ref qq)).2.2 0 9 = .ref pp := by rw [xq_ff (by omega)]; simp only [xf_same]
    have e10' : (xm_sf (xm_sf h2 0 9 (.ref pp)) 0 10 (.ref qq)).2.2 0 10 = .ref qq := by simp only [xf_same]
    have e11' : (xm_sf (xm_sf h2 0 9 (.ref pp)) 0 10 (.ref qq)).2.2 0 11 = .int (nI 0) := by rw [f3.2.2 _ _ (by simp)]; exact e11
    generalize xm_sf (xm_sf h2 0 9 (.ref pp)) 0 10 (.ref qq) = h3 at *
    obtain ⟨cn, tr, K, Lf, R, k, b, hB, hD, hk⟩ := PF_bd P3 hG.1
    refine sp_findBounds (d := d + 4) F3 hpp hB (fun h4 C F G f4 hb hV => ?_)
    have F4 := Fr_XF F3 f4 (by decide +kernel)
    have e9'' : h4.2.2 0 9 = .ref pp := by rw [f4.2.2 _ _ (by simp)]; exact e9'
    have hB4 : bdP h4 pp ps S T cn tr K Lf R := bdP_fr hB f4 (by simp) (by simp) (by simp) (by simp) (by simp) (by simp) (by simp) (by simp [taR])
    have hD4 : ciD h4 pp b ps T := fun n hn => by rw [f4.1 (pp + 4) (by simp)]; exact hD n hn
    with_reducible refine xm_go_blk b_X11_load_58 k_X11_load_58 ?_
    refine by_aload_n rfl ?_
    refine by_getf cn_181 fl_11_71 (by first | exact rfl | assumption) (by decide) ?_
    refine by_aload_n rfl ?_
    refine by_getf cn_181 fl_11_32 (by first | exact rfl | assumption) (by decide) ?_
    simp (disch := first | exact Nat.ne_of_beq_eq_false rfl | exact rfl | omega) only [nI_add, xa_sub, xa_mul, pk_div, nm_mod, xa_shr, xa_and7, xa_and1, xa_and255, xa_by_and, nI_m1, Nat.add_sub_cancel, Nat.reducePow, Nat.zero_add, Nat.add_zero, Nat.reduceAdd, Nat.reduceMul, Nat.reduceSub, xf_same, xq_ff, xq_fo, xf_1, xf_2, xs_1, xs_2, xs_same, xq_so, xj_1, xj_2, xj_same, xq_jo, xq_sa1, xq_same, xq_other, upd_s, oI_n, oI_s, xv_0, xv_1, xv_2, xv_3, xm_p1, xm_p2, xq_fp, xq_fn, List.filter_nil, Nat.reduceBEq, Bool.not_true, Bool.not_false, Bool.and_true, Bool.and_false, Bool.false_and, Bool.true_and, if_true, if_false, Bool.false_eq_true, reduceIte, xc_i, xc_j, xc_r, xc_n, List.nil_append, List.cons_append, Option.toList_some, Option.toList_none, e9'', xf_0_4 F4]
    refine by_inv1 cn_181 lk_11_111 (by rw [xe_cnt]; decide) is_106 np_106 cn_106 (by first | exact rfl | assumption | exact ps_0 hpp) (Nat.le_of_ble_eq_true rfl) ?_
    refine sp_compileInto (d := d + 4) F4 hpp hB4 hD4 (fun n hn => g3.1.2.2 n (List.mem_range.mpr hn)) (fun n hn z x hx => (nb7 g2 hn (by omega)).1 x hx) (fun h5 f5 hcv hci => ?_)
    have F5 := Fr_XF F4 f5 (by decide +kernel)
    with_reducible refine xm_go_blk b_X11_load_69 k_X11_load_69 ?_
    refine by_aload_n rfl ?_
    refine by_getf cn_181 fl_11_48 (by first | exact rfl | assumption) (by decide) ?_
    simp (disch := first | exact Nat.ne_of_beq_eq_false rfl | exact rfl | omega) only [nI_add, xa_sub, xa_mul, pk_div, nm_mod, xa_shr, xa_and7, xa_and1, xa_and255, xa_by_and, nI_m1, Nat.add_sub_cancel, Nat.reducePow, Nat.zero_add, Nat.add_zero, Nat.reduceAdd, Nat.reduceMul, Nat.reduceSub, xf_same, xq_ff, xq_fo, xf_1, xf_2, xs_1, xs_2, xs_same, xq_so, xj_1, xj_2, xj_same, xq_jo, xq_sa1, xq_same, xq_other, upd_s, oI_n, oI_s, xv_0, xv_1, xv_2, xv_3, xm_p1, xm_p2, xq_fp, xq_fn, List.filter_nil, Nat.reduceBEq, Bool.not_true, Bool.not_false, Bool.and_true, Bool.and_false, Bool.false_and, Bool.true_and, if_true, if_false, Bool.false_eq_true, reduceIte, xc_i, xc_j, xc_r, xc_n, List.nil_append, List.cons_append, Option.toList_some, Option.toList_none, xf_0_6 F5]
    refine by_inv0 cn_181 lk_11_114 (by rw [xe_cnt]; decide) is_121 np_121 cn_121 (by first | exact rfl | assumption) (Nat.le_of_ble_eq_true rfl) ?_
    refine sp_forget ?_
    have f6 : Fr [] [(40, 5), (40, 6)] h5 (xm_sf (xm_sf h5 40 5 (.int (nI 0))) 40 6 (.int (nI 0))) := Fr_sf (Fr_sf Fr_rf (by simp)) (by simp)
    have f36 : Fr [pp + 8, pp + 9, pp + 10, 23, 24, 25, 26, 27] [(40, 5), (40, 6)] h3 (xm_sf (xm_sf h5 40 5 (.int (nI 0))) 40 6 (.int (nI 0))) := Fr_tr (Fr_tr (Fr_mo f4 (by simp) (by simp)) f5 (by simp [ciR]) (by simp)) f6 (by simp) (by simp)
    have f06 : Fr (xlR pp) (xlT pp) h (xm_sf (xm_sf h5 40 5 (.int (nI 0))) 40 6 (.int (nI 0))) := Fr_tr (Fr_tr (Fr_mo f12 (fun _ z => List.mem_append_left _ z) (fun q hq => by
      rcases List.mem_append.mp hq with z | z
      · exact List.mem_append_left _ z
      · refine List.mem_append_right _ ?_
        simp only [List.mem_cons, List.not_mem_nil, or_false] at z ⊢
        rcases z with z | z | z | z <;> simp [z])) f3 (by simp) (fun q hq => List.mem_append_right _ (by simp only [List.mem_cons, List.not_mem_nil, or_false] at hq ⊢; rcases hq with z | z <;> simp [z]))) f36 (fun q hq => List.mem_append_right _ hq) (fun q hq => List.mem_append_right _ (by simp only [List.mem_cons, List.not_mem_nil, or_false] at hq ⊢; rcases hq with z | z <;> simp [z]))
    have e11'' : h5.2.2 0 11 = .int (nI 0) := by rw [f5.2.2 _ _ (by simp), f4.2.2 _ _ (by simp)]; exact e11'
    with_reducible refine xm_go_blk b_X11_load_76 k_X11_load_76 ?_
    refine by_aload_n rfl ?_
    refine by_getf cn_181 fl_11_105 (by first | exact rfl | assumption) (by decide) ?_
    simp (disch := first | exact Nat.ne_of_beq_eq_false rfl | exact rfl | omega) only [nI_add, xa_sub, xa_mul, pk_div, nm_mod, xa_shr, xa_and7, xa_and1, xa_and255, xa_by_and, nI_m1, Nat.add_sub_cancel, Nat.reducePow, Nat.zero_add, Nat.add_zero, Nat.reduceAdd, Nat.reduceMul, Nat.reduceSub, xf_same, xq_ff, xq_fo, xf_1, xf_2, xs_1, xs_2, xs_same, xq_so, xj_1, xj_2, xj_same, xq_jo, xq_sa1, xq_same, xq_other, upd_s, oI_n, oI_s, e11'']
    refine by_iret ry_181 (by first | rfl | assumption) ?_
    refine hp0 _ ps a S T W' f06 hL (fun t ht => ?_) ⟨?_, fun x hx => ?_⟩ hW (by rw [f6.2.2 _ _ (by simp)]; exact e11'') ?_ ⟨PF_fr P3 f36 (by simp <;> omega) (by simp <;> omega) (by simp <;> omega) (by simp <;> omega) (by simp <;> omega) (by simp <;> omega) (by simp <;> omega) (by simp <;> omega) (by simp <;> omega) (by simp <;> omega) (by simp <;> omega) (by simp <;> omega) (by simp <;> omega) (by simp <;> omega) (by simp [taR] <;> omega), hG.1, hG.2, C, F, G, k, b, hb, fun m hm => ?_, fun m hm => hcv m hm, hk⟩ (fun x i hi hx => ?_) ?_ ?_ ?_ ?_
    · rw [f36.1 16 (by simp <;> omega), f36.1 17 (by simp <;> omega), f36.1 18 (by simp <;> omega), f3.1 16 (by simp), f3.1 17 (by simp), f3.1 18 (by simp)]
      exact A2 t ht
    · rw [f36.2.2 _ _ (by simp), f3.2.2 _ _ (by simp)]; exact O2.1
    · rw [f36.1 10 (by simp <;> omega), f3.1 10 (by simp)]; exact O2.2 x hx
    · exact rowIs_fr (rowIs_fr er f3 (by simp) (by simp) (by simp)) f36 (by simp <;> omega) (by simp) (by simp)
    · show h5.1 (pp + 8) m = _ ∧ h5.1 (pp + 9) m = _ ∧ h5.1 (pp + 10) m = _
      rw [f5.1 (pp + 8) (by simp [ciR] <;> omega), f5.1 (pp + 9) (by simp [ciR] <;> omega), f5.1 (pp + 10) (by simp [ciR] <;> omega)]
      exact hV m hm
    · show h5.1 x i = _
      have hx2 : x ∉ [pp + 8, pp + 9, pp + 10] := by
        simp only [ciR, List.mem_cons, List.not_mem_nil, or_false] at hx ⊢
        omega
      have hx3 : x ∉ lgR pp := by
        simp only [ciR, List.mem_cons, List.not_mem_nil, or_false] at hx
        simp only [lgR, List.mem_cons, List.not_mem_nil, or_false]
        omega
      rw [hci x i hi, f4.1 x hx2, f3.1 x (by simp), f12.1 x hx3]
    · rw [f36.2.2 _ _ (by simp)]; exact e9'
    · rw [f36.2.2 _ _ (by simp)]; exact e10'
    · rw [xq_ff (by omega)]; simp only [xf_same]
    · simp only [xf_same]
  · have q' : (f = 0) = False := eq_false q
    with_reducible refine xm_go_blk b_X11_load_26 k_X11_load_26 ?_
    refine by_aload_n rfl ?_
    refine by_getf cn_181 fl_11_105 (by first | exact rfl | assumption) (by decide) ?_
    simp (disch := first | exact Nat.ne_of_beq_eq_false rfl | exact rfl | omega) only [nI_add, xa_sub, xa_mul, pk_div, nm_mod, xa_shr, xa_and7, xa_and1, xa_and255, xa_by_and, nI_m1, Nat.add_sub_cancel, Nat.reducePow, Nat.zero_add, Nat.add_zero, Nat.reduceAdd, Nat.reduceMul, Nat.reduceSub, xf_same, xq_ff, xq_fo, xf_1, xf_2, xs_1, xs_2, xs_same, xq_so, xj_1, xj_2, xj_same, xq_jo, xq_sa1, xq_same, xq_other, upd_s, oI_n, oI_s, e11, q']
    refine by_if_ne 76 rfl ?_
    simp (disch := first | exact Nat.ne_of_beq_eq_false rfl | exact rfl | omega) only [nI_add, xa_sub, xa_mul, pk_div, nm_mod, xa_shr, xa_and7, xa_and1, xa_and255, xa_by_and, nI_m1, Nat.add_sub_cancel, Nat.reducePow, Nat.zero_add, Nat.add_zero, Nat.reduceAdd, Nat.reduceMul, Nat.reduceSub, xf_same, xq_ff, xq_fo, xf_1, xf_2, xs_1, xs_2, xs_same, xq_so, xj_1, xj_2, xj_same, xq_jo, xq_sa1, xq_same, xq_other, upd_s, oI_n, oI_s, xv_0, xv_1, xv_2, xv_3, xm_p1, xm_p2, xq_fp, xq_fn, List.filter_nil, Nat.reduceBEq, Bool.not_true, Bool.not_false, Bool.and_true, Bool.and_false, Bool.false_and, Bool.true_and, if_true, if_false, Bool.false_eq_true, reduceIte, xc_i, xc_j, xc_r, xc_n, List.nil_append, List.cons_append, Option.toList_some, Option.toList_none, nI_ltJ, nI_leJ, nI_eqJ, nI_ltz, nI_gez, nI_gtz, nI_lez, nI_eqz, m1_ltz, m1_gez, true_imp_iff, false_imp_iff, true_and, and_true, ne_eq, not_false_eq_true, not_true_eq_false, Nat.reduceEqDiff, Nat.reduceLT, Nat.reduceLeDiff, e11, q']
    with_reducible refine xm_go_blk b_X11_load_76 k_X11_load_76 ?_
    refine by_aload_n rfl ?_
    refine by_getf cn_181 fl_11_105 (by first | exact rfl | assumption) (by decide) ?_
    simp (disch := first | exact Nat.ne_of_beq_eq_false rfl | exact rfl | omega) only [nI_add, xa_sub, xa_mul, pk_div, nm_mod, xa_shr, xa_and7, xa_and1, xa_and255, xa_by_and, nI_m1, Nat.add_sub_cancel, Nat.reducePow, Nat.zero_add, Nat.add_zero, Nat.reduceAdd, Nat.reduceMul, Nat.reduceSub, xf_same, xq_ff, xq_fo, xf_1, xf_2, xs_1, xs_2, xs_same, xq_so, xj_1, xj_2, xj_same, xq_jo, xq_sa1, xq_same, xq_other, upd_s, oI_n, oI_s, e11, q']
    refine by_iret ry_181 (by first | rfl | assumption) ?_
    exact hp1 h2 f ps a S T W' q hf12 f12 hL A2 O2 hW e11 er
end XL
