/-! ===== the reference: load ===== -/
def mdT : List (Nat × Nat) := [(102, 0), (102, 2), (102, 34), (102, 5), (102, 14), (102, 33), (102, 40), (102, 50), (102, 65), (102, 66), (102, 67)]
theorem md_fin : xt_fin.all (fun q => !(mdT.contains (q.1, q.2.1))) = true := by decide +kernel
section ML
variable {sc : xm_Sc} {d : Nat} {l : List Nat} {h : xm_H} {post : xm_Po}
theorem sp_mload {kb : Int32} (hF : XF h) (hl : mrow h 103 l) (ht : h.2.2 102 2 = .int (nI l.length)) (hkb : h.2.2 102 33 = .int kb)
    (hp1 : ∀ h' f ps a S T, f ≠ 0 → f ≤ 12 → Fr gaR mdT h h' → kpT h h' → LdF l f ps a S T → h'.2.2 102 33 = h.2.2 102 33 → h'.2.2 102 34 = .int (nI f) → h'.2.2 102 0 = .int (nI 0) → h'.2.2 102 2 = .int (nI 0) → post (some (.int (nI f))) h')
    (hp0 : ∀ h' ps a S T, Fr (gaR ++ kpR) (mdT ++ kpF) h h' → LdF l 0 ps a S T → PK h' l ps a S T → h'.2.2 102 34 = .int (nI 0) → h'.2.2 102 0 = .int (nI 0) → h'.2.2 102 2 = .int (nI 0) → post (some (.int (nI 0))) h') :
    xm_T (XE sc) (d + 8) 251 [.ref 102] h post := by
  refine xq_in rfl ?_
  simp only [xq_a0, xq_aI, xq_aJ, xq_aR, Nat.reduceAdd]
  with_reducible refine xm_go_blk b_X12_load_0 k_X12_load_0 ?_
  refine by_aload_n rfl ?_
  refine by_iconst ci_0 ?_
  refine by_putf cn_251 fl_12_205 (by first | exact rfl | assumption) (by decide) nf_12_0 ft_12_0 (by first | rfl | assumption) (by first | rfl | assumption) ?_
  refine by_aload_n rfl ?_
  refine by_aload_n rfl ?_
  refine by_inv0 cn_251 lk_12_410 (by rw [xe_cnt]; decide) is_283 np_283 cn_283 (by first | exact rfl | assumption) (Nat.le_of_ble_eq_true rfl) ?_
  have f1 : Fr [] [(102, 0)] h (xm_sf h 102 0 (.int (nI 0))) := Fr_sf Fr_rf (by simp)
  have F1 : XF (xm_sf h 102 0 (.int (nI 0))) := Fr_XF hF f1 (by decide +kernel)
  refine sp_mreadProgram (d := d) (l := l) (kb := kb) F1 ⟨hl.1, hl.2⟩ (by rw [f1.2.2 _ _ (by simp)]; exact ht) (by rw [f1.2.2 _ _ (by simp)]; exact hkb) (fun h2 f ps a S T f2 kp2 hL hf12 hPM hk2 => ?_)
  have F2 : XF h2 := Fr_XF F1 f2 ga_fin
  have f12 : Fr gaR mdT h h2 := Fr_tr (Fr_mo f1 (by simp) (by simp [mdT])) f2 (fun _ z => z) (by simp [gaT, mdT])
  have kp12 : kpT h h2 := kpT_tr (kpT_fr f1 (by simp)) kp2
  have y0 : h2.2.2 102 0 = .int (nI 0) := by rw [f2.2.2 _ _ (by simp [gaT])]; simp [xm_sf, updV]
  by_cases e : f = 0
  · subst e
    obtain ⟨hpr, hG⟩ : pr_prog (by_bit l) (8 * l.length) = .ok (ps, a) ∧ LdG l ps a 0 S T := by
      rcases hL with ⟨z, _⟩ | z
      · exact absurd z (by decide)
      · exact z
    have f3 : Fr [] [(102, 34)] h2 (xm_sf h2 102 34 (.int (nI 0))) := Fr_sf Fr_rf (by simp)
    have F3 : XF (xm_sf h2 102 34 (.int (nI 0))) := Fr_XF F2 f3 (by decide +kernel)
    obtain ⟨q1, q2, q3, q4, q5, ⟨k, b, q6, q7, q8⟩, cn, tr, K, L, R, q9, q10, q11⟩ := hPM rfl
    have hP3 : PM (xm_sf h2 102 34 (.int (nI 0))) l ps a S T := ⟨q1, q2, q3, by rw [f3.2.2 _ _ (by simp)]; exact q4, q5, ⟨k, b, q6, by rw [f3.2.2 _ _ (by simp)]; exact q7, q8⟩, cn, tr, K, L, R, q9, mtT_fr q10 f3 (by simp) (by simp), q11⟩
    with_reducible refine xm_go_blk b_X12_load_10 k_X12_load_10 ?_
    refine by_putf cn_251 fl_12_413 (by first | exact rfl | assumption) (by decide) nf_12_34 ft_12_34 (by first | rfl | assumption) (by first | rfl | assumption) ?_
    refine by_aload_n rfl ?_
    refine by_getf cn_251 fl_12_413 (by first | exact rfl | assumption) (by decide) ?_
    simp (disch := first | exact Nat.ne_of_beq_eq_false rfl | exact rfl | omega) only [nI_add, xa_sub, xa_mul, pk_div, nm_mod, xa_shr, xa_and7, xa_and1, xa_and255, xa_by_and, nI_m1, Nat.add_sub_cancel, Nat.reducePow, Nat.zero_add, Nat.add_zero, Nat.reduceAdd, Nat.reduceMul, Nat.reduceSub, xf_same, xq_ff, xq_fo, xf_1, xf_2, xs_1, xs_2, xs_same, xq_so, xj_1, xj_2, xj_same, xq_jo, xq_sa1, xq_same, xq_other, upd_s, oI_n, oI_s]
    refine by_if_ne 24 rfl ?_
    simp (disch := first | exact Nat.ne_of_beq_eq_false rfl | exact rfl | omega) only [nI_add, xa_sub, xa_mul, pk_div, nm_mod, xa_shr, xa_and7, xa_and1, xa_and255, xa_by_and, nI_m1, Nat.add_sub_cancel, Nat.reducePow, Nat.zero_add, Nat.add_zero, Nat.reduceAdd, Nat.reduceMul, Nat.reduceSub, xf_same, xq_ff, xq_fo, xf_1, xf_2, xs_1, xs_2, xs_same, xq_so, xj_1, xj_2, xj_same, xq_jo, xq_sa1, xq_same, xq_other, upd_s, oI_n, oI_s, xv_0, xv_1, xv_2, xv_3, xm_p1, xm_p2, xq_fp, xq_fn, List.filter_nil, Nat.reduceBEq, Bool.not_true, Bool.not_false, Bool.and_true, Bool.and_false, Bool.false_and, Bool.true_and, if_true, if_false, Bool.false_eq_true, reduceIte, xc_i, xc_j, xc_r, xc_n, List.nil_append, List.cons_append, Option.toList_some, Option.toList_none, nI_ltJ, nI_leJ, nI_eqJ, nI_ltz, nI_gez, nI_gtz, nI_lez, nI_eqz, m1_ltz, m1_gez, true_imp_iff, false_imp_iff, true_and, and_true, ne_eq, not_false_eq_true, not_true_eq_false, Nat.reduceEqDiff, Nat.reduceLT, Nat.reduceLeDiff]
    with_reducible refine xm_go_blk b_X12_load_20 k_X12_load_20 ?_
    refine by_aload_n rfl ?_
    refine by_inv0 cn_251 lk_12_416 (by rw [xe_cnt]; decide) is_244 np_244 cn_244 (by first | exact rfl | assumption) (Nat.le_of_ble_eq_true rfl) ?_
    refine sp_keepProgram (d := d + 2) (l := l) F3 ⟨fun i hi => by rw [f3.1 103 (by simp), f12.1 103 (by simp [gaR])]; exact hl.1 i hi, hl.2⟩ (by rw [f3.2.2 _ _ (by simp), f2.2.2 _ _ (by simp [gaT]), f1.2.2 _ _ (by simp)]; exact ht) hP3 hG hpr (fun h4 f4 hK => ?_)
    have y34 : h4.2.2 102 34 = .int (nI 0) := by rw [f4.2.2 _ _ (by simp [kpF])]; simp [xm_sf, updV]
    have f5 : Fr [] [(102, 2)] h4 (xm_sf h4 102 2 (.int (nI 0))) := Fr_sf Fr_rf (by simp)
    with_reducible refine xm_go_blk b_X12_load_24 k_X12_load_24 ?_
    refine by_aload_n rfl ?_
    refine by_iconst ci_0 ?_
    refine by_putf cn_251 fl_12_215 (by first | exact rfl | assumption) (by decide) nf_12_2 ft_12_2 (by first | rfl | assumption) (by first | rfl | assumption) ?_
    refine by_aload_n rfl ?_
    refine by_getf cn_251 fl_12_413 (by first | exact rfl | assumption) (by decide) ?_
    simp (disch := first | exact Nat.ne_of_beq_eq_false rfl | exact rfl | omega) only [nI_add, xa_sub, xa_mul, pk_div, nm_mod, xa_shr, xa_and7, xa_and1, xa_and255, xa_by_and, nI_m1, Nat.add_sub_cancel, Nat.reducePow, Nat.zero_add, Nat.add_zero, Nat.reduceAdd, Nat.reduceMul, Nat.reduceSub, xf_same, xq_ff, xq_fo, xf_1, xf_2, xs_1, xs_2, xs_same, xq_so, xj_1, xj_2, xj_same, xq_jo, xq_sa1, xq_same, xq_other, upd_s, oI_n, oI_s, y34]
    refine by_iret ry_251 (by first | rfl | assumption) ?_
    refine hp0 _ ps a S T ?_ hL (PK_fr hK f5 (kpT_fr f5 (by simp)) (by simp) (by simp) (by simp) (by simp) (by simp) (f5.2.2 _ _ (by simp))) ?_ ?_ ?_
    · exact Fr_tr (Fr_tr (Fr_tr (Fr_mo f12 (fun _ z => List.mem_append_left _ z) (fun _ z => List.mem_append_left _ z)) f3 (by simp) (by simp [mdT])) f4 (fun _ z => List.mem_append_right _ z) (fun _ z => List.mem_append_right _ z)) f5 (by simp) (by simp [mdT])
    · rw [f5.2.2 _ _ (by simp)]; exact y34
    · rw [f5.2.2 _ _ (by simp), f4.2.2 _ _ (by simp [kpF]), f3.2.2 _ _ (by simp)]; exact y0
    · simp [xm_sf, updV]
  · have e' : (f = 0) = False := eq_false e
    with_reducible refine xm_go_blk b_X12_load_10 k_X12_load_10 ?_
    refine by_putf cn_251 fl_12_413 (by first | exact rfl | assumption) (by decide) nf_12_34 ft_12_34 (by first | rfl | assumption) (by first | rfl | assumption) ?_
    refine by_aload_n rfl ?_
    refine by_getf cn_251 fl_12_413 (by first | exact rfl | assumption) (by decide) ?_
    simp (disch := first | exact Nat.ne_of_beq_eq_false rfl | exact rfl | omega) only [nI_add, xa_sub, xa_mul, pk_div, nm_mod, xa_shr, xa_and7, xa_and1, xa_and255, xa_by_and, nI_m1, Nat.add_sub_cancel, Nat.reducePow, Nat.zero_add, Nat.add_zero, Nat.reduceAdd, Nat.reduceMul, Nat.reduceSub, xf_same, xq_ff, xq_fo, xf_1, xf_2, xs_1, xs_2, xs_same, xq_so, xj_1, xj_2, xj_same, xq_jo, xq_sa1, xq_same, xq_other, upd_s, oI_n, oI_s, e']
    refine by_if_ne 24 rfl ?_
    simp (disch := first | exact Nat.ne_of_beq_eq_false rfl | exact rfl | omega) only [nI_add, xa_sub, xa_mul, pk_div, nm_mod, xa_shr, xa_and7, xa_and1, xa_and255, xa_by_and, nI_m1, Nat.add_sub_cancel, Nat.reducePow, Nat.zero_add, Nat.add_zero, Nat.reduceAdd, Nat.reduceMul, Nat.reduceSub, xf_same, xq_ff, xq_fo, xf_1, xf_2, xs_1, xs_2, xs_same, xq_so, xj_1, xj_2, xj_same, xq_jo, xq_sa1, xq_same, xq_other, upd_s, oI_n, oI_s, xv_0, xv_1, xv_2, xv_3, xm_p1, xm_p2, xq_fp, xq_fn, List.filter_nil, Nat.reduceBEq, Bool.not_true, Bool.not_false, Bool.and_true, Bool.and_false, Bool.false_and, Bool.true_and, if_true, if_false, Bool.false_eq_true, reduceIte, xc_i, xc_j, xc_r, xc_n, List.nil_append, List.cons_append, Option.toList_some, Option.toList_none, nI_ltJ, nI_leJ, nI_eqJ, nI_ltz, nI_gez, nI_gtz, nI_lez, nI_eqz, m1_ltz, m1_gez, true_imp_iff, false_imp_iff, true_and, and_true, ne_eq, not_false_eq_true, not_true_eq_false, Nat.reduceEqDiff, Nat.reduceLT, Nat.reduceLeDiff, e']
    with_reducible refine xm_go_blk b_X12_load_24 k_X12_load_24 ?_
    refine by_aload_n rfl ?_
    refine by_iconst ci_0 ?_
    refine by_putf cn_251 fl_12_215 (by first | exact rfl | assumption) (by decide) nf_12_2 ft_12_2 (by first | rfl | assumption) (by first | rfl | assumption) ?_
    refine by_aload_n rfl ?_
    refine by_getf cn_251 fl_12_413 (by first | exact rfl | assumption) (by decide) ?_
    simp (disch := first | exact Nat.ne_of_beq_eq_false rfl | exact rfl | omega) only [nI_add, xa_sub, xa_mul, pk_div, nm_mod, xa_shr, xa_and7, xa_and1, xa_and255, xa_by_and, nI_m1, Nat.add_sub_cancel, Nat.reducePow, Nat.zero_add, Nat.add_zero, Nat.reduceAdd, Nat.reduceMul, Nat.reduceSub, xf_same, xq_ff, xq_fo, xf_1, xf_2, xs_1, xs_2, xs_same, xq_so, xj_1, xj_2, xj_same, xq_jo, xq_sa1, xq_same, xq_other, upd_s, oI_n, oI_s, e']
    refine by_iret ry_251 (by first | rfl | assumption) ?_
    have f5 : Fr [] [(102, 34), (102, 2)] h2 (xm_sf (xm_sf h2 102 34 (.int (nI f))) 102 2 (.int (nI 0))) := Fr_sf (Fr_sf Fr_rf (by simp)) (by simp)
    refine hp1 _ f ps a S T e hf12 (Fr_tr f12 f5 (by simp) (by simp [mdT])) (kpT_tr kp12 (kpT_fr f5 (by simp))) hL ?_ ?_ ?_ ?_
    · rw [f5.2.2 _ _ (by simp), hk2 e, f1.2.2 _ _ (by simp)]
    · simp [xm_sf, updV]
    · rw [f5.2.2 _ _ (by simp)]; exact y0
    · simp [xm_sf, updV]
end ML
