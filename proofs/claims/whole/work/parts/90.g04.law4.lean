/-! ===== the law: wipe, load, say, again ===== -/
def lgN (sc : xm_Sc) (d K : Nat) (post : xm_Po) (W k i : Nat) : Prop := ∀ k' h' pp qq W' t ou o le pl rn uc uf us, k' ≤ k + 1 → W' ≤ W + 1700 → xI h' pp qq W' t ou o le pl rn uc uf us → mI h' t ou o le pl rn uc uf us → xm_goL (XE sc) (d + 60) 330 K (xw_Hp sc (d + 57)) post k' 1045 [(4, .int (nI i)), (0, .ref 208), (1, .ref 0), (2, .ref 102), (3, .ref 163)] [] h'
section LW
variable {sc : xm_Sc} {d K k i : Nat} {post : xm_Po} {h : xm_H} {pp qq W : Nat} {t ou : List Nat} {o : Option PgD} {le pl rn : Int32} {uc uf us : Nat}
theorem lw_wipe (hx : xI h pp qq W t ou o le pl rn uc uf us) (hm : mI h t ou o le pl rn uc uf us) (hi : i + 4 ≤ sc.1) (hL : sc.1 ≤ 2048) (hW : W + 4000 < 1000000) (hk : k < K) (hgo : lgN sc d K post W k i) : xm_goL (XE sc) (d + 60) 330 K (xw_Hp sc (d + 57)) post k 216 [(4, .int (nI i)), (0, .ref 208), (1, .ref 0), (2, .ref 102), (3, .ref 163)] [] h := by
  with_reducible refine xl_blk b_L_law_216 k_L_law_216 ?_
  refine by_aload_n rfl ?_
  refine by_inv0 cn_330 lk_14_75 (by rw [xe_cnt]; decide) is_196 np_196 cn_196 (by first | exact rfl | assumption) (Nat.le_of_ble_eq_true rfl) ?_
  refine xi_wipe (d := d + 58) hx (fun h1 x1 f1 => ?_)
  have m1 := mI_x hm ⟨_, _, f1, by decide⟩
  with_reducible refine xl_blk b_L_law_220 k_L_law_220 ?_
  refine by_aload_n rfl ?_
  refine by_inv0 cn_330 lk_14_78 (by rw [xe_cnt]; decide) is_318 np_318 cn_318 (by first | exact rfl | assumption) (Nat.le_of_ble_eq_true rfl) ?_
  refine mi_wipe (d := d + 59) m1 (fun h2 m2 f2 => ?_)
  with_reducible refine xl_blk b_L_law_224 k_L_law_224 ?_
  refine by_ic_eq 1045 rfl ?_
  simp (disch := first | exact Nat.ne_of_beq_eq_false rfl | exact rfl | omega) only [nI_add, xa_sub, xa_mul, pk_div, nm_mod, xa_shr, xa_and7, xa_and1, xa_and255, xa_by_and, nI_m1, Nat.add_sub_cancel, Nat.reducePow, Nat.zero_add, Nat.add_zero, Nat.reduceAdd, Nat.reduceMul, Nat.reduceSub, xf_same, xq_ff, xq_fo, xf_1, xf_2, xs_1, xs_2, xs_same, xq_so, xj_1, xj_2, xj_same, xq_jo, xq_sa1, xq_same, xq_other, upd_s, oI_n, oI_s, xv_0, xv_1, xv_2, xv_3, xm_p1, xm_p2, xq_fp, xq_fn, List.filter_nil, Nat.reduceBEq, Bool.not_true, Bool.not_false, Bool.and_true, Bool.and_false, Bool.false_and, Bool.true_and, if_true, if_false, Bool.false_eq_true, reduceIte, xc_i, xc_j, xc_r, xc_n, List.nil_append, List.cons_append, Option.toList_some, Option.toList_none, nI_ltJ, nI_leJ, nI_eqJ, nI_ltz, nI_gez, nI_gtz, nI_lez, nI_eqz, m1_ltz, m1_gez, true_imp_iff, false_imp_iff, true_and, and_true, ne_eq, not_false_eq_true, not_true_eq_false, Nat.reduceEqDiff, Nat.reduceLT, Nat.reduceLeDiff, eq_self]
  exact xl_wk (by simp [Value.category]) (hgo k h2 _ _ _ _ _ _ _ _ _ _ _ _ (by omega) (by omega) (xI_m x1 f2) m2)
theorem lw_again (hx : xI h pp qq W t ou o le pl rn uc uf us) (hm : mI h t ou o le pl rn uc uf us) (hi : i + 4 ≤ sc.1) (hL : sc.1 ≤ 2048) (hW : W + 4000 < 1000000) (hk : k < K) (hgo : lgN sc d K post W k i) : xm_goL (XE sc) (d + 60) 330 K (xw_Hp sc (d + 57)) post k 709 [(4, .int (nI i)), (0, .ref 208), (1, .ref 0), (2, .ref 102), (3, .ref 163)] [] h := by
  with_reducible refine xl_blk b_L_law_709 k_L_law_709 ?_
  refine by_aload_n rfl ?_
  refine by_inv0 cn_330 lk_14_110 (by rw [xe_cnt]; decide) is_178 np_178 cn_178 (by first | exact rfl | assumption) (Nat.le_of_ble_eq_true rfl) ?_
  refine xi_again (d := d + 57) hx (fun h1 x1 f1 => ?_)
  have m1 := mI_x hm ⟨_, _, f1, by decide⟩
  with_reducible refine xl_blk b_L_law_713 k_L_law_713 ?_
  refine by_aload_n rfl ?_
  refine by_inv0 cn_330 lk_14_113 (by rw [xe_cnt]; decide) is_200 np_200 cn_200 (by first | exact rfl | assumption) (Nat.le_of_ble_eq_true rfl) ?_
  refine mi_again (d := d + 59) x1.1.1 m1 (fun h2 m2 f2 => ?_)
  with_reducible refine xl_blk b_L_law_717 k_L_law_717 ?_
  refine by_ic_eq 1045 rfl ?_
  simp (disch := first | exact Nat.ne_of_beq_eq_false rfl | exact rfl | omega) only [nI_add, xa_sub, xa_mul, pk_div, nm_mod, xa_shr, xa_and7, xa_and1, xa_and255, xa_by_and, nI_m1, Nat.add_sub_cancel, Nat.reducePow, Nat.zero_add, Nat.add_zero, Nat.reduceAdd, Nat.reduceMul, Nat.reduceSub, xf_same, xq_ff, xq_fo, xf_1, xf_2, xs_1, xs_2, xs_same, xq_so, xj_1, xj_2, xj_same, xq_jo, xq_sa1, xq_same, xq_other, upd_s, oI_n, oI_s, xv_0, xv_1, xv_2, xv_3, xm_p1, xm_p2, xq_fp, xq_fn, List.filter_nil, Nat.reduceBEq, Bool.not_true, Bool.not_false, Bool.and_true, Bool.and_false, Bool.false_and, Bool.true_and, if_true, if_false, Bool.false_eq_true, reduceIte, xc_i, xc_j, xc_r, xc_n, List.nil_append, List.cons_append, Option.toList_some, Option.toList_none, nI_ltJ, nI_leJ, nI_eqJ, nI_ltz, nI_gez, nI_gtz, nI_lez, nI_eqz, m1_ltz, m1_gez, true_imp_iff, false_imp_iff, true_and, and_true, ne_eq, not_false_eq_true, not_true_eq_false, Nat.reduceEqDiff, Nat.reduceLT, Nat.reduceLeDiff, eq_self]
  exact xl_wk (by simp [Value.category]) (hgo k h2 _ _ _ _ _ _ _ _ _ _ _ _ (by omega) (by omega) (xI_m x1 f2) m2)
theorem lw_load (hx : xI h pp qq W t ou o le pl rn uc uf us) (hm : mI h t ou o le pl rn uc uf us) (hi : i + 4 ≤ sc.1) (hL : sc.1 ≤ 2048) (hW : W + 4000 < 1000000) (hk : k < K) (hgo : lgN sc d K post W k i) : xm_goL (XE sc) (d + 60) 330 K (xw_Hp sc (d + 57)) post k 229 [(4, .int (nI i)), (0, .ref 208), (1, .ref 0), (2, .ref 102), (3, .ref 163)] [] h := by
  with_reducible refine xl_blk b_L_law_229 k_L_law_229 ?_
  refine by_aload_n rfl ?_
  refine by_inv0 cn_330 lk_14_79 (by rw [xe_cnt]; decide) is_181 np_181 cn_181 (by first | exact rfl | assumption) (Nat.le_of_ble_eq_true rfl) ?_
  refine xi_load (d := d + 52) hx (by omega) (fun h1 f ps a S T W1 e1 e2 hL1 w1 x1 f1 => ?_) (fun h1 ps a S T W1 hL1 w1 hP x1 f1 => ?_)
  · have m1 := mI_x hm ⟨_, _, f1, (by rcases hx.1.2.1 with ⟨rfl, rfl⟩ | ⟨rfl, rfl⟩ <;> decide +kernel)⟩
    with_reducible refine xl_blk b_L_law_233 k_L_law_233 ?_
    refine by_aload_n rfl ?_
    refine by_inv0 cn_330 lk_14_82 (by rw [xe_cnt]; decide) is_251 np_251 cn_251 (by first | exact rfl | assumption) (Nat.le_of_ble_eq_true rfl) ?_
    refine mi_load (d := d + 52) x1.1.1 m1 (fun h2 f' ps' a' S' T' e1' e2' hL2 m2 f2 => ?_) (fun h2 ps' a' S' T' hL2 m2 f2 => ?_)
    · obtain ⟨e, _⟩ := LdF_uniq hL1 hL2
      subst e
      with_reducible refine xl_blk b_L_law_237 k_L_law_237 ?_
      refine by_ic_eq 1045 rfl ?_
      simp (disch := first | exact Nat.ne_of_beq_eq_false rfl | exact rfl | omega) only [nI_add, xa_sub, xa_mul, pk_div, nm_mod, xa_shr, xa_and7, xa_and1, xa_and255, xa_by_and, nI_m1, Nat.add_sub_cancel, Nat.reducePow, Nat.zero_add, Nat.add_zero, Nat.reduceAdd, Nat.reduceMul, Nat.reduceSub, xf_same, xq_ff, xq_fo, xf_1, xf_2, xs_1, xs_2, xs_same, xq_so, xj_1, xj_2, xj_same, xq_jo, xq_sa1, xq_same, xq_other, upd_s, oI_n, oI_s, xv_0, xv_1, xv_2, xv_3, xm_p1, xm_p2, xq_fp, xq_fn, List.filter_nil, Nat.reduceBEq, Bool.not_true, Bool.not_false, Bool.and_true, Bool.and_false, Bool.false_and, Bool.true_and, if_true, if_false, Bool.false_eq_true, reduceIte, xc_i, xc_j, xc_r, xc_n, List.nil_append, List.cons_append, Option.toList_some, Option.toList_none, nI_ltJ, nI_leJ, nI_eqJ, nI_ltz, nI_gez, nI_gtz, nI_lez, nI_eqz, m1_ltz, m1_gez, true_imp_iff, false_imp_iff, true_and, and_true, ne_eq, not_false_eq_true, not_true_eq_false, Nat.reduceEqDiff, Nat.reduceLT, Nat.reduceLeDiff, eq_self]
      exact xl_wk (by simp [Value.category]) (hgo k h2 _ _ _ _ _ _ _ _ _ _ _ _ (by omega) (by omega) (xI_m x1 f2) m2)
    · exact absurd (LdF_uniq hL1 hL2).1 e1
  · have m1 := mI_x hm ⟨_, _, f1, (by rcases hx.1.2.1 with ⟨rfl, rfl⟩ | ⟨rfl, rfl⟩ <;> decide +kernel)⟩
    with_reducible refine xl_blk b_L_law_233 k_L_law_233 ?_
    refine by_aload_n rfl ?_
    refine by_inv0 cn_330 lk_14_82 (by rw [xe_cnt]; decide) is_251 np_251 cn_251 (by first | exact rfl | assumption) (Nat.le_of_ble_eq_true rfl) ?_
    refine mi_load (d := d + 52) x1.1.1 m1 (fun h2 f' ps' a' S' T' e1' e2' hL2 m2 f2 => ?_) (fun h2 ps' a' S' T' hL2 m2 f2 => ?_)
    · exact absurd (LdF_uniq hL1 hL2).1.symm e1'
    · obtain ⟨_, e⟩ := LdF_uniq hL1 hL2
      obtain ⟨rfl, rfl, e⟩ := e rfl
      obtain ⟨C, F, B, k0, b0, hb, _⟩ := hP.2.2.2
      obtain ⟨n1, n2, n3, n4, n5⟩ := m2
      with_reducible refine xl_blk b_L_law_237 k_L_law_237 ?_
      refine by_ic_eq 1045 rfl ?_
      simp (disch := first | exact Nat.ne_of_beq_eq_false rfl | exact rfl | omega) only [nI_add, xa_sub, xa_mul, pk_div, nm_mod, xa_shr, xa_and7, xa_and1, xa_and255, xa_by_and, nI_m1, Nat.add_sub_cancel, Nat.reducePow, Nat.zero_add, Nat.add_zero, Nat.reduceAdd, Nat.reduceMul, Nat.reduceSub, xf_same, xq_ff, xq_fo, xf_1, xf_2, xs_1, xs_2, xs_same, xq_so, xj_1, xj_2, xj_same, xq_jo, xq_sa1, xq_same, xq_other, upd_s, oI_n, oI_s, xv_0, xv_1, xv_2, xv_3, xm_p1, xm_p2, xq_fp, xq_fn, List.filter_nil, Nat.reduceBEq, Bool.not_true, Bool.not_false, Bool.and_true, Bool.and_false, Bool.false_and, Bool.true_and, if_true, if_false, Bool.false_eq_true, reduceIte, xc_i, xc_j, xc_r, xc_n, List.nil_append, List.cons_append, Option.toList_some, Option.toList_none, nI_ltJ, nI_leJ, nI_eqJ, nI_ltz, nI_gez, nI_gtz, nI_lez, nI_eqz, m1_ltz, m1_gez, true_imp_iff, false_imp_iff, true_and, and_true, ne_eq, not_false_eq_true, not_true_eq_false, Nat.reduceEqDiff, Nat.reduceLT, Nat.reduceLeDiff, eq_self]
      exact xl_wk (by simp [Value.category]) (hgo k h2 _ _ _ _ _ _ _ _ _ _ _ _ (by omega) (by omega) (xI_m x1 f2) ⟨n1, n2, n3, PK_cg n4 hP.2.1 hb (e rfl).2.2, n5⟩)
theorem lw_say (hx : xI h pp qq W t ou o le pl rn uc uf us) (hm : mI h t ou o le pl rn uc uf us) (hi : i + 4 ≤ sc.1) (hL : sc.1 ≤ 2048) (hW : W + 4000 < 1000000) (hk : k < K) (hgo : lgN sc d K post W k i) : xm_goL (XE sc) (d + 60) 330 K (xw_Hp sc (d + 57)) post k 652 [(4, .int (nI i)), (0, .ref 208), (1, .ref 0), (2, .ref 102), (3, .ref 163)] [] h := by
  have t8 : t.length ≤ 8192 := hx.2.1.2.2.1
  with_reducible refine xl_blk b_L_law_652 k_L_law_652 ?_
  refine by_aload_n rfl ?_
  refine by_inv0 cn_330 lk_14_102 (by rw [xe_cnt]; decide) is_189 np_189 cn_189 (by first | exact rfl | assumption) (Nat.le_of_ble_eq_true rfl) ?_
  refine xi_say (d := d + 51) hx hW (fun h1 a f bl W1 e1 e2 hS w1 x1 f1 => ?_) (fun h1 f bl W1 hS w1 x1 f1 => ?_)
  · have m1 := mI_x hm ⟨_, _, f1, (by rcases hx.1.2.1 with ⟨rfl, rfl⟩ | ⟨rfl, rfl⟩ <;> decide +kernel)⟩
    with_reducible refine xl_blk b_L_law_656 k_L_law_656 ?_
    refine by_aload_n rfl ?_
    refine by_inv0 cn_330 lk_14_105 (by rw [xe_cnt]; decide) is_291 np_291 cn_291 (by first | exact rfl | assumption) (Nat.le_of_ble_eq_true rfl) ?_
    refine mi_say (d := d + 50) x1.1.1 m1 (fun h2 a' f' bl' e1' e2' hS2 m2 f2 => ?_) (fun h2 f' bl' hS2 m2 f2 => ?_)
    · obtain ⟨rfl, rfl, _⟩ := SyF_uniq hS hS2
      with_reducible refine xl_blk b_L_law_660 k_L_law_660 ?_
      refine by_ic_eq 1045 rfl ?_
      simp (disch := first | exact Nat.ne_of_beq_eq_false rfl | exact rfl | omega) only [nI_add, xa_sub, xa_mul, pk_div, nm_mod, xa_shr, xa_and7, xa_and1, xa_and255, xa_by_and, nI_m1, Nat.add_sub_cancel, Nat.reducePow, Nat.zero_add, Nat.add_zero, Nat.reduceAdd, Nat.reduceMul, Nat.reduceSub, xf_same, xq_ff, xq_fo, xf_1, xf_2, xs_1, xs_2, xs_same, xq_so, xj_1, xj_2, xj_same, xq_jo, xq_sa1, xq_same, xq_other, upd_s, oI_n, oI_s, xv_0, xv_1, xv_2, xv_3, xm_p1, xm_p2, xq_fp, xq_fn, List.filter_nil, Nat.reduceBEq, Bool.not_true, Bool.not_false, Bool.and_true, Bool.and_false, Bool.false_and, Bool.true_and, if_true, if_false, Bool.false_eq_true, reduceIte, xc_i, xc_j, xc_r, xc_n, List.nil_append, List.cons_append, Option.toList_some, Option.toList_none, nI_ltJ, nI_leJ, nI_eqJ, nI_ltz, nI_gez, nI_gtz, nI_lez, nI_eqz, m1_ltz, m1_gez, true_imp_iff, false_imp_iff, true_and, and_true, ne_eq, not_false_eq_true, not_true_eq_false, Nat.reduceEqDiff, Nat.reduceLT, Nat.reduceLeDiff, eq_self]
      exact xl_wk (by simp [Value.category]) (hgo k h2 _ _ _ _ _ _ _ _ _ _ _ _ (by omega) (by omega) (xI_m x1 f2) m2)
    · exact absurd (SyF_uniq hS hS2).1 e1
  · have m1 := mI_x hm ⟨_, _, f1, (by rcases hx.1.2.1 with ⟨rfl, rfl⟩ | ⟨rfl, rfl⟩ <;> decide +kernel)⟩
    with_reducible refine xl_blk b_L_law_656 k_L_law_656 ?_
    refine by_aload_n rfl ?_
    refine by_inv0 cn_330 lk_14_105 (by rw [xe_cnt]; decide) is_291 np_291 cn_291 (by first | exact rfl | assumption) (Nat.le_of_ble_eq_true rfl) ?_
    refine mi_say (d := d + 50) x1.1.1 m1 (fun h2 a' f' bl' e1' e2' hS2 m2 f2 => ?_) (fun h2 f' bl' hS2 m2 f2 => ?_)
    · exact absurd (SyF_uniq hS hS2).1.symm e1'
    · obtain ⟨_, rfl, e⟩ := SyF_uniq hS hS2
      obtain rfl := e rfl
      with_reducible refine xl_blk b_L_law_660 k_L_law_660 ?_
      refine by_ic_eq 1045 rfl ?_
      simp (disch := first | exact Nat.ne_of_beq_eq_false rfl | exact rfl | omega) only [nI_add, xa_sub, xa_mul, pk_div, nm_mod, xa_shr, xa_and7, xa_and1, xa_and255, xa_by_and, nI_m1, Nat.add_sub_cancel, Nat.reducePow, Nat.zero_add, Nat.add_zero, Nat.reduceAdd, Nat.reduceMul, Nat.reduceSub, xf_same, xq_ff, xq_fo, xf_1, xf_2, xs_1, xs_2, xs_same, xq_so, xj_1, xj_2, xj_same, xq_jo, xq_sa1, xq_same, xq_other, upd_s, oI_n, oI_s, xv_0, xv_1, xv_2, xv_3, xm_p1, xm_p2, xq_fp, xq_fn, List.filter_nil, Nat.reduceBEq, Bool.not_true, Bool.not_false, Bool.and_true, Bool.and_false, Bool.false_and, Bool.true_and, if_true, if_false, Bool.false_eq_true, reduceIte, xc_i, xc_j, xc_r, xc_n, List.nil_append, List.cons_append, Option.toList_some, Option.toList_none, nI_ltJ, nI_leJ, nI_eqJ, nI_ltz, nI_gez, nI_gtz, nI_lez, nI_eqz, m1_ltz, m1_gez, true_imp_iff, false_imp_iff, true_and, and_true, ne_eq, not_false_eq_true, not_true_eq_false, Nat.reduceEqDiff, Nat.reduceLT, Nat.reduceLeDiff, eq_self]
      exact xl_wk (by simp [Value.category]) (hgo k h2 _ _ _ _ _ _ _ _ _ _ _ _ (by omega) (by omega) (xI_m x1 f2) m2)
end LW
