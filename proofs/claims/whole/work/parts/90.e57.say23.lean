/-! ===== say: bits of the class's pen, and too many of them ===== -/
def penW (h : xm_H) (bl : List Nat) : Prop := bOK bl ∧ (penB h bl ∨ (65536 < bl.length ∧ h.2.2 5 1 = .int (nI 8192) ∧ h.2.2 5 2 = .int (nI 1) ∧ h.2.2 5 3 = .int (nI (bl.length % 8))))
section SY
variable {sc : xm_Sc} {d : Nat} {bl : List Nat} {h : xm_H} {post : xm_Po}
theorem b01 (x : Int32) : (if x = 0 then 0 else 1 : Nat) < 2 := by split <;> decide
theorem sp_putW {x : Int32} (hF : XF h) (hb : penW h bl) (hp : ∀ h', Fr [6] [(5, 1), (5, 2), (5, 3)] h h' → penW h' (bl ++ [if x = 0 then 0 else 1]) → post none h') : xm_T (XE sc) (d + 2) 134 [.ref 5, .int x] h post := by
  obtain ⟨ok, hb⟩ := hb
  have ok2 : bOK (bl ++ [if x = 0 then 0 else 1]) := bOK_app ok (fun y hy => by rw [List.mem_singleton.mp hy]; exact b01 x)
  have over : 65536 ≤ bl.length → h.2.2 5 1 = .int (nI 8192) → h.2.2 5 3 = .int (nI (bl.length % 8)) → (bl.length % 8 = 0 ∨ h.2.2 5 2 = .int (nI 1)) → xm_T (XE sc) (d + 2) 134 [.ref 5, .int x] h post := fun hl b1 b3 b2 => by
    have eL : (bl ++ [if x = 0 then 0 else 1]).length = bl.length + 1 := by simp
    refine xq_in rfl ?_
    simp only [xq_a0, xq_aI, xq_aJ, xq_aR, Nat.reduceAdd]
    have e7 : (bl.length % 8 + 1) % 8 = (bl.length + 1) % 8 := by omega
    by_cases e : bl.length % 8 = 0
    · have b3' : h.2.2 5 3 = .int (nI 0) := by rw [b3, e]
      with_reducible refine xm_go_blk b_X8_putBit_0 k_X8_putBit_0 ?_
      refine by_aload_n rfl ?_
      refine by_getf cn_134 fl_8_19 (by first | exact rfl | assumption | exact ps_12 hpp) (by decide) ?_
      refine by_bipush cb_7 ?_
      simp (disch := first | exact Nat.ne_of_beq_eq_false rfl | exact rfl | omega) only [nI_add, xa_sub, xa_mul, pk_div, nm_mod, xa_shr, xa_and7, xa_and1, xa_and255, xa_by_and, nI_m1, Nat.add_sub_cancel, Nat.reducePow, Nat.zero_add, Nat.add_zero, Nat.reduceAdd, Nat.reduceMul, Nat.reduceSub, xf_same, xq_ff, xq_fo, xf_1, xf_2, xs_1, xs_2, xs_same, xq_so, xj_1, xj_2, xj_same, xq_jo, xq_sa1, xq_same, xq_other, upd_s, oI_n, oI_s, b3']
      refine by_iand ?_
      refine by_if_ne 15 rfl ?_
      simp (disch := first | exact Nat.ne_of_beq_eq_false rfl | exact rfl | omega) only [nI_add, xa_sub, xa_mul, pk_div, nm_mod, xa_shr, xa_and7, xa_and1, xa_and255, xa_by_and, nI_m1, Nat.add_sub_cancel, Nat.reducePow, Nat.zero_add, Nat.add_zero, Nat.reduceAdd, Nat.reduceMul, Nat.reduceSub, xf_same, xq_ff, xq_fo, xf_1, xf_2, xs_1, xs_2, xs_same, xq_so, xj_1, xj_2, xj_same, xq_jo, xq_sa1, xq_same, xq_other, upd_s, oI_n, oI_s, xv_0, xv_1, xv_2, xv_3, xm_p1, xm_p2, xq_fp, xq_fn, List.filter_nil, Nat.reduceBEq, Bool.not_true, Bool.not_false, Bool.and_true, Bool.and_false, Bool.false_and, Bool.true_and, if_true, if_false, Bool.false_eq_true, reduceIte, xc_i, xc_j, xc_r, xc_n, List.nil_append, List.cons_append, Option.toList_some, Option.toList_none, nI_ltJ, nI_leJ, nI_eqJ, nI_ltz, nI_gez, nI_gtz, nI_lez, nI_eqz, m1_ltz, m1_gez, true_imp_iff, false_imp_iff, true_and, and_true, ne_eq, not_false_eq_true, not_true_eq_false, Nat.reduceEqDiff, Nat.reduceLT, Nat.reduceLeDiff, b3']
      with_reducible refine xm_go_blk b_X8_putBit_10 k_X8_putBit_10 ?_
      refine by_aload_n rfl ?_
      refine by_iconst ci_0 ?_
      refine by_inv1 cn_134 lk_8_42 (by rw [xe_cnt]; decide) is_133 np_133 cn_133 (by first | exact rfl | assumption | exact ps_12 hpp) (Nat.le_of_ble_eq_true rfl) ?_
      refine sp_put_over sh_5 b1 ?_
      have c3 : (xm_sf h 5 2 (.int (nI 1))).2.2 5 3 = .int (nI 0) := by simpa [xm_sf, updV] using b3'
      have c2 : (xm_sf h 5 2 (.int (nI 1))).2.2 5 2 = .int (nI 1) := by simp [xm_sf, updV]
      have c1 : (xm_sf h 5 2 (.int (nI 1))).2.2 5 1 = .int (nI 8192) := by simpa [xm_sf, updV] using b1
      have fg : Fr [6] [(5, 1), (5, 2), (5, 3)] h (xm_sf h 5 2 (.int (nI 1))) := Fr_sf Fr_rf (by simp)
      generalize xm_sf h 5 2 (.int (nI 1)) = g at *
      with_reducible refine xm_go_blk b_X8_putBit_15 k_X8_putBit_15 ?_
      refine by_aload_n rfl ?_
      refine by_getf cn_134 fl_8_22 (by first | exact rfl | assumption | exact ps_12 hpp) (by decide) ?_
      simp (disch := first | exact Nat.ne_of_beq_eq_false rfl | exact rfl | omega) only [nI_add, xa_sub, xa_mul, pk_div, nm_mod, xa_shr, xa_and7, xa_and1, xa_and255, xa_by_and, nI_m1, Nat.add_sub_cancel, Nat.reducePow, Nat.zero_add, Nat.add_zero, Nat.reduceAdd, Nat.reduceMul, Nat.reduceSub, xf_same, xq_ff, xq_fo, xf_1, xf_2, xs_1, xs_2, xs_same, xq_so, xj_1, xj_2, xj_same, xq_jo, xq_sa1, xq_same, xq_other, upd_s, oI_n, oI_s, c2, c3]
      refine by_if_ne 54 rfl ?_
      simp (disch := first | exact Nat.ne_of_beq_eq_false rfl | exact rfl | omega) only [nI_add, xa_sub, xa_mul, pk_div, nm_mod, xa_shr, xa_and7, xa_and1, xa_and255, xa_by_and, nI_m1, Nat.add_sub_cancel, Nat.reducePow, Nat.zero_add, Nat.add_zero, Nat.reduceAdd, Nat.reduceMul, Nat.reduceSub, xf_same, xq_ff, xq_fo, xf_1, xf_2, xs_1, xs_2, xs_same, xq_so, xj_1, xj_2, xj_same, xq_jo, xq_sa1, xq_same, xq_other, upd_s, oI_n, oI_s, xv_0, xv_1, xv_2, xv_3, xm_p1, xm_p2, xq_fp, xq_fn, List.filter_nil, Nat.reduceBEq, Bool.not_true, Bool.not_false, Bool.and_true, Bool.and_false, Bool.false_and, Bool.true_and, if_true, if_false, Bool.false_eq_true, reduceIte, xc_i, xc_j, xc_r, xc_n, List.nil_append, List.cons_append, Option.toList_some, Option.toList_none, nI_ltJ, nI_leJ, nI_eqJ, nI_ltz, nI_gez, nI_gtz, nI_lez, nI_eqz, m1_ltz, m1_gez, true_imp_iff, false_imp_iff, true_and, and_true, ne_eq, not_false_eq_true, not_true_eq_false, Nat.reduceEqDiff, Nat.reduceLT, Nat.reduceLeDiff, c2, c3]
      with_reducible refine xm_go_blk b_X8_putBit_54 k_X8_putBit_54 ?_
      refine by_aload_n rfl ?_
      refine by_aload_n rfl ?_
      refine by_getf cn_134 fl_8_19 (by first | exact rfl | assumption | exact ps_12 hpp) (by decide) ?_
      refine by_iconst ci_1 ?_
      simp (disch := first | exact Nat.ne_of_beq_eq_false rfl | exact rfl | omega) only [nI_add, xa_sub, xa_mul, pk_div, nm_mod, xa_shr, xa_and7, xa_and1, xa_and255, xa_by_and, nI_m1, Nat.add_sub_cancel, Nat.reducePow, Nat.zero_add, Nat.add_zero, Nat.reduceAdd, Nat.reduceMul, Nat.reduceSub, xf_same, xq_ff, xq_fo, xf_1, xf_2, xs_1, xs_2, xs_same, xq_so, xj_1, xj_2, xj_same, xq_jo, xq_sa1, xq_same, xq_other, upd_s, oI_n, oI_s, c2, c3]
      refine by_iadd ?_
      refine by_bipush cb_7 ?_
      refine by_iand ?_
      refine by_putf cn_134 fl_8_19 (by first | exact rfl | assumption | exact ps_12 hpp) (by decide) nf_8_3 ft_8_3 (by first | rfl | assumption) (by first | rfl | assumption) ?_
      refine by_ret ry_134 ?_
      try simp (disch := first | exact Nat.ne_of_beq_eq_false rfl | exact rfl | omega) only [nI_add, xa_sub, xa_mul, pk_div, nm_mod, xa_shr, xa_and7, xa_and1, xa_and255, xa_by_and, nI_m1, Nat.add_sub_cancel, Nat.reducePow, Nat.zero_add, Nat.add_zero, Nat.reduceAdd, Nat.reduceMul, Nat.reduceSub, xf_same, xq_ff, xq_fo, xf_1, xf_2, xs_1, xs_2, xs_same, xq_so, xj_1, xj_2, xj_same, xq_jo, xq_sa1, xq_same, xq_other, upd_s, oI_n, oI_s, c2, c3]
      refine hp _ (Fr_sf fg (by simp)) ⟨ok2, Or.inr ⟨by rw [eL]; omega, by simpa [xm_sf, updV] using c1, by simpa [xm_sf, updV] using c2, ?_⟩⟩
      rw [eL, ← e7, e]
      simp [xm_sf, updV]
    · have b2 : h.2.2 5 2 = .int (nI 1) := b2.resolve_left e
      have e' : (bl.length % 8 = 0) = False := eq_false e
      with_reducible refine xm_go_blk b_X8_putBit_0 k_X8_putBit_0 ?_
      refine by_aload_n rfl ?_
      refine by_getf cn_134 fl_8_19 (by first | exact rfl | assumption | exact ps_12 hpp) (by decide) ?_
      refine by_bipush cb_7 ?_
      simp (disch := first | exact Nat.ne_of_beq_eq_false rfl | exact rfl | omega) only [nI_add, xa_sub, xa_mul, pk_div, nm_mod, xa_shr, xa_and7, xa_and1, xa_and255, xa_by_and, nI_m1, Nat.add_sub_cancel, Nat.reducePow, Nat.zero_add, Nat.add_zero, Nat.reduceAdd, Nat.reduceMul, Nat.reduceSub, xf_same, xq_ff, xq_fo, xf_1, xf_2, xs_1, xs_2, xs_same, xq_so, xj_1, xj_2, xj_same, xq_jo, xq_sa1, xq_same, xq_other, upd_s, oI_n, oI_s, b3, b2, e', Nat.mod_mod]
      refine by_iand ?_
      refine by_if_ne 15 rfl ?_
      simp (disch := first | exact Nat.ne_of_beq_eq_false rfl | exact rfl | omega) only [nI_add, xa_sub, xa_mul, pk_div, nm_mod, xa_shr, xa_and7, xa_and1, xa_and255, xa_by_and, nI_m1, Nat.add_sub_cancel, Nat.reducePow, Nat.zero_add, Nat.add_zero, Nat.reduceAdd, Nat.reduceMul, Nat.reduceSub, xf_same, xq_ff, xq_fo, xf_1, xf_2, xs_1, xs_2, xs_same, xq_so, xj_1, xj_2, xj_same, xq_jo, xq_sa1, xq_same, xq_other, upd_s, oI_n, oI_s, xv_0, xv_1, xv_2, xv_3, xm_p1, xm_p2, xq_fp, xq_fn, List.filter_nil, Nat.reduceBEq, Bool.not_true, Bool.not_false, Bool.and_true, Bool.and_false, Bool.false_and, Bool.true_and, if_true, if_false, Bool.false_eq_true, reduceIte, xc_i, xc_j, xc_r, xc_n, List.nil_append, List.cons_append, Option.toList_some, Option.toList_none, nI_ltJ, nI_leJ, nI_eqJ, nI_ltz, nI_gez, nI_gtz, nI_lez, nI_eqz, m1_ltz, m1_gez, true_imp_iff, false_imp_iff, true_and, and_true, ne_eq, not_false_eq_true, not_true_eq_false, Nat.reduceEqDiff, Nat.reduceLT, Nat.reduceLeDiff, b3, b2, e', Nat.mod_mod]
      with_reducible refine xm_go_blk b_X8_putBit_15 k_X8_putBit_15 ?_
      refine by_aload_n rfl ?_
      refine by_getf cn_134 fl_8_22 (by first | exact rfl | assumption | exact ps_12 hpp) (by decide) ?_
      simp (disch := first | exact Nat.ne_of_beq_eq_false rfl | exact rfl | omega) only [nI_add, xa_sub, xa_mul, pk_div, nm_mod, xa_shr, xa_and7, xa_and1, xa_and255, xa_by_and, nI_m1, Nat.add_sub_cancel, Nat.reducePow, Nat.zero_add, Nat.add_zero, Nat.reduceAdd, Nat.reduceMul, Nat.reduceSub, xf_same, xq_ff, xq_fo, xf_1, xf_2, xs_1, xs_2, xs_same, xq_so, xj_1, xj_2, xj_same, xq_jo, xq_sa1, xq_same, xq_other, upd_s, oI_n, oI_s, b3, b2, e', Nat.mod_mod]
      refine by_if_ne 54 rfl ?_
      simp (disch := first | exact Nat.ne_of_beq_eq_false rfl | exact rfl | omega) only [nI_add, xa_sub, xa_mul, pk_div, nm_mod, xa_shr, xa_and7, xa_and1, xa_and255, xa_by_and, nI_m1, Nat.add_sub_cancel, Nat.reducePow, Nat.zero_add, Nat.add_zero, Nat.reduceAdd, Nat.reduceMul, Nat.reduceSub, xf_same, xq_ff, xq_fo, xf_1, xf_2, xs_1, xs_2, xs_same, xq_so, xj_1, xj_2, xj_same, xq_jo, xq_sa1, xq_same, xq_other, upd_s, oI_n, oI_s, xv_0, xv_1, xv_2, xv_3, xm_p1, xm_p2, xq_fp, xq_fn, List.filter_nil, Nat.reduceBEq, Bool.not_true, Bool.not_false, Bool.and_true, Bool.and_false, Bool.false_and, Bool.true_and, if_true, if_false, Bool.false_eq_true, reduceIte, xc_i, xc_j, xc_r, xc_n, List.nil_append, List.cons_append, Option.toList_some, Option.toList_none, nI_ltJ, nI_leJ, nI_eqJ, nI_ltz, nI_gez, nI_gtz, nI_lez, nI_eqz, m1_ltz, m1_gez, true_imp_iff, false_imp_iff, true_and, and_true, ne_eq, not_false_eq_true, not_true_eq_false, Nat.reduceEqDiff, Nat.reduceLT, Nat.reduceLeDiff, b3, b2, e', Nat.mod_mod]
      with_reducible refine xm_go_blk b_X8_putBit_54 k_X8_putBit_54 ?_
      refine by_aload_n rfl ?_
      refine by_aload_n rfl ?_
      refine by_getf cn_134 fl_8_19 (by first | exact rfl | assumption | exact ps_12 hpp) (by decide) ?_
      refine by_iconst ci_1 ?_
      simp (disch := first | exact Nat.ne_of_beq_eq_false rfl | exact rfl | omega) only [nI_add, xa_sub, xa_mul, pk_div, nm_mod, xa_shr, xa_and7, xa_and1, xa_and255, xa_by_and, nI_m1, Nat.add_sub_cancel, Nat.reducePow, Nat.zero_add, Nat.add_zero, Nat.reduceAdd, Nat.reduceMul, Nat.reduceSub, xf_same, xq_ff, xq_fo, xf_1, xf_2, xs_1, xs_2, xs_same, xq_so, xj_1, xj_2, xj_same, xq_jo, xq_sa1, xq_same, xq_other, upd_s, oI_n, oI_s, b3, b2, e', Nat.mod_mod]
      refine by_iadd ?_
      refine by_bipush cb_7 ?_
      refine by_iand ?_
      refine by_putf cn_134 fl_8_19 (by first | exact rfl | assumption | exact ps_12 hpp) (by decide) nf_8_3 ft_8_3 (by first | rfl | assumption) (by first | rfl | assumption) ?_
      refine by_ret ry_134 ?_
      try simp (disch := first | exact Nat.ne_of_beq_eq_false rfl | exact rfl | omega) only [nI_add, xa_sub, xa_mul, pk_div, nm_mod, xa_shr, xa_and7, xa_and1, xa_and255, xa_by_and, nI_m1, Nat.add_sub_cancel, Nat.reducePow, Nat.zero_add, Nat.add_zero, Nat.reduceAdd, Nat.reduceMul, Nat.reduceSub, xf_same, xq_ff, xq_fo, xf_1, xf_2, xs_1, xs_2, xs_same, xq_so, xj_1, xj_2, xj_same, xq_jo, xq_sa1, xq_same, xq_other, upd_s, oI_n, oI_s, b3, b2, e', Nat.mod_mod]
      refine hp _ (Fr_sf Fr_rf (by simp)) ⟨ok2, Or.inr ⟨by rw [eL]; omega, by simpa [xm_sf, updV] using b1, by simpa [xm_sf, updV] using b2, ?_⟩⟩
      rw [eL, ← e7]
      simp [xm_sf, updV]
  rcases hb with hb | ⟨hl, b1, b2, b3⟩
  · by_cases e : bl.length < 65536
    · exact sp_putBit hF hb e (fun h' f p' => hp h' f ⟨ok2, Or.inl p'⟩)
    · obtain ⟨_, c2, c3, c4, c5, _⟩ := hb
      have el : bl.length = 65536 := by omega
      exact over (by omega) (by rw [c3, el]) c5 (Or.inl (by rw [el]))
  · exact over (by omega) b1 b3 (Or.inr b2)
theorem sp_putBitsW {v : Int64} {n : Nat} {g : Nat → Nat} (hF : XF h) (hb : penW h bl) (hn : n ≤ 64) (hg : ∀ i, i < n → plsb v i = nI (g i) ∧ g i < 2) (hp : ∀ h', Fr [6] [(5, 1), (5, 2), (5, 3)] h h' → penW h' (bl ++ hiB g n) → post none h') : xm_T (XE sc) (d + 3) 135 [.ref 5, .long v, .int (nI n)] h post := by
  have key : ∀ (i : Nat) (b2 : List Nat) (h2 : xm_H), i ≤ n → b2 ++ hiB g i = bl ++ hiB g n → Fr [6] [(5, 1), (5, 2), (5, 3)] h h2 → penW h2 b2 → xm_go (XE sc) (xm_T (XE sc) (d + 2)) 135 post 5 [(4, .int (if i = 0 then -1 else nI (i - 1))), (0, .ref 5), (1, .long v)] [] h2 := by
    intro i
    induction i with
    | zero =>
      intro b2 h2 hi he f2 p2
      rw [if_pos rfl]
      have he' : b2 = bl ++ hiB g n := by rw [← he]; simp [hiB]
      with_reducible refine xm_go_blk b_X8_putBits_5 k_X8_putBits_5 ?_
      refine by_iload rfl ?_
      refine by_if_lt 27 rfl ?_
      simp (disch := first | exact Nat.ne_of_beq_eq_false rfl | exact rfl | omega) only [nI_add, xa_sub, xa_mul, pk_div, nm_mod, xa_shr, xa_and7, xa_and1, xa_and255, xa_by_and, nI_m1, Nat.add_sub_cancel, Nat.reducePow, Nat.zero_add, Nat.add_zero, Nat.reduceAdd, Nat.reduceMul, Nat.reduceSub, xf_same, xq_ff, xq_fo, xf_1, xf_2, xs_1, xs_2, xs_same, xq_so, xj_1, xj_2, xj_same, xq_jo, xq_sa1, xq_same, xq_other, upd_s, oI_n, oI_s, xv_0, xv_1, xv_2, xv_3, xm_p1, xm_p2, xq_fp, xq_fn, List.filter_nil, Nat.reduceBEq, Bool.not_true, Bool.not_false, Bool.and_true, Bool.and_false, Bool.false_and, Bool.true_and, if_true, if_false, Bool.false_eq_true, reduceIte, xc_i, xc_j, xc_r, xc_n, List.nil_append, List.cons_append, Option.toList_some, Option.toList_none, nI_ltJ, nI_leJ, nI_eqJ, nI_ltz, nI_gez, nI_gtz, nI_lez, nI_eqz, m1_ltz, m1_gez, true_imp_iff, false_imp_iff, true_and, and_true, ne_eq, not_false_eq_true, not_true_eq_false, Nat.reduceEqDiff, Nat.reduceLT, Nat.reduceLeDiff]
      with_reducible refine xm_go_blk b_X8_putBits_27 k_X8_putBits_27 ?_
      refine by_ret ry_135 ?_
      exact hp h2 f2 (by rw [← he']; exact p2)
    | succ i ih =>
      intro b2 h2 hi he f2 p2
      obtain ⟨g1, g2⟩ := hg i (by omega)
      have F2 := Fr_XF hF f2 (by decide +kernel)
      rw [if_neg (by omega), Nat.add_sub_cancel]
      have g1' : (v.toUInt64 >>> ((nI i).toInt64.toUInt64 &&& Int64.toUInt64 63)).toInt64.toInt32 &&& nI 1 = nI (g i) := g1
      with_reducible refine xm_go_blk b_X8_putBits_5 k_X8_putBits_5 ?_
      refine by_iload rfl ?_
      refine by_if_lt 27 rfl ?_
      simp (disch := first | exact Nat.ne_of_beq_eq_false rfl | exact rfl | omega) only [nI_add, xa_sub, xa_mul, pk_div, nm_mod, xa_shr, xa_and7, xa_and1, xa_and255, xa_by_and, nI_m1, Nat.add_sub_cancel, Nat.reducePow, Nat.zero_add, Nat.add_zero, Nat.reduceAdd, Nat.reduceMul, Nat.reduceSub, xf_same, xq_ff, xq_fo, xf_1, xf_2, xs_1, xs_2, xs_same, xq_so, xj_1, xj_2, xj_same, xq_jo, xq_sa1, xq_same, xq_other, upd_s, oI_n, oI_s, xv_0, xv_1, xv_2, xv_3, xm_p1, xm_p2, xq_fp, xq_fn, List.filter_nil, Nat.reduceBEq, Bool.not_true, Bool.not_false, Bool.and_true, Bool.and_false, Bool.false_and, Bool.true_and, if_true, if_false, Bool.false_eq_true, reduceIte, xc_i, xc_j, xc_r, xc_n, List.nil_append, List.cons_append, Option.toList_some, Option.toList_none, nI_ltJ, nI_leJ, nI_eqJ, nI_ltz, nI_gez, nI_gtz, nI_lez, nI_eqz, m1_ltz, m1_gez, true_imp_iff, false_imp_iff, true_and, and_true, ne_eq, not_false_eq_true, not_true_eq_false, Nat.reduceEqDiff, Nat.reduceLT, Nat.reduceLeDiff, g1']
      with_reducible refine xm_go_blk b_X8_putBits_10 k_X8_putBits_10 ?_
      refine by_aload_n rfl ?_
      refine by_lload_n rfl ?_
      refine by_iload rfl ?_
      refine by_lushr ?_
      refine by_l2i ?_
      refine by_iconst ci_1 ?_
      refine by_iand ?_
      simp (disch := first | exact Nat.ne_of_beq_eq_false rfl | exact rfl | omega) only [nI_add, xa_sub, xa_mul, pk_div, nm_mod, xa_shr, xa_and7, xa_and1, xa_and255, xa_by_and, nI_m1, Nat.add_sub_cancel, Nat.reducePow, Nat.zero_add, Nat.add_zero, Nat.reduceAdd, Nat.reduceMul, Nat.reduceSub, xf_same, xq_ff, xq_fo, xf_1, xf_2, xs_1, xs_2, xs_same, xq_so, xj_1, xj_2, xj_same, xq_jo, xq_sa1, xq_same, xq_other, upd_s, oI_n, oI_s, xv_0, xv_1, xv_2, xv_3, xm_p1, xm_p2, xq_fp, xq_fn, List.filter_nil, Nat.reduceBEq, Bool.not_true, Bool.not_false, Bool.and_true, Bool.and_false, Bool.false_and, Bool.true_and, if_true, if_false, Bool.false_eq_true, reduceIte, xc_i, xc_j, xc_r, xc_n, List.nil_append, List.cons_append, Option.toList_some, Option.toList_none, g1']
      refine by_inv1 cn_135 lk_8_46 (by rw [xe_cnt]; decide) is_134 np_134 cn_134 (by first | exact rfl | assumption | exact ps_12 hpp) (Nat.le_of_ble_eq_true rfl) ?_
      refine sp_putW F2 p2 (fun h3 f3 p3 => ?_)
      have hgi : (if nI (g i) = 0 then 0 else 1 : Nat) = g i := by
        rcases (by omega : g i = 0 ∨ g i = 1) with z | z <;> rw [z] <;> decide
      rw [hgi] at p3
      have k3 := ih (b2 ++ [g i]) h3 (by omega) (by rw [List.append_assoc]; exact he) (Fr_tr f2 f3 (fun _ z => z) (fun _ z => z)) p3
      have e2 : nI i + -1 = (if i = 0 then -1 else nI (i - 1)) := by
        by_cases z : i = 0
        · subst z; rfl
        · rw [if_neg z, nI_m1 (by omega)]
      with_reducible refine xm_go_blk b_X8_putBits_21 k_X8_putBits_21 ?_
      refine by_iinc (by rw [ml_135]; decide) rfl ci_m1 ?_
      refine by_goto 5 rfl ?_
      try simp (disch := first | exact Nat.ne_of_beq_eq_false rfl | exact rfl | omega) only [nI_add, xa_sub, xa_mul, pk_div, nm_mod, xa_shr, xa_and7, xa_and1, xa_and255, xa_by_and, nI_m1, Nat.add_sub_cancel, Nat.reducePow, Nat.zero_add, Nat.add_zero, Nat.reduceAdd, Nat.reduceMul, Nat.reduceSub, xf_same, xq_ff, xq_fo, xf_1, xf_2, xs_1, xs_2, xs_same, xq_so, xj_1, xj_2, xj_same, xq_jo, xq_sa1, xq_same, xq_other, upd_s, oI_n, oI_s, xv_0, xv_1, xv_2, xv_3, xm_p1, xm_p2, xq_fp, xq_fn, List.filter_nil, Nat.reduceBEq, Bool.not_true, Bool.not_false, Bool.and_true, Bool.and_false, Bool.false_and, Bool.true_and, if_true, if_false, Bool.false_eq_true, reduceIte, xc_i, xc_j, xc_r, xc_n, List.nil_append, List.cons_append, Option.toList_some, Option.toList_none, e2]
      exact xm_go_wk (by simp [Value.category]) k3
  refine xq_in rfl ?_
  simp only [xq_a0, xq_aI, xq_aJ, xq_aR, Nat.reduceAdd]
  have k0 := key n bl h (Nat.le_refl _) rfl Fr_rf hb
  have e2 : nI n - nI 1 = (if n = 0 then -1 else nI (n - 1)) := by
    by_cases z : n = 0
    · subst z; rfl
    · rw [if_neg z, xa_sub (by omega)]
  with_reducible refine xm_go_blk b_X8_putBits_0 k_X8_putBits_0 ?_
  refine by_iload_n rfl ?_
  refine by_iconst ci_1 ?_
  refine by_isub ?_
  refine by_istore (by rw [ml_135]; decide) ?_
  refine by_nil ?_
  try simp (disch := first | exact Nat.ne_of_beq_eq_false rfl | exact rfl | omega) only [nI_add, xa_sub, xa_mul, pk_div, nm_mod, xa_shr, xa_and7, xa_and1, xa_and255, xa_by_and, nI_m1, Nat.add_sub_cancel, Nat.reducePow, Nat.zero_add, Nat.add_zero, Nat.reduceAdd, Nat.reduceMul, Nat.reduceSub, xf_same, xq_ff, xq_fo, xf_1, xf_2, xs_1, xs_2, xs_same, xq_so, xj_1, xj_2, xj_same, xq_jo, xq_sa1, xq_same, xq_other, upd_s, oI_n, oI_s, xv_0, xv_1, xv_2, xv_3, xm_p1, xm_p2, xq_fp, xq_fn, List.filter_nil, Nat.reduceBEq, Bool.not_true, Bool.not_false, Bool.and_true, Bool.and_false, Bool.false_and, Bool.true_and, if_true, if_false, Bool.false_eq_true, reduceIte, xc_i, xc_j, xc_r, xc_n, List.nil_append, List.cons_append, Option.toList_some, Option.toList_none, e2]
  exact xm_go_wk (by simp [Value.category]) k0
end SY
