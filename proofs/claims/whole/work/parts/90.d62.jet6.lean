/-! ===== jets of the class: multiply ===== -/
theorem mulS {x0 x1 y0 y1 : Nat} : (x1 * 2 ^ 32 + x0) * (y1 * 2 ^ 32 + y0) = x1 * y1 * 2 ^ 64 + (x1 * y0 + x0 * y1) * 2 ^ 32 + x0 * y0 := by
  rw [Nat.add_mul, Nat.mul_add, Nat.mul_add, Nat.add_mul]
  have e1 : x1 * 2 ^ 32 * (y1 * 2 ^ 32) = x1 * y1 * 2 ^ 64 := by
    rw [Nat.mul_assoc, Nat.mul_left_comm (2 ^ 32) y1, ← Nat.mul_assoc, show (2 : Nat) ^ 32 * 2 ^ 32 = 2 ^ 64 by decide]
  have e2 : x1 * 2 ^ 32 * y0 = x1 * y0 * 2 ^ 32 := by rw [Nat.mul_assoc, Nat.mul_comm (2 ^ 32) y0, ← Nat.mul_assoc]
  have e3 : x0 * (y1 * 2 ^ 32) = x0 * y1 * 2 ^ 32 := by rw [← Nat.mul_assoc]
  rw [e1, e2, e3]
  omega
/-- the product of two words by halves: its two words -/
theorem mulH {x0 x1 y0 y1 : Nat} (hx0 : x0 < 2 ^ 32) (hx1 : x1 < 2 ^ 32) (hy0 : y0 < 2 ^ 32) (hy1 : y1 < 2 ^ 32) :
    x0 * y0 < 2 ^ 64 ∧ x1 * y0 + x0 * y0 / 2 ^ 32 < 2 ^ 64 ∧ x0 * y1 + (x1 * y0 + x0 * y0 / 2 ^ 32) % 2 ^ 32 < 2 ^ 64 ∧ x1 * y1 + (x1 * y0 + x0 * y0 / 2 ^ 32) / 2 ^ 32 + (x0 * y1 + (x1 * y0 + x0 * y0 / 2 ^ 32) % 2 ^ 32) / 2 ^ 32 < 2 ^ 64 ∧
    (x1 * y1 + (x1 * y0 + x0 * y0 / 2 ^ 32) / 2 ^ 32 + (x0 * y1 + (x1 * y0 + x0 * y0 / 2 ^ 32) % 2 ^ 32) / 2 ^ 32) * 2 ^ 64 + ((x0 * y1 + (x1 * y0 + x0 * y0 / 2 ^ 32) % 2 ^ 32) % 2 ^ 32 * 2 ^ 32 + x0 * y0 % 2 ^ 32) = (x1 * 2 ^ 32 + x0) * (y1 * 2 ^ 32 + y0) := by
  have hb : ∀ a b : Nat, a < 2 ^ 32 → b < 2 ^ 32 → a * b ≤ 18446744065119617025 := fun a b ha hb => by
    have := Nat.mul_le_mul (show a ≤ 4294967295 by omega) (show b ≤ 4294967295 by omega)
    omega
  have b1 := hb x0 y0 hx0 hy0
  have b2 := hb x1 y0 hx1 hy0
  have b3 := hb x0 y1 hx0 hy1
  have b4 := hb x1 y1 hx1 hy1
  rw [mulS]
  generalize x0 * y0 = A at *
  generalize x1 * y0 = B at *
  generalize x0 * y1 = C at *
  generalize x1 * y1 = D at *
  simp only [Nat.reducePow]
  omega
section J6
variable {sc : xm_Sc} {d w c x y z v : Nat} {h : xm_H} {post : xm_Po}
theorem sp_addLow {H L m : Nat} (h8 : h.2.2 39 8 = .long (lN H)) (h9 : h.2.2 39 9 = .long (lN L)) (hL : L < 2 ^ 64) (hm : m < 2 ^ 64)
    (hp : ∀ h', Fr [] [(39, 8), (39, 9)] h h' → h'.2.2 39 8 = .long (lN (H + (L + m) / 2 ^ 64)) → h'.2.2 39 9 = .long (lN ((L + m) % 2 ^ 64)) → post none h') : xm_T (XE sc) (d + 2) 52 [.ref 39, .long (lN m)] h post := by
  have e1 : lN (L + m) = lN ((L + m) % 2 ^ 64) := wb_mod _
  refine xq_in rfl ?_
  simp only [xq_a0, xq_aI, xq_aJ, xq_aR, Nat.reduceAdd]
  with_reducible refine xm_go_blk b_X2_addLow_0 k_X2_addLow_0 ?_
  refine by_aload_n rfl ?_
  refine by_dup rfl ?_
  refine by_getf cn_52 fl_2_33 (by first | exact rfl | assumption) (by decide) ?_
  refine by_lload_n rfl ?_
  simp (disch := first | exact Nat.ne_of_beq_eq_false rfl | exact rfl | omega) only [nI_add, xa_sub, xa_mul, pk_div, nm_mod, xa_shr, xa_and7, xa_and1, xa_and255, xa_by_and, nI_m1, Nat.add_sub_cancel, Nat.reducePow, Nat.zero_add, Nat.add_zero, Nat.reduceAdd, Nat.reduceMul, Nat.reduceSub, xf_same, xq_ff, xq_fo, xf_1, xf_2, xs_1, xs_2, xs_same, xq_so, xj_1, xj_2, xj_same, xq_jo, xq_sa1, xq_same, xq_other, upd_s, oI_n, oI_s, h9, lN_pl, e1]
  refine by_ladd ?_
  refine by_putf cn_52 fl_2_33 (by first | exact rfl | assumption) (by decide) nf_2_9 ft_2_9 (by first | rfl | assumption) (by first | rfl | assumption) ?_
  refine by_aload_n rfl ?_
  refine by_getf cn_52 fl_2_33 (by first | exact rfl | assumption) (by decide) ?_
  refine by_lload_n rfl ?_
  simp (disch := first | exact Nat.ne_of_beq_eq_false rfl | exact rfl | omega) only [nI_add, xa_sub, xa_mul, pk_div, nm_mod, xa_shr, xa_and7, xa_and1, xa_and255, xa_by_and, nI_m1, Nat.add_sub_cancel, Nat.reducePow, Nat.zero_add, Nat.add_zero, Nat.reduceAdd, Nat.reduceMul, Nat.reduceSub, xf_same, xq_ff, xq_fo, xf_1, xf_2, xs_1, xs_2, xs_same, xq_so, xj_1, xj_2, xj_same, xq_jo, xq_sa1, xq_same, xq_other, upd_s, oI_n, oI_s, xv_0, xv_1, xv_2, xv_3, xm_p1, xm_p2, xq_fp, xq_fn, List.filter_nil, Nat.reduceBEq, Bool.not_true, Bool.not_false, Bool.and_true, Bool.and_false, Bool.false_and, Bool.true_and, if_true, if_false, Bool.false_eq_true, reduceIte, xc_i, xc_j, xc_r, xc_n, List.nil_append, List.cons_append, Option.toList_some, Option.toList_none, h9, lN_pl, e1]
  refine by_ins2 cn_52 lk_2_106 (by rw [xe_cnt]; decide) is_57 np_57 (Nat.le_of_ble_eq_true rfl) ?_
  refine sp_isBelow (Nat.mod_lt _ (by decide)) hm ?_
  have g8 : (xm_sf h 39 9 (.long (lN ((L + m) % 2 ^ 64)))).2.2 39 8 = .long (lN H) := by rw [← h8]; simp [xm_sf, updV]
  by_cases q : (L + m) % 2 ^ 64 < m
  · rw [if_pos q]
    with_reducible refine xm_go_blk b_X2_addLow_18 k_X2_addLow_18 ?_
    refine by_if_eq 31 rfl ?_
    simp (disch := first | exact Nat.ne_of_beq_eq_false rfl | exact rfl | omega) only [nI_add, xa_sub, xa_mul, pk_div, nm_mod, xa_shr, xa_and7, xa_and1, xa_and255, xa_by_and, nI_m1, Nat.add_sub_cancel, Nat.reducePow, Nat.zero_add, Nat.add_zero, Nat.reduceAdd, Nat.reduceMul, Nat.reduceSub, xf_same, xq_ff, xq_fo, xf_1, xf_2, xs_1, xs_2, xs_same, xq_so, xj_1, xj_2, xj_same, xq_jo, xq_sa1, xq_same, xq_other, upd_s, oI_n, oI_s, xv_0, xv_1, xv_2, xv_3, xm_p1, xm_p2, xq_fp, xq_fn, List.filter_nil, Nat.reduceBEq, Bool.not_true, Bool.not_false, Bool.and_true, Bool.and_false, Bool.false_and, Bool.true_and, if_true, if_false, Bool.false_eq_true, reduceIte, xc_i, xc_j, xc_r, xc_n, List.nil_append, List.cons_append, Option.toList_some, Option.toList_none, nI_ltJ, nI_leJ, nI_eqJ, nI_ltz, nI_gez, nI_gtz, nI_lez, nI_eqz, m1_ltz, m1_gez, true_imp_iff, false_imp_iff, true_and, and_true, ne_eq, not_false_eq_true, not_true_eq_false, Nat.reduceEqDiff, Nat.reduceLT, Nat.reduceLeDiff, h8, lN_pl]
    with_reducible refine xm_go_blk b_X2_addLow_21 k_X2_addLow_21 ?_
    refine by_aload_n rfl ?_
    refine by_dup rfl ?_
    refine by_getf cn_52 fl_2_30 (by first | exact rfl | assumption) (by decide) ?_
    refine by_lconst cl_1 ?_
    simp (disch := first | exact Nat.ne_of_beq_eq_false rfl | exact rfl | omega) only [nI_add, xa_sub, xa_mul, pk_div, nm_mod, xa_shr, xa_and7, xa_and1, xa_and255, xa_by_and, nI_m1, Nat.add_sub_cancel, Nat.reducePow, Nat.zero_add, Nat.add_zero, Nat.reduceAdd, Nat.reduceMul, Nat.reduceSub, xf_same, xq_ff, xq_fo, xf_1, xf_2, xs_1, xs_2, xs_same, xq_so, xj_1, xj_2, xj_same, xq_jo, xq_sa1, xq_same, xq_other, upd_s, oI_n, oI_s, h8, lN_pl]
    refine by_ladd ?_
    refine by_putf cn_52 fl_2_30 (by first | exact rfl | assumption) (by decide) nf_2_8 ft_2_8 (by first | rfl | assumption) (by first | rfl | assumption) ?_
    refine by_nil ?_
    try simp (disch := first | exact Nat.ne_of_beq_eq_false rfl | exact rfl | omega) only [nI_add, xa_sub, xa_mul, pk_div, nm_mod, xa_shr, xa_and7, xa_and1, xa_and255, xa_by_and, nI_m1, Nat.add_sub_cancel, Nat.reducePow, Nat.zero_add, Nat.add_zero, Nat.reduceAdd, Nat.reduceMul, Nat.reduceSub, xf_same, xq_ff, xq_fo, xf_1, xf_2, xs_1, xs_2, xs_same, xq_so, xj_1, xj_2, xj_same, xq_jo, xq_sa1, xq_same, xq_other, upd_s, oI_n, oI_s, xv_0, xv_1, xv_2, xv_3, xm_p1, xm_p2, xq_fp, xq_fn, List.filter_nil, Nat.reduceBEq, Bool.not_true, Bool.not_false, Bool.and_true, Bool.and_false, Bool.false_and, Bool.true_and, if_true, if_false, Bool.false_eq_true, reduceIte, xc_i, xc_j, xc_r, xc_n, List.nil_append, List.cons_append, Option.toList_some, Option.toList_none, h8, lN_pl]
    with_reducible refine xm_go_blk b_X2_addLow_31 k_X2_addLow_31 ?_
    refine by_ret ry_52 ?_
    refine hp _ (Fr_sf (Fr_sf Fr_rf (by simp)) (by simp)) ?_ (by simp [xm_sf, updV])
    rw [show (L + m) / 2 ^ 64 = 1 by omega]; simp [xm_sf, updV]
  · rw [if_neg q]
    with_reducible refine xm_go_blk b_X2_addLow_18 k_X2_addLow_18 ?_
    refine by_if_eq 31 rfl ?_
    simp (disch := first | exact Nat.ne_of_beq_eq_false rfl | exact rfl | omega) only [nI_add, xa_sub, xa_mul, pk_div, nm_mod, xa_shr, xa_and7, xa_and1, xa_and255, xa_by_and, nI_m1, Nat.add_sub_cancel, Nat.reducePow, Nat.zero_add, Nat.add_zero, Nat.reduceAdd, Nat.reduceMul, Nat.reduceSub, xf_same, xq_ff, xq_fo, xf_1, xf_2, xs_1, xs_2, xs_same, xq_so, xj_1, xj_2, xj_same, xq_jo, xq_sa1, xq_same, xq_other, upd_s, oI_n, oI_s, xv_0, xv_1, xv_2, xv_3, xm_p1, xm_p2, xq_fp, xq_fn, List.filter_nil, Nat.reduceBEq, Bool.not_true, Bool.not_false, Bool.and_true, Bool.and_false, Bool.false_and, Bool.true_and, if_true, if_false, Bool.false_eq_true, reduceIte, xc_i, xc_j, xc_r, xc_n, List.nil_append, List.cons_append, Option.toList_some, Option.toList_none, nI_ltJ, nI_leJ, nI_eqJ, nI_ltz, nI_gez, nI_gtz, nI_lez, nI_eqz, m1_ltz, m1_gez, true_imp_iff, false_imp_iff, true_and, and_true, ne_eq, not_false_eq_true, not_true_eq_false, Nat.reduceEqDiff, Nat.reduceLT, Nat.reduceLeDiff]
    with_reducible refine xm_go_blk b_X2_addLow_31 k_X2_addLow_31 ?_
    refine by_ret ry_52 ?_
    refine hp _ (Fr_sf Fr_rf (by simp)) ?_ (by simp [xm_sf, updV])
    rw [show (L + m) / 2 ^ 64 = 0 by omega, Nat.add_zero]; exact g8
theorem p_lt {x y z v w : Nat} (hx : x < 2 ^ w) (hy : y < 2 ^ w) (hz : z < 2 ^ w) (hv : v < 2 ^ w) : x * y + z + v < 2 ^ w * 2 ^ w := by
  have h1 : x * y ≤ (2 ^ w - 1) * (2 ^ w - 1) := Nat.mul_le_mul (by omega) (by omega)
  have h2 : (2 ^ w - 1) * (2 ^ w - 1) + 2 * 2 ^ w = 2 ^ w * 2 ^ w + 1 := by
    generalize hp : 2 ^ w = p at *
    obtain ⟨r, rfl⟩ : ∃ r, p = r + 1 := ⟨p - 1, by omega⟩
    have e : (r + 1) * (r + 1) = r * r + 2 * r + 1 := by rw [Nat.add_mul, Nat.mul_add r r 1]; omega
    rw [Nat.add_sub_cancel, e]
    omega
  omega
theorem mly_112 {k H2 L2 : Nat} (hk : k = 7 ∨ k = 8) (hw : jw w) (hS : jSt h w c x y z v) (h7 : h.2.2 39 7 = .long (lN 0)) (h8 : h.2.2 39 8 = .long (lN H2)) (h9 : h.2.2 39 9 = .long (lN L2)) (hL : L2 < 2 ^ 64) (hx : x < 2 ^ w) (hy : y < 2 ^ w) (hz : z < 2 ^ w) (hv : v < 2 ^ w) (hP : H2 * 2 ^ 64 + L2 = x * y + z)
    (hp : ∀ h' B H L, Fr [] [(39, 7), (39, 8), (39, 9)] h h' → h'.2.2 39 7 = .long (lN B) → h'.2.2 39 8 = .long (lN H) → h'.2.2 39 9 = .long (lN L) → B < 2 ^ 64 → H < 2 ^ 64 → L < 2 ^ 64 → jGv 4 w B H L = jL k w c x y z v → post none h') : xm_go (XE sc) (xm_T (XE sc) (d + 2)) 61 post 112 [(0, .ref 39)] [] h := by
  obtain ⟨s0, s1, s2, s3, s4, s5, s6⟩ := hS
  have hpw := jw_p hw
  have hle := jw_le hw
  have hv' : v < 2 ^ 64 := by omega
  have hj : jL k w c x y z v = bbits w ((x * y + z + v) / 2 ^ w) ++ bbits w (x * y + z + v) := by rcases hk with rfl | rfl <;> rfl
  have hPl := p_lt hx hy hz hv
  with_reducible refine xm_go_blk b_X2_multiply_112 k_X2_multiply_112 ?_
  refine by_aload_n rfl ?_
  refine by_aload_n rfl ?_
  refine by_getf cn_61 fl_2_82 (by first | exact rfl | assumption) (by decide) ?_
  simp (disch := first | exact Nat.ne_of_beq_eq_false rfl | exact rfl | omega) only [nI_add, xa_sub, xa_mul, pk_div, nm_mod, xa_shr, xa_and7, xa_and1, xa_and255, xa_by_and, nI_m1, Nat.add_sub_cancel, Nat.reducePow, Nat.zero_add, Nat.add_zero, Nat.reduceAdd, Nat.reduceMul, Nat.reduceSub, xf_same, xq_ff, xq_fo, xf_1, xf_2, xs_1, xs_2, xs_same, xq_so, xj_1, xj_2, xj_same, xq_jo, xq_sa1, xq_same, xq_other, upd_s, oI_n, oI_s, xv_0, xv_1, xv_2, xv_3, xm_p1, xm_p2, xq_fp, xq_fn, List.filter_nil, Nat.reduceBEq, Bool.not_true, Bool.not_false, Bool.and_true, Bool.and_false, Bool.false_and, Bool.true_and, if_true, if_false, Bool.false_eq_true, reduceIte, xc_i, xc_j, xc_r, xc_n, List.nil_append, List.cons_append, Option.toList_some, Option.toList_none, s6]
  refine by_inv1 cn_61 lk_2_102 (by rw [xe_cnt]; decide) is_52 np_52 cn_52 (by first | exact rfl | assumption) (Nat.le_of_ble_eq_true rfl) ?_
  refine sp_addLow h8 h9 hL hv' (fun h2 f2 a8 a9 => ?_)
  have e0 : h2.2.2 39 0 = .int (nI w) := by rw [f2.2.2 _ _ (by simp)]; exact s0
  have e1 : h2.2.2 39 1 = .long (lN (2 ^ w - 1)) := by rw [f2.2.2 _ _ (by simp)]; exact s1
  have e7 : h2.2.2 39 7 = .long (lN 0) := by rw [f2.2.2 _ _ (by simp)]; exact h7
  have tot : (H2 + (L2 + v) / 2 ^ 64) * 2 ^ 64 + (L2 + v) % 2 ^ 64 = x * y + z + v := by
    rw [Nat.add_mul, Nat.add_assoc, Nat.div_add_mod', ← Nat.add_assoc, hP]
  have hLm : (L2 + v) % 2 ^ 64 < 2 ^ 64 := Nat.mod_lt _ (by decide)
  generalize (L2 + v) % 2 ^ 64 = L3 at *
  generalize H2 + (L2 + v) / 2 ^ 64 = H3 at *
  generalize x * y + z + v = P at *
  by_cases e64 : w = 64
  · subst e64
    have hH : H3 < 2 ^ 64 := by simp only [Nat.reducePow, Nat.reduceMul] at *; omega
    have q : P / 2 ^ 64 = H3 ∧ P % 2 ^ 64 = L3 := by simp only [Nat.reducePow] at *; omega
    with_reducible refine xm_go_blk b_X2_multiply_120 k_X2_multiply_120 ?_
    refine by_aload_n rfl ?_
    refine by_getf cn_61 fl_2_7 (by first | exact rfl | assumption) (by decide) ?_
    refine by_bipush cb_64 ?_
    simp (disch := first | exact Nat.ne_of_beq_eq_false rfl | exact rfl | omega) only [nI_add, xa_sub, xa_mul, pk_div, nm_mod, xa_shr, xa_and7, xa_and1, xa_and255, xa_by_and, nI_m1, Nat.add_sub_cancel, Nat.reducePow, Nat.zero_add, Nat.add_zero, Nat.reduceAdd, Nat.reduceMul, Nat.reduceSub, xf_same, xq_ff, xq_fo, xf_1, xf_2, xs_1, xs_2, xs_same, xq_so, xj_1, xj_2, xj_same, xq_jo, xq_sa1, xq_same, xq_other, upd_s, oI_n, oI_s, e0]
    refine by_ic_ge 160 rfl ?_
    simp (disch := first | exact Nat.ne_of_beq_eq_false rfl | exact rfl | omega) only [nI_add, xa_sub, xa_mul, pk_div, nm_mod, xa_shr, xa_and7, xa_and1, xa_and255, xa_by_and, nI_m1, Nat.add_sub_cancel, Nat.reducePow, Nat.zero_add, Nat.add_zero, Nat.reduceAdd, Nat.reduceMul, Nat.reduceSub, xf_same, xq_ff, xq_fo, xf_1, xf_2, xs_1, xs_2, xs_same, xq_so, xj_1, xj_2, xj_same, xq_jo, xq_sa1, xq_same, xq_other, upd_s, oI_n, oI_s, xv_0, xv_1, xv_2, xv_3, xm_p1, xm_p2, xq_fp, xq_fn, List.filter_nil, Nat.reduceBEq, Bool.not_true, Bool.not_false, Bool.and_true, Bool.and_false, Bool.false_and, Bool.true_and, if_true, if_false, Bool.false_eq_true, reduceIte, xc_i, xc_j, xc_r, xc_n, List.nil_append, List.cons_append, Option.toList_some, Option.toList_none, nI_ltJ, nI_leJ, nI_eqJ, nI_ltz, nI_gez, nI_gtz, nI_lez, nI_eqz, m1_ltz, m1_gez, true_imp_iff, false_imp_iff, true_and, and_true, ne_eq, not_false_eq_true, not_true_eq_false, Nat.reduceEqDiff, Nat.reduceLT, Nat.reduceLeDiff, e0]
    with_reducible refine xm_go_blk b_X2_multiply_160 k_X2_multiply_160 ?_
    refine by_ret ry_61 ?_
    refine hp h2 0 H3 L3 (Fr_mo f2 (by simp) (by simp)) e7 a8 a9 (by decide) hH hLm ?_
    rw [hj, q.1]
    show bbits 64 H3 ++ bbits 64 L3 = _
    rw [← q.2, bbits_mod]
  · have h4 : 2 ^ w * 2 ^ w ≤ 2 ^ 64 := by
      rw [← Nat.pow_add]
      exact Nat.pow_le_pow_right (by decide) (by unfold jw at hw; omega)
    have hP64 : P < 2 ^ 64 := by omega
    have q : H3 = 0 ∧ L3 = P := by simp only [Nat.reducePow] at *; omega
    rw [q.2] at a9
    have sw : ((lN P).toUInt64 >>> ((nI w).toInt64.toUInt64 &&& Int64.toUInt64 63)).toInt64 = lN (P / 2 ^ w) := wb_shr hP64 (by omega)
    have sa : lN (P / 2 ^ w) &&& lN (2 ^ w - 1) = lN (P / 2 ^ w % 2 ^ w) := jo_and hw
    have sb : lN P &&& lN (2 ^ w - 1) = lN (P % 2 ^ w) := jo_and hw
    have hm : ∀ t, t % 2 ^ w < 2 ^ 64 := fun t => Nat.lt_of_lt_of_le (Nat.mod_lt _ (Nat.two_pow_pos w)) hpw
    with_reducible refine xm_go_blk b_X2_multiply_120 k_X2_multiply_120 ?_
    refine by_aload_n rfl ?_
    refine by_getf cn_61 fl_2_7 (by first | exact rfl | assumption) (by decide) ?_
    refine by_bipush cb_64 ?_
    simp (disch := first | exact Nat.ne_of_beq_eq_false rfl | exact rfl | omega) only [nI_add, xa_sub, xa_mul, pk_div, nm_mod, xa_shr, xa_and7, xa_and1, xa_and255, xa_by_and, nI_m1, Nat.add_sub_cancel, Nat.reducePow, Nat.zero_add, Nat.add_zero, Nat.reduceAdd, Nat.reduceMul, Nat.reduceSub, xf_same, xq_ff, xq_fo, xf_1, xf_2, xs_1, xs_2, xs_same, xq_so, xj_1, xj_2, xj_same, xq_jo, xq_sa1, xq_same, xq_other, upd_s, oI_n, oI_s, e0, e1, a9, sw, sa, sb]
    refine by_ic_ge 160 rfl ?_
    simp (disch := first | exact Nat.ne_of_beq_eq_false rfl | exact rfl | omega) only [nI_add, xa_sub, xa_mul, pk_div, nm_mod, xa_shr, xa_and7, xa_and1, xa_and255, xa_by_and, nI_m1, Nat.add_sub_cancel, Nat.reducePow, Nat.zero_add, Nat.add_zero, Nat.reduceAdd, Nat.reduceMul, Nat.reduceSub, xf_same, xq_ff, xq_fo, xf_1, xf_2, xs_1, xs_2, xs_same, xq_so, xj_1, xj_2, xj_same, xq_jo, xq_sa1, xq_same, xq_other, upd_s, oI_n, oI_s, xv_0, xv_1, xv_2, xv_3, xm_p1, xm_p2, xq_fp, xq_fn, List.filter_nil, Nat.reduceBEq, Bool.not_true, Bool.not_false, Bool.and_true, Bool.and_false, Bool.false_and, Bool.true_and, if_true, if_false, Bool.false_eq_true, reduceIte, xc_i, xc_j, xc_r, xc_n, List.nil_append, List.cons_append, Option.toList_some, Option.toList_none, nI_ltJ, nI_leJ, nI_eqJ, nI_ltz, nI_gez, nI_gtz, nI_lez, nI_eqz, m1_ltz, m1_gez, true_imp_iff, false_imp_iff, true_and, and_true, ne_eq, not_false_eq_true, not_true_eq_false, Nat.reduceEqDiff, Nat.reduceLT, Nat.reduceLeDiff, e0, e1, a9, sw, sa, sb]
    refine ⟨fun c => absurd c (by omega), fun c120 => ?_⟩
    with_reducible refine xm_go_blk b_X2_multiply_129 k_X2_multiply_129 ?_
    refine by_aload_n rfl ?_
    refine by_aload_n rfl ?_
    refine by_getf cn_61 fl_2_33 (by first | exact rfl | assumption) (by decide) ?_
    refine by_aload_n rfl ?_
    refine by_getf cn_61 fl_2_7 (by first | exact rfl | assumption) (by decide) ?_
    simp (disch := first | exact Nat.ne_of_beq_eq_false rfl | exact rfl | omega) only [nI_add, xa_sub, xa_mul, pk_div, nm_mod, xa_shr, xa_and7, xa_and1, xa_and255, xa_by_and, nI_m1, Nat.add_sub_cancel, Nat.reducePow, Nat.zero_add, Nat.add_zero, Nat.reduceAdd, Nat.reduceMul, Nat.reduceSub, xf_same, xq_ff, xq_fo, xf_1, xf_2, xs_1, xs_2, xs_same, xq_so, xj_1, xj_2, xj_same, xq_jo, xq_sa1, xq_same, xq_other, upd_s, oI_n, oI_s, e0, e1, a9, sw, sa, sb]
    refine by_lushr ?_
    refine by_aload_n rfl ?_
    refine by_getf cn_61 fl_2_15 (by first | exact rfl | assumption) (by decide) ?_
    simp (disch := first | exact Nat.ne_of_beq_eq_false rfl | exact rfl | omega) only [nI_add, xa_sub, xa_mul, pk_div, nm_mod, xa_shr, xa_and7, xa_and1, xa_and255, xa_by_and, nI_m1, Nat.add_sub_cancel, Nat.reducePow, Nat.zero_add, Nat.add_zero, Nat.reduceAdd, Nat.reduceMul, Nat.reduceSub, xf_same, xq_ff, xq_fo, xf_1, xf_2, xs_1, xs_2, xs_same, xq_so, xj_1, xj_2, xj_same, xq_jo, xq_sa1, xq_same, xq_other, upd_s, oI_n, oI_s, e0, e1, a9, sw, sa, sb]
    refine by_land ?_
    refine by_putf cn_61 fl_2_30 (by first | exact rfl | assumption) (by decide) nf_2_8 ft_2_8 (by first | rfl | assumption) (by first | rfl | assumption) ?_
    refine by_aload_n rfl ?_
    refine by_dup rfl ?_
    refine by_getf cn_61 fl_2_33 (by first | exact rfl | assumption) (by decide) ?_
    refine by_aload_n rfl ?_
    refine by_getf cn_61 fl_2_15 (by first | exact rfl | assumption) (by decide) ?_
    simp (disch := first | exact Nat.ne_of_beq_eq_false rfl | exact rfl | omega) only [nI_add, xa_sub, xa_mul, pk_div, nm_mod, xa_shr, xa_and7, xa_and1, xa_and255, xa_by_and, nI_m1, Nat.add_sub_cancel, Nat.reducePow, Nat.zero_add, Nat.add_zero, Nat.reduceAdd, Nat.reduceMul, Nat.reduceSub, xf_same, xq_ff, xq_fo, xf_1, xf_2, xs_1, xs_2, xs_same, xq_so, xj_1, xj_2, xj_same, xq_jo, xq_sa1, xq_same, xq_other, upd_s, oI_n, oI_s, e0, e1, a9, sw, sa, sb]
    refine by_land ?_
    refine by_putf cn_61 fl_2_33 (by first | exact rfl | assumption) (by decide) nf_2_9 ft_2_9 (by first | rfl | assumption) (by first | rfl | assumption) ?_
    refine by_nil ?_
    try simp (disch := first | exact Nat.ne_of_beq_eq_false rfl | exact rfl | omega) only [nI_add, xa_sub, xa_mul, pk_div, nm_mod, xa_shr, xa_and7, xa_and1, xa_and255, xa_by_and, nI_m1, Nat.add_sub_cancel, Nat.reducePow, Nat.zero_add, Nat.add_zero, Nat.reduceAdd, Nat.reduceMul, Nat.reduceSub, xf_same, xq_ff, xq_fo, xf_1, xf_2, xs_1, xs_2, xs_same, xq_so, xj_1, xj_2, xj_same, xq_jo, xq_sa1, xq_same, xq_other, upd_s, oI_n, oI_s, xv_0, xv_1, xv_2, xv_3, xm_p1, xm_p2, xq_fp, xq_fn, List.filter_nil, Nat.reduceBEq, Bool.not_true, Bool.not_false, Bool.and_true, Bool.and_false, Bool.false_and, Bool.true_and, if_true, if_false, Bool.false_eq_true, reduceIte, xc_i, xc_j, xc_r, xc_n, List.nil_append, List.cons_append, Option.toList_some, Option.toList_none, e0, e1, a9, sw, sa, sb]
    with_reducible refine xm_go_blk b_X2_multiply_160 k_X2_multiply_160 ?_
    refine by_ret ry_61 ?_
    refine hp _ 0 (P / 2 ^ w % 2 ^ w) (P % 2 ^ w) (Fr_sf (Fr_sf (Fr_mo f2 (by simp) (by simp)) (by simp)) (by simp)) (by rw [← e7]; simp [xm_sf, updV]) (by simp [xm_sf, updV]) (by simp [xm_sf, updV]) (by decide) (hm _) (hm _) ?_
    rw [hj]
    show bbits w _ ++ bbits w _ = _
    rw [bbits_mod, bbits_mod]
/-- behind the product's two words -/
theorem mly_0 {k H1 L1 : Nat} {lv : xm_L} (hk : k = 7 ∨ k = 8) (hw : jw w) (hS : jSt h w c x y z v) (h0 : jS0 h) (hx : x < 2 ^ w) (hy : y < 2 ^ w) (hz : z < 2 ^ w) (hv : v < 2 ^ w) (hL : L1 < 2 ^ 64) (hP : H1 * 2 ^ 64 + L1 = x * y)
    (hp : ∀ h' B H L, jRs h h' B H L → jGv 4 w B H L = jL k w c x y z v → post none h') (hlv : (0, .ref 39) ∈ lv) : xm_T (XE sc) (d + 2) 52 [.ref 39, .long (lN z)] (xm_sf (xm_sf h 39 9 (.long (lN L1))) 39 8 (.long (lN H1))) (fun r h' => xm_go (XE sc) (xm_T (XE sc) (d + 2)) 61 post (109 + 3) lv (r.toList ++ []) h') := by
  have hpw := jw_p hw
  obtain ⟨s0, s1, s2, s3, s4, s5, s6⟩ := hS
  have f1 : Fr [] [(39, 7), (39, 8), (39, 9)] h (xm_sf (xm_sf h 39 9 (.long (lN L1))) 39 8 (.long (lN H1))) := Fr_sf (Fr_sf Fr_rf (by simp)) (by simp)
  refine sp_addLow (H := H1) (L := L1) (by simp [xm_sf, updV]) (by simp [xm_sf, updV]) hL (by omega) (fun h2 f2 a8 a9 => ?_)
  have f02 : Fr [] [(39, 7), (39, 8), (39, 9)] h h2 := Fr_tr f1 f2 (by simp) (by simp)
  have st : jSt h2 w c x y z v := ⟨by rw [f02.2.2 _ _ (by simp)]; exact s0, by rw [f02.2.2 _ _ (by simp)]; exact s1, by rw [f02.2.2 _ _ (by simp)]; exact s2, by rw [f02.2.2 _ _ (by simp)]; exact s3, by rw [f02.2.2 _ _ (by simp)]; exact s4, by rw [f02.2.2 _ _ (by simp)]; exact s5, by rw [f02.2.2 _ _ (by simp)]; exact s6⟩
  have e7 : h2.2.2 39 7 = .long (lN 0) := by rw [f2.2.2 _ _ (by simp), ← h0.1]; simp [xm_sf, updV]
  have tot : (H1 + (L1 + z) / 2 ^ 64) * 2 ^ 64 + (L1 + z) % 2 ^ 64 = x * y + z := by
    rw [Nat.add_mul, Nat.add_assoc, Nat.div_add_mod', ← Nat.add_assoc, hP]
  refine xm_go_wk (lv := [(0, .ref 39)]) (fun q hq => ?_) (mly_112 (k := k) hk hw st e7 a8 a9 (Nat.mod_lt _ (by decide)) hx hy hz hv tot (fun h' B H L f' b1 b2 b3 b4 b5 b6 hj => hp h' B H L ⟨Fr_tr f02 f' (fun _ z => z) (fun _ z => z), b1, b2, b3, b4, b5, b6⟩ hj))
  simp only [List.mem_cons, List.not_mem_nil, or_false] at hq
  subst hq; exact hlv
theorem sp_multiply {k : Nat} (hk : k = 7 ∨ k = 8) (hw : jw w) (hS : jSt h w c x y z v) (h0 : jS0 h) (hx : x < 2 ^ w) (hy : y < 2 ^ w) (hz : z < 2 ^ w) (hv : v < 2 ^ w)
    (hp : ∀ h' B H L, jRs h h' B H L → jGv 4 w B H L = jL k w c x y z v → post none h') : xm_T (XE sc) (d + 3) 61 [.ref 39] h post := by
  obtain ⟨s0, s1, s2, s3, s4, s5, s6⟩ := hS
  have hpw := jw_p hw
  have hle := jw_le hw
  have hx' : x < 2 ^ 64 := by omega
  have hy' : y < 2 ^ 64 := by omega
  have hz' : z < 2 ^ 64 := by omega
  have hv' : v < 2 ^ 64 := by omega
  obtain ⟨b1, b2, b3, b4, bm⟩ := mulH (x0 := x % 2 ^ 32) (x1 := x / 2 ^ 32) (y0 := y % 2 ^ 32) (y1 := y / 2 ^ 32) (Nat.mod_lt _ (by decide)) (by omega) (Nat.mod_lt _ (by decide)) (by omega)
  rw [Nat.div_add_mod', Nat.div_add_mod'] at bm
  have ax : lN x &&& lN 4294967295 = lN (x % 2 ^ 32) := wb_mask (k := 32) hx' (by decide)
  have ay : lN y &&& lN 4294967295 = lN (y % 2 ^ 32) := wb_mask (k := 32) hy' (by decide)
  have sx : ((lN x).toUInt64 >>> ((nI 32).toInt64.toUInt64 &&& Int64.toUInt64 63)).toInt64 = lN (x / 2 ^ 32) := wb_shr (k := 32) hx' (by decide)
  have sy : ((lN y).toUInt64 >>> ((nI 32).toInt64.toUInt64 &&& Int64.toUInt64 63)).toInt64 = lN (y / 2 ^ 32) := wb_shr (k := 32) hy' (by decide)
  generalize hA : x % 2 ^ 32 * (y % 2 ^ 32) = A at *
  generalize hB : x / 2 ^ 32 * (y % 2 ^ 32) = B at *
  generalize hC : x % 2 ^ 32 * (y / 2 ^ 32) = C at *
  generalize hD : x / 2 ^ 32 * (y / 2 ^ 32) = D at *
  have m1 : lN (x % 2 ^ 32) * lN (y % 2 ^ 32) = lN A := by rw [ml_n, hA]
  have m2 : lN (x / 2 ^ 32) * lN (y % 2 ^ 32) = lN B := by rw [ml_n, hB]
  have m3 : lN (x % 2 ^ 32) * lN (y / 2 ^ 32) = lN C := by rw [ml_n, hC]
  have m4 : lN (x / 2 ^ 32) * lN (y / 2 ^ 32) = lN D := by rw [ml_n, hD]
  have t1 : ((lN A).toUInt64 >>> ((nI 32).toInt64.toUInt64 &&& Int64.toUInt64 63)).toInt64 = lN (A / 2 ^ 32) := wb_shr (k := 32) b1 (by decide)
  have t2 : ((lN (B + A / 2 ^ 32)).toUInt64 >>> ((nI 32).toInt64.toUInt64 &&& Int64.toUInt64 63)).toInt64 = lN ((B + A / 2 ^ 32) / 2 ^ 32) := wb_shr (k := 32) b2 (by decide)
  have t3 : lN (B + A / 2 ^ 32) &&& lN 4294967295 = lN ((B + A / 2 ^ 32) % 2 ^ 32) := wb_mask (k := 32) b2 (by decide)
  have t4 : ((lN (C + (B + A / 2 ^ 32) % 2 ^ 32)).toUInt64 >>> ((nI 32).toInt64.toUInt64 &&& Int64.toUInt64 63)).toInt64 = lN ((C + (B + A / 2 ^ 32) % 2 ^ 32) / 2 ^ 32) := wb_shr (k := 32) b3 (by decide)
  have t5 : lN A &&& lN 4294967295 = lN (A % 2 ^ 32) := wb_mask (k := 32) b1 (by decide)
  have t6 : lN (C + (B + A / 2 ^ 32) % 2 ^ 32) <<< ((nI 32).toInt64 &&& 63) = lN ((C + (B + A / 2 ^ 32) % 2 ^ 32) % 2 ^ 32 * 2 ^ 32) := by
    rw [wb_shl _ (by decide), wb_mod]
    congr 1
    simp only [Nat.reducePow]; omega
  have t7 : lN ((C + (B + A / 2 ^ 32) % 2 ^ 32) % 2 ^ 32 * 2 ^ 32) ||| lN (A % 2 ^ 32) = lN ((C + (B + A / 2 ^ 32) % 2 ^ 32) % 2 ^ 32 * 2 ^ 32 + A % 2 ^ 32) := g_or (k := 32) rfl (Nat.mod_lt _ (by decide)) (by simp only [Nat.reducePow]; omega)
  refine xq_in rfl ?_
  simp only [xq_a0, xq_aI, xq_aJ, xq_aR, Nat.reduceAdd]
  with_reducible refine xm_go_blk b_X2_multiply_0 k_X2_multiply_0 ?_
  refine by_ldc2 (x := lN 4294967295) cn_61 kl_2_100 (by decide) ?_
  refine by_lstore_n (by rw [ml_61]; decide) ?_
  refine by_aload_n rfl ?_
  refine by_getf cn_61 fl_2_73 (by first | exact rfl | assumption) (by decide) ?_
  refine by_lload_n rfl ?_
  simp (disch := first | exact Nat.ne_of_beq_eq_false rfl | exact rfl | omega) only [nI_add, xa_sub, xa_mul, pk_div, nm_mod, xa_shr, xa_and7, xa_and1, xa_and255, xa_by_and, nI_m1, Nat.add_sub_cancel, Nat.reducePow, Nat.zero_add, Nat.add_zero, Nat.reduceAdd, Nat.reduceMul, Nat.reduceSub, xf_same, xq_ff, xq_fo, xf_1, xf_2, xs_1, xs_2, xs_same, xq_so, xj_1, xj_2, xj_same, xq_jo, xq_sa1, xq_same, xq_other, upd_s, oI_n, oI_s, s3, s4, s5, ax, ay, sx, sy, m1, m2, m3, m4, t1, t2, t3, t4, t5, t6, t7, lN_pl]
  refine by_land ?_
  refine by_aload_n rfl ?_
  refine by_getf cn_61 fl_2_76 (by first | exact rfl | assumption) (by decide) ?_
  refine by_lload_n rfl ?_
  simp (disch := first | exact Nat.ne_of_beq_eq_false rfl | exact rfl | omega) only [nI_add, xa_sub, xa_mul, pk_div, nm_mod, xa_shr, xa_and7, xa_and1, xa_and255, xa_by_and, nI_m1, Nat.add_sub_cancel, Nat.reducePow, Nat.zero_add, Nat.add_zero, Nat.reduceAdd, Nat.reduceMul, Nat.reduceSub, xf_same, xq_ff, xq_fo, xf_1, xf_2, xs_1, xs_2, xs_same, xq_so, xj_1, xj_2, xj_same, xq_jo, xq_sa1, xq_same, xq_other, upd_s, oI_n, oI_s, s3, s4, s5, ax, ay, sx, sy, m1, m2, m3, m4, t1, t2, t3, t4, t5, t6, t7, lN_pl]
  refine by_land ?_
  refine by_lmul ?_
  refine by_lstore_n (by rw [ml_61]; decide) ?_
  refine by_aload_n rfl ?_
  refine by_getf cn_61 fl_2_73 (by first | exact rfl | assumption) (by decide) ?_
  refine by_bipush cb_32 ?_
  simp (disch := first | exact Nat.ne_of_beq_eq_false rfl | exact rfl | omega) only [nI_add, xa_sub, xa_mul, pk_div, nm_mod, xa_shr, xa_and7, xa_and1, xa_and255, xa_by_and, nI_m1, Nat.add_sub_cancel, Nat.reducePow, Nat.zero_add, Nat.add_zero, Nat.reduceAdd, Nat.reduceMul, Nat.reduceSub, xf_same, xq_ff, xq_fo, xf_1, xf_2, xs_1, xs_2, xs_same, xq_so, xj_1, xj_2, xj_same, xq_jo, xq_sa1, xq_same, xq_other, upd_s, oI_n, oI_s, s3, s4, s5, ax, ay, sx, sy, m1, m2, m3, m4, t1, t2, t3, t4, t5, t6, t7, lN_pl]
  refine by_lushr ?_
  refine by_aload_n rfl ?_
  refine by_getf cn_61 fl_2_76 (by first | exact rfl | assumption) (by decide) ?_
  refine by_lload_n rfl ?_
  simp (disch := first | exact Nat.ne_of_beq_eq_false rfl | exact rfl | omega) only [nI_add, xa_sub, xa_mul, pk_div, nm_mod, xa_shr, xa_and7, xa_and1, xa_and255, xa_by_and, nI_m1, Nat.add_sub_cancel, Nat.reducePow, Nat.zero_add, Nat.add_zero, Nat.reduceAdd, Nat.reduceMul, Nat.reduceSub, xf_same, xq_ff, xq_fo, xf_1, xf_2, xs_1, xs_2, xs_same, xq_so, xj_1, xj_2, xj_same, xq_jo, xq_sa1, xq_same, xq_other, upd_s, oI_n, oI_s, s3, s4, s5, ax, ay, sx, sy, m1, m2, m3, m4, t1, t2, t3, t4, t5, t6, t7, lN_pl]
  refine by_land ?_
  refine by_lmul ?_
  refine by_lload_n rfl ?_
  refine by_bipush cb_32 ?_
  refine by_lushr ?_
  refine by_ladd ?_
  refine by_lstore (by rw [ml_61]; decide) ?_
  refine by_aload_n rfl ?_
  refine by_getf cn_61 fl_2_73 (by first | exact rfl | assumption) (by decide) ?_
  refine by_lload_n rfl ?_
  simp (disch := first | exact Nat.ne_of_beq_eq_false rfl | exact rfl | omega) only [nI_add, xa_sub, xa_mul, pk_div, nm_mod, xa_shr, xa_and7, xa_and1, xa_and255, xa_by_and, nI_m1, Nat.add_sub_cancel, Nat.reducePow, Nat.zero_add, Nat.add_zero, Nat.reduceAdd, Nat.reduceMul, Nat.reduceSub, xf_same, xq_ff, xq_fo, xf_1, xf_2, xs_1, xs_2, xs_same, xq_so, xj_1, xj_2, xj_same, xq_jo, xq_sa1, xq_same, xq_other, upd_s, oI_n, oI_s, s3, s4, s5, ax, ay, sx, sy, m1, m2, m3, m4, t1, t2, t3, t4, t5, t6, t7, lN_pl]
  refine by_land ?_
  refine by_aload_n rfl ?_
  refine by_getf cn_61 fl_2_76 (by first | exact rfl | assumption) (by decide) ?_
  refine by_bipush cb_32 ?_
  simp (disch := first | exact Nat.ne_of_beq_eq_false rfl | exact rfl | omega) only [nI_add, xa_sub, xa_mul, pk_div, nm_mod, xa_shr, xa_and7, xa_and1, xa_and255, xa_by_and, nI_m1, Nat.add_sub_cancel, Nat.reducePow, Nat.zero_add, Nat.add_zero, Nat.reduceAdd, Nat.reduceMul, Nat.reduceSub, xf_same, xq_ff, xq_fo, xf_1, xf_2, xs_1, xs_2, xs_same, xq_so, xj_1, xj_2, xj_same, xq_jo, xq_sa1, xq_same, xq_other, upd_s, oI_n, oI_s, s3, s4, s5, ax, ay, sx, sy, m1, m2, m3, m4, t1, t2, t3, t4, t5, t6, t7, lN_pl]
  refine by_lushr ?_
  refine by_lmul ?_
  refine by_lload rfl ?_
  refine by_lload_n rfl ?_
  refine by_land ?_
  refine by_ladd ?_
  refine by_lstore (by rw [ml_61]; decide) ?_
  refine by_aload_n rfl ?_
  refine by_lload rfl ?_
  refine by_bipush cb_32 ?_
  refine by_lshl ?_
  refine by_lload_n rfl ?_
  refine by_lload_n rfl ?_
  refine by_land ?_
  refine by_lor ?_
  refine by_putf cn_61 fl_2_33 (by first | exact rfl | assumption) (by decide) nf_2_9 ft_2_9 (by first | rfl | assumption) (by first | rfl | assumption) ?_
  refine by_aload_n rfl ?_
  refine by_aload_n rfl ?_
  refine by_getf cn_61 fl_2_73 (by first | exact rfl | assumption) (by decide) ?_
  refine by_bipush cb_32 ?_
  simp (disch := first | exact Nat.ne_of_beq_eq_false rfl | exact rfl | omega) only [nI_add, xa_sub, xa_mul, pk_div, nm_mod, xa_shr, xa_and7, xa_and1, xa_and255, xa_by_and, nI_m1, Nat.add_sub_cancel, Nat.reducePow, Nat.zero_add, Nat.add_zero, Nat.reduceAdd, Nat.reduceMul, Nat.reduceSub, xf_same, xq_ff, xq_fo, xf_1, xf_2, xs_1, xs_2, xs_same, xq_so, xj_1, xj_2, xj_same, xq_jo, xq_sa1, xq_same, xq_other, upd_s, oI_n, oI_s, s3, s4, s5, ax, ay, sx, sy, m1, m2, m3, m4, t1, t2, t3, t4, t5, t6, t7, lN_pl]
  refine by_lushr ?_
  refine by_aload_n rfl ?_
  refine by_getf cn_61 fl_2_76 (by first | exact rfl | assumption) (by decide) ?_
  refine by_bipush cb_32 ?_
  simp (disch := first | exact Nat.ne_of_beq_eq_false rfl | exact rfl | omega) only [nI_add, xa_sub, xa_mul, pk_div, nm_mod, xa_shr, xa_and7, xa_and1, xa_and255, xa_by_and, nI_m1, Nat.add_sub_cancel, Nat.reducePow, Nat.zero_add, Nat.add_zero, Nat.reduceAdd, Nat.reduceMul, Nat.reduceSub, xf_same, xq_ff, xq_fo, xf_1, xf_2, xs_1, xs_2, xs_same, xq_so, xj_1, xj_2, xj_same, xq_jo, xq_sa1, xq_same, xq_other, upd_s, oI_n, oI_s, s3, s4, s5, ax, ay, sx, sy, m1, m2, m3, m4, t1, t2, t3, t4, t5, t6, t7, lN_pl]
  refine by_lushr ?_
  refine by_lmul ?_
  refine by_lload rfl ?_
  refine by_bipush cb_32 ?_
  refine by_lushr ?_
  refine by_ladd ?_
  refine by_lload rfl ?_
  refine by_bipush cb_32 ?_
  refine by_lushr ?_
  refine by_ladd ?_
  refine by_putf cn_61 fl_2_30 (by first | exact rfl | assumption) (by decide) nf_2_8 ft_2_8 (by first | rfl | assumption) (by first | rfl | assumption) ?_
  refine by_aload_n rfl ?_
  refine by_aload_n rfl ?_
  refine by_getf cn_61 fl_2_79 (by first | exact rfl | assumption) (by decide) ?_
  simp (disch := first | exact Nat.ne_of_beq_eq_false rfl | exact rfl | omega) only [nI_add, xa_sub, xa_mul, pk_div, nm_mod, xa_shr, xa_and7, xa_and1, xa_and255, xa_by_and, nI_m1, Nat.add_sub_cancel, Nat.reducePow, Nat.zero_add, Nat.add_zero, Nat.reduceAdd, Nat.reduceMul, Nat.reduceSub, xf_same, xq_ff, xq_fo, xf_1, xf_2, xs_1, xs_2, xs_same, xq_so, xj_1, xj_2, xj_same, xq_jo, xq_sa1, xq_same, xq_other, upd_s, oI_n, oI_s, xv_0, xv_1, xv_2, xv_3, xm_p1, xm_p2, xq_fp, xq_fn, List.filter_nil, Nat.reduceBEq, Bool.not_true, Bool.not_false, Bool.and_true, Bool.and_false, Bool.false_and, Bool.true_and, if_true, if_false, Bool.false_eq_true, reduceIte, xc_i, xc_j, xc_r, xc_n, List.nil_append, List.cons_append, Option.toList_some, Option.toList_none, s3, s4, s5, ax, ay, sx, sy, m1, m2, m3, m4, t1, t2, t3, t4, t5, t6, t7, lN_pl]
  refine by_inv1 cn_61 lk_2_102 (by rw [xe_cnt]; decide) is_52 np_52 cn_52 (by first | exact rfl | assumption) (Nat.le_of_ble_eq_true rfl) ?_
  have hL1 : (C + (B + A / 2 ^ 32) % 2 ^ 32) % 2 ^ 32 * 2 ^ 32 + A % 2 ^ 32 < 2 ^ 64 := by simp only [Nat.reducePow]; omega
  exact mly_0 (k := k) hk hw ⟨s0, s1, s2, s3, s4, s5, s6⟩ h0 hx hy hz hv hL1 bm hp (by simp [Value.category])
end J6
