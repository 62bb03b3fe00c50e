/-! ===== say: bits of the reference ===== -/
/-- what the reference has written: bits, beyond 65,536 their number alone -/
def mkB (h : xm_H) (bl : List Nat) : Prop := bOK bl ∧ bl.length < 1000000000 ∧ h.2.2 102 92 = .int (nI bl.length) ∧ ∀ k, k < 8192 → 8 * k < bl.length → h.1 147 k = nI (pk8 (bg bl) k)
theorem pk8_o {a : Nat → Nat} {x k m : Nat} (hm : m < 8) (h0 : ∀ j, m ≤ j → j < 8 → a (8 * k + j) = 0) (h2 : ∀ j, a j < 2) (hx : x < 2) : nI (pk8 a k) ||| nI (x * 2 ^ (7 - m)) = nI (pk8 (fun i => if i = 8 * k + m then x else a i) k) := by
  have e0 := h2 (8 * k)
  have e1 := h2 (8 * k + 1)
  have e2 := h2 (8 * k + 2)
  have e3 := h2 (8 * k + 3)
  have e4 := h2 (8 * k + 4)
  have e5 := h2 (8 * k + 5)
  have e6 := h2 (8 * k + 6)
  have e7 := h2 (8 * k + 7)
  have z0 : m ≤ 0 → a (8 * k) = 0 := fun z => by have := h0 0 z (by decide); rwa [Nat.add_zero] at this
  have z1 : m ≤ 1 → a (8 * k + 1) = 0 := fun z => h0 1 z (by decide)
  have z2 : m ≤ 2 → a (8 * k + 2) = 0 := fun z => h0 2 z (by decide)
  have z3 : m ≤ 3 → a (8 * k + 3) = 0 := fun z => h0 3 z (by decide)
  have z4 : m ≤ 4 → a (8 * k + 4) = 0 := fun z => h0 4 z (by decide)
  have z5 : m ≤ 5 → a (8 * k + 5) = 0 := fun z => h0 5 z (by decide)
  have z6 : m ≤ 6 → a (8 * k + 6) = 0 := fun z => h0 6 z (by decide)
  have z7 : m ≤ 7 → a (8 * k + 7) = 0 := fun z => h0 7 z (by decide)
  have e : pk8 (fun i => if i = 8 * k + m then x else a i) k = pk8 a k + x * 2 ^ (7 - m) := by
    unfold pk8
    rcases (by omega : m = 0 ∨ m = 1 ∨ m = 2 ∨ m = 3 ∨ m = 4 ∨ m = 5 ∨ m = 6 ∨ m = 7) with rfl | rfl | rfl | rfl | rfl | rfl | rfl | rfl <;> simp <;> omega
  have hd : ∃ q, pk8 a k = q * 2 ^ (8 - m) := by
    refine ⟨pk8 a k / 2 ^ (8 - m), ?_⟩
    unfold pk8
    rcases (by omega : m = 0 ∨ m = 1 ∨ m = 2 ∨ m = 3 ∨ m = 4 ∨ m = 5 ∨ m = 6 ∨ m = 7) with rfl | rfl | rfl | rfl | rfl | rfl | rfl | rfl <;> simp <;> omega
  obtain ⟨q, hq⟩ := hd
  rw [e, hq, nI_orp]
  rcases (by omega : x = 0 ∨ x = 1) with rfl | rfl
  · rw [Nat.zero_mul]; exact Nat.two_pow_pos _
  · rw [Nat.one_mul]; exact Nat.pow_lt_pow_right (by decide) (by omega)
theorem pk8_c {a b : Nat → Nat} {k : Nat} (h : ∀ i, i < 8 → a (8 * k + i) = b (8 * k + i)) : pk8 a k = pk8 b k := by
  have h0 := h 0 (by decide)
  rw [Nat.add_zero] at h0
  unfold pk8
  rw [h0, h 1 (by decide), h 2 (by decide), h 3 (by decide), h 4 (by decide), h 5 (by decide), h 6 (by decide), h 7 (by decide)]
section SY
variable {sc : xm_Sc} {d x : Nat} {bl : List Nat} {h : xm_H} {post : xm_Po}
theorem sp_writeBit (hF : XF h) (hb : mkB h bl) (hx : x < 2) (hl : bl.length + 1 < 1000000000) (hp : ∀ h', Fr [147] [(102, 92)] h h' → mkB h' (bl ++ [x]) → post none h') : xm_T (XE sc) (d + 1) 323 [.ref 102, .int (nI x)] h post := by
  obtain ⟨ok, b1, b2, b3⟩ := hb
  have ok2 : bOK (bl ++ [x]) := bOK_app ok (fun y hy => by rw [List.mem_singleton.mp hy]; exact hx)
  have eL : (bl ++ [x]).length = bl.length + 1 := by simp
  have ef : bg (bl ++ [x]) = fun i => if i = bl.length then x else bg bl i := funext (fun i => bg_app)
  refine xq_in rfl ?_
  simp only [xq_a0, xq_aI, xq_aJ, xq_aR, Nat.reduceAdd]
  by_cases e : bl.length < 65536
  · obtain ⟨k, m, ek, hm⟩ : ∃ k m, bl.length = 8 * k + m ∧ m < 8 := ⟨bl.length / 8, bl.length % 8, by omega, by omega⟩
    have ekd : bl.length / 8 = k := by omega
    have emd : bl.length - k * 8 = m := by omega
    have pk := pk8_o (a := bg bl) (x := x) (k := k) (m := m) hm (fun j h1 h2 => bg_out (by omega)) (fun j => bg_lt ok j) hx
    have sh : nI x <<< (nI (7 - m) &&& 31) = nI (x * 2 ^ (7 - m)) := nI_shl x (by omega)
    have fin : ∀ (v : Int32), v = nI (pk8 (bg (bl ++ [x])) k) → post none (xm_sf (xm_si h 147 k v) 102 92 (.int (nI (bl.length + 1)))) := fun v hv => by
      refine hp _ (Fr_sf (Fr_si Fr_rf (by simp)) (by simp)) ⟨ok2, by rw [eL]; exact hl, by rw [eL]; simp [xm_sf, updV], fun j hj hj2 => ?_⟩
      rw [eL] at hj2
      show (xm_si h 147 k v).1 147 j = _
      rw [xs_same]
      unfold upd
      by_cases z : j = k
      · subst z
        rw [if_pos rfl]
        exact hv
      · rw [if_neg z, b3 j hj (by omega)]
        congr 1
        rw [ef]
        exact pk8_c (fun i hi => (if_neg (by omega)).symm)
    have hv0 : nI (pk8 (bg bl) k) ||| nI (x * 2 ^ (7 - m)) = nI (pk8 (bg (bl ++ [x])) k) := by rw [pk, ef, ek]
    by_cases m0 : m = 0
    · subst m0
      have z0 : nI (pk8 (bg bl) k) = nI 0 := by
        unfold pk8
        rw [bg_out (by omega), bg_out (by omega), bg_out (by omega), bg_out (by omega), bg_out (by omega), bg_out (by omega), bg_out (by omega), bg_out (by omega)]
      rw [z0] at hv0
      have sh0 : nI x <<< (nI 7 &&& 31) = nI (x * 2 ^ 7) := nI_shl x (by decide)
      have hv1 : nI 0 ||| nI x <<< (nI 7 &&& 31) = nI (pk8 (bg (bl ++ [x])) k) := by rw [sh0]; exact hv0
      with_reducible refine xm_go_blk b_X12_writeBit_0 k_X12_writeBit_0 ?_
      refine by_aload_n rfl ?_
      refine by_getf cn_323 fl_12_656 (by first | exact rfl | assumption) (by decide) ?_
      refine by_ldc_w (x := nI 65536) cn_323 ki_12_659 (by decide) ?_
      simp (disch := first | exact Nat.ne_of_beq_eq_false rfl | exact rfl | omega) only [nI_add, xa_sub, xa_mul, pk_div, nm_mod, xa_shr, xa_and7, xa_and1, xa_and255, xa_by_and, nI_m1, Nat.add_sub_cancel, Nat.reducePow, Nat.zero_add, Nat.add_zero, Nat.reduceAdd, Nat.reduceMul, Nat.reduceSub, xf_same, xq_ff, xq_fo, xf_1, xf_2, xs_1, xs_2, xs_same, xq_so, xj_1, xj_2, xj_same, xq_jo, xq_sa1, xq_same, xq_other, upd_s, oI_n, oI_s, b2, xf_102_60 hF, ekd, emd, hv1]
      refine by_ic_ge 61 rfl ?_
      simp (disch := first | exact Nat.ne_of_beq_eq_false rfl | exact rfl | omega) only [nI_add, xa_sub, xa_mul, pk_div, nm_mod, xa_shr, xa_and7, xa_and1, xa_and255, xa_by_and, nI_m1, Nat.add_sub_cancel, Nat.reducePow, Nat.zero_add, Nat.add_zero, Nat.reduceAdd, Nat.reduceMul, Nat.reduceSub, xf_same, xq_ff, xq_fo, xf_1, xf_2, xs_1, xs_2, xs_same, xq_so, xj_1, xj_2, xj_same, xq_jo, xq_sa1, xq_same, xq_other, upd_s, oI_n, oI_s, xv_0, xv_1, xv_2, xv_3, xm_p1, xm_p2, xq_fp, xq_fn, List.filter_nil, Nat.reduceBEq, Bool.not_true, Bool.not_false, Bool.and_true, Bool.and_false, Bool.false_and, Bool.true_and, if_true, if_false, Bool.false_eq_true, reduceIte, xc_i, xc_j, xc_r, xc_n, List.nil_append, List.cons_append, Option.toList_some, Option.toList_none, nI_ltJ, nI_leJ, nI_eqJ, nI_ltz, nI_gez, nI_gtz, nI_lez, nI_eqz, m1_ltz, m1_gez, true_imp_iff, false_imp_iff, true_and, and_true, ne_eq, not_false_eq_true, not_true_eq_false, Nat.reduceEqDiff, Nat.reduceLT, Nat.reduceLeDiff, b2, xf_102_60 hF, ekd, emd, hv1]
      refine ⟨fun c => absurd c (by omega), fun c0 => ?_⟩
      with_reducible refine xm_go_blk b_X12_writeBit_10 k_X12_writeBit_10 ?_
      refine by_aload_n rfl ?_
      refine by_getf cn_323 fl_12_148 (by first | exact rfl | assumption) (by decide) ?_
      refine by_aload_n rfl ?_
      refine by_getf cn_323 fl_12_656 (by first | exact rfl | assumption) (by decide) ?_
      refine by_bipush cb_8 ?_
      simp (disch := first | exact Nat.ne_of_beq_eq_false rfl | exact rfl | omega) only [nI_add, xa_sub, xa_mul, pk_div, nm_mod, xa_shr, xa_and7, xa_and1, xa_and255, xa_by_and, nI_m1, Nat.add_sub_cancel, Nat.reducePow, Nat.zero_add, Nat.add_zero, Nat.reduceAdd, Nat.reduceMul, Nat.reduceSub, xf_same, xq_ff, xq_fo, xf_1, xf_2, xs_1, xs_2, xs_same, xq_so, xj_1, xj_2, xj_same, xq_jo, xq_sa1, xq_same, xq_other, upd_s, oI_n, oI_s, b2, xf_102_60 hF, ekd, emd, hv1]
      refine by_idiv (by first | decide | assumption) ?_
      refine by_aload_n rfl ?_
      refine by_getf cn_323 fl_12_656 (by first | exact rfl | assumption) (by decide) ?_
      refine by_bipush cb_8 ?_
      simp (disch := first | exact Nat.ne_of_beq_eq_false rfl | exact rfl | omega) only [nI_add, xa_sub, xa_mul, pk_div, nm_mod, xa_shr, xa_and7, xa_and1, xa_and255, xa_by_and, nI_m1, Nat.add_sub_cancel, Nat.reducePow, Nat.zero_add, Nat.add_zero, Nat.reduceAdd, Nat.reduceMul, Nat.reduceSub, xf_same, xq_ff, xq_fo, xf_1, xf_2, xs_1, xs_2, xs_same, xq_so, xj_1, xj_2, xj_same, xq_jo, xq_sa1, xq_same, xq_other, upd_s, oI_n, oI_s, b2, xf_102_60 hF, ekd, emd, hv1]
      refine by_irem (by first | decide | assumption) ?_
      refine by_if_ne 35 rfl ?_
      simp (disch := first | exact Nat.ne_of_beq_eq_false rfl | exact rfl | omega) only [nI_add, xa_sub, xa_mul, pk_div, nm_mod, xa_shr, xa_and7, xa_and1, xa_and255, xa_by_and, nI_m1, Nat.add_sub_cancel, Nat.reducePow, Nat.zero_add, Nat.add_zero, Nat.reduceAdd, Nat.reduceMul, Nat.reduceSub, xf_same, xq_ff, xq_fo, xf_1, xf_2, xs_1, xs_2, xs_same, xq_so, xj_1, xj_2, xj_same, xq_jo, xq_sa1, xq_same, xq_other, upd_s, oI_n, oI_s, xv_0, xv_1, xv_2, xv_3, xm_p1, xm_p2, xq_fp, xq_fn, List.filter_nil, Nat.reduceBEq, Bool.not_true, Bool.not_false, Bool.and_true, Bool.and_false, Bool.false_and, Bool.true_and, if_true, if_false, Bool.false_eq_true, reduceIte, xc_i, xc_j, xc_r, xc_n, List.nil_append, List.cons_append, Option.toList_some, Option.toList_none, nI_ltJ, nI_leJ, nI_eqJ, nI_ltz, nI_gez, nI_gtz, nI_lez, nI_eqz, m1_ltz, m1_gez, true_imp_iff, false_imp_iff, true_and, and_true, ne_eq, not_false_eq_true, not_true_eq_false, Nat.reduceEqDiff, Nat.reduceLT, Nat.reduceLeDiff, b2, xf_102_60 hF, ekd, emd, hv1]
      with_reducible refine xm_go_blk b_X12_writeBit_31 k_X12_writeBit_31 ?_
      refine by_iconst ci_0 ?_
      refine by_goto 47 rfl ?_
      with_reducible refine xm_go_blk b_X12_writeBit_47 k_X12_writeBit_47 ?_
      refine by_iload_n rfl ?_
      refine by_bipush cb_7 ?_
      refine by_aload_n rfl ?_
      refine by_getf cn_323 fl_12_656 (by first | exact rfl | assumption) (by decide) ?_
      refine by_bipush cb_8 ?_
      simp (disch := first | exact Nat.ne_of_beq_eq_false rfl | exact rfl | omega) only [nI_add, xa_sub, xa_mul, pk_div, nm_mod, xa_shr, xa_and7, xa_and1, xa_and255, xa_by_and, nI_m1, Nat.add_sub_cancel, Nat.reducePow, Nat.zero_add, Nat.add_zero, Nat.reduceAdd, Nat.reduceMul, Nat.reduceSub, xf_same, xq_ff, xq_fo, xf_1, xf_2, xs_1, xs_2, xs_same, xq_so, xj_1, xj_2, xj_same, xq_jo, xq_sa1, xq_same, xq_other, upd_s, oI_n, oI_s, b2, xf_102_60 hF, ekd, emd, hv1]
      refine by_irem (by first | decide | assumption) ?_
      refine by_isub ?_
      refine by_ishl ?_
      refine by_ior ?_
      refine by_iast (by first | exact rfl | assumption | exact ps_1 hpp | exact ps_2 hpp | exact ps_3 hpp | exact ps_4 hpp | exact ps_5 hpp | exact ps_6 hpp | exact ps_7 hpp | exact ps_8 hpp | exact ps_9 hpp | exact ps_10 hpp | exact ps_11 hpp | exact ps_15 hpp | exact ps_16 hpp | exact ps_17 hpp | exact ps_18 hpp | exact ps_19 hpp | exact ps_21 hpp | exact ps_22 hpp | exact ps_23 hpp | exact ps_24 hpp) ⟨by omega, by omega⟩ ?_
      refine by_nil ?_
      try simp (disch := first | exact Nat.ne_of_beq_eq_false rfl | exact rfl | omega) only [nI_add, xa_sub, xa_mul, pk_div, nm_mod, xa_shr, xa_and7, xa_and1, xa_and255, xa_by_and, nI_m1, Nat.add_sub_cancel, Nat.reducePow, Nat.zero_add, Nat.add_zero, Nat.reduceAdd, Nat.reduceMul, Nat.reduceSub, xf_same, xq_ff, xq_fo, xf_1, xf_2, xs_1, xs_2, xs_same, xq_so, xj_1, xj_2, xj_same, xq_jo, xq_sa1, xq_same, xq_other, upd_s, oI_n, oI_s, xv_0, xv_1, xv_2, xv_3, xm_p1, xm_p2, xq_fp, xq_fn, List.filter_nil, Nat.reduceBEq, Bool.not_true, Bool.not_false, Bool.and_true, Bool.and_false, Bool.false_and, Bool.true_and, if_true, if_false, Bool.false_eq_true, reduceIte, xc_i, xc_j, xc_r, xc_n, List.nil_append, List.cons_append, Option.toList_some, Option.toList_none, b2, xf_102_60 hF, ekd, emd, hv1]
      with_reducible refine xm_go_blk b_X12_writeBit_61 k_X12_writeBit_61 ?_
      refine by_aload_n rfl ?_
      refine by_dup rfl ?_
      refine by_getf cn_323 fl_12_656 (by first | exact rfl | assumption) (by decide) ?_
      refine by_iconst ci_1 ?_
      simp (disch := first | exact Nat.ne_of_beq_eq_false rfl | exact rfl | omega) only [nI_add, xa_sub, xa_mul, pk_div, nm_mod, xa_shr, xa_and7, xa_and1, xa_and255, xa_by_and, nI_m1, Nat.add_sub_cancel, Nat.reducePow, Nat.zero_add, Nat.add_zero, Nat.reduceAdd, Nat.reduceMul, Nat.reduceSub, xf_same, xq_ff, xq_fo, xf_1, xf_2, xs_1, xs_2, xs_same, xq_so, xj_1, xj_2, xj_same, xq_jo, xq_sa1, xq_same, xq_other, upd_s, oI_n, oI_s, b2, xf_102_60 hF, ekd, emd, hv1]
      refine by_iadd ?_
      refine by_putf cn_323 fl_12_656 (by first | exact rfl | assumption) (by decide) nf_12_92 ft_12_92 (by first | rfl | assumption) (by first | rfl | assumption) ?_
      refine by_ret ry_323 ?_
      try simp (disch := first | exact Nat.ne_of_beq_eq_false rfl | exact rfl | omega) only [nI_add, xa_sub, xa_mul, pk_div, nm_mod, xa_shr, xa_and7, xa_and1, xa_and255, xa_by_and, nI_m1, Nat.add_sub_cancel, Nat.reducePow, Nat.zero_add, Nat.add_zero, Nat.reduceAdd, Nat.reduceMul, Nat.reduceSub, xf_same, xq_ff, xq_fo, xf_1, xf_2, xs_1, xs_2, xs_same, xq_so, xj_1, xj_2, xj_same, xq_jo, xq_sa1, xq_same, xq_other, upd_s, oI_n, oI_s, b2, xf_102_60 hF, ekd, emd, hv1]
      exact fin _ rfl
    · have m0' : (m = 0) = False := eq_false m0
      have r3 := b3 k (by omega) (by omega)
      have hv1 : nI (pk8 (bg bl) k) ||| nI x <<< (nI (7 - m) &&& 31) = nI (pk8 (bg (bl ++ [x])) k) := by rw [sh]; exact hv0
      with_reducible refine xm_go_blk b_X12_writeBit_0 k_X12_writeBit_0 ?_
      refine by_aload_n rfl ?_
      refine by_getf cn_323 fl_12_656 (by first | exact rfl | assumption) (by decide) ?_
      refine by_ldc_w (x := nI 65536) cn_323 ki_12_659 (by decide) ?_
      simp (disch := first | exact Nat.ne_of_beq_eq_false rfl | exact rfl | omega) only [nI_add, xa_sub, xa_mul, pk_div, nm_mod, xa_shr, xa_and7, xa_and1, xa_and255, xa_by_and, nI_m1, Nat.add_sub_cancel, Nat.reducePow, Nat.zero_add, Nat.add_zero, Nat.reduceAdd, Nat.reduceMul, Nat.reduceSub, xf_same, xq_ff, xq_fo, xf_1, xf_2, xs_1, xs_2, xs_same, xq_so, xj_1, xj_2, xj_same, xq_jo, xq_sa1, xq_same, xq_other, upd_s, oI_n, oI_s, b2, xf_102_60 hF, ekd, emd, m0', r3, hv1]
      refine by_ic_ge 61 rfl ?_
      simp (disch := first | exact Nat.ne_of_beq_eq_false rfl | exact rfl | omega) only [nI_add, xa_sub, xa_mul, pk_div, nm_mod, xa_shr, xa_and7, xa_and1, xa_and255, xa_by_and, nI_m1, Nat.add_sub_cancel, Nat.reducePow, Nat.zero_add, Nat.add_zero, Nat.reduceAdd, Nat.reduceMul, Nat.reduceSub, xf_same, xq_ff, xq_fo, xf_1, xf_2, xs_1, xs_2, xs_same, xq_so, xj_1, xj_2, xj_same, xq_jo, xq_sa1, xq_same, xq_other, upd_s, oI_n, oI_s, xv_0, xv_1, xv_2, xv_3, xm_p1, xm_p2, xq_fp, xq_fn, List.filter_nil, Nat.reduceBEq, Bool.not_true, Bool.not_false, Bool.and_true, Bool.and_false, Bool.false_and, Bool.true_and, if_true, if_false, Bool.false_eq_true, reduceIte, xc_i, xc_j, xc_r, xc_n, List.nil_append, List.cons_append, Option.toList_some, Option.toList_none, nI_ltJ, nI_leJ, nI_eqJ, nI_ltz, nI_gez, nI_gtz, nI_lez, nI_eqz, m1_ltz, m1_gez, true_imp_iff, false_imp_iff, true_and, and_true, ne_eq, not_false_eq_true, not_true_eq_false, Nat.reduceEqDiff, Nat.reduceLT, Nat.reduceLeDiff, b2, xf_102_60 hF, ekd, emd, m0', r3, hv1]
      refine ⟨fun c => absurd c (by omega), fun c0 => ?_⟩
      with_reducible refine xm_go_blk b_X12_writeBit_10 k_X12_writeBit_10 ?_
      refine by_aload_n rfl ?_
      refine by_getf cn_323 fl_12_148 (by first | exact rfl | assumption) (by decide) ?_
      refine by_aload_n rfl ?_
      refine by_getf cn_323 fl_12_656 (by first | exact rfl | assumption) (by decide) ?_
      refine by_bipush cb_8 ?_
      simp (disch := first | exact Nat.ne_of_beq_eq_false rfl | exact rfl | omega) only [nI_add, xa_sub, xa_mul, pk_div, nm_mod, xa_shr, xa_and7, xa_and1, xa_and255, xa_by_and, nI_m1, Nat.add_sub_cancel, Nat.reducePow, Nat.zero_add, Nat.add_zero, Nat.reduceAdd, Nat.reduceMul, Nat.reduceSub, xf_same, xq_ff, xq_fo, xf_1, xf_2, xs_1, xs_2, xs_same, xq_so, xj_1, xj_2, xj_same, xq_jo, xq_sa1, xq_same, xq_other, upd_s, oI_n, oI_s, b2, xf_102_60 hF, ekd, emd, m0', r3, hv1]
      refine by_idiv (by first | decide | assumption) ?_
      refine by_aload_n rfl ?_
      refine by_getf cn_323 fl_12_656 (by first | exact rfl | assumption) (by decide) ?_
      refine by_bipush cb_8 ?_
      simp (disch := first | exact Nat.ne_of_beq_eq_false rfl | exact rfl | omega) only [nI_add, xa_sub, xa_mul, pk_div, nm_mod, xa_shr, xa_and7, xa_and1, xa_and255, xa_by_and, nI_m1, Nat.add_sub_cancel, Nat.reducePow, Nat.zero_add, Nat.add_zero, Nat.reduceAdd, Nat.reduceMul, Nat.reduceSub, xf_same, xq_ff, xq_fo, xf_1, xf_2, xs_1, xs_2, xs_same, xq_so, xj_1, xj_2, xj_same, xq_jo, xq_sa1, xq_same, xq_other, upd_s, oI_n, oI_s, b2, xf_102_60 hF, ekd, emd, m0', r3, hv1]
      refine by_irem (by first | decide | assumption) ?_
      refine by_if_ne 35 rfl ?_
      simp (disch := first | exact Nat.ne_of_beq_eq_false rfl | exact rfl | omega) only [nI_add, xa_sub, xa_mul, pk_div, nm_mod, xa_shr, xa_and7, xa_and1, xa_and255, xa_by_and, nI_m1, Nat.add_sub_cancel, Nat.reducePow, Nat.zero_add, Nat.add_zero, Nat.reduceAdd, Nat.reduceMul, Nat.reduceSub, xf_same, xq_ff, xq_fo, xf_1, xf_2, xs_1, xs_2, xs_same, xq_so, xj_1, xj_2, xj_same, xq_jo, xq_sa1, xq_same, xq_other, upd_s, oI_n, oI_s, xv_0, xv_1, xv_2, xv_3, xm_p1, xm_p2, xq_fp, xq_fn, List.filter_nil, Nat.reduceBEq, Bool.not_true, Bool.not_false, Bool.and_true, Bool.and_false, Bool.false_and, Bool.true_and, if_true, if_false, Bool.false_eq_true, reduceIte, xc_i, xc_j, xc_r, xc_n, List.nil_append, List.cons_append, Option.toList_some, Option.toList_none, nI_ltJ, nI_leJ, nI_eqJ, nI_ltz, nI_gez, nI_gtz, nI_lez, nI_eqz, m1_ltz, m1_gez, true_imp_iff, false_imp_iff, true_and, and_true, ne_eq, not_false_eq_true, not_true_eq_false, Nat.reduceEqDiff, Nat.reduceLT, Nat.reduceLeDiff, b2, xf_102_60 hF, ekd, emd, m0', r3, hv1]
      with_reducible refine xm_go_blk b_X12_writeBit_35 k_X12_writeBit_35 ?_
      refine by_aload_n rfl ?_
      refine by_getf cn_323 fl_12_148 (by first | exact rfl | assumption) (by decide) ?_
      refine by_aload_n rfl ?_
      refine by_getf cn_323 fl_12_656 (by first | exact rfl | assumption) (by decide) ?_
      refine by_bipush cb_8 ?_
      simp (disch := first | exact Nat.ne_of_beq_eq_false rfl | exact rfl | omega) only [nI_add, xa_sub, xa_mul, pk_div, nm_mod, xa_shr, xa_and7, xa_and1, xa_and255, xa_by_and, nI_m1, Nat.add_sub_cancel, Nat.reducePow, Nat.zero_add, Nat.add_zero, Nat.reduceAdd, Nat.reduceMul, Nat.reduceSub, xf_same, xq_ff, xq_fo, xf_1, xf_2, xs_1, xs_2, xs_same, xq_so, xj_1, xj_2, xj_same, xq_jo, xq_sa1, xq_same, xq_other, upd_s, oI_n, oI_s, b2, xf_102_60 hF, ekd, emd, m0', r3, hv1]
      refine by_idiv (by first | decide | assumption) ?_
      simp (disch := first | exact Nat.ne_of_beq_eq_false rfl | exact rfl | omega) only [nI_add, xa_sub, xa_mul, pk_div, nm_mod, xa_shr, xa_and7, xa_and1, xa_and255, xa_by_and, nI_m1, Nat.add_sub_cancel, Nat.reducePow, Nat.zero_add, Nat.add_zero, Nat.reduceAdd, Nat.reduceMul, Nat.reduceSub, xf_same, xq_ff, xq_fo, xf_1, xf_2, xs_1, xs_2, xs_same, xq_so, xj_1, xj_2, xj_same, xq_jo, xq_sa1, xq_same, xq_other, upd_s, oI_n, oI_s, b2, xf_102_60 hF, ekd, emd, m0', r3, hv1]
      first | refine by_iald (by first | exact rfl | assumption | exact ps_1 hpp | exact ps_2 hpp | exact ps_3 hpp | exact ps_4 hpp | exact ps_5 hpp | exact ps_6 hpp | exact ps_7 hpp | exact ps_8 hpp | exact ps_9 hpp | exact ps_10 hpp | exact ps_11 hpp | exact ps_15 hpp | exact ps_16 hpp | exact ps_17 hpp | exact ps_18 hpp | exact ps_19 hpp | exact ps_21 hpp | exact ps_22 hpp | exact ps_23 hpp | exact ps_24 hpp) ⟨by omega, by omega⟩ ?_ | refine by_tald rfl rfl ⟨by omega, by omega⟩ ?_
      refine by_nil ?_
      try simp (disch := first | exact Nat.ne_of_beq_eq_false rfl | exact rfl | omega) only [nI_add, xa_sub, xa_mul, pk_div, nm_mod, xa_shr, xa_and7, xa_and1, xa_and255, xa_by_and, nI_m1, Nat.add_sub_cancel, Nat.reducePow, Nat.zero_add, Nat.add_zero, Nat.reduceAdd, Nat.reduceMul, Nat.reduceSub, xf_same, xq_ff, xq_fo, xf_1, xf_2, xs_1, xs_2, xs_same, xq_so, xj_1, xj_2, xj_same, xq_jo, xq_sa1, xq_same, xq_other, upd_s, oI_n, oI_s, xv_0, xv_1, xv_2, xv_3, xm_p1, xm_p2, xq_fp, xq_fn, List.filter_nil, Nat.reduceBEq, Bool.not_true, Bool.not_false, Bool.and_true, Bool.and_false, Bool.false_and, Bool.true_and, if_true, if_false, Bool.false_eq_true, reduceIte, xc_i, xc_j, xc_r, xc_n, List.nil_append, List.cons_append, Option.toList_some, Option.toList_none, b2, xf_102_60 hF, ekd, emd, m0', r3, hv1]
      with_reducible refine xm_go_blk b_X12_writeBit_47 k_X12_writeBit_47 ?_
      refine by_iload_n rfl ?_
      refine by_bipush cb_7 ?_
      refine by_aload_n rfl ?_
      refine by_getf cn_323 fl_12_656 (by first | exact rfl | assumption) (by decide) ?_
      refine by_bipush cb_8 ?_
      simp (disch := first | exact Nat.ne_of_beq_eq_false rfl | exact rfl | omega) only [nI_add, xa_sub, xa_mul, pk_div, nm_mod, xa_shr, xa_and7, xa_and1, xa_and255, xa_by_and, nI_m1, Nat.add_sub_cancel, Nat.reducePow, Nat.zero_add, Nat.add_zero, Nat.reduceAdd, Nat.reduceMul, Nat.reduceSub, xf_same, xq_ff, xq_fo, xf_1, xf_2, xs_1, xs_2, xs_same, xq_so, xj_1, xj_2, xj_same, xq_jo, xq_sa1, xq_same, xq_other, upd_s, oI_n, oI_s, b2, xf_102_60 hF, ekd, emd, m0', r3, hv1]
      refine by_irem (by first | decide | assumption) ?_
      refine by_isub ?_
      refine by_ishl ?_
      refine by_ior ?_
      refine by_iast (by first | exact rfl | assumption | exact ps_1 hpp | exact ps_2 hpp | exact ps_3 hpp | exact ps_4 hpp | exact ps_5 hpp | exact ps_6 hpp | exact ps_7 hpp | exact ps_8 hpp | exact ps_9 hpp | exact ps_10 hpp | exact ps_11 hpp | exact ps_15 hpp | exact ps_16 hpp | exact ps_17 hpp | exact ps_18 hpp | exact ps_19 hpp | exact ps_21 hpp | exact ps_22 hpp | exact ps_23 hpp | exact ps_24 hpp) ⟨by omega, by omega⟩ ?_
      refine by_nil ?_
      try simp (disch := first | exact Nat.ne_of_beq_eq_false rfl | exact rfl | omega) only [nI_add, xa_sub, xa_mul, pk_div, nm_mod, xa_shr, xa_and7, xa_and1, xa_and255, xa_by_and, nI_m1, Nat.add_sub_cancel, Nat.reducePow, Nat.zero_add, Nat.add_zero, Nat.reduceAdd, Nat.reduceMul, Nat.reduceSub, xf_same, xq_ff, xq_fo, xf_1, xf_2, xs_1, xs_2, xs_same, xq_so, xj_1, xj_2, xj_same, xq_jo, xq_sa1, xq_same, xq_other, upd_s, oI_n, oI_s, xv_0, xv_1, xv_2, xv_3, xm_p1, xm_p2, xq_fp, xq_fn, List.filter_nil, Nat.reduceBEq, Bool.not_true, Bool.not_false, Bool.and_true, Bool.and_false, Bool.false_and, Bool.true_and, if_true, if_false, Bool.false_eq_true, reduceIte, xc_i, xc_j, xc_r, xc_n, List.nil_append, List.cons_append, Option.toList_some, Option.toList_none, b2, xf_102_60 hF, ekd, emd, m0', r3, hv1]
      with_reducible refine xm_go_blk b_X12_writeBit_61 k_X12_writeBit_61 ?_
      refine by_aload_n rfl ?_
      refine by_dup rfl ?_
      refine by_getf cn_323 fl_12_656 (by first | exact rfl | assumption) (by decide) ?_
      refine by_iconst ci_1 ?_
      simp (disch := first | exact Nat.ne_of_beq_eq_false rfl | exact rfl | omega) only [nI_add, xa_sub, xa_mul, pk_div, nm_mod, xa_shr, xa_and7, xa_and1, xa_and255, xa_by_and, nI_m1, Nat.add_sub_cancel, Nat.reducePow, Nat.zero_add, Nat.add_zero, Nat.reduceAdd, Nat.reduceMul, Nat.reduceSub, xf_same, xq_ff, xq_fo, xf_1, xf_2, xs_1, xs_2, xs_same, xq_so, xj_1, xj_2, xj_same, xq_jo, xq_sa1, xq_same, xq_other, upd_s, oI_n, oI_s, b2, xf_102_60 hF, ekd, emd, m0', r3, hv1]
      refine by_iadd ?_
      refine by_putf cn_323 fl_12_656 (by first | exact rfl | assumption) (by decide) nf_12_92 ft_12_92 (by first | rfl | assumption) (by first | rfl | assumption) ?_
      refine by_ret ry_323 ?_
      try simp (disch := first | exact Nat.ne_of_beq_eq_false rfl | exact rfl | omega) only [nI_add, xa_sub, xa_mul, pk_div, nm_mod, xa_shr, xa_and7, xa_and1, xa_and255, xa_by_and, nI_m1, Nat.add_sub_cancel, Nat.reducePow, Nat.zero_add, Nat.add_zero, Nat.reduceAdd, Nat.reduceMul, Nat.reduceSub, xf_same, xq_ff, xq_fo, xf_1, xf_2, xs_1, xs_2, xs_same, xq_so, xj_1, xj_2, xj_same, xq_jo, xq_sa1, xq_same, xq_other, upd_s, oI_n, oI_s, b2, xf_102_60 hF, ekd, emd, m0', r3, hv1]
      exact fin _ rfl
  · with_reducible refine xm_go_blk b_X12_writeBit_0 k_X12_writeBit_0 ?_
    refine by_aload_n rfl ?_
    refine by_getf cn_323 fl_12_656 (by first | exact rfl | assumption) (by decide) ?_
    refine by_ldc_w (x := nI 65536) cn_323 ki_12_659 (by decide) ?_
    simp (disch := first | exact Nat.ne_of_beq_eq_false rfl | exact rfl | omega) only [nI_add, xa_sub, xa_mul, pk_div, nm_mod, xa_shr, xa_and7, xa_and1, xa_and255, xa_by_and, nI_m1, Nat.add_sub_cancel, Nat.reducePow, Nat.zero_add, Nat.add_zero, Nat.reduceAdd, Nat.reduceMul, Nat.reduceSub, xf_same, xq_ff, xq_fo, xf_1, xf_2, xs_1, xs_2, xs_same, xq_so, xj_1, xj_2, xj_same, xq_jo, xq_sa1, xq_same, xq_other, upd_s, oI_n, oI_s, b2]
    refine by_ic_ge 61 rfl ?_
    simp (disch := first | exact Nat.ne_of_beq_eq_false rfl | exact rfl | omega) only [nI_add, xa_sub, xa_mul, pk_div, nm_mod, xa_shr, xa_and7, xa_and1, xa_and255, xa_by_and, nI_m1, Nat.add_sub_cancel, Nat.reducePow, Nat.zero_add, Nat.add_zero, Nat.reduceAdd, Nat.reduceMul, Nat.reduceSub, xf_same, xq_ff, xq_fo, xf_1, xf_2, xs_1, xs_2, xs_same, xq_so, xj_1, xj_2, xj_same, xq_jo, xq_sa1, xq_same, xq_other, upd_s, oI_n, oI_s, xv_0, xv_1, xv_2, xv_3, xm_p1, xm_p2, xq_fp, xq_fn, List.filter_nil, Nat.reduceBEq, Bool.not_true, Bool.not_false, Bool.and_true, Bool.and_false, Bool.false_and, Bool.true_and, if_true, if_false, Bool.false_eq_true, reduceIte, xc_i, xc_j, xc_r, xc_n, List.nil_append, List.cons_append, Option.toList_some, Option.toList_none, nI_ltJ, nI_leJ, nI_eqJ, nI_ltz, nI_gez, nI_gtz, nI_lez, nI_eqz, m1_ltz, m1_gez, true_imp_iff, false_imp_iff, true_and, and_true, ne_eq, not_false_eq_true, not_true_eq_false, Nat.reduceEqDiff, Nat.reduceLT, Nat.reduceLeDiff, b2]
    refine ⟨fun c0 => ?_, fun c => absurd (by omega) c⟩
    with_reducible refine xm_go_blk b_X12_writeBit_61 k_X12_writeBit_61 ?_
    refine by_aload_n rfl ?_
    refine by_dup rfl ?_
    refine by_getf cn_323 fl_12_656 (by first | exact rfl | assumption) (by decide) ?_
    refine by_iconst ci_1 ?_
    simp (disch := first | exact Nat.ne_of_beq_eq_false rfl | exact rfl | omega) only [nI_add, xa_sub, xa_mul, pk_div, nm_mod, xa_shr, xa_and7, xa_and1, xa_and255, xa_by_and, nI_m1, Nat.add_sub_cancel, Nat.reducePow, Nat.zero_add, Nat.add_zero, Nat.reduceAdd, Nat.reduceMul, Nat.reduceSub, xf_same, xq_ff, xq_fo, xf_1, xf_2, xs_1, xs_2, xs_same, xq_so, xj_1, xj_2, xj_same, xq_jo, xq_sa1, xq_same, xq_other, upd_s, oI_n, oI_s, b2]
    refine by_iadd ?_
    refine by_putf cn_323 fl_12_656 (by first | exact rfl | assumption) (by decide) nf_12_92 ft_12_92 (by first | rfl | assumption) (by first | rfl | assumption) ?_
    refine by_ret ry_323 ?_
    try simp (disch := first | exact Nat.ne_of_beq_eq_false rfl | exact rfl | omega) only [nI_add, xa_sub, xa_mul, pk_div, nm_mod, xa_shr, xa_and7, xa_and1, xa_and255, xa_by_and, nI_m1, Nat.add_sub_cancel, Nat.reducePow, Nat.zero_add, Nat.add_zero, Nat.reduceAdd, Nat.reduceMul, Nat.reduceSub, xf_same, xq_ff, xq_fo, xf_1, xf_2, xs_1, xs_2, xs_same, xq_so, xj_1, xj_2, xj_same, xq_jo, xq_sa1, xq_same, xq_other, upd_s, oI_n, oI_s, b2]
    refine hp _ (Fr_sf Fr_rf (by simp)) ⟨ok2, by rw [eL]; exact hl, by rw [eL]; simp [xm_sf, updV], fun j hj hj2 => ?_⟩
    show h.1 147 j = _
    rw [b3 j hj (by omega)]
    congr 1
    rw [ef]
    exact pk8_c (fun i hi => (if_neg (by omega)).symm)
/-- bits of a number, the greatest first -/
theorem sp_writeBits {v : Int32} {n : Nat} {g : Nat → Nat} (hF : XF h) (hb : mkB h bl) (hn : n ≤ 32) (hl : bl.length + n < 1000000000) (hg : ∀ i, i < n → v >>> (nI i &&& 31) &&& nI 1 = nI (g i) ∧ g i < 2) (hp : ∀ h', Fr [147] [(102, 92)] h h' → mkB h' (bl ++ hiB g n) → post none h') : xm_T (XE sc) (d + 2) 324 [.ref 102, .int v, .int (nI n)] h post := by
  have key : ∀ (i : Nat) (b2 : List Nat) (h2 : xm_H), i ≤ n → b2 ++ hiB g i = bl ++ hiB g n → b2.length + i = bl.length + n → Fr [147] [(102, 92)] h h2 → mkB h2 b2 → xm_go (XE sc) (xm_T (XE sc) (d + 1)) 324 post 4 [(3, .int (if i = 0 then -1 else nI (i - 1))), (0, .ref 102), (1, .int v)] [] h2 := by
    intro i
    induction i with
    | zero =>
      intro b2 h2 hi he hl2 f2 p2
      rw [if_pos rfl]
      have he' : b2 = bl ++ hiB g n := by rw [← he]; simp [hiB]
      with_reducible refine xm_go_blk b_X12_writeBits_4 k_X12_writeBits_4 ?_
      refine by_iload_n rfl ?_
      refine by_if_lt 23 rfl ?_
      simp (disch := first | exact Nat.ne_of_beq_eq_false rfl | exact rfl | omega) only [nI_add, xa_sub, xa_mul, pk_div, nm_mod, xa_shr, xa_and7, xa_and1, xa_and255, xa_by_and, nI_m1, Nat.add_sub_cancel, Nat.reducePow, Nat.zero_add, Nat.add_zero, Nat.reduceAdd, Nat.reduceMul, Nat.reduceSub, xf_same, xq_ff, xq_fo, xf_1, xf_2, xs_1, xs_2, xs_same, xq_so, xj_1, xj_2, xj_same, xq_jo, xq_sa1, xq_same, xq_other, upd_s, oI_n, oI_s, xv_0, xv_1, xv_2, xv_3, xm_p1, xm_p2, xq_fp, xq_fn, List.filter_nil, Nat.reduceBEq, Bool.not_true, Bool.not_false, Bool.and_true, Bool.and_false, Bool.false_and, Bool.true_and, if_true, if_false, Bool.false_eq_true, reduceIte, xc_i, xc_j, xc_r, xc_n, List.nil_append, List.cons_append, Option.toList_some, Option.toList_none, nI_ltJ, nI_leJ, nI_eqJ, nI_ltz, nI_gez, nI_gtz, nI_lez, nI_eqz, m1_ltz, m1_gez, true_imp_iff, false_imp_iff, true_and, and_true, ne_eq, not_false_eq_true, not_true_eq_false, Nat.reduceEqDiff, Nat.reduceLT, Nat.reduceLeDiff]
      with_reducible refine xm_go_blk b_X12_writeBits_23 k_X12_writeBits_23 ?_
      refine by_ret ry_324 ?_
      exact hp h2 f2 (by rw [← he']; exact p2)
    | succ i ih =>
      intro b2 h2 hi he hl2 f2 p2
      obtain ⟨g1, g2⟩ := hg i (by omega)
      have F2 := Fr_XF hF f2 (by decide +kernel)
      rw [if_neg (by omega), Nat.add_sub_cancel]
      with_reducible refine xm_go_blk b_X12_writeBits_4 k_X12_writeBits_4 ?_
      refine by_iload_n rfl ?_
      refine by_if_lt 23 rfl ?_
      simp (disch := first | exact Nat.ne_of_beq_eq_false rfl | exact rfl | omega) only [nI_add, xa_sub, xa_mul, pk_div, nm_mod, xa_shr, xa_and7, xa_and1, xa_and255, xa_by_and, nI_m1, Nat.add_sub_cancel, Nat.reducePow, Nat.zero_add, Nat.add_zero, Nat.reduceAdd, Nat.reduceMul, Nat.reduceSub, xf_same, xq_ff, xq_fo, xf_1, xf_2, xs_1, xs_2, xs_same, xq_so, xj_1, xj_2, xj_same, xq_jo, xq_sa1, xq_same, xq_other, upd_s, oI_n, oI_s, xv_0, xv_1, xv_2, xv_3, xm_p1, xm_p2, xq_fp, xq_fn, List.filter_nil, Nat.reduceBEq, Bool.not_true, Bool.not_false, Bool.and_true, Bool.and_false, Bool.false_and, Bool.true_and, if_true, if_false, Bool.false_eq_true, reduceIte, xc_i, xc_j, xc_r, xc_n, List.nil_append, List.cons_append, Option.toList_some, Option.toList_none, nI_ltJ, nI_leJ, nI_eqJ, nI_ltz, nI_gez, nI_gtz, nI_lez, nI_eqz, m1_ltz, m1_gez, true_imp_iff, false_imp_iff, true_and, and_true, ne_eq, not_false_eq_true, not_true_eq_false, Nat.reduceEqDiff, Nat.reduceLT, Nat.reduceLeDiff, g1]
      with_reducible refine xm_go_blk b_X12_writeBits_8 k_X12_writeBits_8 ?_
      refine by_aload_n rfl ?_
      refine by_iload_n rfl ?_
      refine by_iload_n rfl ?_
      refine by_ishr ?_
      refine by_iconst ci_1 ?_
      refine by_iand ?_
      simp (disch := first | exact Nat.ne_of_beq_eq_false rfl | exact rfl | omega) only [nI_add, xa_sub, xa_mul, pk_div, nm_mod, xa_shr, xa_and7, xa_and1, xa_and255, xa_by_and, nI_m1, Nat.add_sub_cancel, Nat.reducePow, Nat.zero_add, Nat.add_zero, Nat.reduceAdd, Nat.reduceMul, Nat.reduceSub, xf_same, xq_ff, xq_fo, xf_1, xf_2, xs_1, xs_2, xs_same, xq_so, xj_1, xj_2, xj_same, xq_jo, xq_sa1, xq_same, xq_other, upd_s, oI_n, oI_s, xv_0, xv_1, xv_2, xv_3, xm_p1, xm_p2, xq_fp, xq_fn, List.filter_nil, Nat.reduceBEq, Bool.not_true, Bool.not_false, Bool.and_true, Bool.and_false, Bool.false_and, Bool.true_and, if_true, if_false, Bool.false_eq_true, reduceIte, xc_i, xc_j, xc_r, xc_n, List.nil_append, List.cons_append, Option.toList_some, Option.toList_none, g1]
      refine by_inv1 cn_324 lk_12_660 (by rw [xe_cnt]; decide) is_323 np_323 cn_323 (by first | exact rfl | assumption) (Nat.le_of_ble_eq_true rfl) ?_
      refine sp_writeBit F2 p2 g2 (by omega) (fun h3 f3 p3 => ?_)
      have k3 := ih (b2 ++ [g i]) h3 (by omega) (by rw [List.append_assoc]; exact he) (by simp; omega) (Fr_tr f2 f3 (fun _ z => z) (fun _ z => z)) p3
      have e2 : nI i + -1 = (if i = 0 then -1 else nI (i - 1)) := by
        by_cases z : i = 0
        · subst z; rfl
        · rw [if_neg z, nI_m1 (by omega)]
      with_reducible refine xm_go_blk b_X12_writeBits_17 k_X12_writeBits_17 ?_
      refine by_iinc (by rw [ml_324]; decide) rfl ci_m1 ?_
      refine by_goto 4 rfl ?_
      try simp (disch := first | exact Nat.ne_of_beq_eq_false rfl | exact rfl | omega) only [nI_add, xa_sub, xa_mul, pk_div, nm_mod, xa_shr, xa_and7, xa_and1, xa_and255, xa_by_and, nI_m1, Nat.add_sub_cancel, Nat.reducePow, Nat.zero_add, Nat.add_zero, Nat.reduceAdd, Nat.reduceMul, Nat.reduceSub, xf_same, xq_ff, xq_fo, xf_1, xf_2, xs_1, xs_2, xs_same, xq_so, xj_1, xj_2, xj_same, xq_jo, xq_sa1, xq_same, xq_other, upd_s, oI_n, oI_s, xv_0, xv_1, xv_2, xv_3, xm_p1, xm_p2, xq_fp, xq_fn, List.filter_nil, Nat.reduceBEq, Bool.not_true, Bool.not_false, Bool.and_true, Bool.and_false, Bool.false_and, Bool.true_and, if_true, if_false, Bool.false_eq_true, reduceIte, xc_i, xc_j, xc_r, xc_n, List.nil_append, List.cons_append, Option.toList_some, Option.toList_none, e2]
      exact xm_go_wk (by simp [Value.category]) k3
  refine xq_in rfl ?_
  simp only [xq_a0, xq_aI, xq_aJ, xq_aR, Nat.reduceAdd]
  have k0 := key n bl h (Nat.le_refl _) rfl rfl Fr_rf hb
  have e2 : nI n - nI 1 = (if n = 0 then -1 else nI (n - 1)) := by
    by_cases z : n = 0
    · subst z; rfl
    · rw [if_neg z, xa_sub (by omega)]
  with_reducible refine xm_go_blk b_X12_writeBits_0 k_X12_writeBits_0 ?_
  refine by_iload_n rfl ?_
  refine by_iconst ci_1 ?_
  refine by_isub ?_
  refine by_istore_n (by rw [ml_324]; decide) ?_
  refine by_nil ?_
  try simp (disch := first | exact Nat.ne_of_beq_eq_false rfl | exact rfl | omega) only [nI_add, xa_sub, xa_mul, pk_div, nm_mod, xa_shr, xa_and7, xa_and1, xa_and255, xa_by_and, nI_m1, Nat.add_sub_cancel, Nat.reducePow, Nat.zero_add, Nat.add_zero, Nat.reduceAdd, Nat.reduceMul, Nat.reduceSub, xf_same, xq_ff, xq_fo, xf_1, xf_2, xs_1, xs_2, xs_same, xq_so, xj_1, xj_2, xj_same, xq_jo, xq_sa1, xq_same, xq_other, upd_s, oI_n, oI_s, xv_0, xv_1, xv_2, xv_3, xm_p1, xm_p2, xq_fp, xq_fn, List.filter_nil, Nat.reduceBEq, Bool.not_true, Bool.not_false, Bool.and_true, Bool.and_false, Bool.false_and, Bool.true_and, if_true, if_false, Bool.false_eq_true, reduceIte, xc_i, xc_j, xc_r, xc_n, List.nil_append, List.cons_append, Option.toList_some, Option.toList_none, e2]
  exact xm_go_wk (by simp [Value.category]) k0
end SY
