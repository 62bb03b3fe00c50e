/-! ===== speak: hexadecimal digits of words ===== -/
def hxD (x : Int32) (k : Nat) : Nat := x.toBitVec.toNat / 2 ^ k % 16
theorem hx_bit (x : Int32) (k i : Nat) (hi : i < 32) (hk : k ≤ 28) : (nI (hxD x k)).toBitVec.getLsbD i = (decide (i < 4) && x.toBitVec.getLsbD (k + i)) := by
  show (BitVec.ofNat 32 (hxD x k)).getLsbD i = _
  rw [BitVec.getLsbD_ofNat, decide_eq_true hi, Bool.true_and]
  unfold hxD
  rw [show (16 : Nat) = 2 ^ 4 from rfl, Nat.testBit_mod_two_pow, Nat.testBit_div_two_pow, BitVec.getLsbD, Nat.add_comm]
theorem hx_15 (i : Nat) (hi : i < 32) : (nI 15).toBitVec.getLsbD i = decide (i < 4) := by
  show (BitVec.ofNat 32 15).getLsbD i = _
  rw [BitVec.getLsbD_ofNat, decide_eq_true hi, Bool.true_and, show (15 : Nat) = 2 ^ 4 - 1 from rfl, Nat.testBit_two_pow_sub_one]
theorem hx_s (x : Int32) {k : Nat} (hk : k ≤ 28) : (x >>> (nI k &&& 31)) &&& nI 15 = nI (hxD x k) := by
  apply Int32.toBitVec_inj.1
  apply BitVec.eq_of_getLsbD_eq
  intro i hi
  rw [hx_bit x k i hi hk]
  have e := b_sshr k (by omega) x hi
  unfold bt at e
  rw [Int32.toBitVec_and, BitVec.getLsbD_and, hx_15 i hi, e]
  by_cases h4 : i < 4
  · rw [if_pos (by omega), Bool.and_comm]
  · simp [h4]
theorem hx_u (x : Int32) {k : Nat} (hk : k ≤ 28) : (x.toUInt32 >>> ((nI k).toUInt32 &&& Int32.toUInt32 31)).toInt32 &&& nI 15 = nI (hxD x k) := by
  apply Int32.toBitVec_inj.1
  apply BitVec.eq_of_getLsbD_eq
  intro i hi
  rw [hx_bit x k i hi hk]
  show (x.toBitVec >>> (((nI k).toUInt32 &&& Int32.toUInt32 31).toBitVec % 32) &&& (nI 15).toBitVec).getLsbD i = _
  rw [BitVec.getLsbD_and, hx_15 i hi, BitVec.ushiftRight_eq', s_u k (by omega), BitVec.getLsbD_ushiftRight, Bool.and_comm]
def hdT (x : Nat → Int32) : Nat → List Nat
  | 0 => []
  | i + 1 => hdT x i ++ [dgt (hxD (x (i / 8)) (28 - 4 * (i % 8)))]
section SK
variable {sc : xm_Sc} {d pp n hx : Nat} {l : List Nat} {h : xm_H} {post : xm_Po}
theorem sp_writeHidden {x : Nat → Int32} (hF : XF h) (hpp : pp = 52 ∨ pp = 77) (hn : n < 400) (hx8 : hx < 255) (h4 : h.1 (pp + 4) n = nI (8 * hx)) (hw : ∀ k, k < 8 → h.1 (pp + 11) (8 * hx + k) = x k) (hl : penIs h l) (hp : ∀ h', Fr [6] [(5, 1), (5, 2)] h h' → penIs h' (l ++ hdT x 64) → post none h') : xm_T (XE sc) (d + 3) 114 [.ref pp, .int (nI n), .ref 5] h post := by
  have hq : pp + 4 ∉ [6] ∧ pp + 11 ∉ [6] := by rcases hpp with rfl | rfl <;> decide
  have key : ∀ (y z : Nat) (h1 : xm_H), z + y = 64 → Fr [6] [(5, 1), (5, 2)] h h1 → penIs h1 (l ++ hdT x z) → xm_go (XE sc) (xm_T (XE sc) (d + 2)) 114 post 2 [(3, .int (nI z)), (0, .ref pp), (1, .int (nI n)), (2, .ref 5)] [] h1 := by
    intro y
    induction y with
    | zero =>
      intro z h1 hz f1 p1
      have : z = 64 := by omega
      subst this
      with_reducible refine xm_go_blk b_X6_writeHidden_2 k_X6_writeHidden_2 ?_
      refine by_iload_n rfl ?_
      refine by_bipush cb_64 ?_
      refine by_ic_ge 46 rfl ?_
      simp (disch := first | exact Nat.ne_of_beq_eq_false rfl | exact rfl | omega) only [nI_add, xa_sub, xa_mul, pk_div, nm_mod, xa_shr, xa_and7, xa_and1, xa_and255, xa_by_and, nI_m1, Nat.add_sub_cancel, Nat.reducePow, Nat.zero_add, Nat.add_zero, Nat.reduceAdd, Nat.reduceMul, Nat.reduceSub, xf_same, xq_ff, xq_fo, xf_1, xf_2, xs_1, xs_2, xs_same, xq_so, xj_1, xj_2, xj_same, xq_jo, xq_sa1, xq_same, xq_other, upd_s, oI_n, oI_s, xv_0, xv_1, xv_2, xv_3, xm_p1, xm_p2, xq_fp, xq_fn, List.filter_nil, Nat.reduceBEq, Bool.not_true, Bool.not_false, Bool.and_true, Bool.and_false, Bool.false_and, Bool.true_and, if_true, if_false, Bool.false_eq_true, reduceIte, xc_i, xc_j, xc_r, xc_n, List.nil_append, List.cons_append, Option.toList_some, Option.toList_none, nI_ltJ, nI_leJ, nI_eqJ, nI_ltz, nI_gez, nI_gtz, nI_lez, nI_eqz, m1_ltz, m1_gez, true_imp_iff, false_imp_iff, true_and, and_true, ne_eq, not_false_eq_true, not_true_eq_false, Nat.reduceEqDiff, Nat.reduceLT, Nat.reduceLeDiff]
      with_reducible refine xm_go_blk b_X6_writeHidden_46 k_X6_writeHidden_46 ?_
      refine by_ret ry_114 ?_
      exact hp h1 f1 p1
    | succ y ih =>
      intro z h1 hz f1 p1
      have F1 := Fr_XF hF f1 (by decide +kernel)
      have a4 : h1.1 (pp + 4) n = nI (8 * hx) := by rw [f1.1 _ hq.1]; exact h4
      have aw : h1.1 (pp + 11) (8 * hx + z / 8) = x (z / 8) := by rw [f1.1 _ hq.2]; exact hw _ (by omega)
      have hu := hx_u (x (z / 8)) (k := 28 - 4 * (z % 8)) (by omega)
      have hdl : hxD (x (z / 8)) (28 - 4 * (z % 8)) < 16 := Nat.mod_lt _ (by decide)
      with_reducible refine xm_go_blk b_X6_writeHidden_2 k_X6_writeHidden_2 ?_
      refine by_iload_n rfl ?_
      refine by_bipush cb_64 ?_
      refine by_ic_ge 46 rfl ?_
      simp (disch := first | exact Nat.ne_of_beq_eq_false rfl | exact rfl | omega) only [nI_add, xa_sub, xa_mul, pk_div, nm_mod, xa_shr, xa_and7, xa_and1, xa_and255, xa_by_and, nI_m1, Nat.add_sub_cancel, Nat.reducePow, Nat.zero_add, Nat.add_zero, Nat.reduceAdd, Nat.reduceMul, Nat.reduceSub, xf_same, xq_ff, xq_fo, xf_1, xf_2, xs_1, xs_2, xs_same, xq_so, xj_1, xj_2, xj_same, xq_jo, xq_sa1, xq_same, xq_other, upd_s, oI_n, oI_s, xv_0, xv_1, xv_2, xv_3, xm_p1, xm_p2, xq_fp, xq_fn, List.filter_nil, Nat.reduceBEq, Bool.not_true, Bool.not_false, Bool.and_true, Bool.and_false, Bool.false_and, Bool.true_and, if_true, if_false, Bool.false_eq_true, reduceIte, xc_i, xc_j, xc_r, xc_n, List.nil_append, List.cons_append, Option.toList_some, Option.toList_none, nI_ltJ, nI_leJ, nI_eqJ, nI_ltz, nI_gez, nI_gtz, nI_lez, nI_eqz, m1_ltz, m1_gez, true_imp_iff, false_imp_iff, true_and, and_true, ne_eq, not_false_eq_true, not_true_eq_false, Nat.reduceEqDiff, Nat.reduceLT, Nat.reduceLeDiff, pf_11 F1 hpp, pf_4 F1 hpp, a4, aw, hu]
      refine ⟨fun c => absurd c (by omega), fun c2 => ?_⟩
      with_reducible refine xm_go_blk b_X6_writeHidden_8 k_X6_writeHidden_8 ?_
      refine by_aload_n rfl ?_
      refine by_aload_n rfl ?_
      refine by_getf cn_114 fl_6_42 (by first | exact rfl | assumption | exact ps_0 hpp) (by decide) ?_
      refine by_aload_n rfl ?_
      refine by_getf cn_114 fl_6_21 (by first | exact rfl | assumption | exact ps_0 hpp) (by decide) ?_
      refine by_iload_n rfl ?_
      simp (disch := first | exact Nat.ne_of_beq_eq_false rfl | exact rfl | omega) only [nI_add, xa_sub, xa_mul, pk_div, nm_mod, xa_shr, xa_and7, xa_and1, xa_and255, xa_by_and, nI_m1, Nat.add_sub_cancel, Nat.reducePow, Nat.zero_add, Nat.add_zero, Nat.reduceAdd, Nat.reduceMul, Nat.reduceSub, xf_same, xq_ff, xq_fo, xf_1, xf_2, xs_1, xs_2, xs_same, xq_so, xj_1, xj_2, xj_same, xq_jo, xq_sa1, xq_same, xq_other, upd_s, oI_n, oI_s, pf_11 F1 hpp, pf_4 F1 hpp, a4, aw, hu]
      first | refine by_iald (by first | exact rfl | assumption | exact ps_1 hpp | exact ps_2 hpp | exact ps_3 hpp | exact ps_4 hpp | exact ps_5 hpp | exact ps_6 hpp | exact ps_7 hpp | exact ps_8 hpp | exact ps_9 hpp | exact ps_10 hpp | exact ps_11 hpp | exact ps_15 hpp | exact ps_16 hpp | exact ps_17 hpp | exact ps_18 hpp | exact ps_19 hpp | exact ps_21 hpp | exact ps_22 hpp | exact ps_23 hpp | exact ps_24 hpp) ⟨by omega, by omega⟩ ?_ | refine by_tald rfl rfl ⟨by omega, by omega⟩ ?_
      refine by_iload_n rfl ?_
      refine by_iconst ci_3 ?_
      refine by_ishr ?_
      refine by_iadd ?_
      simp (disch := first | exact Nat.ne_of_beq_eq_false rfl | exact rfl | omega) only [nI_add, xa_sub, xa_mul, pk_div, nm_mod, xa_shr, xa_and7, xa_and1, xa_and255, xa_by_and, nI_m1, Nat.add_sub_cancel, Nat.reducePow, Nat.zero_add, Nat.add_zero, Nat.reduceAdd, Nat.reduceMul, Nat.reduceSub, xf_same, xq_ff, xq_fo, xf_1, xf_2, xs_1, xs_2, xs_same, xq_so, xj_1, xj_2, xj_same, xq_jo, xq_sa1, xq_same, xq_other, upd_s, oI_n, oI_s, pf_11 F1 hpp, pf_4 F1 hpp, a4, aw, hu]
      first | refine by_iald (by first | exact rfl | assumption | exact ps_1 hpp | exact ps_2 hpp | exact ps_3 hpp | exact ps_4 hpp | exact ps_5 hpp | exact ps_6 hpp | exact ps_7 hpp | exact ps_8 hpp | exact ps_9 hpp | exact ps_10 hpp | exact ps_11 hpp | exact ps_15 hpp | exact ps_16 hpp | exact ps_17 hpp | exact ps_18 hpp | exact ps_19 hpp | exact ps_21 hpp | exact ps_22 hpp | exact ps_23 hpp | exact ps_24 hpp) ⟨by omega, by omega⟩ ?_ | refine by_tald rfl rfl ⟨by omega, by omega⟩ ?_
      refine by_bipush cb_28 ?_
      refine by_iconst ci_4 ?_
      refine by_iload_n rfl ?_
      refine by_bipush cb_7 ?_
      refine by_iand ?_
      refine by_imul ?_
      refine by_isub ?_
      refine by_iushr ?_
      refine by_bipush cb_15 ?_
      refine by_iand ?_
      simp (disch := first | exact Nat.ne_of_beq_eq_false rfl | exact rfl | omega) only [nI_add, xa_sub, xa_mul, pk_div, nm_mod, xa_shr, xa_and7, xa_and1, xa_and255, xa_by_and, nI_m1, Nat.add_sub_cancel, Nat.reducePow, Nat.zero_add, Nat.add_zero, Nat.reduceAdd, Nat.reduceMul, Nat.reduceSub, xf_same, xq_ff, xq_fo, xf_1, xf_2, xs_1, xs_2, xs_same, xq_so, xj_1, xj_2, xj_same, xq_jo, xq_sa1, xq_same, xq_other, upd_s, oI_n, oI_s, xv_0, xv_1, xv_2, xv_3, xm_p1, xm_p2, xq_fp, xq_fn, List.filter_nil, Nat.reduceBEq, Bool.not_true, Bool.not_false, Bool.and_true, Bool.and_false, Bool.false_and, Bool.true_and, if_true, if_false, Bool.false_eq_true, reduceIte, xc_i, xc_j, xc_r, xc_n, List.nil_append, List.cons_append, Option.toList_some, Option.toList_none, pf_11 F1 hpp, pf_4 F1 hpp, a4, aw, hu]
      refine by_inv1 cn_114 lk_6_154 (by rw [xe_cnt]; decide) is_136 np_136 cn_136 (by first | exact rfl | assumption | exact ps_12 hpp) (Nat.le_of_ble_eq_true rfl) ?_
      refine sp_putDigit F1 p1 hdl (fun h2 f2 p2 => ?_)
      with_reducible refine xm_go_blk b_X6_writeHidden_40 k_X6_writeHidden_40 ?_
      refine by_iinc (by rw [ml_114]; decide) rfl ci_1 ?_
      refine by_goto 2 rfl ?_
      try simp (disch := first | exact Nat.ne_of_beq_eq_false rfl | exact rfl | omega) only [nI_add, xa_sub, xa_mul, pk_div, nm_mod, xa_shr, xa_and7, xa_and1, xa_and255, xa_by_and, nI_m1, Nat.add_sub_cancel, Nat.reducePow, Nat.zero_add, Nat.add_zero, Nat.reduceAdd, Nat.reduceMul, Nat.reduceSub, xf_same, xq_ff, xq_fo, xf_1, xf_2, xs_1, xs_2, xs_same, xq_so, xj_1, xj_2, xj_same, xq_jo, xq_sa1, xq_same, xq_other, upd_s, oI_n, oI_s, xv_0, xv_1, xv_2, xv_3, xm_p1, xm_p2, xq_fp, xq_fn, List.filter_nil, Nat.reduceBEq, Bool.not_true, Bool.not_false, Bool.and_true, Bool.and_false, Bool.false_and, Bool.true_and, if_true, if_false, Bool.false_eq_true, reduceIte, xc_i, xc_j, xc_r, xc_n, List.nil_append, List.cons_append, Option.toList_some, Option.toList_none]
      rw [List.append_assoc] at p2
      exact xm_go_wk (by simp [Value.category]) (ih (z + 1) h2 (by omega) (Fr_tr f1 f2 (fun _ z => z) (fun _ z => z)) p2)
  refine xq_in rfl ?_
  simp only [xq_a0, xq_aI, xq_aJ, xq_aR, Nat.reduceAdd]
  with_reducible refine xm_go_blk b_X6_writeHidden_0 k_X6_writeHidden_0 ?_
  refine by_iconst ci_0 ?_
  refine by_istore_n (by rw [ml_114]; decide) ?_
  refine by_nil ?_
  try simp (disch := first | exact Nat.ne_of_beq_eq_false rfl | exact rfl | omega) only [nI_add, xa_sub, xa_mul, pk_div, nm_mod, xa_shr, xa_and7, xa_and1, xa_and255, xa_by_and, nI_m1, Nat.add_sub_cancel, Nat.reducePow, Nat.zero_add, Nat.add_zero, Nat.reduceAdd, Nat.reduceMul, Nat.reduceSub, xf_same, xq_ff, xq_fo, xf_1, xf_2, xs_1, xs_2, xs_same, xq_so, xj_1, xj_2, xj_same, xq_jo, xq_sa1, xq_same, xq_other, upd_s, oI_n, oI_s, xv_0, xv_1, xv_2, xv_3, xm_p1, xm_p2, xq_fp, xq_fn, List.filter_nil, Nat.reduceBEq, Bool.not_true, Bool.not_false, Bool.and_true, Bool.and_false, Bool.false_and, Bool.true_and, if_true, if_false, Bool.false_eq_true, reduceIte, xc_i, xc_j, xc_r, xc_n, List.nil_append, List.cons_append, Option.toList_some, Option.toList_none]
  exact xm_go_wk (by simp [Value.category]) (key 64 0 h (by omega) Fr_rf (by rw [show hdT x 0 = [] from rfl, List.append_nil]; exact hl))
end SK
