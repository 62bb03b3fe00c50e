/-! ===== mixing words: as both programs do it ===== -/
def ush (x : Int32) (n : Nat) : Int32 := (x.toUInt32 >>> ((nI n).toUInt32 &&& Int32.toUInt32 31)).toInt32
def tnR (x : Int32) (n : Nat) : Int32 := (x.toUInt32 >>> ((nI n).toUInt32 &&& Int32.toUInt32 31)).toInt32 ||| x <<< (nI (32 - n) &&& 31)
def shS (w : Nat → Int32) (t : Nat) : Int32 := (((tnR (w (t - 2)) 17 ^^^ tnR (w (t - 2)) 19) ^^^ ush (w (t - 2)) 10) + w (t - 7) + ((tnR (w (t - 15)) 7 ^^^ tnR (w (t - 15)) 18) ^^^ ush (w (t - 15)) 3)) + w (t - 16)
def shX (w : Nat → Int32) : Nat → Nat → Int32
  | 0 => w
  | j + 1 => upd (shX w j) (16 + j) (shS (shX w j) (16 + j))
def sh1 (L : Nat → Int32) (k w : Int32) : Int32 := L 7 + ((tnR (L 4) 6 ^^^ tnR (L 4) 11) ^^^ tnR (L 4) 25) + ((L 4 &&& L 5) ^^^ ((L 4 ^^^ -1) &&& L 6)) + k + w
def sh2 (L : Nat → Int32) : Int32 := ((tnR (L 0) 2 ^^^ tnR (L 0) 13) ^^^ tnR (L 0) 22) + (((L 0 &&& L 1) ^^^ (L 0 &&& L 2)) ^^^ (L 1 &&& L 2))
def shN (L : Nat → Int32) (k w : Int32) : Nat → Int32 := fun i => if i = 0 then sh1 L k w + sh2 L else if i = 4 then L 3 + sh1 L k w else L (i - 1)
def shR (K w L : Nat → Int32) : Nat → Nat → Int32
  | 0 => L
  | t + 1 => shN (shR K w L t) (K t) (w t)
def shC (K st w : Nat → Int32) : Nat → Int32 := fun k => st k + shR K (shX w 48) st 64 k
section SH
variable {sc : xm_Sc} {d : Nat} {h : xm_H} {post : xm_Po}
theorem sp_turned {x : Int32} {n : Nat} (hn : n ≤ 32) (hp : post (some (.int (tnR x n))) h) : xm_T (XE sc) (d + 1) 311 [.int x, .int (nI n)] h post := by
  refine xq_in rfl ?_
  simp only [xq_a0, xq_aI, xq_aJ, xq_aR, Nat.reduceAdd]
  with_reducible refine xm_go_blk b_X12_turned_0 k_X12_turned_0 ?_
  refine by_iload_n rfl ?_
  refine by_iload_n rfl ?_
  refine by_iushr ?_
  refine by_iload_n rfl ?_
  refine by_bipush cb_32 ?_
  refine by_iload_n rfl ?_
  refine by_isub ?_
  refine by_ishl ?_
  refine by_ior ?_
  simp (disch := first | exact Nat.ne_of_beq_eq_false rfl | exact rfl | omega) only [nI_add, xa_sub, xa_mul, pk_div, nm_mod, xa_shr, xa_and7, xa_and1, xa_and255, xa_by_and, nI_m1, Nat.add_sub_cancel, Nat.reducePow, Nat.zero_add, Nat.add_zero, Nat.reduceAdd, Nat.reduceMul, Nat.reduceSub, xf_same, xq_ff, xq_fo, xf_1, xf_2, xs_1, xs_2, xs_same, xq_so, xj_1, xj_2, xj_same, xq_jo, xq_sa1, xq_same, xq_other, upd_s, oI_n, oI_s]
  refine by_iret ry_311 (by first | rfl | assumption) ?_
  exact hp
theorem sp_turn {x : Int32} {n : Nat} (hn : n ≤ 32) (hp : post (some (.int (tnR x n))) h) : xm_T (XE sc) (d + 1) 124 [.int x, .int (nI n)] h post := by
  refine xq_in rfl ?_
  simp only [xq_a0, xq_aI, xq_aJ, xq_aR, Nat.reduceAdd]
  with_reducible refine xm_go_blk b_X7_turn_0 k_X7_turn_0 ?_
  refine by_iload_n rfl ?_
  refine by_iload_n rfl ?_
  refine by_iushr ?_
  refine by_iload_n rfl ?_
  refine by_bipush cb_32 ?_
  refine by_iload_n rfl ?_
  refine by_isub ?_
  refine by_ishl ?_
  refine by_ior ?_
  simp (disch := first | exact Nat.ne_of_beq_eq_false rfl | exact rfl | omega) only [nI_add, xa_sub, xa_mul, pk_div, nm_mod, xa_shr, xa_and7, xa_and1, xa_and255, xa_by_and, nI_m1, Nat.add_sub_cancel, Nat.reducePow, Nat.zero_add, Nat.add_zero, Nat.reduceAdd, Nat.reduceMul, Nat.reduceSub, xf_same, xq_ff, xq_fo, xf_1, xf_2, xs_1, xs_2, xs_same, xq_so, xj_1, xj_2, xj_same, xq_jo, xq_sa1, xq_same, xq_other, upd_s, oI_n, oI_s]
  refine by_iret ry_124 (by first | rfl | assumption) ?_
  exact hp
theorem mx_3 {w : Nat → Int32} (hF : XF h) (hgo : ∀ h', Fr [149] [] h h' → h'.1 149 = shX w 48 → xm_go (XE sc) (xm_T (XE sc) (d + 1)) 263 post 104 [(0, .ref 102)] [] h') :
    ∀ (j i : Nat) (h' : xm_H), i + j = 48 → Fr [149] [] h h' → h'.1 149 = shX w i → xm_go (XE sc) (xm_T (XE sc) (d + 1)) 263 post 3 [(1, .int (nI (16 + i))), (0, .ref 102)] [] h' := by
  intro j
  induction j with
  | zero =>
    intro i h' hi hf hw
    have : i = 48 := by omega
    subst this
    with_reducible refine xm_go_blk b_X12_mix_3 k_X12_mix_3 ?_
    refine by_iload_n rfl ?_
    refine by_bipush cb_64 ?_
    refine by_ic_ge 104 rfl ?_
    simp (disch := first | exact Nat.ne_of_beq_eq_false rfl | exact rfl | omega) only [nI_add, xa_sub, xa_mul, pk_div, nm_mod, xa_shr, xa_and7, xa_and1, xa_and255, xa_by_and, nI_m1, Nat.add_sub_cancel, Nat.reducePow, Nat.zero_add, Nat.add_zero, Nat.reduceAdd, Nat.reduceMul, Nat.reduceSub, xf_same, xq_ff, xq_fo, xf_1, xf_2, xs_1, xs_2, xs_same, xq_so, xj_1, xj_2, xj_same, xq_jo, xq_sa1, xq_same, xq_other, upd_s, oI_n, oI_s, xv_0, xv_1, xv_2, xv_3, xm_p1, xm_p2, xq_fp, xq_fn, List.filter_nil, Nat.reduceBEq, Bool.not_true, Bool.not_false, Bool.and_true, Bool.and_false, Bool.false_and, Bool.true_and, if_true, if_false, Bool.false_eq_true, reduceIte, xc_i, xc_j, xc_r, xc_n, List.nil_append, List.cons_append, Option.toList_some, Option.toList_none, nI_ltJ, nI_leJ, nI_eqJ, nI_ltz, nI_gez, nI_gtz, nI_lez, nI_eqz, m1_ltz, m1_gez, true_imp_iff, false_imp_iff, true_and, and_true, ne_eq, not_false_eq_true, not_true_eq_false, Nat.reduceEqDiff, Nat.reduceLT, Nat.reduceLeDiff]
    exact xm_go_wk (by simp [Value.category]) (hgo h' hf hw)
  | succ j ih =>
    intro i h' hi hf hw
    have F1 : XF h' := Fr_XF hF hf (by decide +kernel)
    have hg := ih (i + 1) (xm_si h' 149 (16 + i) (shS (shX w i) (16 + i))) (by omega) (Fr_si hf (by simp)) (by rw [xs_same, hw]; rfl)
    unfold shS at hg
    rw [← hw] at hg
    unfold ush at hg
    generalize ht : 16 + i = t at *
    with_reducible refine xm_go_blk b_X12_mix_3 k_X12_mix_3 ?_
    refine by_iload_n rfl ?_
    refine by_bipush cb_64 ?_
    refine by_ic_ge 104 rfl ?_
    simp (disch := first | exact Nat.ne_of_beq_eq_false rfl | exact rfl | omega) only [nI_add, xa_sub, xa_mul, pk_div, nm_mod, xa_shr, xa_and7, xa_and1, xa_and255, xa_by_and, nI_m1, Nat.add_sub_cancel, Nat.reducePow, Nat.zero_add, Nat.add_zero, Nat.reduceAdd, Nat.reduceMul, Nat.reduceSub, xf_same, xq_ff, xq_fo, xf_1, xf_2, xs_1, xs_2, xs_same, xq_so, xj_1, xj_2, xj_same, xq_jo, xq_sa1, xq_same, xq_other, upd_s, oI_n, oI_s, xv_0, xv_1, xv_2, xv_3, xm_p1, xm_p2, xq_fp, xq_fn, List.filter_nil, Nat.reduceBEq, Bool.not_true, Bool.not_false, Bool.and_true, Bool.and_false, Bool.false_and, Bool.true_and, if_true, if_false, Bool.false_eq_true, reduceIte, xc_i, xc_j, xc_r, xc_n, List.nil_append, List.cons_append, Option.toList_some, Option.toList_none, nI_ltJ, nI_leJ, nI_eqJ, nI_ltz, nI_gez, nI_gtz, nI_lez, nI_eqz, m1_ltz, m1_gez, true_imp_iff, false_imp_iff, true_and, and_true, ne_eq, not_false_eq_true, not_true_eq_false, Nat.reduceEqDiff, Nat.reduceLT, Nat.reduceLeDiff, xf_102_63 F1]
    refine ⟨fun c => absurd c (by omega), fun c3 => ?_⟩
    with_reducible refine xm_go_blk b_X12_mix_9 k_X12_mix_9 ?_
    refine by_aload_n rfl ?_
    refine by_getf cn_263 fl_12_154 (by first | exact rfl | assumption) (by decide) ?_
    refine by_iload_n rfl ?_
    refine by_bipush cb_15 ?_
    refine by_isub ?_
    simp (disch := first | exact Nat.ne_of_beq_eq_false rfl | exact rfl | omega) only [nI_add, xa_sub, xa_mul, pk_div, nm_mod, xa_shr, xa_and7, xa_and1, xa_and255, xa_by_and, nI_m1, Nat.add_sub_cancel, Nat.reducePow, Nat.zero_add, Nat.add_zero, Nat.reduceAdd, Nat.reduceMul, Nat.reduceSub, xf_same, xq_ff, xq_fo, xf_1, xf_2, xs_1, xs_2, xs_same, xq_so, xj_1, xj_2, xj_same, xq_jo, xq_sa1, xq_same, xq_other, upd_s, oI_n, oI_s, xf_102_63 F1]
    first | refine by_iald (by first | exact rfl | assumption | exact ps_1 hpp | exact ps_2 hpp | exact ps_3 hpp | exact ps_4 hpp | exact ps_5 hpp | exact ps_6 hpp | exact ps_7 hpp | exact ps_8 hpp | exact ps_9 hpp | exact ps_10 hpp | exact ps_11 hpp | exact ps_15 hpp | exact ps_16 hpp | exact ps_17 hpp | exact ps_18 hpp | exact ps_19 hpp | exact ps_21 hpp | exact ps_22 hpp | exact ps_23 hpp | exact ps_24 hpp) ⟨by omega, by omega⟩ ?_ | refine by_tald rfl rfl ⟨by omega, by omega⟩ ?_
    refine by_istore_n (by rw [ml_263]; decide) ?_
    refine by_aload_n rfl ?_
    refine by_getf cn_263 fl_12_154 (by first | exact rfl | assumption) (by decide) ?_
    refine by_iload_n rfl ?_
    refine by_iconst ci_2 ?_
    refine by_isub ?_
    simp (disch := first | exact Nat.ne_of_beq_eq_false rfl | exact rfl | omega) only [nI_add, xa_sub, xa_mul, pk_div, nm_mod, xa_shr, xa_and7, xa_and1, xa_and255, xa_by_and, nI_m1, Nat.add_sub_cancel, Nat.reducePow, Nat.zero_add, Nat.add_zero, Nat.reduceAdd, Nat.reduceMul, Nat.reduceSub, xf_same, xq_ff, xq_fo, xf_1, xf_2, xs_1, xs_2, xs_same, xq_so, xj_1, xj_2, xj_same, xq_jo, xq_sa1, xq_same, xq_other, upd_s, oI_n, oI_s, xf_102_63 F1]
    first | refine by_iald (by first | exact rfl | assumption | exact ps_1 hpp | exact ps_2 hpp | exact ps_3 hpp | exact ps_4 hpp | exact ps_5 hpp | exact ps_6 hpp | exact ps_7 hpp | exact ps_8 hpp | exact ps_9 hpp | exact ps_10 hpp | exact ps_11 hpp | exact ps_15 hpp | exact ps_16 hpp | exact ps_17 hpp | exact ps_18 hpp | exact ps_19 hpp | exact ps_21 hpp | exact ps_22 hpp | exact ps_23 hpp | exact ps_24 hpp) ⟨by omega, by omega⟩ ?_ | refine by_tald rfl rfl ⟨by omega, by omega⟩ ?_
    refine by_istore_n (by rw [ml_263]; decide) ?_
    refine by_iload_n rfl ?_
    refine by_bipush cb_7 ?_
    simp (disch := first | exact Nat.ne_of_beq_eq_false rfl | exact rfl | omega) only [nI_add, xa_sub, xa_mul, pk_div, nm_mod, xa_shr, xa_and7, xa_and1, xa_and255, xa_by_and, nI_m1, Nat.add_sub_cancel, Nat.reducePow, Nat.zero_add, Nat.add_zero, Nat.reduceAdd, Nat.reduceMul, Nat.reduceSub, xf_same, xq_ff, xq_fo, xf_1, xf_2, xs_1, xs_2, xs_same, xq_so, xj_1, xj_2, xj_same, xq_jo, xq_sa1, xq_same, xq_other, upd_s, oI_n, oI_s, xv_0, xv_1, xv_2, xv_3, xm_p1, xm_p2, xq_fp, xq_fn, List.filter_nil, Nat.reduceBEq, Bool.not_true, Bool.not_false, Bool.and_true, Bool.and_false, Bool.false_and, Bool.true_and, if_true, if_false, Bool.false_eq_true, reduceIte, xc_i, xc_j, xc_r, xc_n, List.nil_append, List.cons_append, Option.toList_some, Option.toList_none, xf_102_63 F1]
    refine by_ins2 cn_263 lk_12_311 (by rw [xe_cnt]; decide) is_311 np_311 (Nat.le_of_ble_eq_true rfl) ?_
    refine sp_turned (by decide) ?_
    with_reducible refine xm_go_blk b_X12_mix_34 k_X12_mix_34 ?_
    refine by_iload_n rfl ?_
    refine by_bipush cb_18 ?_
    refine by_ins2 cn_263 lk_12_311 (by rw [xe_cnt]; decide) is_311 np_311 (Nat.le_of_ble_eq_true rfl) ?_
    refine sp_turned (by decide) ?_
    with_reducible refine xm_go_blk b_X12_mix_40 k_X12_mix_40 ?_
    refine by_ixor ?_
    refine by_iload_n rfl ?_
    refine by_iconst ci_3 ?_
    refine by_iushr ?_
    refine by_ixor ?_
    refine by_istore (by rw [ml_263]; decide) ?_
    refine by_iload_n rfl ?_
    refine by_bipush cb_17 ?_
    simp (disch := first | exact Nat.ne_of_beq_eq_false rfl | exact rfl | omega) only [nI_add, xa_sub, xa_mul, pk_div, nm_mod, xa_shr, xa_and7, xa_and1, xa_and255, xa_by_and, nI_m1, Nat.add_sub_cancel, Nat.reducePow, Nat.zero_add, Nat.add_zero, Nat.reduceAdd, Nat.reduceMul, Nat.reduceSub, xf_same, xq_ff, xq_fo, xf_1, xf_2, xs_1, xs_2, xs_same, xq_so, xj_1, xj_2, xj_same, xq_jo, xq_sa1, xq_same, xq_other, upd_s, oI_n, oI_s, xv_0, xv_1, xv_2, xv_3, xm_p1, xm_p2, xq_fp, xq_fn, List.filter_nil, Nat.reduceBEq, Bool.not_true, Bool.not_false, Bool.and_true, Bool.and_false, Bool.false_and, Bool.true_and, if_true, if_false, Bool.false_eq_true, reduceIte, xc_i, xc_j, xc_r, xc_n, List.nil_append, List.cons_append, Option.toList_some, Option.toList_none]
    refine by_ins2 cn_263 lk_12_311 (by rw [xe_cnt]; decide) is_311 np_311 (Nat.le_of_ble_eq_true rfl) ?_
    refine sp_turned (by decide) ?_
    with_reducible refine xm_go_blk b_X12_mix_53 k_X12_mix_53 ?_
    refine by_iload_n rfl ?_
    refine by_bipush cb_19 ?_
    refine by_ins2 cn_263 lk_12_311 (by rw [xe_cnt]; decide) is_311 np_311 (Nat.le_of_ble_eq_true rfl) ?_
    refine sp_turned (by decide) ?_
    with_reducible refine xm_go_blk b_X12_mix_59 k_X12_mix_59 ?_
    refine by_ixor ?_
    refine by_iload_n rfl ?_
    refine by_bipush cb_10 ?_
    refine by_iushr ?_
    refine by_ixor ?_
    refine by_istore (by rw [ml_263]; decide) ?_
    refine by_aload_n rfl ?_
    refine by_getf cn_263 fl_12_154 (by first | exact rfl | assumption) (by decide) ?_
    refine by_iload_n rfl ?_
    refine by_iload rfl ?_
    refine by_aload_n rfl ?_
    refine by_getf cn_263 fl_12_154 (by first | exact rfl | assumption) (by decide) ?_
    refine by_iload_n rfl ?_
    refine by_bipush cb_7 ?_
    refine by_isub ?_
    simp (disch := first | exact Nat.ne_of_beq_eq_false rfl | exact rfl | omega) only [nI_add, xa_sub, xa_mul, pk_div, nm_mod, xa_shr, xa_and7, xa_and1, xa_and255, xa_by_and, nI_m1, Nat.add_sub_cancel, Nat.reducePow, Nat.zero_add, Nat.add_zero, Nat.reduceAdd, Nat.reduceMul, Nat.reduceSub, xf_same, xq_ff, xq_fo, xf_1, xf_2, xs_1, xs_2, xs_same, xq_so, xj_1, xj_2, xj_same, xq_jo, xq_sa1, xq_same, xq_other, upd_s, oI_n, oI_s, xf_102_63 F1]
    first | refine by_iald (by first | exact rfl | assumption | exact ps_1 hpp | exact ps_2 hpp | exact ps_3 hpp | exact ps_4 hpp | exact ps_5 hpp | exact ps_6 hpp | exact ps_7 hpp | exact ps_8 hpp | exact ps_9 hpp | exact ps_10 hpp | exact ps_11 hpp | exact ps_15 hpp | exact ps_16 hpp | exact ps_17 hpp | exact ps_18 hpp | exact ps_19 hpp | exact ps_21 hpp | exact ps_22 hpp | exact ps_23 hpp | exact ps_24 hpp) ⟨by omega, by omega⟩ ?_ | refine by_tald rfl rfl ⟨by omega, by omega⟩ ?_
    refine by_iadd ?_
    refine by_iload rfl ?_
    refine by_iadd ?_
    refine by_aload_n rfl ?_
    refine by_getf cn_263 fl_12_154 (by first | exact rfl | assumption) (by decide) ?_
    refine by_iload_n rfl ?_
    refine by_bipush cb_16 ?_
    refine by_isub ?_
    simp (disch := first | exact Nat.ne_of_beq_eq_false rfl | exact rfl | omega) only [nI_add, xa_sub, xa_mul, pk_div, nm_mod, xa_shr, xa_and7, xa_and1, xa_and255, xa_by_and, nI_m1, Nat.add_sub_cancel, Nat.reducePow, Nat.zero_add, Nat.add_zero, Nat.reduceAdd, Nat.reduceMul, Nat.reduceSub, xf_same, xq_ff, xq_fo, xf_1, xf_2, xs_1, xs_2, xs_same, xq_so, xj_1, xj_2, xj_same, xq_jo, xq_sa1, xq_same, xq_other, upd_s, oI_n, oI_s, xf_102_63 F1]
    first | refine by_iald (by first | exact rfl | assumption | exact ps_1 hpp | exact ps_2 hpp | exact ps_3 hpp | exact ps_4 hpp | exact ps_5 hpp | exact ps_6 hpp | exact ps_7 hpp | exact ps_8 hpp | exact ps_9 hpp | exact ps_10 hpp | exact ps_11 hpp | exact ps_15 hpp | exact ps_16 hpp | exact ps_17 hpp | exact ps_18 hpp | exact ps_19 hpp | exact ps_21 hpp | exact ps_22 hpp | exact ps_23 hpp | exact ps_24 hpp) ⟨by omega, by omega⟩ ?_ | refine by_tald rfl rfl ⟨by omega, by omega⟩ ?_
    refine by_iadd ?_
    refine by_iast (by first | exact rfl | assumption | exact ps_1 hpp | exact ps_2 hpp | exact ps_3 hpp | exact ps_4 hpp | exact ps_5 hpp | exact ps_6 hpp | exact ps_7 hpp | exact ps_8 hpp | exact ps_9 hpp | exact ps_10 hpp | exact ps_11 hpp | exact ps_15 hpp | exact ps_16 hpp | exact ps_17 hpp | exact ps_18 hpp | exact ps_19 hpp | exact ps_21 hpp | exact ps_22 hpp | exact ps_23 hpp | exact ps_24 hpp) ⟨by omega, by omega⟩ ?_
    refine by_iinc (by rw [ml_263]; decide) rfl ci_1 ?_
    refine by_goto 3 rfl ?_
    simp (disch := first | exact Nat.ne_of_beq_eq_false rfl | exact rfl | omega) only [nI_add, xa_sub, xa_mul, pk_div, nm_mod, xa_shr, xa_and7, xa_and1, xa_and255, xa_by_and, nI_m1, Nat.add_sub_cancel, Nat.reducePow, Nat.zero_add, Nat.add_zero, Nat.reduceAdd, Nat.reduceMul, Nat.reduceSub, xf_same, xq_ff, xq_fo, xf_1, xf_2, xs_1, xs_2, xs_same, xq_so, xj_1, xj_2, xj_same, xq_jo, xq_sa1, xq_same, xq_other, upd_s, oI_n, oI_s, xv_0, xv_1, xv_2, xv_3, xm_p1, xm_p2, xq_fp, xq_fn, List.filter_nil, Nat.reduceBEq, Bool.not_true, Bool.not_false, Bool.and_true, Bool.and_false, Bool.false_and, Bool.true_and, if_true, if_false, Bool.false_eq_true, reduceIte, xc_i, xc_j, xc_r, xc_n, List.nil_append, List.cons_append, Option.toList_some, Option.toList_none, xf_102_63 F1]
    rw [show 16 + (i + 1) = t + 1 by omega] at hg
    exact xm_go_wk (by simp [Value.category]) hg
end SH
