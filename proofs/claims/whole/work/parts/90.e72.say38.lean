/-! ===== say: the nodes' bits, of the reference ===== -/
theorem h1_bit (x : Int32) (k i : Nat) (hi : i < 32) (hk : k < 32) : (nI (x.toBitVec.toNat / 2 ^ k % 2)).toBitVec.getLsbD i = (decide (i < 1) && x.toBitVec.getLsbD (k + i)) := by
  show (BitVec.ofNat 32 (x.toBitVec.toNat / 2 ^ k % 2)).getLsbD i = _
  rw [BitVec.getLsbD_ofNat, decide_eq_true hi, Bool.true_and]
  have e : x.toBitVec.toNat / 2 ^ k % 2 = x.toBitVec.toNat / 2 ^ k % 2 ^ 1 := rfl
  rw [e, Nat.testBit_mod_two_pow, Nat.testBit_div_two_pow, BitVec.getLsbD, Nat.add_comm]
theorem h1_1 (i : Nat) (hi : i < 32) : (nI 1).toBitVec.getLsbD i = decide (i < 1) := by
  show (BitVec.ofNat 32 1).getLsbD i = _
  have e : (1 : Nat) = 2 ^ 1 - 1 := rfl
  rw [BitVec.getLsbD_ofNat, decide_eq_true hi, Bool.true_and]
  conv => lhs; rw [e]
  rw [Nat.testBit_two_pow_sub_one]
theorem h1_s (x : Int32) {k : Nat} (hk : k < 32) : (x >>> (nI k &&& 31)) &&& nI 1 = nI (x.toBitVec.toNat / 2 ^ k % 2) := by
  apply Int32.toBitVec_inj.1
  apply BitVec.eq_of_getLsbD_eq
  intro i hi
  rw [h1_bit x k i hi hk]
  have e := b_sshr k (by omega) x hi
  unfold bt at e
  rw [Int32.toBitVec_and, BitVec.getLsbD_and, h1_1 i hi, e]
  by_cases h4 : i < 1
  · rw [if_pos (by omega), Bool.and_comm]
  · simp [h4]
theorem bit_w {w i : Nat} (hw : w < 4294967296) (hi : i < 32) : nI w >>> (nI i &&& 31) &&& nI 1 = nI (w / 2 ^ i % 2) ∧ w / 2 ^ i % 2 < 2 := by
  refine ⟨?_, Nat.mod_lt _ (by decide)⟩
  rw [h1_s (nI w) hi]
  have e : (nI w).toBitVec.toNat = w := by
    show (BitVec.ofNat 32 w).toNat = w
    rw [BitVec.toNat_ofNat]
    exact Nat.mod_eq_of_lt hw
  rw [e]
theorem ntT_len {v : Nat} (hv1 : 1 ≤ v) (hv : v < 2147483648) : (ntT v).length ≤ 130 := by
  have h1 := (nkF_p hv).1
  have h2 := ntB_len hv hv1 (nkF v) (Nat.le_refl _)
  unfold ntT
  rw [List.length_append, List.length_replicate, List.length_cons]
  omega
theorem hwB_len (w : Nat → Nat) : ∀ i, (hwB w i).length = 32 * i
  | 0 => rfl
  | i + 1 => by rw [hwB, List.length_append, hwB_len w i, hiB_len]; omega
theorem nb_sw {G : sG} {n : Nat} {X Y : List Nat} : (if sCd G n = 12 then X else []) ++ (if sCd G n = 11 then Y else []) = (if sCd G n = 11 then Y else []) ++ (if sCd G n = 12 then X else []) := by
  by_cases e : sCd G n = 12
  · rw [if_pos e, if_neg (by omega), List.append_nil, List.nil_append]
  · rw [if_neg e, List.append_nil, List.nil_append]
abbrev wdR : List Nat := [147, 161, 162]
section SY
variable {sc : xm_Sc} {d cn N n k : Nat} {t L2 bl : List Nat} {G : sG} {c1 c2 : Nat → Option Nat} {T tr : Nat → Ty} {K Lf R : Nat → Nat} {h h' : xm_H} {post : xm_Po}
theorem mW_wd (hx : mW h t G L2 T cn tr K Lf R) (hf : Fr wdR [(102, 92)] h h') : mW h' t G L2 T cn tr K Lf R := mW_fr hx hf (by decide +kernel) (by decide) (by decide) (by decide)
theorem mW_wn (hx : mW h t G L2 T cn tr K Lf R) (hf : Fr wnR [(102, 92)] h h') : mW h' t G L2 T cn tr K Lf R := mW_wd hx (Fr_mo hf (by simp) (fun _ z => z))
theorem chM_f2 {S : List Nat} {T : List (Nat × Nat)} {cd : Nat → Nat} (hc : chM h N cd c1 c2) (hf : Fr S T h h') (q1 : 105 ∉ S) (q2 : 106 ∉ S) (q3 : 107 ∉ S) : chM h' N cd c1 c2 := fun m hm => by
  rw [hf.1 _ q1, hf.1 _ q2, hf.1 _ q3]
  exact hc m hm
theorem wd_137 (hX : mW h t G L2 T cn tr K Lf R) (hn : n ∈ L2) (hG : sNo t G n) (hb : mkB h bl) (hl : bl.length + 10 < 1000000000)
    (hgo : ∀ h', Fr wnR [(102, 92)] h h' → mkB h' (bl ++ (if sCd G n = 12 then hiB (fun j => sNu G n / 2 ^ j % 2) 8 else [])) → xm_go (XE sc) (xm_T (XE sc) (d + 3)) 326 post 160 [(2, .int (nI n)), (1, .int (nI k)), (0, .ref 102)] [] h') :
    xm_go (XE sc) (xm_T (XE sc) (d + 3)) 326 post 137 [(2, .int (nI n)), (1, .int (nI k)), (0, .ref 102)] [] h := by
  obtain ⟨F1, y2, y3, y4, y5, y6⟩ := hX
  obtain ⟨n2, w5, w9, w8, w11, w12⟩ := y6 n hn
  have g1 := hG.1
  by_cases e : sCd G n = 12
  · rw [if_pos e] at hgo
    rw [e] at w5
    have hnu := hG.2.1 e
    with_reducible refine xm_go_blk b_X12_writeNodes_137 k_X12_writeNodes_137 ?_
    refine by_aload_n rfl ?_
    refine by_getf cn_326 fl_12_16 (by first | exact rfl | assumption) (by decide) ?_
    refine by_iload_n rfl ?_
    simp (disch := first | exact Nat.ne_of_beq_eq_false rfl | exact rfl | omega) only [nI_add, xa_sub, xa_mul, pk_div, nm_mod, xa_shr, xa_and7, xa_and1, xa_and255, xa_by_and, nI_m1, Nat.add_sub_cancel, Nat.reducePow, Nat.zero_add, Nat.add_zero, Nat.reduceAdd, Nat.reduceMul, Nat.reduceSub, xf_same, xq_ff, xq_fo, xf_1, xf_2, xs_1, xs_2, xs_same, xq_so, xj_1, xj_2, xj_same, xq_jo, xq_sa1, xq_same, xq_other, upd_s, oI_n, oI_s, xf_102_6 F1, w5, xf_102_9 F1, w8]
    first | refine by_iald (by first | exact rfl | assumption | exact ps_1 hpp | exact ps_2 hpp | exact ps_3 hpp | exact ps_4 hpp | exact ps_5 hpp | exact ps_6 hpp | exact ps_7 hpp | exact ps_8 hpp | exact ps_9 hpp | exact ps_10 hpp | exact ps_11 hpp | exact ps_15 hpp | exact ps_16 hpp | exact ps_17 hpp | exact ps_18 hpp | exact ps_19 hpp | exact ps_21 hpp | exact ps_22 hpp | exact ps_23 hpp | exact ps_24 hpp) ⟨by omega, by omega⟩ ?_ | refine by_tald rfl rfl ⟨by omega, by omega⟩ ?_
    refine by_bipush cb_12 ?_
    refine by_ic_ne 160 rfl ?_
    simp (disch := first | exact Nat.ne_of_beq_eq_false rfl | exact rfl | omega) only [nI_add, xa_sub, xa_mul, pk_div, nm_mod, xa_shr, xa_and7, xa_and1, xa_and255, xa_by_and, nI_m1, Nat.add_sub_cancel, Nat.reducePow, Nat.zero_add, Nat.add_zero, Nat.reduceAdd, Nat.reduceMul, Nat.reduceSub, xf_same, xq_ff, xq_fo, xf_1, xf_2, xs_1, xs_2, xs_same, xq_so, xj_1, xj_2, xj_same, xq_jo, xq_sa1, xq_same, xq_other, upd_s, oI_n, oI_s, xv_0, xv_1, xv_2, xv_3, xm_p1, xm_p2, xq_fp, xq_fn, List.filter_nil, Nat.reduceBEq, Bool.not_true, Bool.not_false, Bool.and_true, Bool.and_false, Bool.false_and, Bool.true_and, if_true, if_false, Bool.false_eq_true, reduceIte, xc_i, xc_j, xc_r, xc_n, List.nil_append, List.cons_append, Option.toList_some, Option.toList_none, nI_ltJ, nI_leJ, nI_eqJ, nI_ltz, nI_gez, nI_gtz, nI_lez, nI_eqz, m1_ltz, m1_gez, true_imp_iff, false_imp_iff, true_and, and_true, ne_eq, not_false_eq_true, not_true_eq_false, Nat.reduceEqDiff, Nat.reduceLT, Nat.reduceLeDiff, xf_102_6 F1, w5, xf_102_9 F1, w8]
    with_reducible refine xm_go_blk b_X12_writeNodes_148 k_X12_writeNodes_148 ?_
    refine by_aload_n rfl ?_
    refine by_aload_n rfl ?_
    refine by_getf cn_326 fl_12_25 (by first | exact rfl | assumption) (by decide) ?_
    refine by_iload_n rfl ?_
    simp (disch := first | exact Nat.ne_of_beq_eq_false rfl | exact rfl | omega) only [nI_add, xa_sub, xa_mul, pk_div, nm_mod, xa_shr, xa_and7, xa_and1, xa_and255, xa_by_and, nI_m1, Nat.add_sub_cancel, Nat.reducePow, Nat.zero_add, Nat.add_zero, Nat.reduceAdd, Nat.reduceMul, Nat.reduceSub, xf_same, xq_ff, xq_fo, xf_1, xf_2, xs_1, xs_2, xs_same, xq_so, xj_1, xj_2, xj_same, xq_jo, xq_sa1, xq_same, xq_other, upd_s, oI_n, oI_s, xf_102_6 F1, w5, xf_102_9 F1, w8]
    first | refine by_iald (by first | exact rfl | assumption | exact ps_1 hpp | exact ps_2 hpp | exact ps_3 hpp | exact ps_4 hpp | exact ps_5 hpp | exact ps_6 hpp | exact ps_7 hpp | exact ps_8 hpp | exact ps_9 hpp | exact ps_10 hpp | exact ps_11 hpp | exact ps_15 hpp | exact ps_16 hpp | exact ps_17 hpp | exact ps_18 hpp | exact ps_19 hpp | exact ps_21 hpp | exact ps_22 hpp | exact ps_23 hpp | exact ps_24 hpp) ⟨by omega, by omega⟩ ?_ | refine by_tald rfl rfl ⟨by omega, by omega⟩ ?_
    refine by_bipush cb_8 ?_
    simp (disch := first | exact Nat.ne_of_beq_eq_false rfl | exact rfl | omega) only [nI_add, xa_sub, xa_mul, pk_div, nm_mod, xa_shr, xa_and7, xa_and1, xa_and255, xa_by_and, nI_m1, Nat.add_sub_cancel, Nat.reducePow, Nat.zero_add, Nat.add_zero, Nat.reduceAdd, Nat.reduceMul, Nat.reduceSub, xf_same, xq_ff, xq_fo, xf_1, xf_2, xs_1, xs_2, xs_same, xq_so, xj_1, xj_2, xj_same, xq_jo, xq_sa1, xq_same, xq_other, upd_s, oI_n, oI_s, xv_0, xv_1, xv_2, xv_3, xm_p1, xm_p2, xq_fp, xq_fn, List.filter_nil, Nat.reduceBEq, Bool.not_true, Bool.not_false, Bool.and_true, Bool.and_false, Bool.false_and, Bool.true_and, if_true, if_false, Bool.false_eq_true, reduceIte, xc_i, xc_j, xc_r, xc_n, List.nil_append, List.cons_append, Option.toList_some, Option.toList_none, xf_102_6 F1, w5, xf_102_9 F1, w8]
    refine by_inv2 cn_326 lk_12_666 (by rw [xe_cnt]; decide) is_324 np_324 cn_324 (by first | exact rfl | assumption) (Nat.le_of_ble_eq_true rfl) ?_
    refine sp_writeBits (d := d + 1) (n := 8) (g := fun j => sNu G n / 2 ^ j % 2) F1 hb (by omega) (by omega) (fun j hj => bit_n (by omega) (by omega)) (fun h2 f2 b2 => ?_)
    exact xm_go_wk (by simp [Value.category]) (hgo h2 (Fr_mo f2 (by simp) (fun _ z => z)) b2)
  · rw [if_neg e, List.append_nil] at hgo
    have e' : (sCd G n = 12) = False := eq_false e
    with_reducible refine xm_go_blk b_X12_writeNodes_137 k_X12_writeNodes_137 ?_
    refine by_aload_n rfl ?_
    refine by_getf cn_326 fl_12_16 (by first | exact rfl | assumption) (by decide) ?_
    refine by_iload_n rfl ?_
    simp (disch := first | exact Nat.ne_of_beq_eq_false rfl | exact rfl | omega) only [nI_add, xa_sub, xa_mul, pk_div, nm_mod, xa_shr, xa_and7, xa_and1, xa_and255, xa_by_and, nI_m1, Nat.add_sub_cancel, Nat.reducePow, Nat.zero_add, Nat.add_zero, Nat.reduceAdd, Nat.reduceMul, Nat.reduceSub, xf_same, xq_ff, xq_fo, xf_1, xf_2, xs_1, xs_2, xs_same, xq_so, xj_1, xj_2, xj_same, xq_jo, xq_sa1, xq_same, xq_other, upd_s, oI_n, oI_s, xf_102_6 F1, w5, e']
    first | refine by_iald (by first | exact rfl | assumption | exact ps_1 hpp | exact ps_2 hpp | exact ps_3 hpp | exact ps_4 hpp | exact ps_5 hpp | exact ps_6 hpp | exact ps_7 hpp | exact ps_8 hpp | exact ps_9 hpp | exact ps_10 hpp | exact ps_11 hpp | exact ps_15 hpp | exact ps_16 hpp | exact ps_17 hpp | exact ps_18 hpp | exact ps_19 hpp | exact ps_21 hpp | exact ps_22 hpp | exact ps_23 hpp | exact ps_24 hpp) ⟨by omega, by omega⟩ ?_ | refine by_tald rfl rfl ⟨by omega, by omega⟩ ?_
    refine by_bipush cb_12 ?_
    refine by_ic_ne 160 rfl ?_
    simp (disch := first | exact Nat.ne_of_beq_eq_false rfl | exact rfl | omega) only [nI_add, xa_sub, xa_mul, pk_div, nm_mod, xa_shr, xa_and7, xa_and1, xa_and255, xa_by_and, nI_m1, Nat.add_sub_cancel, Nat.reducePow, Nat.zero_add, Nat.add_zero, Nat.reduceAdd, Nat.reduceMul, Nat.reduceSub, xf_same, xq_ff, xq_fo, xf_1, xf_2, xs_1, xs_2, xs_same, xq_so, xj_1, xj_2, xj_same, xq_jo, xq_sa1, xq_same, xq_other, upd_s, oI_n, oI_s, xv_0, xv_1, xv_2, xv_3, xm_p1, xm_p2, xq_fp, xq_fn, List.filter_nil, Nat.reduceBEq, Bool.not_true, Bool.not_false, Bool.and_true, Bool.and_false, Bool.false_and, Bool.true_and, if_true, if_false, Bool.false_eq_true, reduceIte, xc_i, xc_j, xc_r, xc_n, List.nil_append, List.cons_append, Option.toList_some, Option.toList_none, nI_ltJ, nI_leJ, nI_eqJ, nI_ltz, nI_gez, nI_gtz, nI_lez, nI_eqz, m1_ltz, m1_gez, true_imp_iff, false_imp_iff, true_and, and_true, ne_eq, not_false_eq_true, not_true_eq_false, Nat.reduceEqDiff, Nat.reduceLT, Nat.reduceLeDiff, xf_102_6 F1, w5, e']
    exact xm_go_wk (by simp [Value.category]) (hgo h Fr_rf hb)
theorem wd_95 (hX : mW h t G L2 T cn tr K Lf R) (hn : n ∈ L2) (hG : sNo t G n) (hb : mkB h bl) (hl : bl.length + 300 < 1000000000)
    (hgo : ∀ h', Fr wnR [(102, 92)] h h' → mkB h' (bl ++ (if sCd G n = 12 then hiB (fun j => sNu G n / 2 ^ j % 2) 8 else []) ++ (if sCd G n = 11 then hwB (sHw G n) 8 else [])) → xm_go (XE sc) (xm_T (XE sc) (d + 3)) 326 post 160 [(2, .int (nI n)), (1, .int (nI k)), (0, .ref 102)] [] h') :
    xm_go (XE sc) (xm_T (XE sc) (d + 3)) 326 post 95 [(2, .int (nI n)), (1, .int (nI k)), (0, .ref 102)] [] h := by
  have hgo2 : ∀ h', Fr wnR [(102, 92)] h h' → mkB h' (bl ++ (if sCd G n = 11 then hwB (sHw G n) 8 else []) ++ (if sCd G n = 12 then hiB (fun j => sNu G n / 2 ^ j % 2) 8 else [])) → xm_go (XE sc) (xm_T (XE sc) (d + 3)) 326 post 160 [(2, .int (nI n)), (1, .int (nI k)), (0, .ref 102)] [] h' := fun h' f b => hgo h' f (by rw [List.append_assoc, nb_sw, ← List.append_assoc]; exact b)
  have g1 := hG.1
  by_cases e : sCd G n = 11
  · rw [if_pos e] at hgo2
    have key : ∀ (y i : Nat) (h1 : xm_H), i + y = 8 → Fr wnR [(102, 92)] h h1 → mkB h1 (bl ++ hwB (sHw G n) i) → xm_go (XE sc) (xm_T (XE sc) (d + 3)) 326 post 97 [(3, .int (nI i)), (2, .int (nI n)), (1, .int (nI k)), (0, .ref 102)] [] h1 := by
      intro y
      induction y with
      | zero =>
        intro i h1 hi f1 b1
        have : i = 8 := by omega
        subst this
        have X1 := mW_wn hX f1
        have w5 := (X1.2.2.2.2.2 n hn).2.1
        have n2 := (X1.2.2.2.2.2 n hn).1
        rw [e] at w5
        have hlen := hwB_len (sHw G n) 8
        with_reducible refine xm_go_blk b_X12_writeNodes_97 k_X12_writeNodes_97 ?_
        refine by_aload_n rfl ?_
        refine by_getf cn_326 fl_12_16 (by first | exact rfl | assumption) (by decide) ?_
        refine by_iload_n rfl ?_
        simp (disch := first | exact Nat.ne_of_beq_eq_false rfl | exact rfl | omega) only [nI_add, xa_sub, xa_mul, pk_div, nm_mod, xa_shr, xa_and7, xa_and1, xa_and255, xa_by_and, nI_m1, Nat.add_sub_cancel, Nat.reducePow, Nat.zero_add, Nat.add_zero, Nat.reduceAdd, Nat.reduceMul, Nat.reduceSub, xf_same, xq_ff, xq_fo, xf_1, xf_2, xs_1, xs_2, xs_same, xq_so, xj_1, xj_2, xj_same, xq_jo, xq_sa1, xq_same, xq_other, upd_s, oI_n, oI_s, xf_102_6 X1.1, w5]
        first | refine by_iald (by first | exact rfl | assumption | exact ps_1 hpp | exact ps_2 hpp | exact ps_3 hpp | exact ps_4 hpp | exact ps_5 hpp | exact ps_6 hpp | exact ps_7 hpp | exact ps_8 hpp | exact ps_9 hpp | exact ps_10 hpp | exact ps_11 hpp | exact ps_15 hpp | exact ps_16 hpp | exact ps_17 hpp | exact ps_18 hpp | exact ps_19 hpp | exact ps_21 hpp | exact ps_22 hpp | exact ps_23 hpp | exact ps_24 hpp) ⟨by omega, by omega⟩ ?_ | refine by_tald rfl rfl ⟨by omega, by omega⟩ ?_
        refine by_bipush cb_11 ?_
        refine by_ic_ne 137 rfl ?_
        simp (disch := first | exact Nat.ne_of_beq_eq_false rfl | exact rfl | omega) only [nI_add, xa_sub, xa_mul, pk_div, nm_mod, xa_shr, xa_and7, xa_and1, xa_and255, xa_by_and, nI_m1, Nat.add_sub_cancel, Nat.reducePow, Nat.zero_add, Nat.add_zero, Nat.reduceAdd, Nat.reduceMul, Nat.reduceSub, xf_same, xq_ff, xq_fo, xf_1, xf_2, xs_1, xs_2, xs_same, xq_so, xj_1, xj_2, xj_same, xq_jo, xq_sa1, xq_same, xq_other, upd_s, oI_n, oI_s, xv_0, xv_1, xv_2, xv_3, xm_p1, xm_p2, xq_fp, xq_fn, List.filter_nil, Nat.reduceBEq, Bool.not_true, Bool.not_false, Bool.and_true, Bool.and_false, Bool.false_and, Bool.true_and, if_true, if_false, Bool.false_eq_true, reduceIte, xc_i, xc_j, xc_r, xc_n, List.nil_append, List.cons_append, Option.toList_some, Option.toList_none, nI_ltJ, nI_leJ, nI_eqJ, nI_ltz, nI_gez, nI_gtz, nI_lez, nI_eqz, m1_ltz, m1_gez, true_imp_iff, false_imp_iff, true_and, and_true, ne_eq, not_false_eq_true, not_true_eq_false, Nat.reduceEqDiff, Nat.reduceLT, Nat.reduceLeDiff, xf_102_6 X1.1, w5]
        with_reducible refine xm_go_blk b_X12_writeNodes_108 k_X12_writeNodes_108 ?_
        refine by_iload_n rfl ?_
        refine by_bipush cb_8 ?_
        refine by_ic_ge 137 rfl ?_
        simp (disch := first | exact Nat.ne_of_beq_eq_false rfl | exact rfl | omega) only [nI_add, xa_sub, xa_mul, pk_div, nm_mod, xa_shr, xa_and7, xa_and1, xa_and255, xa_by_and, nI_m1, Nat.add_sub_cancel, Nat.reducePow, Nat.zero_add, Nat.add_zero, Nat.reduceAdd, Nat.reduceMul, Nat.reduceSub, xf_same, xq_ff, xq_fo, xf_1, xf_2, xs_1, xs_2, xs_same, xq_so, xj_1, xj_2, xj_same, xq_jo, xq_sa1, xq_same, xq_other, upd_s, oI_n, oI_s, xv_0, xv_1, xv_2, xv_3, xm_p1, xm_p2, xq_fp, xq_fn, List.filter_nil, Nat.reduceBEq, Bool.not_true, Bool.not_false, Bool.and_true, Bool.and_false, Bool.false_and, Bool.true_and, if_true, if_false, Bool.false_eq_true, reduceIte, xc_i, xc_j, xc_r, xc_n, List.nil_append, List.cons_append, Option.toList_some, Option.toList_none, nI_ltJ, nI_leJ, nI_eqJ, nI_ltz, nI_gez, nI_gtz, nI_lez, nI_eqz, m1_ltz, m1_gez, true_imp_iff, false_imp_iff, true_and, and_true, ne_eq, not_false_eq_true, not_true_eq_false, Nat.reduceEqDiff, Nat.reduceLT, Nat.reduceLeDiff, xf_102_6 X1.1, w5]
        exact xm_go_wk (by simp [Value.category]) (wd_137 X1 hn hG b1 (by rw [List.length_append, hlen]; omega) (fun h2 f2 b2 => hgo2 h2 (Fr_tr f1 f2 (fun _ z => z) (fun _ z => z)) b2))
      | succ y ih =>
        intro i h1 hi f1 b1
        obtain ⟨F1, y2, y3, y4, y5, y6⟩ := mW_wn hX f1
        obtain ⟨n2, w5, w9, w8, w11, w12⟩ := y6 n hn
        rw [e] at w5
        have w11 := w11 e i (by omega)
        have hw := hG.2.2.1 e i (by omega)
        have hlen := hwB_len (sHw G n) i
        with_reducible refine xm_go_blk b_X12_writeNodes_97 k_X12_writeNodes_97 ?_
        refine by_aload_n rfl ?_
        refine by_getf cn_326 fl_12_16 (by first | exact rfl | assumption) (by decide) ?_
        refine by_iload_n rfl ?_
        simp (disch := first | exact Nat.ne_of_beq_eq_false rfl | exact rfl | omega) only [nI_add, xa_sub, xa_mul, pk_div, nm_mod, xa_shr, xa_and7, xa_and1, xa_and255, xa_by_and, nI_m1, Nat.add_sub_cancel, Nat.reducePow, Nat.zero_add, Nat.add_zero, Nat.reduceAdd, Nat.reduceMul, Nat.reduceSub, xf_same, xq_ff, xq_fo, xf_1, xf_2, xs_1, xs_2, xs_same, xq_so, xj_1, xj_2, xj_same, xq_jo, xq_sa1, xq_same, xq_other, upd_s, oI_n, oI_s, xf_102_6 F1, w5, xf_102_11 F1, w11]
        first | refine by_iald (by first | exact rfl | assumption | exact ps_1 hpp | exact ps_2 hpp | exact ps_3 hpp | exact ps_4 hpp | exact ps_5 hpp | exact ps_6 hpp | exact ps_7 hpp | exact ps_8 hpp | exact ps_9 hpp | exact ps_10 hpp | exact ps_11 hpp | exact ps_15 hpp | exact ps_16 hpp | exact ps_17 hpp | exact ps_18 hpp | exact ps_19 hpp | exact ps_21 hpp | exact ps_22 hpp | exact ps_23 hpp | exact ps_24 hpp) ⟨by omega, by omega⟩ ?_ | refine by_tald rfl rfl ⟨by omega, by omega⟩ ?_
        refine by_bipush cb_11 ?_
        refine by_ic_ne 137 rfl ?_
        simp (disch := first | exact Nat.ne_of_beq_eq_false rfl | exact rfl | omega) only [nI_add, xa_sub, xa_mul, pk_div, nm_mod, xa_shr, xa_and7, xa_and1, xa_and255, xa_by_and, nI_m1, Nat.add_sub_cancel, Nat.reducePow, Nat.zero_add, Nat.add_zero, Nat.reduceAdd, Nat.reduceMul, Nat.reduceSub, xf_same, xq_ff, xq_fo, xf_1, xf_2, xs_1, xs_2, xs_same, xq_so, xj_1, xj_2, xj_same, xq_jo, xq_sa1, xq_same, xq_other, upd_s, oI_n, oI_s, xv_0, xv_1, xv_2, xv_3, xm_p1, xm_p2, xq_fp, xq_fn, List.filter_nil, Nat.reduceBEq, Bool.not_true, Bool.not_false, Bool.and_true, Bool.and_false, Bool.false_and, Bool.true_and, if_true, if_false, Bool.false_eq_true, reduceIte, xc_i, xc_j, xc_r, xc_n, List.nil_append, List.cons_append, Option.toList_some, Option.toList_none, nI_ltJ, nI_leJ, nI_eqJ, nI_ltz, nI_gez, nI_gtz, nI_lez, nI_eqz, m1_ltz, m1_gez, true_imp_iff, false_imp_iff, true_and, and_true, ne_eq, not_false_eq_true, not_true_eq_false, Nat.reduceEqDiff, Nat.reduceLT, Nat.reduceLeDiff, xf_102_6 F1, w5, xf_102_11 F1, w11]
        with_reducible refine xm_go_blk b_X12_writeNodes_108 k_X12_writeNodes_108 ?_
        refine by_iload_n rfl ?_
        refine by_bipush cb_8 ?_
        refine by_ic_ge 137 rfl ?_
        simp (disch := first | exact Nat.ne_of_beq_eq_false rfl | exact rfl | omega) only [nI_add, xa_sub, xa_mul, pk_div, nm_mod, xa_shr, xa_and7, xa_and1, xa_and255, xa_by_and, nI_m1, Nat.add_sub_cancel, Nat.reducePow, Nat.zero_add, Nat.add_zero, Nat.reduceAdd, Nat.reduceMul, Nat.reduceSub, xf_same, xq_ff, xq_fo, xf_1, xf_2, xs_1, xs_2, xs_same, xq_so, xj_1, xj_2, xj_same, xq_jo, xq_sa1, xq_same, xq_other, upd_s, oI_n, oI_s, xv_0, xv_1, xv_2, xv_3, xm_p1, xm_p2, xq_fp, xq_fn, List.filter_nil, Nat.reduceBEq, Bool.not_true, Bool.not_false, Bool.and_true, Bool.and_false, Bool.false_and, Bool.true_and, if_true, if_false, Bool.false_eq_true, reduceIte, xc_i, xc_j, xc_r, xc_n, List.nil_append, List.cons_append, Option.toList_some, Option.toList_none, nI_ltJ, nI_leJ, nI_eqJ, nI_ltz, nI_gez, nI_gtz, nI_lez, nI_eqz, m1_ltz, m1_gez, true_imp_iff, false_imp_iff, true_and, and_true, ne_eq, not_false_eq_true, not_true_eq_false, Nat.reduceEqDiff, Nat.reduceLT, Nat.reduceLeDiff, xf_102_6 F1, w5, xf_102_11 F1, w11]
        refine ⟨fun c => absurd c (by omega), fun c108 => ?_⟩
        with_reducible refine xm_go_blk b_X12_writeNodes_114 k_X12_writeNodes_114 ?_
        refine by_aload_n rfl ?_
        refine by_aload_n rfl ?_
        refine by_getf cn_326 fl_12_31 (by first | exact rfl | assumption) (by decide) ?_
        refine by_bipush cb_8 ?_
        refine by_iload_n rfl ?_
        refine by_imul ?_
        refine by_iload_n rfl ?_
        refine by_iadd ?_
        simp (disch := first | exact Nat.ne_of_beq_eq_false rfl | exact rfl | omega) only [nI_add, xa_sub, xa_mul, pk_div, nm_mod, xa_shr, xa_and7, xa_and1, xa_and255, xa_by_and, nI_m1, Nat.add_sub_cancel, Nat.reducePow, Nat.zero_add, Nat.add_zero, Nat.reduceAdd, Nat.reduceMul, Nat.reduceSub, xf_same, xq_ff, xq_fo, xf_1, xf_2, xs_1, xs_2, xs_same, xq_so, xj_1, xj_2, xj_same, xq_jo, xq_sa1, xq_same, xq_other, upd_s, oI_n, oI_s, xf_102_6 F1, w5, xf_102_11 F1, w11]
        first | refine by_iald (by first | exact rfl | assumption | exact ps_1 hpp | exact ps_2 hpp | exact ps_3 hpp | exact ps_4 hpp | exact ps_5 hpp | exact ps_6 hpp | exact ps_7 hpp | exact ps_8 hpp | exact ps_9 hpp | exact ps_10 hpp | exact ps_11 hpp | exact ps_15 hpp | exact ps_16 hpp | exact ps_17 hpp | exact ps_18 hpp | exact ps_19 hpp | exact ps_21 hpp | exact ps_22 hpp | exact ps_23 hpp | exact ps_24 hpp) ⟨by omega, by omega⟩ ?_ | refine by_tald rfl rfl ⟨by omega, by omega⟩ ?_
        refine by_bipush cb_32 ?_
        simp (disch := first | exact Nat.ne_of_beq_eq_false rfl | exact rfl | omega) only [nI_add, xa_sub, xa_mul, pk_div, nm_mod, xa_shr, xa_and7, xa_and1, xa_and255, xa_by_and, nI_m1, Nat.add_sub_cancel, Nat.reducePow, Nat.zero_add, Nat.add_zero, Nat.reduceAdd, Nat.reduceMul, Nat.reduceSub, xf_same, xq_ff, xq_fo, xf_1, xf_2, xs_1, xs_2, xs_same, xq_so, xj_1, xj_2, xj_same, xq_jo, xq_sa1, xq_same, xq_other, upd_s, oI_n, oI_s, xv_0, xv_1, xv_2, xv_3, xm_p1, xm_p2, xq_fp, xq_fn, List.filter_nil, Nat.reduceBEq, Bool.not_true, Bool.not_false, Bool.and_true, Bool.and_false, Bool.false_and, Bool.true_and, if_true, if_false, Bool.false_eq_true, reduceIte, xc_i, xc_j, xc_r, xc_n, List.nil_append, List.cons_append, Option.toList_some, Option.toList_none, xf_102_6 F1, w5, xf_102_11 F1, w11]
        refine by_inv2 cn_326 lk_12_666 (by rw [xe_cnt]; decide) is_324 np_324 cn_324 (by first | exact rfl | assumption) (Nat.le_of_ble_eq_true rfl) ?_
        refine sp_writeBits (d := d + 1) (n := 32) (g := fun j => sHw G n i / 2 ^ j % 2) F1 b1 (by omega) (by rw [List.length_append, hlen]; omega) (fun j hj => bit_w hw hj) (fun h2 f2 b2 => ?_)
        with_reducible refine xm_go_blk b_X12_writeNodes_131 k_X12_writeNodes_131 ?_
        refine by_iinc (by rw [ml_326]; decide) rfl ci_1 ?_
        refine by_goto 97 rfl ?_
        try simp (disch := first | exact Nat.ne_of_beq_eq_false rfl | exact rfl | omega) only [nI_add, xa_sub, xa_mul, pk_div, nm_mod, xa_shr, xa_and7, xa_and1, xa_and255, xa_by_and, nI_m1, Nat.add_sub_cancel, Nat.reducePow, Nat.zero_add, Nat.add_zero, Nat.reduceAdd, Nat.reduceMul, Nat.reduceSub, xf_same, xq_ff, xq_fo, xf_1, xf_2, xs_1, xs_2, xs_same, xq_so, xj_1, xj_2, xj_same, xq_jo, xq_sa1, xq_same, xq_other, upd_s, oI_n, oI_s, xv_0, xv_1, xv_2, xv_3, xm_p1, xm_p2, xq_fp, xq_fn, List.filter_nil, Nat.reduceBEq, Bool.not_true, Bool.not_false, Bool.and_true, Bool.and_false, Bool.false_and, Bool.true_and, if_true, if_false, Bool.false_eq_true, reduceIte, xc_i, xc_j, xc_r, xc_n, List.nil_append, List.cons_append, Option.toList_some, Option.toList_none]
        exact xm_go_wk (by simp [Value.category]) (ih (i + 1) h2 (by omega) (Fr_tr f1 f2 (by simp) (fun _ z => z)) (by rw [List.append_assoc] at b2; exact b2))
    with_reducible refine xm_go_blk b_X12_writeNodes_95 k_X12_writeNodes_95 ?_
    refine by_iconst ci_0 ?_
    refine by_istore_n (by rw [ml_326]; decide) ?_
    refine by_nil ?_
    try simp (disch := first | exact Nat.ne_of_beq_eq_false rfl | exact rfl | omega) only [nI_add, xa_sub, xa_mul, pk_div, nm_mod, xa_shr, xa_and7, xa_and1, xa_and255, xa_by_and, nI_m1, Nat.add_sub_cancel, Nat.reducePow, Nat.zero_add, Nat.add_zero, Nat.reduceAdd, Nat.reduceMul, Nat.reduceSub, xf_same, xq_ff, xq_fo, xf_1, xf_2, xs_1, xs_2, xs_same, xq_so, xj_1, xj_2, xj_same, xq_jo, xq_sa1, xq_same, xq_other, upd_s, oI_n, oI_s, xv_0, xv_1, xv_2, xv_3, xm_p1, xm_p2, xq_fp, xq_fn, List.filter_nil, Nat.reduceBEq, Bool.not_true, Bool.not_false, Bool.and_true, Bool.and_false, Bool.false_and, Bool.true_and, if_true, if_false, Bool.false_eq_true, reduceIte, xc_i, xc_j, xc_r, xc_n, List.nil_append, List.cons_append, Option.toList_some, Option.toList_none]
    exact xm_go_wk (by simp [Value.category]) (key 8 0 h rfl Fr_rf (by rw [hwB, List.append_nil]; exact hb))
  · rw [if_neg e, List.append_nil] at hgo2
    have w5 := (hX.2.2.2.2.2 n hn).2.1
    have n2 := (hX.2.2.2.2.2 n hn).1
    have e' : (sCd G n = 11) = False := eq_false e
    with_reducible refine xm_go_blk b_X12_writeNodes_95 k_X12_writeNodes_95 ?_
    refine by_iconst ci_0 ?_
    refine by_istore_n (by rw [ml_326]; decide) ?_
    refine by_nil ?_
    try simp (disch := first | exact Nat.ne_of_beq_eq_false rfl | exact rfl | omega) only [nI_add, xa_sub, xa_mul, pk_div, nm_mod, xa_shr, xa_and7, xa_and1, xa_and255, xa_by_and, nI_m1, Nat.add_sub_cancel, Nat.reducePow, Nat.zero_add, Nat.add_zero, Nat.reduceAdd, Nat.reduceMul, Nat.reduceSub, xf_same, xq_ff, xq_fo, xf_1, xf_2, xs_1, xs_2, xs_same, xq_so, xj_1, xj_2, xj_same, xq_jo, xq_sa1, xq_same, xq_other, upd_s, oI_n, oI_s, xv_0, xv_1, xv_2, xv_3, xm_p1, xm_p2, xq_fp, xq_fn, List.filter_nil, Nat.reduceBEq, Bool.not_true, Bool.not_false, Bool.and_true, Bool.and_false, Bool.false_and, Bool.true_and, if_true, if_false, Bool.false_eq_true, reduceIte, xc_i, xc_j, xc_r, xc_n, List.nil_append, List.cons_append, Option.toList_some, Option.toList_none, xf_102_6 hX.1, w5, e']
    with_reducible refine xm_go_blk b_X12_writeNodes_97 k_X12_writeNodes_97 ?_
    refine by_aload_n rfl ?_
    refine by_getf cn_326 fl_12_16 (by first | exact rfl | assumption) (by decide) ?_
    refine by_iload_n rfl ?_
    simp (disch := first | exact Nat.ne_of_beq_eq_false rfl | exact rfl | omega) only [nI_add, xa_sub, xa_mul, pk_div, nm_mod, xa_shr, xa_and7, xa_and1, xa_and255, xa_by_and, nI_m1, Nat.add_sub_cancel, Nat.reducePow, Nat.zero_add, Nat.add_zero, Nat.reduceAdd, Nat.reduceMul, Nat.reduceSub, xf_same, xq_ff, xq_fo, xf_1, xf_2, xs_1, xs_2, xs_same, xq_so, xj_1, xj_2, xj_same, xq_jo, xq_sa1, xq_same, xq_other, upd_s, oI_n, oI_s, xf_102_6 hX.1, w5, e']
    first | refine by_iald (by first | exact rfl | assumption | exact ps_1 hpp | exact ps_2 hpp | exact ps_3 hpp | exact ps_4 hpp | exact ps_5 hpp | exact ps_6 hpp | exact ps_7 hpp | exact ps_8 hpp | exact ps_9 hpp | exact ps_10 hpp | exact ps_11 hpp | exact ps_15 hpp | exact ps_16 hpp | exact ps_17 hpp | exact ps_18 hpp | exact ps_19 hpp | exact ps_21 hpp | exact ps_22 hpp | exact ps_23 hpp | exact ps_24 hpp) ⟨by omega, by omega⟩ ?_ | refine by_tald rfl rfl ⟨by omega, by omega⟩ ?_
    refine by_bipush cb_11 ?_
    refine by_ic_ne 137 rfl ?_
    simp (disch := first | exact Nat.ne_of_beq_eq_false rfl | exact rfl | omega) only [nI_add, xa_sub, xa_mul, pk_div, nm_mod, xa_shr, xa_and7, xa_and1, xa_and255, xa_by_and, nI_m1, Nat.add_sub_cancel, Nat.reducePow, Nat.zero_add, Nat.add_zero, Nat.reduceAdd, Nat.reduceMul, Nat.reduceSub, xf_same, xq_ff, xq_fo, xf_1, xf_2, xs_1, xs_2, xs_same, xq_so, xj_1, xj_2, xj_same, xq_jo, xq_sa1, xq_same, xq_other, upd_s, oI_n, oI_s, xv_0, xv_1, xv_2, xv_3, xm_p1, xm_p2, xq_fp, xq_fn, List.filter_nil, Nat.reduceBEq, Bool.not_true, Bool.not_false, Bool.and_true, Bool.and_false, Bool.false_and, Bool.true_and, if_true, if_false, Bool.false_eq_true, reduceIte, xc_i, xc_j, xc_r, xc_n, List.nil_append, List.cons_append, Option.toList_some, Option.toList_none, nI_ltJ, nI_leJ, nI_eqJ, nI_ltz, nI_gez, nI_gtz, nI_lez, nI_eqz, m1_ltz, m1_gez, true_imp_iff, false_imp_iff, true_and, and_true, ne_eq, not_false_eq_true, not_true_eq_false, Nat.reduceEqDiff, Nat.reduceLT, Nat.reduceLeDiff, xf_102_6 hX.1, w5, e']
    exact xm_go_wk (by simp [Value.category]) (wd_137 hX hn hG hb (by omega) hgo2)
theorem chB_len {x : Option Nat} (h : ∀ y, x = some y → ixF L2 y < ixF L2 n) (hl : ixF L2 n < 2000) : (chB L2 n x).length ≤ 130 := by
  cases x with
  | none => exact Nat.zero_le _
  | some y =>
    have := h y rfl
    exact ntT_len (by omega) (by omega)
theorem wd_69 (hX : mW h t G L2 T cn tr K Lf R) (hc : chM h N (sCd G) c1 c2) (hN : N ≤ 2000) (hnN : n < N) (hk : k = ixF L2 n) (hk2 : k < 2000) (hch : ∀ x, (c1 n = some x ∨ c2 n = some x) → x < N ∧ h.1 161 x = nI (ixF L2 x) ∧ ixF L2 x < ixF L2 n) (hn : n ∈ L2) (hG : sNo t G n) (hb : mkB h bl) (hl : bl.length + 500 < 1000000000)
    (hgo : ∀ h', Fr wnR [(102, 92)] h h' → mkB h' (bl ++ chB L2 n (c2 n) ++ (if sCd G n = 12 then hiB (fun j => sNu G n / 2 ^ j % 2) 8 else []) ++ (if sCd G n = 11 then hwB (sHw G n) 8 else [])) → xm_go (XE sc) (xm_T (XE sc) (d + 3)) 326 post 160 [(2, .int (nI n)), (1, .int (nI k)), (0, .ref 102)] [] h') :
    xm_go (XE sc) (xm_T (XE sc) (d + 3)) 326 post 69 [(2, .int (nI n)), (1, .int (nI k)), (0, .ref 102)] [] h := by
  obtain ⟨a1, a2, a3, a4, a5, a6⟩ := hc n hnN
  have F1 := hX.1
  with_reducible refine xm_go_blk b_X12_writeNodes_69 k_X12_writeNodes_69 ?_
  refine by_aload_n rfl ?_
  refine by_iload_n rfl ?_
  refine by_iconst ci_1 ?_
  refine by_inv2 cn_326 lk_12_229 (by rw [xe_cnt]; decide) is_214 np_214 cn_214 (by first | exact rfl | assumption) (Nat.le_of_ble_eq_true rfl) ?_
  refine sp_childOf (d := d + 2) F1 hc hN hnN (by decide) ?_
  rw [show chW c1 c2 n 1 = c2 n from rfl]
  cases e : c2 n with
  | none =>
    rw [e] at hgo
    rw [show chB L2 n none = [] from rfl, List.append_nil] at hgo
    rw [show oI none = (-1 : Int32) from rfl]
    with_reducible refine xm_go_blk b_X12_writeNodes_75 k_X12_writeNodes_75 ?_
    refine by_if_lt 95 rfl ?_
    simp (disch := first | exact Nat.ne_of_beq_eq_false rfl | exact rfl | omega) only [nI_add, xa_sub, xa_mul, pk_div, nm_mod, xa_shr, xa_and7, xa_and1, xa_and255, xa_by_and, nI_m1, Nat.add_sub_cancel, Nat.reducePow, Nat.zero_add, Nat.add_zero, Nat.reduceAdd, Nat.reduceMul, Nat.reduceSub, xf_same, xq_ff, xq_fo, xf_1, xf_2, xs_1, xs_2, xs_same, xq_so, xj_1, xj_2, xj_same, xq_jo, xq_sa1, xq_same, xq_other, upd_s, oI_n, oI_s, xv_0, xv_1, xv_2, xv_3, xm_p1, xm_p2, xq_fp, xq_fn, List.filter_nil, Nat.reduceBEq, Bool.not_true, Bool.not_false, Bool.and_true, Bool.and_false, Bool.false_and, Bool.true_and, if_true, if_false, Bool.false_eq_true, reduceIte, xc_i, xc_j, xc_r, xc_n, List.nil_append, List.cons_append, Option.toList_some, Option.toList_none, nI_ltJ, nI_leJ, nI_eqJ, nI_ltz, nI_gez, nI_gtz, nI_lez, nI_eqz, m1_ltz, m1_gez, true_imp_iff, false_imp_iff, true_and, and_true, ne_eq, not_false_eq_true, not_true_eq_false, Nat.reduceEqDiff, Nat.reduceLT, Nat.reduceLeDiff, m1_gez, m1_ltz]
    exact xm_go_wk (by simp [Value.category]) (wd_95 hX hn hG hb (by omega) hgo)
  | some x =>
    rw [e] at hgo
    obtain ⟨x1, x2, x3⟩ := hch x (Or.inr e)
    have hc2 : sCd G n ≤ 2 := by
      refine Classical.byContradiction fun z => ?_
      rw [a6 (by omega)] at e
      cases e
    have r7 := a5 hc2
    rw [e] at r7
    have r7 : h.1 107 n = nI x := r7
    have cl : (ntT (ixF L2 n - ixF L2 x)).length ≤ 130 := chB_len (L2 := L2) (n := n) (x := some x) (fun y hy => by cases hy; exact x3) (by omega)
    rw [show oI (some x) = nI x from rfl]
    with_reducible refine xm_go_blk b_X12_writeNodes_75 k_X12_writeNodes_75 ?_
    refine by_if_lt 95 rfl ?_
    simp (disch := first | exact Nat.ne_of_beq_eq_false rfl | exact rfl | omega) only [nI_add, xa_sub, xa_mul, pk_div, nm_mod, xa_shr, xa_and7, xa_and1, xa_and255, xa_by_and, nI_m1, Nat.add_sub_cancel, Nat.reducePow, Nat.zero_add, Nat.add_zero, Nat.reduceAdd, Nat.reduceMul, Nat.reduceSub, xf_same, xq_ff, xq_fo, xf_1, xf_2, xs_1, xs_2, xs_same, xq_so, xj_1, xj_2, xj_same, xq_jo, xq_sa1, xq_same, xq_other, upd_s, oI_n, oI_s, xv_0, xv_1, xv_2, xv_3, xm_p1, xm_p2, xq_fp, xq_fn, List.filter_nil, Nat.reduceBEq, Bool.not_true, Bool.not_false, Bool.and_true, Bool.and_false, Bool.false_and, Bool.true_and, if_true, if_false, Bool.false_eq_true, reduceIte, xc_i, xc_j, xc_r, xc_n, List.nil_append, List.cons_append, Option.toList_some, Option.toList_none, nI_ltJ, nI_leJ, nI_eqJ, nI_ltz, nI_gez, nI_gtz, nI_lez, nI_eqz, m1_ltz, m1_gez, true_imp_iff, false_imp_iff, true_and, and_true, ne_eq, not_false_eq_true, not_true_eq_false, Nat.reduceEqDiff, Nat.reduceLT, Nat.reduceLeDiff, xf_102_91 F1, xf_102_8 F1, r7, x2]
    with_reducible refine xm_go_blk b_X12_writeNodes_78 k_X12_writeNodes_78 ?_
    refine by_aload_n rfl ?_
    refine by_iload_n rfl ?_
    refine by_aload_n rfl ?_
    refine by_getf cn_326 fl_12_190 (by first | exact rfl | assumption) (by decide) ?_
    refine by_aload_n rfl ?_
    refine by_getf cn_326 fl_12_22 (by first | exact rfl | assumption) (by decide) ?_
    refine by_iload_n rfl ?_
    simp (disch := first | exact Nat.ne_of_beq_eq_false rfl | exact rfl | omega) only [nI_add, xa_sub, xa_mul, pk_div, nm_mod, xa_shr, xa_and7, xa_and1, xa_and255, xa_by_and, nI_m1, Nat.add_sub_cancel, Nat.reducePow, Nat.zero_add, Nat.add_zero, Nat.reduceAdd, Nat.reduceMul, Nat.reduceSub, xf_same, xq_ff, xq_fo, xf_1, xf_2, xs_1, xs_2, xs_same, xq_so, xj_1, xj_2, xj_same, xq_jo, xq_sa1, xq_same, xq_other, upd_s, oI_n, oI_s, xf_102_91 F1, xf_102_8 F1, r7, x2]
    first | refine by_iald (by first | exact rfl | assumption | exact ps_1 hpp | exact ps_2 hpp | exact ps_3 hpp | exact ps_4 hpp | exact ps_5 hpp | exact ps_6 hpp | exact ps_7 hpp | exact ps_8 hpp | exact ps_9 hpp | exact ps_10 hpp | exact ps_11 hpp | exact ps_15 hpp | exact ps_16 hpp | exact ps_17 hpp | exact ps_18 hpp | exact ps_19 hpp | exact ps_21 hpp | exact ps_22 hpp | exact ps_23 hpp | exact ps_24 hpp) ⟨by omega, by omega⟩ ?_ | refine by_tald rfl rfl ⟨by omega, by omega⟩ ?_
    simp (disch := first | exact Nat.ne_of_beq_eq_false rfl | exact rfl | omega) only [nI_add, xa_sub, xa_mul, pk_div, nm_mod, xa_shr, xa_and7, xa_and1, xa_and255, xa_by_and, nI_m1, Nat.add_sub_cancel, Nat.reducePow, Nat.zero_add, Nat.add_zero, Nat.reduceAdd, Nat.reduceMul, Nat.reduceSub, xf_same, xq_ff, xq_fo, xf_1, xf_2, xs_1, xs_2, xs_same, xq_so, xj_1, xj_2, xj_same, xq_jo, xq_sa1, xq_same, xq_other, upd_s, oI_n, oI_s, xf_102_91 F1, xf_102_8 F1, r7, x2]
    first | refine by_iald (by first | exact rfl | assumption | exact ps_1 hpp | exact ps_2 hpp | exact ps_3 hpp | exact ps_4 hpp | exact ps_5 hpp | exact ps_6 hpp | exact ps_7 hpp | exact ps_8 hpp | exact ps_9 hpp | exact ps_10 hpp | exact ps_11 hpp | exact ps_15 hpp | exact ps_16 hpp | exact ps_17 hpp | exact ps_18 hpp | exact ps_19 hpp | exact ps_21 hpp | exact ps_22 hpp | exact ps_23 hpp | exact ps_24 hpp) ⟨by omega, by omega⟩ ?_ | refine by_tald rfl rfl ⟨by omega, by omega⟩ ?_
    refine by_isub ?_
    simp (disch := first | exact Nat.ne_of_beq_eq_false rfl | exact rfl | omega) only [nI_add, xa_sub, xa_mul, pk_div, nm_mod, xa_shr, xa_and7, xa_and1, xa_and255, xa_by_and, nI_m1, Nat.add_sub_cancel, Nat.reducePow, Nat.zero_add, Nat.add_zero, Nat.reduceAdd, Nat.reduceMul, Nat.reduceSub, xf_same, xq_ff, xq_fo, xf_1, xf_2, xs_1, xs_2, xs_same, xq_so, xj_1, xj_2, xj_same, xq_jo, xq_sa1, xq_same, xq_other, upd_s, oI_n, oI_s, xv_0, xv_1, xv_2, xv_3, xm_p1, xm_p2, xq_fp, xq_fn, List.filter_nil, Nat.reduceBEq, Bool.not_true, Bool.not_false, Bool.and_true, Bool.and_false, Bool.false_and, Bool.true_and, if_true, if_false, Bool.false_eq_true, reduceIte, xc_i, xc_j, xc_r, xc_n, List.nil_append, List.cons_append, Option.toList_some, Option.toList_none, xf_102_91 F1, xf_102_8 F1, r7, x2]
    refine by_inv1 cn_326 lk_12_670 (by rw [xe_cnt]; decide) is_325 np_325 cn_325 (by first | exact rfl | assumption) (Nat.le_of_ble_eq_true rfl) ?_
    refine sp_writeNatural (d := d) F1 hb (by omega) (by omega) (by omega) (fun h2 f2 b2 => ?_)
    rw [hk] at b2
    exact xm_go_wk (by simp [Value.category]) (wd_95 (mW_wn hX f2) hn hG b2 (by rw [List.length_append]; omega) (fun h3 f3 b3 => hgo h3 (Fr_tr f2 f3 (fun _ z => z) (fun _ z => z)) b3))
theorem wd_43 (hX : mW h t G L2 T cn tr K Lf R) (hc : chM h N (sCd G) c1 c2) (hN : N ≤ 2000) (hnN : n < N) (hk : k = ixF L2 n) (hk2 : k < 2000) (hch : ∀ x, (c1 n = some x ∨ c2 n = some x) → x < N ∧ h.1 161 x = nI (ixF L2 x) ∧ ixF L2 x < ixF L2 n) (hn : n ∈ L2) (hG : sNo t G n) (hb : mkB h bl) (hl : bl.length + 700 < 1000000000)
    (hgo : ∀ h', Fr wnR [(102, 92)] h h' → mkB h' (bl ++ chB L2 n (c1 n) ++ chB L2 n (c2 n) ++ (if sCd G n = 12 then hiB (fun j => sNu G n / 2 ^ j % 2) 8 else []) ++ (if sCd G n = 11 then hwB (sHw G n) 8 else [])) → xm_go (XE sc) (xm_T (XE sc) (d + 3)) 326 post 160 [(2, .int (nI n)), (1, .int (nI k)), (0, .ref 102)] [] h') :
    xm_go (XE sc) (xm_T (XE sc) (d + 3)) 326 post 43 [(2, .int (nI n)), (1, .int (nI k)), (0, .ref 102)] [] h := by
  obtain ⟨a1, a2, a3, a4, a5, a6⟩ := hc n hnN
  have F1 := hX.1
  with_reducible refine xm_go_blk b_X12_writeNodes_43 k_X12_writeNodes_43 ?_
  refine by_aload_n rfl ?_
  refine by_iload_n rfl ?_
  refine by_iconst ci_0 ?_
  refine by_inv2 cn_326 lk_12_229 (by rw [xe_cnt]; decide) is_214 np_214 cn_214 (by first | exact rfl | assumption) (Nat.le_of_ble_eq_true rfl) ?_
  refine sp_childOf (d := d + 2) F1 hc hN hnN (by decide) ?_
  rw [show chW c1 c2 n 0 = c1 n from rfl]
  cases e : c1 n with
  | none =>
    rw [e] at hgo
    rw [show chB L2 n none = [] from rfl, List.append_nil] at hgo
    rw [show oI none = (-1 : Int32) from rfl]
    with_reducible refine xm_go_blk b_X12_writeNodes_49 k_X12_writeNodes_49 ?_
    refine by_if_lt 69 rfl ?_
    simp (disch := first | exact Nat.ne_of_beq_eq_false rfl | exact rfl | omega) only [nI_add, xa_sub, xa_mul, pk_div, nm_mod, xa_shr, xa_and7, xa_and1, xa_and255, xa_by_and, nI_m1, Nat.add_sub_cancel, Nat.reducePow, Nat.zero_add, Nat.add_zero, Nat.reduceAdd, Nat.reduceMul, Nat.reduceSub, xf_same, xq_ff, xq_fo, xf_1, xf_2, xs_1, xs_2, xs_same, xq_so, xj_1, xj_2, xj_same, xq_jo, xq_sa1, xq_same, xq_other, upd_s, oI_n, oI_s, xv_0, xv_1, xv_2, xv_3, xm_p1, xm_p2, xq_fp, xq_fn, List.filter_nil, Nat.reduceBEq, Bool.not_true, Bool.not_false, Bool.and_true, Bool.and_false, Bool.false_and, Bool.true_and, if_true, if_false, Bool.false_eq_true, reduceIte, xc_i, xc_j, xc_r, xc_n, List.nil_append, List.cons_append, Option.toList_some, Option.toList_none, nI_ltJ, nI_leJ, nI_eqJ, nI_ltz, nI_gez, nI_gtz, nI_lez, nI_eqz, m1_ltz, m1_gez, true_imp_iff, false_imp_iff, true_and, and_true, ne_eq, not_false_eq_true, not_true_eq_false, Nat.reduceEqDiff, Nat.reduceLT, Nat.reduceLeDiff, m1_gez, m1_ltz]
    exact xm_go_wk (by simp [Value.category]) (wd_69 hX hc hN hnN hk hk2 hch hn hG hb (by omega) hgo)
  | some x =>
    rw [e] at hgo
    obtain ⟨x1, x2, x3⟩ := hch x (Or.inl e)
    have hc6 : sCd G n ≤ 6 := by
      refine Classical.byContradiction fun z => ?_
      rw [a4 (by omega)] at e
      cases e
    have r6 := a3 hc6
    rw [e] at r6
    have r6 : h.1 106 n = nI x := r6
    have cl : (ntT (ixF L2 n - ixF L2 x)).length ≤ 130 := chB_len (L2 := L2) (n := n) (x := some x) (fun y hy => by cases hy; exact x3) (by omega)
    rw [show oI (some x) = nI x from rfl]
    with_reducible refine xm_go_blk b_X12_writeNodes_49 k_X12_writeNodes_49 ?_
    refine by_if_lt 69 rfl ?_
    simp (disch := first | exact Nat.ne_of_beq_eq_false rfl | exact rfl | omega) only [nI_add, xa_sub, xa_mul, pk_div, nm_mod, xa_shr, xa_and7, xa_and1, xa_and255, xa_by_and, nI_m1, Nat.add_sub_cancel, Nat.reducePow, Nat.zero_add, Nat.add_zero, Nat.reduceAdd, Nat.reduceMul, Nat.reduceSub, xf_same, xq_ff, xq_fo, xf_1, xf_2, xs_1, xs_2, xs_same, xq_so, xj_1, xj_2, xj_same, xq_jo, xq_sa1, xq_same, xq_other, upd_s, oI_n, oI_s, xv_0, xv_1, xv_2, xv_3, xm_p1, xm_p2, xq_fp, xq_fn, List.filter_nil, Nat.reduceBEq, Bool.not_true, Bool.not_false, Bool.and_true, Bool.and_false, Bool.false_and, Bool.true_and, if_true, if_false, Bool.false_eq_true, reduceIte, xc_i, xc_j, xc_r, xc_n, List.nil_append, List.cons_append, Option.toList_some, Option.toList_none, nI_ltJ, nI_leJ, nI_eqJ, nI_ltz, nI_gez, nI_gtz, nI_lez, nI_eqz, m1_ltz, m1_gez, true_imp_iff, false_imp_iff, true_and, and_true, ne_eq, not_false_eq_true, not_true_eq_false, Nat.reduceEqDiff, Nat.reduceLT, Nat.reduceLeDiff, xf_102_91 F1, xf_102_7 F1, r6, x2]
    with_reducible refine xm_go_blk b_X12_writeNodes_52 k_X12_writeNodes_52 ?_
    refine by_aload_n rfl ?_
    refine by_iload_n rfl ?_
    refine by_aload_n rfl ?_
    refine by_getf cn_326 fl_12_190 (by first | exact rfl | assumption) (by decide) ?_
    refine by_aload_n rfl ?_
    refine by_getf cn_326 fl_12_19 (by first | exact rfl | assumption) (by decide) ?_
    refine by_iload_n rfl ?_
    simp (disch := first | exact Nat.ne_of_beq_eq_false rfl | exact rfl | omega) only [nI_add, xa_sub, xa_mul, pk_div, nm_mod, xa_shr, xa_and7, xa_and1, xa_and255, xa_by_and, nI_m1, Nat.add_sub_cancel, Nat.reducePow, Nat.zero_add, Nat.add_zero, Nat.reduceAdd, Nat.reduceMul, Nat.reduceSub, xf_same, xq_ff, xq_fo, xf_1, xf_2, xs_1, xs_2, xs_same, xq_so, xj_1, xj_2, xj_same, xq_jo, xq_sa1, xq_same, xq_other, upd_s, oI_n, oI_s, xf_102_91 F1, xf_102_7 F1, r6, x2]
    first | refine by_iald (by first | exact rfl | assumption | exact ps_1 hpp | exact ps_2 hpp | exact ps_3 hpp | exact ps_4 hpp | exact ps_5 hpp | exact ps_6 hpp | exact ps_7 hpp | exact ps_8 hpp | exact ps_9 hpp | exact ps_10 hpp | exact ps_11 hpp | exact ps_15 hpp | exact ps_16 hpp | exact ps_17 hpp | exact ps_18 hpp | exact ps_19 hpp | exact ps_21 hpp | exact ps_22 hpp | exact ps_23 hpp | exact ps_24 hpp) ⟨by omega, by omega⟩ ?_ | refine by_tald rfl rfl ⟨by omega, by omega⟩ ?_
    simp (disch := first | exact Nat.ne_of_beq_eq_false rfl | exact rfl | omega) only [nI_add, xa_sub, xa_mul, pk_div, nm_mod, xa_shr, xa_and7, xa_and1, xa_and255, xa_by_and, nI_m1, Nat.add_sub_cancel, Nat.reducePow, Nat.zero_add, Nat.add_zero, Nat.reduceAdd, Nat.reduceMul, Nat.reduceSub, xf_same, xq_ff, xq_fo, xf_1, xf_2, xs_1, xs_2, xs_same, xq_so, xj_1, xj_2, xj_same, xq_jo, xq_sa1, xq_same, xq_other, upd_s, oI_n, oI_s, xf_102_91 F1, xf_102_7 F1, r6, x2]
    first | refine by_iald (by first | exact rfl | assumption | exact ps_1 hpp | exact ps_2 hpp | exact ps_3 hpp | exact ps_4 hpp | exact ps_5 hpp | exact ps_6 hpp | exact ps_7 hpp | exact ps_8 hpp | exact ps_9 hpp | exact ps_10 hpp | exact ps_11 hpp | exact ps_15 hpp | exact ps_16 hpp | exact ps_17 hpp | exact ps_18 hpp | exact ps_19 hpp | exact ps_21 hpp | exact ps_22 hpp | exact ps_23 hpp | exact ps_24 hpp) ⟨by omega, by omega⟩ ?_ | refine by_tald rfl rfl ⟨by omega, by omega⟩ ?_
    refine by_isub ?_
    simp (disch := first | exact Nat.ne_of_beq_eq_false rfl | exact rfl | omega) only [nI_add, xa_sub, xa_mul, pk_div, nm_mod, xa_shr, xa_and7, xa_and1, xa_and255, xa_by_and, nI_m1, Nat.add_sub_cancel, Nat.reducePow, Nat.zero_add, Nat.add_zero, Nat.reduceAdd, Nat.reduceMul, Nat.reduceSub, xf_same, xq_ff, xq_fo, xf_1, xf_2, xs_1, xs_2, xs_same, xq_so, xj_1, xj_2, xj_same, xq_jo, xq_sa1, xq_same, xq_other, upd_s, oI_n, oI_s, xv_0, xv_1, xv_2, xv_3, xm_p1, xm_p2, xq_fp, xq_fn, List.filter_nil, Nat.reduceBEq, Bool.not_true, Bool.not_false, Bool.and_true, Bool.and_false, Bool.false_and, Bool.true_and, if_true, if_false, Bool.false_eq_true, reduceIte, xc_i, xc_j, xc_r, xc_n, List.nil_append, List.cons_append, Option.toList_some, Option.toList_none, xf_102_91 F1, xf_102_7 F1, r6, x2]
    refine by_inv1 cn_326 lk_12_670 (by rw [xe_cnt]; decide) is_325 np_325 cn_325 (by first | exact rfl | assumption) (Nat.le_of_ble_eq_true rfl) ?_
    refine sp_writeNatural (d := d) F1 hb (by omega) (by omega) (by omega) (fun h2 f2 b2 => ?_)
    rw [hk] at b2
    exact xm_go_wk (by simp [Value.category]) (wd_69 (mW_wn hX f2) (chM_f2 hc f2 (by simp) (by simp) (by simp)) hN hnN hk hk2 (fun y hy => by rw [f2.1 161 (by simp)]; exact hch y hy) hn hG b2 (by rw [List.length_append]; omega) (fun h3 f3 b3 => hgo h3 (Fr_tr f2 f3 (fun _ z => z) (fun _ z => z)) b3))
theorem nbT_len (hch : ∀ x, (c1 n = some x ∨ c2 n = some x) → ixF L2 x < ixF L2 n) (hl : ixF L2 n < 2000) : (nbT G c1 c2 L2 n).length ≤ 600 := by
  have q1 := chB_len (L2 := L2) (n := n) (x := c1 n) (fun y hy => hch y (Or.inl hy)) hl
  have q2 := chB_len (L2 := L2) (n := n) (x := c2 n) (fun y hy => hch y (Or.inr hy)) hl
  unfold nbT
  rw [List.length_append, List.length_append, List.length_append, List.length_append, hiB_len]
  have q3 : (if sCd G n = 12 then hiB (fun j => sNu G n / 2 ^ j % 2) 8 else []).length ≤ 8 := by
    split
    · rw [hiB_len]; exact Nat.le_refl _
    · exact Nat.zero_le _
  have q4 : (if sCd G n = 11 then hwB (sHw G n) 8 else []).length ≤ 256 := by
    split
    · rw [hwB_len]; exact Nat.le_refl _
    · exact Nat.zero_le _
  omega
theorem sp_writeNodes (hX : mW h t G L2 T cn tr K Lf R) (hc : chM h N (sCd G) c1 c2) (hN : N ≤ 2000) (hLN : ∀ m ∈ L2, m < N) (hnd : L2.Nodup) (hcl : df_cl c1 c2 L2) (hl1 : 1 ≤ L2.length) (hl2 : L2.length ≤ 400) (hG : ∀ m ∈ L2, sNo t G m) (hb : mkB h [])
    (hp : ∀ h', Fr wdR [(102, 92)] h h' → mkB h' (ntT L2.length ++ L2.flatMap (nbT G c1 c2 L2)) → (ntT L2.length ++ L2.flatMap (nbT G c1 c2 L2)).length ≤ 1000000 → post none h') : xm_T (XE sc) (d + 4) 326 [.ref 102] h post := by
  have loop : ∀ (B A : List Nat) (h1 : xm_H), L2 = A ++ B → Fr wdR [(102, 92)] h h1 → (∀ m ∈ A, h1.1 161 m = nI (ixF L2 m)) → mkB h1 (ntT L2.length ++ A.flatMap (nbT G c1 c2 L2)) → (ntT L2.length ++ A.flatMap (nbT G c1 c2 L2)).length ≤ 130 + 600 * A.length → xm_go (XE sc) (xm_T (XE sc) (d + 3)) 326 post 10 [(1, .int (nI A.length)), (0, .ref 102)] [] h1 := by
    intro B
    induction B with
    | nil =>
      intro A h1 hAB f1 hA b1 hbl
      rw [List.append_nil] at hAB
      subst hAB
      have y3 := (mW_wd hX f1).2.2.1
      with_reducible refine xm_go_blk b_X12_writeNodes_10 k_X12_writeNodes_10 ?_
      refine by_iload_n rfl ?_
      refine by_aload_n rfl ?_
      refine by_getf cn_326 fl_12_226 (by first | exact rfl | assumption) (by decide) ?_
      simp (disch := first | exact Nat.ne_of_beq_eq_false rfl | exact rfl | omega) only [nI_add, xa_sub, xa_mul, pk_div, nm_mod, xa_shr, xa_and7, xa_and1, xa_and255, xa_by_and, nI_m1, Nat.add_sub_cancel, Nat.reducePow, Nat.zero_add, Nat.add_zero, Nat.reduceAdd, Nat.reduceMul, Nat.reduceSub, xf_same, xq_ff, xq_fo, xf_1, xf_2, xs_1, xs_2, xs_same, xq_so, xj_1, xj_2, xj_same, xq_jo, xq_sa1, xq_same, xq_other, upd_s, oI_n, oI_s, y3]
      refine by_ic_ge 166 rfl ?_
      simp (disch := first | exact Nat.ne_of_beq_eq_false rfl | exact rfl | omega) only [nI_add, xa_sub, xa_mul, pk_div, nm_mod, xa_shr, xa_and7, xa_and1, xa_and255, xa_by_and, nI_m1, Nat.add_sub_cancel, Nat.reducePow, Nat.zero_add, Nat.add_zero, Nat.reduceAdd, Nat.reduceMul, Nat.reduceSub, xf_same, xq_ff, xq_fo, xf_1, xf_2, xs_1, xs_2, xs_same, xq_so, xj_1, xj_2, xj_same, xq_jo, xq_sa1, xq_same, xq_other, upd_s, oI_n, oI_s, xv_0, xv_1, xv_2, xv_3, xm_p1, xm_p2, xq_fp, xq_fn, List.filter_nil, Nat.reduceBEq, Bool.not_true, Bool.not_false, Bool.and_true, Bool.and_false, Bool.false_and, Bool.true_and, if_true, if_false, Bool.false_eq_true, reduceIte, xc_i, xc_j, xc_r, xc_n, List.nil_append, List.cons_append, Option.toList_some, Option.toList_none, nI_ltJ, nI_leJ, nI_eqJ, nI_ltz, nI_gez, nI_gtz, nI_lez, nI_eqz, m1_ltz, m1_gez, true_imp_iff, false_imp_iff, true_and, and_true, ne_eq, not_false_eq_true, not_true_eq_false, Nat.reduceEqDiff, Nat.reduceLT, Nat.reduceLeDiff, y3]
      refine ⟨fun c10 => ?_, fun c => absurd (by omega) c⟩
      with_reducible refine xm_go_blk b_X12_writeNodes_166 k_X12_writeNodes_166 ?_
      refine by_ret ry_326 ?_
      exact hp h1 f1 b1 (by omega)
    | cons n B ih =>
      intro A h1 hAB f1 hA b1 hbl
      have X1 := mW_wd hX f1
      have X10 := X1
      obtain ⟨F1, y2, y3, y4, y5, y6⟩ := X1
      have hmem : n ∈ L2 := by rw [hAB]; simp
      have hAl : A.length < L2.length := by rw [hAB]; simp
      have hget : L2.getD A.length 0 = n := by rw [hAB]; simp [List.getD]
      have e8 : h1.1 113 A.length = nI n := by rw [y4 _ hAl, hget]
      have hix : A.length = ixF L2 n := by
        have := ixF_of hnd hAl
        rw [hget] at this
        exact this.symm
      have nN := hLN n hmem
      have n2 := (y6 n hmem).1
      have g1 := (hG n hmem).1
      have hAL : ∀ x ∈ A, x ∈ L2 := fun x hx => by rw [hAB]; simp [hx]
      have hchA : ∀ x, (c1 n = some x ∨ c2 n = some x) → x ∈ A ∧ ixF L2 x < ixF L2 n := fun x hx => by
        have hxA := hcl A n B hAB x hx
        refine ⟨hxA, ?_⟩
        obtain ⟨i, hi, ei⟩ := List.getElem_of_mem hxA
        have e1 : L2.getD i 0 = x := by
          rw [hAB, List.getD_eq_getElem?_getD, List.getElem?_append_left hi, List.getElem?_eq_getElem hi, ei]; rfl
        have z1 := ixF_of hnd (i := i) (by omega)
        rw [e1] at z1
        omega
      have hnA : n ∉ A := nd_mid hnd hAB
      have eF : (A ++ [n]).flatMap (nbT G c1 c2 L2) = A.flatMap (nbT G c1 c2 L2) ++ nbT G c1 c2 L2 n := by simp
      have nbl := nbT_len (G := G) (fun x hx => (hchA x hx).2) (by omega)
      have eA1 : (A ++ [n]).length = A.length + 1 := by simp
      have kk := fun h2 f2 hA2 b2 => ih (A ++ [n]) h2 (by rw [hAB]; simp) f2 hA2 b2 (by rw [eF, ← List.append_assoc, List.length_append, eA1]; omega)
      rw [eA1] at kk
      generalize hbl0 : ntT L2.length ++ A.flatMap (nbT G c1 c2 L2) = bl0 at *
      have f2 : Fr [161] [] h1 (xm_si h1 161 n (nI A.length)) := Fr_si Fr_rf (by simp)
      have fy : Fr wdR [(102, 92)] h1 (xm_si h1 161 n (nI A.length)) := Fr_mo f2 (by simp) (by simp)
      have w5 := (y6 n hmem).2.1
      have b2 : mkB (xm_si h1 161 n (nI A.length)) bl0 := ⟨b1.1, b1.2.1, b1.2.2.1, fun j hj1 hj2 => by rw [xq_so (by decide)]; exact b1.2.2.2 j hj1 hj2⟩
      have e161 : ∀ m ∈ A ++ [n], (xm_si h1 161 n (nI A.length)).1 161 m = nI (ixF L2 m) := fun m hm => by
        rw [xs_same]
        by_cases q : m = n
        · subst q; rw [upd_s, hix]
        · rw [upd_o q]
          rcases List.mem_append.mp hm with z | z
          · exact hA m z
          · exact absurd (List.mem_singleton.mp z) q
      with_reducible refine xm_go_blk b_X12_writeNodes_10 k_X12_writeNodes_10 ?_
      refine by_iload_n rfl ?_
      refine by_aload_n rfl ?_
      refine by_getf cn_326 fl_12_226 (by first | exact rfl | assumption) (by decide) ?_
      simp (disch := first | exact Nat.ne_of_beq_eq_false rfl | exact rfl | omega) only [nI_add, xa_sub, xa_mul, pk_div, nm_mod, xa_shr, xa_and7, xa_and1, xa_and255, xa_by_and, nI_m1, Nat.add_sub_cancel, Nat.reducePow, Nat.zero_add, Nat.add_zero, Nat.reduceAdd, Nat.reduceMul, Nat.reduceSub, xf_same, xq_ff, xq_fo, xf_1, xf_2, xs_1, xs_2, xs_same, xq_so, xj_1, xj_2, xj_same, xq_jo, xq_sa1, xq_same, xq_other, upd_s, oI_n, oI_s, y3, xf_102_15 F1, e8, xf_102_91 F1, xf_102_6 F1, w5]
      refine by_ic_ge 166 rfl ?_
      simp (disch := first | exact Nat.ne_of_beq_eq_false rfl | exact rfl | omega) only [nI_add, xa_sub, xa_mul, pk_div, nm_mod, xa_shr, xa_and7, xa_and1, xa_and255, xa_by_and, nI_m1, Nat.add_sub_cancel, Nat.reducePow, Nat.zero_add, Nat.add_zero, Nat.reduceAdd, Nat.reduceMul, Nat.reduceSub, xf_same, xq_ff, xq_fo, xf_1, xf_2, xs_1, xs_2, xs_same, xq_so, xj_1, xj_2, xj_same, xq_jo, xq_sa1, xq_same, xq_other, upd_s, oI_n, oI_s, xv_0, xv_1, xv_2, xv_3, xm_p1, xm_p2, xq_fp, xq_fn, List.filter_nil, Nat.reduceBEq, Bool.not_true, Bool.not_false, Bool.and_true, Bool.and_false, Bool.false_and, Bool.true_and, if_true, if_false, Bool.false_eq_true, reduceIte, xc_i, xc_j, xc_r, xc_n, List.nil_append, List.cons_append, Option.toList_some, Option.toList_none, nI_ltJ, nI_leJ, nI_eqJ, nI_ltz, nI_gez, nI_gtz, nI_lez, nI_eqz, m1_ltz, m1_gez, true_imp_iff, false_imp_iff, true_and, and_true, ne_eq, not_false_eq_true, not_true_eq_false, Nat.reduceEqDiff, Nat.reduceLT, Nat.reduceLeDiff, y3, xf_102_15 F1, e8, xf_102_91 F1, xf_102_6 F1, w5]
      refine ⟨fun c => absurd c (by omega), fun c10 => ?_⟩
      with_reducible refine xm_go_blk b_X12_writeNodes_18 k_X12_writeNodes_18 ?_
      refine by_aload_n rfl ?_
      refine by_getf cn_326 fl_12_40 (by first | exact rfl | assumption) (by decide) ?_
      refine by_iload_n rfl ?_
      simp (disch := first | exact Nat.ne_of_beq_eq_false rfl | exact rfl | omega) only [nI_add, xa_sub, xa_mul, pk_div, nm_mod, xa_shr, xa_and7, xa_and1, xa_and255, xa_by_and, nI_m1, Nat.add_sub_cancel, Nat.reducePow, Nat.zero_add, Nat.add_zero, Nat.reduceAdd, Nat.reduceMul, Nat.reduceSub, xf_same, xq_ff, xq_fo, xf_1, xf_2, xs_1, xs_2, xs_same, xq_so, xj_1, xj_2, xj_same, xq_jo, xq_sa1, xq_same, xq_other, upd_s, oI_n, oI_s, y3, xf_102_15 F1, e8, xf_102_91 F1, xf_102_6 F1, w5]
      first | refine by_iald (by first | exact rfl | assumption | exact ps_1 hpp | exact ps_2 hpp | exact ps_3 hpp | exact ps_4 hpp | exact ps_5 hpp | exact ps_6 hpp | exact ps_7 hpp | exact ps_8 hpp | exact ps_9 hpp | exact ps_10 hpp | exact ps_11 hpp | exact ps_15 hpp | exact ps_16 hpp | exact ps_17 hpp | exact ps_18 hpp | exact ps_19 hpp | exact ps_21 hpp | exact ps_22 hpp | exact ps_23 hpp | exact ps_24 hpp) ⟨by omega, by omega⟩ ?_ | refine by_tald rfl rfl ⟨by omega, by omega⟩ ?_
      refine by_istore_n (by rw [ml_326]; decide) ?_
      refine by_aload_n rfl ?_
      refine by_getf cn_326 fl_12_190 (by first | exact rfl | assumption) (by decide) ?_
      refine by_iload_n rfl ?_
      refine by_iload_n rfl ?_
      simp (disch := first | exact Nat.ne_of_beq_eq_false rfl | exact rfl | omega) only [nI_add, xa_sub, xa_mul, pk_div, nm_mod, xa_shr, xa_and7, xa_and1, xa_and255, xa_by_and, nI_m1, Nat.add_sub_cancel, Nat.reducePow, Nat.zero_add, Nat.add_zero, Nat.reduceAdd, Nat.reduceMul, Nat.reduceSub, xf_same, xq_ff, xq_fo, xf_1, xf_2, xs_1, xs_2, xs_same, xq_so, xj_1, xj_2, xj_same, xq_jo, xq_sa1, xq_same, xq_other, upd_s, oI_n, oI_s, y3, xf_102_15 F1, e8, xf_102_91 F1, xf_102_6 F1, w5]
      refine by_iast (by first | exact rfl | assumption | exact ps_1 hpp | exact ps_2 hpp | exact ps_3 hpp | exact ps_4 hpp | exact ps_5 hpp | exact ps_6 hpp | exact ps_7 hpp | exact ps_8 hpp | exact ps_9 hpp | exact ps_10 hpp | exact ps_11 hpp | exact ps_15 hpp | exact ps_16 hpp | exact ps_17 hpp | exact ps_18 hpp | exact ps_19 hpp | exact ps_21 hpp | exact ps_22 hpp | exact ps_23 hpp | exact ps_24 hpp) ⟨by omega, by omega⟩ ?_
      refine by_aload_n rfl ?_
      refine by_aload_n rfl ?_
      refine by_getf cn_326 fl_12_16 (by first | exact rfl | assumption) (by decide) ?_
      refine by_iload_n rfl ?_
      simp (disch := first | exact Nat.ne_of_beq_eq_false rfl | exact rfl | omega) only [nI_add, xa_sub, xa_mul, pk_div, nm_mod, xa_shr, xa_and7, xa_and1, xa_and255, xa_by_and, nI_m1, Nat.add_sub_cancel, Nat.reducePow, Nat.zero_add, Nat.add_zero, Nat.reduceAdd, Nat.reduceMul, Nat.reduceSub, xf_same, xq_ff, xq_fo, xf_1, xf_2, xs_1, xs_2, xs_same, xq_so, xj_1, xj_2, xj_same, xq_jo, xq_sa1, xq_same, xq_other, upd_s, oI_n, oI_s, y3, xf_102_15 F1, e8, xf_102_91 F1, xf_102_6 F1, w5]
      first | refine by_iald (by first | exact rfl | assumption | exact ps_1 hpp | exact ps_2 hpp | exact ps_3 hpp | exact ps_4 hpp | exact ps_5 hpp | exact ps_6 hpp | exact ps_7 hpp | exact ps_8 hpp | exact ps_9 hpp | exact ps_10 hpp | exact ps_11 hpp | exact ps_15 hpp | exact ps_16 hpp | exact ps_17 hpp | exact ps_18 hpp | exact ps_19 hpp | exact ps_21 hpp | exact ps_22 hpp | exact ps_23 hpp | exact ps_24 hpp) ⟨by omega, by omega⟩ ?_ | refine by_tald rfl rfl ⟨by omega, by omega⟩ ?_
      refine by_iconst ci_5 ?_
      simp (disch := first | exact Nat.ne_of_beq_eq_false rfl | exact rfl | omega) only [nI_add, xa_sub, xa_mul, pk_div, nm_mod, xa_shr, xa_and7, xa_and1, xa_and255, xa_by_and, nI_m1, Nat.add_sub_cancel, Nat.reducePow, Nat.zero_add, Nat.add_zero, Nat.reduceAdd, Nat.reduceMul, Nat.reduceSub, xf_same, xq_ff, xq_fo, xf_1, xf_2, xs_1, xs_2, xs_same, xq_so, xj_1, xj_2, xj_same, xq_jo, xq_sa1, xq_same, xq_other, upd_s, oI_n, oI_s, xv_0, xv_1, xv_2, xv_3, xm_p1, xm_p2, xq_fp, xq_fn, List.filter_nil, Nat.reduceBEq, Bool.not_true, Bool.not_false, Bool.and_true, Bool.and_false, Bool.false_and, Bool.true_and, if_true, if_false, Bool.false_eq_true, reduceIte, xc_i, xc_j, xc_r, xc_n, List.nil_append, List.cons_append, Option.toList_some, Option.toList_none, y3, xf_102_15 F1, e8, xf_102_91 F1, xf_102_6 F1, w5]
      refine by_inv2 cn_326 lk_12_666 (by rw [xe_cnt]; decide) is_324 np_324 cn_324 (by first | exact rfl | assumption) (Nat.le_of_ble_eq_true rfl) ?_
      generalize xm_si h1 161 n (nI A.length) = h2 at *
      have X2 := mW_wd X10 fy
      refine sp_writeBits (d := d + 1) (n := 5) (g := fun j => sCd G n / 2 ^ j % 2) X2.1 b2 (by omega) (by omega) (fun j hj => bit_n (by omega) (by omega)) (fun h3 f3 b3 => ?_)
      have f3' : Fr wnR [(102, 92)] h2 h3 := Fr_mo f3 (by simp) (fun _ z => z)
      have X3 := mW_wn X2 f3'
      have lb3 : (bl0 ++ hiB (fun j => sCd G n / 2 ^ j % 2) 5).length + 700 < 1000000000 := by rw [List.length_append, hiB_len]; omega
      refine xm_go_wk (by simp [Value.category]) (wd_43 (N := N) (k := A.length) X3 (chM_f2 (chM_f2 (chM_f2 hc f1 (by simp) (by simp) (by simp)) fy (by simp) (by simp) (by simp)) f3' (by simp) (by simp) (by simp)) hN nN hix (by omega) (fun x hx => ?_) hmem (hG n hmem) b3 lb3 (fun h4 f4 b4 => ?_))
      · obtain ⟨xA, xi⟩ := hchA x hx
        refine ⟨hLN x (hAL x xA), ?_, xi⟩
        rw [f3'.1 161 (by simp)]
        exact e161 x (by simp [xA])
      · with_reducible refine xm_go_blk b_X12_writeNodes_160 k_X12_writeNodes_160 ?_
        refine by_iinc (by rw [ml_326]; decide) rfl ci_1 ?_
        refine by_goto 10 rfl ?_
        try simp (disch := first | exact Nat.ne_of_beq_eq_false rfl | exact rfl | omega) only [nI_add, xa_sub, xa_mul, pk_div, nm_mod, xa_shr, xa_and7, xa_and1, xa_and255, xa_by_and, nI_m1, Nat.add_sub_cancel, Nat.reducePow, Nat.zero_add, Nat.add_zero, Nat.reduceAdd, Nat.reduceMul, Nat.reduceSub, xf_same, xq_ff, xq_fo, xf_1, xf_2, xs_1, xs_2, xs_same, xq_so, xj_1, xj_2, xj_same, xq_jo, xq_sa1, xq_same, xq_other, upd_s, oI_n, oI_s, xv_0, xv_1, xv_2, xv_3, xm_p1, xm_p2, xq_fp, xq_fn, List.filter_nil, Nat.reduceBEq, Bool.not_true, Bool.not_false, Bool.and_true, Bool.and_false, Bool.false_and, Bool.true_and, if_true, if_false, Bool.false_eq_true, reduceIte, xc_i, xc_j, xc_r, xc_n, List.nil_append, List.cons_append, Option.toList_some, Option.toList_none]
        refine xm_go_wk (by simp [Value.category]) (kk h4 (Fr_tr f1 (Fr_tr fy (Fr_mo (Fr_tr f3' f4 (fun _ z => z) (fun _ z => z)) (by simp) (fun _ z => z)) (fun _ z => z) (fun _ z => z)) (fun _ z => z) (fun _ z => z)) (fun m hm => ?_) ?_)
        · rw [f4.1 161 (by simp), f3'.1 161 (by simp)]
          exact e161 m hm
        · rw [eF, ← List.append_assoc, hbl0]
          unfold nbT
          simpa only [List.append_assoc] using b4
  have y3 := hX.2.2.1
  refine xq_in rfl ?_
  simp only [xq_a0, xq_aI, xq_aJ, xq_aR, Nat.reduceAdd]
  with_reducible refine xm_go_blk b_X12_writeNodes_0 k_X12_writeNodes_0 ?_
  refine by_aload_n rfl ?_
  refine by_aload_n rfl ?_
  refine by_getf cn_326 fl_12_226 (by first | exact rfl | assumption) (by decide) ?_
  simp (disch := first | exact Nat.ne_of_beq_eq_false rfl | exact rfl | omega) only [nI_add, xa_sub, xa_mul, pk_div, nm_mod, xa_shr, xa_and7, xa_and1, xa_and255, xa_by_and, nI_m1, Nat.add_sub_cancel, Nat.reducePow, Nat.zero_add, Nat.add_zero, Nat.reduceAdd, Nat.reduceMul, Nat.reduceSub, xf_same, xq_ff, xq_fo, xf_1, xf_2, xs_1, xs_2, xs_same, xq_so, xj_1, xj_2, xj_same, xq_jo, xq_sa1, xq_same, xq_other, upd_s, oI_n, oI_s, xv_0, xv_1, xv_2, xv_3, xm_p1, xm_p2, xq_fp, xq_fn, List.filter_nil, Nat.reduceBEq, Bool.not_true, Bool.not_false, Bool.and_true, Bool.and_false, Bool.false_and, Bool.true_and, if_true, if_false, Bool.false_eq_true, reduceIte, xc_i, xc_j, xc_r, xc_n, List.nil_append, List.cons_append, Option.toList_some, Option.toList_none, y3]
  refine by_inv1 cn_326 lk_12_670 (by rw [xe_cnt]; decide) is_325 np_325 cn_325 (by first | exact rfl | assumption) (Nat.le_of_ble_eq_true rfl) ?_
  refine sp_writeNatural (d := d) hX.1 hb hl1 (by omega) (by simp) (fun h2 f2 b2 => ?_)
  rw [List.nil_append] at b2
  have nl := ntT_len hl1 (show L2.length < 2147483648 by omega)
  with_reducible refine xm_go_blk b_X12_writeNodes_8 k_X12_writeNodes_8 ?_
  refine by_iconst ci_0 ?_
  refine by_istore_n (by rw [ml_326]; decide) ?_
  refine by_nil ?_
  try simp (disch := first | exact Nat.ne_of_beq_eq_false rfl | exact rfl | omega) only [nI_add, xa_sub, xa_mul, pk_div, nm_mod, xa_shr, xa_and7, xa_and1, xa_and255, xa_by_and, nI_m1, Nat.add_sub_cancel, Nat.reducePow, Nat.zero_add, Nat.add_zero, Nat.reduceAdd, Nat.reduceMul, Nat.reduceSub, xf_same, xq_ff, xq_fo, xf_1, xf_2, xs_1, xs_2, xs_same, xq_so, xj_1, xj_2, xj_same, xq_jo, xq_sa1, xq_same, xq_other, upd_s, oI_n, oI_s, xv_0, xv_1, xv_2, xv_3, xm_p1, xm_p2, xq_fp, xq_fn, List.filter_nil, Nat.reduceBEq, Bool.not_true, Bool.not_false, Bool.and_true, Bool.and_false, Bool.false_and, Bool.true_and, if_true, if_false, Bool.false_eq_true, reduceIte, xc_i, xc_j, xc_r, xc_n, List.nil_append, List.cons_append, Option.toList_some, Option.toList_none]
  exact xm_go_wk (by simp [Value.category]) (loop L2 [] h2 rfl (Fr_mo f2 (by simp) (fun _ z => z)) (fun m hm => nomatch hm) (by simpa using b2) (by simpa using nl))
end SY
