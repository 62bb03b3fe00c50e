/-! ===== jets of the reference: take, put, below, maskOf ===== -/
/-- written: a row of bits at t -/
def rWr (h h' : xm_H) (t : Nat) (a : List Bool) : Prop := Fr [145] [] h h' ∧ rBt h' t a.length (mc_ex a) ∧ ∀ j, (j < t ∨ t + a.length ≤ j) → h'.1 145 j = h.1 145 j
theorem rWr_app {h h1 h2 : xm_H} {t : Nat} {a b : List Bool} (w1 : rWr h h1 t a) (w2 : rWr h1 h2 (t + a.length) b) : rWr h h2 t (a ++ b) := by
  refine ⟨Fr_tr w1.1 w2.1 (fun _ z => z) (fun _ z => z), fun j hj => ?_, fun j hj => ?_⟩
  · rw [List.length_append] at hj
    by_cases e : j < a.length
    · rw [w2.2.2 _ (by omega), w1.2.1 j e]
      show nI (a.getD j false).toNat = nI ((a ++ b).getD j false).toNat
      rw [List.getD_eq_getElem?_getD, List.getD_eq_getElem?_getD, List.getElem?_append_left e]
    · have := w2.2.1 (j - a.length) (by omega)
      rw [show t + a.length + (j - a.length) = t + j by omega] at this
      rw [this]
      show nI (b.getD (j - a.length) false).toNat = nI ((a ++ b).getD j false).toNat
      rw [List.getD_eq_getElem?_getD, List.getD_eq_getElem?_getD, List.getElem?_append_right (by omega)]
  · rw [List.length_append] at hj
    rw [w2.2.2 j (by omega), w1.2.2 j (by omega)]
theorem rWr_1 {h : xm_H} {t b : Nat} (hb : b < 2) : rWr h (xm_si h 145 t (nI b)) t (bbits 1 b) := by
  refine ⟨Fr_si Fr_rf (by simp), fun j hj => ?_, fun j hj => ?_⟩
  · rw [bbits_len] at hj
    have : j = 0 := by omega
    subst this
    show _ = nI ((bbits 1 b).getD 0 false).toNat
    rw [bbits_get 1 b 0 (by decide)]
    rcases (by omega : b = 0 ∨ b = 1) with rfl | rfl <;> simp [xm_si, upd]
  · rw [bbits_len] at hj
    have : j ≠ t := by omega
    simp [xm_si, upd, this]
theorem rBt_sh {h : xm_H} {p o n m : Nat} {u : Nat → Bool} (hB : rBt h p m u) (ho : o + n ≤ m) : rBt h (p + o) n (mc_sh u o) := fun j hj => by
  rw [Nat.add_assoc]; exact hB (o + j) (by omega)
theorem asr1 {v k : Nat} (hk : k < 64) : (lN v >>> ((nI k).toInt64 &&& 63)) &&& lN 1 = lN (v / 2 ^ k % 2) := by
  rw [wb_c k hk]
  apply wb_inj
  apply BitVec.eq_of_getLsbD_eq
  intro i hi
  have hkt : (BitVec.ofNat 64 k).toNat = k := by rw [BitVec.toNat_ofNat]; exact Nat.mod_eq_of_lt (by omega)
  rw [Int64.toBitVec_and, Int64.toBitVec_shiftRight, wb_tb, wb_tb, wb_tb, wb_tb, wb_sm k hk, BitVec.getLsbD_and, BitVec.getLsbD_sshiftRight', BitVec.getLsbD_ofNat, BitVec.getLsbD_ofNat, BitVec.getLsbD_ofNat, hkt]
  by_cases e : i = 0
  · subst e
    rw [Nat.testBit_eq_decide_div_mod_eq, Nat.testBit_eq_decide_div_mod_eq]
    simp [hk]
  · have h1 : (1 : Nat).testBit i = false := Nat.testBit_lt_two_pow (Nat.one_lt_two_pow e)
    have h2 : (v / 2 ^ k % 2).testBit i = false := Nat.testBit_lt_two_pow (Nat.lt_of_lt_of_le (Nat.mod_lt _ (by decide)) (Nat.one_lt_two_pow e))
    rw [h1, h2]; simp
theorem pm_x {a : Nat} (ha : a < 2 ^ 64) : lN a + (-9223372036854775808) = lN a ^^^ (-9223372036854775808) := by
  apply Int64.toInt_inj.mp
  rw [xorS ha, show (-9223372036854775808 : Int64) = lN (2 ^ 63) by decide, lN_pl, wb_mod, lN_ti (Nat.mod_lt _ (by decide))]
  split <;> omega
section RJ
variable {sc : xm_Sc} {d : Nat} {h : xm_H} {post : xm_Po}
theorem sp_rtake {p n : Nat} {u : Nat → Bool} (hF : XF h) (hn : n ≤ 64) (hpn : p + n ≤ 824000) (hB : rBt h p n u) (hp : post (some (.long (lN (mc_n u 0 n)))) h) : xm_T (XE sc) (d + 1) 299 [.ref 102, .int (nI p), .int (nI n)] h post := by
  have key : ∀ (y z : Nat), z + y = n → xm_go (XE sc) (xm_T (XE sc) d) 299 post 5 [(5, .int (nI z)), (3, .long (lN (mc_n u 0 z))), (0, .ref 102), (1, .int (nI p)), (2, .int (nI n))] [] h := by
    intro y
    induction y with
    | zero =>
      intro z hz
      have : z = n := by omega
      subst this
      with_reducible refine xm_go_blk b_X12_take_5 k_X12_take_5 ?_
      refine by_iload rfl ?_
      refine by_iload_n rfl ?_
      refine by_ic_ge 32 rfl ?_
      simp (disch := first | exact Nat.ne_of_beq_eq_false rfl | exact rfl | omega) only [nI_add, xa_sub, xa_mul, pk_div, nm_mod, xa_shr, xa_and7, xa_and1, xa_and255, xa_by_and, nI_m1, Nat.add_sub_cancel, Nat.reducePow, Nat.zero_add, Nat.add_zero, Nat.reduceAdd, Nat.reduceMul, Nat.reduceSub, xf_same, xq_ff, xq_fo, xf_1, xf_2, xs_1, xs_2, xs_same, xq_so, xj_1, xj_2, xj_same, xq_jo, xq_sa1, xq_same, xq_other, upd_s, oI_n, oI_s, xv_0, xv_1, xv_2, xv_3, xm_p1, xm_p2, xq_fp, xq_fn, List.filter_nil, Nat.reduceBEq, Bool.not_true, Bool.not_false, Bool.and_true, Bool.and_false, Bool.false_and, Bool.true_and, if_true, if_false, Bool.false_eq_true, reduceIte, xc_i, xc_j, xc_r, xc_n, List.nil_append, List.cons_append, Option.toList_some, Option.toList_none, nI_ltJ, nI_leJ, nI_eqJ, nI_ltz, nI_gez, nI_gtz, nI_lez, nI_eqz, m1_ltz, m1_gez, true_imp_iff, false_imp_iff, true_and, and_true, ne_eq, not_false_eq_true, not_true_eq_false, Nat.reduceEqDiff, Nat.reduceLT, Nat.reduceLeDiff]
      refine ⟨fun c5 => ?_, fun c => absurd (by omega) c⟩
      with_reducible refine xm_go_blk b_X12_take_32 k_X12_take_32 ?_
      refine by_lload_n rfl ?_
      refine by_lret ry_299 ?_
      exact hp
    | succ y ih =>
      intro z hz
      have eb : h.1 145 (p + z) = nI (u z).toNat := hB z (by omega)
      have eu : (u z).toNat < 2 := by cases u z <;> decide
      have i2 : (nI (u z).toNat).toInt64 = lN (u z).toNat := i2l_n (by omega)
      have hlt := mc_n_lt u 0 z
      have hp64 : 2 ^ (z + 1) ≤ 2 ^ 64 := Nat.pow_le_pow_right (by decide) (by omega)
      rw [Nat.pow_succ] at hp64
      have eo : lN (mc_n u 0 z) <<< ((nI 1).toInt64 &&& 63) ||| lN (u z).toNat = lN (mc_n u 0 (z + 1)) := by
        rw [wb_shl _ (by decide), g_or (k := 1) rfl (by omega) (by omega), mc_n_s, Nat.zero_add]
        congr 1; omega
      with_reducible refine xm_go_blk b_X12_take_5 k_X12_take_5 ?_
      refine by_iload rfl ?_
      refine by_iload_n rfl ?_
      refine by_ic_ge 32 rfl ?_
      simp (disch := first | exact Nat.ne_of_beq_eq_false rfl | exact rfl | omega) only [nI_add, xa_sub, xa_mul, pk_div, nm_mod, xa_shr, xa_and7, xa_and1, xa_and255, xa_by_and, nI_m1, Nat.add_sub_cancel, Nat.reducePow, Nat.zero_add, Nat.add_zero, Nat.reduceAdd, Nat.reduceMul, Nat.reduceSub, xf_same, xq_ff, xq_fo, xf_1, xf_2, xs_1, xs_2, xs_same, xq_so, xj_1, xj_2, xj_same, xq_jo, xq_sa1, xq_same, xq_other, upd_s, oI_n, oI_s, xv_0, xv_1, xv_2, xv_3, xm_p1, xm_p2, xq_fp, xq_fn, List.filter_nil, Nat.reduceBEq, Bool.not_true, Bool.not_false, Bool.and_true, Bool.and_false, Bool.false_and, Bool.true_and, if_true, if_false, Bool.false_eq_true, reduceIte, xc_i, xc_j, xc_r, xc_n, List.nil_append, List.cons_append, Option.toList_some, Option.toList_none, nI_ltJ, nI_leJ, nI_eqJ, nI_ltz, nI_gez, nI_gtz, nI_lez, nI_eqz, m1_ltz, m1_gez, true_imp_iff, false_imp_iff, true_and, and_true, ne_eq, not_false_eq_true, not_true_eq_false, Nat.reduceEqDiff, Nat.reduceLT, Nat.reduceLeDiff, xf_102_58 hF, eb, i2, eo]
      refine ⟨fun c => absurd c (by omega), fun c5 => ?_⟩
      with_reducible refine xm_go_blk b_X12_take_11 k_X12_take_11 ?_
      refine by_lload_n rfl ?_
      refine by_iconst ci_1 ?_
      refine by_lshl ?_
      refine by_aload_n rfl ?_
      refine by_getf cn_299 fl_12_141 (by first | exact rfl | assumption) (by decide) ?_
      refine by_iload_n rfl ?_
      refine by_iload rfl ?_
      refine by_iadd ?_
      simp (disch := first | exact Nat.ne_of_beq_eq_false rfl | exact rfl | omega) only [nI_add, xa_sub, xa_mul, pk_div, nm_mod, xa_shr, xa_and7, xa_and1, xa_and255, xa_by_and, nI_m1, Nat.add_sub_cancel, Nat.reducePow, Nat.zero_add, Nat.add_zero, Nat.reduceAdd, Nat.reduceMul, Nat.reduceSub, xf_same, xq_ff, xq_fo, xf_1, xf_2, xs_1, xs_2, xs_same, xq_so, xj_1, xj_2, xj_same, xq_jo, xq_sa1, xq_same, xq_other, upd_s, oI_n, oI_s, xf_102_58 hF, eb, i2, eo]
      first | refine by_bald (Or.inl rfl) (by first | exact rfl | assumption | exact ps_13 hpp) ⟨by omega, by omega⟩ ?_ | refine by_bald (Or.inr rfl) (by first | exact rfl | assumption | exact ps_20 hpp) ⟨by omega, by omega⟩ ?_
      refine by_i2l ?_
      refine by_lor ?_
      refine by_lstore_n (by rw [ml_299]; decide) ?_
      refine by_iinc (by rw [ml_299]; decide) rfl ci_1 ?_
      refine by_goto 5 rfl ?_
      try simp (disch := first | exact Nat.ne_of_beq_eq_false rfl | exact rfl | omega) only [nI_add, xa_sub, xa_mul, pk_div, nm_mod, xa_shr, xa_and7, xa_and1, xa_and255, xa_by_and, nI_m1, Nat.add_sub_cancel, Nat.reducePow, Nat.zero_add, Nat.add_zero, Nat.reduceAdd, Nat.reduceMul, Nat.reduceSub, xf_same, xq_ff, xq_fo, xf_1, xf_2, xs_1, xs_2, xs_same, xq_so, xj_1, xj_2, xj_same, xq_jo, xq_sa1, xq_same, xq_other, upd_s, oI_n, oI_s, xv_0, xv_1, xv_2, xv_3, xm_p1, xm_p2, xq_fp, xq_fn, List.filter_nil, Nat.reduceBEq, Bool.not_true, Bool.not_false, Bool.and_true, Bool.and_false, Bool.false_and, Bool.true_and, if_true, if_false, Bool.false_eq_true, reduceIte, xc_i, xc_j, xc_r, xc_n, List.nil_append, List.cons_append, Option.toList_some, Option.toList_none, xf_102_58 hF, eb, i2, eo]
      exact xm_go_wk (by simp [Value.category]) (ih (z + 1) (by omega))
  refine xq_in rfl ?_
  simp only [xq_a0, xq_aI, xq_aJ, xq_aR, Nat.reduceAdd]
  with_reducible refine xm_go_blk b_X12_take_0 k_X12_take_0 ?_
  refine by_lconst cl_0 ?_
  refine by_lstore_n (by rw [ml_299]; decide) ?_
  refine by_iconst ci_0 ?_
  refine by_istore (by rw [ml_299]; decide) ?_
  refine by_nil ?_
  try simp (disch := first | exact Nat.ne_of_beq_eq_false rfl | exact rfl | omega) only [nI_add, xa_sub, xa_mul, pk_div, nm_mod, xa_shr, xa_and7, xa_and1, xa_and255, xa_by_and, nI_m1, Nat.add_sub_cancel, Nat.reducePow, Nat.zero_add, Nat.add_zero, Nat.reduceAdd, Nat.reduceMul, Nat.reduceSub, xf_same, xq_ff, xq_fo, xf_1, xf_2, xs_1, xs_2, xs_same, xq_so, xj_1, xj_2, xj_same, xq_jo, xq_sa1, xq_same, xq_other, upd_s, oI_n, oI_s, xv_0, xv_1, xv_2, xv_3, xm_p1, xm_p2, xq_fp, xq_fn, List.filter_nil, Nat.reduceBEq, Bool.not_true, Bool.not_false, Bool.and_true, Bool.and_false, Bool.false_and, Bool.true_and, if_true, if_false, Bool.false_eq_true, reduceIte, xc_i, xc_j, xc_r, xc_n, List.nil_append, List.cons_append, Option.toList_some, Option.toList_none]
  have k0 := key n 0 (by omega)
  rw [mc_n_0] at k0
  exact xm_go_wk (by simp [Value.category]) k0
theorem sp_rput {p n v : Nat} (hF : XF h) (hn : n ≤ 64) (hpn : p + n ≤ 824000) (hp : ∀ h', rWr h h' p (bbits n v) → post none h') : xm_T (XE sc) (d + 1) 279 [.ref 102, .int (nI p), .int (nI n), .long (lN v)] h post := by
  have key : ∀ (y z : Nat) (h2 : xm_H), z + y = n → Fr [145] [] h h2 → (∀ j, j < z → h2.1 145 (p + j) = nI (v / 2 ^ (n - 1 - j) % 2)) → (∀ j, (j < p ∨ p + z ≤ j) → h2.1 145 j = h.1 145 j) → xm_go (XE sc) (xm_T (XE sc) d) 279 post 3 [(5, .int (nI z)), (0, .ref 102), (1, .int (nI p)), (2, .int (nI n)), (3, .long (lN v))] [] h2 := by
    intro y
    induction y with
    | zero =>
      intro z h2 hz f2 b2 o2
      have : z = n := by omega
      subst this
      with_reducible refine xm_go_blk b_X12_put_3 k_X12_put_3 ?_
      refine by_iload rfl ?_
      refine by_iload_n rfl ?_
      refine by_ic_ge 36 rfl ?_
      simp (disch := first | exact Nat.ne_of_beq_eq_false rfl | exact rfl | omega) only [nI_add, xa_sub, xa_mul, pk_div, nm_mod, xa_shr, xa_and7, xa_and1, xa_and255, xa_by_and, nI_m1, Nat.add_sub_cancel, Nat.reducePow, Nat.zero_add, Nat.add_zero, Nat.reduceAdd, Nat.reduceMul, Nat.reduceSub, xf_same, xq_ff, xq_fo, xf_1, xf_2, xs_1, xs_2, xs_same, xq_so, xj_1, xj_2, xj_same, xq_jo, xq_sa1, xq_same, xq_other, upd_s, oI_n, oI_s, xv_0, xv_1, xv_2, xv_3, xm_p1, xm_p2, xq_fp, xq_fn, List.filter_nil, Nat.reduceBEq, Bool.not_true, Bool.not_false, Bool.and_true, Bool.and_false, Bool.false_and, Bool.true_and, if_true, if_false, Bool.false_eq_true, reduceIte, xc_i, xc_j, xc_r, xc_n, List.nil_append, List.cons_append, Option.toList_some, Option.toList_none, nI_ltJ, nI_leJ, nI_eqJ, nI_ltz, nI_gez, nI_gtz, nI_lez, nI_eqz, m1_ltz, m1_gez, true_imp_iff, false_imp_iff, true_and, and_true, ne_eq, not_false_eq_true, not_true_eq_false, Nat.reduceEqDiff, Nat.reduceLT, Nat.reduceLeDiff]
      refine ⟨fun c3 => ?_, fun c => absurd (by omega) c⟩
      with_reducible refine xm_go_blk b_X12_put_36 k_X12_put_36 ?_
      refine by_ret ry_279 ?_
      refine hp h2 ⟨f2, fun j hj => ?_, fun j hj => o2 j (by rw [bbits_len] at hj; exact hj)⟩
      rw [bbits_len] at hj
      rw [b2 j hj]
      show _ = nI ((bbits z v).getD j false).toNat
      rw [bbits_get z v j hj]
      rcases (by omega : v / 2 ^ (z - 1 - j) % 2 = 0 ∨ v / 2 ^ (z - 1 - j) % 2 = 1) with e | e <;> rw [e] <;> rfl
    | succ y ih =>
      intro z h2 hz f2 b2 o2
      have F2 := Fr_XF hF f2 (by decide +kernel)
      have es := asr1 (v := v) (k := n - 1 - z) (by omega)
      have en := bb_n (b := v / 2 ^ (n - 1 - z) % 2) (Nat.mod_lt _ (by decide))
      with_reducible refine xm_go_blk b_X12_put_3 k_X12_put_3 ?_
      refine by_iload rfl ?_
      refine by_iload_n rfl ?_
      refine by_ic_ge 36 rfl ?_
      simp (disch := first | exact Nat.ne_of_beq_eq_false rfl | exact rfl | omega) only [nI_add, xa_sub, xa_mul, pk_div, nm_mod, xa_shr, xa_and7, xa_and1, xa_and255, xa_by_and, nI_m1, Nat.add_sub_cancel, Nat.reducePow, Nat.zero_add, Nat.add_zero, Nat.reduceAdd, Nat.reduceMul, Nat.reduceSub, xf_same, xq_ff, xq_fo, xf_1, xf_2, xs_1, xs_2, xs_same, xq_so, xj_1, xj_2, xj_same, xq_jo, xq_sa1, xq_same, xq_other, upd_s, oI_n, oI_s, xv_0, xv_1, xv_2, xv_3, xm_p1, xm_p2, xq_fp, xq_fn, List.filter_nil, Nat.reduceBEq, Bool.not_true, Bool.not_false, Bool.and_true, Bool.and_false, Bool.false_and, Bool.true_and, if_true, if_false, Bool.false_eq_true, reduceIte, xc_i, xc_j, xc_r, xc_n, List.nil_append, List.cons_append, Option.toList_some, Option.toList_none, nI_ltJ, nI_leJ, nI_eqJ, nI_ltz, nI_gez, nI_gtz, nI_lez, nI_eqz, m1_ltz, m1_gez, true_imp_iff, false_imp_iff, true_and, and_true, ne_eq, not_false_eq_true, not_true_eq_false, Nat.reduceEqDiff, Nat.reduceLT, Nat.reduceLeDiff, xf_102_58 F2, es, l2i_n, en]
      refine ⟨fun c => absurd c (by omega), fun c3 => ?_⟩
      with_reducible refine xm_go_blk b_X12_put_9 k_X12_put_9 ?_
      refine by_aload_n rfl ?_
      refine by_getf cn_279 fl_12_141 (by first | exact rfl | assumption) (by decide) ?_
      refine by_iload_n rfl ?_
      refine by_iload rfl ?_
      refine by_iadd ?_
      refine by_lload_n rfl ?_
      refine by_iload_n rfl ?_
      refine by_iconst ci_1 ?_
      refine by_isub ?_
      refine by_iload rfl ?_
      refine by_isub ?_
      refine by_lshr ?_
      refine by_lconst cl_1 ?_
      refine by_land ?_
      refine by_l2i ?_
      refine by_i2b ?_
      simp (disch := first | exact Nat.ne_of_beq_eq_false rfl | exact rfl | omega) only [nI_add, xa_sub, xa_mul, pk_div, nm_mod, xa_shr, xa_and7, xa_and1, xa_and255, xa_by_and, nI_m1, Nat.add_sub_cancel, Nat.reducePow, Nat.zero_add, Nat.add_zero, Nat.reduceAdd, Nat.reduceMul, Nat.reduceSub, xf_same, xq_ff, xq_fo, xf_1, xf_2, xs_1, xs_2, xs_same, xq_so, xj_1, xj_2, xj_same, xq_jo, xq_sa1, xq_same, xq_other, upd_s, oI_n, oI_s, xf_102_58 F2, es, l2i_n, en]
      first | refine by_bast (by first | exact rfl | assumption | exact ps_13 hpp) ⟨by omega, by omega⟩ ?_ | refine by_zast (by first | exact rfl | assumption | exact ps_20 hpp) ⟨by omega, by omega⟩ ?_
      refine by_iinc (by rw [ml_279]; decide) rfl ci_1 ?_
      refine by_goto 3 rfl ?_
      try simp (disch := first | exact Nat.ne_of_beq_eq_false rfl | exact rfl | omega) only [nI_add, xa_sub, xa_mul, pk_div, nm_mod, xa_shr, xa_and7, xa_and1, xa_and255, xa_by_and, nI_m1, Nat.add_sub_cancel, Nat.reducePow, Nat.zero_add, Nat.add_zero, Nat.reduceAdd, Nat.reduceMul, Nat.reduceSub, xf_same, xq_ff, xq_fo, xf_1, xf_2, xs_1, xs_2, xs_same, xq_so, xj_1, xj_2, xj_same, xq_jo, xq_sa1, xq_same, xq_other, upd_s, oI_n, oI_s, xv_0, xv_1, xv_2, xv_3, xm_p1, xm_p2, xq_fp, xq_fn, List.filter_nil, Nat.reduceBEq, Bool.not_true, Bool.not_false, Bool.and_true, Bool.and_false, Bool.false_and, Bool.true_and, if_true, if_false, Bool.false_eq_true, reduceIte, xc_i, xc_j, xc_r, xc_n, List.nil_append, List.cons_append, Option.toList_some, Option.toList_none, xf_102_58 F2, es, l2i_n, en]
      refine xm_go_wk (by simp [Value.category]) (ih (z + 1) _ (by omega) (Fr_si f2 (by simp)) (fun j hj => ?_) (fun j hj => ?_))
      · by_cases e : j = z
        · subst e; simp only [xm_si, upd, if_true]
        · have hne : p + j ≠ p + z := by omega
          simp only [xm_si, upd, if_true, if_neg hne]; exact b2 j (by omega)
      · have hne : j ≠ p + z := by omega
        simp only [xm_si, upd, if_true, if_neg hne]; exact o2 j (by omega)
  refine xq_in rfl ?_
  simp only [xq_a0, xq_aI, xq_aJ, xq_aR, Nat.reduceAdd]
  with_reducible refine xm_go_blk b_X12_put_0 k_X12_put_0 ?_
  refine by_iconst ci_0 ?_
  refine by_istore (by rw [ml_279]; decide) ?_
  refine by_nil ?_
  try simp (disch := first | exact Nat.ne_of_beq_eq_false rfl | exact rfl | omega) only [nI_add, xa_sub, xa_mul, pk_div, nm_mod, xa_shr, xa_and7, xa_and1, xa_and255, xa_by_and, nI_m1, Nat.add_sub_cancel, Nat.reducePow, Nat.zero_add, Nat.add_zero, Nat.reduceAdd, Nat.reduceMul, Nat.reduceSub, xf_same, xq_ff, xq_fo, xf_1, xf_2, xs_1, xs_2, xs_same, xq_so, xj_1, xj_2, xj_same, xq_jo, xq_sa1, xq_same, xq_other, upd_s, oI_n, oI_s, xv_0, xv_1, xv_2, xv_3, xm_p1, xm_p2, xq_fp, xq_fn, List.filter_nil, Nat.reduceBEq, Bool.not_true, Bool.not_false, Bool.and_true, Bool.and_false, Bool.false_and, Bool.true_and, if_true, if_false, Bool.false_eq_true, reduceIte, xc_i, xc_j, xc_r, xc_n, List.nil_append, List.cons_append, Option.toList_some, Option.toList_none]
  exact xm_go_wk (by simp [Value.category]) (key n 0 h (by omega) Fr_rf (fun j hj => absurd hj (Nat.not_lt_zero _)) (fun j _ => rfl))
theorem sp_below {a b : Nat} (ha : a < 2 ^ 64) (hb : b < 2 ^ 64) (hp : post (some (.int (nI (if a < b then 1 else 0)))) h) : xm_T (XE sc) (d + 1) 207 [.long (lN a), .long (lN b)] h post := by
  refine xq_in rfl ?_
  simp only [xq_a0, xq_aI, xq_aJ, xq_aR, Nat.reduceAdd]
  have e : (0 ≤ lg_cmp (lN a + (-9223372036854775808)) (lN b + (-9223372036854775808))) = (b ≤ a) := by rw [pm_x ha, pm_x hb]; exact lg_ult ha hb
  by_cases q : a < b
  · rw [if_pos q] at hp
    have q' : (b ≤ a) = False := eq_false (by omega)
    with_reducible refine xm_go_blk b_X12_below_0 k_X12_below_0 ?_
    refine by_lload_n rfl ?_
    refine by_ldc2 cn_207 kl_12_419 rfl ?_
    refine by_ladd ?_
    refine by_lload_n rfl ?_
    refine by_ldc2 cn_207 kl_12_419 rfl ?_
    refine by_ladd ?_
    refine by_lcmp ?_
    refine by_if_ge 18 rfl ?_
    simp (disch := first | exact Nat.ne_of_beq_eq_false rfl | exact rfl | omega) only [nI_add, xa_sub, xa_mul, pk_div, nm_mod, xa_shr, xa_and7, xa_and1, xa_and255, xa_by_and, nI_m1, Nat.add_sub_cancel, Nat.reducePow, Nat.zero_add, Nat.add_zero, Nat.reduceAdd, Nat.reduceMul, Nat.reduceSub, xf_same, xq_ff, xq_fo, xf_1, xf_2, xs_1, xs_2, xs_same, xq_so, xj_1, xj_2, xj_same, xq_jo, xq_sa1, xq_same, xq_other, upd_s, oI_n, oI_s, xv_0, xv_1, xv_2, xv_3, xm_p1, xm_p2, xq_fp, xq_fn, List.filter_nil, Nat.reduceBEq, Bool.not_true, Bool.not_false, Bool.and_true, Bool.and_false, Bool.false_and, Bool.true_and, if_true, if_false, Bool.false_eq_true, reduceIte, xc_i, xc_j, xc_r, xc_n, List.nil_append, List.cons_append, Option.toList_some, Option.toList_none, nI_ltJ, nI_leJ, nI_eqJ, nI_ltz, nI_gez, nI_gtz, nI_lez, nI_eqz, m1_ltz, m1_gez, true_imp_iff, false_imp_iff, true_and, and_true, ne_eq, not_false_eq_true, not_true_eq_false, Nat.reduceEqDiff, Nat.reduceLT, Nat.reduceLeDiff, e, q']
    with_reducible refine xm_go_blk b_X12_below_14 k_X12_below_14 ?_
    refine by_iconst ci_1 ?_
    refine by_goto 19 rfl ?_
    with_reducible refine xm_go_blk b_X12_below_19 k_X12_below_19 ?_
    refine by_iret ry_207 (by first | rfl | assumption) ?_
    exact hp
  · rw [if_neg q] at hp
    have q' : (b ≤ a) = True := eq_true (by omega)
    with_reducible refine xm_go_blk b_X12_below_0 k_X12_below_0 ?_
    refine by_lload_n rfl ?_
    refine by_ldc2 cn_207 kl_12_419 rfl ?_
    refine by_ladd ?_
    refine by_lload_n rfl ?_
    refine by_ldc2 cn_207 kl_12_419 rfl ?_
    refine by_ladd ?_
    refine by_lcmp ?_
    refine by_if_ge 18 rfl ?_
    simp (disch := first | exact Nat.ne_of_beq_eq_false rfl | exact rfl | omega) only [nI_add, xa_sub, xa_mul, pk_div, nm_mod, xa_shr, xa_and7, xa_and1, xa_and255, xa_by_and, nI_m1, Nat.add_sub_cancel, Nat.reducePow, Nat.zero_add, Nat.add_zero, Nat.reduceAdd, Nat.reduceMul, Nat.reduceSub, xf_same, xq_ff, xq_fo, xf_1, xf_2, xs_1, xs_2, xs_same, xq_so, xj_1, xj_2, xj_same, xq_jo, xq_sa1, xq_same, xq_other, upd_s, oI_n, oI_s, xv_0, xv_1, xv_2, xv_3, xm_p1, xm_p2, xq_fp, xq_fn, List.filter_nil, Nat.reduceBEq, Bool.not_true, Bool.not_false, Bool.and_true, Bool.and_false, Bool.false_and, Bool.true_and, if_true, if_false, Bool.false_eq_true, reduceIte, xc_i, xc_j, xc_r, xc_n, List.nil_append, List.cons_append, Option.toList_some, Option.toList_none, nI_ltJ, nI_leJ, nI_eqJ, nI_ltz, nI_gez, nI_gtz, nI_lez, nI_eqz, m1_ltz, m1_gez, true_imp_iff, false_imp_iff, true_and, and_true, ne_eq, not_false_eq_true, not_true_eq_false, Nat.reduceEqDiff, Nat.reduceLT, Nat.reduceLeDiff, e, q']
    with_reducible refine xm_go_blk b_X12_below_18 k_X12_below_18 ?_
    refine by_iconst ci_0 ?_
    refine by_nil ?_
    with_reducible refine xm_go_blk b_X12_below_19 k_X12_below_19 ?_
    refine by_iret ry_207 (by first | rfl | assumption) ?_
    exact hp
theorem sp_maskOf {w : Nat} (hw1 : 1 ≤ w) (hw : w ≤ 64) (hp : post (some (.long (lN (2 ^ w - 1)))) h) : xm_T (XE sc) (d + 1) 260 [.int (nI w)] h post := by
  refine xq_in rfl ?_
  simp only [xq_a0, xq_aI, xq_aJ, xq_aR, Nat.reduceAdd]
  by_cases q : w = 64
  · subst q
    with_reducible refine xm_go_blk b_X12_maskOf_0 k_X12_maskOf_0 ?_
    refine by_iload_n rfl ?_
    refine by_bipush cb_64 ?_
    refine by_ic_ne 12 rfl ?_
    simp (disch := first | exact Nat.ne_of_beq_eq_false rfl | exact rfl | omega) only [nI_add, xa_sub, xa_mul, pk_div, nm_mod, xa_shr, xa_and7, xa_and1, xa_and255, xa_by_and, nI_m1, Nat.add_sub_cancel, Nat.reducePow, Nat.zero_add, Nat.add_zero, Nat.reduceAdd, Nat.reduceMul, Nat.reduceSub, xf_same, xq_ff, xq_fo, xf_1, xf_2, xs_1, xs_2, xs_same, xq_so, xj_1, xj_2, xj_same, xq_jo, xq_sa1, xq_same, xq_other, upd_s, oI_n, oI_s, xv_0, xv_1, xv_2, xv_3, xm_p1, xm_p2, xq_fp, xq_fn, List.filter_nil, Nat.reduceBEq, Bool.not_true, Bool.not_false, Bool.and_true, Bool.and_false, Bool.false_and, Bool.true_and, if_true, if_false, Bool.false_eq_true, reduceIte, xc_i, xc_j, xc_r, xc_n, List.nil_append, List.cons_append, Option.toList_some, Option.toList_none, nI_ltJ, nI_leJ, nI_eqJ, nI_ltz, nI_gez, nI_gtz, nI_lez, nI_eqz, m1_ltz, m1_gez, true_imp_iff, false_imp_iff, true_and, and_true, ne_eq, not_false_eq_true, not_true_eq_false, Nat.reduceEqDiff, Nat.reduceLT, Nat.reduceLeDiff]
    with_reducible refine xm_go_blk b_X12_maskOf_6 k_X12_maskOf_6 ?_
    refine by_ldc2 cn_260 kl_12_428 rfl ?_
    refine by_goto 17 rfl ?_
    with_reducible refine xm_go_blk b_X12_maskOf_17 k_X12_maskOf_17 ?_
    refine by_lret ry_260 ?_
    rw [lN_m1]
    exact hp
  · have q' : (w = 64) = False := eq_false q
    have e1 : lN 1 <<< ((nI w).toInt64 &&& 63) = lN (2 ^ w) := by rw [wb_shl 1 (by omega), Nat.one_mul]
    have e2 : lN (2 ^ w) - lN 1 = lN (2 ^ w - 1) := by
      have := Nat.two_pow_pos w
      rw [lN_sb (by decide), wb_mod, show 2 ^ w + 2 ^ 64 - 1 = 2 ^ w - 1 + 2 ^ 64 by omega, Nat.add_mod_right, ← wb_mod]
    with_reducible refine xm_go_blk b_X12_maskOf_0 k_X12_maskOf_0 ?_
    refine by_iload_n rfl ?_
    refine by_bipush cb_64 ?_
    refine by_ic_ne 12 rfl ?_
    simp (disch := first | exact Nat.ne_of_beq_eq_false rfl | exact rfl | omega) only [nI_add, xa_sub, xa_mul, pk_div, nm_mod, xa_shr, xa_and7, xa_and1, xa_and255, xa_by_and, nI_m1, Nat.add_sub_cancel, Nat.reducePow, Nat.zero_add, Nat.add_zero, Nat.reduceAdd, Nat.reduceMul, Nat.reduceSub, xf_same, xq_ff, xq_fo, xf_1, xf_2, xs_1, xs_2, xs_same, xq_so, xj_1, xj_2, xj_same, xq_jo, xq_sa1, xq_same, xq_other, upd_s, oI_n, oI_s, xv_0, xv_1, xv_2, xv_3, xm_p1, xm_p2, xq_fp, xq_fn, List.filter_nil, Nat.reduceBEq, Bool.not_true, Bool.not_false, Bool.and_true, Bool.and_false, Bool.false_and, Bool.true_and, if_true, if_false, Bool.false_eq_true, reduceIte, xc_i, xc_j, xc_r, xc_n, List.nil_append, List.cons_append, Option.toList_some, Option.toList_none, nI_ltJ, nI_leJ, nI_eqJ, nI_ltz, nI_gez, nI_gtz, nI_lez, nI_eqz, m1_ltz, m1_gez, true_imp_iff, false_imp_iff, true_and, and_true, ne_eq, not_false_eq_true, not_true_eq_false, Nat.reduceEqDiff, Nat.reduceLT, Nat.reduceLeDiff, q', e1, e2]
    with_reducible refine xm_go_blk b_X12_maskOf_12 k_X12_maskOf_12 ?_
    refine by_lconst cl_1 ?_
    refine by_iload_n rfl ?_
    refine by_lshl ?_
    refine by_lconst cl_1 ?_
    refine by_lsub ?_
    refine by_nil ?_
    try simp (disch := first | exact Nat.ne_of_beq_eq_false rfl | exact rfl | omega) only [nI_add, xa_sub, xa_mul, pk_div, nm_mod, xa_shr, xa_and7, xa_and1, xa_and255, xa_by_and, nI_m1, Nat.add_sub_cancel, Nat.reducePow, Nat.zero_add, Nat.add_zero, Nat.reduceAdd, Nat.reduceMul, Nat.reduceSub, xf_same, xq_ff, xq_fo, xf_1, xf_2, xs_1, xs_2, xs_same, xq_so, xj_1, xj_2, xj_same, xq_jo, xq_sa1, xq_same, xq_other, upd_s, oI_n, oI_s, xv_0, xv_1, xv_2, xv_3, xm_p1, xm_p2, xq_fp, xq_fn, List.filter_nil, Nat.reduceBEq, Bool.not_true, Bool.not_false, Bool.and_true, Bool.and_false, Bool.false_and, Bool.true_and, if_true, if_false, Bool.false_eq_true, reduceIte, xc_i, xc_j, xc_r, xc_n, List.nil_append, List.cons_append, Option.toList_some, Option.toList_none, q', e1, e2]
    with_reducible refine xm_go_blk b_X12_maskOf_17 k_X12_maskOf_17 ?_
    refine by_lret ry_260 ?_
    exact hp
end RJ
