/-! ===== say: writeNatural of the reference ===== -/
abbrev wnR : List Nat := [147, 162]
section SY
variable {sc : xm_Sc} {d v : Nat} {bl : List Nat} {h : xm_H} {post : xm_Po}
theorem bit_n {x i : Nat} (hx : x < 2147483648) (hi : i < 32) : nI x >>> (nI i &&& 31) &&& nI 1 = nI (x / 2 ^ i % 2) ∧ x / 2 ^ i % 2 < 2 := by
  have hd : x / 2 ^ i < 2147483648 := Nat.lt_of_le_of_lt (Nat.div_le_self _ _) hx
  rw [xa_shr hx hi]
  exact ⟨xa_and1 _, Nat.mod_lt _ (by decide)⟩
theorem ntB_len {v : Nat} (hv : v < 2147483648) (hv1 : 1 ≤ v) : ∀ k, k ≤ nkF v → (ntB v k).length ≤ 31 * k
  | 0, _ => Nat.le_refl _
  | k + 1, hk => by
    obtain ⟨a1, a2⟩ := nlv_b hv1 hv k (by omega)
    have h3 := lg_31 a1 a2
    have := ntB_len hv hv1 k (by omega)
    rw [ntB, List.length_append, hiB_len]
    show Nat.log2 (nlv v k) + _ ≤ _
    omega
theorem sp_writeNatural (hF : XF h) (hb : mkB h bl) (hv1 : 1 ≤ v) (hv : v < 2147483648) (hl : bl.length + 200 < 1000000000) (hp : ∀ h', Fr wnR [(102, 92)] h h' → mkB h' (bl ++ ntT v) → post none h') : xm_T (XE sc) (d + 3) 325 [.ref 102, .int (nI v)] h post := by
  obtain ⟨n1, n2, n3⟩ := nkF_p hv
  have nb := nlv_b hv1 hv
  have tr : ∀ {h1 h2 : xm_H}, Fr wnR [(102, 92)] h h1 → Fr [147] [(102, 92)] h1 h2 → Fr wnR [(102, 92)] h h2 := fun f1 f2 => Fr_tr f1 f2 (by simp) (fun _ z => z)
  have xf : ∀ {h1 : xm_H}, Fr wnR [(102, 92)] h h1 → XF h1 := fun f1 => Fr_XF hF f1 (by decide +kernel)
  have kl : ∀ {h1 h2 : xm_H} (k : Nat), (∀ j, j ≤ k → h1.1 162 j = nI (nlv v j)) → Fr [147] [(102, 92)] h1 h2 → ∀ j, j ≤ k → h2.1 162 j = nI (nlv v j) := fun k hk f j hj => by rw [f.1 _ (by simp)]; exact hk j hj
  -- layers
  have lay : ∀ (j : Nat) (h1 : xm_H) (l1 : List Nat), j ≤ nkF v → Fr wnR [(102, 92)] h h1 → mkB h1 l1 → l1 ++ ntB v j = bl ++ ntT v → l1.length ≤ bl.length + 5 + 31 * (4 - j) → (∀ i, i ≤ nkF v → h1.1 162 i = nI (nlv v i)) → xm_go (XE sc) (xm_T (XE sc) (d + 2)) 325 post 69 [(3, .int (if j = 0 then -1 else nI (j - 1))), (0, .ref 102)] [] h1 := by
    intro j
    induction j with
    | zero =>
      intro h1 l1 hj f1 p1 he _ _
      rw [if_pos rfl]
      with_reducible refine xm_go_blk b_X12_writeNatural_69 k_X12_writeNatural_69 ?_
      refine by_iload_n rfl ?_
      refine by_if_lt 97 rfl ?_
      simp (disch := first | exact Nat.ne_of_beq_eq_false rfl | exact rfl | omega) only [nI_add, xa_sub, xa_mul, pk_div, nm_mod, xa_shr, xa_and7, xa_and1, xa_and255, xa_by_and, nI_m1, Nat.add_sub_cancel, Nat.reducePow, Nat.zero_add, Nat.add_zero, Nat.reduceAdd, Nat.reduceMul, Nat.reduceSub, xf_same, xq_ff, xq_fo, xf_1, xf_2, xs_1, xs_2, xs_same, xq_so, xj_1, xj_2, xj_same, xq_jo, xq_sa1, xq_same, xq_other, upd_s, oI_n, oI_s, xv_0, xv_1, xv_2, xv_3, xm_p1, xm_p2, xq_fp, xq_fn, List.filter_nil, Nat.reduceBEq, Bool.not_true, Bool.not_false, Bool.and_true, Bool.and_false, Bool.false_and, Bool.true_and, if_true, if_false, Bool.false_eq_true, reduceIte, xc_i, xc_j, xc_r, xc_n, List.nil_append, List.cons_append, Option.toList_some, Option.toList_none, nI_ltJ, nI_leJ, nI_eqJ, nI_ltz, nI_gez, nI_gtz, nI_lez, nI_eqz, m1_ltz, m1_gez, true_imp_iff, false_imp_iff, true_and, and_true, ne_eq, not_false_eq_true, not_true_eq_false, Nat.reduceEqDiff, Nat.reduceLT, Nat.reduceLeDiff]
      with_reducible refine xm_go_blk b_X12_writeNatural_97 k_X12_writeNatural_97 ?_
      refine by_ret ry_325 ?_
      exact hp h1 f1 (by rw [← he]; simpa [ntB] using p1)
    | succ j ih =>
      intro h1 l1 hj f1 p1 he hll lv
      rw [if_neg (by omega), Nat.add_sub_cancel]
      obtain ⟨a1, a2⟩ := nb j (by omega)
      have h30 := lg_31 a1 a2
      have e1 := lv j (by omega)
      have e2 : h1.1 162 (j + 1) = nI (Nat.log2 (nlv v j)) := lv (j + 1) hj
      with_reducible refine xm_go_blk b_X12_writeNatural_69 k_X12_writeNatural_69 ?_
      refine by_iload_n rfl ?_
      refine by_if_lt 97 rfl ?_
      simp (disch := first | exact Nat.ne_of_beq_eq_false rfl | exact rfl | omega) only [nI_add, xa_sub, xa_mul, pk_div, nm_mod, xa_shr, xa_and7, xa_and1, xa_and255, xa_by_and, nI_m1, Nat.add_sub_cancel, Nat.reducePow, Nat.zero_add, Nat.add_zero, Nat.reduceAdd, Nat.reduceMul, Nat.reduceSub, xf_same, xq_ff, xq_fo, xf_1, xf_2, xs_1, xs_2, xs_same, xq_so, xj_1, xj_2, xj_same, xq_jo, xq_sa1, xq_same, xq_other, upd_s, oI_n, oI_s, xv_0, xv_1, xv_2, xv_3, xm_p1, xm_p2, xq_fp, xq_fn, List.filter_nil, Nat.reduceBEq, Bool.not_true, Bool.not_false, Bool.and_true, Bool.and_false, Bool.false_and, Bool.true_and, if_true, if_false, Bool.false_eq_true, reduceIte, xc_i, xc_j, xc_r, xc_n, List.nil_append, List.cons_append, Option.toList_some, Option.toList_none, nI_ltJ, nI_leJ, nI_eqJ, nI_ltz, nI_gez, nI_gtz, nI_lez, nI_eqz, m1_ltz, m1_gez, true_imp_iff, false_imp_iff, true_and, and_true, ne_eq, not_false_eq_true, not_true_eq_false, Nat.reduceEqDiff, Nat.reduceLT, Nat.reduceLeDiff, xf_102_93 (xf f1), e1, e2]
      with_reducible refine xm_go_blk b_X12_writeNatural_73 k_X12_writeNatural_73 ?_
      refine by_aload_n rfl ?_
      refine by_aload_n rfl ?_
      refine by_getf cn_325 fl_12_193 (by first | exact rfl | assumption) (by decide) ?_
      refine by_iload_n rfl ?_
      simp (disch := first | exact Nat.ne_of_beq_eq_false rfl | exact rfl | omega) only [nI_add, xa_sub, xa_mul, pk_div, nm_mod, xa_shr, xa_and7, xa_and1, xa_and255, xa_by_and, nI_m1, Nat.add_sub_cancel, Nat.reducePow, Nat.zero_add, Nat.add_zero, Nat.reduceAdd, Nat.reduceMul, Nat.reduceSub, xf_same, xq_ff, xq_fo, xf_1, xf_2, xs_1, xs_2, xs_same, xq_so, xj_1, xj_2, xj_same, xq_jo, xq_sa1, xq_same, xq_other, upd_s, oI_n, oI_s, xf_102_93 (xf f1), e1, e2]
      first | refine by_iald (by first | exact rfl | assumption | exact ps_1 hpp | exact ps_2 hpp | exact ps_3 hpp | exact ps_4 hpp | exact ps_5 hpp | exact ps_6 hpp | exact ps_7 hpp | exact ps_8 hpp | exact ps_9 hpp | exact ps_10 hpp | exact ps_11 hpp | exact ps_15 hpp | exact ps_16 hpp | exact ps_17 hpp | exact ps_18 hpp | exact ps_19 hpp | exact ps_21 hpp | exact ps_22 hpp | exact ps_23 hpp | exact ps_24 hpp) ⟨by omega, by omega⟩ ?_ | refine by_tald rfl rfl ⟨by omega, by omega⟩ ?_
      refine by_aload_n rfl ?_
      refine by_getf cn_325 fl_12_193 (by first | exact rfl | assumption) (by decide) ?_
      refine by_iload_n rfl ?_
      refine by_iconst ci_1 ?_
      refine by_iadd ?_
      simp (disch := first | exact Nat.ne_of_beq_eq_false rfl | exact rfl | omega) only [nI_add, xa_sub, xa_mul, pk_div, nm_mod, xa_shr, xa_and7, xa_and1, xa_and255, xa_by_and, nI_m1, Nat.add_sub_cancel, Nat.reducePow, Nat.zero_add, Nat.add_zero, Nat.reduceAdd, Nat.reduceMul, Nat.reduceSub, xf_same, xq_ff, xq_fo, xf_1, xf_2, xs_1, xs_2, xs_same, xq_so, xj_1, xj_2, xj_same, xq_jo, xq_sa1, xq_same, xq_other, upd_s, oI_n, oI_s, xf_102_93 (xf f1), e1, e2]
      first | refine by_iald (by first | exact rfl | assumption | exact ps_1 hpp | exact ps_2 hpp | exact ps_3 hpp | exact ps_4 hpp | exact ps_5 hpp | exact ps_6 hpp | exact ps_7 hpp | exact ps_8 hpp | exact ps_9 hpp | exact ps_10 hpp | exact ps_11 hpp | exact ps_15 hpp | exact ps_16 hpp | exact ps_17 hpp | exact ps_18 hpp | exact ps_19 hpp | exact ps_21 hpp | exact ps_22 hpp | exact ps_23 hpp | exact ps_24 hpp) ⟨by omega, by omega⟩ ?_ | refine by_tald rfl rfl ⟨by omega, by omega⟩ ?_
      simp (disch := first | exact Nat.ne_of_beq_eq_false rfl | exact rfl | omega) only [nI_add, xa_sub, xa_mul, pk_div, nm_mod, xa_shr, xa_and7, xa_and1, xa_and255, xa_by_and, nI_m1, Nat.add_sub_cancel, Nat.reducePow, Nat.zero_add, Nat.add_zero, Nat.reduceAdd, Nat.reduceMul, Nat.reduceSub, xf_same, xq_ff, xq_fo, xf_1, xf_2, xs_1, xs_2, xs_same, xq_so, xj_1, xj_2, xj_same, xq_jo, xq_sa1, xq_same, xq_other, upd_s, oI_n, oI_s, xv_0, xv_1, xv_2, xv_3, xm_p1, xm_p2, xq_fp, xq_fn, List.filter_nil, Nat.reduceBEq, Bool.not_true, Bool.not_false, Bool.and_true, Bool.and_false, Bool.false_and, Bool.true_and, if_true, if_false, Bool.false_eq_true, reduceIte, xc_i, xc_j, xc_r, xc_n, List.nil_append, List.cons_append, Option.toList_some, Option.toList_none, xf_102_93 (xf f1), e1, e2]
      refine by_inv2 cn_325 lk_12_666 (by rw [xe_cnt]; decide) is_324 np_324 cn_324 (by first | exact rfl | assumption) (Nat.le_of_ble_eq_true rfl) ?_
      refine sp_writeBits (d := d) (g := fun k => nlv v j / 2 ^ k % 2) (xf f1) p1 (by omega) (by omega) (fun k hk => bit_n a2 (by omega)) (fun h2 f2 p2 => ?_)
      have k2 := ih h2 (l1 ++ hiB (fun k => nlv v j / 2 ^ k % 2) (Nat.log2 (nlv v j))) (by omega) (tr f1 f2) p2 (by rw [List.append_assoc]; exact he) (by rw [List.length_append, hiB_len]; omega) (kl _ lv f2)
      have e3 : nI j + -1 = (if j = 0 then -1 else nI (j - 1)) := by
        by_cases z : j = 0
        · subst z; rfl
        · rw [if_neg z, nI_m1 (by omega)]
      with_reducible refine xm_go_blk b_X12_writeNatural_91 k_X12_writeNatural_91 ?_
      refine by_iinc (by rw [ml_325]; decide) rfl ci_m1 ?_
      refine by_goto 69 rfl ?_
      try simp (disch := first | exact Nat.ne_of_beq_eq_false rfl | exact rfl | omega) only [nI_add, xa_sub, xa_mul, pk_div, nm_mod, xa_shr, xa_and7, xa_and1, xa_and255, xa_by_and, nI_m1, Nat.add_sub_cancel, Nat.reducePow, Nat.zero_add, Nat.add_zero, Nat.reduceAdd, Nat.reduceMul, Nat.reduceSub, xf_same, xq_ff, xq_fo, xf_1, xf_2, xs_1, xs_2, xs_same, xq_so, xj_1, xj_2, xj_same, xq_jo, xq_sa1, xq_same, xq_other, upd_s, oI_n, oI_s, xv_0, xv_1, xv_2, xv_3, xm_p1, xm_p2, xq_fp, xq_fn, List.filter_nil, Nat.reduceBEq, Bool.not_true, Bool.not_false, Bool.and_true, Bool.and_false, Bool.false_and, Bool.true_and, if_true, if_false, Bool.false_eq_true, reduceIte, xc_i, xc_j, xc_r, xc_n, List.nil_append, List.cons_append, Option.toList_some, Option.toList_none, e3]
      exact xm_go_wk (by simp [Value.category]) k2
  -- ones
  have ones : ∀ (y k : Nat) (h1 : xm_H), k + y = nkF v → Fr wnR [(102, 92)] h h1 → mkB h1 (bl ++ List.replicate k 1) → (∀ i, i ≤ nkF v → h1.1 162 i = nI (nlv v i)) → xm_go (XE sc) (xm_T (XE sc) (d + 2)) 325 post 44 [(3, .int (nI k)), (2, .int (nI (nkF v))), (0, .ref 102), (1, .int (nI v))] [] h1 := by
    intro y
    induction y with
    | zero =>
      intro k h1 hk f1 p1 lv
      have : k = nkF v := by omega
      subst this
      with_reducible refine xm_go_blk b_X12_writeNatural_44 k_X12_writeNatural_44 ?_
      refine by_iload_n rfl ?_
      refine by_iload_n rfl ?_
      refine by_ic_ge 60 rfl ?_
      simp (disch := first | exact Nat.ne_of_beq_eq_false rfl | exact rfl | omega) only [nI_add, xa_sub, xa_mul, pk_div, nm_mod, xa_shr, xa_and7, xa_and1, xa_and255, xa_by_and, nI_m1, Nat.add_sub_cancel, Nat.reducePow, Nat.zero_add, Nat.add_zero, Nat.reduceAdd, Nat.reduceMul, Nat.reduceSub, xf_same, xq_ff, xq_fo, xf_1, xf_2, xs_1, xs_2, xs_same, xq_so, xj_1, xj_2, xj_same, xq_jo, xq_sa1, xq_same, xq_other, upd_s, oI_n, oI_s, xv_0, xv_1, xv_2, xv_3, xm_p1, xm_p2, xq_fp, xq_fn, List.filter_nil, Nat.reduceBEq, Bool.not_true, Bool.not_false, Bool.and_true, Bool.and_false, Bool.false_and, Bool.true_and, if_true, if_false, Bool.false_eq_true, reduceIte, xc_i, xc_j, xc_r, xc_n, List.nil_append, List.cons_append, Option.toList_some, Option.toList_none, nI_ltJ, nI_leJ, nI_eqJ, nI_ltz, nI_gez, nI_gtz, nI_lez, nI_eqz, m1_ltz, m1_gez, true_imp_iff, false_imp_iff, true_and, and_true, ne_eq, not_false_eq_true, not_true_eq_false, Nat.reduceEqDiff, Nat.reduceLT, Nat.reduceLeDiff]
      refine ⟨fun c44 => ?_, fun c => absurd (by omega) c⟩
      with_reducible refine xm_go_blk b_X12_writeNatural_60 k_X12_writeNatural_60 ?_
      refine by_aload_n rfl ?_
      refine by_iconst ci_0 ?_
      refine by_inv1 cn_325 lk_12_660 (by rw [xe_cnt]; decide) is_323 np_323 cn_323 (by first | exact rfl | assumption) (Nat.le_of_ble_eq_true rfl) ?_
      refine sp_writeBit (d := d + 1) (x := 0) (xf f1) p1 (by decide) (by simp; omega) (fun h2 f2 p2 => ?_)
      have k2 := lay (nkF v) h2 _ (Nat.le_refl _) (tr f1 f2) p2 (by unfold ntT; simp) (by simp; omega) (kl _ lv f2)
      have e2 : nI (nkF v) - nI 1 = (if nkF v = 0 then -1 else nI (nkF v - 1)) := by
        by_cases z : nkF v = 0
        · rw [z]; rfl
        · rw [if_neg z, xa_sub (by omega)]
      with_reducible refine xm_go_blk b_X12_writeNatural_65 k_X12_writeNatural_65 ?_
      refine by_iload_n rfl ?_
      refine by_iconst ci_1 ?_
      refine by_isub ?_
      refine by_istore_n (by rw [ml_325]; decide) ?_
      refine by_nil ?_
      try simp (disch := first | exact Nat.ne_of_beq_eq_false rfl | exact rfl | omega) only [nI_add, xa_sub, xa_mul, pk_div, nm_mod, xa_shr, xa_and7, xa_and1, xa_and255, xa_by_and, nI_m1, Nat.add_sub_cancel, Nat.reducePow, Nat.zero_add, Nat.add_zero, Nat.reduceAdd, Nat.reduceMul, Nat.reduceSub, xf_same, xq_ff, xq_fo, xf_1, xf_2, xs_1, xs_2, xs_same, xq_so, xj_1, xj_2, xj_same, xq_jo, xq_sa1, xq_same, xq_other, upd_s, oI_n, oI_s, xv_0, xv_1, xv_2, xv_3, xm_p1, xm_p2, xq_fp, xq_fn, List.filter_nil, Nat.reduceBEq, Bool.not_true, Bool.not_false, Bool.and_true, Bool.and_false, Bool.false_and, Bool.true_and, if_true, if_false, Bool.false_eq_true, reduceIte, xc_i, xc_j, xc_r, xc_n, List.nil_append, List.cons_append, Option.toList_some, Option.toList_none, e2]
      exact xm_go_wk (by simp [Value.category]) k2
    | succ y ihy =>
      intro k h1 hk f1 p1 lv
      with_reducible refine xm_go_blk b_X12_writeNatural_44 k_X12_writeNatural_44 ?_
      refine by_iload_n rfl ?_
      refine by_iload_n rfl ?_
      refine by_ic_ge 60 rfl ?_
      simp (disch := first | exact Nat.ne_of_beq_eq_false rfl | exact rfl | omega) only [nI_add, xa_sub, xa_mul, pk_div, nm_mod, xa_shr, xa_and7, xa_and1, xa_and255, xa_by_and, nI_m1, Nat.add_sub_cancel, Nat.reducePow, Nat.zero_add, Nat.add_zero, Nat.reduceAdd, Nat.reduceMul, Nat.reduceSub, xf_same, xq_ff, xq_fo, xf_1, xf_2, xs_1, xs_2, xs_same, xq_so, xj_1, xj_2, xj_same, xq_jo, xq_sa1, xq_same, xq_other, upd_s, oI_n, oI_s, xv_0, xv_1, xv_2, xv_3, xm_p1, xm_p2, xq_fp, xq_fn, List.filter_nil, Nat.reduceBEq, Bool.not_true, Bool.not_false, Bool.and_true, Bool.and_false, Bool.false_and, Bool.true_and, if_true, if_false, Bool.false_eq_true, reduceIte, xc_i, xc_j, xc_r, xc_n, List.nil_append, List.cons_append, Option.toList_some, Option.toList_none, nI_ltJ, nI_leJ, nI_eqJ, nI_ltz, nI_gez, nI_gtz, nI_lez, nI_eqz, m1_ltz, m1_gez, true_imp_iff, false_imp_iff, true_and, and_true, ne_eq, not_false_eq_true, not_true_eq_false, Nat.reduceEqDiff, Nat.reduceLT, Nat.reduceLeDiff]
      refine ⟨fun c => absurd c (by omega), fun c44 => ?_⟩
      with_reducible refine xm_go_blk b_X12_writeNatural_49 k_X12_writeNatural_49 ?_
      refine by_aload_n rfl ?_
      refine by_iconst ci_1 ?_
      refine by_inv1 cn_325 lk_12_660 (by rw [xe_cnt]; decide) is_323 np_323 cn_323 (by first | exact rfl | assumption) (Nat.le_of_ble_eq_true rfl) ?_
      refine sp_writeBit (d := d + 1) (x := 1) (xf f1) p1 (by decide) (by simp; omega) (fun h2 f2 p2 => ?_)
      have p2' : mkB h2 (bl ++ List.replicate (k + 1) 1) := by
        rw [List.replicate_succ', ← List.append_assoc]
        exact p2
      with_reducible refine xm_go_blk b_X12_writeNatural_54 k_X12_writeNatural_54 ?_
      refine by_iinc (by rw [ml_325]; decide) rfl ci_1 ?_
      refine by_goto 44 rfl ?_
      try simp (disch := first | exact Nat.ne_of_beq_eq_false rfl | exact rfl | omega) only [nI_add, xa_sub, xa_mul, pk_div, nm_mod, xa_shr, xa_and7, xa_and1, xa_and255, xa_by_and, nI_m1, Nat.add_sub_cancel, Nat.reducePow, Nat.zero_add, Nat.add_zero, Nat.reduceAdd, Nat.reduceMul, Nat.reduceSub, xf_same, xq_ff, xq_fo, xf_1, xf_2, xs_1, xs_2, xs_same, xq_so, xj_1, xj_2, xj_same, xq_jo, xq_sa1, xq_same, xq_other, upd_s, oI_n, oI_s, xv_0, xv_1, xv_2, xv_3, xm_p1, xm_p2, xq_fp, xq_fn, List.filter_nil, Nat.reduceBEq, Bool.not_true, Bool.not_false, Bool.and_true, Bool.and_false, Bool.false_and, Bool.true_and, if_true, if_false, Bool.false_eq_true, reduceIte, xc_i, xc_j, xc_r, xc_n, List.nil_append, List.cons_append, Option.toList_some, Option.toList_none]
      exact xm_go_wk (by simp [Value.category]) (ihy (k + 1) h2 (by omega) (tr f1 f2) p2' (kl _ lv f2))
  -- lengths
  have lens : ∀ (y k : Nat) (h1 : xm_H), k + y = nkF v → Fr [162] [] h h1 → (∀ i, i ≤ k → h1.1 162 i = nI (nlv v i)) → xm_go (XE sc) (xm_T (XE sc) (d + 2)) 325 post 9 [(2, .int (nI k)), (0, .ref 102), (1, .int (nI v))] [] h1 := by
    intro y
    induction y with
    | zero =>
      intro k h1 hk f1 lv
      have : k = nkF v := by omega
      subst this
      obtain ⟨a1, a2⟩ := nb _ (Nat.le_refl (nkF v))
      have e1 := lv (nkF v) (Nat.le_refl _)
      have F1 := Fr_XF hF f1 (by decide +kernel)
      have p1 : mkB h1 bl := ⟨hb.1, hb.2.1, by rw [f1.2.2 _ _ (by simp)]; exact hb.2.2.1, fun k hk hk2 => by rw [f1.1 _ (by simp)]; exact hb.2.2.2 k hk hk2⟩
      with_reducible refine xm_go_blk b_X12_writeNatural_9 k_X12_writeNatural_9 ?_
      refine by_aload_n rfl ?_
      refine by_getf cn_325 fl_12_193 (by first | exact rfl | assumption) (by decide) ?_
      refine by_iload_n rfl ?_
      simp (disch := first | exact Nat.ne_of_beq_eq_false rfl | exact rfl | omega) only [nI_add, xa_sub, xa_mul, pk_div, nm_mod, xa_shr, xa_and7, xa_and1, xa_and255, xa_by_and, nI_m1, Nat.add_sub_cancel, Nat.reducePow, Nat.zero_add, Nat.add_zero, Nat.reduceAdd, Nat.reduceMul, Nat.reduceSub, xf_same, xq_ff, xq_fo, xf_1, xf_2, xs_1, xs_2, xs_same, xq_so, xj_1, xj_2, xj_same, xq_jo, xq_sa1, xq_same, xq_other, upd_s, oI_n, oI_s, xf_102_93 F1, e1]
      first | refine by_iald (by first | exact rfl | assumption | exact ps_1 hpp | exact ps_2 hpp | exact ps_3 hpp | exact ps_4 hpp | exact ps_5 hpp | exact ps_6 hpp | exact ps_7 hpp | exact ps_8 hpp | exact ps_9 hpp | exact ps_10 hpp | exact ps_11 hpp | exact ps_15 hpp | exact ps_16 hpp | exact ps_17 hpp | exact ps_18 hpp | exact ps_19 hpp | exact ps_21 hpp | exact ps_22 hpp | exact ps_23 hpp | exact ps_24 hpp) ⟨by omega, by omega⟩ ?_ | refine by_tald rfl rfl ⟨by omega, by omega⟩ ?_
      refine by_iconst ci_1 ?_
      refine by_ic_le 42 rfl ?_
      simp (disch := first | exact Nat.ne_of_beq_eq_false rfl | exact rfl | omega) only [nI_add, xa_sub, xa_mul, pk_div, nm_mod, xa_shr, xa_and7, xa_and1, xa_and255, xa_by_and, nI_m1, Nat.add_sub_cancel, Nat.reducePow, Nat.zero_add, Nat.add_zero, Nat.reduceAdd, Nat.reduceMul, Nat.reduceSub, xf_same, xq_ff, xq_fo, xf_1, xf_2, xs_1, xs_2, xs_same, xq_so, xj_1, xj_2, xj_same, xq_jo, xq_sa1, xq_same, xq_other, upd_s, oI_n, oI_s, xv_0, xv_1, xv_2, xv_3, xm_p1, xm_p2, xq_fp, xq_fn, List.filter_nil, Nat.reduceBEq, Bool.not_true, Bool.not_false, Bool.and_true, Bool.and_false, Bool.false_and, Bool.true_and, if_true, if_false, Bool.false_eq_true, reduceIte, xc_i, xc_j, xc_r, xc_n, List.nil_append, List.cons_append, Option.toList_some, Option.toList_none, nI_ltJ, nI_leJ, nI_eqJ, nI_ltz, nI_gez, nI_gtz, nI_lez, nI_eqz, m1_ltz, m1_gez, true_imp_iff, false_imp_iff, true_and, and_true, ne_eq, not_false_eq_true, not_true_eq_false, Nat.reduceEqDiff, Nat.reduceLT, Nat.reduceLeDiff, xf_102_93 F1, e1]
      refine ⟨fun c9 => ?_, fun c => absurd (by omega) c⟩
      with_reducible refine xm_go_blk b_X12_writeNatural_42 k_X12_writeNatural_42 ?_
      refine by_iconst ci_0 ?_
      refine by_istore_n (by rw [ml_325]; decide) ?_
      refine by_nil ?_
      try simp (disch := first | exact Nat.ne_of_beq_eq_false rfl | exact rfl | omega) only [nI_add, xa_sub, xa_mul, pk_div, nm_mod, xa_shr, xa_and7, xa_and1, xa_and255, xa_by_and, nI_m1, Nat.add_sub_cancel, Nat.reducePow, Nat.zero_add, Nat.add_zero, Nat.reduceAdd, Nat.reduceMul, Nat.reduceSub, xf_same, xq_ff, xq_fo, xf_1, xf_2, xs_1, xs_2, xs_same, xq_so, xj_1, xj_2, xj_same, xq_jo, xq_sa1, xq_same, xq_other, upd_s, oI_n, oI_s, xv_0, xv_1, xv_2, xv_3, xm_p1, xm_p2, xq_fp, xq_fn, List.filter_nil, Nat.reduceBEq, Bool.not_true, Bool.not_false, Bool.and_true, Bool.and_false, Bool.false_and, Bool.true_and, if_true, if_false, Bool.false_eq_true, reduceIte, xc_i, xc_j, xc_r, xc_n, List.nil_append, List.cons_append, Option.toList_some, Option.toList_none, xf_102_93 F1, e1]
      exact xm_go_wk (by simp [Value.category]) (ones (nkF v) 0 h1 (by omega) (Fr_mo f1 (by simp) (by simp)) (by simpa using p1) lv)
    | succ y ihy =>
      intro k h1 hk f1 lv
      obtain ⟨a1, a2⟩ := nb k (by omega)
      have a3 := n3 k (by omega)
      have e1 := lv k (Nat.le_refl _)
      have F1 := Fr_XF hF f1 (by decide +kernel)
      with_reducible refine xm_go_blk b_X12_writeNatural_9 k_X12_writeNatural_9 ?_
      refine by_aload_n rfl ?_
      refine by_getf cn_325 fl_12_193 (by first | exact rfl | assumption) (by decide) ?_
      refine by_iload_n rfl ?_
      simp (disch := first | exact Nat.ne_of_beq_eq_false rfl | exact rfl | omega) only [nI_add, xa_sub, xa_mul, pk_div, nm_mod, xa_shr, xa_and7, xa_and1, xa_and255, xa_by_and, nI_m1, Nat.add_sub_cancel, Nat.reducePow, Nat.zero_add, Nat.add_zero, Nat.reduceAdd, Nat.reduceMul, Nat.reduceSub, xf_same, xq_ff, xq_fo, xf_1, xf_2, xs_1, xs_2, xs_same, xq_so, xj_1, xj_2, xj_same, xq_jo, xq_sa1, xq_same, xq_other, upd_s, oI_n, oI_s, xf_102_93 F1, e1]
      first | refine by_iald (by first | exact rfl | assumption | exact ps_1 hpp | exact ps_2 hpp | exact ps_3 hpp | exact ps_4 hpp | exact ps_5 hpp | exact ps_6 hpp | exact ps_7 hpp | exact ps_8 hpp | exact ps_9 hpp | exact ps_10 hpp | exact ps_11 hpp | exact ps_15 hpp | exact ps_16 hpp | exact ps_17 hpp | exact ps_18 hpp | exact ps_19 hpp | exact ps_21 hpp | exact ps_22 hpp | exact ps_23 hpp | exact ps_24 hpp) ⟨by omega, by omega⟩ ?_ | refine by_tald rfl rfl ⟨by omega, by omega⟩ ?_
      refine by_iconst ci_1 ?_
      refine by_ic_le 42 rfl ?_
      simp (disch := first | exact Nat.ne_of_beq_eq_false rfl | exact rfl | omega) only [nI_add, xa_sub, xa_mul, pk_div, nm_mod, xa_shr, xa_and7, xa_and1, xa_and255, xa_by_and, nI_m1, Nat.add_sub_cancel, Nat.reducePow, Nat.zero_add, Nat.add_zero, Nat.reduceAdd, Nat.reduceMul, Nat.reduceSub, xf_same, xq_ff, xq_fo, xf_1, xf_2, xs_1, xs_2, xs_same, xq_so, xj_1, xj_2, xj_same, xq_jo, xq_sa1, xq_same, xq_other, upd_s, oI_n, oI_s, xv_0, xv_1, xv_2, xv_3, xm_p1, xm_p2, xq_fp, xq_fn, List.filter_nil, Nat.reduceBEq, Bool.not_true, Bool.not_false, Bool.and_true, Bool.and_false, Bool.false_and, Bool.true_and, if_true, if_false, Bool.false_eq_true, reduceIte, xc_i, xc_j, xc_r, xc_n, List.nil_append, List.cons_append, Option.toList_some, Option.toList_none, nI_ltJ, nI_leJ, nI_eqJ, nI_ltz, nI_gez, nI_gtz, nI_lez, nI_eqz, m1_ltz, m1_gez, true_imp_iff, false_imp_iff, true_and, and_true, ne_eq, not_false_eq_true, not_true_eq_false, Nat.reduceEqDiff, Nat.reduceLT, Nat.reduceLeDiff, xf_102_93 F1, e1]
      refine ⟨fun c => absurd c (by omega), fun c9 => ?_⟩
      with_reducible refine xm_go_blk b_X12_writeNatural_19 k_X12_writeNatural_19 ?_
      refine by_aload_n rfl ?_
      refine by_getf cn_325 fl_12_193 (by first | exact rfl | assumption) (by decide) ?_
      refine by_iload_n rfl ?_
      refine by_iconst ci_1 ?_
      refine by_iadd ?_
      refine by_aload_n rfl ?_
      refine by_getf cn_325 fl_12_193 (by first | exact rfl | assumption) (by decide) ?_
      refine by_iload_n rfl ?_
      simp (disch := first | exact Nat.ne_of_beq_eq_false rfl | exact rfl | omega) only [nI_add, xa_sub, xa_mul, pk_div, nm_mod, xa_shr, xa_and7, xa_and1, xa_and255, xa_by_and, nI_m1, Nat.add_sub_cancel, Nat.reducePow, Nat.zero_add, Nat.add_zero, Nat.reduceAdd, Nat.reduceMul, Nat.reduceSub, xf_same, xq_ff, xq_fo, xf_1, xf_2, xs_1, xs_2, xs_same, xq_so, xj_1, xj_2, xj_same, xq_jo, xq_sa1, xq_same, xq_other, upd_s, oI_n, oI_s, xf_102_93 F1, e1]
      first | refine by_iald (by first | exact rfl | assumption | exact ps_1 hpp | exact ps_2 hpp | exact ps_3 hpp | exact ps_4 hpp | exact ps_5 hpp | exact ps_6 hpp | exact ps_7 hpp | exact ps_8 hpp | exact ps_9 hpp | exact ps_10 hpp | exact ps_11 hpp | exact ps_15 hpp | exact ps_16 hpp | exact ps_17 hpp | exact ps_18 hpp | exact ps_19 hpp | exact ps_21 hpp | exact ps_22 hpp | exact ps_23 hpp | exact ps_24 hpp) ⟨by omega, by omega⟩ ?_ | refine by_tald rfl rfl ⟨by omega, by omega⟩ ?_
      simp (disch := first | exact Nat.ne_of_beq_eq_false rfl | exact rfl | omega) only [nI_add, xa_sub, xa_mul, pk_div, nm_mod, xa_shr, xa_and7, xa_and1, xa_and255, xa_by_and, nI_m1, Nat.add_sub_cancel, Nat.reducePow, Nat.zero_add, Nat.add_zero, Nat.reduceAdd, Nat.reduceMul, Nat.reduceSub, xf_same, xq_ff, xq_fo, xf_1, xf_2, xs_1, xs_2, xs_same, xq_so, xj_1, xj_2, xj_same, xq_jo, xq_sa1, xq_same, xq_other, upd_s, oI_n, oI_s, xv_0, xv_1, xv_2, xv_3, xm_p1, xm_p2, xq_fp, xq_fn, List.filter_nil, Nat.reduceBEq, Bool.not_true, Bool.not_false, Bool.and_true, Bool.and_false, Bool.false_and, Bool.true_and, if_true, if_false, Bool.false_eq_true, reduceIte, xc_i, xc_j, xc_r, xc_n, List.nil_append, List.cons_append, Option.toList_some, Option.toList_none, xf_102_93 F1, e1]
      refine by_ins1 cn_325 lk_12_663 (by rw [xe_cnt]; decide) is_219 np_219 (Nat.le_of_ble_eq_true rfl) ?_
      refine sp_digitsOf (d := d + 1) a1 a2 ?_
      with_reducible refine xm_go_blk b_X12_writeNatural_35 k_X12_writeNatural_35 ?_
      refine by_iast (by first | exact rfl | assumption | exact ps_1 hpp | exact ps_2 hpp | exact ps_3 hpp | exact ps_4 hpp | exact ps_5 hpp | exact ps_6 hpp | exact ps_7 hpp | exact ps_8 hpp | exact ps_9 hpp | exact ps_10 hpp | exact ps_11 hpp | exact ps_15 hpp | exact ps_16 hpp | exact ps_17 hpp | exact ps_18 hpp | exact ps_19 hpp | exact ps_21 hpp | exact ps_22 hpp | exact ps_23 hpp | exact ps_24 hpp) ⟨by omega, by omega⟩ ?_
      refine by_iinc (by rw [ml_325]; decide) rfl ci_1 ?_
      refine by_goto 9 rfl ?_
      try simp (disch := first | exact Nat.ne_of_beq_eq_false rfl | exact rfl | omega) only [nI_add, xa_sub, xa_mul, pk_div, nm_mod, xa_shr, xa_and7, xa_and1, xa_and255, xa_by_and, nI_m1, Nat.add_sub_cancel, Nat.reducePow, Nat.zero_add, Nat.add_zero, Nat.reduceAdd, Nat.reduceMul, Nat.reduceSub, xf_same, xq_ff, xq_fo, xf_1, xf_2, xs_1, xs_2, xs_same, xq_so, xj_1, xj_2, xj_same, xq_jo, xq_sa1, xq_same, xq_other, upd_s, oI_n, oI_s, xv_0, xv_1, xv_2, xv_3, xm_p1, xm_p2, xq_fp, xq_fn, List.filter_nil, Nat.reduceBEq, Bool.not_true, Bool.not_false, Bool.and_true, Bool.and_false, Bool.false_and, Bool.true_and, if_true, if_false, Bool.false_eq_true, reduceIte, xc_i, xc_j, xc_r, xc_n, List.nil_append, List.cons_append, Option.toList_some, Option.toList_none]
      refine xm_go_wk (by simp [Value.category]) (ihy (k + 1) _ (by omega) (Fr_si f1 (by simp)) (fun i hi => ?_))
      rw [xs_same]
      unfold upd
      by_cases z : i = k + 1
      · rw [if_pos z, z]
        rfl
      · rw [if_neg z]
        exact lv i (by omega)
  refine xq_in rfl ?_
  simp only [xq_a0, xq_aI, xq_aJ, xq_aR, Nat.reduceAdd]
  with_reducible refine xm_go_blk b_X12_writeNatural_0 k_X12_writeNatural_0 ?_
  refine by_iconst ci_0 ?_
  refine by_istore_n (by rw [ml_325]; decide) ?_
  refine by_aload_n rfl ?_
  refine by_getf cn_325 fl_12_193 (by first | exact rfl | assumption) (by decide) ?_
  refine by_iconst ci_0 ?_
  refine by_iload_n rfl ?_
  simp (disch := first | exact Nat.ne_of_beq_eq_false rfl | exact rfl | omega) only [nI_add, xa_sub, xa_mul, pk_div, nm_mod, xa_shr, xa_and7, xa_and1, xa_and255, xa_by_and, nI_m1, Nat.add_sub_cancel, Nat.reducePow, Nat.zero_add, Nat.add_zero, Nat.reduceAdd, Nat.reduceMul, Nat.reduceSub, xf_same, xq_ff, xq_fo, xf_1, xf_2, xs_1, xs_2, xs_same, xq_so, xj_1, xj_2, xj_same, xq_jo, xq_sa1, xq_same, xq_other, upd_s, oI_n, oI_s, xf_102_93 hF]
  refine by_iast (by first | exact rfl | assumption | exact ps_1 hpp | exact ps_2 hpp | exact ps_3 hpp | exact ps_4 hpp | exact ps_5 hpp | exact ps_6 hpp | exact ps_7 hpp | exact ps_8 hpp | exact ps_9 hpp | exact ps_10 hpp | exact ps_11 hpp | exact ps_15 hpp | exact ps_16 hpp | exact ps_17 hpp | exact ps_18 hpp | exact ps_19 hpp | exact ps_21 hpp | exact ps_22 hpp | exact ps_23 hpp | exact ps_24 hpp) ⟨by omega, by omega⟩ ?_
  refine by_nil ?_
  try simp (disch := first | exact Nat.ne_of_beq_eq_false rfl | exact rfl | omega) only [nI_add, xa_sub, xa_mul, pk_div, nm_mod, xa_shr, xa_and7, xa_and1, xa_and255, xa_by_and, nI_m1, Nat.add_sub_cancel, Nat.reducePow, Nat.zero_add, Nat.add_zero, Nat.reduceAdd, Nat.reduceMul, Nat.reduceSub, xf_same, xq_ff, xq_fo, xf_1, xf_2, xs_1, xs_2, xs_same, xq_so, xj_1, xj_2, xj_same, xq_jo, xq_sa1, xq_same, xq_other, upd_s, oI_n, oI_s, xv_0, xv_1, xv_2, xv_3, xm_p1, xm_p2, xq_fp, xq_fn, List.filter_nil, Nat.reduceBEq, Bool.not_true, Bool.not_false, Bool.and_true, Bool.and_false, Bool.false_and, Bool.true_and, if_true, if_false, Bool.false_eq_true, reduceIte, xc_i, xc_j, xc_r, xc_n, List.nil_append, List.cons_append, Option.toList_some, Option.toList_none, xf_102_93 hF]
  refine xm_go_wk (by simp [Value.category]) (lens (nkF v) 0 _ (by omega) (Fr_si Fr_rf (by simp)) (fun i hi => ?_))
  have : i = 0 := by omega
  subst this
  rw [xs_same]
  unfold upd
  rw [if_pos rfl]
  rfl
end SY
