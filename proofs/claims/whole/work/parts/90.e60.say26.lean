/-! ===== say: putNatural of the class ===== -/
section SY
variable {sc : xm_Sc} {d v : Nat} {bl : List Nat} {h : xm_H} {post : xm_Po}
theorem nlv_b {v : Nat} (hv1 : 1 ≤ v) (hv : v < 2147483648) : ∀ k, k ≤ nkF v → 1 ≤ nlv v k ∧ nlv v k < 2147483648 := by
  intro k
  induction k with
  | zero => intro _; exact ⟨hv1, hv⟩
  | succ k ih =>
    intro hk
    have h1 := (nkF_p hv).2.2 k (by omega)
    obtain ⟨a1, a2⟩ := ih (by omega)
    have h3 := lg_31 a1 a2
    have h2 : ¬ Nat.log2 (nlv v k) < 1 := fun z => by
      have := (Nat.log2_lt (n := nlv v k) (k := 1) (by omega)).mp z
      omega
    show 1 ≤ Nat.log2 (nlv v k) ∧ Nat.log2 (nlv v k) < 2147483648
    omega
theorem sp_putNatural (hF : XF h) (hb : penW h bl) (hv1 : 1 ≤ v) (hv : v < 2147483648) (hp : ∀ h', Fr [6] [(5, 1), (5, 2), (5, 3)] h h' → penW h' (bl ++ ntT v) → post none h') : xm_T (XE sc) (d + 4) 138 [.ref 5, .int (nI v)] h post := by
  obtain ⟨n1, n2, n3⟩ := nkF_p hv
  have nb := nlv_b hv1 hv
  have tr : ∀ {h1 h2 : xm_H}, Fr [6] [(5, 1), (5, 2), (5, 3)] h h1 → Fr [6] [(5, 1), (5, 2), (5, 3)] h1 h2 → Fr [6] [(5, 1), (5, 2), (5, 3)] h h2 := fun f1 f2 => Fr_tr f1 f2 (fun _ z => z) (fun _ z => z)
  have xf : ∀ {h1 : xm_H}, Fr [6] [(5, 1), (5, 2), (5, 3)] h h1 → XF h1 := fun f1 => Fr_XF hF f1 (by decide +kernel)
  -- layers
  have lay : ∀ (j : Nat) (h1 : xm_H) (l1 : List Nat) (x4 x5 : List (Nat × Value)), j ≤ nkF v → Fr [6] [(5, 1), (5, 2), (5, 3)] h h1 → penW h1 l1 → l1 ++ ntB v j = bl ++ ntT v → xm_go (XE sc) (xm_T (XE sc) (d + 3)) 138 post 40 [(3, .int (if j = 0 then -1 else nI (j - 1))), (0, .ref 5), (1, .int (nI v))] [] h1 := by
    intro j
    induction j with
    | zero =>
      intro h1 l1 _ _ hj f1 p1 he
      rw [if_pos rfl]
      with_reducible refine xm_go_blk b_X8_putNatural_40 k_X8_putNatural_40 ?_
      refine by_iload_n rfl ?_
      refine by_if_lt 87 rfl ?_
      simp (disch := first | exact Nat.ne_of_beq_eq_false rfl | exact rfl | omega) only [nI_add, xa_sub, xa_mul, pk_div, nm_mod, xa_shr, xa_and7, xa_and1, xa_and255, xa_by_and, nI_m1, Nat.add_sub_cancel, Nat.reducePow, Nat.zero_add, Nat.add_zero, Nat.reduceAdd, Nat.reduceMul, Nat.reduceSub, xf_same, xq_ff, xq_fo, xf_1, xf_2, xs_1, xs_2, xs_same, xq_so, xj_1, xj_2, xj_same, xq_jo, xq_sa1, xq_same, xq_other, upd_s, oI_n, oI_s, xv_0, xv_1, xv_2, xv_3, xm_p1, xm_p2, xq_fp, xq_fn, List.filter_nil, Nat.reduceBEq, Bool.not_true, Bool.not_false, Bool.and_true, Bool.and_false, Bool.false_and, Bool.true_and, if_true, if_false, Bool.false_eq_true, reduceIte, xc_i, xc_j, xc_r, xc_n, List.nil_append, List.cons_append, Option.toList_some, Option.toList_none, nI_ltJ, nI_leJ, nI_eqJ, nI_ltz, nI_gez, nI_gtz, nI_lez, nI_eqz, m1_ltz, m1_gez, true_imp_iff, false_imp_iff, true_and, and_true, ne_eq, not_false_eq_true, not_true_eq_false, Nat.reduceEqDiff, Nat.reduceLT, Nat.reduceLeDiff]
      with_reducible refine xm_go_blk b_X8_putNatural_87 k_X8_putNatural_87 ?_
      refine by_ret ry_138 ?_
      exact hp h1 f1 (by rw [← he]; simpa [ntB] using p1)
    | succ j ih =>
      intro h1 l1 _ _ hj f1 p1 he
      rw [if_neg (by omega), Nat.add_sub_cancel]
      have inner : ∀ (y i : Nat), i + y = j → xm_go (XE sc) (xm_T (XE sc) (d + 3)) 138 post 50 [(5, .int (nI i)), (4, .int (nI (nlv v i))), (3, .int (nI j)), (0, .ref 5), (1, .int (nI v))] [] h1 := by
        intro y
        induction y with
        | zero =>
          intro i hi
          have : i = j := by omega
          subst this
          obtain ⟨a1, a2⟩ := nb i (by omega)
          have i2 := i2l_n (a := nlv v i) a2
          have h30 := lg_31 a1 a2
          with_reducible refine xm_go_blk b_X8_putNatural_50 k_X8_putNatural_50 ?_
          refine by_iload rfl ?_
          refine by_iload_n rfl ?_
          refine by_ic_ge 69 rfl ?_
          simp (disch := first | exact Nat.ne_of_beq_eq_false rfl | exact rfl | omega) only [nI_add, xa_sub, xa_mul, pk_div, nm_mod, xa_shr, xa_and7, xa_and1, xa_and255, xa_by_and, nI_m1, Nat.add_sub_cancel, Nat.reducePow, Nat.zero_add, Nat.add_zero, Nat.reduceAdd, Nat.reduceMul, Nat.reduceSub, xf_same, xq_ff, xq_fo, xf_1, xf_2, xs_1, xs_2, xs_same, xq_so, xj_1, xj_2, xj_same, xq_jo, xq_sa1, xq_same, xq_other, upd_s, oI_n, oI_s, xv_0, xv_1, xv_2, xv_3, xm_p1, xm_p2, xq_fp, xq_fn, List.filter_nil, Nat.reduceBEq, Bool.not_true, Bool.not_false, Bool.and_true, Bool.and_false, Bool.false_and, Bool.true_and, if_true, if_false, Bool.false_eq_true, reduceIte, xc_i, xc_j, xc_r, xc_n, List.nil_append, List.cons_append, Option.toList_some, Option.toList_none, nI_ltJ, nI_leJ, nI_eqJ, nI_ltz, nI_gez, nI_gtz, nI_lez, nI_eqz, m1_ltz, m1_gez, true_imp_iff, false_imp_iff, true_and, and_true, ne_eq, not_false_eq_true, not_true_eq_false, Nat.reduceEqDiff, Nat.reduceLT, Nat.reduceLeDiff, i2]
          refine ⟨fun c50 => ?_, fun c => absurd (by omega) c⟩
          with_reducible refine xm_go_blk b_X8_putNatural_69 k_X8_putNatural_69 ?_
          refine by_aload_n rfl ?_
          refine by_iload rfl ?_
          refine by_i2l ?_
          refine by_iload rfl ?_
          simp (disch := first | exact Nat.ne_of_beq_eq_false rfl | exact rfl | omega) only [nI_add, xa_sub, xa_mul, pk_div, nm_mod, xa_shr, xa_and7, xa_and1, xa_and255, xa_by_and, nI_m1, Nat.add_sub_cancel, Nat.reducePow, Nat.zero_add, Nat.add_zero, Nat.reduceAdd, Nat.reduceMul, Nat.reduceSub, xf_same, xq_ff, xq_fo, xf_1, xf_2, xs_1, xs_2, xs_same, xq_so, xj_1, xj_2, xj_same, xq_jo, xq_sa1, xq_same, xq_other, upd_s, oI_n, oI_s, xv_0, xv_1, xv_2, xv_3, xm_p1, xm_p2, xq_fp, xq_fn, List.filter_nil, Nat.reduceBEq, Bool.not_true, Bool.not_false, Bool.and_true, Bool.and_false, Bool.false_and, Bool.true_and, if_true, if_false, Bool.false_eq_true, reduceIte, xc_i, xc_j, xc_r, xc_n, List.nil_append, List.cons_append, Option.toList_some, Option.toList_none, i2]
          refine by_ins1 cn_138 lk_8_49 (by rw [xe_cnt]; decide) is_132 np_132 (Nat.le_of_ble_eq_true rfl) ?_
          refine sp_lengthOf (d := d + 2) a1 a2 ?_
          with_reducible refine xm_go_blk b_X8_putNatural_78 k_X8_putNatural_78 ?_
          refine by_inv2 cn_138 lk_8_52 (by rw [xe_cnt]; decide) is_135 np_135 cn_135 (by first | exact rfl | assumption | exact ps_12 hpp) (Nat.le_of_ble_eq_true rfl) ?_
          refine sp_putBitsW (d := d) (g := fun k => nlv v i / 2 ^ k % 2) (xf f1) p1 (by omega) (fun k hk => ⟨plsb_n (by omega) (by omega), Nat.mod_lt _ (by decide)⟩) (fun h2 f2 p2 => ?_)
          have k2 := ih h2 (l1 ++ hiB (fun k => nlv v i / 2 ^ k % 2) (Nat.log2 (nlv v i))) [] [] (by omega) (tr f1 f2) p2 (by rw [List.append_assoc]; exact he)
          have e2 : nI i + -1 = (if i = 0 then -1 else nI (i - 1)) := by
            by_cases z : i = 0
            · subst z; rfl
            · rw [if_neg z, nI_m1 (by omega)]
          with_reducible refine xm_go_blk b_X8_putNatural_81 k_X8_putNatural_81 ?_
          refine by_iinc (by rw [ml_138]; decide) rfl ci_m1 ?_
          refine by_goto 40 rfl ?_
          try simp (disch := first | exact Nat.ne_of_beq_eq_false rfl | exact rfl | omega) only [nI_add, xa_sub, xa_mul, pk_div, nm_mod, xa_shr, xa_and7, xa_and1, xa_and255, xa_by_and, nI_m1, Nat.add_sub_cancel, Nat.reducePow, Nat.zero_add, Nat.add_zero, Nat.reduceAdd, Nat.reduceMul, Nat.reduceSub, xf_same, xq_ff, xq_fo, xf_1, xf_2, xs_1, xs_2, xs_same, xq_so, xj_1, xj_2, xj_same, xq_jo, xq_sa1, xq_same, xq_other, upd_s, oI_n, oI_s, xv_0, xv_1, xv_2, xv_3, xm_p1, xm_p2, xq_fp, xq_fn, List.filter_nil, Nat.reduceBEq, Bool.not_true, Bool.not_false, Bool.and_true, Bool.and_false, Bool.false_and, Bool.true_and, if_true, if_false, Bool.false_eq_true, reduceIte, xc_i, xc_j, xc_r, xc_n, List.nil_append, List.cons_append, Option.toList_some, Option.toList_none, e2]
          exact xm_go_wk (by simp [Value.category]) k2
        | succ y ihy =>
          intro i hi
          obtain ⟨a1, a2⟩ := nb i (by omega)
          with_reducible refine xm_go_blk b_X8_putNatural_50 k_X8_putNatural_50 ?_
          refine by_iload rfl ?_
          refine by_iload_n rfl ?_
          refine by_ic_ge 69 rfl ?_
          simp (disch := first | exact Nat.ne_of_beq_eq_false rfl | exact rfl | omega) only [nI_add, xa_sub, xa_mul, pk_div, nm_mod, xa_shr, xa_and7, xa_and1, xa_and255, xa_by_and, nI_m1, Nat.add_sub_cancel, Nat.reducePow, Nat.zero_add, Nat.add_zero, Nat.reduceAdd, Nat.reduceMul, Nat.reduceSub, xf_same, xq_ff, xq_fo, xf_1, xf_2, xs_1, xs_2, xs_same, xq_so, xj_1, xj_2, xj_same, xq_jo, xq_sa1, xq_same, xq_other, upd_s, oI_n, oI_s, xv_0, xv_1, xv_2, xv_3, xm_p1, xm_p2, xq_fp, xq_fn, List.filter_nil, Nat.reduceBEq, Bool.not_true, Bool.not_false, Bool.and_true, Bool.and_false, Bool.false_and, Bool.true_and, if_true, if_false, Bool.false_eq_true, reduceIte, xc_i, xc_j, xc_r, xc_n, List.nil_append, List.cons_append, Option.toList_some, Option.toList_none, nI_ltJ, nI_leJ, nI_eqJ, nI_ltz, nI_gez, nI_gtz, nI_lez, nI_eqz, m1_ltz, m1_gez, true_imp_iff, false_imp_iff, true_and, and_true, ne_eq, not_false_eq_true, not_true_eq_false, Nat.reduceEqDiff, Nat.reduceLT, Nat.reduceLeDiff]
          refine ⟨fun c => absurd c (by omega), fun c50 => ?_⟩
          with_reducible refine xm_go_blk b_X8_putNatural_56 k_X8_putNatural_56 ?_
          refine by_iload rfl ?_
          refine by_ins1 cn_138 lk_8_49 (by rw [xe_cnt]; decide) is_132 np_132 (Nat.le_of_ble_eq_true rfl) ?_
          refine sp_lengthOf (d := d + 2) a1 a2 ?_
          with_reducible refine xm_go_blk b_X8_putNatural_61 k_X8_putNatural_61 ?_
          refine by_istore (by rw [ml_138]; decide) ?_
          refine by_iinc (by rw [ml_138]; decide) rfl ci_1 ?_
          refine by_goto 50 rfl ?_
          try simp (disch := first | exact Nat.ne_of_beq_eq_false rfl | exact rfl | omega) only [nI_add, xa_sub, xa_mul, pk_div, nm_mod, xa_shr, xa_and7, xa_and1, xa_and255, xa_by_and, nI_m1, Nat.add_sub_cancel, Nat.reducePow, Nat.zero_add, Nat.add_zero, Nat.reduceAdd, Nat.reduceMul, Nat.reduceSub, xf_same, xq_ff, xq_fo, xf_1, xf_2, xs_1, xs_2, xs_same, xq_so, xj_1, xj_2, xj_same, xq_jo, xq_sa1, xq_same, xq_other, upd_s, oI_n, oI_s, xv_0, xv_1, xv_2, xv_3, xm_p1, xm_p2, xq_fp, xq_fn, List.filter_nil, Nat.reduceBEq, Bool.not_true, Bool.not_false, Bool.and_true, Bool.and_false, Bool.false_and, Bool.true_and, if_true, if_false, Bool.false_eq_true, reduceIte, xc_i, xc_j, xc_r, xc_n, List.nil_append, List.cons_append, Option.toList_some, Option.toList_none]
          exact xm_go_wk (by simp [Value.category, nlv]) (ihy (i + 1) (by omega))
      with_reducible refine xm_go_blk b_X8_putNatural_40 k_X8_putNatural_40 ?_
      refine by_iload_n rfl ?_
      refine by_if_lt 87 rfl ?_
      simp (disch := first | exact Nat.ne_of_beq_eq_false rfl | exact rfl | omega) only [nI_add, xa_sub, xa_mul, pk_div, nm_mod, xa_shr, xa_and7, xa_and1, xa_and255, xa_by_and, nI_m1, Nat.add_sub_cancel, Nat.reducePow, Nat.zero_add, Nat.add_zero, Nat.reduceAdd, Nat.reduceMul, Nat.reduceSub, xf_same, xq_ff, xq_fo, xf_1, xf_2, xs_1, xs_2, xs_same, xq_so, xj_1, xj_2, xj_same, xq_jo, xq_sa1, xq_same, xq_other, upd_s, oI_n, oI_s, xv_0, xv_1, xv_2, xv_3, xm_p1, xm_p2, xq_fp, xq_fn, List.filter_nil, Nat.reduceBEq, Bool.not_true, Bool.not_false, Bool.and_true, Bool.and_false, Bool.false_and, Bool.true_and, if_true, if_false, Bool.false_eq_true, reduceIte, xc_i, xc_j, xc_r, xc_n, List.nil_append, List.cons_append, Option.toList_some, Option.toList_none, nI_ltJ, nI_leJ, nI_eqJ, nI_ltz, nI_gez, nI_gtz, nI_lez, nI_eqz, m1_ltz, m1_gez, true_imp_iff, false_imp_iff, true_and, and_true, ne_eq, not_false_eq_true, not_true_eq_false, Nat.reduceEqDiff, Nat.reduceLT, Nat.reduceLeDiff]
      with_reducible refine xm_go_blk b_X8_putNatural_44 k_X8_putNatural_44 ?_
      refine by_iload_n rfl ?_
      refine by_istore (by rw [ml_138]; decide) ?_
      refine by_iconst ci_0 ?_
      refine by_istore (by rw [ml_138]; decide) ?_
      refine by_nil ?_
      try simp (disch := first | exact Nat.ne_of_beq_eq_false rfl | exact rfl | omega) only [nI_add, xa_sub, xa_mul, pk_div, nm_mod, xa_shr, xa_and7, xa_and1, xa_and255, xa_by_and, nI_m1, Nat.add_sub_cancel, Nat.reducePow, Nat.zero_add, Nat.add_zero, Nat.reduceAdd, Nat.reduceMul, Nat.reduceSub, xf_same, xq_ff, xq_fo, xf_1, xf_2, xs_1, xs_2, xs_same, xq_so, xj_1, xj_2, xj_same, xq_jo, xq_sa1, xq_same, xq_other, upd_s, oI_n, oI_s, xv_0, xv_1, xv_2, xv_3, xm_p1, xm_p2, xq_fp, xq_fn, List.filter_nil, Nat.reduceBEq, Bool.not_true, Bool.not_false, Bool.and_true, Bool.and_false, Bool.false_and, Bool.true_and, if_true, if_false, Bool.false_eq_true, reduceIte, xc_i, xc_j, xc_r, xc_n, List.nil_append, List.cons_append, Option.toList_some, Option.toList_none]
      exact xm_go_wk (by simp [Value.category, nlv]) (inner j 0 (by omega))
  -- ones
  have ones : ∀ (y k : Nat) (h1 : xm_H), k + y = nkF v → Fr [6] [(5, 1), (5, 2), (5, 3)] h h1 → penW h1 (bl ++ List.replicate k 1) → xm_go (XE sc) (xm_T (XE sc) (d + 3)) 138 post 4 [(3, .int (nI (nlv v k))), (2, .int (nI k)), (0, .ref 5), (1, .int (nI v))] [] h1 := by
    intro y
    induction y with
    | zero =>
      intro k h1 hk f1 p1
      have : k = nkF v := by omega
      subst this
      obtain ⟨a1, a2⟩ := nb _ (Nat.le_refl _)
      with_reducible refine xm_go_blk b_X8_putNatural_4 k_X8_putNatural_4 ?_
      refine by_iload_n rfl ?_
      refine by_iconst ci_1 ?_
      refine by_ic_le 31 rfl ?_
      simp (disch := first | exact Nat.ne_of_beq_eq_false rfl | exact rfl | omega) only [nI_add, xa_sub, xa_mul, pk_div, nm_mod, xa_shr, xa_and7, xa_and1, xa_and255, xa_by_and, nI_m1, Nat.add_sub_cancel, Nat.reducePow, Nat.zero_add, Nat.add_zero, Nat.reduceAdd, Nat.reduceMul, Nat.reduceSub, xf_same, xq_ff, xq_fo, xf_1, xf_2, xs_1, xs_2, xs_same, xq_so, xj_1, xj_2, xj_same, xq_jo, xq_sa1, xq_same, xq_other, upd_s, oI_n, oI_s, xv_0, xv_1, xv_2, xv_3, xm_p1, xm_p2, xq_fp, xq_fn, List.filter_nil, Nat.reduceBEq, Bool.not_true, Bool.not_false, Bool.and_true, Bool.and_false, Bool.false_and, Bool.true_and, if_true, if_false, Bool.false_eq_true, reduceIte, xc_i, xc_j, xc_r, xc_n, List.nil_append, List.cons_append, Option.toList_some, Option.toList_none, nI_ltJ, nI_leJ, nI_eqJ, nI_ltz, nI_gez, nI_gtz, nI_lez, nI_eqz, m1_ltz, m1_gez, true_imp_iff, false_imp_iff, true_and, and_true, ne_eq, not_false_eq_true, not_true_eq_false, Nat.reduceEqDiff, Nat.reduceLT, Nat.reduceLeDiff]
      refine ⟨fun c4 => ?_, fun c => absurd (by omega) c⟩
      with_reducible refine xm_go_blk b_X8_putNatural_31 k_X8_putNatural_31 ?_
      refine by_aload_n rfl ?_
      refine by_iconst ci_0 ?_
      refine by_inv1 cn_138 lk_8_46 (by rw [xe_cnt]; decide) is_134 np_134 cn_134 (by first | exact rfl | assumption | exact ps_12 hpp) (Nat.le_of_ble_eq_true rfl) ?_
      refine sp_putW (d := d + 1) (x := nI 0) (xf f1) p1 (fun h2 f2 p2 => ?_)
      have p2' : penW h2 (bl ++ List.replicate (nkF v) 1 ++ [0]) := p2
      have k2 := lay (nkF v) h2 _ [] [] (Nat.le_refl _) (tr f1 f2) p2' (by unfold ntT; simp)
      have e2 : nI (nkF v) - nI 1 = (if nkF v = 0 then -1 else nI (nkF v - 1)) := by
        by_cases z : nkF v = 0
        · rw [z]; rfl
        · rw [if_neg z, xa_sub (by omega)]
      with_reducible refine xm_go_blk b_X8_putNatural_36 k_X8_putNatural_36 ?_
      refine by_iload_n rfl ?_
      refine by_iconst ci_1 ?_
      refine by_isub ?_
      refine by_istore_n (by rw [ml_138]; decide) ?_
      refine by_nil ?_
      try simp (disch := first | exact Nat.ne_of_beq_eq_false rfl | exact rfl | omega) only [nI_add, xa_sub, xa_mul, pk_div, nm_mod, xa_shr, xa_and7, xa_and1, xa_and255, xa_by_and, nI_m1, Nat.add_sub_cancel, Nat.reducePow, Nat.zero_add, Nat.add_zero, Nat.reduceAdd, Nat.reduceMul, Nat.reduceSub, xf_same, xq_ff, xq_fo, xf_1, xf_2, xs_1, xs_2, xs_same, xq_so, xj_1, xj_2, xj_same, xq_jo, xq_sa1, xq_same, xq_other, upd_s, oI_n, oI_s, xv_0, xv_1, xv_2, xv_3, xm_p1, xm_p2, xq_fp, xq_fn, List.filter_nil, Nat.reduceBEq, Bool.not_true, Bool.not_false, Bool.and_true, Bool.and_false, Bool.false_and, Bool.true_and, if_true, if_false, Bool.false_eq_true, reduceIte, xc_i, xc_j, xc_r, xc_n, List.nil_append, List.cons_append, Option.toList_some, Option.toList_none, e2]
      exact xm_go_wk (by simp [Value.category]) k2
    | succ y ihy =>
      intro k h1 hk f1 p1
      obtain ⟨a1, a2⟩ := nb k (by omega)
      have a3 := n3 k (by omega)
      with_reducible refine xm_go_blk b_X8_putNatural_4 k_X8_putNatural_4 ?_
      refine by_iload_n rfl ?_
      refine by_iconst ci_1 ?_
      refine by_ic_le 31 rfl ?_
      simp (disch := first | exact Nat.ne_of_beq_eq_false rfl | exact rfl | omega) only [nI_add, xa_sub, xa_mul, pk_div, nm_mod, xa_shr, xa_and7, xa_and1, xa_and255, xa_by_and, nI_m1, Nat.add_sub_cancel, Nat.reducePow, Nat.zero_add, Nat.add_zero, Nat.reduceAdd, Nat.reduceMul, Nat.reduceSub, xf_same, xq_ff, xq_fo, xf_1, xf_2, xs_1, xs_2, xs_same, xq_so, xj_1, xj_2, xj_same, xq_jo, xq_sa1, xq_same, xq_other, upd_s, oI_n, oI_s, xv_0, xv_1, xv_2, xv_3, xm_p1, xm_p2, xq_fp, xq_fn, List.filter_nil, Nat.reduceBEq, Bool.not_true, Bool.not_false, Bool.and_true, Bool.and_false, Bool.false_and, Bool.true_and, if_true, if_false, Bool.false_eq_true, reduceIte, xc_i, xc_j, xc_r, xc_n, List.nil_append, List.cons_append, Option.toList_some, Option.toList_none, nI_ltJ, nI_leJ, nI_eqJ, nI_ltz, nI_gez, nI_gtz, nI_lez, nI_eqz, m1_ltz, m1_gez, true_imp_iff, false_imp_iff, true_and, and_true, ne_eq, not_false_eq_true, not_true_eq_false, Nat.reduceEqDiff, Nat.reduceLT, Nat.reduceLeDiff]
      refine ⟨fun c => absurd c (by omega), fun c4 => ?_⟩
      with_reducible refine xm_go_blk b_X8_putNatural_9 k_X8_putNatural_9 ?_
      refine by_iload_n rfl ?_
      refine by_bipush cb_8 ?_
      refine by_ic_ge 31 rfl ?_
      simp (disch := first | exact Nat.ne_of_beq_eq_false rfl | exact rfl | omega) only [nI_add, xa_sub, xa_mul, pk_div, nm_mod, xa_shr, xa_and7, xa_and1, xa_and255, xa_by_and, nI_m1, Nat.add_sub_cancel, Nat.reducePow, Nat.zero_add, Nat.add_zero, Nat.reduceAdd, Nat.reduceMul, Nat.reduceSub, xf_same, xq_ff, xq_fo, xf_1, xf_2, xs_1, xs_2, xs_same, xq_so, xj_1, xj_2, xj_same, xq_jo, xq_sa1, xq_same, xq_other, upd_s, oI_n, oI_s, xv_0, xv_1, xv_2, xv_3, xm_p1, xm_p2, xq_fp, xq_fn, List.filter_nil, Nat.reduceBEq, Bool.not_true, Bool.not_false, Bool.and_true, Bool.and_false, Bool.false_and, Bool.true_and, if_true, if_false, Bool.false_eq_true, reduceIte, xc_i, xc_j, xc_r, xc_n, List.nil_append, List.cons_append, Option.toList_some, Option.toList_none, nI_ltJ, nI_leJ, nI_eqJ, nI_ltz, nI_gez, nI_gtz, nI_lez, nI_eqz, m1_ltz, m1_gez, true_imp_iff, false_imp_iff, true_and, and_true, ne_eq, not_false_eq_true, not_true_eq_false, Nat.reduceEqDiff, Nat.reduceLT, Nat.reduceLeDiff]
      refine ⟨fun c => absurd c (by omega), fun c9 => ?_⟩
      with_reducible refine xm_go_blk b_X8_putNatural_15 k_X8_putNatural_15 ?_
      refine by_aload_n rfl ?_
      refine by_iconst ci_1 ?_
      refine by_inv1 cn_138 lk_8_46 (by rw [xe_cnt]; decide) is_134 np_134 cn_134 (by first | exact rfl | assumption | exact ps_12 hpp) (Nat.le_of_ble_eq_true rfl) ?_
      refine sp_putW (d := d + 1) (x := nI 1) (xf f1) p1 (fun h2 f2 p2 => ?_)
      have p2' : penW h2 (bl ++ List.replicate (k + 1) 1) := by
        rw [List.replicate_succ', ← List.append_assoc]
        exact p2
      with_reducible refine xm_go_blk b_X8_putNatural_20 k_X8_putNatural_20 ?_
      refine by_iinc (by rw [ml_138]; decide) rfl ci_1 ?_
      refine by_iload_n rfl ?_
      simp (disch := first | exact Nat.ne_of_beq_eq_false rfl | exact rfl | omega) only [nI_add, xa_sub, xa_mul, pk_div, nm_mod, xa_shr, xa_and7, xa_and1, xa_and255, xa_by_and, nI_m1, Nat.add_sub_cancel, Nat.reducePow, Nat.zero_add, Nat.add_zero, Nat.reduceAdd, Nat.reduceMul, Nat.reduceSub, xf_same, xq_ff, xq_fo, xf_1, xf_2, xs_1, xs_2, xs_same, xq_so, xj_1, xj_2, xj_same, xq_jo, xq_sa1, xq_same, xq_other, upd_s, oI_n, oI_s, xv_0, xv_1, xv_2, xv_3, xm_p1, xm_p2, xq_fp, xq_fn, List.filter_nil, Nat.reduceBEq, Bool.not_true, Bool.not_false, Bool.and_true, Bool.and_false, Bool.false_and, Bool.true_and, if_true, if_false, Bool.false_eq_true, reduceIte, xc_i, xc_j, xc_r, xc_n, List.nil_append, List.cons_append, Option.toList_some, Option.toList_none]
      refine by_ins1 cn_138 lk_8_49 (by rw [xe_cnt]; decide) is_132 np_132 (Nat.le_of_ble_eq_true rfl) ?_
      refine sp_lengthOf (d := d + 2) a1 a2 ?_
      with_reducible refine xm_go_blk b_X8_putNatural_27 k_X8_putNatural_27 ?_
      refine by_istore_n (by rw [ml_138]; decide) ?_
      refine by_goto 4 rfl ?_
      try simp (disch := first | exact Nat.ne_of_beq_eq_false rfl | exact rfl | omega) only [nI_add, xa_sub, xa_mul, pk_div, nm_mod, xa_shr, xa_and7, xa_and1, xa_and255, xa_by_and, nI_m1, Nat.add_sub_cancel, Nat.reducePow, Nat.zero_add, Nat.add_zero, Nat.reduceAdd, Nat.reduceMul, Nat.reduceSub, xf_same, xq_ff, xq_fo, xf_1, xf_2, xs_1, xs_2, xs_same, xq_so, xj_1, xj_2, xj_same, xq_jo, xq_sa1, xq_same, xq_other, upd_s, oI_n, oI_s, xv_0, xv_1, xv_2, xv_3, xm_p1, xm_p2, xq_fp, xq_fn, List.filter_nil, Nat.reduceBEq, Bool.not_true, Bool.not_false, Bool.and_true, Bool.and_false, Bool.false_and, Bool.true_and, if_true, if_false, Bool.false_eq_true, reduceIte, xc_i, xc_j, xc_r, xc_n, List.nil_append, List.cons_append, Option.toList_some, Option.toList_none]
      exact xm_go_wk (by simp [Value.category, nlv]) (ihy (k + 1) h2 (by omega) (tr f1 f2) p2')
  refine xq_in rfl ?_
  simp only [xq_a0, xq_aI, xq_aJ, xq_aR, Nat.reduceAdd]
  with_reducible refine xm_go_blk b_X8_putNatural_0 k_X8_putNatural_0 ?_
  refine by_iconst ci_0 ?_
  refine by_istore_n (by rw [ml_138]; decide) ?_
  refine by_iload_n rfl ?_
  refine by_istore_n (by rw [ml_138]; decide) ?_
  refine by_nil ?_
  try simp (disch := first | exact Nat.ne_of_beq_eq_false rfl | exact rfl | omega) only [nI_add, xa_sub, xa_mul, pk_div, nm_mod, xa_shr, xa_and7, xa_and1, xa_and255, xa_by_and, nI_m1, Nat.add_sub_cancel, Nat.reducePow, Nat.zero_add, Nat.add_zero, Nat.reduceAdd, Nat.reduceMul, Nat.reduceSub, xf_same, xq_ff, xq_fo, xf_1, xf_2, xs_1, xs_2, xs_same, xq_so, xj_1, xj_2, xj_same, xq_jo, xq_sa1, xq_same, xq_other, upd_s, oI_n, oI_s, xv_0, xv_1, xv_2, xv_3, xm_p1, xm_p2, xq_fp, xq_fn, List.filter_nil, Nat.reduceBEq, Bool.not_true, Bool.not_false, Bool.and_true, Bool.and_false, Bool.false_and, Bool.true_and, if_true, if_false, Bool.false_eq_true, reduceIte, xc_i, xc_j, xc_r, xc_n, List.nil_append, List.cons_append, Option.toList_some, Option.toList_none]
  exact xm_go_wk (by simp [Value.category, nlv]) (ones (nkF v) 0 h (by omega) Fr_rf (by simpa using hb))
end SY
