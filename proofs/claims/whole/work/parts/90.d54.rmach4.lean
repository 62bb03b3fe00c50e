/-! ===== the reference's machine works a node: LEFT, RIGHT, CASE ===== -/
section RB
variable {sc : xm_Sc} {d df s0 t0 : Nat} {q : PgD} {H0 : xm_H} {post : xm_Po} {dp cb : Nat → Nat}
theorem rb_inj {n x k e0 : Nat} {rx : (Nat → Bool) → Option mc_V} (hP : mPg H0 (some q)) (hn : n < q.2.1.length) (he : (pC q.2.1 n = 3 ∧ e0 = 0) ∨ (pC q.2.1 n = 4 ∧ e0 = 1)) (ex : p1 q.2.1 n = some x) (lx' : x < n) (hx11 : pC q.2.1 x ≠ 11) (hx : RBg sc d df s0 t0 q dp cb H0 post x rx) (lx : RLr q dp cb x rx)
    (a1 : rws q x = rws q n) (a2 : rwt q n = 1 + k + rwt q x) (hwn : rwt q n ≤ 2048) (a6 : 1 + dp x ≤ dp n) (a8 : cb x ≤ cb n) (hd1 : ∀ m, 1 ≤ dp m) :
    RBg sc d df s0 t0 q dp cb H0 post n (fun u => match rx u with
      | some (a, s1, c1, g1) => some ((e0 == 1) :: (List.replicate k false ++ a), 1 + s1, c1, g1)
      | none => none) := by
  intro h i t fr cn cm fn fm sp E u hF hf hS hB q1 q2 q3 q4 q5 q6 q7 q8 q9 q10 q11 hyes hno
  have hps : q.2.1.length ≤ 400 := (mPg_cd hP hn).2.2.2.2.2.2
  have hdx := hd1 x
  have hown : ownQ q n = 1 := by unfold ownQ ownS; rw [if_neg (by omega), if_neg (by omega), if_neg (by omega)]
  rw [hown] at hS
  have hn11 : pC q.2.1 n ≠ 11 := by omega
  have wtn : wdN q 1 n = nI (rwt q n) := if_neg hn11
  have wtx : wdN q 1 x = nI (rwt q x) := if_neg hx11
  have cd : ∀ h', Fr rfR rfT H0 h' → h'.1 117 n = nI (pC q.2.1 n) ∧ h'.1 118 n = nI x := fun h' f' => by
    obtain ⟨k1, k2, k3, _⟩ := mPg_cd (mPg_fr hP f') hn
    rw [ex] at k2
    exact ⟨k1, k2⟩
  have hop6 : pC q.2.1 n = 3 ∨ pC q.2.1 n = 4 := by omega
  have htg : (if pC q.2.1 n < 7 then [96, 174, 108, 256, 256, 268, 268].getD (pC q.2.1 n) 0 else 333) = 256 := by
    rcases hop6 with z | z <;> rw [z] <;> rfl
  refine Lp_go (op := pC q.2.1 n) (tg := 256) hF hS (by omega) (by omega) (by decide) (cd h hf).1 htg (by omega) (fun h1 F1 f1 S1 => ?_)
  have f01 : Fr rfR rfT H0 h1 := Fr_tr hf f1 (by simp [rfR]) (by simp)
  obtain ⟨k1', k2'⟩ := cd h1 f01
  have P1 := mPg_fr hP f01
  have b1 : h1.1 145 = h.1 145 := f1.1 145 (by simp)
  have hlen : ((e0 == 1) :: List.replicate k false).length = 1 + k := by simp [Nat.add_comm]
  have eng := bb_n (show e0 < 2 by omega)
  have fin : ∀ h2, Fr [145] [] h1 h2 → (∀ j, j < 1 + k → h2.1 145 (t + j) = nI 0) → (∀ j, (j < t ∨ t + (1 + k) ≤ j) → h2.1 145 j = h.1 145 j) → xm_go (XE sc) (xm_T (XE sc) (d + 5)) 230 (fun r h' => xm_go (XE sc) (xm_T (XE sc) (d + 6)) 226 (PoG sc d df s0 t0 post) 266 [(5, .int (nI t)), (4, .int (nI i)), (3, .int (nI 0)), (2, .int (nI n)), (0, .ref 102)] (r.toList ++ []) h') 61 [(5, .int (nI (t + (1 + k)))), (0, .ref 102), (1, .int (nI n)), (3, .int (nI i)), (4, .int (nI t))] [] h2 := by
    intro h2 f2 z2 o2
    have F2 := Fr_XF F1 f2 (by decide +kernel)
    have f02 : Fr rfR rfT H0 h2 := Fr_tr f01 f2 (by simp [rfR]) (by simp)
    obtain ⟨k1'', k2''⟩ := cd h2 f02
    have f3 : Fr [145] [] h2 (xm_si h2 145 t (nI e0)) := Fr_si Fr_rf (by simp)
    have F3 := Fr_XF F2 f3 (by decide +kernel)
    have f03 : Fr rfR rfT H0 (xm_si h2 145 t (nI e0)) := Fr_tr f02 f3 (by simp [rfR]) (by simp)
    have S3 : rSt (xm_si h2 145 t (nI e0)) ((n, 1, i, t) :: E) fr cn cm fn fm (sp + 1) := rSt_fr (rSt_fr S1 f2 (by simp) (by simp) (by simp) (by simp)) f3 (by simp) (by simp) (by simp) (by simp)
    have tail : xm_go (XE sc) (xm_T (XE sc) (d + 5)) 230 (fun r h' => xm_go (XE sc) (xm_T (XE sc) (d + 6)) 226 (PoG sc d df s0 t0 post) 266 [(5, .int (nI t)), (4, .int (nI i)), (3, .int (nI 0)), (2, .int (nI n)), (0, .ref 102)] (r.toList ++ []) h') 82 [(5, .int (nI (t + (1 + k)))), (0, .ref 102), (1, .int (nI n)), (3, .int (nI i)), (4, .int (nI t))] [.int (nI e0), .int (nI t), .ref 145] h2 := by
      with_reducible refine xm_go_blk b_X12_inject_82 k_X12_inject_82 ?_
      refine by_i2b ?_
      first | refine by_bast (by first | exact rfl | assumption | exact ps_13 hpp) ⟨by omega, by omega⟩ ?_ | refine by_zast (by first | exact rfl | assumption | exact ps_20 hpp) ⟨by omega, by omega⟩ ?_
      refine by_aload_n rfl ?_
      refine by_aload_n rfl ?_
      refine by_getf cn_230 fl_12_57 (by first | exact rfl | assumption) (by decide) ?_
      refine by_iload_n rfl ?_
      simp (disch := first | exact Nat.ne_of_beq_eq_false rfl | exact rfl | omega) only [nI_add, xa_sub, xa_mul, pk_div, nm_mod, xa_shr, xa_and7, xa_and1, xa_and255, xa_by_and, nI_m1, Nat.add_sub_cancel, Nat.reducePow, Nat.zero_add, Nat.add_zero, Nat.reduceAdd, Nat.reduceMul, Nat.reduceSub, xf_same, xq_ff, xq_fo, xf_1, xf_2, xs_1, xs_2, xs_same, xq_so, xj_1, xj_2, xj_same, xq_jo, xq_sa1, xq_same, xq_other, upd_s, oI_n, oI_s, eng, xf_102_21 F2, k2'']
      first | refine by_iald (by first | exact rfl | assumption | exact ps_1 hpp | exact ps_2 hpp | exact ps_3 hpp | exact ps_4 hpp | exact ps_5 hpp | exact ps_6 hpp | exact ps_7 hpp | exact ps_8 hpp | exact ps_9 hpp | exact ps_10 hpp | exact ps_11 hpp | exact ps_15 hpp | exact ps_16 hpp | exact ps_17 hpp | exact ps_18 hpp | exact ps_19 hpp | exact ps_21 hpp | exact ps_22 hpp | exact ps_23 hpp | exact ps_24 hpp) ⟨by omega, by omega⟩ ?_ | refine by_tald rfl rfl ⟨by omega, by omega⟩ ?_
      refine by_iload_n rfl ?_
      refine by_iload rfl ?_
      simp (disch := first | exact Nat.ne_of_beq_eq_false rfl | exact rfl | omega) only [nI_add, xa_sub, xa_mul, pk_div, nm_mod, xa_shr, xa_and7, xa_and1, xa_and255, xa_by_and, nI_m1, Nat.add_sub_cancel, Nat.reducePow, Nat.zero_add, Nat.add_zero, Nat.reduceAdd, Nat.reduceMul, Nat.reduceSub, xf_same, xq_ff, xq_fo, xf_1, xf_2, xs_1, xs_2, xs_same, xq_so, xj_1, xj_2, xj_same, xq_jo, xq_sa1, xq_same, xq_other, upd_s, oI_n, oI_s, xv_0, xv_1, xv_2, xv_3, xm_p1, xm_p2, xq_fp, xq_fn, List.filter_nil, Nat.reduceBEq, Bool.not_true, Bool.not_false, Bool.and_true, Bool.and_false, Bool.false_and, Bool.true_and, if_true, if_false, Bool.false_eq_true, reduceIte, xc_i, xc_j, xc_r, xc_n, List.nil_append, List.cons_append, Option.toList_some, Option.toList_none, eng, xf_102_21 F2, k2'']
      refine by_inv3 cn_230 lk_12_516 (by rw [xe_cnt]; decide) is_203 np_203 cn_203 (by first | exact rfl | assumption) (Nat.le_of_ble_eq_true rfl) ?_
      refine sp_begin (q := q) F3 (mPg_fr hP f03) (by omega) hx11 (by simp only [List.length_cons]; omega) S3 (fun h4 f4 S4 => ?_)
      have F4 := Fr_XF F3 f4 (by decide +kernel)
      have f04 : Fr rfR rfT H0 h4 := Fr_tr f03 f4 (by simp [rfR]) (by simp [rfT])
      have b4 : h4.1 145 = (xm_si h2 145 t (nI e0)).1 145 := f4.1 145 (by simp)
      with_reducible refine xm_go_blk b_X12_inject_97 k_X12_inject_97 ?_
      refine by_ret ry_230 ?_
      with_reducible refine xm_go_blk b_X12_goesOn_266 k_X12_goesOn_266 ?_
      refine by_iconst ci_1 ?_
      refine by_iret ry_226 (by first | rfl | assumption) ?_
      refine Lp_1 (rb_one (h := h) (n := n) (x := x) (i := i) (i' := i) (t := t) (wr := (e0 == 1) :: List.replicate k false) (u := u) (rx := rx) hP hn rfl (by omega) htg F4 f04 (by rw [hlen]; exact S4) (fun j hj => ?_) (fun j hj => ?_) (fun j hj1 hj2 => ?_) hx lx (by omega) (by omega) (by rw [hlen]; omega) a6 a8 q1 q2 q3 q4 q5 q6 q7 q8 q9 q10 q11 hd1 (fun h5 cm5 fm5 st5 F5 f05 S5 _ hL => ?_) (fun a s c g hr h' F' f' S' b' o' => ?_) (fun hr h' F' f' => ?_))
      · have hne : i + j ≠ t := by omega
        rw [b4]
        show (xm_si h2 145 t (nI e0)).1 145 (i + j) = _
        simp only [xm_si, upd, if_true, if_neg hne]
        rw [o2 _ (by omega)]; exact hB j (by omega)
      · rw [hlen] at hj
        rw [b4]
        by_cases z : j = 0
        · subst z
          simp only [xm_si, upd, if_true, Nat.add_zero]
          rcases he with ⟨_, z2⟩ | ⟨_, z2⟩ <;> subst z2 <;> rfl
        · have hne : t + j ≠ t := by omega
          simp only [xm_si, upd, if_true, if_neg hne]
          rw [z2 j hj]
          obtain ⟨j', rfl⟩ : ∃ j', j = j' + 1 := ⟨j - 1, by omega⟩
          have : ((e0 == 1) :: List.replicate k false).getD (j' + 1) false = false := by
            show (List.replicate k false).getD j' false = false
            rw [List.getD_eq_getElem?_getD, List.getElem?_replicate]
            split <;> rfl
          rw [this]; rfl
      · rw [hlen] at hj2
        have hne : j ≠ t := by omega
        rw [b4]
        simp only [xm_si, upd, if_true, if_neg hne]
        exact o2 j hj2
      · have s1 := S5.1
        simp only [List.length_cons] at s1
        unfold Gn
        with_reducible refine xm_go_blk b_X12_goesOn_256 k_X12_goesOn_256 ?_
        refine by_aload_n rfl ?_
        refine by_iload_n rfl ?_
        refine by_iload_n rfl ?_
        refine by_iload rfl ?_
        refine by_iload rfl ?_
        refine by_inv4 cn_226 lk_12_523 (by rw [xe_cnt]; decide) is_230 np_230 cn_230 (by first | exact rfl | assumption) (Nat.le_of_ble_eq_true rfl) ?_
        refine xq_in rfl ?_
        simp only [xq_a0, xq_aI, xq_aJ, xq_aR, Nat.reduceAdd]
        with_reducible refine xm_go_blk b_X12_inject_0 k_X12_inject_0 ?_
        refine by_iload_n rfl ?_
        refine by_if_le 15 rfl ?_
        simp (disch := first | exact Nat.ne_of_beq_eq_false rfl | exact rfl | omega) only [nI_add, xa_sub, xa_mul, pk_div, nm_mod, xa_shr, xa_and7, xa_and1, xa_and255, xa_by_and, nI_m1, Nat.add_sub_cancel, Nat.reducePow, Nat.zero_add, Nat.add_zero, Nat.reduceAdd, Nat.reduceMul, Nat.reduceSub, xf_same, xq_ff, xq_fo, xf_1, xf_2, xs_1, xs_2, xs_same, xq_so, xj_1, xj_2, xj_same, xq_jo, xq_sa1, xq_same, xq_other, upd_s, oI_n, oI_s, xv_0, xv_1, xv_2, xv_3, xm_p1, xm_p2, xq_fp, xq_fn, List.filter_nil, Nat.reduceBEq, Bool.not_true, Bool.not_false, Bool.and_true, Bool.and_false, Bool.false_and, Bool.true_and, if_true, if_false, Bool.false_eq_true, reduceIte, xc_i, xc_j, xc_r, xc_n, List.nil_append, List.cons_append, Option.toList_some, Option.toList_none, nI_ltJ, nI_leJ, nI_eqJ, nI_ltz, nI_gez, nI_gtz, nI_lez, nI_eqz, m1_ltz, m1_gez, true_imp_iff, false_imp_iff, true_and, and_true, ne_eq, not_false_eq_true, not_true_eq_false, Nat.reduceEqDiff, Nat.reduceLT, Nat.reduceLeDiff, s1]
        with_reducible refine xm_go_blk b_X12_inject_4 k_X12_inject_4 ?_
        refine by_aload_n rfl ?_
        refine by_dup rfl ?_
        refine by_getf cn_230 fl_12_494 (by first | exact rfl | assumption) (by decide) ?_
        refine by_iconst ci_1 ?_
        simp (disch := first | exact Nat.ne_of_beq_eq_false rfl | exact rfl | omega) only [nI_add, xa_sub, xa_mul, pk_div, nm_mod, xa_shr, xa_and7, xa_and1, xa_and255, xa_by_and, nI_m1, Nat.add_sub_cancel, Nat.reducePow, Nat.zero_add, Nat.add_zero, Nat.reduceAdd, Nat.reduceMul, Nat.reduceSub, xf_same, xq_ff, xq_fo, xf_1, xf_2, xs_1, xs_2, xs_same, xq_so, xj_1, xj_2, xj_same, xq_jo, xq_sa1, xq_same, xq_other, upd_s, oI_n, oI_s, s1]
        refine by_isub ?_
        refine by_putf cn_230 fl_12_494 (by first | exact rfl | assumption) (by decide) nf_12_74 ft_12_74 (by first | rfl | assumption) (by first | rfl | assumption) ?_
        refine by_ret ry_230 ?_
        try simp (disch := first | exact Nat.ne_of_beq_eq_false rfl | exact rfl | omega) only [nI_add, xa_sub, xa_mul, pk_div, nm_mod, xa_shr, xa_and7, xa_and1, xa_and255, xa_by_and, nI_m1, Nat.add_sub_cancel, Nat.reducePow, Nat.zero_add, Nat.add_zero, Nat.reduceAdd, Nat.reduceMul, Nat.reduceSub, xf_same, xq_ff, xq_fo, xf_1, xf_2, xs_1, xs_2, xs_same, xq_so, xj_1, xj_2, xj_same, xq_jo, xq_sa1, xq_same, xq_other, upd_s, oI_n, oI_s, s1]
        with_reducible refine xm_go_blk b_X12_goesOn_266 k_X12_goesOn_266 ?_
        refine by_iconst ci_1 ?_
        refine by_iret ry_226 (by first | rfl | assumption) ?_
        exact Lp_1 hL
      · exact hyes ((e0 == 1) :: (List.replicate k false ++ a)) (1 + s) c g (by simp only [hr]) h' F' f' S' b' o'
      · exact hno (by simp only [hr]) h' F' f'
    rcases he with ⟨h3, e1⟩ | ⟨h3, e1⟩
    · rw [h3] at k1''
      subst e1
      with_reducible refine xm_go_blk b_X12_inject_61 k_X12_inject_61 ?_
      refine by_aload_n rfl ?_
      refine by_getf cn_230 fl_12_141 (by first | exact rfl | assumption) (by decide) ?_
      refine by_iload rfl ?_
      refine by_aload_n rfl ?_
      refine by_getf cn_230 fl_12_54 (by first | exact rfl | assumption) (by decide) ?_
      refine by_iload_n rfl ?_
      simp (disch := first | exact Nat.ne_of_beq_eq_false rfl | exact rfl | omega) only [nI_add, xa_sub, xa_mul, pk_div, nm_mod, xa_shr, xa_and7, xa_and1, xa_and255, xa_by_and, nI_m1, Nat.add_sub_cancel, Nat.reducePow, Nat.zero_add, Nat.add_zero, Nat.reduceAdd, Nat.reduceMul, Nat.reduceSub, xf_same, xq_ff, xq_fo, xf_1, xf_2, xs_1, xs_2, xs_same, xq_so, xj_1, xj_2, xj_same, xq_jo, xq_sa1, xq_same, xq_other, upd_s, oI_n, oI_s, xf_102_58 F2, xf_102_20 F2, k1'']
      first | refine by_iald (by first | exact rfl | assumption | exact ps_1 hpp | exact ps_2 hpp | exact ps_3 hpp | exact ps_4 hpp | exact ps_5 hpp | exact ps_6 hpp | exact ps_7 hpp | exact ps_8 hpp | exact ps_9 hpp | exact ps_10 hpp | exact ps_11 hpp | exact ps_15 hpp | exact ps_16 hpp | exact ps_17 hpp | exact ps_18 hpp | exact ps_19 hpp | exact ps_21 hpp | exact ps_22 hpp | exact ps_23 hpp | exact ps_24 hpp) ⟨by omega, by omega⟩ ?_ | refine by_tald rfl rfl ⟨by omega, by omega⟩ ?_
      refine by_iconst ci_3 ?_
      refine by_ic_ne 81 rfl ?_
      simp (disch := first | exact Nat.ne_of_beq_eq_false rfl | exact rfl | omega) only [nI_add, xa_sub, xa_mul, pk_div, nm_mod, xa_shr, xa_and7, xa_and1, xa_and255, xa_by_and, nI_m1, Nat.add_sub_cancel, Nat.reducePow, Nat.zero_add, Nat.add_zero, Nat.reduceAdd, Nat.reduceMul, Nat.reduceSub, xf_same, xq_ff, xq_fo, xf_1, xf_2, xs_1, xs_2, xs_same, xq_so, xj_1, xj_2, xj_same, xq_jo, xq_sa1, xq_same, xq_other, upd_s, oI_n, oI_s, xv_0, xv_1, xv_2, xv_3, xm_p1, xm_p2, xq_fp, xq_fn, List.filter_nil, Nat.reduceBEq, Bool.not_true, Bool.not_false, Bool.and_true, Bool.and_false, Bool.false_and, Bool.true_and, if_true, if_false, Bool.false_eq_true, reduceIte, xc_i, xc_j, xc_r, xc_n, List.nil_append, List.cons_append, Option.toList_some, Option.toList_none, nI_ltJ, nI_leJ, nI_eqJ, nI_ltz, nI_gez, nI_gtz, nI_lez, nI_eqz, m1_ltz, m1_gez, true_imp_iff, false_imp_iff, true_and, and_true, ne_eq, not_false_eq_true, not_true_eq_false, Nat.reduceEqDiff, Nat.reduceLT, Nat.reduceLeDiff, xf_102_58 F2, xf_102_20 F2, k1'']
      with_reducible refine xm_go_blk b_X12_inject_77 k_X12_inject_77 ?_
      refine by_iconst ci_0 ?_
      refine by_goto 82 rfl ?_
      exact xm_go_wk (by simp [Value.category]) tail
    · rw [h3] at k1''
      subst e1
      with_reducible refine xm_go_blk b_X12_inject_61 k_X12_inject_61 ?_
      refine by_aload_n rfl ?_
      refine by_getf cn_230 fl_12_141 (by first | exact rfl | assumption) (by decide) ?_
      refine by_iload rfl ?_
      refine by_aload_n rfl ?_
      refine by_getf cn_230 fl_12_54 (by first | exact rfl | assumption) (by decide) ?_
      refine by_iload_n rfl ?_
      simp (disch := first | exact Nat.ne_of_beq_eq_false rfl | exact rfl | omega) only [nI_add, xa_sub, xa_mul, pk_div, nm_mod, xa_shr, xa_and7, xa_and1, xa_and255, xa_by_and, nI_m1, Nat.add_sub_cancel, Nat.reducePow, Nat.zero_add, Nat.add_zero, Nat.reduceAdd, Nat.reduceMul, Nat.reduceSub, xf_same, xq_ff, xq_fo, xf_1, xf_2, xs_1, xs_2, xs_same, xq_so, xj_1, xj_2, xj_same, xq_jo, xq_sa1, xq_same, xq_other, upd_s, oI_n, oI_s, xf_102_58 F2, xf_102_20 F2, k1'']
      first | refine by_iald (by first | exact rfl | assumption | exact ps_1 hpp | exact ps_2 hpp | exact ps_3 hpp | exact ps_4 hpp | exact ps_5 hpp | exact ps_6 hpp | exact ps_7 hpp | exact ps_8 hpp | exact ps_9 hpp | exact ps_10 hpp | exact ps_11 hpp | exact ps_15 hpp | exact ps_16 hpp | exact ps_17 hpp | exact ps_18 hpp | exact ps_19 hpp | exact ps_21 hpp | exact ps_22 hpp | exact ps_23 hpp | exact ps_24 hpp) ⟨by omega, by omega⟩ ?_ | refine by_tald rfl rfl ⟨by omega, by omega⟩ ?_
      refine by_iconst ci_3 ?_
      refine by_ic_ne 81 rfl ?_
      simp (disch := first | exact Nat.ne_of_beq_eq_false rfl | exact rfl | omega) only [nI_add, xa_sub, xa_mul, pk_div, nm_mod, xa_shr, xa_and7, xa_and1, xa_and255, xa_by_and, nI_m1, Nat.add_sub_cancel, Nat.reducePow, Nat.zero_add, Nat.add_zero, Nat.reduceAdd, Nat.reduceMul, Nat.reduceSub, xf_same, xq_ff, xq_fo, xf_1, xf_2, xs_1, xs_2, xs_same, xq_so, xj_1, xj_2, xj_same, xq_jo, xq_sa1, xq_same, xq_other, upd_s, oI_n, oI_s, xv_0, xv_1, xv_2, xv_3, xm_p1, xm_p2, xq_fp, xq_fn, List.filter_nil, Nat.reduceBEq, Bool.not_true, Bool.not_false, Bool.and_true, Bool.and_false, Bool.false_and, Bool.true_and, if_true, if_false, Bool.false_eq_true, reduceIte, xc_i, xc_j, xc_r, xc_n, List.nil_append, List.cons_append, Option.toList_some, Option.toList_none, nI_ltJ, nI_leJ, nI_eqJ, nI_ltz, nI_gez, nI_gtz, nI_lez, nI_eqz, m1_ltz, m1_gez, true_imp_iff, false_imp_iff, true_and, and_true, ne_eq, not_false_eq_true, not_true_eq_false, Nat.reduceEqDiff, Nat.reduceLT, Nat.reduceLeDiff, xf_102_58 F2, xf_102_20 F2, k1'']
      with_reducible refine xm_go_blk b_X12_inject_81 k_X12_inject_81 ?_
      refine by_iconst ci_1 ?_
      refine by_nil ?_
      exact xm_go_wk (by simp [Value.category]) tail
  have loop : ∀ (y z : Nat) (h2 : xm_H), z + y = 1 + k → Fr [145] [] h1 h2 → (∀ j, j < z → h2.1 145 (t + j) = nI 0) → (∀ j, (j < t ∨ t + z ≤ j) → h2.1 145 j = h.1 145 j) → xm_go (XE sc) (xm_T (XE sc) (d + 5)) 230 (fun r h' => xm_go (XE sc) (xm_T (XE sc) (d + 6)) 226 (PoG sc d df s0 t0 post) 266 [(5, .int (nI t)), (4, .int (nI i)), (3, .int (nI 0)), (2, .int (nI n)), (0, .ref 102)] (r.toList ++ []) h') 40 [(6, .int (nI (t + z))), (5, .int (nI (t + (1 + k)))), (0, .ref 102), (1, .int (nI n)), (3, .int (nI i)), (4, .int (nI t))] [] h2 := by
    intro y
    induction y with
    | zero =>
      intro z h2 hz f2 z2 o2
      have : z = 1 + k := by omega
      subst this
      with_reducible refine xm_go_blk b_X12_inject_40 k_X12_inject_40 ?_
      refine by_iload rfl ?_
      refine by_iload rfl ?_
      refine by_ic_ge 61 rfl ?_
      simp (disch := first | exact Nat.ne_of_beq_eq_false rfl | exact rfl | omega) only [nI_add, xa_sub, xa_mul, pk_div, nm_mod, xa_shr, xa_and7, xa_and1, xa_and255, xa_by_and, nI_m1, Nat.add_sub_cancel, Nat.reducePow, Nat.zero_add, Nat.add_zero, Nat.reduceAdd, Nat.reduceMul, Nat.reduceSub, xf_same, xq_ff, xq_fo, xf_1, xf_2, xs_1, xs_2, xs_same, xq_so, xj_1, xj_2, xj_same, xq_jo, xq_sa1, xq_same, xq_other, upd_s, oI_n, oI_s, xv_0, xv_1, xv_2, xv_3, xm_p1, xm_p2, xq_fp, xq_fn, List.filter_nil, Nat.reduceBEq, Bool.not_true, Bool.not_false, Bool.and_true, Bool.and_false, Bool.false_and, Bool.true_and, if_true, if_false, Bool.false_eq_true, reduceIte, xc_i, xc_j, xc_r, xc_n, List.nil_append, List.cons_append, Option.toList_some, Option.toList_none, nI_ltJ, nI_leJ, nI_eqJ, nI_ltz, nI_gez, nI_gtz, nI_lez, nI_eqz, m1_ltz, m1_gez, true_imp_iff, false_imp_iff, true_and, and_true, ne_eq, not_false_eq_true, not_true_eq_false, Nat.reduceEqDiff, Nat.reduceLT, Nat.reduceLeDiff]
      refine ⟨fun c40 => ?_, fun c => absurd (by omega) c⟩
      exact xm_go_wk (by simp [Value.category]) (fin h2 f2 z2 o2)
    | succ y ih =>
      intro z h2 hz f2 z2 o2
      have F2 := Fr_XF F1 f2 (by decide +kernel)
      with_reducible refine xm_go_blk b_X12_inject_40 k_X12_inject_40 ?_
      refine by_iload rfl ?_
      refine by_iload rfl ?_
      refine by_ic_ge 61 rfl ?_
      simp (disch := first | exact Nat.ne_of_beq_eq_false rfl | exact rfl | omega) only [nI_add, xa_sub, xa_mul, pk_div, nm_mod, xa_shr, xa_and7, xa_and1, xa_and255, xa_by_and, nI_m1, Nat.add_sub_cancel, Nat.reducePow, Nat.zero_add, Nat.add_zero, Nat.reduceAdd, Nat.reduceMul, Nat.reduceSub, xf_same, xq_ff, xq_fo, xf_1, xf_2, xs_1, xs_2, xs_same, xq_so, xj_1, xj_2, xj_same, xq_jo, xq_sa1, xq_same, xq_other, upd_s, oI_n, oI_s, xv_0, xv_1, xv_2, xv_3, xm_p1, xm_p2, xq_fp, xq_fn, List.filter_nil, Nat.reduceBEq, Bool.not_true, Bool.not_false, Bool.and_true, Bool.and_false, Bool.false_and, Bool.true_and, if_true, if_false, Bool.false_eq_true, reduceIte, xc_i, xc_j, xc_r, xc_n, List.nil_append, List.cons_append, Option.toList_some, Option.toList_none, nI_ltJ, nI_leJ, nI_eqJ, nI_ltz, nI_gez, nI_gtz, nI_lez, nI_eqz, m1_ltz, m1_gez, true_imp_iff, false_imp_iff, true_and, and_true, ne_eq, not_false_eq_true, not_true_eq_false, Nat.reduceEqDiff, Nat.reduceLT, Nat.reduceLeDiff, xf_102_58 F2, vp_nar0]
      refine ⟨fun c => absurd c (by omega), fun c40 => ?_⟩
      with_reducible refine xm_go_blk b_X12_inject_47 k_X12_inject_47 ?_
      refine by_aload_n rfl ?_
      refine by_getf cn_230 fl_12_141 (by first | exact rfl | assumption) (by decide) ?_
      refine by_iload rfl ?_
      refine by_iconst ci_0 ?_
      simp (disch := first | exact Nat.ne_of_beq_eq_false rfl | exact rfl | omega) only [nI_add, xa_sub, xa_mul, pk_div, nm_mod, xa_shr, xa_and7, xa_and1, xa_and255, xa_by_and, nI_m1, Nat.add_sub_cancel, Nat.reducePow, Nat.zero_add, Nat.add_zero, Nat.reduceAdd, Nat.reduceMul, Nat.reduceSub, xf_same, xq_ff, xq_fo, xf_1, xf_2, xs_1, xs_2, xs_same, xq_so, xj_1, xj_2, xj_same, xq_jo, xq_sa1, xq_same, xq_other, upd_s, oI_n, oI_s, xf_102_58 F2, vp_nar0]
      first | refine by_bast (by first | exact rfl | assumption | exact ps_13 hpp) ⟨by omega, by omega⟩ ?_ | refine by_zast (by first | exact rfl | assumption | exact ps_20 hpp) ⟨by omega, by omega⟩ ?_
      refine by_iinc (by rw [ml_230]; decide) rfl ci_1 ?_
      refine by_goto 40 rfl ?_
      try simp (disch := first | exact Nat.ne_of_beq_eq_false rfl | exact rfl | omega) only [nI_add, xa_sub, xa_mul, pk_div, nm_mod, xa_shr, xa_and7, xa_and1, xa_and255, xa_by_and, nI_m1, Nat.add_sub_cancel, Nat.reducePow, Nat.zero_add, Nat.add_zero, Nat.reduceAdd, Nat.reduceMul, Nat.reduceSub, xf_same, xq_ff, xq_fo, xf_1, xf_2, xs_1, xs_2, xs_same, xq_so, xj_1, xj_2, xj_same, xq_jo, xq_sa1, xq_same, xq_other, upd_s, oI_n, oI_s, xv_0, xv_1, xv_2, xv_3, xm_p1, xm_p2, xq_fp, xq_fn, List.filter_nil, Nat.reduceBEq, Bool.not_true, Bool.not_false, Bool.and_true, Bool.and_false, Bool.false_and, Bool.true_and, if_true, if_false, Bool.false_eq_true, reduceIte, xc_i, xc_j, xc_r, xc_n, List.nil_append, List.cons_append, Option.toList_some, Option.toList_none, xf_102_58 F2, vp_nar0]
      refine xm_go_wk (by simp [Value.category, Nat.add_assoc]) (ih (z + 1) _ (by omega) (Fr_si f2 (by simp)) (fun j hj => ?_) (fun j hj => ?_))
      · by_cases e : j = z
        · subst e; simp only [xm_si, upd, if_true]
        · have hne : t + j ≠ t + z := by omega
          simp only [xm_si, upd, if_true, if_neg hne]; exact z2 j (by omega)
      · have hne : j ≠ t + z := by omega
        simp only [xm_si, upd, if_true, if_neg hne]; exact o2 j (by omega)
  unfold Gn
  have e5 : t + rwt q n - rwt q x = t + (1 + k) := by omega
  with_reducible refine xm_go_blk b_X12_goesOn_256 k_X12_goesOn_256 ?_
  refine by_aload_n rfl ?_
  refine by_iload_n rfl ?_
  refine by_iload_n rfl ?_
  refine by_iload rfl ?_
  refine by_iload rfl ?_
  refine by_inv4 cn_226 lk_12_523 (by rw [xe_cnt]; decide) is_230 np_230 cn_230 (by first | exact rfl | assumption) (Nat.le_of_ble_eq_true rfl) ?_
  refine xq_in rfl ?_
  simp only [xq_a0, xq_aI, xq_aJ, xq_aR, Nat.reduceAdd]
  with_reducible refine xm_go_blk b_X12_inject_0 k_X12_inject_0 ?_
  refine by_iload_n rfl ?_
  refine by_if_le 15 rfl ?_
  simp (disch := first | exact Nat.ne_of_beq_eq_false rfl | exact rfl | omega) only [nI_add, xa_sub, xa_mul, pk_div, nm_mod, xa_shr, xa_and7, xa_and1, xa_and255, xa_by_and, nI_m1, Nat.add_sub_cancel, Nat.reducePow, Nat.zero_add, Nat.add_zero, Nat.reduceAdd, Nat.reduceMul, Nat.reduceSub, xf_same, xq_ff, xq_fo, xf_1, xf_2, xs_1, xs_2, xs_same, xq_so, xj_1, xj_2, xj_same, xq_jo, xq_sa1, xq_same, xq_other, upd_s, oI_n, oI_s, xv_0, xv_1, xv_2, xv_3, xm_p1, xm_p2, xq_fp, xq_fn, List.filter_nil, Nat.reduceBEq, Bool.not_true, Bool.not_false, Bool.and_true, Bool.and_false, Bool.false_and, Bool.true_and, if_true, if_false, Bool.false_eq_true, reduceIte, xc_i, xc_j, xc_r, xc_n, List.nil_append, List.cons_append, Option.toList_some, Option.toList_none, nI_ltJ, nI_leJ, nI_eqJ, nI_ltz, nI_gez, nI_gtz, nI_lez, nI_eqz, m1_ltz, m1_gez, true_imp_iff, false_imp_iff, true_and, and_true, ne_eq, not_false_eq_true, not_true_eq_false, Nat.reduceEqDiff, Nat.reduceLT, Nat.reduceLeDiff]
  with_reducible refine xm_go_blk b_X12_inject_15 k_X12_inject_15 ?_
  refine by_iload rfl ?_
  refine by_aload_n rfl ?_
  refine by_iload_n rfl ?_
  refine by_inv1 cn_230 lk_12_400 (by rw [xe_cnt]; decide) is_306 np_306 cn_306 (by first | exact rfl | assumption) (Nat.le_of_ble_eq_true rfl) ?_
  refine sp_mtw F1 P1 hn ?_
  rw [wtn]
  with_reducible refine xm_go_blk b_X12_inject_22 k_X12_inject_22 ?_
  refine by_iadd ?_
  refine by_aload_n rfl ?_
  refine by_aload_n rfl ?_
  refine by_getf cn_230 fl_12_57 (by first | exact rfl | assumption) (by decide) ?_
  refine by_iload_n rfl ?_
  simp (disch := first | exact Nat.ne_of_beq_eq_false rfl | exact rfl | omega) only [nI_add, xa_sub, xa_mul, pk_div, nm_mod, xa_shr, xa_and7, xa_and1, xa_and255, xa_by_and, nI_m1, Nat.add_sub_cancel, Nat.reducePow, Nat.zero_add, Nat.add_zero, Nat.reduceAdd, Nat.reduceMul, Nat.reduceSub, xf_same, xq_ff, xq_fo, xf_1, xf_2, xs_1, xs_2, xs_same, xq_so, xj_1, xj_2, xj_same, xq_jo, xq_sa1, xq_same, xq_other, upd_s, oI_n, oI_s, xf_102_21 F1, k2']
  first | refine by_iald (by first | exact rfl | assumption | exact ps_1 hpp | exact ps_2 hpp | exact ps_3 hpp | exact ps_4 hpp | exact ps_5 hpp | exact ps_6 hpp | exact ps_7 hpp | exact ps_8 hpp | exact ps_9 hpp | exact ps_10 hpp | exact ps_11 hpp | exact ps_15 hpp | exact ps_16 hpp | exact ps_17 hpp | exact ps_18 hpp | exact ps_19 hpp | exact ps_21 hpp | exact ps_22 hpp | exact ps_23 hpp | exact ps_24 hpp) ⟨by omega, by omega⟩ ?_ | refine by_tald rfl rfl ⟨by omega, by omega⟩ ?_
  simp (disch := first | exact Nat.ne_of_beq_eq_false rfl | exact rfl | omega) only [nI_add, xa_sub, xa_mul, pk_div, nm_mod, xa_shr, xa_and7, xa_and1, xa_and255, xa_by_and, nI_m1, Nat.add_sub_cancel, Nat.reducePow, Nat.zero_add, Nat.add_zero, Nat.reduceAdd, Nat.reduceMul, Nat.reduceSub, xf_same, xq_ff, xq_fo, xf_1, xf_2, xs_1, xs_2, xs_same, xq_so, xj_1, xj_2, xj_same, xq_jo, xq_sa1, xq_same, xq_other, upd_s, oI_n, oI_s, xv_0, xv_1, xv_2, xv_3, xm_p1, xm_p2, xq_fp, xq_fn, List.filter_nil, Nat.reduceBEq, Bool.not_true, Bool.not_false, Bool.and_true, Bool.and_false, Bool.false_and, Bool.true_and, if_true, if_false, Bool.false_eq_true, reduceIte, xc_i, xc_j, xc_r, xc_n, List.nil_append, List.cons_append, Option.toList_some, Option.toList_none, xf_102_21 F1, k2']
  refine by_inv1 cn_230 lk_12_400 (by rw [xe_cnt]; decide) is_306 np_306 cn_306 (by first | exact rfl | assumption) (Nat.le_of_ble_eq_true rfl) ?_
  refine sp_mtw F1 P1 (by omega) ?_
  rw [wtx]
  with_reducible refine xm_go_blk b_X12_inject_33 k_X12_inject_33 ?_
  refine by_isub ?_
  refine by_istore (by rw [ml_230]; decide) ?_
  refine by_iload rfl ?_
  refine by_istore (by rw [ml_230]; decide) ?_
  refine by_nil ?_
  try simp (disch := first | exact Nat.ne_of_beq_eq_false rfl | exact rfl | omega) only [nI_add, xa_sub, xa_mul, pk_div, nm_mod, xa_shr, xa_and7, xa_and1, xa_and255, xa_by_and, nI_m1, Nat.add_sub_cancel, Nat.reducePow, Nat.zero_add, Nat.add_zero, Nat.reduceAdd, Nat.reduceMul, Nat.reduceSub, xf_same, xq_ff, xq_fo, xf_1, xf_2, xs_1, xs_2, xs_same, xq_so, xj_1, xj_2, xj_same, xq_jo, xq_sa1, xq_same, xq_other, upd_s, oI_n, oI_s, xv_0, xv_1, xv_2, xv_3, xm_p1, xm_p2, xq_fp, xq_fn, List.filter_nil, Nat.reduceBEq, Bool.not_true, Bool.not_false, Bool.and_true, Bool.and_false, Bool.false_and, Bool.true_and, if_true, if_false, Bool.false_eq_true, reduceIte, xc_i, xc_j, xc_r, xc_n, List.nil_append, List.cons_append, Option.toList_some, Option.toList_none, e5]
  exact xm_go_wk (by simp [Value.category]) (loop (1 + k) 0 h1 (by omega) Fr_rf (fun j hj => absurd hj (Nat.not_lt_zero _)) (fun j _ => by rw [b1]))
/-- a child of CASE: worked, or hidden -/
def csR (sc : xm_Sc) (d df s0 t0 : Nat) (q : PgD) (dp cb : Nat → Nat) (H0 : xm_H) (post : xm_Po) (n x k : Nat) (rx : (Nat → Bool) → Option mc_V) : Prop :=
  (pC q.2.1 x ≠ 11 ∧ RBg sc d df s0 t0 q dp cb H0 post x rx ∧ RLr q dp cb x rx ∧ k + rws q x = rws q n ∧ rwt q n = rwt q x ∧ 1 + dp x ≤ dp n ∧ cb x ≤ cb n) ∨ (pC q.2.1 x = 11 ∧ ∀ u, rx u = none)
theorem rb_case {n x y kx ky : Nat} {rx ry : (Nat → Bool) → Option mc_V} (hP : mPg H0 (some q)) (hn : n < q.2.1.length) (he : pC q.2.1 n = 1) (ex : p1 q.2.1 n = some x) (ey : p2 q.2.1 n = some y) (lx' : x < n) (ly' : y < n) (hx : csR sc d df s0 t0 q dp cb H0 post n x kx rx) (hy : csR sc d df s0 t0 q dp cb H0 post n y ky ry) (hs : 1 ≤ rws q n) (hwn : rws q n ≤ 2048) (hd1 : ∀ m, 1 ≤ dp m) :
    RBg sc d df s0 t0 q dp cb H0 post n (fun u => match (if u 0 = false then rx (mc_sh u kx) else ry (mc_sh u ky)) with
      | some (a, s1, c1, g1) => some (a, 1 + s1, c1, g1)
      | none => none) := by
  intro h i t fr cn cm fn fm sp E u hF hf hS hB q1 q2 q3 q4 q5 q6 q7 q8 q9 q10 q11 hyes hno
  have hps : q.2.1.length ≤ 400 := (mPg_cd hP hn).2.2.2.2.2.2
  have hdn := hd1 n
  have hown : ownQ q n = 1 := by unfold ownQ ownS; rw [if_neg (by omega), if_neg (by omega), if_neg (by omega)]
  rw [hown] at hS
  have wsn : wdN q 0 n = nI (rws q n) := if_neg (by omega)
  have cd : ∀ h', Fr rfR rfT H0 h' → h'.1 117 n = nI 1 ∧ h'.1 118 n = nI x ∧ h'.1 119 n = nI y := fun h' f' => by
    obtain ⟨k1, k2, k3, _⟩ := mPg_cd (mPg_fr hP f') hn
    rw [he] at k1; rw [ex] at k2; rw [ey] at k3
    exact ⟨k1, k2, k3⟩
  have htg : (if 1 < 7 then [96, 174, 108, 256, 256, 268, 268].getD 1 0 else 333) = 174 := rfl
  refine Lp_go (op := 1) (tg := 174) hF hS (by omega) (by omega) (by decide) (cd h hf).1 rfl (by decide) (fun h1 F1 f1 S1 => ?_)
  have f01 : Fr rfR rfT H0 h1 := Fr_tr hf f1 (by simp [rfR]) (by simp)
  obtain ⟨k1', k2', k3'⟩ := cd h1 f01
  have P1 := mPg_fr hP f01
  have b1 : h1.1 145 = h.1 145 := f1.1 145 (by simp)
  have bu : h.1 145 i = nI (u 0).toNat := by have := hB 0 (by omega); rwa [Nat.add_zero] at this
  have bu1 : h1.1 145 i = nI (u 0).toNat := by rw [b1]; exact bu
  -- the child z that is chosen, its skip, what it gives
  have go : ∀ z kz rz, z < n → csR sc d df s0 t0 q dp cb H0 post n z kz rz → (if u 0 = false then rx (mc_sh u kx) else ry (mc_sh u ky)) = rz (mc_sh u kz) → xm_go (XE sc) (xm_T (XE sc) (d + 6)) 226 (PoG sc d df s0 t0 post) 199 [(5, .int (nI t)), (4, .int (nI i)), (3, .int (nI 0)), (2, .int (nI n)), (0, .ref 102)] [.int (nI z)] h1 := by
    intro z kz rz lz hz hrz
    have kz1 := (mPg_cd P1 (show z < q.2.1.length by omega)).1
    have kz12 := (mPg_cd P1 (show z < q.2.1.length by omega)).2.2.2.2.2.1
    rcases hz with ⟨z11, zb, zl, za, zt, zd, zc⟩ | ⟨z11, zn⟩
    · have hdz := hd1 z
      have z11' : (pC q.2.1 z = 11) = False := eq_false z11
      have wsz : wdN q 0 z = nI (rws q z) := if_neg z11
      with_reducible refine xm_go_blk b_X12_goesOn_199 k_X12_goesOn_199 ?_
      refine by_istore (by rw [ml_226]; decide) ?_
      refine by_iload_n rfl ?_
      refine by_if_le 217 rfl ?_
      simp (disch := first | exact Nat.ne_of_beq_eq_false rfl | exact rfl | omega) only [nI_add, xa_sub, xa_mul, pk_div, nm_mod, xa_shr, xa_and7, xa_and1, xa_and255, xa_by_and, nI_m1, Nat.add_sub_cancel, Nat.reducePow, Nat.zero_add, Nat.add_zero, Nat.reduceAdd, Nat.reduceMul, Nat.reduceSub, xf_same, xq_ff, xq_fo, xf_1, xf_2, xs_1, xs_2, xs_same, xq_so, xj_1, xj_2, xj_same, xq_jo, xq_sa1, xq_same, xq_other, upd_s, oI_n, oI_s, xv_0, xv_1, xv_2, xv_3, xm_p1, xm_p2, xq_fp, xq_fn, List.filter_nil, Nat.reduceBEq, Bool.not_true, Bool.not_false, Bool.and_true, Bool.and_false, Bool.false_and, Bool.true_and, if_true, if_false, Bool.false_eq_true, reduceIte, xc_i, xc_j, xc_r, xc_n, List.nil_append, List.cons_append, Option.toList_some, Option.toList_none, nI_ltJ, nI_leJ, nI_eqJ, nI_ltz, nI_gez, nI_gtz, nI_lez, nI_eqz, m1_ltz, m1_gez, true_imp_iff, false_imp_iff, true_and, and_true, ne_eq, not_false_eq_true, not_true_eq_false, Nat.reduceEqDiff, Nat.reduceLT, Nat.reduceLeDiff, xf_102_20 F1, kz1, z11']
      with_reducible refine xm_go_blk b_X12_goesOn_217 k_X12_goesOn_217 ?_
      refine by_aload_n rfl ?_
      refine by_getf cn_226 fl_12_54 (by first | exact rfl | assumption) (by decide) ?_
      refine by_iload rfl ?_
      simp (disch := first | exact Nat.ne_of_beq_eq_false rfl | exact rfl | omega) only [nI_add, xa_sub, xa_mul, pk_div, nm_mod, xa_shr, xa_and7, xa_and1, xa_and255, xa_by_and, nI_m1, Nat.add_sub_cancel, Nat.reducePow, Nat.zero_add, Nat.add_zero, Nat.reduceAdd, Nat.reduceMul, Nat.reduceSub, xf_same, xq_ff, xq_fo, xf_1, xf_2, xs_1, xs_2, xs_same, xq_so, xj_1, xj_2, xj_same, xq_jo, xq_sa1, xq_same, xq_other, upd_s, oI_n, oI_s, xf_102_20 F1, kz1, z11']
      first | refine by_iald (by first | exact rfl | assumption | exact ps_1 hpp | exact ps_2 hpp | exact ps_3 hpp | exact ps_4 hpp | exact ps_5 hpp | exact ps_6 hpp | exact ps_7 hpp | exact ps_8 hpp | exact ps_9 hpp | exact ps_10 hpp | exact ps_11 hpp | exact ps_15 hpp | exact ps_16 hpp | exact ps_17 hpp | exact ps_18 hpp | exact ps_19 hpp | exact ps_21 hpp | exact ps_22 hpp | exact ps_23 hpp | exact ps_24 hpp) ⟨by omega, by omega⟩ ?_ | refine by_tald rfl rfl ⟨by omega, by omega⟩ ?_
      refine by_bipush cb_11 ?_
      refine by_ic_ne 231 rfl ?_
      simp (disch := first | exact Nat.ne_of_beq_eq_false rfl | exact rfl | omega) only [nI_add, xa_sub, xa_mul, pk_div, nm_mod, xa_shr, xa_and7, xa_and1, xa_and255, xa_by_and, nI_m1, Nat.add_sub_cancel, Nat.reducePow, Nat.zero_add, Nat.add_zero, Nat.reduceAdd, Nat.reduceMul, Nat.reduceSub, xf_same, xq_ff, xq_fo, xf_1, xf_2, xs_1, xs_2, xs_same, xq_so, xj_1, xj_2, xj_same, xq_jo, xq_sa1, xq_same, xq_other, upd_s, oI_n, oI_s, xv_0, xv_1, xv_2, xv_3, xm_p1, xm_p2, xq_fp, xq_fn, List.filter_nil, Nat.reduceBEq, Bool.not_true, Bool.not_false, Bool.and_true, Bool.and_false, Bool.false_and, Bool.true_and, if_true, if_false, Bool.false_eq_true, reduceIte, xc_i, xc_j, xc_r, xc_n, List.nil_append, List.cons_append, Option.toList_some, Option.toList_none, nI_ltJ, nI_leJ, nI_eqJ, nI_ltz, nI_gez, nI_gtz, nI_lez, nI_eqz, m1_ltz, m1_gez, true_imp_iff, false_imp_iff, true_and, and_true, ne_eq, not_false_eq_true, not_true_eq_false, Nat.reduceEqDiff, Nat.reduceLT, Nat.reduceLeDiff, xf_102_20 F1, kz1, z11']
      with_reducible refine xm_go_blk b_X12_goesOn_231 k_X12_goesOn_231 ?_
      refine by_aload_n rfl ?_
      refine by_iload rfl ?_
      refine by_iload rfl ?_
      refine by_aload_n rfl ?_
      refine by_iload_n rfl ?_
      refine by_inv1 cn_226 lk_12_403 (by rw [xe_cnt]; decide) is_295 np_295 cn_295 (by first | exact rfl | assumption) (Nat.le_of_ble_eq_true rfl) ?_
      refine sp_msw F1 P1 hn ?_
      rw [wsn]
      with_reducible refine xm_go_blk b_X12_goesOn_241 k_X12_goesOn_241 ?_
      refine by_iadd ?_
      refine by_aload_n rfl ?_
      refine by_iload rfl ?_
      simp (disch := first | exact Nat.ne_of_beq_eq_false rfl | exact rfl | omega) only [nI_add, xa_sub, xa_mul, pk_div, nm_mod, xa_shr, xa_and7, xa_and1, xa_and255, xa_by_and, nI_m1, Nat.add_sub_cancel, Nat.reducePow, Nat.zero_add, Nat.add_zero, Nat.reduceAdd, Nat.reduceMul, Nat.reduceSub, xf_same, xq_ff, xq_fo, xf_1, xf_2, xs_1, xs_2, xs_same, xq_so, xj_1, xj_2, xj_same, xq_jo, xq_sa1, xq_same, xq_other, upd_s, oI_n, oI_s, xv_0, xv_1, xv_2, xv_3, xm_p1, xm_p2, xq_fp, xq_fn, List.filter_nil, Nat.reduceBEq, Bool.not_true, Bool.not_false, Bool.and_true, Bool.and_false, Bool.false_and, Bool.true_and, if_true, if_false, Bool.false_eq_true, reduceIte, xc_i, xc_j, xc_r, xc_n, List.nil_append, List.cons_append, Option.toList_some, Option.toList_none]
      refine by_inv1 cn_226 lk_12_403 (by rw [xe_cnt]; decide) is_295 np_295 cn_295 (by first | exact rfl | assumption) (Nat.le_of_ble_eq_true rfl) ?_
      refine sp_msw F1 P1 (by omega) ?_
      rw [wsz]
      have ei : i + rws q n - rws q z = i + kz := by omega
      with_reducible refine xm_go_blk b_X12_goesOn_248 k_X12_goesOn_248 ?_
      refine by_isub ?_
      refine by_iload rfl ?_
      simp (disch := first | exact Nat.ne_of_beq_eq_false rfl | exact rfl | omega) only [nI_add, xa_sub, xa_mul, pk_div, nm_mod, xa_shr, xa_and7, xa_and1, xa_and255, xa_by_and, nI_m1, Nat.add_sub_cancel, Nat.reducePow, Nat.zero_add, Nat.add_zero, Nat.reduceAdd, Nat.reduceMul, Nat.reduceSub, xf_same, xq_ff, xq_fo, xf_1, xf_2, xs_1, xs_2, xs_same, xq_so, xj_1, xj_2, xj_same, xq_jo, xq_sa1, xq_same, xq_other, upd_s, oI_n, oI_s, xv_0, xv_1, xv_2, xv_3, xm_p1, xm_p2, xq_fp, xq_fn, List.filter_nil, Nat.reduceBEq, Bool.not_true, Bool.not_false, Bool.and_true, Bool.and_false, Bool.false_and, Bool.true_and, if_true, if_false, Bool.false_eq_true, reduceIte, xc_i, xc_j, xc_r, xc_n, List.nil_append, List.cons_append, Option.toList_some, Option.toList_none, ei]
      refine by_inv3 cn_226 lk_12_516 (by rw [xe_cnt]; decide) is_203 np_203 cn_203 (by first | exact rfl | assumption) (Nat.le_of_ble_eq_true rfl) ?_
      refine sp_begin (q := q) F1 P1 (by omega) z11 (by simp only [List.length_cons]; omega) S1 (fun h2 f2 S2 => ?_)
      have F2 := Fr_XF F1 f2 (by decide +kernel)
      have f02 : Fr rfR rfT H0 h2 := Fr_tr f01 f2 (by simp [rfR]) (by simp [rfT])
      have b2 : h2.1 145 = h.1 145 := by rw [f2.1 145 (by simp)]; exact b1
      with_reducible refine xm_go_blk b_X12_goesOn_254 k_X12_goesOn_254 ?_
      refine by_iconst ci_1 ?_
      refine by_iret ry_226 (by first | rfl | assumption) ?_
      refine Lp_1 (rb_one (h := h) (n := n) (x := z) (i := i) (i' := i + kz) (t := t) (wr := []) (u := mc_sh u kz) (rx := rz) (op := 1) (tg := 174) hP hn he (by decide) rfl F2 f02 S2 (fun j hj => ?_) (fun j hj => absurd hj (Nat.not_lt_zero _)) (fun j _ _ => by rw [b2]) zb zl (by omega) (by omega) (by simp; omega) zd zc q1 q2 q3 q4 q5 q6 q7 q8 q9 q10 q11 hd1 (fun h3 cm3 fm3 st3 F3 f03 S3 ho3 hL => ?_) (fun a s c g hr h' F' f' S' b' o' => ?_) (fun hr h' F' f' => ?_))
      · rw [b2]
        have := hB (kz + j) (by omega)
        rw [show i + (kz + j) = i + kz + j by omega] at this
        exact this
      · have s1 := S3.1
        simp only [List.length_cons] at s1
        obtain ⟨_, k2'', k3''⟩ := cd h3 f03
        have bu3 : h3.1 145 i = nI (u 0).toNat := by have := ho3 0 (by omega); rw [Nat.add_zero] at this; rw [this]; exact bu
        unfold Gn
        cases hu : u 0 with
        | false =>
          rw [hu, Bool.toNat_false] at bu3
          with_reducible refine xm_go_blk b_X12_goesOn_174 k_X12_goesOn_174 ?_
          refine by_aload_n rfl ?_
          refine by_getf cn_226 fl_12_141 (by first | exact rfl | assumption) (by decide) ?_
          refine by_iload rfl ?_
          simp (disch := first | exact Nat.ne_of_beq_eq_false rfl | exact rfl | omega) only [nI_add, xa_sub, xa_mul, pk_div, nm_mod, xa_shr, xa_and7, xa_and1, xa_and255, xa_by_and, nI_m1, Nat.add_sub_cancel, Nat.reducePow, Nat.zero_add, Nat.add_zero, Nat.reduceAdd, Nat.reduceMul, Nat.reduceSub, xf_same, xq_ff, xq_fo, xf_1, xf_2, xs_1, xs_2, xs_same, xq_so, xj_1, xj_2, xj_same, xq_jo, xq_sa1, xq_same, xq_other, upd_s, oI_n, oI_s, xf_102_58 F3, bu3, xf_102_21 F3, k2'', s1]
          first | refine by_bald (Or.inl rfl) (by first | exact rfl | assumption | exact ps_13 hpp) ⟨by omega, by omega⟩ ?_ | refine by_bald (Or.inr rfl) (by first | exact rfl | assumption | exact ps_20 hpp) ⟨by omega, by omega⟩ ?_
          refine by_if_ne 193 rfl ?_
          simp (disch := first | exact Nat.ne_of_beq_eq_false rfl | exact rfl | omega) only [nI_add, xa_sub, xa_mul, pk_div, nm_mod, xa_shr, xa_and7, xa_and1, xa_and255, xa_by_and, nI_m1, Nat.add_sub_cancel, Nat.reducePow, Nat.zero_add, Nat.add_zero, Nat.reduceAdd, Nat.reduceMul, Nat.reduceSub, xf_same, xq_ff, xq_fo, xf_1, xf_2, xs_1, xs_2, xs_same, xq_so, xj_1, xj_2, xj_same, xq_jo, xq_sa1, xq_same, xq_other, upd_s, oI_n, oI_s, xv_0, xv_1, xv_2, xv_3, xm_p1, xm_p2, xq_fp, xq_fn, List.filter_nil, Nat.reduceBEq, Bool.not_true, Bool.not_false, Bool.and_true, Bool.and_false, Bool.false_and, Bool.true_and, if_true, if_false, Bool.false_eq_true, reduceIte, xc_i, xc_j, xc_r, xc_n, List.nil_append, List.cons_append, Option.toList_some, Option.toList_none, nI_ltJ, nI_leJ, nI_eqJ, nI_ltz, nI_gez, nI_gtz, nI_lez, nI_eqz, m1_ltz, m1_gez, true_imp_iff, false_imp_iff, true_and, and_true, ne_eq, not_false_eq_true, not_true_eq_false, Nat.reduceEqDiff, Nat.reduceLT, Nat.reduceLeDiff, xf_102_58 F3, bu3, xf_102_21 F3, k2'', s1]
          with_reducible refine xm_go_blk b_X12_goesOn_184 k_X12_goesOn_184 ?_
          refine by_aload_n rfl ?_
          refine by_getf cn_226 fl_12_57 (by first | exact rfl | assumption) (by decide) ?_
          refine by_iload_n rfl ?_
          simp (disch := first | exact Nat.ne_of_beq_eq_false rfl | exact rfl | omega) only [nI_add, xa_sub, xa_mul, pk_div, nm_mod, xa_shr, xa_and7, xa_and1, xa_and255, xa_by_and, nI_m1, Nat.add_sub_cancel, Nat.reducePow, Nat.zero_add, Nat.add_zero, Nat.reduceAdd, Nat.reduceMul, Nat.reduceSub, xf_same, xq_ff, xq_fo, xf_1, xf_2, xs_1, xs_2, xs_same, xq_so, xj_1, xj_2, xj_same, xq_jo, xq_sa1, xq_same, xq_other, upd_s, oI_n, oI_s, xf_102_58 F3, bu3, xf_102_21 F3, k2'', s1]
          first | refine by_iald (by first | exact rfl | assumption | exact ps_1 hpp | exact ps_2 hpp | exact ps_3 hpp | exact ps_4 hpp | exact ps_5 hpp | exact ps_6 hpp | exact ps_7 hpp | exact ps_8 hpp | exact ps_9 hpp | exact ps_10 hpp | exact ps_11 hpp | exact ps_15 hpp | exact ps_16 hpp | exact ps_17 hpp | exact ps_18 hpp | exact ps_19 hpp | exact ps_21 hpp | exact ps_22 hpp | exact ps_23 hpp | exact ps_24 hpp) ⟨by omega, by omega⟩ ?_ | refine by_tald rfl rfl ⟨by omega, by omega⟩ ?_
          refine by_goto 199 rfl ?_
          try simp (disch := first | exact Nat.ne_of_beq_eq_false rfl | exact rfl | omega) only [nI_add, xa_sub, xa_mul, pk_div, nm_mod, xa_shr, xa_and7, xa_and1, xa_and255, xa_by_and, nI_m1, Nat.add_sub_cancel, Nat.reducePow, Nat.zero_add, Nat.add_zero, Nat.reduceAdd, Nat.reduceMul, Nat.reduceSub, xf_same, xq_ff, xq_fo, xf_1, xf_2, xs_1, xs_2, xs_same, xq_so, xj_1, xj_2, xj_same, xq_jo, xq_sa1, xq_same, xq_other, upd_s, oI_n, oI_s, xv_0, xv_1, xv_2, xv_3, xm_p1, xm_p2, xq_fp, xq_fn, List.filter_nil, Nat.reduceBEq, Bool.not_true, Bool.not_false, Bool.and_true, Bool.and_false, Bool.false_and, Bool.true_and, if_true, if_false, Bool.false_eq_true, reduceIte, xc_i, xc_j, xc_r, xc_n, List.nil_append, List.cons_append, Option.toList_some, Option.toList_none, xf_102_58 F3, bu3, xf_102_21 F3, k2'', s1]
          with_reducible refine xm_go_blk b_X12_goesOn_199 k_X12_goesOn_199 ?_
          refine by_istore (by rw [ml_226]; decide) ?_
          refine by_iload_n rfl ?_
          refine by_if_le 217 rfl ?_
          simp (disch := first | exact Nat.ne_of_beq_eq_false rfl | exact rfl | omega) only [nI_add, xa_sub, xa_mul, pk_div, nm_mod, xa_shr, xa_and7, xa_and1, xa_and255, xa_by_and, nI_m1, Nat.add_sub_cancel, Nat.reducePow, Nat.zero_add, Nat.add_zero, Nat.reduceAdd, Nat.reduceMul, Nat.reduceSub, xf_same, xq_ff, xq_fo, xf_1, xf_2, xs_1, xs_2, xs_same, xq_so, xj_1, xj_2, xj_same, xq_jo, xq_sa1, xq_same, xq_other, upd_s, oI_n, oI_s, xv_0, xv_1, xv_2, xv_3, xm_p1, xm_p2, xq_fp, xq_fn, List.filter_nil, Nat.reduceBEq, Bool.not_true, Bool.not_false, Bool.and_true, Bool.and_false, Bool.false_and, Bool.true_and, if_true, if_false, Bool.false_eq_true, reduceIte, xc_i, xc_j, xc_r, xc_n, List.nil_append, List.cons_append, Option.toList_some, Option.toList_none, nI_ltJ, nI_leJ, nI_eqJ, nI_ltz, nI_gez, nI_gtz, nI_lez, nI_eqz, m1_ltz, m1_gez, true_imp_iff, false_imp_iff, true_and, and_true, ne_eq, not_false_eq_true, not_true_eq_false, Nat.reduceEqDiff, Nat.reduceLT, Nat.reduceLeDiff, xf_102_58 F3, bu3, xf_102_21 F3, k2'', s1]
          with_reducible refine xm_go_blk b_X12_goesOn_205 k_X12_goesOn_205 ?_
          refine by_aload_n rfl ?_
          refine by_dup rfl ?_
          refine by_getf cn_226 fl_12_494 (by first | exact rfl | assumption) (by decide) ?_
          refine by_iconst ci_1 ?_
          simp (disch := first | exact Nat.ne_of_beq_eq_false rfl | exact rfl | omega) only [nI_add, xa_sub, xa_mul, pk_div, nm_mod, xa_shr, xa_and7, xa_and1, xa_and255, xa_by_and, nI_m1, Nat.add_sub_cancel, Nat.reducePow, Nat.zero_add, Nat.add_zero, Nat.reduceAdd, Nat.reduceMul, Nat.reduceSub, xf_same, xq_ff, xq_fo, xf_1, xf_2, xs_1, xs_2, xs_same, xq_so, xj_1, xj_2, xj_same, xq_jo, xq_sa1, xq_same, xq_other, upd_s, oI_n, oI_s, xf_102_58 F3, bu3, xf_102_21 F3, k2'', s1]
          refine by_isub ?_
          refine by_putf cn_226 fl_12_494 (by first | exact rfl | assumption) (by decide) nf_12_74 ft_12_74 (by first | rfl | assumption) (by first | rfl | assumption) ?_
          refine by_iconst ci_1 ?_
          simp (disch := first | exact Nat.ne_of_beq_eq_false rfl | exact rfl | omega) only [nI_add, xa_sub, xa_mul, pk_div, nm_mod, xa_shr, xa_and7, xa_and1, xa_and255, xa_by_and, nI_m1, Nat.add_sub_cancel, Nat.reducePow, Nat.zero_add, Nat.add_zero, Nat.reduceAdd, Nat.reduceMul, Nat.reduceSub, xf_same, xq_ff, xq_fo, xf_1, xf_2, xs_1, xs_2, xs_same, xq_so, xj_1, xj_2, xj_same, xq_jo, xq_sa1, xq_same, xq_other, upd_s, oI_n, oI_s, xf_102_58 F3, bu3, xf_102_21 F3, k2'', s1]
          refine by_iret ry_226 (by first | rfl | assumption) ?_
          exact Lp_1 hL
        | true =>
          rw [hu, Bool.toNat_true] at bu3
          with_reducible refine xm_go_blk b_X12_goesOn_174 k_X12_goesOn_174 ?_
          refine by_aload_n rfl ?_
          refine by_getf cn_226 fl_12_141 (by first | exact rfl | assumption) (by decide) ?_
          refine by_iload rfl ?_
          simp (disch := first | exact Nat.ne_of_beq_eq_false rfl | exact rfl | omega) only [nI_add, xa_sub, xa_mul, pk_div, nm_mod, xa_shr, xa_and7, xa_and1, xa_and255, xa_by_and, nI_m1, Nat.add_sub_cancel, Nat.reducePow, Nat.zero_add, Nat.add_zero, Nat.reduceAdd, Nat.reduceMul, Nat.reduceSub, xf_same, xq_ff, xq_fo, xf_1, xf_2, xs_1, xs_2, xs_same, xq_so, xj_1, xj_2, xj_same, xq_jo, xq_sa1, xq_same, xq_other, upd_s, oI_n, oI_s, xf_102_58 F3, bu3, xf_102_22 F3, k3'', s1]
          first | refine by_bald (Or.inl rfl) (by first | exact rfl | assumption | exact ps_13 hpp) ⟨by omega, by omega⟩ ?_ | refine by_bald (Or.inr rfl) (by first | exact rfl | assumption | exact ps_20 hpp) ⟨by omega, by omega⟩ ?_
          refine by_if_ne 193 rfl ?_
          simp (disch := first | exact Nat.ne_of_beq_eq_false rfl | exact rfl | omega) only [nI_add, xa_sub, xa_mul, pk_div, nm_mod, xa_shr, xa_and7, xa_and1, xa_and255, xa_by_and, nI_m1, Nat.add_sub_cancel, Nat.reducePow, Nat.zero_add, Nat.add_zero, Nat.reduceAdd, Nat.reduceMul, Nat.reduceSub, xf_same, xq_ff, xq_fo, xf_1, xf_2, xs_1, xs_2, xs_same, xq_so, xj_1, xj_2, xj_same, xq_jo, xq_sa1, xq_same, xq_other, upd_s, oI_n, oI_s, xv_0, xv_1, xv_2, xv_3, xm_p1, xm_p2, xq_fp, xq_fn, List.filter_nil, Nat.reduceBEq, Bool.not_true, Bool.not_false, Bool.and_true, Bool.and_false, Bool.false_and, Bool.true_and, if_true, if_false, Bool.false_eq_true, reduceIte, xc_i, xc_j, xc_r, xc_n, List.nil_append, List.cons_append, Option.toList_some, Option.toList_none, nI_ltJ, nI_leJ, nI_eqJ, nI_ltz, nI_gez, nI_gtz, nI_lez, nI_eqz, m1_ltz, m1_gez, true_imp_iff, false_imp_iff, true_and, and_true, ne_eq, not_false_eq_true, not_true_eq_false, Nat.reduceEqDiff, Nat.reduceLT, Nat.reduceLeDiff, xf_102_58 F3, bu3, xf_102_22 F3, k3'', s1]
          with_reducible refine xm_go_blk b_X12_goesOn_193 k_X12_goesOn_193 ?_
          refine by_aload_n rfl ?_
          refine by_getf cn_226 fl_12_60 (by first | exact rfl | assumption) (by decide) ?_
          refine by_iload_n rfl ?_
          simp (disch := first | exact Nat.ne_of_beq_eq_false rfl | exact rfl | omega) only [nI_add, xa_sub, xa_mul, pk_div, nm_mod, xa_shr, xa_and7, xa_and1, xa_and255, xa_by_and, nI_m1, Nat.add_sub_cancel, Nat.reducePow, Nat.zero_add, Nat.add_zero, Nat.reduceAdd, Nat.reduceMul, Nat.reduceSub, xf_same, xq_ff, xq_fo, xf_1, xf_2, xs_1, xs_2, xs_same, xq_so, xj_1, xj_2, xj_same, xq_jo, xq_sa1, xq_same, xq_other, upd_s, oI_n, oI_s, xf_102_58 F3, bu3, xf_102_22 F3, k3'', s1]
          first | refine by_iald (by first | exact rfl | assumption | exact ps_1 hpp | exact ps_2 hpp | exact ps_3 hpp | exact ps_4 hpp | exact ps_5 hpp | exact ps_6 hpp | exact ps_7 hpp | exact ps_8 hpp | exact ps_9 hpp | exact ps_10 hpp | exact ps_11 hpp | exact ps_15 hpp | exact ps_16 hpp | exact ps_17 hpp | exact ps_18 hpp | exact ps_19 hpp | exact ps_21 hpp | exact ps_22 hpp | exact ps_23 hpp | exact ps_24 hpp) ⟨by omega, by omega⟩ ?_ | refine by_tald rfl rfl ⟨by omega, by omega⟩ ?_
          refine by_nil ?_
          try simp (disch := first | exact Nat.ne_of_beq_eq_false rfl | exact rfl | omega) only [nI_add, xa_sub, xa_mul, pk_div, nm_mod, xa_shr, xa_and7, xa_and1, xa_and255, xa_by_and, nI_m1, Nat.add_sub_cancel, Nat.reducePow, Nat.zero_add, Nat.add_zero, Nat.reduceAdd, Nat.reduceMul, Nat.reduceSub, xf_same, xq_ff, xq_fo, xf_1, xf_2, xs_1, xs_2, xs_same, xq_so, xj_1, xj_2, xj_same, xq_jo, xq_sa1, xq_same, xq_other, upd_s, oI_n, oI_s, xv_0, xv_1, xv_2, xv_3, xm_p1, xm_p2, xq_fp, xq_fn, List.filter_nil, Nat.reduceBEq, Bool.not_true, Bool.not_false, Bool.and_true, Bool.and_false, Bool.false_and, Bool.true_and, if_true, if_false, Bool.false_eq_true, reduceIte, xc_i, xc_j, xc_r, xc_n, List.nil_append, List.cons_append, Option.toList_some, Option.toList_none, xf_102_58 F3, bu3, xf_102_22 F3, k3'', s1]
          with_reducible refine xm_go_blk b_X12_goesOn_199 k_X12_goesOn_199 ?_
          refine by_istore (by rw [ml_226]; decide) ?_
          refine by_iload_n rfl ?_
          refine by_if_le 217 rfl ?_
          simp (disch := first | exact Nat.ne_of_beq_eq_false rfl | exact rfl | omega) only [nI_add, xa_sub, xa_mul, pk_div, nm_mod, xa_shr, xa_and7, xa_and1, xa_and255, xa_by_and, nI_m1, Nat.add_sub_cancel, Nat.reducePow, Nat.zero_add, Nat.add_zero, Nat.reduceAdd, Nat.reduceMul, Nat.reduceSub, xf_same, xq_ff, xq_fo, xf_1, xf_2, xs_1, xs_2, xs_same, xq_so, xj_1, xj_2, xj_same, xq_jo, xq_sa1, xq_same, xq_other, upd_s, oI_n, oI_s, xv_0, xv_1, xv_2, xv_3, xm_p1, xm_p2, xq_fp, xq_fn, List.filter_nil, Nat.reduceBEq, Bool.not_true, Bool.not_false, Bool.and_true, Bool.and_false, Bool.false_and, Bool.true_and, if_true, if_false, Bool.false_eq_true, reduceIte, xc_i, xc_j, xc_r, xc_n, List.nil_append, List.cons_append, Option.toList_some, Option.toList_none, nI_ltJ, nI_leJ, nI_eqJ, nI_ltz, nI_gez, nI_gtz, nI_lez, nI_eqz, m1_ltz, m1_gez, true_imp_iff, false_imp_iff, true_and, and_true, ne_eq, not_false_eq_true, not_true_eq_false, Nat.reduceEqDiff, Nat.reduceLT, Nat.reduceLeDiff, xf_102_58 F3, bu3, xf_102_22 F3, k3'', s1]
          with_reducible refine xm_go_blk b_X12_goesOn_205 k_X12_goesOn_205 ?_
          refine by_aload_n rfl ?_
          refine by_dup rfl ?_
          refine by_getf cn_226 fl_12_494 (by first | exact rfl | assumption) (by decide) ?_
          refine by_iconst ci_1 ?_
          simp (disch := first | exact Nat.ne_of_beq_eq_false rfl | exact rfl | omega) only [nI_add, xa_sub, xa_mul, pk_div, nm_mod, xa_shr, xa_and7, xa_and1, xa_and255, xa_by_and, nI_m1, Nat.add_sub_cancel, Nat.reducePow, Nat.zero_add, Nat.add_zero, Nat.reduceAdd, Nat.reduceMul, Nat.reduceSub, xf_same, xq_ff, xq_fo, xf_1, xf_2, xs_1, xs_2, xs_same, xq_so, xj_1, xj_2, xj_same, xq_jo, xq_sa1, xq_same, xq_other, upd_s, oI_n, oI_s, xf_102_58 F3, bu3, xf_102_22 F3, k3'', s1]
          refine by_isub ?_
          refine by_putf cn_226 fl_12_494 (by first | exact rfl | assumption) (by decide) nf_12_74 ft_12_74 (by first | rfl | assumption) (by first | rfl | assumption) ?_
          refine by_iconst ci_1 ?_
          simp (disch := first | exact Nat.ne_of_beq_eq_false rfl | exact rfl | omega) only [nI_add, xa_sub, xa_mul, pk_div, nm_mod, xa_shr, xa_and7, xa_and1, xa_and255, xa_by_and, nI_m1, Nat.add_sub_cancel, Nat.reducePow, Nat.zero_add, Nat.add_zero, Nat.reduceAdd, Nat.reduceMul, Nat.reduceSub, xf_same, xq_ff, xq_fo, xf_1, xf_2, xs_1, xs_2, xs_same, xq_so, xj_1, xj_2, xj_same, xq_jo, xq_sa1, xq_same, xq_other, upd_s, oI_n, oI_s, xf_102_58 F3, bu3, xf_102_22 F3, k3'', s1]
          refine by_iret ry_226 (by first | rfl | assumption) ?_
          exact Lp_1 hL
      · exact hyes a (1 + s) c g (by simp only [hrz, hr]) h' F' f' S' b' o'
      · exact hno (by simp only [hrz, hr]) h' F' f'
    · have z11' : (pC q.2.1 z = 11) = True := eq_true z11
      have s1 := S1.1
      with_reducible refine xm_go_blk b_X12_goesOn_199 k_X12_goesOn_199 ?_
      refine by_istore (by rw [ml_226]; decide) ?_
      refine by_iload_n rfl ?_
      refine by_if_le 217 rfl ?_
      simp (disch := first | exact Nat.ne_of_beq_eq_false rfl | exact rfl | omega) only [nI_add, xa_sub, xa_mul, pk_div, nm_mod, xa_shr, xa_and7, xa_and1, xa_and255, xa_by_and, nI_m1, Nat.add_sub_cancel, Nat.reducePow, Nat.zero_add, Nat.add_zero, Nat.reduceAdd, Nat.reduceMul, Nat.reduceSub, xf_same, xq_ff, xq_fo, xf_1, xf_2, xs_1, xs_2, xs_same, xq_so, xj_1, xj_2, xj_same, xq_jo, xq_sa1, xq_same, xq_other, upd_s, oI_n, oI_s, xv_0, xv_1, xv_2, xv_3, xm_p1, xm_p2, xq_fp, xq_fn, List.filter_nil, Nat.reduceBEq, Bool.not_true, Bool.not_false, Bool.and_true, Bool.and_false, Bool.false_and, Bool.true_and, if_true, if_false, Bool.false_eq_true, reduceIte, xc_i, xc_j, xc_r, xc_n, List.nil_append, List.cons_append, Option.toList_some, Option.toList_none, nI_ltJ, nI_leJ, nI_eqJ, nI_ltz, nI_gez, nI_gtz, nI_lez, nI_eqz, m1_ltz, m1_gez, true_imp_iff, false_imp_iff, true_and, and_true, ne_eq, not_false_eq_true, not_true_eq_false, Nat.reduceEqDiff, Nat.reduceLT, Nat.reduceLeDiff, xf_102_20 F1, kz1, z11']
      with_reducible refine xm_go_blk b_X12_goesOn_217 k_X12_goesOn_217 ?_
      refine by_aload_n rfl ?_
      refine by_getf cn_226 fl_12_54 (by first | exact rfl | assumption) (by decide) ?_
      refine by_iload rfl ?_
      simp (disch := first | exact Nat.ne_of_beq_eq_false rfl | exact rfl | omega) only [nI_add, xa_sub, xa_mul, pk_div, nm_mod, xa_shr, xa_and7, xa_and1, xa_and255, xa_by_and, nI_m1, Nat.add_sub_cancel, Nat.reducePow, Nat.zero_add, Nat.add_zero, Nat.reduceAdd, Nat.reduceMul, Nat.reduceSub, xf_same, xq_ff, xq_fo, xf_1, xf_2, xs_1, xs_2, xs_same, xq_so, xj_1, xj_2, xj_same, xq_jo, xq_sa1, xq_same, xq_other, upd_s, oI_n, oI_s, xf_102_20 F1, kz1, z11']
      first | refine by_iald (by first | exact rfl | assumption | exact ps_1 hpp | exact ps_2 hpp | exact ps_3 hpp | exact ps_4 hpp | exact ps_5 hpp | exact ps_6 hpp | exact ps_7 hpp | exact ps_8 hpp | exact ps_9 hpp | exact ps_10 hpp | exact ps_11 hpp | exact ps_15 hpp | exact ps_16 hpp | exact ps_17 hpp | exact ps_18 hpp | exact ps_19 hpp | exact ps_21 hpp | exact ps_22 hpp | exact ps_23 hpp | exact ps_24 hpp) ⟨by omega, by omega⟩ ?_ | refine by_tald rfl rfl ⟨by omega, by omega⟩ ?_
      refine by_bipush cb_11 ?_
      refine by_ic_ne 231 rfl ?_
      simp (disch := first | exact Nat.ne_of_beq_eq_false rfl | exact rfl | omega) only [nI_add, xa_sub, xa_mul, pk_div, nm_mod, xa_shr, xa_and7, xa_and1, xa_and255, xa_by_and, nI_m1, Nat.add_sub_cancel, Nat.reducePow, Nat.zero_add, Nat.add_zero, Nat.reduceAdd, Nat.reduceMul, Nat.reduceSub, xf_same, xq_ff, xq_fo, xf_1, xf_2, xs_1, xs_2, xs_same, xq_so, xj_1, xj_2, xj_same, xq_jo, xq_sa1, xq_same, xq_other, upd_s, oI_n, oI_s, xv_0, xv_1, xv_2, xv_3, xm_p1, xm_p2, xq_fp, xq_fn, List.filter_nil, Nat.reduceBEq, Bool.not_true, Bool.not_false, Bool.and_true, Bool.and_false, Bool.false_and, Bool.true_and, if_true, if_false, Bool.false_eq_true, reduceIte, xc_i, xc_j, xc_r, xc_n, List.nil_append, List.cons_append, Option.toList_some, Option.toList_none, nI_ltJ, nI_leJ, nI_eqJ, nI_ltz, nI_gez, nI_gtz, nI_lez, nI_eqz, m1_ltz, m1_gez, true_imp_iff, false_imp_iff, true_and, and_true, ne_eq, not_false_eq_true, not_true_eq_false, Nat.reduceEqDiff, Nat.reduceLT, Nat.reduceLeDiff, xf_102_20 F1, kz1, z11']
      with_reducible refine xm_go_blk b_X12_goesOn_229 k_X12_goesOn_229 ?_
      refine by_iconst ci_0 ?_
      refine by_iret ry_226 (by first | rfl | assumption) ?_
      exact Lp_0 s1 (by simp only [List.length_cons]; omega) (hno (by simp only [hrz, zn]) h1 F1 f01)
  unfold Gn
  cases hu : u 0 with
  | false =>
    rw [hu, Bool.toNat_false] at bu1
    with_reducible refine xm_go_blk b_X12_goesOn_174 k_X12_goesOn_174 ?_
    refine by_aload_n rfl ?_
    refine by_getf cn_226 fl_12_141 (by first | exact rfl | assumption) (by decide) ?_
    refine by_iload rfl ?_
    simp (disch := first | exact Nat.ne_of_beq_eq_false rfl | exact rfl | omega) only [nI_add, xa_sub, xa_mul, pk_div, nm_mod, xa_shr, xa_and7, xa_and1, xa_and255, xa_by_and, nI_m1, Nat.add_sub_cancel, Nat.reducePow, Nat.zero_add, Nat.add_zero, Nat.reduceAdd, Nat.reduceMul, Nat.reduceSub, xf_same, xq_ff, xq_fo, xf_1, xf_2, xs_1, xs_2, xs_same, xq_so, xj_1, xj_2, xj_same, xq_jo, xq_sa1, xq_same, xq_other, upd_s, oI_n, oI_s, xf_102_58 F1, bu1, xf_102_21 F1, k2']
    first | refine by_bald (Or.inl rfl) (by first | exact rfl | assumption | exact ps_13 hpp) ⟨by omega, by omega⟩ ?_ | refine by_bald (Or.inr rfl) (by first | exact rfl | assumption | exact ps_20 hpp) ⟨by omega, by omega⟩ ?_
    refine by_if_ne 193 rfl ?_
    simp (disch := first | exact Nat.ne_of_beq_eq_false rfl | exact rfl | omega) only [nI_add, xa_sub, xa_mul, pk_div, nm_mod, xa_shr, xa_and7, xa_and1, xa_and255, xa_by_and, nI_m1, Nat.add_sub_cancel, Nat.reducePow, Nat.zero_add, Nat.add_zero, Nat.reduceAdd, Nat.reduceMul, Nat.reduceSub, xf_same, xq_ff, xq_fo, xf_1, xf_2, xs_1, xs_2, xs_same, xq_so, xj_1, xj_2, xj_same, xq_jo, xq_sa1, xq_same, xq_other, upd_s, oI_n, oI_s, xv_0, xv_1, xv_2, xv_3, xm_p1, xm_p2, xq_fp, xq_fn, List.filter_nil, Nat.reduceBEq, Bool.not_true, Bool.not_false, Bool.and_true, Bool.and_false, Bool.false_and, Bool.true_and, if_true, if_false, Bool.false_eq_true, reduceIte, xc_i, xc_j, xc_r, xc_n, List.nil_append, List.cons_append, Option.toList_some, Option.toList_none, nI_ltJ, nI_leJ, nI_eqJ, nI_ltz, nI_gez, nI_gtz, nI_lez, nI_eqz, m1_ltz, m1_gez, true_imp_iff, false_imp_iff, true_and, and_true, ne_eq, not_false_eq_true, not_true_eq_false, Nat.reduceEqDiff, Nat.reduceLT, Nat.reduceLeDiff, xf_102_58 F1, bu1, xf_102_21 F1, k2']
    with_reducible refine xm_go_blk b_X12_goesOn_184 k_X12_goesOn_184 ?_
    refine by_aload_n rfl ?_
    refine by_getf cn_226 fl_12_57 (by first | exact rfl | assumption) (by decide) ?_
    refine by_iload_n rfl ?_
    simp (disch := first | exact Nat.ne_of_beq_eq_false rfl | exact rfl | omega) only [nI_add, xa_sub, xa_mul, pk_div, nm_mod, xa_shr, xa_and7, xa_and1, xa_and255, xa_by_and, nI_m1, Nat.add_sub_cancel, Nat.reducePow, Nat.zero_add, Nat.add_zero, Nat.reduceAdd, Nat.reduceMul, Nat.reduceSub, xf_same, xq_ff, xq_fo, xf_1, xf_2, xs_1, xs_2, xs_same, xq_so, xj_1, xj_2, xj_same, xq_jo, xq_sa1, xq_same, xq_other, upd_s, oI_n, oI_s, xf_102_58 F1, bu1, xf_102_21 F1, k2']
    first | refine by_iald (by first | exact rfl | assumption | exact ps_1 hpp | exact ps_2 hpp | exact ps_3 hpp | exact ps_4 hpp | exact ps_5 hpp | exact ps_6 hpp | exact ps_7 hpp | exact ps_8 hpp | exact ps_9 hpp | exact ps_10 hpp | exact ps_11 hpp | exact ps_15 hpp | exact ps_16 hpp | exact ps_17 hpp | exact ps_18 hpp | exact ps_19 hpp | exact ps_21 hpp | exact ps_22 hpp | exact ps_23 hpp | exact ps_24 hpp) ⟨by omega, by omega⟩ ?_ | refine by_tald rfl rfl ⟨by omega, by omega⟩ ?_
    refine by_goto 199 rfl ?_
    try simp (disch := first | exact Nat.ne_of_beq_eq_false rfl | exact rfl | omega) only [nI_add, xa_sub, xa_mul, pk_div, nm_mod, xa_shr, xa_and7, xa_and1, xa_and255, xa_by_and, nI_m1, Nat.add_sub_cancel, Nat.reducePow, Nat.zero_add, Nat.add_zero, Nat.reduceAdd, Nat.reduceMul, Nat.reduceSub, xf_same, xq_ff, xq_fo, xf_1, xf_2, xs_1, xs_2, xs_same, xq_so, xj_1, xj_2, xj_same, xq_jo, xq_sa1, xq_same, xq_other, upd_s, oI_n, oI_s, xv_0, xv_1, xv_2, xv_3, xm_p1, xm_p2, xq_fp, xq_fn, List.filter_nil, Nat.reduceBEq, Bool.not_true, Bool.not_false, Bool.and_true, Bool.and_false, Bool.false_and, Bool.true_and, if_true, if_false, Bool.false_eq_true, reduceIte, xc_i, xc_j, xc_r, xc_n, List.nil_append, List.cons_append, Option.toList_some, Option.toList_none, xf_102_58 F1, bu1, xf_102_21 F1, k2']
    exact xm_go_wk (by simp [Value.category]) (go x kx rx lx' hx (by rw [if_pos hu]))
  | true =>
    rw [hu, Bool.toNat_true] at bu1
    with_reducible refine xm_go_blk b_X12_goesOn_174 k_X12_goesOn_174 ?_
    refine by_aload_n rfl ?_
    refine by_getf cn_226 fl_12_141 (by first | exact rfl | assumption) (by decide) ?_
    refine by_iload rfl ?_
    simp (disch := first | exact Nat.ne_of_beq_eq_false rfl | exact rfl | omega) only [nI_add, xa_sub, xa_mul, pk_div, nm_mod, xa_shr, xa_and7, xa_and1, xa_and255, xa_by_and, nI_m1, Nat.add_sub_cancel, Nat.reducePow, Nat.zero_add, Nat.add_zero, Nat.reduceAdd, Nat.reduceMul, Nat.reduceSub, xf_same, xq_ff, xq_fo, xf_1, xf_2, xs_1, xs_2, xs_same, xq_so, xj_1, xj_2, xj_same, xq_jo, xq_sa1, xq_same, xq_other, upd_s, oI_n, oI_s, xf_102_58 F1, bu1, xf_102_22 F1, k3']
    first | refine by_bald (Or.inl rfl) (by first | exact rfl | assumption | exact ps_13 hpp) ⟨by omega, by omega⟩ ?_ | refine by_bald (Or.inr rfl) (by first | exact rfl | assumption | exact ps_20 hpp) ⟨by omega, by omega⟩ ?_
    refine by_if_ne 193 rfl ?_
    simp (disch := first | exact Nat.ne_of_beq_eq_false rfl | exact rfl | omega) only [nI_add, xa_sub, xa_mul, pk_div, nm_mod, xa_shr, xa_and7, xa_and1, xa_and255, xa_by_and, nI_m1, Nat.add_sub_cancel, Nat.reducePow, Nat.zero_add, Nat.add_zero, Nat.reduceAdd, Nat.reduceMul, Nat.reduceSub, xf_same, xq_ff, xq_fo, xf_1, xf_2, xs_1, xs_2, xs_same, xq_so, xj_1, xj_2, xj_same, xq_jo, xq_sa1, xq_same, xq_other, upd_s, oI_n, oI_s, xv_0, xv_1, xv_2, xv_3, xm_p1, xm_p2, xq_fp, xq_fn, List.filter_nil, Nat.reduceBEq, Bool.not_true, Bool.not_false, Bool.and_true, Bool.and_false, Bool.false_and, Bool.true_and, if_true, if_false, Bool.false_eq_true, reduceIte, xc_i, xc_j, xc_r, xc_n, List.nil_append, List.cons_append, Option.toList_some, Option.toList_none, nI_ltJ, nI_leJ, nI_eqJ, nI_ltz, nI_gez, nI_gtz, nI_lez, nI_eqz, m1_ltz, m1_gez, true_imp_iff, false_imp_iff, true_and, and_true, ne_eq, not_false_eq_true, not_true_eq_false, Nat.reduceEqDiff, Nat.reduceLT, Nat.reduceLeDiff, xf_102_58 F1, bu1, xf_102_22 F1, k3']
    with_reducible refine xm_go_blk b_X12_goesOn_193 k_X12_goesOn_193 ?_
    refine by_aload_n rfl ?_
    refine by_getf cn_226 fl_12_60 (by first | exact rfl | assumption) (by decide) ?_
    refine by_iload_n rfl ?_
    simp (disch := first | exact Nat.ne_of_beq_eq_false rfl | exact rfl | omega) only [nI_add, xa_sub, xa_mul, pk_div, nm_mod, xa_shr, xa_and7, xa_and1, xa_and255, xa_by_and, nI_m1, Nat.add_sub_cancel, Nat.reducePow, Nat.zero_add, Nat.add_zero, Nat.reduceAdd, Nat.reduceMul, Nat.reduceSub, xf_same, xq_ff, xq_fo, xf_1, xf_2, xs_1, xs_2, xs_same, xq_so, xj_1, xj_2, xj_same, xq_jo, xq_sa1, xq_same, xq_other, upd_s, oI_n, oI_s, xf_102_58 F1, bu1, xf_102_22 F1, k3']
    first | refine by_iald (by first | exact rfl | assumption | exact ps_1 hpp | exact ps_2 hpp | exact ps_3 hpp | exact ps_4 hpp | exact ps_5 hpp | exact ps_6 hpp | exact ps_7 hpp | exact ps_8 hpp | exact ps_9 hpp | exact ps_10 hpp | exact ps_11 hpp | exact ps_15 hpp | exact ps_16 hpp | exact ps_17 hpp | exact ps_18 hpp | exact ps_19 hpp | exact ps_21 hpp | exact ps_22 hpp | exact ps_23 hpp | exact ps_24 hpp) ⟨by omega, by omega⟩ ?_ | refine by_tald rfl rfl ⟨by omega, by omega⟩ ?_
    refine by_nil ?_
    try simp (disch := first | exact Nat.ne_of_beq_eq_false rfl | exact rfl | omega) only [nI_add, xa_sub, xa_mul, pk_div, nm_mod, xa_shr, xa_and7, xa_and1, xa_and255, xa_by_and, nI_m1, Nat.add_sub_cancel, Nat.reducePow, Nat.zero_add, Nat.add_zero, Nat.reduceAdd, Nat.reduceMul, Nat.reduceSub, xf_same, xq_ff, xq_fo, xf_1, xf_2, xs_1, xs_2, xs_same, xq_so, xj_1, xj_2, xj_same, xq_jo, xq_sa1, xq_same, xq_other, upd_s, oI_n, oI_s, xv_0, xv_1, xv_2, xv_3, xm_p1, xm_p2, xq_fp, xq_fn, List.filter_nil, Nat.reduceBEq, Bool.not_true, Bool.not_false, Bool.and_true, Bool.and_false, Bool.false_and, Bool.true_and, if_true, if_false, Bool.false_eq_true, reduceIte, xc_i, xc_j, xc_r, xc_n, List.nil_append, List.cons_append, Option.toList_some, Option.toList_none, xf_102_58 F1, bu1, xf_102_22 F1, k3']
    exact xm_go_wk (by simp [Value.category]) (go y ky ry ly' hy (by rw [if_neg (by rw [hu]; decide)]))
end RB
