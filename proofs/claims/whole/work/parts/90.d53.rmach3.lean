/-! ===== the reference's machine works a node: CASE, LEFT, RIGHT, TAKE, DROP ===== -/
section RB
variable {sc : xm_Sc} {d df s0 t0 : Nat} {q : PgD} {H0 : xm_H} {post : xm_Po} {dp cb : Nat → Nat}
/-- a child that is begun at another place, behind bits that are written; then its holder ends -/
theorem rb_one {h h2 : xm_H} {n x i i' t fr cn cm fn fm sp op tg : Nat} {wr : List Bool} {E : List rm_F} {u : Nat → Bool} {rx : (Nat → Bool) → Option mc_V} (hP : mPg H0 (some q)) (hn : n < q.2.1.length) (hop : pC q.2.1 n = op) (hop12 : op ≤ 12) (htg : (if op < 7 then [96, 174, 108, 256, 256, 268, 268].getD op 0 else 333) = tg)
    (F2 : XF h2) (f02 : Fr rfR rfT H0 h2) (S2 : rSt h2 ((x, 0, i', t + wr.length) :: (n, 1, i, t) :: E) fr cn cm fn fm (sp + 1 + ownQ q x)) (hB : rBt h2 i' (rws q x) u) (hm : ∀ j, j < wr.length → h2.1 145 (t + j) = nI (wr.getD j false).toNat) (ho : ∀ j, j < fr → (j < t ∨ t + wr.length ≤ j) → h2.1 145 j = h.1 145 j)
    (hx : RBg sc d df s0 t0 q dp cb H0 post x rx) (lx : RLr q dp cb x rx) (hii : i ≤ i') (a1 : i' + rws q x ≤ i + rws q n) (a2 : rwt q n = wr.length + rwt q x) (a6 : 1 + dp x ≤ dp n) (a8 : cb x ≤ cb n)
    (q1 : i + rws q n ≤ fr) (q2 : t + rwt q n ≤ fr) (q3 : i + rws q n ≤ t ∨ t + rwt q n ≤ i) (q4 : fr + cb n ≤ 824000) (q5 : E.length + dp n ≤ 402) (q6 : cn ≤ cm) (q7 : fn ≤ fm) (q8 : cm ≤ 10000000) (q9 : fm ≤ 10000000) (q10 : cn + cb n ≤ 10000000) (q11 : fn + dp n ≤ 10000000) (hd1 : ∀ m, 1 ≤ dp m)
    (hpop : ∀ h' cm' fm' st', XF h' → Fr rfR rfT H0 h' → rSt h' ((n, 2, i, t) :: E) fr cn cm' fn fm' st' → (∀ j, j < rws q n → h'.1 145 (i + j) = h.1 145 (i + j)) → Lp sc d df s0 t0 post (xm_sf h' 102 74 (.int (nI E.length))) → Gn sc d df s0 t0 post tg n 1 i t h')
    (hyes : ∀ a s c g, rx u = some (a, s, c, g) → ∀ h', XF h' → Fr rfR rfT H0 h' → rSt h' E fr cn (max cm (cn + c)) fn (max fm (fn + g)) (sp + (1 + s)) → rBt h' t (rwt q n) (mc_ex (wr ++ a)) → (∀ j, j < fr → (j < t ∨ t + rwt q n ≤ j) → h'.1 145 j = h.1 145 j) → Lp sc d df s0 t0 post h')
    (hno : rx u = none → ∀ h', XF h' → Fr rfR rfT H0 h' → post (some (.int (-1))) h') : Lp sc d df s0 t0 post h2 := by
  have hps : q.2.1.length ≤ 400 := (mPg_cd hP hn).2.2.2.2.2.2
  have hdx := hd1 x
  refine hx h2 i' (t + wr.length) fr cn cm fn fm (sp + 1) ((n, 1, i, t) :: E) u F2 f02 S2 hB (by omega) (by omega) (by omega) (by omega) (by simp only [List.length_cons]; omega) q6 q7 q8 q9 (by omega) (by omega) (fun a s c g hr h3 F3 f03 S3 b3 o3 => ?_) hno
  obtain ⟨la, lc, le⟩ := lx.2 _ _ _ _ _ hr
  have k1 : h3.1 117 n = nI op := by rw [← hop]; exact (mPg_cd (mPg_fr hP f03) hn).1
  refine Lp_go (op := op) (tg := tg) F3 S3 (by omega) (by omega) (by decide) k1 htg hop12 (fun h4 F4 f4 S4 => ?_)
  have f04 : Fr rfR rfT H0 h4 := Fr_tr f03 f4 (by simp [rfR]) (by simp)
  have f5 : Fr [] rfT h4 (xm_sf h4 102 74 (.int (nI E.length))) := Fr_sf Fr_rf (by simp [rfT])
  have b4 : h4.1 145 = h3.1 145 := f4.1 145 (by simp)
  refine hpop h4 _ _ _ F4 f04 S4 (fun j hj => ?_) ?_
  · rw [b4, o3 _ (by omega) (by omega)]; exact ho _ (by omega) (by omega)
  · refine hyes a s c g hr _ (Fr_XF F4 f5 rfT_fin) (Fr_tr f04 f5 (by simp) (fun _ z => z)) (by rw [show sp + (1 + s) = sp + 1 + s by omega]; exact rSt_pop S4) (fun j hj => ?_) (fun j hj hj2 => ?_)
    · show h4.1 145 (t + j) = nI ((wr ++ a).getD j false).toNat
      rw [b4]
      by_cases z : j < wr.length
      · rw [gd_l z, o3 _ (by omega) (by omega)]; exact hm j z
      · rw [gd_r (by omega)]
        have := b3 (j - wr.length) (by omega)
        rw [show t + wr.length + (j - wr.length) = t + j by omega] at this
        exact this
    · show h4.1 145 j = _
      rw [b4, o3 j hj (by omega)]; exact ho j hj (by omega)
theorem rb_take {n x k : Nat} {rx : (Nat → Bool) → Option mc_V} (hP : mPg H0 (some q)) (hn : n < q.2.1.length) (he : (pC q.2.1 n = 5 ∧ k = 0) ∨ pC q.2.1 n = 6) (ex : p1 q.2.1 n = some x) (lx' : x < n) (hx11 : pC q.2.1 x ≠ 11) (hx : RBg sc d df s0 t0 q dp cb H0 post x rx) (lx : RLr q dp cb x rx)
    (a1 : pC q.2.1 n = 6 → k + rws q x = rws q n) (a1b : k + rws q x ≤ rws q n) (a2 : rwt q n = rwt q x) (hwn : rws q n ≤ 2048) (a6 : 1 + dp x ≤ dp n) (a8 : cb x ≤ cb n) (hd1 : ∀ m, 1 ≤ dp m) :
    RBg sc d df s0 t0 q dp cb H0 post n (fun u => match rx (mc_sh u k) with
      | some (a, s1, c1, g1) => some (a, 1 + s1, c1, g1)
      | none => none) := by
  intro h i t fr cn cm fn fm sp E u hF hf hS hB q1 q2 q3 q4 q5 q6 q7 q8 q9 q10 q11 hyes hno
  have hps : q.2.1.length ≤ 400 := (mPg_cd hP hn).2.2.2.2.2.2
  have hdx := hd1 x
  have hown : ownQ q n = 1 := by unfold ownQ ownS; rw [if_neg (by omega), if_neg (by omega), if_neg (by omega)]
  rw [hown] at hS
  have hn11 : pC q.2.1 n ≠ 11 := by omega
  have wsn : wdN q 0 n = nI (rws q n) := if_neg hn11
  have wsx : wdN q 0 x = nI (rws q x) := if_neg hx11
  have cd : ∀ h', Fr rfR rfT H0 h' → h'.1 117 n = nI (pC q.2.1 n) ∧ h'.1 118 n = nI x := fun h' f' => by
    obtain ⟨k1, k2, k3, _⟩ := mPg_cd (mPg_fr hP f') hn
    rw [ex] at k2
    exact ⟨k1, k2⟩
  have hop6 : pC q.2.1 n = 5 ∨ pC q.2.1 n = 6 := by omega
  have htg : (if pC q.2.1 n < 7 then [96, 174, 108, 256, 256, 268, 268].getD (pC q.2.1 n) 0 else 333) = 268 := by
    rcases hop6 with z | z <;> rw [z] <;> rfl
  refine Lp_go (op := pC q.2.1 n) (tg := 268) hF hS (by omega) (by omega) (by decide) (cd h hf).1 htg (by omega) (fun h1 F1 f1 S1 => ?_)
  have f01 : Fr rfR rfT H0 h1 := Fr_tr hf f1 (by simp [rfR]) (by simp)
  obtain ⟨k1', k2'⟩ := cd h1 f01
  have P1 := mPg_fr hP f01
  have fin : ∀ i', i' = i + k → xm_go (XE sc) (xm_T (XE sc) (d + 6)) 226 (PoG sc d df s0 t0 post) 313 [(5, .int (nI t)), (4, .int (nI i)), (3, .int (nI 0)), (2, .int (nI n)), (0, .ref 102)] [.int (nI i'), .int (nI x), .ref 102] h1 := by
    intro i' hi'
    subst hi'
    with_reducible refine xm_go_blk b_X12_goesOn_313 k_X12_goesOn_313 ?_
    refine by_iload rfl ?_
    refine by_inv3 cn_226 lk_12_516 (by rw [xe_cnt]; decide) is_203 np_203 cn_203 (by first | exact rfl | assumption) (Nat.le_of_ble_eq_true rfl) ?_
    refine sp_begin (q := q) F1 P1 (by omega) hx11 (by simp only [List.length_cons]; omega) S1 (fun h2 f2 S2 => ?_)
    have F2 := Fr_XF F1 f2 (by decide +kernel)
    have f02 : Fr rfR rfT H0 h2 := Fr_tr f01 f2 (by simp [rfR]) (by simp [rfT])
    have b2 : h2.1 145 = h.1 145 := by rw [f2.1 145 (by simp)]; exact f1.1 145 (by simp)
    with_reducible refine xm_go_blk b_X12_goesOn_318 k_X12_goesOn_318 ?_
    refine by_goto 331 rfl ?_
    with_reducible refine xm_go_blk b_X12_goesOn_331 k_X12_goesOn_331 ?_
    refine by_iconst ci_1 ?_
    refine by_iret ry_226 (by first | rfl | assumption) ?_
    refine Lp_1 (rb_one (h := h) (n := n) (x := x) (i := i) (i' := i + k) (t := t) (wr := []) (u := mc_sh u k) (rx := rx) hP hn rfl (by omega) htg F2 f02 S2 (fun j hj => ?_) (fun j hj => absurd hj (Nat.not_lt_zero _)) (fun j _ _ => by rw [b2]) hx lx (by omega) (by omega) (by simp; omega) a6 a8 q1 q2 q3 q4 q5 q6 q7 q8 q9 q10 q11 hd1 (fun h3 cm3 fm3 st3 F3 f03 S3 _ hL => ?_) (fun a s c g hr h' F' f' S' b' o' => ?_) (fun hr h' F' f' => ?_))
    · rw [b2]
      have := hB (k + j) (by omega)
      rw [show i + (k + j) = i + k + j by omega] at this
      exact this
    · have s1 := S3.1
      simp only [List.length_cons] at s1
      unfold Gn
      with_reducible refine xm_go_blk b_X12_goesOn_268 k_X12_goesOn_268 ?_
      refine by_iload_n rfl ?_
      refine by_if_ne 321 rfl ?_
      simp (disch := first | exact Nat.ne_of_beq_eq_false rfl | exact rfl | omega) only [nI_add, xa_sub, xa_mul, pk_div, nm_mod, xa_shr, xa_and7, xa_and1, xa_and255, xa_by_and, nI_m1, Nat.add_sub_cancel, Nat.reducePow, Nat.zero_add, Nat.add_zero, Nat.reduceAdd, Nat.reduceMul, Nat.reduceSub, xf_same, xq_ff, xq_fo, xf_1, xf_2, xs_1, xs_2, xs_same, xq_so, xj_1, xj_2, xj_same, xq_jo, xq_sa1, xq_same, xq_other, upd_s, oI_n, oI_s, xv_0, xv_1, xv_2, xv_3, xm_p1, xm_p2, xq_fp, xq_fn, List.filter_nil, Nat.reduceBEq, Bool.not_true, Bool.not_false, Bool.and_true, Bool.and_false, Bool.false_and, Bool.true_and, if_true, if_false, Bool.false_eq_true, reduceIte, xc_i, xc_j, xc_r, xc_n, List.nil_append, List.cons_append, Option.toList_some, Option.toList_none, nI_ltJ, nI_leJ, nI_eqJ, nI_ltz, nI_gez, nI_gtz, nI_lez, nI_eqz, m1_ltz, m1_gez, true_imp_iff, false_imp_iff, true_and, and_true, ne_eq, not_false_eq_true, not_true_eq_false, Nat.reduceEqDiff, Nat.reduceLT, Nat.reduceLeDiff, s1]
      with_reducible refine xm_go_blk b_X12_goesOn_321 k_X12_goesOn_321 ?_
      refine by_aload_n rfl ?_
      refine by_dup rfl ?_
      refine by_getf cn_226 fl_12_494 (by first | exact rfl | assumption) (by decide) ?_
      refine by_iconst ci_1 ?_
      simp (disch := first | exact Nat.ne_of_beq_eq_false rfl | exact rfl | omega) only [nI_add, xa_sub, xa_mul, pk_div, nm_mod, xa_shr, xa_and7, xa_and1, xa_and255, xa_by_and, nI_m1, Nat.add_sub_cancel, Nat.reducePow, Nat.zero_add, Nat.add_zero, Nat.reduceAdd, Nat.reduceMul, Nat.reduceSub, xf_same, xq_ff, xq_fo, xf_1, xf_2, xs_1, xs_2, xs_same, xq_so, xj_1, xj_2, xj_same, xq_jo, xq_sa1, xq_same, xq_other, upd_s, oI_n, oI_s, s1]
      refine by_isub ?_
      refine by_putf cn_226 fl_12_494 (by first | exact rfl | assumption) (by decide) nf_12_74 ft_12_74 (by first | rfl | assumption) (by first | rfl | assumption) ?_
      refine by_nil ?_
      try simp (disch := first | exact Nat.ne_of_beq_eq_false rfl | exact rfl | omega) only [nI_add, xa_sub, xa_mul, pk_div, nm_mod, xa_shr, xa_and7, xa_and1, xa_and255, xa_by_and, nI_m1, Nat.add_sub_cancel, Nat.reducePow, Nat.zero_add, Nat.add_zero, Nat.reduceAdd, Nat.reduceMul, Nat.reduceSub, xf_same, xq_ff, xq_fo, xf_1, xf_2, xs_1, xs_2, xs_same, xq_so, xj_1, xj_2, xj_same, xq_jo, xq_sa1, xq_same, xq_other, upd_s, oI_n, oI_s, xv_0, xv_1, xv_2, xv_3, xm_p1, xm_p2, xq_fp, xq_fn, List.filter_nil, Nat.reduceBEq, Bool.not_true, Bool.not_false, Bool.and_true, Bool.and_false, Bool.false_and, Bool.true_and, if_true, if_false, Bool.false_eq_true, reduceIte, xc_i, xc_j, xc_r, xc_n, List.nil_append, List.cons_append, Option.toList_some, Option.toList_none, s1]
      with_reducible refine xm_go_blk b_X12_goesOn_331 k_X12_goesOn_331 ?_
      refine by_iconst ci_1 ?_
      refine by_iret ry_226 (by first | rfl | assumption) ?_
      exact Lp_1 hL
    · exact hyes a (1 + s) c g (by simp only [hr]) h' F' f' S' b' o'
    · exact hno (by simp only [hr]) h' F' f'
  unfold Gn
  rcases he with ⟨h5, rfl⟩ | h6
  · rw [h5] at k1'
    with_reducible refine xm_go_blk b_X12_goesOn_268 k_X12_goesOn_268 ?_
    refine by_iload_n rfl ?_
    refine by_if_ne 321 rfl ?_
    simp (disch := first | exact Nat.ne_of_beq_eq_false rfl | exact rfl | omega) only [nI_add, xa_sub, xa_mul, pk_div, nm_mod, xa_shr, xa_and7, xa_and1, xa_and255, xa_by_and, nI_m1, Nat.add_sub_cancel, Nat.reducePow, Nat.zero_add, Nat.add_zero, Nat.reduceAdd, Nat.reduceMul, Nat.reduceSub, xf_same, xq_ff, xq_fo, xf_1, xf_2, xs_1, xs_2, xs_same, xq_so, xj_1, xj_2, xj_same, xq_jo, xq_sa1, xq_same, xq_other, upd_s, oI_n, oI_s, xv_0, xv_1, xv_2, xv_3, xm_p1, xm_p2, xq_fp, xq_fn, List.filter_nil, Nat.reduceBEq, Bool.not_true, Bool.not_false, Bool.and_true, Bool.and_false, Bool.false_and, Bool.true_and, if_true, if_false, Bool.false_eq_true, reduceIte, xc_i, xc_j, xc_r, xc_n, List.nil_append, List.cons_append, Option.toList_some, Option.toList_none, nI_ltJ, nI_leJ, nI_eqJ, nI_ltz, nI_gez, nI_gtz, nI_lez, nI_eqz, m1_ltz, m1_gez, true_imp_iff, false_imp_iff, true_and, and_true, ne_eq, not_false_eq_true, not_true_eq_false, Nat.reduceEqDiff, Nat.reduceLT, Nat.reduceLeDiff, xf_102_21 F1, k2', xf_102_20 F1, k1']
    with_reducible refine xm_go_blk b_X12_goesOn_272 k_X12_goesOn_272 ?_
    refine by_aload_n rfl ?_
    refine by_aload_n rfl ?_
    refine by_getf cn_226 fl_12_57 (by first | exact rfl | assumption) (by decide) ?_
    refine by_iload_n rfl ?_
    simp (disch := first | exact Nat.ne_of_beq_eq_false rfl | exact rfl | omega) only [nI_add, xa_sub, xa_mul, pk_div, nm_mod, xa_shr, xa_and7, xa_and1, xa_and255, xa_by_and, nI_m1, Nat.add_sub_cancel, Nat.reducePow, Nat.zero_add, Nat.add_zero, Nat.reduceAdd, Nat.reduceMul, Nat.reduceSub, xf_same, xq_ff, xq_fo, xf_1, xf_2, xs_1, xs_2, xs_same, xq_so, xj_1, xj_2, xj_same, xq_jo, xq_sa1, xq_same, xq_other, upd_s, oI_n, oI_s, xf_102_21 F1, k2', xf_102_20 F1, k1']
    first | refine by_iald (by first | exact rfl | assumption | exact ps_1 hpp | exact ps_2 hpp | exact ps_3 hpp | exact ps_4 hpp | exact ps_5 hpp | exact ps_6 hpp | exact ps_7 hpp | exact ps_8 hpp | exact ps_9 hpp | exact ps_10 hpp | exact ps_11 hpp | exact ps_15 hpp | exact ps_16 hpp | exact ps_17 hpp | exact ps_18 hpp | exact ps_19 hpp | exact ps_21 hpp | exact ps_22 hpp | exact ps_23 hpp | exact ps_24 hpp) ⟨by omega, by omega⟩ ?_ | refine by_tald rfl rfl ⟨by omega, by omega⟩ ?_
    refine by_aload_n rfl ?_
    refine by_getf cn_226 fl_12_54 (by first | exact rfl | assumption) (by decide) ?_
    refine by_iload_n rfl ?_
    simp (disch := first | exact Nat.ne_of_beq_eq_false rfl | exact rfl | omega) only [nI_add, xa_sub, xa_mul, pk_div, nm_mod, xa_shr, xa_and7, xa_and1, xa_and255, xa_by_and, nI_m1, Nat.add_sub_cancel, Nat.reducePow, Nat.zero_add, Nat.add_zero, Nat.reduceAdd, Nat.reduceMul, Nat.reduceSub, xf_same, xq_ff, xq_fo, xf_1, xf_2, xs_1, xs_2, xs_same, xq_so, xj_1, xj_2, xj_same, xq_jo, xq_sa1, xq_same, xq_other, upd_s, oI_n, oI_s, xf_102_21 F1, k2', xf_102_20 F1, k1']
    first | refine by_iald (by first | exact rfl | assumption | exact ps_1 hpp | exact ps_2 hpp | exact ps_3 hpp | exact ps_4 hpp | exact ps_5 hpp | exact ps_6 hpp | exact ps_7 hpp | exact ps_8 hpp | exact ps_9 hpp | exact ps_10 hpp | exact ps_11 hpp | exact ps_15 hpp | exact ps_16 hpp | exact ps_17 hpp | exact ps_18 hpp | exact ps_19 hpp | exact ps_21 hpp | exact ps_22 hpp | exact ps_23 hpp | exact ps_24 hpp) ⟨by omega, by omega⟩ ?_ | refine by_tald rfl rfl ⟨by omega, by omega⟩ ?_
    refine by_iconst ci_5 ?_
    refine by_ic_ne 294 rfl ?_
    simp (disch := first | exact Nat.ne_of_beq_eq_false rfl | exact rfl | omega) only [nI_add, xa_sub, xa_mul, pk_div, nm_mod, xa_shr, xa_and7, xa_and1, xa_and255, xa_by_and, nI_m1, Nat.add_sub_cancel, Nat.reducePow, Nat.zero_add, Nat.add_zero, Nat.reduceAdd, Nat.reduceMul, Nat.reduceSub, xf_same, xq_ff, xq_fo, xf_1, xf_2, xs_1, xs_2, xs_same, xq_so, xj_1, xj_2, xj_same, xq_jo, xq_sa1, xq_same, xq_other, upd_s, oI_n, oI_s, xv_0, xv_1, xv_2, xv_3, xm_p1, xm_p2, xq_fp, xq_fn, List.filter_nil, Nat.reduceBEq, Bool.not_true, Bool.not_false, Bool.and_true, Bool.and_false, Bool.false_and, Bool.true_and, if_true, if_false, Bool.false_eq_true, reduceIte, xc_i, xc_j, xc_r, xc_n, List.nil_append, List.cons_append, Option.toList_some, Option.toList_none, nI_ltJ, nI_leJ, nI_eqJ, nI_ltz, nI_gez, nI_gtz, nI_lez, nI_eqz, m1_ltz, m1_gez, true_imp_iff, false_imp_iff, true_and, and_true, ne_eq, not_false_eq_true, not_true_eq_false, Nat.reduceEqDiff, Nat.reduceLT, Nat.reduceLeDiff, xf_102_21 F1, k2', xf_102_20 F1, k1']
    with_reducible refine xm_go_blk b_X12_goesOn_289 k_X12_goesOn_289 ?_
    refine by_iload rfl ?_
    refine by_goto 313 rfl ?_
    exact xm_go_wk (by simp [Value.category]) (fin i (by omega))
  · rw [h6] at k1'
    have := a1 h6
    with_reducible refine xm_go_blk b_X12_goesOn_268 k_X12_goesOn_268 ?_
    refine by_iload_n rfl ?_
    refine by_if_ne 321 rfl ?_
    simp (disch := first | exact Nat.ne_of_beq_eq_false rfl | exact rfl | omega) only [nI_add, xa_sub, xa_mul, pk_div, nm_mod, xa_shr, xa_and7, xa_and1, xa_and255, xa_by_and, nI_m1, Nat.add_sub_cancel, Nat.reducePow, Nat.zero_add, Nat.add_zero, Nat.reduceAdd, Nat.reduceMul, Nat.reduceSub, xf_same, xq_ff, xq_fo, xf_1, xf_2, xs_1, xs_2, xs_same, xq_so, xj_1, xj_2, xj_same, xq_jo, xq_sa1, xq_same, xq_other, upd_s, oI_n, oI_s, xv_0, xv_1, xv_2, xv_3, xm_p1, xm_p2, xq_fp, xq_fn, List.filter_nil, Nat.reduceBEq, Bool.not_true, Bool.not_false, Bool.and_true, Bool.and_false, Bool.false_and, Bool.true_and, if_true, if_false, Bool.false_eq_true, reduceIte, xc_i, xc_j, xc_r, xc_n, List.nil_append, List.cons_append, Option.toList_some, Option.toList_none, nI_ltJ, nI_leJ, nI_eqJ, nI_ltz, nI_gez, nI_gtz, nI_lez, nI_eqz, m1_ltz, m1_gez, true_imp_iff, false_imp_iff, true_and, and_true, ne_eq, not_false_eq_true, not_true_eq_false, Nat.reduceEqDiff, Nat.reduceLT, Nat.reduceLeDiff, xf_102_21 F1, k2', xf_102_20 F1, k1']
    with_reducible refine xm_go_blk b_X12_goesOn_272 k_X12_goesOn_272 ?_
    refine by_aload_n rfl ?_
    refine by_aload_n rfl ?_
    refine by_getf cn_226 fl_12_57 (by first | exact rfl | assumption) (by decide) ?_
    refine by_iload_n rfl ?_
    simp (disch := first | exact Nat.ne_of_beq_eq_false rfl | exact rfl | omega) only [nI_add, xa_sub, xa_mul, pk_div, nm_mod, xa_shr, xa_and7, xa_and1, xa_and255, xa_by_and, nI_m1, Nat.add_sub_cancel, Nat.reducePow, Nat.zero_add, Nat.add_zero, Nat.reduceAdd, Nat.reduceMul, Nat.reduceSub, xf_same, xq_ff, xq_fo, xf_1, xf_2, xs_1, xs_2, xs_same, xq_so, xj_1, xj_2, xj_same, xq_jo, xq_sa1, xq_same, xq_other, upd_s, oI_n, oI_s, xf_102_21 F1, k2', xf_102_20 F1, k1']
    first | refine by_iald (by first | exact rfl | assumption | exact ps_1 hpp | exact ps_2 hpp | exact ps_3 hpp | exact ps_4 hpp | exact ps_5 hpp | exact ps_6 hpp | exact ps_7 hpp | exact ps_8 hpp | exact ps_9 hpp | exact ps_10 hpp | exact ps_11 hpp | exact ps_15 hpp | exact ps_16 hpp | exact ps_17 hpp | exact ps_18 hpp | exact ps_19 hpp | exact ps_21 hpp | exact ps_22 hpp | exact ps_23 hpp | exact ps_24 hpp) ⟨by omega, by omega⟩ ?_ | refine by_tald rfl rfl ⟨by omega, by omega⟩ ?_
    refine by_aload_n rfl ?_
    refine by_getf cn_226 fl_12_54 (by first | exact rfl | assumption) (by decide) ?_
    refine by_iload_n rfl ?_
    simp (disch := first | exact Nat.ne_of_beq_eq_false rfl | exact rfl | omega) only [nI_add, xa_sub, xa_mul, pk_div, nm_mod, xa_shr, xa_and7, xa_and1, xa_and255, xa_by_and, nI_m1, Nat.add_sub_cancel, Nat.reducePow, Nat.zero_add, Nat.add_zero, Nat.reduceAdd, Nat.reduceMul, Nat.reduceSub, xf_same, xq_ff, xq_fo, xf_1, xf_2, xs_1, xs_2, xs_same, xq_so, xj_1, xj_2, xj_same, xq_jo, xq_sa1, xq_same, xq_other, upd_s, oI_n, oI_s, xf_102_21 F1, k2', xf_102_20 F1, k1']
    first | refine by_iald (by first | exact rfl | assumption | exact ps_1 hpp | exact ps_2 hpp | exact ps_3 hpp | exact ps_4 hpp | exact ps_5 hpp | exact ps_6 hpp | exact ps_7 hpp | exact ps_8 hpp | exact ps_9 hpp | exact ps_10 hpp | exact ps_11 hpp | exact ps_15 hpp | exact ps_16 hpp | exact ps_17 hpp | exact ps_18 hpp | exact ps_19 hpp | exact ps_21 hpp | exact ps_22 hpp | exact ps_23 hpp | exact ps_24 hpp) ⟨by omega, by omega⟩ ?_ | refine by_tald rfl rfl ⟨by omega, by omega⟩ ?_
    refine by_iconst ci_5 ?_
    refine by_ic_ne 294 rfl ?_
    simp (disch := first | exact Nat.ne_of_beq_eq_false rfl | exact rfl | omega) only [nI_add, xa_sub, xa_mul, pk_div, nm_mod, xa_shr, xa_and7, xa_and1, xa_and255, xa_by_and, nI_m1, Nat.add_sub_cancel, Nat.reducePow, Nat.zero_add, Nat.add_zero, Nat.reduceAdd, Nat.reduceMul, Nat.reduceSub, xf_same, xq_ff, xq_fo, xf_1, xf_2, xs_1, xs_2, xs_same, xq_so, xj_1, xj_2, xj_same, xq_jo, xq_sa1, xq_same, xq_other, upd_s, oI_n, oI_s, xv_0, xv_1, xv_2, xv_3, xm_p1, xm_p2, xq_fp, xq_fn, List.filter_nil, Nat.reduceBEq, Bool.not_true, Bool.not_false, Bool.and_true, Bool.and_false, Bool.false_and, Bool.true_and, if_true, if_false, Bool.false_eq_true, reduceIte, xc_i, xc_j, xc_r, xc_n, List.nil_append, List.cons_append, Option.toList_some, Option.toList_none, nI_ltJ, nI_leJ, nI_eqJ, nI_ltz, nI_gez, nI_gtz, nI_lez, nI_eqz, m1_ltz, m1_gez, true_imp_iff, false_imp_iff, true_and, and_true, ne_eq, not_false_eq_true, not_true_eq_false, Nat.reduceEqDiff, Nat.reduceLT, Nat.reduceLeDiff, xf_102_21 F1, k2', xf_102_20 F1, k1']
    with_reducible refine xm_go_blk b_X12_goesOn_294 k_X12_goesOn_294 ?_
    refine by_iload rfl ?_
    refine by_aload_n rfl ?_
    refine by_iload_n rfl ?_
    refine by_inv1 cn_226 lk_12_403 (by rw [xe_cnt]; decide) is_295 np_295 cn_295 (by first | exact rfl | assumption) (Nat.le_of_ble_eq_true rfl) ?_
    refine sp_msw F1 P1 hn ?_
    rw [wsn]
    with_reducible refine xm_go_blk b_X12_goesOn_301 k_X12_goesOn_301 ?_
    refine by_iadd ?_
    refine by_aload_n rfl ?_
    refine by_aload_n rfl ?_
    refine by_getf cn_226 fl_12_57 (by first | exact rfl | assumption) (by decide) ?_
    refine by_iload_n rfl ?_
    simp (disch := first | exact Nat.ne_of_beq_eq_false rfl | exact rfl | omega) only [nI_add, xa_sub, xa_mul, pk_div, nm_mod, xa_shr, xa_and7, xa_and1, xa_and255, xa_by_and, nI_m1, Nat.add_sub_cancel, Nat.reducePow, Nat.zero_add, Nat.add_zero, Nat.reduceAdd, Nat.reduceMul, Nat.reduceSub, xf_same, xq_ff, xq_fo, xf_1, xf_2, xs_1, xs_2, xs_same, xq_so, xj_1, xj_2, xj_same, xq_jo, xq_sa1, xq_same, xq_other, upd_s, oI_n, oI_s, xf_102_21 F1, k2']
    first | refine by_iald (by first | exact rfl | assumption | exact ps_1 hpp | exact ps_2 hpp | exact ps_3 hpp | exact ps_4 hpp | exact ps_5 hpp | exact ps_6 hpp | exact ps_7 hpp | exact ps_8 hpp | exact ps_9 hpp | exact ps_10 hpp | exact ps_11 hpp | exact ps_15 hpp | exact ps_16 hpp | exact ps_17 hpp | exact ps_18 hpp | exact ps_19 hpp | exact ps_21 hpp | exact ps_22 hpp | exact ps_23 hpp | exact ps_24 hpp) ⟨by omega, by omega⟩ ?_ | refine by_tald rfl rfl ⟨by omega, by omega⟩ ?_
    simp (disch := first | exact Nat.ne_of_beq_eq_false rfl | exact rfl | omega) only [nI_add, xa_sub, xa_mul, pk_div, nm_mod, xa_shr, xa_and7, xa_and1, xa_and255, xa_by_and, nI_m1, Nat.add_sub_cancel, Nat.reducePow, Nat.zero_add, Nat.add_zero, Nat.reduceAdd, Nat.reduceMul, Nat.reduceSub, xf_same, xq_ff, xq_fo, xf_1, xf_2, xs_1, xs_2, xs_same, xq_so, xj_1, xj_2, xj_same, xq_jo, xq_sa1, xq_same, xq_other, upd_s, oI_n, oI_s, xv_0, xv_1, xv_2, xv_3, xm_p1, xm_p2, xq_fp, xq_fn, List.filter_nil, Nat.reduceBEq, Bool.not_true, Bool.not_false, Bool.and_true, Bool.and_false, Bool.false_and, Bool.true_and, if_true, if_false, Bool.false_eq_true, reduceIte, xc_i, xc_j, xc_r, xc_n, List.nil_append, List.cons_append, Option.toList_some, Option.toList_none, xf_102_21 F1, k2']
    refine by_inv1 cn_226 lk_12_403 (by rw [xe_cnt]; decide) is_295 np_295 cn_295 (by first | exact rfl | assumption) (Nat.le_of_ble_eq_true rfl) ?_
    refine sp_msw F1 P1 (by omega) ?_
    rw [wsx]
    with_reducible refine xm_go_blk b_X12_goesOn_312 k_X12_goesOn_312 ?_
    refine by_isub ?_
    refine by_nil ?_
    try simp (disch := first | exact Nat.ne_of_beq_eq_false rfl | exact rfl | omega) only [nI_add, xa_sub, xa_mul, pk_div, nm_mod, xa_shr, xa_and7, xa_and1, xa_and255, xa_by_and, nI_m1, Nat.add_sub_cancel, Nat.reducePow, Nat.zero_add, Nat.add_zero, Nat.reduceAdd, Nat.reduceMul, Nat.reduceSub, xf_same, xq_ff, xq_fo, xf_1, xf_2, xs_1, xs_2, xs_same, xq_so, xj_1, xj_2, xj_same, xq_jo, xq_sa1, xq_same, xq_other, upd_s, oI_n, oI_s, xv_0, xv_1, xv_2, xv_3, xm_p1, xm_p2, xq_fp, xq_fn, List.filter_nil, Nat.reduceBEq, Bool.not_true, Bool.not_false, Bool.and_true, Bool.and_false, Bool.false_and, Bool.true_and, if_true, if_false, Bool.false_eq_true, reduceIte, xc_i, xc_j, xc_r, xc_n, List.nil_append, List.cons_append, Option.toList_some, Option.toList_none]
    exact xm_go_wk (by simp [Value.category]) (fin _ (by omega))
end RB
