/-! ===== the reference's machine works a node: leaves; any node ===== -/
theorem bv_n {b : Nat} (hb : b < 2) : vp_nar .byte (nI b) = nI b := by
  rcases (by omega : b = 0 ∨ b = 1) with e | e <;> subst e <;> decide
section RB
variable {sc : xm_Sc} {d df s0 t0 : Nat} {q : PgD} {H0 : xm_H} {post : xm_Po} {dp cb : Nat → Nat}
/-- a leaf: what is written -/
theorem rb_leaf {n op : Nat} {rl : (Nat → Bool) → List Bool} (hP : mPg H0 (some q)) (hn : n < q.2.1.length) (he : pC q.2.1 n = op) (hop : 7 ≤ op) (hd1 : ∀ m, 1 ≤ dp m) (hlen : ∀ u, (rl u).length = rwt q n)
    (hgo : ∀ (h : xm_H) (i t fr cn cm fn fm st : Nat) (E : List rm_F) (u : Nat → Bool), XF h → Fr rfR rfT H0 h → rSt h E fr cn cm fn fm st → rBt h i (rws q n) u → i + rws q n ≤ fr → t + rwt q n ≤ fr → (i + rws q n ≤ t ∨ t + rwt q n ≤ i) → fr ≤ 824000 → (∀ h', XF h' → Fr [145] [] h h' → rBt h' t (rwt q n) (mc_ex (rl u)) → (∀ j, j < fr → (j < t ∨ t + rwt q n ≤ j) → h'.1 145 j = h.1 145 j) → Lp sc d df s0 t0 post h') → xm_T (XE sc) (d + 6) 249 [.ref 102, .int (nI n), .int (nI i), .int (nI t)] h (fun r h' => xm_go (XE sc) (xm_T (XE sc) (d + 6)) 226 (PoG sc d df s0 t0 post) 352 [(5, .int (nI t)), (4, .int (nI i)), (3, .int (nI 0)), (2, .int (nI n)), (0, .ref 102)] (r.toList ++ []) h')) :
    RBg sc d df s0 t0 q dp cb H0 post n (fun u => some (rl u, ownQ q n, 0, 0)) := by
  intro h i t fr cn cm fn fm sp E u hF hf hS hB q1 q2 q3 q4 q5 q6 q7 q8 q9 q10 q11 hyes hno
  have hps : q.2.1.length ≤ 400 := (mPg_cd hP hn).2.2.2.2.2.2
  have h12 : op ≤ 12 := by rw [← he]; exact (mPg_cd hP hn).2.2.2.2.2.1
  have hdn := hd1 n
  have k1 : h.1 117 n = nI op := by rw [← he]; exact (mPg_cd (mPg_fr hP hf) hn).1
  refine Lp_go (op := op) (tg := 333) hF hS (by omega) (by omega) (by decide) k1 (by rw [if_neg (by omega)]) h12 (fun h1 F1 f1 S1 => ?_)
  have f01 : Fr rfR rfT H0 h1 := Fr_tr hf f1 (by simp [rfR]) (by simp)
  have s1 := S1.1
  simp only [List.length_cons] at s1
  unfold Gn
  with_reducible refine xm_go_blk b_X12_goesOn_333 k_X12_goesOn_333 ?_
  refine by_aload_n rfl ?_
  refine by_dup rfl ?_
  refine by_getf cn_226 fl_12_494 (by first | exact rfl | assumption) (by decide) ?_
  refine by_iconst ci_1 ?_
  simp (disch := first | exact Nat.ne_of_beq_eq_false rfl | exact rfl | omega) only [nI_add, xa_sub, xa_mul, pk_div, nm_mod, xa_shr, xa_and7, xa_and1, xa_and255, xa_by_and, nI_m1, Nat.add_sub_cancel, Nat.reducePow, Nat.zero_add, Nat.add_zero, Nat.reduceAdd, Nat.reduceMul, Nat.reduceSub, xf_same, xq_ff, xq_fo, xf_1, xf_2, xs_1, xs_2, xs_same, xq_so, xj_1, xj_2, xj_same, xq_jo, xq_sa1, xq_same, xq_other, upd_s, oI_n, oI_s, s1]
  refine by_isub ?_
  refine by_putf cn_226 fl_12_494 (by first | exact rfl | assumption) (by decide) nf_12_74 ft_12_74 (by first | rfl | assumption) (by first | rfl | assumption) ?_
  refine by_aload_n rfl ?_
  refine by_iload_n rfl ?_
  refine by_iload rfl ?_
  refine by_iload rfl ?_
  simp (disch := first | exact Nat.ne_of_beq_eq_false rfl | exact rfl | omega) only [nI_add, xa_sub, xa_mul, pk_div, nm_mod, xa_shr, xa_and7, xa_and1, xa_and255, xa_by_and, nI_m1, Nat.add_sub_cancel, Nat.reducePow, Nat.zero_add, Nat.add_zero, Nat.reduceAdd, Nat.reduceMul, Nat.reduceSub, xf_same, xq_ff, xq_fo, xf_1, xf_2, xs_1, xs_2, xs_same, xq_so, xj_1, xj_2, xj_same, xq_jo, xq_sa1, xq_same, xq_other, upd_s, oI_n, oI_s, xv_0, xv_1, xv_2, xv_3, xm_p1, xm_p2, xq_fp, xq_fn, List.filter_nil, Nat.reduceBEq, Bool.not_true, Bool.not_false, Bool.and_true, Bool.and_false, Bool.false_and, Bool.true_and, if_true, if_false, Bool.false_eq_true, reduceIte, xc_i, xc_j, xc_r, xc_n, List.nil_append, List.cons_append, Option.toList_some, Option.toList_none, s1]
  refine by_inv3 cn_226 lk_12_526 (by rw [xe_cnt]; decide) is_249 np_249 cn_249 (by first | exact rfl | assumption) (Nat.le_of_ble_eq_true rfl) ?_
  have f2 : Fr [] rfT h1 (xm_sf h1 102 74 (.int (nI E.length))) := Fr_sf Fr_rf (by simp [rfT])
  have F2 := Fr_XF F1 f2 rfT_fin
  have f02 : Fr rfR rfT H0 (xm_sf h1 102 74 (.int (nI E.length))) := Fr_tr f01 f2 (by simp) (fun _ z => z)
  have b2 : (xm_sf h1 102 74 (.int (nI E.length))).1 145 = h.1 145 := f1.1 145 (by simp)
  refine hgo _ i t fr cn cm fn fm _ E u F2 f02 (rSt_pop S1) (fun j hj => by rw [b2]; exact hB j hj) q1 q2 q3 (by omega) (fun h3 F3 f3 b3 o3 => ?_)
  refine hyes _ _ 0 0 rfl h3 F3 (Fr_tr f02 f3 (by simp [rfR]) (by simp)) ?_ b3 (fun j hj hj2 => by rw [o3 j hj hj2, b2])
  rw [Nat.max_eq_left (by omega), Nat.max_eq_left (by omega)]
  exact rSt_fr (rSt_pop S1) f3 (by simp) (by simp) (by simp) (by simp)
theorem rb_iden {n : Nat} (hP : mPg H0 (some q)) (hn : n < q.2.1.length) (he : pC q.2.1 n = 7) (hw : rwt q n = rws q n) (hd1 : ∀ m, 1 ≤ dp m) : RBg sc d df s0 t0 q dp cb H0 post n (fun u => some (mc_rd u 0 (rws q n), ownQ q n, 0, 0)) := by
  have hps : q.2.1.length ≤ 400 := (mPg_cd hP hn).2.2.2.2.2.2
  have h11 : pC q.2.1 n ≠ 11 := by omega
  have hws : rws q n ≤ 2048 := mPg_w (tb := 0) hP hn h11
  have wsn : wdN q 0 n = nI (rws q n) := if_neg h11
  refine rb_leaf hP hn he (by decide) hd1 (fun u => by rw [mc_rd_len, hw]) (fun h i t fr cn cm fn fm st E u hF hf hS hB q1 q2 q3 q4 hk => ?_)
  have k1 : h.1 117 n = nI 7 := by rw [← he]; exact (mPg_cd (mPg_fr hP hf) hn).1
  have key : ∀ (y z : Nat) (h2 : xm_H), z + y = rws q n → Fr [145] [] h h2 → (∀ j, j < z → h2.1 145 (t + j) = nI (u j).toNat) → (∀ j, (j < t ∨ t + z ≤ j) → h2.1 145 j = h.1 145 j) → xm_go (XE sc) (xm_T (XE sc) (d + 5)) 249 (fun r h' => xm_go (XE sc) (xm_T (XE sc) (d + 6)) 226 (PoG sc d df s0 t0 post) 352 [(5, .int (nI t)), (4, .int (nI i)), (3, .int (nI 0)), (2, .int (nI n)), (0, .ref 102)] (r.toList ++ []) h') 43 [(4, .int (nI z)), (0, .ref 102), (1, .int (nI n)), (2, .int (nI i)), (3, .int (nI t))] [] h2 := by
    intro y
    induction y with
    | zero =>
      intro z h2 hz f2 b2 o2
      have : z = rws q n := by omega
      subst this
      have F2 := Fr_XF hF f2 (by decide +kernel)
      have f02 : Fr rfR rfT H0 h2 := Fr_tr hf f2 (by simp [rfR]) (by simp)
      with_reducible refine xm_go_blk b_X12_leafOf_43 k_X12_leafOf_43 ?_
      refine by_iload rfl ?_
      refine by_aload_n rfl ?_
      refine by_iload_n rfl ?_
      refine by_inv1 cn_249 lk_12_403 (by rw [xe_cnt]; decide) is_295 np_295 cn_295 (by first | exact rfl | assumption) (Nat.le_of_ble_eq_true rfl) ?_
      refine sp_msw F2 (mPg_fr hP f02) hn ?_
      rw [wsn]
      with_reducible refine xm_go_blk b_X12_leafOf_50 k_X12_leafOf_50 ?_
      refine by_ic_ge 77 rfl ?_
      simp (disch := first | exact Nat.ne_of_beq_eq_false rfl | exact rfl | omega) only [nI_add, xa_sub, xa_mul, pk_div, nm_mod, xa_shr, xa_and7, xa_and1, xa_and255, xa_by_and, nI_m1, Nat.add_sub_cancel, Nat.reducePow, Nat.zero_add, Nat.add_zero, Nat.reduceAdd, Nat.reduceMul, Nat.reduceSub, xf_same, xq_ff, xq_fo, xf_1, xf_2, xs_1, xs_2, xs_same, xq_so, xj_1, xj_2, xj_same, xq_jo, xq_sa1, xq_same, xq_other, upd_s, oI_n, oI_s, xv_0, xv_1, xv_2, xv_3, xm_p1, xm_p2, xq_fp, xq_fn, List.filter_nil, Nat.reduceBEq, Bool.not_true, Bool.not_false, Bool.and_true, Bool.and_false, Bool.false_and, Bool.true_and, if_true, if_false, Bool.false_eq_true, reduceIte, xc_i, xc_j, xc_r, xc_n, List.nil_append, List.cons_append, Option.toList_some, Option.toList_none, nI_ltJ, nI_leJ, nI_eqJ, nI_ltz, nI_gez, nI_gtz, nI_lez, nI_eqz, m1_ltz, m1_gez, true_imp_iff, false_imp_iff, true_and, and_true, ne_eq, not_false_eq_true, not_true_eq_false, Nat.reduceEqDiff, Nat.reduceLT, Nat.reduceLeDiff]
      refine ⟨fun c50 => ?_, fun c => absurd (by omega) c⟩
      with_reducible refine xm_go_blk b_X12_leafOf_77 k_X12_leafOf_77 ?_
      refine by_iconst ci_1 ?_
      refine by_iret ry_249 (by first | rfl | assumption) ?_
      with_reducible refine xm_go_blk b_X12_goesOn_352 k_X12_goesOn_352 ?_
      refine by_iret ry_226 (by first | rfl | assumption) ?_
      refine Lp_1 (hk h2 F2 f2 (fun j hj => ?_) (fun j hj hj2 => o2 j (by omega)))
      rw [b2 j (by omega)]
      show _ = nI ((mc_rd u 0 (rws q n)).getD j false).toNat
      rw [mc_rd_get u 0 (by omega), Nat.zero_add]
    | succ y ih =>
      intro z h2 hz f2 b2 o2
      have F2 := Fr_XF hF f2 (by decide +kernel)
      have f02 : Fr rfR rfT H0 h2 := Fr_tr hf f2 (by simp [rfR]) (by simp)
      have eb : h2.1 145 (i + z) = nI (u z).toNat := by rw [o2 _ (by omega)]; exact hB z (by omega)
      have eu : (u z).toNat < 2 := by cases u z <;> decide
      have en := bv_n eu
      with_reducible refine xm_go_blk b_X12_leafOf_43 k_X12_leafOf_43 ?_
      refine by_iload rfl ?_
      refine by_aload_n rfl ?_
      refine by_iload_n rfl ?_
      refine by_inv1 cn_249 lk_12_403 (by rw [xe_cnt]; decide) is_295 np_295 cn_295 (by first | exact rfl | assumption) (Nat.le_of_ble_eq_true rfl) ?_
      refine sp_msw F2 (mPg_fr hP f02) hn ?_
      rw [wsn]
      with_reducible refine xm_go_blk b_X12_leafOf_50 k_X12_leafOf_50 ?_
      refine by_ic_ge 77 rfl ?_
      simp (disch := first | exact Nat.ne_of_beq_eq_false rfl | exact rfl | omega) only [nI_add, xa_sub, xa_mul, pk_div, nm_mod, xa_shr, xa_and7, xa_and1, xa_and255, xa_by_and, nI_m1, Nat.add_sub_cancel, Nat.reducePow, Nat.zero_add, Nat.add_zero, Nat.reduceAdd, Nat.reduceMul, Nat.reduceSub, xf_same, xq_ff, xq_fo, xf_1, xf_2, xs_1, xs_2, xs_same, xq_so, xj_1, xj_2, xj_same, xq_jo, xq_sa1, xq_same, xq_other, upd_s, oI_n, oI_s, xv_0, xv_1, xv_2, xv_3, xm_p1, xm_p2, xq_fp, xq_fn, List.filter_nil, Nat.reduceBEq, Bool.not_true, Bool.not_false, Bool.and_true, Bool.and_false, Bool.false_and, Bool.true_and, if_true, if_false, Bool.false_eq_true, reduceIte, xc_i, xc_j, xc_r, xc_n, List.nil_append, List.cons_append, Option.toList_some, Option.toList_none, nI_ltJ, nI_leJ, nI_eqJ, nI_ltz, nI_gez, nI_gtz, nI_lez, nI_eqz, m1_ltz, m1_gez, true_imp_iff, false_imp_iff, true_and, and_true, ne_eq, not_false_eq_true, not_true_eq_false, Nat.reduceEqDiff, Nat.reduceLT, Nat.reduceLeDiff, xf_102_58 F2, eb, en]
      refine ⟨fun c => absurd c (by omega), fun c50 => ?_⟩
      with_reducible refine xm_go_blk b_X12_leafOf_53 k_X12_leafOf_53 ?_
      refine by_aload_n rfl ?_
      refine by_getf cn_249 fl_12_141 (by first | exact rfl | assumption) (by decide) ?_
      refine by_iload_n rfl ?_
      refine by_iload rfl ?_
      refine by_iadd ?_
      refine by_aload_n rfl ?_
      refine by_getf cn_249 fl_12_141 (by first | exact rfl | assumption) (by decide) ?_
      refine by_iload_n rfl ?_
      refine by_iload rfl ?_
      refine by_iadd ?_
      simp (disch := first | exact Nat.ne_of_beq_eq_false rfl | exact rfl | omega) only [nI_add, xa_sub, xa_mul, pk_div, nm_mod, xa_shr, xa_and7, xa_and1, xa_and255, xa_by_and, nI_m1, Nat.add_sub_cancel, Nat.reducePow, Nat.zero_add, Nat.add_zero, Nat.reduceAdd, Nat.reduceMul, Nat.reduceSub, xf_same, xq_ff, xq_fo, xf_1, xf_2, xs_1, xs_2, xs_same, xq_so, xj_1, xj_2, xj_same, xq_jo, xq_sa1, xq_same, xq_other, upd_s, oI_n, oI_s, xf_102_58 F2, eb, en]
      first | refine by_bald (Or.inl rfl) (by first | exact rfl | assumption | exact ps_13 hpp) ⟨by omega, by omega⟩ ?_ | refine by_bald (Or.inr rfl) (by first | exact rfl | assumption | exact ps_20 hpp) ⟨by omega, by omega⟩ ?_
      first | refine by_bast (by first | exact rfl | assumption | exact ps_13 hpp) ⟨by omega, by omega⟩ ?_ | refine by_zast (by first | exact rfl | assumption | exact ps_20 hpp) ⟨by omega, by omega⟩ ?_
      refine by_iinc (by rw [ml_249]; decide) rfl ci_1 ?_
      refine by_goto 43 rfl ?_
      try simp (disch := first | exact Nat.ne_of_beq_eq_false rfl | exact rfl | omega) only [nI_add, xa_sub, xa_mul, pk_div, nm_mod, xa_shr, xa_and7, xa_and1, xa_and255, xa_by_and, nI_m1, Nat.add_sub_cancel, Nat.reducePow, Nat.zero_add, Nat.add_zero, Nat.reduceAdd, Nat.reduceMul, Nat.reduceSub, xf_same, xq_ff, xq_fo, xf_1, xf_2, xs_1, xs_2, xs_same, xq_so, xj_1, xj_2, xj_same, xq_jo, xq_sa1, xq_same, xq_other, upd_s, oI_n, oI_s, xv_0, xv_1, xv_2, xv_3, xm_p1, xm_p2, xq_fp, xq_fn, List.filter_nil, Nat.reduceBEq, Bool.not_true, Bool.not_false, Bool.and_true, Bool.and_false, Bool.false_and, Bool.true_and, if_true, if_false, Bool.false_eq_true, reduceIte, xc_i, xc_j, xc_r, xc_n, List.nil_append, List.cons_append, Option.toList_some, Option.toList_none, xf_102_58 F2, eb, en]
      refine xm_go_wk (by simp [Value.category]) (ih (z + 1) _ (by omega) (Fr_si f2 (by simp)) (fun j hj => ?_) (fun j hj => ?_))
      · by_cases e : j = z
        · subst e; simp only [xm_si, upd, if_true]
        · have hne : t + j ≠ t + z := by omega
          simp only [xm_si, upd, if_true, if_neg hne]; exact b2 j (by omega)
      · have hne : j ≠ t + z := by omega
        simp only [xm_si, upd, if_true, if_neg hne]; exact o2 j (by omega)
  refine xq_in rfl ?_
  simp only [xq_a0, xq_aI, xq_aJ, xq_aR, Nat.reduceAdd]
  with_reducible refine xm_go_blk b_X12_leafOf_0 k_X12_leafOf_0 ?_
  refine by_aload_n rfl ?_
  refine by_getf cn_249 fl_12_54 (by first | exact rfl | assumption) (by decide) ?_
  refine by_iload_n rfl ?_
  simp (disch := first | exact Nat.ne_of_beq_eq_false rfl | exact rfl | omega) only [nI_add, xa_sub, xa_mul, pk_div, nm_mod, xa_shr, xa_and7, xa_and1, xa_and255, xa_by_and, nI_m1, Nat.add_sub_cancel, Nat.reducePow, Nat.zero_add, Nat.add_zero, Nat.reduceAdd, Nat.reduceMul, Nat.reduceSub, xf_same, xq_ff, xq_fo, xf_1, xf_2, xs_1, xs_2, xs_same, xq_so, xj_1, xj_2, xj_same, xq_jo, xq_sa1, xq_same, xq_other, upd_s, oI_n, oI_s, xf_102_20 hF, k1]
  first | refine by_iald (by first | exact rfl | assumption | exact ps_1 hpp | exact ps_2 hpp | exact ps_3 hpp | exact ps_4 hpp | exact ps_5 hpp | exact ps_6 hpp | exact ps_7 hpp | exact ps_8 hpp | exact ps_9 hpp | exact ps_10 hpp | exact ps_11 hpp | exact ps_15 hpp | exact ps_16 hpp | exact ps_17 hpp | exact ps_18 hpp | exact ps_19 hpp | exact ps_21 hpp | exact ps_22 hpp | exact ps_23 hpp | exact ps_24 hpp) ⟨by omega, by omega⟩ ?_ | refine by_tald rfl rfl ⟨by omega, by omega⟩ ?_
  simp (disch := first | exact Nat.ne_of_beq_eq_false rfl | exact rfl | omega) only [nI_add, xa_sub, xa_mul, pk_div, nm_mod, xa_shr, xa_and7, xa_and1, xa_and255, xa_by_and, nI_m1, Nat.add_sub_cancel, Nat.reducePow, Nat.zero_add, Nat.add_zero, Nat.reduceAdd, Nat.reduceMul, Nat.reduceSub, xf_same, xq_ff, xq_fo, xf_1, xf_2, xs_1, xs_2, xs_same, xq_so, xj_1, xj_2, xj_same, xq_jo, xq_sa1, xq_same, xq_other, upd_s, oI_n, oI_s, xf_102_20 hF, k1]
  refine by_lsw ?_
  refine ⟨by decide, by_to 40 (by decide) ?_⟩
  with_reducible refine xm_go_blk b_X12_leafOf_40 k_X12_leafOf_40 ?_
  refine by_iconst ci_0 ?_
  refine by_istore (by rw [ml_249]; decide) ?_
  refine by_nil ?_
  try simp (disch := first | exact Nat.ne_of_beq_eq_false rfl | exact rfl | omega) only [nI_add, xa_sub, xa_mul, pk_div, nm_mod, xa_shr, xa_and7, xa_and1, xa_and255, xa_by_and, nI_m1, Nat.add_sub_cancel, Nat.reducePow, Nat.zero_add, Nat.add_zero, Nat.reduceAdd, Nat.reduceMul, Nat.reduceSub, xf_same, xq_ff, xq_fo, xf_1, xf_2, xs_1, xs_2, xs_same, xq_so, xj_1, xj_2, xj_same, xq_jo, xq_sa1, xq_same, xq_other, upd_s, oI_n, oI_s, xv_0, xv_1, xv_2, xv_3, xm_p1, xm_p2, xq_fp, xq_fn, List.filter_nil, Nat.reduceBEq, Bool.not_true, Bool.not_false, Bool.and_true, Bool.and_false, Bool.false_and, Bool.true_and, if_true, if_false, Bool.false_eq_true, reduceIte, xc_i, xc_j, xc_r, xc_n, List.nil_append, List.cons_append, Option.toList_some, Option.toList_none, xf_102_20 hF, k1]
  exact xm_go_wk (by simp [Value.category]) (key (rws q n) 0 h (by omega) Fr_rf (fun j hj => absurd hj (Nat.not_lt_zero _)) (fun j _ => rfl))
theorem rb_wit {n k : Nat} {l : List Nat} (hP : mPg H0 (some q)) (hn : n < q.2.1.length) (he : pC q.2.1 n = 10) (hl : mrow H0 128 l) (ek : wtB q + wsum (pC q.2.1) q.2.2.2.2 n = k) (hk8 : k + rwt q n ≤ 8 * l.length) (hd1 : ∀ m, 1 ≤ dp m) : RBg sc d df s0 t0 q dp cb H0 post n (fun _ => some (mc_rd (byB l) k (rwt q n), ownQ q n, 0, 0)) := by
  have hps : q.2.1.length ≤ 400 := (mPg_cd hP hn).2.2.2.2.2.2
  have h11 : pC q.2.1 n ≠ 11 := by omega
  have hwt : rwt q n ≤ 2048 := mPg_w (tb := 1) hP hn h11
  have wtn : wdN q 1 n = nI (rwt q n) := if_neg h11
  have hl8 := hl.2.2
  refine rb_leaf hP hn he (by decide) hd1 (fun u => by rw [mc_rd_len]) (fun h i t fr cn cm fn fm st E u hF hf hS hB q1 q2 q3 q4 hk => ?_)
  have k1 : h.1 117 n = nI 10 := by rw [← he]; exact (mPg_cd (mPg_fr hP hf) hn).1
  have k5 : ∀ h2, Fr [145] [] h h2 → h2.1 152 n = nI k := fun h2 f2 => by
    rw [f2.1 152 (by simp), ← ek]; exact (mPg_cd (mPg_fr hP hf) hn).2.2.2.2.1
  have key : ∀ (y z : Nat) (h2 : xm_H), z + y = rwt q n → Fr [145] [] h h2 → (∀ j, j < z → h2.1 145 (t + j) = nI (by_bit l (k + j))) → (∀ j, (j < t ∨ t + z ≤ j) → h2.1 145 j = h.1 145 j) → xm_go (XE sc) (xm_T (XE sc) (d + 5)) 249 (fun r h' => xm_go (XE sc) (xm_T (XE sc) (d + 6)) 226 (PoG sc d df s0 t0 post) 352 [(5, .int (nI t)), (4, .int (nI i)), (3, .int (nI 0)), (2, .int (nI n)), (0, .ref 102)] (r.toList ++ []) h') 82 [(4, .int (nI z)), (0, .ref 102), (1, .int (nI n)), (2, .int (nI i)), (3, .int (nI t))] [] h2 := by
    intro y
    induction y with
    | zero =>
      intro z h2 hz f2 b2 o2
      have : z = rwt q n := by omega
      subst this
      have F2 := Fr_XF hF f2 (by decide +kernel)
      have f02 : Fr rfR rfT H0 h2 := Fr_tr hf f2 (by simp [rfR]) (by simp)
      with_reducible refine xm_go_blk b_X12_leafOf_82 k_X12_leafOf_82 ?_
      refine by_iload rfl ?_
      refine by_aload_n rfl ?_
      refine by_iload_n rfl ?_
      refine by_inv1 cn_249 lk_12_400 (by rw [xe_cnt]; decide) is_306 np_306 cn_306 (by first | exact rfl | assumption) (Nat.le_of_ble_eq_true rfl) ?_
      refine sp_mtw F2 (mPg_fr hP f02) hn ?_
      rw [wtn]
      with_reducible refine xm_go_blk b_X12_leafOf_89 k_X12_leafOf_89 ?_
      refine by_ic_ge 143 rfl ?_
      simp (disch := first | exact Nat.ne_of_beq_eq_false rfl | exact rfl | omega) only [nI_add, xa_sub, xa_mul, pk_div, nm_mod, xa_shr, xa_and7, xa_and1, xa_and255, xa_by_and, nI_m1, Nat.add_sub_cancel, Nat.reducePow, Nat.zero_add, Nat.add_zero, Nat.reduceAdd, Nat.reduceMul, Nat.reduceSub, xf_same, xq_ff, xq_fo, xf_1, xf_2, xs_1, xs_2, xs_same, xq_so, xj_1, xj_2, xj_same, xq_jo, xq_sa1, xq_same, xq_other, upd_s, oI_n, oI_s, xv_0, xv_1, xv_2, xv_3, xm_p1, xm_p2, xq_fp, xq_fn, List.filter_nil, Nat.reduceBEq, Bool.not_true, Bool.not_false, Bool.and_true, Bool.and_false, Bool.false_and, Bool.true_and, if_true, if_false, Bool.false_eq_true, reduceIte, xc_i, xc_j, xc_r, xc_n, List.nil_append, List.cons_append, Option.toList_some, Option.toList_none, nI_ltJ, nI_leJ, nI_eqJ, nI_ltz, nI_gez, nI_gtz, nI_lez, nI_eqz, m1_ltz, m1_gez, true_imp_iff, false_imp_iff, true_and, and_true, ne_eq, not_false_eq_true, not_true_eq_false, Nat.reduceEqDiff, Nat.reduceLT, Nat.reduceLeDiff]
      refine ⟨fun c89 => ?_, fun c => absurd (by omega) c⟩
      with_reducible refine xm_go_blk b_X12_leafOf_143 k_X12_leafOf_143 ?_
      refine by_iconst ci_1 ?_
      refine by_iret ry_249 (by first | rfl | assumption) ?_
      with_reducible refine xm_go_blk b_X12_goesOn_352 k_X12_goesOn_352 ?_
      refine by_iret ry_226 (by first | rfl | assumption) ?_
      refine Lp_1 (hk h2 F2 f2 (fun j hj => ?_) (fun j hj hj2 => o2 j (by omega)))
      rw [b2 j hj]
      show _ = nI ((mc_rd (byB l) k (rwt q n)).getD j false).toNat
      rw [mc_rd_get _ _ hj, byB_n]
    | succ y ih =>
      intro z h2 hz f2 b2 o2
      have F2 := Fr_XF hF f2 (by decide +kernel)
      have f02 : Fr rfR rfT H0 h2 := Fr_tr hf f2 (by simp [rfR]) (by simp)
      have ek2 := k5 h2 f2
      have el : h2.1 128 ((k + z) / 8) = nI (l.getD ((k + z) / 8) 0) := by rw [f02.1 128 (by simp [rfR])]; exact hl.1 _ (by omega)
      have ell : l.getD ((k + z) / 8) 0 < 256 := hl.2.1 _ (by omega)
      have en : vp_nar .byte ((nI (l.getD ((k + z) / 8) 0 / 2 ^ (7 - (k + z) % 8) % 2)).toInt8.toInt32) = nI (by_bit l (k + z)) := bb_n (by_bit_lt l (k + z))
      with_reducible refine xm_go_blk b_X12_leafOf_82 k_X12_leafOf_82 ?_
      refine by_iload rfl ?_
      refine by_aload_n rfl ?_
      refine by_iload_n rfl ?_
      refine by_inv1 cn_249 lk_12_400 (by rw [xe_cnt]; decide) is_306 np_306 cn_306 (by first | exact rfl | assumption) (Nat.le_of_ble_eq_true rfl) ?_
      refine sp_mtw F2 (mPg_fr hP f02) hn ?_
      rw [wtn]
      with_reducible refine xm_go_blk b_X12_leafOf_89 k_X12_leafOf_89 ?_
      refine by_ic_ge 143 rfl ?_
      simp (disch := first | exact Nat.ne_of_beq_eq_false rfl | exact rfl | omega) only [nI_add, xa_sub, xa_mul, pk_div, nm_mod, xa_shr, xa_and7, xa_and1, xa_and255, xa_by_and, nI_m1, Nat.add_sub_cancel, Nat.reducePow, Nat.zero_add, Nat.add_zero, Nat.reduceAdd, Nat.reduceMul, Nat.reduceSub, xf_same, xq_ff, xq_fo, xf_1, xf_2, xs_1, xs_2, xs_same, xq_so, xj_1, xj_2, xj_same, xq_jo, xq_sa1, xq_same, xq_other, upd_s, oI_n, oI_s, xv_0, xv_1, xv_2, xv_3, xm_p1, xm_p2, xq_fp, xq_fn, List.filter_nil, Nat.reduceBEq, Bool.not_true, Bool.not_false, Bool.and_true, Bool.and_false, Bool.false_and, Bool.true_and, if_true, if_false, Bool.false_eq_true, reduceIte, xc_i, xc_j, xc_r, xc_n, List.nil_append, List.cons_append, Option.toList_some, Option.toList_none, nI_ltJ, nI_leJ, nI_eqJ, nI_ltz, nI_gez, nI_gtz, nI_lez, nI_eqz, m1_ltz, m1_gez, true_imp_iff, false_imp_iff, true_and, and_true, ne_eq, not_false_eq_true, not_true_eq_false, Nat.reduceEqDiff, Nat.reduceLT, Nat.reduceLeDiff, xf_102_58 F2, xf_102_31 F2, xf_102_69 F2, ek2, el, en]
      refine ⟨fun c => absurd c (by omega), fun c89 => ?_⟩
      with_reducible refine xm_go_blk b_X12_leafOf_92 k_X12_leafOf_92 ?_
      refine by_aload_n rfl ?_
      refine by_getf cn_249 fl_12_141 (by first | exact rfl | assumption) (by decide) ?_
      refine by_iload_n rfl ?_
      refine by_iload rfl ?_
      refine by_iadd ?_
      refine by_aload_n rfl ?_
      refine by_getf cn_249 fl_12_88 (by first | exact rfl | assumption) (by decide) ?_
      refine by_aload_n rfl ?_
      refine by_getf cn_249 fl_12_163 (by first | exact rfl | assumption) (by decide) ?_
      refine by_iload_n rfl ?_
      simp (disch := first | exact Nat.ne_of_beq_eq_false rfl | exact rfl | omega) only [nI_add, xa_sub, xa_mul, pk_div, nm_mod, xa_shr, xa_and7, xa_and1, xa_and255, xa_by_and, nI_m1, Nat.add_sub_cancel, Nat.reducePow, Nat.zero_add, Nat.add_zero, Nat.reduceAdd, Nat.reduceMul, Nat.reduceSub, xf_same, xq_ff, xq_fo, xf_1, xf_2, xs_1, xs_2, xs_same, xq_so, xj_1, xj_2, xj_same, xq_jo, xq_sa1, xq_same, xq_other, upd_s, oI_n, oI_s, xf_102_58 F2, xf_102_31 F2, xf_102_69 F2, ek2, el, en]
      first | refine by_iald (by first | exact rfl | assumption | exact ps_1 hpp | exact ps_2 hpp | exact ps_3 hpp | exact ps_4 hpp | exact ps_5 hpp | exact ps_6 hpp | exact ps_7 hpp | exact ps_8 hpp | exact ps_9 hpp | exact ps_10 hpp | exact ps_11 hpp | exact ps_15 hpp | exact ps_16 hpp | exact ps_17 hpp | exact ps_18 hpp | exact ps_19 hpp | exact ps_21 hpp | exact ps_22 hpp | exact ps_23 hpp | exact ps_24 hpp) ⟨by omega, by omega⟩ ?_ | refine by_tald rfl rfl ⟨by omega, by omega⟩ ?_
      refine by_iload rfl ?_
      refine by_iadd ?_
      refine by_bipush cb_8 ?_
      refine by_idiv (by first | decide | assumption) ?_
      simp (disch := first | exact Nat.ne_of_beq_eq_false rfl | exact rfl | omega) only [nI_add, xa_sub, xa_mul, pk_div, nm_mod, xa_shr, xa_and7, xa_and1, xa_and255, xa_by_and, nI_m1, Nat.add_sub_cancel, Nat.reducePow, Nat.zero_add, Nat.add_zero, Nat.reduceAdd, Nat.reduceMul, Nat.reduceSub, xf_same, xq_ff, xq_fo, xf_1, xf_2, xs_1, xs_2, xs_same, xq_so, xj_1, xj_2, xj_same, xq_jo, xq_sa1, xq_same, xq_other, upd_s, oI_n, oI_s, xf_102_58 F2, xf_102_31 F2, xf_102_69 F2, ek2, el, en]
      first | refine by_iald (by first | exact rfl | assumption | exact ps_1 hpp | exact ps_2 hpp | exact ps_3 hpp | exact ps_4 hpp | exact ps_5 hpp | exact ps_6 hpp | exact ps_7 hpp | exact ps_8 hpp | exact ps_9 hpp | exact ps_10 hpp | exact ps_11 hpp | exact ps_15 hpp | exact ps_16 hpp | exact ps_17 hpp | exact ps_18 hpp | exact ps_19 hpp | exact ps_21 hpp | exact ps_22 hpp | exact ps_23 hpp | exact ps_24 hpp) ⟨by omega, by omega⟩ ?_ | refine by_tald rfl rfl ⟨by omega, by omega⟩ ?_
      refine by_bipush cb_7 ?_
      refine by_aload_n rfl ?_
      refine by_getf cn_249 fl_12_163 (by first | exact rfl | assumption) (by decide) ?_
      refine by_iload_n rfl ?_
      simp (disch := first | exact Nat.ne_of_beq_eq_false rfl | exact rfl | omega) only [nI_add, xa_sub, xa_mul, pk_div, nm_mod, xa_shr, xa_and7, xa_and1, xa_and255, xa_by_and, nI_m1, Nat.add_sub_cancel, Nat.reducePow, Nat.zero_add, Nat.add_zero, Nat.reduceAdd, Nat.reduceMul, Nat.reduceSub, xf_same, xq_ff, xq_fo, xf_1, xf_2, xs_1, xs_2, xs_same, xq_so, xj_1, xj_2, xj_same, xq_jo, xq_sa1, xq_same, xq_other, upd_s, oI_n, oI_s, xf_102_58 F2, xf_102_31 F2, xf_102_69 F2, ek2, el, en]
      first | refine by_iald (by first | exact rfl | assumption | exact ps_1 hpp | exact ps_2 hpp | exact ps_3 hpp | exact ps_4 hpp | exact ps_5 hpp | exact ps_6 hpp | exact ps_7 hpp | exact ps_8 hpp | exact ps_9 hpp | exact ps_10 hpp | exact ps_11 hpp | exact ps_15 hpp | exact ps_16 hpp | exact ps_17 hpp | exact ps_18 hpp | exact ps_19 hpp | exact ps_21 hpp | exact ps_22 hpp | exact ps_23 hpp | exact ps_24 hpp) ⟨by omega, by omega⟩ ?_ | refine by_tald rfl rfl ⟨by omega, by omega⟩ ?_
      refine by_iload rfl ?_
      refine by_iadd ?_
      refine by_bipush cb_8 ?_
      refine by_irem (by first | decide | assumption) ?_
      refine by_isub ?_
      refine by_ishr ?_
      refine by_iconst ci_1 ?_
      refine by_iand ?_
      refine by_i2b ?_
      first | refine by_bast (by first | exact rfl | assumption | exact ps_13 hpp) ⟨by omega, by omega⟩ ?_ | refine by_zast (by first | exact rfl | assumption | exact ps_20 hpp) ⟨by omega, by omega⟩ ?_
      refine by_iinc (by rw [ml_249]; decide) rfl ci_1 ?_
      refine by_goto 82 rfl ?_
      try simp (disch := first | exact Nat.ne_of_beq_eq_false rfl | exact rfl | omega) only [nI_add, xa_sub, xa_mul, pk_div, nm_mod, xa_shr, xa_and7, xa_and1, xa_and255, xa_by_and, nI_m1, Nat.add_sub_cancel, Nat.reducePow, Nat.zero_add, Nat.add_zero, Nat.reduceAdd, Nat.reduceMul, Nat.reduceSub, xf_same, xq_ff, xq_fo, xf_1, xf_2, xs_1, xs_2, xs_same, xq_so, xj_1, xj_2, xj_same, xq_jo, xq_sa1, xq_same, xq_other, upd_s, oI_n, oI_s, xv_0, xv_1, xv_2, xv_3, xm_p1, xm_p2, xq_fp, xq_fn, List.filter_nil, Nat.reduceBEq, Bool.not_true, Bool.not_false, Bool.and_true, Bool.and_false, Bool.false_and, Bool.true_and, if_true, if_false, Bool.false_eq_true, reduceIte, xc_i, xc_j, xc_r, xc_n, List.nil_append, List.cons_append, Option.toList_some, Option.toList_none, xf_102_58 F2, xf_102_31 F2, xf_102_69 F2, ek2, el, en]
      refine xm_go_wk (by simp [Value.category]) (ih (z + 1) _ (by omega) (Fr_si f2 (by simp)) (fun j hj => ?_) (fun j hj => ?_))
      · by_cases e : j = z
        · subst e; simp only [xm_si, upd, if_true]
        · have hne : t + j ≠ t + z := by omega
          simp only [xm_si, upd, if_true, if_neg hne]; exact b2 j (by omega)
      · have hne : j ≠ t + z := by omega
        simp only [xm_si, upd, if_true, if_neg hne]; exact o2 j (by omega)
  refine xq_in rfl ?_
  simp only [xq_a0, xq_aI, xq_aJ, xq_aR, Nat.reduceAdd]
  with_reducible refine xm_go_blk b_X12_leafOf_0 k_X12_leafOf_0 ?_
  refine by_aload_n rfl ?_
  refine by_getf cn_249 fl_12_54 (by first | exact rfl | assumption) (by decide) ?_
  refine by_iload_n rfl ?_
  simp (disch := first | exact Nat.ne_of_beq_eq_false rfl | exact rfl | omega) only [nI_add, xa_sub, xa_mul, pk_div, nm_mod, xa_shr, xa_and7, xa_and1, xa_and255, xa_by_and, nI_m1, Nat.add_sub_cancel, Nat.reducePow, Nat.zero_add, Nat.add_zero, Nat.reduceAdd, Nat.reduceMul, Nat.reduceSub, xf_same, xq_ff, xq_fo, xf_1, xf_2, xs_1, xs_2, xs_same, xq_so, xj_1, xj_2, xj_same, xq_jo, xq_sa1, xq_same, xq_other, upd_s, oI_n, oI_s, xf_102_20 hF, k1]
  first | refine by_iald (by first | exact rfl | assumption | exact ps_1 hpp | exact ps_2 hpp | exact ps_3 hpp | exact ps_4 hpp | exact ps_5 hpp | exact ps_6 hpp | exact ps_7 hpp | exact ps_8 hpp | exact ps_9 hpp | exact ps_10 hpp | exact ps_11 hpp | exact ps_15 hpp | exact ps_16 hpp | exact ps_17 hpp | exact ps_18 hpp | exact ps_19 hpp | exact ps_21 hpp | exact ps_22 hpp | exact ps_23 hpp | exact ps_24 hpp) ⟨by omega, by omega⟩ ?_ | refine by_tald rfl rfl ⟨by omega, by omega⟩ ?_
  simp (disch := first | exact Nat.ne_of_beq_eq_false rfl | exact rfl | omega) only [nI_add, xa_sub, xa_mul, pk_div, nm_mod, xa_shr, xa_and7, xa_and1, xa_and255, xa_by_and, nI_m1, Nat.add_sub_cancel, Nat.reducePow, Nat.zero_add, Nat.add_zero, Nat.reduceAdd, Nat.reduceMul, Nat.reduceSub, xf_same, xq_ff, xq_fo, xf_1, xf_2, xs_1, xs_2, xs_same, xq_so, xj_1, xj_2, xj_same, xq_jo, xq_sa1, xq_same, xq_other, upd_s, oI_n, oI_s, xf_102_20 hF, k1]
  refine by_lsw ?_
  refine ⟨by decide, by_to 79 (by decide) ?_⟩
  with_reducible refine xm_go_blk b_X12_leafOf_79 k_X12_leafOf_79 ?_
  refine by_iconst ci_0 ?_
  refine by_istore (by rw [ml_249]; decide) ?_
  refine by_nil ?_
  try simp (disch := first | exact Nat.ne_of_beq_eq_false rfl | exact rfl | omega) only [nI_add, xa_sub, xa_mul, pk_div, nm_mod, xa_shr, xa_and7, xa_and1, xa_and255, xa_by_and, nI_m1, Nat.add_sub_cancel, Nat.reducePow, Nat.zero_add, Nat.add_zero, Nat.reduceAdd, Nat.reduceMul, Nat.reduceSub, xf_same, xq_ff, xq_fo, xf_1, xf_2, xs_1, xs_2, xs_same, xq_so, xj_1, xj_2, xj_same, xq_jo, xq_sa1, xq_same, xq_other, upd_s, oI_n, oI_s, xv_0, xv_1, xv_2, xv_3, xm_p1, xm_p2, xq_fp, xq_fn, List.filter_nil, Nat.reduceBEq, Bool.not_true, Bool.not_false, Bool.and_true, Bool.and_false, Bool.false_and, Bool.true_and, if_true, if_false, Bool.false_eq_true, reduceIte, xc_i, xc_j, xc_r, xc_n, List.nil_append, List.cons_append, Option.toList_some, Option.toList_none, xf_102_20 hF, k1]
  exact xm_go_wk (by simp [Value.category]) (key (rwt q n) 0 h (by omega) Fr_rf (fun j hj => absurd hj (Nat.not_lt_zero _)) (fun j _ => rfl))
theorem rb_unit {n : Nat} (hP : mPg H0 (some q)) (hn : n < q.2.1.length) (he : pC q.2.1 n = 8) (hw : rwt q n = 0) (hd1 : ∀ m, 1 ≤ dp m) : RBg sc d df s0 t0 q dp cb H0 post n (fun _ => some ([], ownQ q n, 0, 0)) := by
  have hps : q.2.1.length ≤ 400 := (mPg_cd hP hn).2.2.2.2.2.2
  refine rb_leaf (rl := fun _ => []) hP hn he (by decide) hd1 (fun u => by rw [hw]; rfl) (fun h i t fr cn cm fn fm st E u hF hf hS hB q1 q2 q3 q4 hk => ?_)
  have k1 : h.1 117 n = nI 8 := by rw [← he]; exact (mPg_cd (mPg_fr hP hf) hn).1
  refine xq_in rfl ?_
  simp only [xq_a0, xq_aI, xq_aJ, xq_aR, Nat.reduceAdd]
  with_reducible refine xm_go_blk b_X12_leafOf_0 k_X12_leafOf_0 ?_
  refine by_aload_n rfl ?_
  refine by_getf cn_249 fl_12_54 (by first | exact rfl | assumption) (by decide) ?_
  refine by_iload_n rfl ?_
  simp (disch := first | exact Nat.ne_of_beq_eq_false rfl | exact rfl | omega) only [nI_add, xa_sub, xa_mul, pk_div, nm_mod, xa_shr, xa_and7, xa_and1, xa_and255, xa_by_and, nI_m1, Nat.add_sub_cancel, Nat.reducePow, Nat.zero_add, Nat.add_zero, Nat.reduceAdd, Nat.reduceMul, Nat.reduceSub, xf_same, xq_ff, xq_fo, xf_1, xf_2, xs_1, xs_2, xs_same, xq_so, xj_1, xj_2, xj_same, xq_jo, xq_sa1, xq_same, xq_other, upd_s, oI_n, oI_s, xf_102_20 hF, k1]
  first | refine by_iald (by first | exact rfl | assumption | exact ps_1 hpp | exact ps_2 hpp | exact ps_3 hpp | exact ps_4 hpp | exact ps_5 hpp | exact ps_6 hpp | exact ps_7 hpp | exact ps_8 hpp | exact ps_9 hpp | exact ps_10 hpp | exact ps_11 hpp | exact ps_15 hpp | exact ps_16 hpp | exact ps_17 hpp | exact ps_18 hpp | exact ps_19 hpp | exact ps_21 hpp | exact ps_22 hpp | exact ps_23 hpp | exact ps_24 hpp) ⟨by omega, by omega⟩ ?_ | refine by_tald rfl rfl ⟨by omega, by omega⟩ ?_
  simp (disch := first | exact Nat.ne_of_beq_eq_false rfl | exact rfl | omega) only [nI_add, xa_sub, xa_mul, pk_div, nm_mod, xa_shr, xa_and7, xa_and1, xa_and255, xa_by_and, nI_m1, Nat.add_sub_cancel, Nat.reducePow, Nat.zero_add, Nat.add_zero, Nat.reduceAdd, Nat.reduceMul, Nat.reduceSub, xf_same, xq_ff, xq_fo, xf_1, xf_2, xs_1, xs_2, xs_same, xq_so, xj_1, xj_2, xj_same, xq_jo, xq_sa1, xq_same, xq_other, upd_s, oI_n, oI_s, xf_102_20 hF, k1]
  refine by_lsw ?_
  refine ⟨by decide, by_to 154 (by decide) ?_⟩
  with_reducible refine xm_go_blk b_X12_leafOf_154 k_X12_leafOf_154 ?_
  refine by_aload_n rfl ?_
  refine by_getf cn_249 fl_12_54 (by first | exact rfl | assumption) (by decide) ?_
  refine by_iload_n rfl ?_
  simp (disch := first | exact Nat.ne_of_beq_eq_false rfl | exact rfl | omega) only [nI_add, xa_sub, xa_mul, pk_div, nm_mod, xa_shr, xa_and7, xa_and1, xa_and255, xa_by_and, nI_m1, Nat.add_sub_cancel, Nat.reducePow, Nat.zero_add, Nat.add_zero, Nat.reduceAdd, Nat.reduceMul, Nat.reduceSub, xf_same, xq_ff, xq_fo, xf_1, xf_2, xs_1, xs_2, xs_same, xq_so, xj_1, xj_2, xj_same, xq_jo, xq_sa1, xq_same, xq_other, upd_s, oI_n, oI_s, xf_102_20 hF, k1]
  first | refine by_iald (by first | exact rfl | assumption | exact ps_1 hpp | exact ps_2 hpp | exact ps_3 hpp | exact ps_4 hpp | exact ps_5 hpp | exact ps_6 hpp | exact ps_7 hpp | exact ps_8 hpp | exact ps_9 hpp | exact ps_10 hpp | exact ps_11 hpp | exact ps_15 hpp | exact ps_16 hpp | exact ps_17 hpp | exact ps_18 hpp | exact ps_19 hpp | exact ps_21 hpp | exact ps_22 hpp | exact ps_23 hpp | exact ps_24 hpp) ⟨by omega, by omega⟩ ?_ | refine by_tald rfl rfl ⟨by omega, by omega⟩ ?_
  refine by_bipush cb_8 ?_
  refine by_ic_ne 169 rfl ?_
  simp (disch := first | exact Nat.ne_of_beq_eq_false rfl | exact rfl | omega) only [nI_add, xa_sub, xa_mul, pk_div, nm_mod, xa_shr, xa_and7, xa_and1, xa_and255, xa_by_and, nI_m1, Nat.add_sub_cancel, Nat.reducePow, Nat.zero_add, Nat.add_zero, Nat.reduceAdd, Nat.reduceMul, Nat.reduceSub, xf_same, xq_ff, xq_fo, xf_1, xf_2, xs_1, xs_2, xs_same, xq_so, xj_1, xj_2, xj_same, xq_jo, xq_sa1, xq_same, xq_other, upd_s, oI_n, oI_s, xv_0, xv_1, xv_2, xv_3, xm_p1, xm_p2, xq_fp, xq_fn, List.filter_nil, Nat.reduceBEq, Bool.not_true, Bool.not_false, Bool.and_true, Bool.and_false, Bool.false_and, Bool.true_and, if_true, if_false, Bool.false_eq_true, reduceIte, xc_i, xc_j, xc_r, xc_n, List.nil_append, List.cons_append, Option.toList_some, Option.toList_none, nI_ltJ, nI_leJ, nI_eqJ, nI_ltz, nI_gez, nI_gtz, nI_lez, nI_eqz, m1_ltz, m1_gez, true_imp_iff, false_imp_iff, true_and, and_true, ne_eq, not_false_eq_true, not_true_eq_false, Nat.reduceEqDiff, Nat.reduceLT, Nat.reduceLeDiff, xf_102_20 hF, k1]
  with_reducible refine xm_go_blk b_X12_leafOf_165 k_X12_leafOf_165 ?_
  refine by_iconst ci_1 ?_
  refine by_goto 170 rfl ?_
  with_reducible refine xm_go_blk b_X12_leafOf_170 k_X12_leafOf_170 ?_
  refine by_iret ry_249 (by first | rfl | assumption) ?_
  with_reducible refine xm_go_blk b_X12_goesOn_352 k_X12_goesOn_352 ?_
  refine by_iret ry_226 (by first | rfl | assumption) ?_
  exact Lp_1 (hk h hF Fr_rf (fun j hj => by omega) (fun _ _ _ => rfl))
theorem rb_fail {n : Nat} (hP : mPg H0 (some q)) (hn : n < q.2.1.length) (he : pC q.2.1 n = 9) (hd1 : ∀ m, 1 ≤ dp m) : RBg sc d df s0 t0 q dp cb H0 post n (fun _ => none) := by
  intro h i t fr cn cm fn fm sp E u hF hf hS hB q1 q2 q3 q4 q5 q6 q7 q8 q9 q10 q11 hyes hno
  have hps : q.2.1.length ≤ 400 := (mPg_cd hP hn).2.2.2.2.2.2
  have hdn := hd1 n
  have k1 : h.1 117 n = nI 9 := by rw [← he]; exact (mPg_cd (mPg_fr hP hf) hn).1
  refine Lp_go (op := 9) (tg := 333) hF hS (by omega) (by omega) (by decide) k1 rfl (by decide) (fun h1 F1 f1 S1 => ?_)
  have f01 : Fr rfR rfT H0 h1 := Fr_tr hf f1 (by simp [rfR]) (by simp)
  have k1' : h1.1 117 n = nI 9 := by rw [f1.1 117 (by simp)]; exact k1
  have s1 := S1.1
  simp only [List.length_cons] at s1
  unfold Gn
  with_reducible refine xm_go_blk b_X12_goesOn_333 k_X12_goesOn_333 ?_
  refine by_aload_n rfl ?_
  refine by_dup rfl ?_
  refine by_getf cn_226 fl_12_494 (by first | exact rfl | assumption) (by decide) ?_
  refine by_iconst ci_1 ?_
  simp (disch := first | exact Nat.ne_of_beq_eq_false rfl | exact rfl | omega) only [nI_add, xa_sub, xa_mul, pk_div, nm_mod, xa_shr, xa_and7, xa_and1, xa_and255, xa_by_and, nI_m1, Nat.add_sub_cancel, Nat.reducePow, Nat.zero_add, Nat.add_zero, Nat.reduceAdd, Nat.reduceMul, Nat.reduceSub, xf_same, xq_ff, xq_fo, xf_1, xf_2, xs_1, xs_2, xs_same, xq_so, xj_1, xj_2, xj_same, xq_jo, xq_sa1, xq_same, xq_other, upd_s, oI_n, oI_s, s1, xf_102_20 F1, k1']
  refine by_isub ?_
  refine by_putf cn_226 fl_12_494 (by first | exact rfl | assumption) (by decide) nf_12_74 ft_12_74 (by first | rfl | assumption) (by first | rfl | assumption) ?_
  refine by_aload_n rfl ?_
  refine by_iload_n rfl ?_
  refine by_iload rfl ?_
  refine by_iload rfl ?_
  simp (disch := first | exact Nat.ne_of_beq_eq_false rfl | exact rfl | omega) only [nI_add, xa_sub, xa_mul, pk_div, nm_mod, xa_shr, xa_and7, xa_and1, xa_and255, xa_by_and, nI_m1, Nat.add_sub_cancel, Nat.reducePow, Nat.zero_add, Nat.add_zero, Nat.reduceAdd, Nat.reduceMul, Nat.reduceSub, xf_same, xq_ff, xq_fo, xf_1, xf_2, xs_1, xs_2, xs_same, xq_so, xj_1, xj_2, xj_same, xq_jo, xq_sa1, xq_same, xq_other, upd_s, oI_n, oI_s, xv_0, xv_1, xv_2, xv_3, xm_p1, xm_p2, xq_fp, xq_fn, List.filter_nil, Nat.reduceBEq, Bool.not_true, Bool.not_false, Bool.and_true, Bool.and_false, Bool.false_and, Bool.true_and, if_true, if_false, Bool.false_eq_true, reduceIte, xc_i, xc_j, xc_r, xc_n, List.nil_append, List.cons_append, Option.toList_some, Option.toList_none, s1, xf_102_20 F1, k1']
  refine by_inv3 cn_226 lk_12_526 (by rw [xe_cnt]; decide) is_249 np_249 cn_249 (by first | exact rfl | assumption) (Nat.le_of_ble_eq_true rfl) ?_
  refine xq_in rfl ?_
  simp only [xq_a0, xq_aI, xq_aJ, xq_aR, Nat.reduceAdd]
  with_reducible refine xm_go_blk b_X12_leafOf_0 k_X12_leafOf_0 ?_
  refine by_aload_n rfl ?_
  refine by_getf cn_249 fl_12_54 (by first | exact rfl | assumption) (by decide) ?_
  refine by_iload_n rfl ?_
  simp (disch := first | exact Nat.ne_of_beq_eq_false rfl | exact rfl | omega) only [nI_add, xa_sub, xa_mul, pk_div, nm_mod, xa_shr, xa_and7, xa_and1, xa_and255, xa_by_and, nI_m1, Nat.add_sub_cancel, Nat.reducePow, Nat.zero_add, Nat.add_zero, Nat.reduceAdd, Nat.reduceMul, Nat.reduceSub, xf_same, xq_ff, xq_fo, xf_1, xf_2, xs_1, xs_2, xs_same, xq_so, xj_1, xj_2, xj_same, xq_jo, xq_sa1, xq_same, xq_other, upd_s, oI_n, oI_s, s1, xf_102_20 F1, k1']
  first | refine by_iald (by first | exact rfl | assumption | exact ps_1 hpp | exact ps_2 hpp | exact ps_3 hpp | exact ps_4 hpp | exact ps_5 hpp | exact ps_6 hpp | exact ps_7 hpp | exact ps_8 hpp | exact ps_9 hpp | exact ps_10 hpp | exact ps_11 hpp | exact ps_15 hpp | exact ps_16 hpp | exact ps_17 hpp | exact ps_18 hpp | exact ps_19 hpp | exact ps_21 hpp | exact ps_22 hpp | exact ps_23 hpp | exact ps_24 hpp) ⟨by omega, by omega⟩ ?_ | refine by_tald rfl rfl ⟨by omega, by omega⟩ ?_
  simp (disch := first | exact Nat.ne_of_beq_eq_false rfl | exact rfl | omega) only [nI_add, xa_sub, xa_mul, pk_div, nm_mod, xa_shr, xa_and7, xa_and1, xa_and255, xa_by_and, nI_m1, Nat.add_sub_cancel, Nat.reducePow, Nat.zero_add, Nat.add_zero, Nat.reduceAdd, Nat.reduceMul, Nat.reduceSub, xf_same, xq_ff, xq_fo, xf_1, xf_2, xs_1, xs_2, xs_same, xq_so, xj_1, xj_2, xj_same, xq_jo, xq_sa1, xq_same, xq_other, upd_s, oI_n, oI_s, s1, xf_102_20 F1, k1']
  refine by_lsw ?_
  refine ⟨by decide, by_to 154 (by decide) ?_⟩
  with_reducible refine xm_go_blk b_X12_leafOf_154 k_X12_leafOf_154 ?_
  refine by_aload_n rfl ?_
  refine by_getf cn_249 fl_12_54 (by first | exact rfl | assumption) (by decide) ?_
  refine by_iload_n rfl ?_
  simp (disch := first | exact Nat.ne_of_beq_eq_false rfl | exact rfl | omega) only [nI_add, xa_sub, xa_mul, pk_div, nm_mod, xa_shr, xa_and7, xa_and1, xa_and255, xa_by_and, nI_m1, Nat.add_sub_cancel, Nat.reducePow, Nat.zero_add, Nat.add_zero, Nat.reduceAdd, Nat.reduceMul, Nat.reduceSub, xf_same, xq_ff, xq_fo, xf_1, xf_2, xs_1, xs_2, xs_same, xq_so, xj_1, xj_2, xj_same, xq_jo, xq_sa1, xq_same, xq_other, upd_s, oI_n, oI_s, s1, xf_102_20 F1, k1']
  first | refine by_iald (by first | exact rfl | assumption | exact ps_1 hpp | exact ps_2 hpp | exact ps_3 hpp | exact ps_4 hpp | exact ps_5 hpp | exact ps_6 hpp | exact ps_7 hpp | exact ps_8 hpp | exact ps_9 hpp | exact ps_10 hpp | exact ps_11 hpp | exact ps_15 hpp | exact ps_16 hpp | exact ps_17 hpp | exact ps_18 hpp | exact ps_19 hpp | exact ps_21 hpp | exact ps_22 hpp | exact ps_23 hpp | exact ps_24 hpp) ⟨by omega, by omega⟩ ?_ | refine by_tald rfl rfl ⟨by omega, by omega⟩ ?_
  refine by_bipush cb_8 ?_
  refine by_ic_ne 169 rfl ?_
  simp (disch := first | exact Nat.ne_of_beq_eq_false rfl | exact rfl | omega) only [nI_add, xa_sub, xa_mul, pk_div, nm_mod, xa_shr, xa_and7, xa_and1, xa_and255, xa_by_and, nI_m1, Nat.add_sub_cancel, Nat.reducePow, Nat.zero_add, Nat.add_zero, Nat.reduceAdd, Nat.reduceMul, Nat.reduceSub, xf_same, xq_ff, xq_fo, xf_1, xf_2, xs_1, xs_2, xs_same, xq_so, xj_1, xj_2, xj_same, xq_jo, xq_sa1, xq_same, xq_other, upd_s, oI_n, oI_s, xv_0, xv_1, xv_2, xv_3, xm_p1, xm_p2, xq_fp, xq_fn, List.filter_nil, Nat.reduceBEq, Bool.not_true, Bool.not_false, Bool.and_true, Bool.and_false, Bool.false_and, Bool.true_and, if_true, if_false, Bool.false_eq_true, reduceIte, xc_i, xc_j, xc_r, xc_n, List.nil_append, List.cons_append, Option.toList_some, Option.toList_none, nI_ltJ, nI_leJ, nI_eqJ, nI_ltz, nI_gez, nI_gtz, nI_lez, nI_eqz, m1_ltz, m1_gez, true_imp_iff, false_imp_iff, true_and, and_true, ne_eq, not_false_eq_true, not_true_eq_false, Nat.reduceEqDiff, Nat.reduceLT, Nat.reduceLeDiff, s1, xf_102_20 F1, k1']
  with_reducible refine xm_go_blk b_X12_leafOf_169 k_X12_leafOf_169 ?_
  refine by_iconst ci_0 ?_
  refine by_nil ?_
  with_reducible refine xm_go_blk b_X12_leafOf_170 k_X12_leafOf_170 ?_
  refine by_iret ry_249 (by first | rfl | assumption) ?_
  with_reducible refine xm_go_blk b_X12_goesOn_352 k_X12_goesOn_352 ?_
  refine by_iret ry_226 (by first | rfl | assumption) ?_
  have f2 : Fr [] rfT h1 (xm_sf h1 102 74 (.int (nI E.length))) := Fr_sf Fr_rf (by simp [rfT])
  exact Lp_0 (u := E.length) (by simp [xm_sf, updV]) (by omega) (hno rfl _ (Fr_XF F1 f2 rfT_fin) (Fr_tr f01 f2 (by simp) (fun _ z => z)))
end RB
