/-! ===== the reference reads: children, nodes ===== -/
def mrCh (h h' : xm_H) (l : List Nat) (r : Except Nat (Nat × Nat)) (y : Int32) : Prop := Fr [] [(102, 65), (102, 67)] h h' ∧ match r with
  | .error x => 1 ≤ x ∧ ∃ a', mrS h' l a' x
  | .ok (i, b) => y = nI i ∧ mrS h' l b 0
theorem sp_mch {sc : xm_Sc} {d a n : Nat} {l : List Nat} {h : xm_H} {post : xm_Po} (hn : n ≤ 2000) (hS : mrS h l a 0) (hp : ∀ y h', mrCh h h' l (pr_ch (by_bit l) (8 * l.length) n a) y → post (some (.int y)) h') :
    xm_T (XE sc) (d + 5) 281 [.ref 102, .int (nI n)] h post := by
  refine xq_in rfl ?_
  simp only [xq_a0, xq_aI, xq_aJ, xq_aR, Nat.reduceAdd]
  with_reducible refine xm_go_blk b_X12_readChild_0 k_X12_readChild_0 ?_
  refine by_aload_n rfl ?_
  refine by_inv0 cn_281 lk_12_345 (by rw [xe_cnt]; decide) is_266 np_266 cn_266 (by first | exact rfl | assumption) (Nat.le_of_ble_eq_true rfl) ?_
  refine sp_mnat hS (fun y h' hN => ?_)
  obtain ⟨hfr, hN⟩ := hN
  cases hr : pr_nat (by_bit l) (8 * l.length) a with
  | error x =>
    rw [hr] at hN
    obtain ⟨hx, a', hS'⟩ := hN
    have s5 := hS'.2.2.2.2.1
    have hx2 := hS'.2.2.2.2.2.2
    have hx0 : (x = 0) = False := eq_false (by omega)
    with_reducible refine xm_go_blk b_X12_readChild_4 k_X12_readChild_4 ?_
    refine by_istore_n (by rw [ml_281]; decide) ?_
    refine by_aload_n rfl ?_
    refine by_getf cn_281 fl_12_330 (by first | exact rfl | assumption) (by decide) ?_
    simp (disch := first | exact Nat.ne_of_beq_eq_false rfl | omega) only [nI_add, xa_sub, xa_mul, pk_div, nm_mod, xa_shr, xa_and7, xa_and1, xa_and255, xa_by_and, nI_m1, Nat.add_sub_cancel, Nat.reducePow, Nat.zero_add, Nat.add_zero, Nat.reduceAdd, Nat.reduceMul, Nat.reduceSub, xf_same, xq_ff, xq_fo, xf_1, xf_2, xs_1, xs_2, xs_same, xq_so, xj_1, xj_2, xj_same, xq_jo, xq_sa1, xq_same, xq_other, upd_s, oI_n, oI_s, s5, hx0]
    refine by_if_ne 22 rfl ?_
    simp (disch := first | exact Nat.ne_of_beq_eq_false rfl | omega) only [nI_add, xa_sub, xa_mul, pk_div, nm_mod, xa_shr, xa_and7, xa_and1, xa_and255, xa_by_and, nI_m1, Nat.add_sub_cancel, Nat.reducePow, Nat.zero_add, Nat.add_zero, Nat.reduceAdd, Nat.reduceMul, Nat.reduceSub, xf_same, xq_ff, xq_fo, xf_1, xf_2, xs_1, xs_2, xs_same, xq_so, xj_1, xj_2, xj_same, xq_jo, xq_sa1, xq_same, xq_other, upd_s, oI_n, oI_s, xv_0, xv_1, xv_2, xv_3, xm_p1, xm_p2, List.filter_cons, List.filter_nil, Nat.reduceBEq, Bool.not_true, Bool.not_false, Bool.and_true, Bool.and_false, Bool.false_and, Bool.true_and, if_true, if_false, Bool.false_eq_true, reduceIte, xc_i, xc_j, xc_r, xc_n, List.nil_append, List.cons_append, Option.toList_some, Option.toList_none, nI_ltJ, nI_leJ, nI_eqJ, nI_ltz, nI_gez, nI_gtz, nI_lez, nI_eqz, m1_ltz, m1_gez, true_imp_iff, false_imp_iff, true_and, and_true, ne_eq, not_false_eq_true, not_true_eq_false, Nat.reduceEqDiff, Nat.reduceLT, Nat.reduceLeDiff, s5, hx0]
    with_reducible refine xm_go_blk b_X12_readChild_22 k_X12_readChild_22 ?_
    refine by_iload_n rfl ?_
    refine by_iload_n rfl ?_
    refine by_isub ?_
    simp (disch := first | exact Nat.ne_of_beq_eq_false rfl | omega) only [nI_add, xa_sub, xa_mul, pk_div, nm_mod, xa_shr, xa_and7, xa_and1, xa_and255, xa_by_and, nI_m1, Nat.add_sub_cancel, Nat.reducePow, Nat.zero_add, Nat.add_zero, Nat.reduceAdd, Nat.reduceMul, Nat.reduceSub, xf_same, xq_ff, xq_fo, xf_1, xf_2, xs_1, xs_2, xs_same, xq_so, xj_1, xj_2, xj_same, xq_jo, xq_sa1, xq_same, xq_other, upd_s, oI_n, oI_s, s5, hx0]
    refine by_iret ry_281 (by first | rfl | assumption) ?_
    exact hp _ _ ⟨hfr, by unfold pr_ch; rw [hr]; exact ⟨hx, a', hS'⟩⟩
  | ok q =>
    obtain ⟨k, b⟩ := q
    rw [hr] at hN
    obtain ⟨rfl, hS'⟩ := hN
    have s5 := hS'.2.2.2.2.1
    have hk := pr_nat_le (by_bit_lt l) hS.2.2.2.2.2.1 hr
    by_cases hkn : k ≤ n
    · with_reducible refine xm_go_blk b_X12_readChild_4 k_X12_readChild_4 ?_
      refine by_istore_n (by rw [ml_281]; decide) ?_
      refine by_aload_n rfl ?_
      refine by_getf cn_281 fl_12_330 (by first | exact rfl | assumption) (by decide) ?_
      simp (disch := first | exact Nat.ne_of_beq_eq_false rfl | omega) only [nI_add, xa_sub, xa_mul, pk_div, nm_mod, xa_shr, xa_and7, xa_and1, xa_and255, xa_by_and, nI_m1, Nat.add_sub_cancel, Nat.reducePow, Nat.zero_add, Nat.add_zero, Nat.reduceAdd, Nat.reduceMul, Nat.reduceSub, xf_same, xq_ff, xq_fo, xf_1, xf_2, xs_1, xs_2, xs_same, xq_so, xj_1, xj_2, xj_same, xq_jo, xq_sa1, xq_same, xq_other, upd_s, oI_n, oI_s, s5]
      refine by_if_ne 22 rfl ?_
      simp (disch := first | exact Nat.ne_of_beq_eq_false rfl | omega) only [nI_add, xa_sub, xa_mul, pk_div, nm_mod, xa_shr, xa_and7, xa_and1, xa_and255, xa_by_and, nI_m1, Nat.add_sub_cancel, Nat.reducePow, Nat.zero_add, Nat.add_zero, Nat.reduceAdd, Nat.reduceMul, Nat.reduceSub, xf_same, xq_ff, xq_fo, xf_1, xf_2, xs_1, xs_2, xs_same, xq_so, xj_1, xj_2, xj_same, xq_jo, xq_sa1, xq_same, xq_other, upd_s, oI_n, oI_s, xv_0, xv_1, xv_2, xv_3, xm_p1, xm_p2, List.filter_cons, List.filter_nil, Nat.reduceBEq, Bool.not_true, Bool.not_false, Bool.and_true, Bool.and_false, Bool.false_and, Bool.true_and, if_true, if_false, Bool.false_eq_true, reduceIte, xc_i, xc_j, xc_r, xc_n, List.nil_append, List.cons_append, Option.toList_some, Option.toList_none, nI_ltJ, nI_leJ, nI_eqJ, nI_ltz, nI_gez, nI_gtz, nI_lez, nI_eqz, m1_ltz, m1_gez, true_imp_iff, false_imp_iff, true_and, and_true, ne_eq, not_false_eq_true, not_true_eq_false, Nat.reduceEqDiff, Nat.reduceLT, Nat.reduceLeDiff, s5]
      with_reducible refine xm_go_blk b_X12_readChild_12 k_X12_readChild_12 ?_
      refine by_iload_n rfl ?_
      refine by_iload_n rfl ?_
      refine by_ic_le 22 rfl ?_
      simp (disch := first | exact Nat.ne_of_beq_eq_false rfl | omega) only [nI_add, xa_sub, xa_mul, pk_div, nm_mod, xa_shr, xa_and7, xa_and1, xa_and255, xa_by_and, nI_m1, Nat.add_sub_cancel, Nat.reducePow, Nat.zero_add, Nat.add_zero, Nat.reduceAdd, Nat.reduceMul, Nat.reduceSub, xf_same, xq_ff, xq_fo, xf_1, xf_2, xs_1, xs_2, xs_same, xq_so, xj_1, xj_2, xj_same, xq_jo, xq_sa1, xq_same, xq_other, upd_s, oI_n, oI_s, xv_0, xv_1, xv_2, xv_3, xm_p1, xm_p2, List.filter_cons, List.filter_nil, Nat.reduceBEq, Bool.not_true, Bool.not_false, Bool.and_true, Bool.and_false, Bool.false_and, Bool.true_and, if_true, if_false, Bool.false_eq_true, reduceIte, xc_i, xc_j, xc_r, xc_n, List.nil_append, List.cons_append, Option.toList_some, Option.toList_none, nI_ltJ, nI_leJ, nI_eqJ, nI_ltz, nI_gez, nI_gtz, nI_lez, nI_eqz, m1_ltz, m1_gez, true_imp_iff, false_imp_iff, true_and, and_true, ne_eq, not_false_eq_true, not_true_eq_false, Nat.reduceEqDiff, Nat.reduceLT, Nat.reduceLeDiff, s5]
      refine ⟨fun c12 => ?_, fun c => absurd (by omega) c⟩
      with_reducible refine xm_go_blk b_X12_readChild_22 k_X12_readChild_22 ?_
      refine by_iload_n rfl ?_
      refine by_iload_n rfl ?_
      refine by_isub ?_
      simp (disch := first | exact Nat.ne_of_beq_eq_false rfl | omega) only [nI_add, xa_sub, xa_mul, pk_div, nm_mod, xa_shr, xa_and7, xa_and1, xa_and255, xa_by_and, nI_m1, Nat.add_sub_cancel, Nat.reducePow, Nat.zero_add, Nat.add_zero, Nat.reduceAdd, Nat.reduceMul, Nat.reduceSub, xf_same, xq_ff, xq_fo, xf_1, xf_2, xs_1, xs_2, xs_same, xq_so, xj_1, xj_2, xj_same, xq_jo, xq_sa1, xq_same, xq_other, upd_s, oI_n, oI_s, s5]
      refine by_iret ry_281 (by first | rfl | assumption) ?_
      refine hp _ _ ⟨hfr, ?_⟩
      unfold pr_ch
      rw [hr]
      show match (if n < k then Except.error 3 else Except.ok (n - k, b)) with
        | .error x => _
        | .ok (i, b) => _
      rw [if_neg (by omega)]
      exact ⟨rfl, hS'⟩
    · with_reducible refine xm_go_blk b_X12_readChild_4 k_X12_readChild_4 ?_
      refine by_istore_n (by rw [ml_281]; decide) ?_
      refine by_aload_n rfl ?_
      refine by_getf cn_281 fl_12_330 (by first | exact rfl | assumption) (by decide) ?_
      simp (disch := first | exact Nat.ne_of_beq_eq_false rfl | omega) only [nI_add, xa_sub, xa_mul, pk_div, nm_mod, xa_shr, xa_and7, xa_and1, xa_and255, xa_by_and, nI_m1, Nat.add_sub_cancel, Nat.reducePow, Nat.zero_add, Nat.add_zero, Nat.reduceAdd, Nat.reduceMul, Nat.reduceSub, xf_same, xq_ff, xq_fo, xf_1, xf_2, xs_1, xs_2, xs_same, xq_so, xj_1, xj_2, xj_same, xq_jo, xq_sa1, xq_same, xq_other, upd_s, oI_n, oI_s, s5]
      refine by_if_ne 22 rfl ?_
      simp (disch := first | exact Nat.ne_of_beq_eq_false rfl | omega) only [nI_add, xa_sub, xa_mul, pk_div, nm_mod, xa_shr, xa_and7, xa_and1, xa_and255, xa_by_and, nI_m1, Nat.add_sub_cancel, Nat.reducePow, Nat.zero_add, Nat.add_zero, Nat.reduceAdd, Nat.reduceMul, Nat.reduceSub, xf_same, xq_ff, xq_fo, xf_1, xf_2, xs_1, xs_2, xs_same, xq_so, xj_1, xj_2, xj_same, xq_jo, xq_sa1, xq_same, xq_other, upd_s, oI_n, oI_s, xv_0, xv_1, xv_2, xv_3, xm_p1, xm_p2, List.filter_cons, List.filter_nil, Nat.reduceBEq, Bool.not_true, Bool.not_false, Bool.and_true, Bool.and_false, Bool.false_and, Bool.true_and, if_true, if_false, Bool.false_eq_true, reduceIte, xc_i, xc_j, xc_r, xc_n, List.nil_append, List.cons_append, Option.toList_some, Option.toList_none, nI_ltJ, nI_leJ, nI_eqJ, nI_ltz, nI_gez, nI_gtz, nI_lez, nI_eqz, m1_ltz, m1_gez, true_imp_iff, false_imp_iff, true_and, and_true, ne_eq, not_false_eq_true, not_true_eq_false, Nat.reduceEqDiff, Nat.reduceLT, Nat.reduceLeDiff, s5]
      with_reducible refine xm_go_blk b_X12_readChild_12 k_X12_readChild_12 ?_
      refine by_iload_n rfl ?_
      refine by_iload_n rfl ?_
      refine by_ic_le 22 rfl ?_
      simp (disch := first | exact Nat.ne_of_beq_eq_false rfl | omega) only [nI_add, xa_sub, xa_mul, pk_div, nm_mod, xa_shr, xa_and7, xa_and1, xa_and255, xa_by_and, nI_m1, Nat.add_sub_cancel, Nat.reducePow, Nat.zero_add, Nat.add_zero, Nat.reduceAdd, Nat.reduceMul, Nat.reduceSub, xf_same, xq_ff, xq_fo, xf_1, xf_2, xs_1, xs_2, xs_same, xq_so, xj_1, xj_2, xj_same, xq_jo, xq_sa1, xq_same, xq_other, upd_s, oI_n, oI_s, xv_0, xv_1, xv_2, xv_3, xm_p1, xm_p2, List.filter_cons, List.filter_nil, Nat.reduceBEq, Bool.not_true, Bool.not_false, Bool.and_true, Bool.and_false, Bool.false_and, Bool.true_and, if_true, if_false, Bool.false_eq_true, reduceIte, xc_i, xc_j, xc_r, xc_n, List.nil_append, List.cons_append, Option.toList_some, Option.toList_none, nI_ltJ, nI_leJ, nI_eqJ, nI_ltz, nI_gez, nI_gtz, nI_lez, nI_eqz, m1_ltz, m1_gez, true_imp_iff, false_imp_iff, true_and, and_true, ne_eq, not_false_eq_true, not_true_eq_false, Nat.reduceEqDiff, Nat.reduceLT, Nat.reduceLeDiff, s5]
      refine ⟨fun c => absurd c (by omega), fun c12 => ?_⟩
      with_reducible refine xm_go_blk b_X12_readChild_17 k_X12_readChild_17 ?_
      refine by_aload_n rfl ?_
      refine by_iconst ci_3 ?_
      refine by_putf cn_281 fl_12_330 (by first | exact rfl | assumption) (by decide) nf_12_67 ft_12_67 (by first | rfl | assumption) (by first | rfl | assumption) ?_
      refine by_nil ?_
      with_reducible refine xm_go_blk b_X12_readChild_22 k_X12_readChild_22 ?_
      refine by_iload_n rfl ?_
      refine by_iload_n rfl ?_
      refine by_isub ?_
      simp (disch := first | exact Nat.ne_of_beq_eq_false rfl | omega) only [nI_add, xa_sub, xa_mul, pk_div, nm_mod, xa_shr, xa_and7, xa_and1, xa_and255, xa_by_and, nI_m1, Nat.add_sub_cancel, Nat.reducePow, Nat.zero_add, Nat.add_zero, Nat.reduceAdd, Nat.reduceMul, Nat.reduceSub, xf_same, xq_ff, xq_fo, xf_1, xf_2, xs_1, xs_2, xs_same, xq_so, xj_1, xj_2, xj_same, xq_jo, xq_sa1, xq_same, xq_other, upd_s, oI_n, oI_s, s5]
      refine by_iret ry_281 (by first | rfl | assumption) ?_
      refine hp _ _ ⟨Fr_sf hfr (by decide), ?_⟩
      unfold pr_ch
      rw [hr]
      show match (if n < k then Except.error 3 else Except.ok (n - k, b)) with
        | .error x => _
        | .ok (i, b) => _
      rw [if_pos (by omega)]
      exact ⟨by decide, b, mrS_f hS' (by decide)⟩
def ndM1 (h : xm_H) (q : pr_D) (j : Nat) : Prop := h.1 105 j = nI q.1 ∧ h.1 106 j = oI q.2.1 ∧ h.1 107 j = oI q.2.2.1 ∧ h.1 108 j = nI q.2.2.2.1 ∧ (q.1 = 11 → ∀ k, k < 8 → h.1 110 (8 * j + k) = nI (q.2.2.2.2 k))
def ndM (h : xm_H) (ps : List pr_D) : Prop := ∀ j, j < ps.length → ndM1 h (nd ps j) j
def mrT : List (Nat × Nat) := [(102, 65), (102, 67)]
def mrR : List Nat := [105, 106, 107, 108, 110]
def MM (n : Nat) (h h' : xm_H) : Prop := (∀ j, j < n → h'.1 105 j = h.1 105 j ∧ h'.1 106 j = h.1 106 j ∧ h'.1 107 j = h.1 107 j ∧ h'.1 108 j = h.1 108 j) ∧ ∀ k, k < 8 * n → h'.1 110 k = h.1 110 k
theorem MM_rf {n : Nat} {h : xm_H} : MM n h h := ⟨fun _ _ => ⟨rfl, rfl, rfl, rfl⟩, fun _ _ => rfl⟩
theorem MM_fr {n : Nat} {T : List (Nat × Nat)} {h h1 h2 : xm_H} (a : MM n h h1) (b : Fr [] T h1 h2) : MM n h h2 :=
  ⟨fun j hj => by
    obtain ⟨a1, a2, a3, a4⟩ := a.1 j hj
    exact ⟨by rw [b.1 _ (by simp), a1], by rw [b.1 _ (by simp), a2], by rw [b.1 _ (by simp), a3], by rw [b.1 _ (by simp), a4]⟩, fun k hk => by rw [b.1 _ (by simp), a.2 k hk]⟩
theorem MM_si {n c : Nat} {x : Int32} {h h1 : xm_H} (a : MM n h h1) (hc : c ≠ 110) : MM n h (xm_si h1 c n x) := by
  have e : ∀ c' j, j < n → (xm_si h1 c n x).1 c' j = h1.1 c' j := by
    intro c' j hj
    by_cases e1 : c' = c
    · subst e1
      rw [xs_same, upd_o (by omega)]
    · rw [xq_so e1]
  refine ⟨fun j hj => ?_, fun k hk => ?_⟩
  · obtain ⟨a1, a2, a3, a4⟩ := a.1 j hj
    exact ⟨by rw [e _ _ hj, a1], by rw [e _ _ hj, a2], by rw [e _ _ hj, a3], by rw [e _ _ hj, a4]⟩
  · rw [xq_so (fun z => hc z.symm), a.2 k hk]
theorem MM_sh {n k : Nat} {x : Int32} {h h1 : xm_H} (a : MM n h h1) (hk : 8 * n ≤ k) : MM n h (xm_si h1 110 k x) := by
  refine ⟨fun j hj => ?_, fun i hi => ?_⟩
  · obtain ⟨a1, a2, a3, a4⟩ := a.1 j hj
    exact ⟨by rw [xq_so (by omega), a1], by rw [xq_so (by omega), a2], by rw [xq_so (by omega), a3], by rw [xq_so (by omega), a4]⟩
  · rw [xs_same, upd_o (by omega), a.2 i hi]
theorem ndM_new {h h' : xm_H} {ps : List pr_D} {q : pr_D} (hC : ndM h ps) (hS : MM ps.length h h') (hq : ndM1 h' q ps.length) : ndM h' (ps ++ [q]) := by
  intro j hj
  by_cases e : j = ps.length
  · subst e
    rw [nd_r]
    exact hq
  · have hj2 : j < ps.length := by simp at hj; omega
    rw [nd_l hj2]
    obtain ⟨a1, a2, a3, a4⟩ := hS.1 j hj2
    obtain ⟨b1, b2, b3, b4, b5⟩ := hC j hj2
    exact ⟨by rw [a1, b1], by rw [a2, b2], by rw [a3, b3], by rw [a4, b4], fun e k hk => by rw [hS.2 _ (by omega), b5 e k hk]⟩
def mrNd (h h' : xm_H) (l : List Nat) (ps : List pr_D) (r : Except Nat (pr_D × Nat)) : Prop := Fr mrR mrT h h' ∧ match r with
  | .error x => 1 ≤ x ∧ ∃ a', mrS h' l a' x
  | .ok (q, b) => mrS h' l b 0 ∧ ndM h' (ps ++ [q])
def mrAd (h h' : xm_H) (n c : Nat) : Prop := Fr mrR mrT h h' ∧ MM n h h' ∧ h'.1 105 n = nI c ∧ h'.1 106 n = -1 ∧ h'.1 107 n = -1 ∧ h'.1 108 n = nI 0
theorem mrAd_fr {h h' h2 : xm_H} {n c : Nat} (hA : mrAd h h' n c) (hf : Fr [] [(102, 65), (102, 67)] h' h2) : mrAd h h2 n c := by
  obtain ⟨a1, a2, a5, a6, a7, a8⟩ := hA
  exact ⟨Fr_tr a1 hf (by simp) (by simp [mrT]), MM_fr a2 hf, by rw [hf.1 _ (by simp), a5], by rw [hf.1 _ (by simp), a6], by rw [hf.1 _ (by simp), a7], by rw [hf.1 _ (by simp), a8]⟩
theorem mrS_si {h : xm_H} {a f c j : Nat} {x : Int32} {l : List Nat} (hS : mrS h l a f) (hc : c ≠ 103) : mrS (xm_si h c j x) l a f := by
  have h1 : Fr [c] [] h (xm_si h c j x) := Fr_si Fr_rf (by simp)
  exact mrS_fr hS h1 (by decide +kernel) (by simp) (by simp <;> omega) (by rw [h1.2.2 _ _ (by simp)]; exact hS.2.2.1) (by rw [h1.2.2 _ _ (by simp)]; exact hS.2.2.2.2.1) hS.2.2.2.2.2.1 hS.2.2.2.2.2.2
section MRN
variable {sc : xm_Sc} {d a c : Nat} {l : List Nat} {h h' h2 : xm_H} {post : xm_Po} {ps : List pr_D}
theorem mrn_0 (hC : ndM h ps) (hA : mrAd h h' ps.length c) {b : Nat} (hS : mrS h' l b 0) (hc : c ≠ 11) : mrNd h h' l ps (.ok ((c, none, none, 0, fun _ => 0), b)) := by
  obtain ⟨a1, a2, a5, a6, a7, a8⟩ := hA
  exact ⟨a1, hS, ndM_new hC a2 ⟨a5, a6, a7, a8, fun e => absurd e hc⟩⟩
theorem mrn_100 {n : Nat} (hc : c ≤ 10) (hp : post none h') : xm_go (XE sc) (xm_T (XE sc) (d + 5)) 282 post 100 [(2, .int (nI c)), (0, .ref 102), (1, .int (nI n))] [] h' := by
  have e1 : (c = 11) = False := eq_false (by omega)
  have e2 : (c = 12) = False := eq_false (by omega)
  with_reducible refine xm_go_blk b_X12_readNode_100 k_X12_readNode_100 ?_
  refine by_iconst ci_0 ?_
  refine by_istore_n (by rw [ml_282]; decide) ?_
  refine by_nil ?_
  simp (disch := first | exact Nat.ne_of_beq_eq_false rfl | omega) only [nI_add, xa_sub, xa_mul, pk_div, nm_mod, xa_shr, xa_and7, xa_and1, xa_and255, xa_by_and, nI_m1, Nat.add_sub_cancel, Nat.reducePow, Nat.zero_add, Nat.add_zero, Nat.reduceAdd, Nat.reduceMul, Nat.reduceSub, xf_same, xq_ff, xq_fo, xf_1, xf_2, xs_1, xs_2, xs_same, xq_so, xj_1, xj_2, xj_same, xq_jo, xq_sa1, xq_same, xq_other, upd_s, oI_n, oI_s, xv_0, xv_1, xv_2, xv_3, xm_p1, xm_p2, List.filter_cons, List.filter_nil, Nat.reduceBEq, Bool.not_true, Bool.not_false, Bool.and_true, Bool.and_false, Bool.false_and, Bool.true_and, if_true, if_false, Bool.false_eq_true, reduceIte, xc_i, xc_j, xc_r, xc_n, List.nil_append, List.cons_append, Option.toList_some, Option.toList_none, e1, e2]
  with_reducible refine xm_go_blk b_X12_readNode_102 k_X12_readNode_102 ?_
  refine by_iload_n rfl ?_
  refine by_bipush cb_11 ?_
  refine by_ic_ne 137 rfl ?_
  simp (disch := first | exact Nat.ne_of_beq_eq_false rfl | omega) only [nI_add, xa_sub, xa_mul, pk_div, nm_mod, xa_shr, xa_and7, xa_and1, xa_and255, xa_by_and, nI_m1, Nat.add_sub_cancel, Nat.reducePow, Nat.zero_add, Nat.add_zero, Nat.reduceAdd, Nat.reduceMul, Nat.reduceSub, xf_same, xq_ff, xq_fo, xf_1, xf_2, xs_1, xs_2, xs_same, xq_so, xj_1, xj_2, xj_same, xq_jo, xq_sa1, xq_same, xq_other, upd_s, oI_n, oI_s, xv_0, xv_1, xv_2, xv_3, xm_p1, xm_p2, List.filter_cons, List.filter_nil, Nat.reduceBEq, Bool.not_true, Bool.not_false, Bool.and_true, Bool.and_false, Bool.false_and, Bool.true_and, if_true, if_false, Bool.false_eq_true, reduceIte, xc_i, xc_j, xc_r, xc_n, List.nil_append, List.cons_append, Option.toList_some, Option.toList_none, nI_ltJ, nI_leJ, nI_eqJ, nI_ltz, nI_gez, nI_gtz, nI_lez, nI_eqz, m1_ltz, m1_gez, true_imp_iff, false_imp_iff, true_and, and_true, ne_eq, not_false_eq_true, not_true_eq_false, Nat.reduceEqDiff, Nat.reduceLT, Nat.reduceLeDiff, e1, e2]
  with_reducible refine xm_go_blk b_X12_readNode_137 k_X12_readNode_137 ?_
  refine by_iload_n rfl ?_
  refine by_bipush cb_12 ?_
  refine by_ic_eq 144 rfl ?_
  simp (disch := first | exact Nat.ne_of_beq_eq_false rfl | omega) only [nI_add, xa_sub, xa_mul, pk_div, nm_mod, xa_shr, xa_and7, xa_and1, xa_and255, xa_by_and, nI_m1, Nat.add_sub_cancel, Nat.reducePow, Nat.zero_add, Nat.add_zero, Nat.reduceAdd, Nat.reduceMul, Nat.reduceSub, xf_same, xq_ff, xq_fo, xf_1, xf_2, xs_1, xs_2, xs_same, xq_so, xj_1, xj_2, xj_same, xq_jo, xq_sa1, xq_same, xq_other, upd_s, oI_n, oI_s, xv_0, xv_1, xv_2, xv_3, xm_p1, xm_p2, List.filter_cons, List.filter_nil, Nat.reduceBEq, Bool.not_true, Bool.not_false, Bool.and_true, Bool.and_false, Bool.false_and, Bool.true_and, if_true, if_false, Bool.false_eq_true, reduceIte, xc_i, xc_j, xc_r, xc_n, List.nil_append, List.cons_append, Option.toList_some, Option.toList_none, nI_ltJ, nI_leJ, nI_eqJ, nI_ltz, nI_gez, nI_gtz, nI_lez, nI_eqz, m1_ltz, m1_gez, true_imp_iff, false_imp_iff, true_and, and_true, ne_eq, not_false_eq_true, not_true_eq_false, Nat.reduceEqDiff, Nat.reduceLT, Nat.reduceLeDiff, e1, e2]
  with_reducible refine xm_go_blk b_X12_readNode_143 k_X12_readNode_143 ?_
  refine by_ret ry_282 ?_
  exact hp
theorem mrn_1 (hC : ndM h ps) (hA : mrAd h h' ps.length c) {b i : Nat} (hS : mrS h' l b 0) (hc : c ≠ 11) : mrNd h (xm_si h' 106 ps.length (nI i)) l ps (.ok ((c, some i, none, 0, fun _ => 0), b)) := by
  obtain ⟨a1, a2, a5, a6, a7, a8⟩ := hA
  exact ⟨Fr_si a1 (by decide), mrS_si hS (by decide), ndM_new hC (MM_si a2 (by decide)) ⟨by rw [xq_so (by omega)]; exact a5, by rw [xs_same, upd_s]; rfl, by rw [xq_so (by omega)]; exact a7, by rw [xq_so (by omega)]; exact a8, fun e => absurd e hc⟩⟩
theorem mrn_2 (hC : ndM h ps) (hA : mrAd h h' ps.length c) {b i j : Nat} (hf : Fr [] [(102, 65), (102, 67)] (xm_si h' 106 ps.length (nI i)) h2) (hS : mrS h2 l b 0) (hc : c ≠ 11) : mrNd h (xm_si h2 107 ps.length (nI j)) l ps (.ok ((c, some i, some j, 0, fun _ => 0), b)) := by
  obtain ⟨a1, a2, a5, a6, a7, a8⟩ := hA
  refine ⟨Fr_si (Fr_tr (Fr_si a1 (by decide)) hf (by simp) (by simp [mrT])) (by decide), mrS_si hS (by decide), ndM_new hC (MM_si (MM_fr (MM_si a2 (by decide)) hf) (by decide)) ⟨?_, ?_, ?_, ?_, fun e => absurd e hc⟩⟩
  · rw [xq_so (by omega), hf.1 _ (by simp), xq_so (by omega)]; exact a5
  · rw [xq_so (by omega), hf.1 _ (by simp), xs_same, upd_s]; rfl
  · rw [xs_same, upd_s]; rfl
  · rw [xq_so (by omega), hf.1 _ (by simp), xq_so (by omega)]; exact a8
theorem mrn_c (hC : ndM h ps) (hA : mrAd h h' ps.length c) (hS : mrS h' l a 0) (hn : ps.length < 2000) (hc : c ≤ 6) (hp : ∀ h'', mrNd h h'' l ps (pr_rest (by_bit l) (8 * l.length) ps.length c a) → post none h'') :
    xm_go (XE sc) (xm_T (XE sc) (d + 5)) 282 post 66 [(2, .int (nI c)), (0, .ref 102), (1, .int (nI ps.length))] [] h' := by
  have hS0 := hS
  obtain ⟨s1, s2, s3, s4, s5, s6, s7⟩ := hS0
  unfold pr_rest at hp
  rw [if_pos hc] at hp
  with_reducible refine xm_go_blk b_X12_readNode_66 k_X12_readNode_66 ?_
  refine by_aload_n rfl ?_
  refine by_getf cn_282 fl_12_19 (by first | exact rfl | assumption) (by decide) ?_
  refine by_iload_n rfl ?_
  refine by_aload_n rfl ?_
  refine by_iload_n rfl ?_
  simp (disch := first | exact Nat.ne_of_beq_eq_false rfl | omega) only [nI_add, xa_sub, xa_mul, pk_div, nm_mod, xa_shr, xa_and7, xa_and1, xa_and255, xa_by_and, nI_m1, Nat.add_sub_cancel, Nat.reducePow, Nat.zero_add, Nat.add_zero, Nat.reduceAdd, Nat.reduceMul, Nat.reduceSub, xf_same, xq_ff, xq_fo, xf_1, xf_2, xs_1, xs_2, xs_same, xq_so, xj_1, xj_2, xj_same, xq_jo, xq_sa1, xq_same, xq_other, upd_s, oI_n, oI_s, xv_0, xv_1, xv_2, xv_3, xm_p1, xm_p2, List.filter_cons, List.filter_nil, Nat.reduceBEq, Bool.not_true, Bool.not_false, Bool.and_true, Bool.and_false, Bool.false_and, Bool.true_and, if_true, if_false, Bool.false_eq_true, reduceIte, xc_i, xc_j, xc_r, xc_n, List.nil_append, List.cons_append, Option.toList_some, Option.toList_none, xf_102_7 s1]
  refine by_inv1 cn_282 lk_12_348 (by rw [xe_cnt]; decide) is_281 np_281 cn_281 (by first | exact rfl | assumption) (Nat.le_of_ble_eq_true rfl) ?_
  refine sp_mch (by omega) hS (fun y h2 hch => ?_)
  obtain ⟨hf, hch⟩ := hch
  cases hr : pr_ch (by_bit l) (8 * l.length) ps.length a with
  | error x =>
    rw [hr] at hch
    obtain ⟨hx1, a', hS2⟩ := hch
    have f7 := hS2.2.2.2.2.1
    have hx2 := hS2.2.2.2.2.2.2
    have hx0 : (x = 0) = False := eq_false (by omega)
    have hE : post none (xm_si h2 106 ps.length y) := by
      refine hp _ ?_
      rw [hr]
      exact ⟨Fr_si (Fr_tr hA.1 hf (by simp) (by simp [mrT])) (by decide), hx1, a', mrS_si hS2 (by decide)⟩
    by_cases h2c : c ≤ 2
    · with_reducible refine xm_go_blk b_X12_readNode_76 k_X12_readNode_76 ?_
      refine by_iast (by first | exact rfl | assumption | exact ps_1 hpp | exact ps_2 hpp | exact ps_3 hpp | exact ps_4 hpp | exact ps_5 hpp | exact ps_6 hpp | exact ps_7 hpp | exact ps_8 hpp | exact ps_9 hpp | exact ps_10 hpp | exact ps_11 hpp | exact ps_15 hpp | exact ps_16 hpp | exact ps_17 hpp | exact ps_18 hpp | exact ps_19 hpp | exact ps_21 hpp | exact ps_22 hpp | exact ps_23 hpp | exact ps_24 hpp) ⟨by omega, by omega⟩ ?_
      refine by_nil ?_
      with_reducible refine xm_go_blk b_X12_readNode_77 k_X12_readNode_77 ?_
      refine by_iload_n rfl ?_
      refine by_iconst ci_2 ?_
      refine by_ic_gt 100 rfl ?_
      simp (disch := first | exact Nat.ne_of_beq_eq_false rfl | omega) only [nI_add, xa_sub, xa_mul, pk_div, nm_mod, xa_shr, xa_and7, xa_and1, xa_and255, xa_by_and, nI_m1, Nat.add_sub_cancel, Nat.reducePow, Nat.zero_add, Nat.add_zero, Nat.reduceAdd, Nat.reduceMul, Nat.reduceSub, xf_same, xq_ff, xq_fo, xf_1, xf_2, xs_1, xs_2, xs_same, xq_so, xj_1, xj_2, xj_same, xq_jo, xq_sa1, xq_same, xq_other, upd_s, oI_n, oI_s, xv_0, xv_1, xv_2, xv_3, xm_p1, xm_p2, List.filter_cons, List.filter_nil, Nat.reduceBEq, Bool.not_true, Bool.not_false, Bool.and_true, Bool.and_false, Bool.false_and, Bool.true_and, if_true, if_false, Bool.false_eq_true, reduceIte, xc_i, xc_j, xc_r, xc_n, List.nil_append, List.cons_append, Option.toList_some, Option.toList_none, nI_ltJ, nI_leJ, nI_eqJ, nI_ltz, nI_gez, nI_gtz, nI_lez, nI_eqz, m1_ltz, m1_gez, true_imp_iff, false_imp_iff, true_and, and_true, ne_eq, not_false_eq_true, not_true_eq_false, Nat.reduceEqDiff, Nat.reduceLT, Nat.reduceLeDiff, f7, hx0]
      refine ⟨fun c => absurd c (by omega), fun c77 => ?_⟩
      with_reducible refine xm_go_blk b_X12_readNode_82 k_X12_readNode_82 ?_
      refine by_aload_n rfl ?_
      refine by_getf cn_282 fl_12_330 (by first | exact rfl | assumption) (by decide) ?_
      simp (disch := first | exact Nat.ne_of_beq_eq_false rfl | omega) only [nI_add, xa_sub, xa_mul, pk_div, nm_mod, xa_shr, xa_and7, xa_and1, xa_and255, xa_by_and, nI_m1, Nat.add_sub_cancel, Nat.reducePow, Nat.zero_add, Nat.add_zero, Nat.reduceAdd, Nat.reduceMul, Nat.reduceSub, xf_same, xq_ff, xq_fo, xf_1, xf_2, xs_1, xs_2, xs_same, xq_so, xj_1, xj_2, xj_same, xq_jo, xq_sa1, xq_same, xq_other, upd_s, oI_n, oI_s, f7, hx0]
      refine by_if_ne 100 rfl ?_
      simp (disch := first | exact Nat.ne_of_beq_eq_false rfl | omega) only [nI_add, xa_sub, xa_mul, pk_div, nm_mod, xa_shr, xa_and7, xa_and1, xa_and255, xa_by_and, nI_m1, Nat.add_sub_cancel, Nat.reducePow, Nat.zero_add, Nat.add_zero, Nat.reduceAdd, Nat.reduceMul, Nat.reduceSub, xf_same, xq_ff, xq_fo, xf_1, xf_2, xs_1, xs_2, xs_same, xq_so, xj_1, xj_2, xj_same, xq_jo, xq_sa1, xq_same, xq_other, upd_s, oI_n, oI_s, xv_0, xv_1, xv_2, xv_3, xm_p1, xm_p2, List.filter_cons, List.filter_nil, Nat.reduceBEq, Bool.not_true, Bool.not_false, Bool.and_true, Bool.and_false, Bool.false_and, Bool.true_and, if_true, if_false, Bool.false_eq_true, reduceIte, xc_i, xc_j, xc_r, xc_n, List.nil_append, List.cons_append, Option.toList_some, Option.toList_none, nI_ltJ, nI_leJ, nI_eqJ, nI_ltz, nI_gez, nI_gtz, nI_lez, nI_eqz, m1_ltz, m1_gez, true_imp_iff, false_imp_iff, true_and, and_true, ne_eq, not_false_eq_true, not_true_eq_false, Nat.reduceEqDiff, Nat.reduceLT, Nat.reduceLeDiff, f7, hx0]
      exact mrn_100 (by omega) hE
    · with_reducible refine xm_go_blk b_X12_readNode_76 k_X12_readNode_76 ?_
      refine by_iast (by first | exact rfl | assumption | exact ps_1 hpp | exact ps_2 hpp | exact ps_3 hpp | exact ps_4 hpp | exact ps_5 hpp | exact ps_6 hpp | exact ps_7 hpp | exact ps_8 hpp | exact ps_9 hpp | exact ps_10 hpp | exact ps_11 hpp | exact ps_15 hpp | exact ps_16 hpp | exact ps_17 hpp | exact ps_18 hpp | exact ps_19 hpp | exact ps_21 hpp | exact ps_22 hpp | exact ps_23 hpp | exact ps_24 hpp) ⟨by omega, by omega⟩ ?_
      refine by_nil ?_
      with_reducible refine xm_go_blk b_X12_readNode_77 k_X12_readNode_77 ?_
      refine by_iload_n rfl ?_
      refine by_iconst ci_2 ?_
      refine by_ic_gt 100 rfl ?_
      simp (disch := first | exact Nat.ne_of_beq_eq_false rfl | omega) only [nI_add, xa_sub, xa_mul, pk_div, nm_mod, xa_shr, xa_and7, xa_and1, xa_and255, xa_by_and, nI_m1, Nat.add_sub_cancel, Nat.reducePow, Nat.zero_add, Nat.add_zero, Nat.reduceAdd, Nat.reduceMul, Nat.reduceSub, xf_same, xq_ff, xq_fo, xf_1, xf_2, xs_1, xs_2, xs_same, xq_so, xj_1, xj_2, xj_same, xq_jo, xq_sa1, xq_same, xq_other, upd_s, oI_n, oI_s, xv_0, xv_1, xv_2, xv_3, xm_p1, xm_p2, List.filter_cons, List.filter_nil, Nat.reduceBEq, Bool.not_true, Bool.not_false, Bool.and_true, Bool.and_false, Bool.false_and, Bool.true_and, if_true, if_false, Bool.false_eq_true, reduceIte, xc_i, xc_j, xc_r, xc_n, List.nil_append, List.cons_append, Option.toList_some, Option.toList_none, nI_ltJ, nI_leJ, nI_eqJ, nI_ltz, nI_gez, nI_gtz, nI_lez, nI_eqz, m1_ltz, m1_gez, true_imp_iff, false_imp_iff, true_and, and_true, ne_eq, not_false_eq_true, not_true_eq_false, Nat.reduceEqDiff, Nat.reduceLT, Nat.reduceLeDiff]
      refine ⟨fun c77 => ?_, fun c => absurd (by omega) c⟩
      exact mrn_100 (by omega) hE
  | ok q =>
    obtain ⟨i, b⟩ := q
    rw [hr] at hch hp
    obtain ⟨rfl, hS2⟩ := hch
    have f7 := hS2.2.2.2.2.1
    have hk := pr_ch_le (by_bit_lt l) s6 hr
    have hA2 := mrAd_fr hA hf
    by_cases h2c : c ≤ 2
    · simp only [if_pos h2c] at hp
      have hS3 := mrS_si (c := 106) (j := ps.length) (x := nI i) hS2 (by decide)
      with_reducible refine xm_go_blk b_X12_readNode_76 k_X12_readNode_76 ?_
      refine by_iast (by first | exact rfl | assumption | exact ps_1 hpp | exact ps_2 hpp | exact ps_3 hpp | exact ps_4 hpp | exact ps_5 hpp | exact ps_6 hpp | exact ps_7 hpp | exact ps_8 hpp | exact ps_9 hpp | exact ps_10 hpp | exact ps_11 hpp | exact ps_15 hpp | exact ps_16 hpp | exact ps_17 hpp | exact ps_18 hpp | exact ps_19 hpp | exact ps_21 hpp | exact ps_22 hpp | exact ps_23 hpp | exact ps_24 hpp) ⟨by omega, by omega⟩ ?_
      refine by_nil ?_
      with_reducible refine xm_go_blk b_X12_readNode_77 k_X12_readNode_77 ?_
      refine by_iload_n rfl ?_
      refine by_iconst ci_2 ?_
      refine by_ic_gt 100 rfl ?_
      simp (disch := first | exact Nat.ne_of_beq_eq_false rfl | omega) only [nI_add, xa_sub, xa_mul, pk_div, nm_mod, xa_shr, xa_and7, xa_and1, xa_and255, xa_by_and, nI_m1, Nat.add_sub_cancel, Nat.reducePow, Nat.zero_add, Nat.add_zero, Nat.reduceAdd, Nat.reduceMul, Nat.reduceSub, xf_same, xq_ff, xq_fo, xf_1, xf_2, xs_1, xs_2, xs_same, xq_so, xj_1, xj_2, xj_same, xq_jo, xq_sa1, xq_same, xq_other, upd_s, oI_n, oI_s, xv_0, xv_1, xv_2, xv_3, xm_p1, xm_p2, List.filter_cons, List.filter_nil, Nat.reduceBEq, Bool.not_true, Bool.not_false, Bool.and_true, Bool.and_false, Bool.false_and, Bool.true_and, if_true, if_false, Bool.false_eq_true, reduceIte, xc_i, xc_j, xc_r, xc_n, List.nil_append, List.cons_append, Option.toList_some, Option.toList_none, nI_ltJ, nI_leJ, nI_eqJ, nI_ltz, nI_gez, nI_gtz, nI_lez, nI_eqz, m1_ltz, m1_gez, true_imp_iff, false_imp_iff, true_and, and_true, ne_eq, not_false_eq_true, not_true_eq_false, Nat.reduceEqDiff, Nat.reduceLT, Nat.reduceLeDiff, f7, xf_102_8 hS2.1]
      refine ⟨fun c => absurd c (by omega), fun c77 => ?_⟩
      with_reducible refine xm_go_blk b_X12_readNode_82 k_X12_readNode_82 ?_
      refine by_aload_n rfl ?_
      refine by_getf cn_282 fl_12_330 (by first | exact rfl | assumption) (by decide) ?_
      simp (disch := first | exact Nat.ne_of_beq_eq_false rfl | omega) only [nI_add, xa_sub, xa_mul, pk_div, nm_mod, xa_shr, xa_and7, xa_and1, xa_and255, xa_by_and, nI_m1, Nat.add_sub_cancel, Nat.reducePow, Nat.zero_add, Nat.add_zero, Nat.reduceAdd, Nat.reduceMul, Nat.reduceSub, xf_same, xq_ff, xq_fo, xf_1, xf_2, xs_1, xs_2, xs_same, xq_so, xj_1, xj_2, xj_same, xq_jo, xq_sa1, xq_same, xq_other, upd_s, oI_n, oI_s, f7, xf_102_8 hS2.1]
      refine by_if_ne 100 rfl ?_
      simp (disch := first | exact Nat.ne_of_beq_eq_false rfl | omega) only [nI_add, xa_sub, xa_mul, pk_div, nm_mod, xa_shr, xa_and7, xa_and1, xa_and255, xa_by_and, nI_m1, Nat.add_sub_cancel, Nat.reducePow, Nat.zero_add, Nat.add_zero, Nat.reduceAdd, Nat.reduceMul, Nat.reduceSub, xf_same, xq_ff, xq_fo, xf_1, xf_2, xs_1, xs_2, xs_same, xq_so, xj_1, xj_2, xj_same, xq_jo, xq_sa1, xq_same, xq_other, upd_s, oI_n, oI_s, xv_0, xv_1, xv_2, xv_3, xm_p1, xm_p2, List.filter_cons, List.filter_nil, Nat.reduceBEq, Bool.not_true, Bool.not_false, Bool.and_true, Bool.and_false, Bool.false_and, Bool.true_and, if_true, if_false, Bool.false_eq_true, reduceIte, xc_i, xc_j, xc_r, xc_n, List.nil_append, List.cons_append, Option.toList_some, Option.toList_none, nI_ltJ, nI_leJ, nI_eqJ, nI_ltz, nI_gez, nI_gtz, nI_lez, nI_eqz, m1_ltz, m1_gez, true_imp_iff, false_imp_iff, true_and, and_true, ne_eq, not_false_eq_true, not_true_eq_false, Nat.reduceEqDiff, Nat.reduceLT, Nat.reduceLeDiff, f7, xf_102_8 hS2.1]
      with_reducible refine xm_go_blk b_X12_readNode_89 k_X12_readNode_89 ?_
      refine by_aload_n rfl ?_
      refine by_getf cn_282 fl_12_22 (by first | exact rfl | assumption) (by decide) ?_
      refine by_iload_n rfl ?_
      refine by_aload_n rfl ?_
      refine by_iload_n rfl ?_
      simp (disch := first | exact Nat.ne_of_beq_eq_false rfl | omega) only [nI_add, xa_sub, xa_mul, pk_div, nm_mod, xa_shr, xa_and7, xa_and1, xa_and255, xa_by_and, nI_m1, Nat.add_sub_cancel, Nat.reducePow, Nat.zero_add, Nat.add_zero, Nat.reduceAdd, Nat.reduceMul, Nat.reduceSub, xf_same, xq_ff, xq_fo, xf_1, xf_2, xs_1, xs_2, xs_same, xq_so, xj_1, xj_2, xj_same, xq_jo, xq_sa1, xq_same, xq_other, upd_s, oI_n, oI_s, xv_0, xv_1, xv_2, xv_3, xm_p1, xm_p2, List.filter_cons, List.filter_nil, Nat.reduceBEq, Bool.not_true, Bool.not_false, Bool.and_true, Bool.and_false, Bool.false_and, Bool.true_and, if_true, if_false, Bool.false_eq_true, reduceIte, xc_i, xc_j, xc_r, xc_n, List.nil_append, List.cons_append, Option.toList_some, Option.toList_none, f7, xf_102_8 hS2.1]
      refine by_inv1 cn_282 lk_12_348 (by rw [xe_cnt]; decide) is_281 np_281 cn_281 (by first | exact rfl | assumption) (Nat.le_of_ble_eq_true rfl) ?_
      refine sp_mch (by omega) hS3 (fun y h3 hch => ?_)
      obtain ⟨hf3, hch⟩ := hch
      cases hr2 : pr_ch (by_bit l) (8 * l.length) ps.length b with
      | error x =>
        rw [hr2] at hch hp
        obtain ⟨hx1, a', hS4⟩ := hch
        with_reducible refine xm_go_blk b_X12_readNode_99 k_X12_readNode_99 ?_
        refine by_iast (by first | exact rfl | assumption | exact ps_1 hpp | exact ps_2 hpp | exact ps_3 hpp | exact ps_4 hpp | exact ps_5 hpp | exact ps_6 hpp | exact ps_7 hpp | exact ps_8 hpp | exact ps_9 hpp | exact ps_10 hpp | exact ps_11 hpp | exact ps_15 hpp | exact ps_16 hpp | exact ps_17 hpp | exact ps_18 hpp | exact ps_19 hpp | exact ps_21 hpp | exact ps_22 hpp | exact ps_23 hpp | exact ps_24 hpp) ⟨by omega, by omega⟩ ?_
        refine by_nil ?_
        refine mrn_100 (by omega) (hp _ ?_)
        exact ⟨Fr_si (Fr_tr (Fr_si hA2.1 (by decide)) hf3 (by simp) (by simp [mrT])) (by decide), hx1, a', mrS_si hS4 (by decide)⟩
      | ok q =>
        obtain ⟨j, b'⟩ := q
        rw [hr2] at hch hp
        obtain ⟨rfl, hS4⟩ := hch
        with_reducible refine xm_go_blk b_X12_readNode_99 k_X12_readNode_99 ?_
        refine by_iast (by first | exact rfl | assumption | exact ps_1 hpp | exact ps_2 hpp | exact ps_3 hpp | exact ps_4 hpp | exact ps_5 hpp | exact ps_6 hpp | exact ps_7 hpp | exact ps_8 hpp | exact ps_9 hpp | exact ps_10 hpp | exact ps_11 hpp | exact ps_15 hpp | exact ps_16 hpp | exact ps_17 hpp | exact ps_18 hpp | exact ps_19 hpp | exact ps_21 hpp | exact ps_22 hpp | exact ps_23 hpp | exact ps_24 hpp) ⟨by omega, by omega⟩ ?_
        refine by_nil ?_
        exact mrn_100 (by omega) (hp _ (mrn_2 hC hA2 hf3 hS4 (by omega)))
    · simp only [if_neg h2c] at hp
      with_reducible refine xm_go_blk b_X12_readNode_76 k_X12_readNode_76 ?_
      refine by_iast (by first | exact rfl | assumption | exact ps_1 hpp | exact ps_2 hpp | exact ps_3 hpp | exact ps_4 hpp | exact ps_5 hpp | exact ps_6 hpp | exact ps_7 hpp | exact ps_8 hpp | exact ps_9 hpp | exact ps_10 hpp | exact ps_11 hpp | exact ps_15 hpp | exact ps_16 hpp | exact ps_17 hpp | exact ps_18 hpp | exact ps_19 hpp | exact ps_21 hpp | exact ps_22 hpp | exact ps_23 hpp | exact ps_24 hpp) ⟨by omega, by omega⟩ ?_
      refine by_nil ?_
      with_reducible refine xm_go_blk b_X12_readNode_77 k_X12_readNode_77 ?_
      refine by_iload_n rfl ?_
      refine by_iconst ci_2 ?_
      refine by_ic_gt 100 rfl ?_
      simp (disch := first | exact Nat.ne_of_beq_eq_false rfl | omega) only [nI_add, xa_sub, xa_mul, pk_div, nm_mod, xa_shr, xa_and7, xa_and1, xa_and255, xa_by_and, nI_m1, Nat.add_sub_cancel, Nat.reducePow, Nat.zero_add, Nat.add_zero, Nat.reduceAdd, Nat.reduceMul, Nat.reduceSub, xf_same, xq_ff, xq_fo, xf_1, xf_2, xs_1, xs_2, xs_same, xq_so, xj_1, xj_2, xj_same, xq_jo, xq_sa1, xq_same, xq_other, upd_s, oI_n, oI_s, xv_0, xv_1, xv_2, xv_3, xm_p1, xm_p2, List.filter_cons, List.filter_nil, Nat.reduceBEq, Bool.not_true, Bool.not_false, Bool.and_true, Bool.and_false, Bool.false_and, Bool.true_and, if_true, if_false, Bool.false_eq_true, reduceIte, xc_i, xc_j, xc_r, xc_n, List.nil_append, List.cons_append, Option.toList_some, Option.toList_none, nI_ltJ, nI_leJ, nI_eqJ, nI_ltz, nI_gez, nI_gtz, nI_lez, nI_eqz, m1_ltz, m1_gez, true_imp_iff, false_imp_iff, true_and, and_true, ne_eq, not_false_eq_true, not_true_eq_false, Nat.reduceEqDiff, Nat.reduceLT, Nat.reduceLeDiff]
      refine ⟨fun c77 => ?_, fun c => absurd (by omega) c⟩
      exact mrn_100 (by omega) (hp _ (mrn_1 hC hA2 hS2 (by omega)))
/-- hidden words -/
theorem mrn_hb {n i a' : Nat} (hi : i ≤ 8) (hn : n < 2000) : ∀ m i h', i + m = 8 → Fr mrR mrT h h' → mrS h' l a' 1 → (∀ h'', Fr mrR mrT h h'' → mrS h'' l a' 1 → post none h'') → xm_go (XE sc) (xm_T (XE sc) (d + 5)) 282 post 102 [(3, .int (nI i)), (2, .int (nI 11)), (0, .ref 102), (1, .int (nI n))] [] h' := by
  intro m
  induction m with
  | zero =>
    intro i h' hi hf hS hp
    have hi : i = 8 := by omega
    subst hi
    with_reducible refine xm_go_blk b_X12_readNode_102 k_X12_readNode_102 ?_
    refine by_iload_n rfl ?_
    refine by_bipush cb_11 ?_
    refine by_ic_ne 137 rfl ?_
    simp (disch := first | exact Nat.ne_of_beq_eq_false rfl | omega) only [nI_add, xa_sub, xa_mul, pk_div, nm_mod, xa_shr, xa_and7, xa_and1, xa_and255, xa_by_and, nI_m1, Nat.add_sub_cancel, Nat.reducePow, Nat.zero_add, Nat.add_zero, Nat.reduceAdd, Nat.reduceMul, Nat.reduceSub, xf_same, xq_ff, xq_fo, xf_1, xf_2, xs_1, xs_2, xs_same, xq_so, xj_1, xj_2, xj_same, xq_jo, xq_sa1, xq_same, xq_other, upd_s, oI_n, oI_s, xv_0, xv_1, xv_2, xv_3, xm_p1, xm_p2, List.filter_cons, List.filter_nil, Nat.reduceBEq, Bool.not_true, Bool.not_false, Bool.and_true, Bool.and_false, Bool.false_and, Bool.true_and, if_true, if_false, Bool.false_eq_true, reduceIte, xc_i, xc_j, xc_r, xc_n, List.nil_append, List.cons_append, Option.toList_some, Option.toList_none, nI_ltJ, nI_leJ, nI_eqJ, nI_ltz, nI_gez, nI_gtz, nI_lez, nI_eqz, m1_ltz, m1_gez, true_imp_iff, false_imp_iff, true_and, and_true, ne_eq, not_false_eq_true, not_true_eq_false, Nat.reduceEqDiff, Nat.reduceLT, Nat.reduceLeDiff]
    with_reducible refine xm_go_blk b_X12_readNode_108 k_X12_readNode_108 ?_
    refine by_iload_n rfl ?_
    refine by_bipush cb_8 ?_
    refine by_ic_ge 137 rfl ?_
    simp (disch := first | exact Nat.ne_of_beq_eq_false rfl | omega) only [nI_add, xa_sub, xa_mul, pk_div, nm_mod, xa_shr, xa_and7, xa_and1, xa_and255, xa_by_and, nI_m1, Nat.add_sub_cancel, Nat.reducePow, Nat.zero_add, Nat.add_zero, Nat.reduceAdd, Nat.reduceMul, Nat.reduceSub, xf_same, xq_ff, xq_fo, xf_1, xf_2, xs_1, xs_2, xs_same, xq_so, xj_1, xj_2, xj_same, xq_jo, xq_sa1, xq_same, xq_other, upd_s, oI_n, oI_s, xv_0, xv_1, xv_2, xv_3, xm_p1, xm_p2, List.filter_cons, List.filter_nil, Nat.reduceBEq, Bool.not_true, Bool.not_false, Bool.and_true, Bool.and_false, Bool.false_and, Bool.true_and, if_true, if_false, Bool.false_eq_true, reduceIte, xc_i, xc_j, xc_r, xc_n, List.nil_append, List.cons_append, Option.toList_some, Option.toList_none, nI_ltJ, nI_leJ, nI_eqJ, nI_ltz, nI_gez, nI_gtz, nI_lez, nI_eqz, m1_ltz, m1_gez, true_imp_iff, false_imp_iff, true_and, and_true, ne_eq, not_false_eq_true, not_true_eq_false, Nat.reduceEqDiff, Nat.reduceLT, Nat.reduceLeDiff]
    with_reducible refine xm_go_blk b_X12_readNode_137 k_X12_readNode_137 ?_
    refine by_iload_n rfl ?_
    refine by_bipush cb_12 ?_
    refine by_ic_eq 144 rfl ?_
    simp (disch := first | exact Nat.ne_of_beq_eq_false rfl | omega) only [nI_add, xa_sub, xa_mul, pk_div, nm_mod, xa_shr, xa_and7, xa_and1, xa_and255, xa_by_and, nI_m1, Nat.add_sub_cancel, Nat.reducePow, Nat.zero_add, Nat.add_zero, Nat.reduceAdd, Nat.reduceMul, Nat.reduceSub, xf_same, xq_ff, xq_fo, xf_1, xf_2, xs_1, xs_2, xs_same, xq_so, xj_1, xj_2, xj_same, xq_jo, xq_sa1, xq_same, xq_other, upd_s, oI_n, oI_s, xv_0, xv_1, xv_2, xv_3, xm_p1, xm_p2, List.filter_cons, List.filter_nil, Nat.reduceBEq, Bool.not_true, Bool.not_false, Bool.and_true, Bool.and_false, Bool.false_and, Bool.true_and, if_true, if_false, Bool.false_eq_true, reduceIte, xc_i, xc_j, xc_r, xc_n, List.nil_append, List.cons_append, Option.toList_some, Option.toList_none, nI_ltJ, nI_leJ, nI_eqJ, nI_ltz, nI_gez, nI_gtz, nI_lez, nI_eqz, m1_ltz, m1_gez, true_imp_iff, false_imp_iff, true_and, and_true, ne_eq, not_false_eq_true, not_true_eq_false, Nat.reduceEqDiff, Nat.reduceLT, Nat.reduceLeDiff]
    with_reducible refine xm_go_blk b_X12_readNode_143 k_X12_readNode_143 ?_
    refine by_ret ry_282 ?_
    exact hp _ hf hS
  | succ m ih =>
    intro i h' hi hf hS hp
    with_reducible refine xm_go_blk b_X12_readNode_102 k_X12_readNode_102 ?_
    refine by_iload_n rfl ?_
    refine by_bipush cb_11 ?_
    refine by_ic_ne 137 rfl ?_
    simp (disch := first | exact Nat.ne_of_beq_eq_false rfl | omega) only [nI_add, xa_sub, xa_mul, pk_div, nm_mod, xa_shr, xa_and7, xa_and1, xa_and255, xa_by_and, nI_m1, Nat.add_sub_cancel, Nat.reducePow, Nat.zero_add, Nat.add_zero, Nat.reduceAdd, Nat.reduceMul, Nat.reduceSub, xf_same, xq_ff, xq_fo, xf_1, xf_2, xs_1, xs_2, xs_same, xq_so, xj_1, xj_2, xj_same, xq_jo, xq_sa1, xq_same, xq_other, upd_s, oI_n, oI_s, xv_0, xv_1, xv_2, xv_3, xm_p1, xm_p2, List.filter_cons, List.filter_nil, Nat.reduceBEq, Bool.not_true, Bool.not_false, Bool.and_true, Bool.and_false, Bool.false_and, Bool.true_and, if_true, if_false, Bool.false_eq_true, reduceIte, xc_i, xc_j, xc_r, xc_n, List.nil_append, List.cons_append, Option.toList_some, Option.toList_none, nI_ltJ, nI_leJ, nI_eqJ, nI_ltz, nI_gez, nI_gtz, nI_lez, nI_eqz, m1_ltz, m1_gez, true_imp_iff, false_imp_iff, true_and, and_true, ne_eq, not_false_eq_true, not_true_eq_false, Nat.reduceEqDiff, Nat.reduceLT, Nat.reduceLeDiff, xf_102_11 hS.1]
    with_reducible refine xm_go_blk b_X12_readNode_108 k_X12_readNode_108 ?_
    refine by_iload_n rfl ?_
    refine by_bipush cb_8 ?_
    refine by_ic_ge 137 rfl ?_
    simp (disch := first | exact Nat.ne_of_beq_eq_false rfl | omega) only [nI_add, xa_sub, xa_mul, pk_div, nm_mod, xa_shr, xa_and7, xa_and1, xa_and255, xa_by_and, nI_m1, Nat.add_sub_cancel, Nat.reducePow, Nat.zero_add, Nat.add_zero, Nat.reduceAdd, Nat.reduceMul, Nat.reduceSub, xf_same, xq_ff, xq_fo, xf_1, xf_2, xs_1, xs_2, xs_same, xq_so, xj_1, xj_2, xj_same, xq_jo, xq_sa1, xq_same, xq_other, upd_s, oI_n, oI_s, xv_0, xv_1, xv_2, xv_3, xm_p1, xm_p2, List.filter_cons, List.filter_nil, Nat.reduceBEq, Bool.not_true, Bool.not_false, Bool.and_true, Bool.and_false, Bool.false_and, Bool.true_and, if_true, if_false, Bool.false_eq_true, reduceIte, xc_i, xc_j, xc_r, xc_n, List.nil_append, List.cons_append, Option.toList_some, Option.toList_none, nI_ltJ, nI_leJ, nI_eqJ, nI_ltz, nI_gez, nI_gtz, nI_lez, nI_eqz, m1_ltz, m1_gez, true_imp_iff, false_imp_iff, true_and, and_true, ne_eq, not_false_eq_true, not_true_eq_false, Nat.reduceEqDiff, Nat.reduceLT, Nat.reduceLeDiff, xf_102_11 hS.1]
    refine ⟨fun c => absurd c (by omega), fun c108 => ?_⟩
    with_reducible refine xm_go_blk b_X12_readNode_114 k_X12_readNode_114 ?_
    refine by_aload_n rfl ?_
    refine by_getf cn_282 fl_12_31 (by first | exact rfl | assumption) (by decide) ?_
    refine by_bipush cb_8 ?_
    refine by_iload_n rfl ?_
    refine by_imul ?_
    refine by_iload_n rfl ?_
    refine by_iadd ?_
    refine by_aload_n rfl ?_
    refine by_bipush cb_32 ?_
    simp (disch := first | exact Nat.ne_of_beq_eq_false rfl | omega) only [nI_add, xa_sub, xa_mul, pk_div, nm_mod, xa_shr, xa_and7, xa_and1, xa_and255, xa_by_and, nI_m1, Nat.add_sub_cancel, Nat.reducePow, Nat.zero_add, Nat.add_zero, Nat.reduceAdd, Nat.reduceMul, Nat.reduceSub, xf_same, xq_ff, xq_fo, xf_1, xf_2, xs_1, xs_2, xs_same, xq_so, xj_1, xj_2, xj_same, xq_jo, xq_sa1, xq_same, xq_other, upd_s, oI_n, oI_s, xv_0, xv_1, xv_2, xv_3, xm_p1, xm_p2, List.filter_cons, List.filter_nil, Nat.reduceBEq, Bool.not_true, Bool.not_false, Bool.and_true, Bool.and_false, Bool.false_and, Bool.true_and, if_true, if_false, Bool.false_eq_true, reduceIte, xc_i, xc_j, xc_r, xc_n, List.nil_append, List.cons_append, Option.toList_some, Option.toList_none, xf_102_11 hS.1]
    refine by_inv1 cn_282 lk_12_342 (by rw [xe_cnt]; decide) is_210 np_210 cn_210 (by first | exact rfl | assumption) (Nat.le_of_ble_eq_true rfl) ?_
    refine sp_mbits hS (by decide) (fun _ y => ?_) (fun c => absurd c (by decide)) (fun c => absurd c (by decide))
    with_reducible refine xm_go_blk b_X12_readNode_130 k_X12_readNode_130 ?_
    refine by_iast (by first | exact rfl | assumption | exact ps_1 hpp | exact ps_2 hpp | exact ps_3 hpp | exact ps_4 hpp | exact ps_5 hpp | exact ps_6 hpp | exact ps_7 hpp | exact ps_8 hpp | exact ps_9 hpp | exact ps_10 hpp | exact ps_11 hpp | exact ps_15 hpp | exact ps_16 hpp | exact ps_17 hpp | exact ps_18 hpp | exact ps_19 hpp | exact ps_21 hpp | exact ps_22 hpp | exact ps_23 hpp | exact ps_24 hpp) ⟨by omega, by omega⟩ ?_
    refine by_iinc (by rw [ml_282]; decide) rfl ci_1 ?_
    refine by_goto 102 rfl ?_
    simp (disch := first | exact Nat.ne_of_beq_eq_false rfl | omega) only [nI_add, xa_sub, xa_mul, pk_div, nm_mod, xa_shr, xa_and7, xa_and1, xa_and255, xa_by_and, nI_m1, Nat.add_sub_cancel, Nat.reducePow, Nat.zero_add, Nat.add_zero, Nat.reduceAdd, Nat.reduceMul, Nat.reduceSub, xf_same, xq_ff, xq_fo, xf_1, xf_2, xs_1, xs_2, xs_same, xq_so, xj_1, xj_2, xj_same, xq_jo, xq_sa1, xq_same, xq_other, upd_s, oI_n, oI_s, xv_0, xv_1, xv_2, xv_3, xm_p1, xm_p2, List.filter_cons, List.filter_nil, Nat.reduceBEq, Bool.not_true, Bool.not_false, Bool.and_true, Bool.and_false, Bool.false_and, Bool.true_and, if_true, if_false, Bool.false_eq_true, reduceIte, xc_i, xc_j, xc_r, xc_n, List.nil_append, List.cons_append, Option.toList_some, Option.toList_none]
    exact ih (i + 1) _ (by omega) (Fr_si hf (by decide)) (mrS_si hS (by decide)) hp
theorem mrn_hk (hC : ndM h ps) (hn : ps.length < 2000) (hp : ∀ h'', mrNd h h'' l ps (if a + 256 ≤ 8 * l.length then .ok ((11, none, none, 0, fun k => pb (by_bit l) (a + 32 * k) 32), a + 256) else .error 1) → post none h'') : ∀ m i h', i + m = 8 → mrAd h h' ps.length 11 → mrS h' l (a + 32 * i) 0 → (∀ k, k < i → h'.1 110 (8 * ps.length + k) = nI (pb (by_bit l) (a + 32 * k) 32)) → xm_go (XE sc) (xm_T (XE sc) (d + 5)) 282 post 102 [(3, .int (nI i)), (2, .int (nI 11)), (0, .ref 102), (1, .int (nI ps.length))] [] h' := by
  intro m
  induction m with
  | zero =>
    intro i h' hi hA hS hk
    have hi : i = 8 := by omega
    subst hi
    have ha := hS.2.2.2.2.2.1
    with_reducible refine xm_go_blk b_X12_readNode_102 k_X12_readNode_102 ?_
    refine by_iload_n rfl ?_
    refine by_bipush cb_11 ?_
    refine by_ic_ne 137 rfl ?_
    simp (disch := first | exact Nat.ne_of_beq_eq_false rfl | omega) only [nI_add, xa_sub, xa_mul, pk_div, nm_mod, xa_shr, xa_and7, xa_and1, xa_and255, xa_by_and, nI_m1, Nat.add_sub_cancel, Nat.reducePow, Nat.zero_add, Nat.add_zero, Nat.reduceAdd, Nat.reduceMul, Nat.reduceSub, xf_same, xq_ff, xq_fo, xf_1, xf_2, xs_1, xs_2, xs_same, xq_so, xj_1, xj_2, xj_same, xq_jo, xq_sa1, xq_same, xq_other, upd_s, oI_n, oI_s, xv_0, xv_1, xv_2, xv_3, xm_p1, xm_p2, List.filter_cons, List.filter_nil, Nat.reduceBEq, Bool.not_true, Bool.not_false, Bool.and_true, Bool.and_false, Bool.false_and, Bool.true_and, if_true, if_false, Bool.false_eq_true, reduceIte, xc_i, xc_j, xc_r, xc_n, List.nil_append, List.cons_append, Option.toList_some, Option.toList_none, nI_ltJ, nI_leJ, nI_eqJ, nI_ltz, nI_gez, nI_gtz, nI_lez, nI_eqz, m1_ltz, m1_gez, true_imp_iff, false_imp_iff, true_and, and_true, ne_eq, not_false_eq_true, not_true_eq_false, Nat.reduceEqDiff, Nat.reduceLT, Nat.reduceLeDiff]
    with_reducible refine xm_go_blk b_X12_readNode_108 k_X12_readNode_108 ?_
    refine by_iload_n rfl ?_
    refine by_bipush cb_8 ?_
    refine by_ic_ge 137 rfl ?_
    simp (disch := first | exact Nat.ne_of_beq_eq_false rfl | omega) only [nI_add, xa_sub, xa_mul, pk_div, nm_mod, xa_shr, xa_and7, xa_and1, xa_and255, xa_by_and, nI_m1, Nat.add_sub_cancel, Nat.reducePow, Nat.zero_add, Nat.add_zero, Nat.reduceAdd, Nat.reduceMul, Nat.reduceSub, xf_same, xq_ff, xq_fo, xf_1, xf_2, xs_1, xs_2, xs_same, xq_so, xj_1, xj_2, xj_same, xq_jo, xq_sa1, xq_same, xq_other, upd_s, oI_n, oI_s, xv_0, xv_1, xv_2, xv_3, xm_p1, xm_p2, List.filter_cons, List.filter_nil, Nat.reduceBEq, Bool.not_true, Bool.not_false, Bool.and_true, Bool.and_false, Bool.false_and, Bool.true_and, if_true, if_false, Bool.false_eq_true, reduceIte, xc_i, xc_j, xc_r, xc_n, List.nil_append, List.cons_append, Option.toList_some, Option.toList_none, nI_ltJ, nI_leJ, nI_eqJ, nI_ltz, nI_gez, nI_gtz, nI_lez, nI_eqz, m1_ltz, m1_gez, true_imp_iff, false_imp_iff, true_and, and_true, ne_eq, not_false_eq_true, not_true_eq_false, Nat.reduceEqDiff, Nat.reduceLT, Nat.reduceLeDiff]
    with_reducible refine xm_go_blk b_X12_readNode_137 k_X12_readNode_137 ?_
    refine by_iload_n rfl ?_
    refine by_bipush cb_12 ?_
    refine by_ic_eq 144 rfl ?_
    simp (disch := first | exact Nat.ne_of_beq_eq_false rfl | omega) only [nI_add, xa_sub, xa_mul, pk_div, nm_mod, xa_shr, xa_and7, xa_and1, xa_and255, xa_by_and, nI_m1, Nat.add_sub_cancel, Nat.reducePow, Nat.zero_add, Nat.add_zero, Nat.reduceAdd, Nat.reduceMul, Nat.reduceSub, xf_same, xq_ff, xq_fo, xf_1, xf_2, xs_1, xs_2, xs_same, xq_so, xj_1, xj_2, xj_same, xq_jo, xq_sa1, xq_same, xq_other, upd_s, oI_n, oI_s, xv_0, xv_1, xv_2, xv_3, xm_p1, xm_p2, List.filter_cons, List.filter_nil, Nat.reduceBEq, Bool.not_true, Bool.not_false, Bool.and_true, Bool.and_false, Bool.false_and, Bool.true_and, if_true, if_false, Bool.false_eq_true, reduceIte, xc_i, xc_j, xc_r, xc_n, List.nil_append, List.cons_append, Option.toList_some, Option.toList_none, nI_ltJ, nI_leJ, nI_eqJ, nI_ltz, nI_gez, nI_gtz, nI_lez, nI_eqz, m1_ltz, m1_gez, true_imp_iff, false_imp_iff, true_and, and_true, ne_eq, not_false_eq_true, not_true_eq_false, Nat.reduceEqDiff, Nat.reduceLT, Nat.reduceLeDiff]
    with_reducible refine xm_go_blk b_X12_readNode_143 k_X12_readNode_143 ?_
    refine by_ret ry_282 ?_
    rw [if_pos (by omega)] at hp
    obtain ⟨a1, a2, a5, a6, a7, a8⟩ := hA
    exact hp _ ⟨a1, hS, ndM_new hC a2 ⟨a5, a6, a7, a8, fun _ k hk2 => hk k hk2⟩⟩
  | succ m ih =>
    intro i h' hi hA hS hk
    with_reducible refine xm_go_blk b_X12_readNode_102 k_X12_readNode_102 ?_
    refine by_iload_n rfl ?_
    refine by_bipush cb_11 ?_
    refine by_ic_ne 137 rfl ?_
    simp (disch := first | exact Nat.ne_of_beq_eq_false rfl | omega) only [nI_add, xa_sub, xa_mul, pk_div, nm_mod, xa_shr, xa_and7, xa_and1, xa_and255, xa_by_and, nI_m1, Nat.add_sub_cancel, Nat.reducePow, Nat.zero_add, Nat.add_zero, Nat.reduceAdd, Nat.reduceMul, Nat.reduceSub, xf_same, xq_ff, xq_fo, xf_1, xf_2, xs_1, xs_2, xs_same, xq_so, xj_1, xj_2, xj_same, xq_jo, xq_sa1, xq_same, xq_other, upd_s, oI_n, oI_s, xv_0, xv_1, xv_2, xv_3, xm_p1, xm_p2, List.filter_cons, List.filter_nil, Nat.reduceBEq, Bool.not_true, Bool.not_false, Bool.and_true, Bool.and_false, Bool.false_and, Bool.true_and, if_true, if_false, Bool.false_eq_true, reduceIte, xc_i, xc_j, xc_r, xc_n, List.nil_append, List.cons_append, Option.toList_some, Option.toList_none, nI_ltJ, nI_leJ, nI_eqJ, nI_ltz, nI_gez, nI_gtz, nI_lez, nI_eqz, m1_ltz, m1_gez, true_imp_iff, false_imp_iff, true_and, and_true, ne_eq, not_false_eq_true, not_true_eq_false, Nat.reduceEqDiff, Nat.reduceLT, Nat.reduceLeDiff, xf_102_11 hS.1]
    with_reducible refine xm_go_blk b_X12_readNode_108 k_X12_readNode_108 ?_
    refine by_iload_n rfl ?_
    refine by_bipush cb_8 ?_
    refine by_ic_ge 137 rfl ?_
    simp (disch := first | exact Nat.ne_of_beq_eq_false rfl | omega) only [nI_add, xa_sub, xa_mul, pk_div, nm_mod, xa_shr, xa_and7, xa_and1, xa_and255, xa_by_and, nI_m1, Nat.add_sub_cancel, Nat.reducePow, Nat.zero_add, Nat.add_zero, Nat.reduceAdd, Nat.reduceMul, Nat.reduceSub, xf_same, xq_ff, xq_fo, xf_1, xf_2, xs_1, xs_2, xs_same, xq_so, xj_1, xj_2, xj_same, xq_jo, xq_sa1, xq_same, xq_other, upd_s, oI_n, oI_s, xv_0, xv_1, xv_2, xv_3, xm_p1, xm_p2, List.filter_cons, List.filter_nil, Nat.reduceBEq, Bool.not_true, Bool.not_false, Bool.and_true, Bool.and_false, Bool.false_and, Bool.true_and, if_true, if_false, Bool.false_eq_true, reduceIte, xc_i, xc_j, xc_r, xc_n, List.nil_append, List.cons_append, Option.toList_some, Option.toList_none, nI_ltJ, nI_leJ, nI_eqJ, nI_ltz, nI_gez, nI_gtz, nI_lez, nI_eqz, m1_ltz, m1_gez, true_imp_iff, false_imp_iff, true_and, and_true, ne_eq, not_false_eq_true, not_true_eq_false, Nat.reduceEqDiff, Nat.reduceLT, Nat.reduceLeDiff, xf_102_11 hS.1]
    refine ⟨fun c => absurd c (by omega), fun c108 => ?_⟩
    with_reducible refine xm_go_blk b_X12_readNode_114 k_X12_readNode_114 ?_
    refine by_aload_n rfl ?_
    refine by_getf cn_282 fl_12_31 (by first | exact rfl | assumption) (by decide) ?_
    refine by_bipush cb_8 ?_
    refine by_iload_n rfl ?_
    refine by_imul ?_
    refine by_iload_n rfl ?_
    refine by_iadd ?_
    refine by_aload_n rfl ?_
    refine by_bipush cb_32 ?_
    simp (disch := first | exact Nat.ne_of_beq_eq_false rfl | omega) only [nI_add, xa_sub, xa_mul, pk_div, nm_mod, xa_shr, xa_and7, xa_and1, xa_and255, xa_by_and, nI_m1, Nat.add_sub_cancel, Nat.reducePow, Nat.zero_add, Nat.add_zero, Nat.reduceAdd, Nat.reduceMul, Nat.reduceSub, xf_same, xq_ff, xq_fo, xf_1, xf_2, xs_1, xs_2, xs_same, xq_so, xj_1, xj_2, xj_same, xq_jo, xq_sa1, xq_same, xq_other, upd_s, oI_n, oI_s, xv_0, xv_1, xv_2, xv_3, xm_p1, xm_p2, List.filter_cons, List.filter_nil, Nat.reduceBEq, Bool.not_true, Bool.not_false, Bool.and_true, Bool.and_false, Bool.false_and, Bool.true_and, if_true, if_false, Bool.false_eq_true, reduceIte, xc_i, xc_j, xc_r, xc_n, List.nil_append, List.cons_append, Option.toList_some, Option.toList_none, xf_102_11 hS.1]
    refine by_inv1 cn_282 lk_12_342 (by rw [xe_cnt]; decide) is_210 np_210 cn_210 (by first | exact rfl | assumption) (Nat.le_of_ble_eq_true rfl) ?_
    refine sp_mbits hS (by decide) (fun c => absurd rfl c) (fun _ hlt y h2 hf hS2 => ?_) (fun _ hle h2 hf hS2 => ?_)
    · with_reducible refine xm_go_blk b_X12_readNode_130 k_X12_readNode_130 ?_
      refine by_iast (by first | exact rfl | assumption | exact ps_1 hpp | exact ps_2 hpp | exact ps_3 hpp | exact ps_4 hpp | exact ps_5 hpp | exact ps_6 hpp | exact ps_7 hpp | exact ps_8 hpp | exact ps_9 hpp | exact ps_10 hpp | exact ps_11 hpp | exact ps_15 hpp | exact ps_16 hpp | exact ps_17 hpp | exact ps_18 hpp | exact ps_19 hpp | exact ps_21 hpp | exact ps_22 hpp | exact ps_23 hpp | exact ps_24 hpp) ⟨by omega, by omega⟩ ?_
      refine by_iinc (by rw [ml_282]; decide) rfl ci_1 ?_
      refine by_goto 102 rfl ?_
      simp (disch := first | exact Nat.ne_of_beq_eq_false rfl | omega) only [nI_add, xa_sub, xa_mul, pk_div, nm_mod, xa_shr, xa_and7, xa_and1, xa_and255, xa_by_and, nI_m1, Nat.add_sub_cancel, Nat.reducePow, Nat.zero_add, Nat.add_zero, Nat.reduceAdd, Nat.reduceMul, Nat.reduceSub, xf_same, xq_ff, xq_fo, xf_1, xf_2, xs_1, xs_2, xs_same, xq_so, xj_1, xj_2, xj_same, xq_jo, xq_sa1, xq_same, xq_other, upd_s, oI_n, oI_s, xv_0, xv_1, xv_2, xv_3, xm_p1, xm_p2, List.filter_cons, List.filter_nil, Nat.reduceBEq, Bool.not_true, Bool.not_false, Bool.and_true, Bool.and_false, Bool.false_and, Bool.true_and, if_true, if_false, Bool.false_eq_true, reduceIte, xc_i, xc_j, xc_r, xc_n, List.nil_append, List.cons_append, Option.toList_some, Option.toList_none]
      rw [if_neg (by omega)] at hp
      refine mrn_hb (i := i) (by omega) hn m (i + 1) _ (by omega) (Fr_si (Fr_tr hA.1 hf (by simp) (by simp [mrT])) (by decide)) (mrS_si hS2 (by decide)) (fun h'' hf2 hS3 => hp _ ⟨hf2, by decide, _, hS3⟩)
    · with_reducible refine xm_go_blk b_X12_readNode_130 k_X12_readNode_130 ?_
      refine by_iast (by first | exact rfl | assumption | exact ps_1 hpp | exact ps_2 hpp | exact ps_3 hpp | exact ps_4 hpp | exact ps_5 hpp | exact ps_6 hpp | exact ps_7 hpp | exact ps_8 hpp | exact ps_9 hpp | exact ps_10 hpp | exact ps_11 hpp | exact ps_15 hpp | exact ps_16 hpp | exact ps_17 hpp | exact ps_18 hpp | exact ps_19 hpp | exact ps_21 hpp | exact ps_22 hpp | exact ps_23 hpp | exact ps_24 hpp) ⟨by omega, by omega⟩ ?_
      refine by_iinc (by rw [ml_282]; decide) rfl ci_1 ?_
      refine by_goto 102 rfl ?_
      simp (disch := first | exact Nat.ne_of_beq_eq_false rfl | omega) only [nI_add, xa_sub, xa_mul, pk_div, nm_mod, xa_shr, xa_and7, xa_and1, xa_and255, xa_by_and, nI_m1, Nat.add_sub_cancel, Nat.reducePow, Nat.zero_add, Nat.add_zero, Nat.reduceAdd, Nat.reduceMul, Nat.reduceSub, xf_same, xq_ff, xq_fo, xf_1, xf_2, xs_1, xs_2, xs_same, xq_so, xj_1, xj_2, xj_same, xq_jo, xq_sa1, xq_same, xq_other, upd_s, oI_n, oI_s, xv_0, xv_1, xv_2, xv_3, xm_p1, xm_p2, List.filter_cons, List.filter_nil, Nat.reduceBEq, Bool.not_true, Bool.not_false, Bool.and_true, Bool.and_false, Bool.false_and, Bool.true_and, if_true, if_false, Bool.false_eq_true, reduceIte, xc_i, xc_j, xc_r, xc_n, List.nil_append, List.cons_append, Option.toList_some, Option.toList_none]
      have hA2 := mrAd_fr hA hf
      refine ih (i + 1) _ (by omega) ?_ ?_ (fun k hk2 => ?_)
      · obtain ⟨a1, a2, a5, a6, a7, a8⟩ := hA2
        exact ⟨Fr_si a1 (by decide), MM_sh a2 (by omega), by rw [xq_so (by omega)]; exact a5, by rw [xq_so (by omega)]; exact a6, by rw [xq_so (by omega)]; exact a7, by rw [xq_so (by omega)]; exact a8⟩
      · have := mrS_si (c := 110) (j := 8 * ps.length + i) (x := nI (pb (by_bit l) (a + 32 * i) 32)) hS2 (by decide)
        rw [show a + 32 * i + 32 = a + 32 * (i + 1) by omega] at this
        exact this
      · rw [xs_same]
        by_cases e : k = i
        · subst e
          rw [upd_s]
        · rw [upd_o (by omega), hf.1 _ (by simp), hk k (by omega)]
end MRN
