/-! ===== Loader: hidden bits, a node ===== -/
/-- rows of nodes below n stay, and hidden words below w -/
def SM (pp n w : Nat) (h h' : xm_H) : Prop := (∀ j, j < n → h'.1 (pp + 1) j = h.1 (pp + 1) j ∧ h'.1 (pp + 2) j = h.1 (pp + 2) j ∧ h'.1 (pp + 3) j = h.1 (pp + 3) j ∧ h'.1 (pp + 4) j = h.1 (pp + 4) j) ∧ ∀ k, k < w → h'.1 (pp + 11) k = h.1 (pp + 11) k
theorem SM_rf {pp n w : Nat} {h : xm_H} : SM pp n w h h := ⟨fun _ _ => ⟨rfl, rfl, rfl, rfl⟩, fun _ _ => rfl⟩
theorem SM_fr {pp n w : Nat} {T : List (Nat × Nat)} {h h1 h2 : xm_H} (a : SM pp n w h h1) (b : Fr [] T h1 h2) : SM pp n w h h2 :=
  ⟨fun j hj => by
    obtain ⟨a1, a2, a3, a4⟩ := a.1 j hj
    exact ⟨by rw [b.1 _ (by simp), a1], by rw [b.1 _ (by simp), a2], by rw [b.1 _ (by simp), a3], by rw [b.1 _ (by simp), a4]⟩, fun k hk => by rw [b.1 _ (by simp), a.2 k hk]⟩
theorem SM_sf {pp n w c j : Nat} {v : Value} {h h1 : xm_H} (a : SM pp n w h h1) : SM pp n w h (xm_sf h1 c j v) := a
theorem SM_si {pp n w c : Nat} {x : Int32} {h h1 : xm_H} (a : SM pp n w h h1) (hc : c ≠ pp + 11) : SM pp n w h (xm_si h1 c n x) := by
  have e : ∀ c' j, j < n → (xm_si h1 c n x).1 c' j = h1.1 c' j := by
    intro c' j hj
    by_cases e1 : c' = c
    · subst e1
      rw [xs_same, upd_o (by omega)]
    · rw [xq_so e1]
  refine ⟨fun j hj => ?_, fun k hk => ?_⟩
  · obtain ⟨a1, a2, a3, a4⟩ := a.1 j hj
    exact ⟨by rw [e _ _ hj, a1], by rw [e _ _ hj, a2], by rw [e _ _ hj, a3], by rw [e _ _ hj, a4]⟩
  · rw [xq_so (fun z => hc z.symm), a.2 k hk]
theorem SM_sh {pp n w k : Nat} {x : Int32} {h h1 : xm_H} (a : SM pp n w h h1) (hk : w ≤ k) : SM pp n w h (xm_si h1 (pp + 11) k x) := by
  refine ⟨fun j hj => ?_, fun i hi => ?_⟩
  · obtain ⟨a1, a2, a3, a4⟩ := a.1 j hj
    exact ⟨by rw [xq_so (by omega), a1], by rw [xq_so (by omega), a2], by rw [xq_so (by omega), a3], by rw [xq_so (by omega), a4]⟩
  · rw [xs_same, upd_o (by omega), a.2 i hi]
theorem ndC_new {h h' : xm_H} {pp hn nh nh' : Nat} {ps : List pr_D} {q : pr_D} {hx : Nat → Nat} (hC : ndC h pp ps hx nh) (hS : SM pp ps.length (8 * nh) h h') (h0 : h'.2.2 pp 0 = .int (nI (ps.length + 1))) (h15 : h'.2.2 pp 15 = .int (nI nh')) (hnn : nh ≤ nh') (hn2 : nh' ≤ 255) (hq : ndC1 h' pp q ps.length hn nh') : ndC h' pp (ps ++ [q]) (fun j => if j = ps.length then hn else hx j) nh' := by
  refine ⟨by rw [h0]; simp, h15, hn2, fun j hj => ?_⟩
  by_cases e : j = ps.length
  · subst e
    rw [nd_r]
    simp only [if_true]
    exact hq
  · have hj2 : j < ps.length := by simp at hj; omega
    rw [nd_l hj2]
    simp only [if_neg e]
    obtain ⟨a1, a2, a3, a4⟩ := hS.1 j hj2
    exact ndC1_fr (n := 0) (hC.2.2.2 j hj2) hnn a1 a2 a3 a4 hS.2
theorem pb32 (v : Nat → Nat) (a : Nat) (hv : ∀ p, v p < 2) : nI (pb v a 16) <<< (nI 16 &&& 31) ||| nI (pb v (a + 16) 16) = nI (pb v a 32) := by
  rw [nI_shl _ (by decide), nI_orp (pb_lt hv _ 16), pb_add v a 16 16]
/-- hidden words that were read so far -/
def rdH (h0 h' : xm_H) (pp : Nat) (l : List Nat) (n nh a i : Nat) : Prop := Fr (ldR pp) (ldT pp) h0 h' ∧ SM pp n (8 * nh) h0 h' ∧ h'.2.2 pp 15 = .int (nI (nh + 1)) ∧ h'.2.2 pp 0 = h0.2.2 pp 0 ∧ (∀ c, c ≠ pp + 4 → c ≠ pp + 11 → h'.1 c = h0.1 c) ∧ h'.1 (pp + 4) n = nI (8 * nh) ∧ ∀ k, k < i → h'.1 (pp + 11) (8 * nh + k) = nI (pb (by_bit l) (a + 32 * k) 32)
theorem rdH_s {h0 h' h2 : xm_H} {pp n nh a i : Nat} {l : List Nat} {x : Int32} (hpp : pp = 52 ∨ pp = 77) (hR : rdH h0 h' pp l n nh a i) (hf : Fr [] [(45, 3), (45, 5)] h' h2) (hx : x = nI (pb (by_bit l) (a + 32 * i) 32)) : rdH h0 (xm_si h2 (pp + 11) (8 * nh + i) x) pp l n nh a (i + 1) := by
  obtain ⟨r1, r2, r3, r4, r5, r6, r7⟩ := hR
  refine ⟨Fr_si (Fr_tr r1 hf (by simp) (by simp [ldT])) (by simp [ldR]), SM_sh (SM_fr r2 hf) (by omega), ?_, ?_, fun c h4 h11 => ?_, ?_, fun k hk => ?_⟩
  · rw [xs_1, hf.2.2 _ _ (by simp), r3]
  · rw [xs_1, hf.2.2 _ _ (by simp), r4]
  · rw [xq_so h11, hf.1 _ (by simp), r5 c h4 h11]
  · rw [xq_so (by omega), hf.1 _ (by simp), r6]
  · rw [xs_same]
    by_cases e : k = i
    · subst e
      rw [upd_s, hx]
    · rw [upd_o (by omega), hf.1 _ (by simp), r7 k (by omega)]
section RDH
variable {sc : xm_Sc} {d pp a n nh i : Nat} {l : List Nat} {h h' : xm_H} {post : xm_Po}
/-- a turn that ends in a fault: on to the end -/
theorem rdH_e {a' : Nat} (hi : i ≤ 8) (hS : ldS h' pp l a' 1) (hp : post none h') : xm_go (XE sc) (xm_T (XE sc) (d + 3)) 71 post 20 [(3, .int (nI i)), (2, .int (nI (8 * nh))), (0, .ref 45), (1, .int (nI n))] [] h' := by
  have s7 := hS.2.2.2.2.2.2.1
  by_cases hi : i < 8
  · with_reducible refine xm_go_blk b_X3_readHidden_20 k_X3_readHidden_20 ?_
    refine by_iload_n rfl ?_
    refine by_bipush cb_8 ?_
    refine by_ic_ge 66 rfl ?_
    simp (disch := first | exact Nat.ne_of_beq_eq_false rfl | omega) only [nI_add, xa_sub, xa_mul, pk_div, nm_mod, xa_shr, xa_and7, xa_and1, xa_and255, xa_by_and, nI_m1, Nat.add_sub_cancel, Nat.reducePow, Nat.zero_add, Nat.add_zero, Nat.reduceAdd, Nat.reduceMul, Nat.reduceSub, xf_same, xq_ff, xq_fo, xf_1, xf_2, xs_1, xs_2, xs_same, xq_so, xj_1, xj_2, xj_same, xq_jo, xq_sa1, xq_same, xq_other, upd_s, oI_n, oI_s, xv_0, xv_1, xv_2, xv_3, xm_p1, xm_p2, List.filter_cons, List.filter_nil, Nat.reduceBEq, Bool.not_true, Bool.not_false, Bool.and_true, Bool.and_false, Bool.false_and, Bool.true_and, if_true, if_false, Bool.false_eq_true, reduceIte, xc_i, xc_j, xc_r, xc_n, List.nil_append, List.cons_append, Option.toList_some, Option.toList_none, nI_ltJ, nI_leJ, nI_eqJ, nI_ltz, nI_gez, nI_gtz, nI_lez, nI_eqz, m1_ltz, m1_gez, true_imp_iff, false_imp_iff, true_and, and_true, ne_eq, not_false_eq_true, not_true_eq_false, Nat.reduceEqDiff, Nat.reduceLT, Nat.reduceLeDiff, s7]
    refine ⟨fun c => absurd c (by omega), fun c20 => ?_⟩
    with_reducible refine xm_go_blk b_X3_readHidden_26 k_X3_readHidden_26 ?_
    refine by_aload_n rfl ?_
    refine by_getf cn_71 fl_3_47 (by first | exact rfl | assumption) (by decide) ?_
    simp (disch := first | exact Nat.ne_of_beq_eq_false rfl | omega) only [nI_add, xa_sub, xa_mul, pk_div, nm_mod, xa_shr, xa_and7, xa_and1, xa_and255, xa_by_and, nI_m1, Nat.add_sub_cancel, Nat.reducePow, Nat.zero_add, Nat.add_zero, Nat.reduceAdd, Nat.reduceMul, Nat.reduceSub, xf_same, xq_ff, xq_fo, xf_1, xf_2, xs_1, xs_2, xs_same, xq_so, xj_1, xj_2, xj_same, xq_jo, xq_sa1, xq_same, xq_other, upd_s, oI_n, oI_s, s7]
    refine by_if_ne 66 rfl ?_
    simp (disch := first | exact Nat.ne_of_beq_eq_false rfl | omega) only [nI_add, xa_sub, xa_mul, pk_div, nm_mod, xa_shr, xa_and7, xa_and1, xa_and255, xa_by_and, nI_m1, Nat.add_sub_cancel, Nat.reducePow, Nat.zero_add, Nat.add_zero, Nat.reduceAdd, Nat.reduceMul, Nat.reduceSub, xf_same, xq_ff, xq_fo, xf_1, xf_2, xs_1, xs_2, xs_same, xq_so, xj_1, xj_2, xj_same, xq_jo, xq_sa1, xq_same, xq_other, upd_s, oI_n, oI_s, xv_0, xv_1, xv_2, xv_3, xm_p1, xm_p2, List.filter_cons, List.filter_nil, Nat.reduceBEq, Bool.not_true, Bool.not_false, Bool.and_true, Bool.and_false, Bool.false_and, Bool.true_and, if_true, if_false, Bool.false_eq_true, reduceIte, xc_i, xc_j, xc_r, xc_n, List.nil_append, List.cons_append, Option.toList_some, Option.toList_none, nI_ltJ, nI_leJ, nI_eqJ, nI_ltz, nI_gez, nI_gtz, nI_lez, nI_eqz, m1_ltz, m1_gez, true_imp_iff, false_imp_iff, true_and, and_true, ne_eq, not_false_eq_true, not_true_eq_false, Nat.reduceEqDiff, Nat.reduceLT, Nat.reduceLeDiff, s7]
    with_reducible refine xm_go_blk b_X3_readHidden_66 k_X3_readHidden_66 ?_
    refine by_ret ry_71 ?_
    exact hp
  · with_reducible refine xm_go_blk b_X3_readHidden_20 k_X3_readHidden_20 ?_
    refine by_iload_n rfl ?_
    refine by_bipush cb_8 ?_
    refine by_ic_ge 66 rfl ?_
    simp (disch := first | exact Nat.ne_of_beq_eq_false rfl | omega) only [nI_add, xa_sub, xa_mul, pk_div, nm_mod, xa_shr, xa_and7, xa_and1, xa_and255, xa_by_and, nI_m1, Nat.add_sub_cancel, Nat.reducePow, Nat.zero_add, Nat.add_zero, Nat.reduceAdd, Nat.reduceMul, Nat.reduceSub, xf_same, xq_ff, xq_fo, xf_1, xf_2, xs_1, xs_2, xs_same, xq_so, xj_1, xj_2, xj_same, xq_jo, xq_sa1, xq_same, xq_other, upd_s, oI_n, oI_s, xv_0, xv_1, xv_2, xv_3, xm_p1, xm_p2, List.filter_cons, List.filter_nil, Nat.reduceBEq, Bool.not_true, Bool.not_false, Bool.and_true, Bool.and_false, Bool.false_and, Bool.true_and, if_true, if_false, Bool.false_eq_true, reduceIte, xc_i, xc_j, xc_r, xc_n, List.nil_append, List.cons_append, Option.toList_some, Option.toList_none, nI_ltJ, nI_leJ, nI_eqJ, nI_ltz, nI_gez, nI_gtz, nI_lez, nI_eqz, m1_ltz, m1_gez, true_imp_iff, false_imp_iff, true_and, and_true, ne_eq, not_false_eq_true, not_true_eq_false, Nat.reduceEqDiff, Nat.reduceLT, Nat.reduceLeDiff, s7]
    refine ⟨fun c20 => ?_, fun c => absurd (by omega) c⟩
    with_reducible refine xm_go_blk b_X3_readHidden_66 k_X3_readHidden_66 ?_
    refine by_ret ry_71 ?_
    exact hp
theorem ldS_si {h : xm_H} {pp a f c j : Nat} {x : Int32} {l : List Nat} (hS : ldS h pp l a f) (hc : c ≠ pp + 13) : ldS (xm_si h c j x) pp l a f := by
  have h1 : Fr [c] [] h (xm_si h c j x) := Fr_si Fr_rf (by simp)
  exact ldS_fr hS h1 (by decide +kernel) (by simp) (by simp) (by simp) (by simp <;> omega) (by simp) (by simp) (by rw [h1.2.2 _ _ (by simp)]; exact hS.2.2.2.2.1) (by rw [h1.2.2 _ _ (by simp)]; exact hS.2.2.2.2.2.2.1) hS.2.2.2.2.2.2.2.2.1 hS.2.2.2.2.2.2.2.2.2
theorem rdH_k (hnh : nh ≤ 254) (hA : a + 256 ≤ 8 * l.length → ∀ h', rdH h h' pp l n nh a 8 → ldS h' pp l (a + 256) 0 → post none h') (hB : 8 * l.length < a + 256 → ∀ h' a', Fr (ldR pp) (ldT pp) h h' → ldS h' pp l a' 1 → post none h') : ∀ m i h', i + m = 8 → rdH h h' pp l n nh a i → ldS h' pp l (a + 32 * i) 0 → xm_go (XE sc) (xm_T (XE sc) (d + 3)) 71 post 20 [(3, .int (nI i)), (2, .int (nI (8 * nh))), (0, .ref 45), (1, .int (nI n))] [] h' := by
  intro m
  induction m with
  | zero =>
    intro i h' hi hR hS
    have hi : i = 8 := by omega
    subst hi
    have ha := hS.2.2.2.2.2.2.2.2.1
    with_reducible refine xm_go_blk b_X3_readHidden_20 k_X3_readHidden_20 ?_
    refine by_iload_n rfl ?_
    refine by_bipush cb_8 ?_
    refine by_ic_ge 66 rfl ?_
    simp (disch := first | exact Nat.ne_of_beq_eq_false rfl | omega) only [nI_add, xa_sub, xa_mul, pk_div, nm_mod, xa_shr, xa_and7, xa_and1, xa_and255, xa_by_and, nI_m1, Nat.add_sub_cancel, Nat.reducePow, Nat.zero_add, Nat.add_zero, Nat.reduceAdd, Nat.reduceMul, Nat.reduceSub, xf_same, xq_ff, xq_fo, xf_1, xf_2, xs_1, xs_2, xs_same, xq_so, xj_1, xj_2, xj_same, xq_jo, xq_sa1, xq_same, xq_other, upd_s, oI_n, oI_s, xv_0, xv_1, xv_2, xv_3, xm_p1, xm_p2, List.filter_cons, List.filter_nil, Nat.reduceBEq, Bool.not_true, Bool.not_false, Bool.and_true, Bool.and_false, Bool.false_and, Bool.true_and, if_true, if_false, Bool.false_eq_true, reduceIte, xc_i, xc_j, xc_r, xc_n, List.nil_append, List.cons_append, Option.toList_some, Option.toList_none, nI_ltJ, nI_leJ, nI_eqJ, nI_ltz, nI_gez, nI_gtz, nI_lez, nI_eqz, m1_ltz, m1_gez, true_imp_iff, false_imp_iff, true_and, and_true, ne_eq, not_false_eq_true, not_true_eq_false, Nat.reduceEqDiff, Nat.reduceLT, Nat.reduceLeDiff]
    with_reducible refine xm_go_blk b_X3_readHidden_66 k_X3_readHidden_66 ?_
    refine by_ret ry_71 ?_
    exact hA (by omega) h' hR hS
  | succ m ih =>
    intro i h' hi hR hS
    have hS0 := hS
    obtain ⟨s1, hpp, s3, s4, s5, s6, s7, s8, s9, s10⟩ := hS0
    have hlen := s8.2.2.1
    have hT : ∀ q ∈ [((45 : Nat), (3 : Nat)), (45, 5)], q ∈ ldT pp := by simp [ldT]
    with_reducible refine xm_go_blk b_X3_readHidden_20 k_X3_readHidden_20 ?_
    refine by_iload_n rfl ?_
    refine by_bipush cb_8 ?_
    refine by_ic_ge 66 rfl ?_
    simp (disch := first | exact Nat.ne_of_beq_eq_false rfl | omega) only [nI_add, xa_sub, xa_mul, pk_div, nm_mod, xa_shr, xa_and7, xa_and1, xa_and255, xa_by_and, nI_m1, Nat.add_sub_cancel, Nat.reducePow, Nat.zero_add, Nat.add_zero, Nat.reduceAdd, Nat.reduceMul, Nat.reduceSub, xf_same, xq_ff, xq_fo, xf_1, xf_2, xs_1, xs_2, xs_same, xq_so, xj_1, xj_2, xj_same, xq_jo, xq_sa1, xq_same, xq_other, upd_s, oI_n, oI_s, xv_0, xv_1, xv_2, xv_3, xm_p1, xm_p2, List.filter_cons, List.filter_nil, Nat.reduceBEq, Bool.not_true, Bool.not_false, Bool.and_true, Bool.and_false, Bool.false_and, Bool.true_and, if_true, if_false, Bool.false_eq_true, reduceIte, xc_i, xc_j, xc_r, xc_n, List.nil_append, List.cons_append, Option.toList_some, Option.toList_none, nI_ltJ, nI_leJ, nI_eqJ, nI_ltz, nI_gez, nI_gtz, nI_lez, nI_eqz, m1_ltz, m1_gez, true_imp_iff, false_imp_iff, true_and, and_true, ne_eq, not_false_eq_true, not_true_eq_false, Nat.reduceEqDiff, Nat.reduceLT, Nat.reduceLeDiff, s7, s3, pf_11 s1 hpp]
    refine ⟨fun c => absurd c (by omega), fun c20 => ?_⟩
    with_reducible refine xm_go_blk b_X3_readHidden_26 k_X3_readHidden_26 ?_
    refine by_aload_n rfl ?_
    refine by_getf cn_71 fl_3_47 (by first | exact rfl | assumption) (by decide) ?_
    simp (disch := first | exact Nat.ne_of_beq_eq_false rfl | omega) only [nI_add, xa_sub, xa_mul, pk_div, nm_mod, xa_shr, xa_and7, xa_and1, xa_and255, xa_by_and, nI_m1, Nat.add_sub_cancel, Nat.reducePow, Nat.zero_add, Nat.add_zero, Nat.reduceAdd, Nat.reduceMul, Nat.reduceSub, xf_same, xq_ff, xq_fo, xf_1, xf_2, xs_1, xs_2, xs_same, xq_so, xj_1, xj_2, xj_same, xq_jo, xq_sa1, xq_same, xq_other, upd_s, oI_n, oI_s, s7, s3, pf_11 s1 hpp]
    refine by_if_ne 66 rfl ?_
    simp (disch := first | exact Nat.ne_of_beq_eq_false rfl | omega) only [nI_add, xa_sub, xa_mul, pk_div, nm_mod, xa_shr, xa_and7, xa_and1, xa_and255, xa_by_and, nI_m1, Nat.add_sub_cancel, Nat.reducePow, Nat.zero_add, Nat.add_zero, Nat.reduceAdd, Nat.reduceMul, Nat.reduceSub, xf_same, xq_ff, xq_fo, xf_1, xf_2, xs_1, xs_2, xs_same, xq_so, xj_1, xj_2, xj_same, xq_jo, xq_sa1, xq_same, xq_other, upd_s, oI_n, oI_s, xv_0, xv_1, xv_2, xv_3, xm_p1, xm_p2, List.filter_cons, List.filter_nil, Nat.reduceBEq, Bool.not_true, Bool.not_false, Bool.and_true, Bool.and_false, Bool.false_and, Bool.true_and, if_true, if_false, Bool.false_eq_true, reduceIte, xc_i, xc_j, xc_r, xc_n, List.nil_append, List.cons_append, Option.toList_some, Option.toList_none, nI_ltJ, nI_leJ, nI_eqJ, nI_ltz, nI_gez, nI_gtz, nI_lez, nI_eqz, m1_ltz, m1_gez, true_imp_iff, false_imp_iff, true_and, and_true, ne_eq, not_false_eq_true, not_true_eq_false, Nat.reduceEqDiff, Nat.reduceLT, Nat.reduceLeDiff, s7, s3, pf_11 s1 hpp]
    with_reducible refine xm_go_blk b_X3_readHidden_33 k_X3_readHidden_33 ?_
    refine by_aload_n rfl ?_
    refine by_getf cn_71 fl_3_15 (by first | exact rfl | assumption) (by decide) ?_
    simp (disch := first | exact Nat.ne_of_beq_eq_false rfl | omega) only [nI_add, xa_sub, xa_mul, pk_div, nm_mod, xa_shr, xa_and7, xa_and1, xa_and255, xa_by_and, nI_m1, Nat.add_sub_cancel, Nat.reducePow, Nat.zero_add, Nat.add_zero, Nat.reduceAdd, Nat.reduceMul, Nat.reduceSub, xf_same, xq_ff, xq_fo, xf_1, xf_2, xs_1, xs_2, xs_same, xq_so, xj_1, xj_2, xj_same, xq_jo, xq_sa1, xq_same, xq_other, upd_s, oI_n, oI_s, s7, s3, pf_11 s1 hpp]
    refine by_getf cn_71 fl_3_107 (by first | exact rfl | assumption | exact ps_0 hpp) (by decide) ?_
    refine by_iload_n rfl ?_
    refine by_iload_n rfl ?_
    refine by_iadd ?_
    refine by_aload_n rfl ?_
    refine by_bipush cb_16 ?_
    simp (disch := first | exact Nat.ne_of_beq_eq_false rfl | omega) only [nI_add, xa_sub, xa_mul, pk_div, nm_mod, xa_shr, xa_and7, xa_and1, xa_and255, xa_by_and, nI_m1, Nat.add_sub_cancel, Nat.reducePow, Nat.zero_add, Nat.add_zero, Nat.reduceAdd, Nat.reduceMul, Nat.reduceSub, xf_same, xq_ff, xq_fo, xf_1, xf_2, xs_1, xs_2, xs_same, xq_so, xj_1, xj_2, xj_same, xq_jo, xq_sa1, xq_same, xq_other, upd_s, oI_n, oI_s, xv_0, xv_1, xv_2, xv_3, xm_p1, xm_p2, List.filter_cons, List.filter_nil, Nat.reduceBEq, Bool.not_true, Bool.not_false, Bool.and_true, Bool.and_false, Bool.false_and, Bool.true_and, if_true, if_false, Bool.false_eq_true, reduceIte, xc_i, xc_j, xc_r, xc_n, List.nil_append, List.cons_append, Option.toList_some, Option.toList_none, s7, s3, pf_11 s1 hpp]
    refine by_inv1 cn_71 lk_3_80 (by rw [xe_cnt]; decide) is_69 np_69 cn_69 (by first | exact rfl | assumption) (Nat.le_of_ble_eq_true rfl) ?_
    refine sp_rdB hS (by decide) (fun c => absurd rfl c) (fun _ hlt => ?_) (fun _ hle => ?_)
    · have hS1 := ldS_f (f' := 1) hS (by decide)
      with_reducible refine xm_go_blk b_X3_readHidden_49 k_X3_readHidden_49 ?_
      refine by_bipush cb_16 ?_
      refine by_ishl ?_
      refine by_aload_n rfl ?_
      refine by_bipush cb_16 ?_
      simp (disch := first | exact Nat.ne_of_beq_eq_false rfl | omega) only [nI_add, xa_sub, xa_mul, pk_div, nm_mod, xa_shr, xa_and7, xa_and1, xa_and255, xa_by_and, nI_m1, Nat.add_sub_cancel, Nat.reducePow, Nat.zero_add, Nat.add_zero, Nat.reduceAdd, Nat.reduceMul, Nat.reduceSub, xf_same, xq_ff, xq_fo, xf_1, xf_2, xs_1, xs_2, xs_same, xq_so, xj_1, xj_2, xj_same, xq_jo, xq_sa1, xq_same, xq_other, upd_s, oI_n, oI_s, xv_0, xv_1, xv_2, xv_3, xm_p1, xm_p2, List.filter_cons, List.filter_nil, Nat.reduceBEq, Bool.not_true, Bool.not_false, Bool.and_true, Bool.and_false, Bool.false_and, Bool.true_and, if_true, if_false, Bool.false_eq_true, reduceIte, xc_i, xc_j, xc_r, xc_n, List.nil_append, List.cons_append, Option.toList_some, Option.toList_none]
      refine by_inv1 cn_71 lk_3_80 (by rw [xe_cnt]; decide) is_69 np_69 cn_69 (by first | exact rfl | assumption) (Nat.le_of_ble_eq_true rfl) ?_
      refine sp_rdB hS1 (by decide) (fun _ => ?_) (fun c => absurd c (by decide)) (fun c => absurd c (by decide))
      with_reducible refine xm_go_blk b_X3_readHidden_58 k_X3_readHidden_58 ?_
      refine by_ior ?_
      refine by_iast (by first | exact rfl | assumption | exact ps_1 hpp | exact ps_2 hpp | exact ps_3 hpp | exact ps_4 hpp | exact ps_5 hpp | exact ps_6 hpp | exact ps_7 hpp | exact ps_8 hpp | exact ps_9 hpp | exact ps_10 hpp | exact ps_11 hpp | exact ps_15 hpp | exact ps_16 hpp | exact ps_17 hpp | exact ps_18 hpp | exact ps_19 hpp | exact ps_21 hpp | exact ps_22 hpp | exact ps_23 hpp | exact ps_24 hpp) ⟨by omega, by omega⟩ ?_
      refine by_iinc (by rw [ml_71]; decide) rfl ci_1 ?_
      refine by_goto 20 rfl ?_
      simp (disch := first | exact Nat.ne_of_beq_eq_false rfl | omega) only [nI_add, xa_sub, xa_mul, pk_div, nm_mod, xa_shr, xa_and7, xa_and1, xa_and255, xa_by_and, nI_m1, Nat.add_sub_cancel, Nat.reducePow, Nat.zero_add, Nat.add_zero, Nat.reduceAdd, Nat.reduceMul, Nat.reduceSub, xf_same, xq_ff, xq_fo, xf_1, xf_2, xs_1, xs_2, xs_same, xq_so, xj_1, xj_2, xj_same, xq_jo, xq_sa1, xq_same, xq_other, upd_s, oI_n, oI_s, xv_0, xv_1, xv_2, xv_3, xm_p1, xm_p2, List.filter_cons, List.filter_nil, Nat.reduceBEq, Bool.not_true, Bool.not_false, Bool.and_true, Bool.and_false, Bool.false_and, Bool.true_and, if_true, if_false, Bool.false_eq_true, reduceIte, xc_i, xc_j, xc_r, xc_n, List.nil_append, List.cons_append, Option.toList_some, Option.toList_none]
      have hS2 := ldS_si (c := pp + 11) (j := 8 * nh + i) (x := nI 0 <<< (nI 16 &&& 31) ||| nI 0) hS1 (by omega)
      exact rdH_e (by omega) hS2 (hB (by omega) _ _ (Fr_si (Fr_sf hR.1 (by simp [ldT])) (by simp [ldR])) hS2)
    · have hS1 := ldS_a hS hle
      with_reducible refine xm_go_blk b_X3_readHidden_49 k_X3_readHidden_49 ?_
      refine by_bipush cb_16 ?_
      refine by_ishl ?_
      refine by_aload_n rfl ?_
      refine by_bipush cb_16 ?_
      simp (disch := first | exact Nat.ne_of_beq_eq_false rfl | omega) only [nI_add, xa_sub, xa_mul, pk_div, nm_mod, xa_shr, xa_and7, xa_and1, xa_and255, xa_by_and, nI_m1, Nat.add_sub_cancel, Nat.reducePow, Nat.zero_add, Nat.add_zero, Nat.reduceAdd, Nat.reduceMul, Nat.reduceSub, xf_same, xq_ff, xq_fo, xf_1, xf_2, xs_1, xs_2, xs_same, xq_so, xj_1, xj_2, xj_same, xq_jo, xq_sa1, xq_same, xq_other, upd_s, oI_n, oI_s, xv_0, xv_1, xv_2, xv_3, xm_p1, xm_p2, List.filter_cons, List.filter_nil, Nat.reduceBEq, Bool.not_true, Bool.not_false, Bool.and_true, Bool.and_false, Bool.false_and, Bool.true_and, if_true, if_false, Bool.false_eq_true, reduceIte, xc_i, xc_j, xc_r, xc_n, List.nil_append, List.cons_append, Option.toList_some, Option.toList_none]
      refine by_inv1 cn_71 lk_3_80 (by rw [xe_cnt]; decide) is_69 np_69 cn_69 (by first | exact rfl | assumption) (Nat.le_of_ble_eq_true rfl) ?_
      refine sp_rdB hS1 (by decide) (fun c => absurd rfl c) (fun _ hlt => ?_) (fun _ hle2 => ?_)
      · have hS2 := ldS_f (f' := 1) hS1 (by decide)
        with_reducible refine xm_go_blk b_X3_readHidden_58 k_X3_readHidden_58 ?_
        refine by_ior ?_
        refine by_iast (by first | exact rfl | assumption | exact ps_1 hpp | exact ps_2 hpp | exact ps_3 hpp | exact ps_4 hpp | exact ps_5 hpp | exact ps_6 hpp | exact ps_7 hpp | exact ps_8 hpp | exact ps_9 hpp | exact ps_10 hpp | exact ps_11 hpp | exact ps_15 hpp | exact ps_16 hpp | exact ps_17 hpp | exact ps_18 hpp | exact ps_19 hpp | exact ps_21 hpp | exact ps_22 hpp | exact ps_23 hpp | exact ps_24 hpp) ⟨by omega, by omega⟩ ?_
        refine by_iinc (by rw [ml_71]; decide) rfl ci_1 ?_
        refine by_goto 20 rfl ?_
        simp (disch := first | exact Nat.ne_of_beq_eq_false rfl | omega) only [nI_add, xa_sub, xa_mul, pk_div, nm_mod, xa_shr, xa_and7, xa_and1, xa_and255, xa_by_and, nI_m1, Nat.add_sub_cancel, Nat.reducePow, Nat.zero_add, Nat.add_zero, Nat.reduceAdd, Nat.reduceMul, Nat.reduceSub, xf_same, xq_ff, xq_fo, xf_1, xf_2, xs_1, xs_2, xs_same, xq_so, xj_1, xj_2, xj_same, xq_jo, xq_sa1, xq_same, xq_other, upd_s, oI_n, oI_s, xv_0, xv_1, xv_2, xv_3, xm_p1, xm_p2, List.filter_cons, List.filter_nil, Nat.reduceBEq, Bool.not_true, Bool.not_false, Bool.and_true, Bool.and_false, Bool.false_and, Bool.true_and, if_true, if_false, Bool.false_eq_true, reduceIte, xc_i, xc_j, xc_r, xc_n, List.nil_append, List.cons_append, Option.toList_some, Option.toList_none]
        have hS3 := ldS_si (c := pp + 11) (j := 8 * nh + i) (x := nI (pb (by_bit l) (a + 32 * i) 16) <<< (nI 16 &&& 31) ||| nI 0) hS2 (by omega)
        exact rdH_e (by omega) hS3 (hB (by omega) _ _ (Fr_si (Fr_sf (Fr_sf hR.1 (by simp [ldT])) (by simp [ldT])) (by simp [ldR])) hS3)
      · have hS2 := ldS_a hS1 hle2
        with_reducible refine xm_go_blk b_X3_readHidden_58 k_X3_readHidden_58 ?_
        refine by_ior ?_
        refine by_iast (by first | exact rfl | assumption | exact ps_1 hpp | exact ps_2 hpp | exact ps_3 hpp | exact ps_4 hpp | exact ps_5 hpp | exact ps_6 hpp | exact ps_7 hpp | exact ps_8 hpp | exact ps_9 hpp | exact ps_10 hpp | exact ps_11 hpp | exact ps_15 hpp | exact ps_16 hpp | exact ps_17 hpp | exact ps_18 hpp | exact ps_19 hpp | exact ps_21 hpp | exact ps_22 hpp | exact ps_23 hpp | exact ps_24 hpp) ⟨by omega, by omega⟩ ?_
        refine by_iinc (by rw [ml_71]; decide) rfl ci_1 ?_
        refine by_goto 20 rfl ?_
        simp (disch := first | exact Nat.ne_of_beq_eq_false rfl | omega) only [nI_add, xa_sub, xa_mul, pk_div, nm_mod, xa_shr, xa_and7, xa_and1, xa_and255, xa_by_and, nI_m1, Nat.add_sub_cancel, Nat.reducePow, Nat.zero_add, Nat.add_zero, Nat.reduceAdd, Nat.reduceMul, Nat.reduceSub, xf_same, xq_ff, xq_fo, xf_1, xf_2, xs_1, xs_2, xs_same, xq_so, xj_1, xj_2, xj_same, xq_jo, xq_sa1, xq_same, xq_other, upd_s, oI_n, oI_s, xv_0, xv_1, xv_2, xv_3, xm_p1, xm_p2, List.filter_cons, List.filter_nil, Nat.reduceBEq, Bool.not_true, Bool.not_false, Bool.and_true, Bool.and_false, Bool.false_and, Bool.true_and, if_true, if_false, Bool.false_eq_true, reduceIte, xc_i, xc_j, xc_r, xc_n, List.nil_append, List.cons_append, Option.toList_some, Option.toList_none]
        refine ih (i + 1) _ (by omega) (rdH_s hpp hR (Fr_sf (Fr_sf Fr_rf (by simp)) (by simp)) (pb32 _ _ (by_bit_lt l))) ?_
        have hS3 := ldS_si (c := pp + 11) (j := 8 * nh + i) (x := nI (pb (by_bit l) (a + 32 * i) 16) <<< (nI 16 &&& 31) ||| nI (pb (by_bit l) (a + 32 * i + 16) 16)) hS2 (by omega)
        rw [show a + 32 * i + 16 + 16 = a + 32 * (i + 1) by omega] at hS3
        exact hS3
theorem sp_rdH (hn : n < 2000) (hS : ldS h pp l a 0) (h15 : h.2.2 pp 15 = .int (nI nh)) (hnh : nh ≤ 254)
    (hA : a + 256 ≤ 8 * l.length → ∀ h', rdH h h' pp l n nh a 8 → ldS h' pp l (a + 256) 0 → post none h') (hB : 8 * l.length < a + 256 → ∀ h' a', Fr (ldR pp) (ldT pp) h h' → ldS h' pp l a' 1 → post none h') :
    xm_T (XE sc) (d + 4) 71 [.ref 45, .int (nI n)] h post := by
  have hS0 := hS
  obtain ⟨s1, hpp, s3, s4, s5, s6, s7, s8, s9, s10⟩ := hS0
  refine xq_in rfl ?_
  simp only [xq_a0, xq_aI, xq_aJ, xq_aR, Nat.reduceAdd]
  with_reducible refine xm_go_blk b_X3_readHidden_0 k_X3_readHidden_0 ?_
  refine by_aload_n rfl ?_
  refine by_getf cn_71 fl_3_15 (by first | exact rfl | assumption) (by decide) ?_
  simp (disch := first | exact Nat.ne_of_beq_eq_false rfl | omega) only [nI_add, xa_sub, xa_mul, pk_div, nm_mod, xa_shr, xa_and7, xa_and1, xa_and255, xa_by_and, nI_m1, Nat.add_sub_cancel, Nat.reducePow, Nat.zero_add, Nat.add_zero, Nat.reduceAdd, Nat.reduceMul, Nat.reduceSub, xf_same, xq_ff, xq_fo, xf_1, xf_2, xs_1, xs_2, xs_same, xq_so, xj_1, xj_2, xj_same, xq_jo, xq_sa1, xq_same, xq_other, upd_s, oI_n, oI_s, xv_0, xv_1, xv_2, xv_3, xm_p1, xm_p2, List.filter_cons, List.filter_nil, Nat.reduceBEq, Bool.not_true, Bool.not_false, Bool.and_true, Bool.and_false, Bool.false_and, Bool.true_and, if_true, if_false, Bool.false_eq_true, reduceIte, xc_i, xc_j, xc_r, xc_n, List.nil_append, List.cons_append, Option.toList_some, Option.toList_none, s3, h15]
  refine by_inv0 cn_71 lk_3_104 (by rw [xe_cnt]; decide) is_100 np_100 cn_100 (by first | exact rfl | assumption | exact ps_0 hpp) (Nat.le_of_ble_eq_true rfl) ?_
  refine xq_in rfl ?_
  simp only [xq_a0, xq_aI, xq_aJ, xq_aR, Nat.reduceAdd]
  with_reducible refine xm_go_blk b_X6_addHidden_0 k_X6_addHidden_0 ?_
  refine by_aload_n rfl ?_
  refine by_getf cn_100 fl_6_63 (by first | exact rfl | assumption | exact ps_0 hpp) (by decide) ?_
  refine by_sipush cs_256 ?_
  simp (disch := first | exact Nat.ne_of_beq_eq_false rfl | omega) only [nI_add, xa_sub, xa_mul, pk_div, nm_mod, xa_shr, xa_and7, xa_and1, xa_and255, xa_by_and, nI_m1, Nat.add_sub_cancel, Nat.reducePow, Nat.zero_add, Nat.add_zero, Nat.reduceAdd, Nat.reduceMul, Nat.reduceSub, xf_same, xq_ff, xq_fo, xf_1, xf_2, xs_1, xs_2, xs_same, xq_so, xj_1, xj_2, xj_same, xq_jo, xq_sa1, xq_same, xq_other, upd_s, oI_n, oI_s, s3, h15]
  refine by_ic_ge 17 rfl ?_
  simp (disch := first | exact Nat.ne_of_beq_eq_false rfl | omega) only [nI_add, xa_sub, xa_mul, pk_div, nm_mod, xa_shr, xa_and7, xa_and1, xa_and255, xa_by_and, nI_m1, Nat.add_sub_cancel, Nat.reducePow, Nat.zero_add, Nat.add_zero, Nat.reduceAdd, Nat.reduceMul, Nat.reduceSub, xf_same, xq_ff, xq_fo, xf_1, xf_2, xs_1, xs_2, xs_same, xq_so, xj_1, xj_2, xj_same, xq_jo, xq_sa1, xq_same, xq_other, upd_s, oI_n, oI_s, xv_0, xv_1, xv_2, xv_3, xm_p1, xm_p2, List.filter_cons, List.filter_nil, Nat.reduceBEq, Bool.not_true, Bool.not_false, Bool.and_true, Bool.and_false, Bool.false_and, Bool.true_and, if_true, if_false, Bool.false_eq_true, reduceIte, xc_i, xc_j, xc_r, xc_n, List.nil_append, List.cons_append, Option.toList_some, Option.toList_none, nI_ltJ, nI_leJ, nI_eqJ, nI_ltz, nI_gez, nI_gtz, nI_lez, nI_eqz, m1_ltz, m1_gez, true_imp_iff, false_imp_iff, true_and, and_true, ne_eq, not_false_eq_true, not_true_eq_false, Nat.reduceEqDiff, Nat.reduceLT, Nat.reduceLeDiff, s3, h15]
  refine ⟨fun c => absurd c (by omega), fun c0 => ?_⟩
  with_reducible refine xm_go_blk b_X6_addHidden_10 k_X6_addHidden_10 ?_
  refine by_aload_n rfl ?_
  refine by_getf cn_100 fl_6_63 (by first | exact rfl | assumption | exact ps_0 hpp) (by decide) ?_
  refine by_goto 20 rfl ?_
  simp (disch := first | exact Nat.ne_of_beq_eq_false rfl | omega) only [nI_add, xa_sub, xa_mul, pk_div, nm_mod, xa_shr, xa_and7, xa_and1, xa_and255, xa_by_and, nI_m1, Nat.add_sub_cancel, Nat.reducePow, Nat.zero_add, Nat.add_zero, Nat.reduceAdd, Nat.reduceMul, Nat.reduceSub, xf_same, xq_ff, xq_fo, xf_1, xf_2, xs_1, xs_2, xs_same, xq_so, xj_1, xj_2, xj_same, xq_jo, xq_sa1, xq_same, xq_other, upd_s, oI_n, oI_s, xv_0, xv_1, xv_2, xv_3, xm_p1, xm_p2, List.filter_cons, List.filter_nil, Nat.reduceBEq, Bool.not_true, Bool.not_false, Bool.and_true, Bool.and_false, Bool.false_and, Bool.true_and, if_true, if_false, Bool.false_eq_true, reduceIte, xc_i, xc_j, xc_r, xc_n, List.nil_append, List.cons_append, Option.toList_some, Option.toList_none, s3, h15]
  with_reducible refine xm_go_blk b_X6_addHidden_20 k_X6_addHidden_20 ?_
  refine by_istore_n (by rw [ml_100]; decide) ?_
  refine by_aload_n rfl ?_
  refine by_iload_n rfl ?_
  refine by_iconst ci_1 ?_
  refine by_iadd ?_
  refine by_putf cn_100 fl_6_63 (by first | exact rfl | assumption | exact ps_0 hpp) (by decide) nf_6_15 ft_6_15 (by first | rfl | assumption) (by first | rfl | assumption) ?_
  refine by_bipush cb_8 ?_
  refine by_iload_n rfl ?_
  refine by_imul ?_
  simp (disch := first | exact Nat.ne_of_beq_eq_false rfl | omega) only [nI_add, xa_sub, xa_mul, pk_div, nm_mod, xa_shr, xa_and7, xa_and1, xa_and255, xa_by_and, nI_m1, Nat.add_sub_cancel, Nat.reducePow, Nat.zero_add, Nat.add_zero, Nat.reduceAdd, Nat.reduceMul, Nat.reduceSub, xf_same, xq_ff, xq_fo, xf_1, xf_2, xs_1, xs_2, xs_same, xq_so, xj_1, xj_2, xj_same, xq_jo, xq_sa1, xq_same, xq_other, upd_s, oI_n, oI_s, s3, h15]
  refine by_iret ry_100 (by first | rfl | assumption) ?_
  with_reducible refine xm_go_blk b_X3_readHidden_7 k_X3_readHidden_7 ?_
  refine by_istore_n (by rw [ml_71]; decide) ?_
  refine by_aload_n rfl ?_
  refine by_getf cn_71 fl_3_15 (by first | exact rfl | assumption) (by decide) ?_
  simp (disch := first | exact Nat.ne_of_beq_eq_false rfl | omega) only [nI_add, xa_sub, xa_mul, pk_div, nm_mod, xa_shr, xa_and7, xa_and1, xa_and255, xa_by_and, nI_m1, Nat.add_sub_cancel, Nat.reducePow, Nat.zero_add, Nat.add_zero, Nat.reduceAdd, Nat.reduceMul, Nat.reduceSub, xf_same, xq_ff, xq_fo, xf_1, xf_2, xs_1, xs_2, xs_same, xq_so, xj_1, xj_2, xj_same, xq_jo, xq_sa1, xq_same, xq_other, upd_s, oI_n, oI_s, s3, pf_4 s1 hpp]
  refine by_getf cn_71 fl_3_101 (by first | exact rfl | assumption | exact ps_0 hpp) (by decide) ?_
  refine by_iload_n rfl ?_
  refine by_iload_n rfl ?_
  simp (disch := first | exact Nat.ne_of_beq_eq_false rfl | omega) only [nI_add, xa_sub, xa_mul, pk_div, nm_mod, xa_shr, xa_and7, xa_and1, xa_and255, xa_by_and, nI_m1, Nat.add_sub_cancel, Nat.reducePow, Nat.zero_add, Nat.add_zero, Nat.reduceAdd, Nat.reduceMul, Nat.reduceSub, xf_same, xq_ff, xq_fo, xf_1, xf_2, xs_1, xs_2, xs_same, xq_so, xj_1, xj_2, xj_same, xq_jo, xq_sa1, xq_same, xq_other, upd_s, oI_n, oI_s, s3, pf_4 s1 hpp]
  refine by_iast (by first | exact rfl | assumption | exact ps_1 hpp | exact ps_2 hpp | exact ps_3 hpp | exact ps_4 hpp | exact ps_5 hpp | exact ps_6 hpp | exact ps_7 hpp | exact ps_8 hpp | exact ps_9 hpp | exact ps_10 hpp | exact ps_11 hpp | exact ps_15 hpp | exact ps_16 hpp | exact ps_17 hpp | exact ps_18 hpp | exact ps_19 hpp | exact ps_21 hpp | exact ps_22 hpp | exact ps_23 hpp | exact ps_24 hpp) ⟨by omega, by omega⟩ ?_
  refine by_iconst ci_0 ?_
  refine by_istore_n (by rw [ml_71]; decide) ?_
  refine by_nil ?_
  simp (disch := first | exact Nat.ne_of_beq_eq_false rfl | omega) only [nI_add, xa_sub, xa_mul, pk_div, nm_mod, xa_shr, xa_and7, xa_and1, xa_and255, xa_by_and, nI_m1, Nat.add_sub_cancel, Nat.reducePow, Nat.zero_add, Nat.add_zero, Nat.reduceAdd, Nat.reduceMul, Nat.reduceSub, xf_same, xq_ff, xq_fo, xf_1, xf_2, xs_1, xs_2, xs_same, xq_so, xj_1, xj_2, xj_same, xq_jo, xq_sa1, xq_same, xq_other, upd_s, oI_n, oI_s, xv_0, xv_1, xv_2, xv_3, xm_p1, xm_p2, List.filter_cons, List.filter_nil, Nat.reduceBEq, Bool.not_true, Bool.not_false, Bool.and_true, Bool.and_false, Bool.false_and, Bool.true_and, if_true, if_false, Bool.false_eq_true, reduceIte, xc_i, xc_j, xc_r, xc_n, List.nil_append, List.cons_append, Option.toList_some, Option.toList_none, s3, pf_4 s1 hpp]
  have hf1 : Fr (ldR pp) (ldT pp) h (xm_si (xm_sf h pp 15 (.int (nI (nh + 1)))) (pp + 4) n (nI (8 * nh))) := Fr_si (Fr_sf Fr_rf (by simp [ldT])) (by simp [ldR])
  refine rdH_k hnh hA hB 8 0 _ rfl ⟨hf1, SM_si (SM_sf SM_rf) (by omega), ?_, ?_, fun c h4 h11 => ?_, ?_, fun k hk => absurd hk (Nat.not_lt_zero _)⟩ ?_
  · rw [xs_1, xf_same]
  · rw [xs_1, xq_ff (by decide)]
  · rw [xq_so h4]; rfl
  · rw [xs_same, upd_s]
  · refine ldS_si ?_ (by omega)
    have h1 : Fr [] [(pp, 15)] h (xm_sf h pp 15 (.int (nI (nh + 1)))) := Fr_sf Fr_rf (by simp)
    refine ldS_fr hS h1 (by rcases hpp with rfl | rfl <;> decide +kernel) (by simp <;> omega) (by simp <;> omega) (by simp <;> omega) (by simp) (by simp) (by simp) (by rw [h1.2.2 _ _ (by simp <;> omega)]; exact s5) (by rw [h1.2.2 _ _ (by simp <;> omega)]; exact s7) (by omega) (by omega)
end RDH
