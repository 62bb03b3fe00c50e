/-! ===== Loader: a node ===== -/
def ldNd (h h' : xm_H) (pp : Nat) (l : List Nat) (ps : List pr_D) (r : Except Nat (pr_D × Nat)) : Prop := Fr (ldR pp) (ldT pp) h h' ∧ match r with
  | .error x => 1 ≤ x ∧ ∃ a', ldS h' pp l a' x
  | .ok (q, b) => ldS h' pp l b 0 ∧ ∃ hx nh, ndC h' pp (ps ++ [q]) hx nh ∧ 261 * nh ≤ b
/-- a node was added: its code, no children yet -/
def ldAd (h h' : xm_H) (pp n c w : Nat) : Prop := Fr (ldR pp) (ldT pp) h h' ∧ SM pp n w h h' ∧ h'.2.2 pp 0 = .int (nI (n + 1)) ∧ h'.2.2 pp 15 = h.2.2 pp 15 ∧ h'.1 (pp + 1) n = nI c ∧ h'.1 (pp + 2) n = -1 ∧ h'.1 (pp + 3) n = -1 ∧ h'.1 (pp + 4) n = nI 0
theorem ldAd_fr {h h' h2 : xm_H} {pp n c w : Nat} (hA : ldAd h h' pp n c w) (hpp : pp = 52 ∨ pp = 77) (hf : Fr [] [(45, 3), (45, 5)] h' h2) : ldAd h h2 pp n c w := by
  obtain ⟨a1, a2, a3, a4, a5, a6, a7, a8⟩ := hA
  exact ⟨Fr_tr a1 hf (by simp) (by simp [ldT]), SM_fr a2 hf, by rw [hf.2.2 _ _ (by simp <;> omega), a3], by rw [hf.2.2 _ _ (by simp <;> omega), a4], by rw [hf.1 _ (by simp), a5], by rw [hf.1 _ (by simp), a6], by rw [hf.1 _ (by simp), a7], by rw [hf.1 _ (by simp), a8]⟩
section RDN
variable {sc : xm_Sc} {d pp a nh c : Nat} {l : List Nat} {h h' h2 : xm_H} {post : xm_Po} {ps : List pr_D} {hx : Nat → Nat}
/-- leaves -/
theorem rdn_0 (hC : ndC h pp ps hx nh) (hA : ldAd h h' pp ps.length c (8 * nh)) {b : Nat} (hS : ldS h' pp l b 0) (hnb : 261 * nh ≤ b) (hc : c ≠ 11) : ldNd h h' pp l ps (.ok ((c, none, none, 0, fun _ => 0), b)) := by
  obtain ⟨a1, a2, a3, a4, a5, a6, a7, a8⟩ := hA
  refine ⟨a1, hS, _, nh, ndC_new (hn := 0) hC a2 a3 (by rw [a4, hC.2.1]) (Nat.le_refl _) hC.2.2.1 ⟨a5, a6, a7, fun _ => a8, fun e => absurd e hc⟩, hnb⟩
/-- a fault -/
theorem rdn_e (hA : ldAd h h' pp ps.length c (8 * nh)) {x a' : Nat} (hx : 1 ≤ x) (hS : ldS h' pp l a' x) : ldNd h h' pp l ps (.error x) := ⟨hA.1, hx, a', hS⟩
/-- the rest of a node, behind its code -/
def pr_rest (v : Nat → Nat) (e n c a : Nat) : Except Nat (pr_D × Nat) :=
  if c ≤ 6 then match pr_ch v e n a with
      | .error x => .error x
      | .ok (i, b) => if c ≤ 2 then (match pr_ch v e n b with
          | .error x => .error x
          | .ok (j, b') => .ok ((c, some i, some j, 0, fun _ => 0), b')) else .ok ((c, some i, none, 0, fun _ => 0), b)
    else if c = 11 then (if a + 256 ≤ e then .ok ((c, none, none, 0, fun k => pb v (a + 32 * k) 32), a + 256) else .error 1)
    else if c = 12 then (if a + 8 ≤ e then (if 167 < pb v a 8 then .error 2 else .ok ((c, none, none, pb v a 8, fun _ => 0), a + 8)) else .error 1)
    else .ok ((c, none, none, 0, fun _ => 0), a)
theorem pr_node_eq {v : Nat → Nat} {e n a : Nat} (h5 : a + 5 ≤ e) (h12 : pb v a 5 ≤ 12) : pr_node v e n a = pr_rest v e n (pb v a 5) (a + 5) := by
  unfold pr_node pr_rest
  rw [if_pos h5]
  simp only [if_neg (Nat.not_lt.mpr h12)]
  rfl
theorem rdn_87 (hc : c ≤ 10) {n : Nat} (hp : post none h') : xm_go (XE sc) (xm_T (XE sc) (d + 5)) 73 post 87 [(2, .int (nI n)), (1, .int (nI c)), (0, .ref 45)] [] h' := by
  have e1 : (c = 11) = False := eq_false (by omega)
  have e2 : (c = 12) = False := eq_false (by omega)
  with_reducible refine xm_go_blk b_X3_readNode_87 k_X3_readNode_87 ?_
  refine by_iload_n rfl ?_
  refine by_bipush cb_11 ?_
  refine by_ic_ne 98 rfl ?_
  simp (disch := first | exact Nat.ne_of_beq_eq_false rfl | omega) only [nI_add, xa_sub, xa_mul, pk_div, nm_mod, xa_shr, xa_and7, xa_and1, xa_and255, xa_by_and, nI_m1, Nat.add_sub_cancel, Nat.reducePow, Nat.zero_add, Nat.add_zero, Nat.reduceAdd, Nat.reduceMul, Nat.reduceSub, xf_same, xq_ff, xq_fo, xf_1, xf_2, xs_1, xs_2, xs_same, xq_so, xj_1, xj_2, xj_same, xq_jo, xq_sa1, xq_same, xq_other, upd_s, oI_n, oI_s, xv_0, xv_1, xv_2, xv_3, xm_p1, xm_p2, List.filter_cons, List.filter_nil, Nat.reduceBEq, Bool.not_true, Bool.not_false, Bool.and_true, Bool.and_false, Bool.false_and, Bool.true_and, if_true, if_false, Bool.false_eq_true, reduceIte, xc_i, xc_j, xc_r, xc_n, List.nil_append, List.cons_append, Option.toList_some, Option.toList_none, nI_ltJ, nI_leJ, nI_eqJ, nI_ltz, nI_gez, nI_gtz, nI_lez, nI_eqz, m1_ltz, m1_gez, true_imp_iff, false_imp_iff, true_and, and_true, ne_eq, not_false_eq_true, not_true_eq_false, Nat.reduceEqDiff, Nat.reduceLT, Nat.reduceLeDiff, e1, e2]
  with_reducible refine xm_go_blk b_X3_readNode_98 k_X3_readNode_98 ?_
  refine by_iload_n rfl ?_
  refine by_bipush cb_12 ?_
  refine by_ic_ne 146 rfl ?_
  simp (disch := first | exact Nat.ne_of_beq_eq_false rfl | omega) only [nI_add, xa_sub, xa_mul, pk_div, nm_mod, xa_shr, xa_and7, xa_and1, xa_and255, xa_by_and, nI_m1, Nat.add_sub_cancel, Nat.reducePow, Nat.zero_add, Nat.add_zero, Nat.reduceAdd, Nat.reduceMul, Nat.reduceSub, xf_same, xq_ff, xq_fo, xf_1, xf_2, xs_1, xs_2, xs_same, xq_so, xj_1, xj_2, xj_same, xq_jo, xq_sa1, xq_same, xq_other, upd_s, oI_n, oI_s, xv_0, xv_1, xv_2, xv_3, xm_p1, xm_p2, List.filter_cons, List.filter_nil, Nat.reduceBEq, Bool.not_true, Bool.not_false, Bool.and_true, Bool.and_false, Bool.false_and, Bool.true_and, if_true, if_false, Bool.false_eq_true, reduceIte, xc_i, xc_j, xc_r, xc_n, List.nil_append, List.cons_append, Option.toList_some, Option.toList_none, nI_ltJ, nI_leJ, nI_eqJ, nI_ltz, nI_gez, nI_gtz, nI_lez, nI_eqz, m1_ltz, m1_gez, true_imp_iff, false_imp_iff, true_and, and_true, ne_eq, not_false_eq_true, not_true_eq_false, Nat.reduceEqDiff, Nat.reduceLT, Nat.reduceLeDiff, e1, e2]
  with_reducible refine xm_go_blk b_X3_readNode_146 k_X3_readNode_146 ?_
  refine by_ret ry_73 ?_
  exact hp
/-- one child was read -/
theorem rdn_1 (hC : ndC h pp ps hx nh) (hA : ldAd h h' pp ps.length c (8 * nh)) {b i : Nat} (hS : ldS h' pp l b 0) (hnb : 261 * nh ≤ b) (hc : c ≠ 11) : ldNd h (xm_si h' (pp + 2) ps.length (nI i)) pp l ps (.ok ((c, some i, none, 0, fun _ => 0), b)) := by
  obtain ⟨a1, a2, a3, a4, a5, a6, a7, a8⟩ := hA
  refine ⟨Fr_si a1 (by simp [ldR]), ldS_si hS (by omega), _, nh, ndC_new (hn := 0) hC (SM_si a2 (by omega)) a3 (by rw [xs_1, a4, hC.2.1]) (Nat.le_refl _) hC.2.2.1 ⟨by rw [xq_so (by omega)]; exact a5, by rw [xs_same, upd_s]; rfl, by rw [xq_so (by omega)]; exact a7, fun _ => by rw [xq_so (by omega)]; exact a8, fun e => absurd e hc⟩, hnb⟩
theorem rdn_2 (hC : ndC h pp ps hx nh) (hA : ldAd h h' pp ps.length c (8 * nh)) (hpp : pp = 52 ∨ pp = 77) {b i j : Nat} (hf : Fr [] [(45, 3), (45, 5)] (xm_si h' (pp + 2) ps.length (nI i)) h2) (hS : ldS h2 pp l b 0) (hnb : 261 * nh ≤ b) (hc : c ≠ 11) : ldNd h (xm_si h2 (pp + 3) ps.length (nI j)) pp l ps (.ok ((c, some i, some j, 0, fun _ => 0), b)) := by
  obtain ⟨a1, a2, a3, a4, a5, a6, a7, a8⟩ := hA
  refine ⟨Fr_si (Fr_tr (Fr_si a1 (by simp [ldR])) hf (by simp) (by simp [ldT])) (by simp [ldR]), ldS_si hS (by omega), _, nh, ndC_new (hn := 0) hC (SM_si (SM_fr (SM_si a2 (by omega)) hf) (by omega)) (by rw [xs_1, hf.2.2 _ _ (by simp <;> omega)]; exact a3) (by rw [xs_1, hf.2.2 _ _ (by simp <;> omega), xs_1, a4, hC.2.1]) (Nat.le_refl _) hC.2.2.1 ⟨?_, ?_, ?_, fun _ => ?_, fun e => absurd e hc⟩, hnb⟩
  · rw [xq_so (by omega), hf.1 _ (by simp), xq_so (by omega)]; exact a5
  · rw [xq_so (by omega), hf.1 _ (by simp), xs_same, upd_s]; rfl
  · rw [xs_same, upd_s]; rfl
  · rw [xq_so (by omega), hf.1 _ (by simp), xq_so (by omega)]; exact a8
theorem rdn_c (hC : ndC h pp ps hx nh) (hA : ldAd h h' pp ps.length c (8 * nh)) (hS : ldS h' pp l a 0) (hn : ps.length < 2000) (hnb : 261 * nh ≤ a) (hc : c ≤ 6) (hp : ∀ h'', ldNd h h'' pp l ps (pr_rest (by_bit l) (8 * l.length) ps.length c a) → post none h'') :
    xm_go (XE sc) (xm_T (XE sc) (d + 5)) 73 post 40 [(1, .int (nI c)), (0, .ref 45)] [.int (nI ps.length)] h' := by
  have hS0 := hS
  obtain ⟨s1, hpp, s3, s4, s5, s6, s7, s8, s9, s10⟩ := hS0
  unfold pr_rest at hp
  rw [if_pos hc] at hp
  with_reducible refine xm_go_blk b_X3_readNode_40 k_X3_readNode_40 ?_
  refine by_istore_n (by rw [ml_73]; decide) ?_
  refine by_iload_n rfl ?_
  refine by_bipush cb_6 ?_
  refine by_ic_gt 61 rfl ?_
  simp (disch := first | exact Nat.ne_of_beq_eq_false rfl | omega) only [nI_add, xa_sub, xa_mul, pk_div, nm_mod, xa_shr, xa_and7, xa_and1, xa_and255, xa_by_and, nI_m1, Nat.add_sub_cancel, Nat.reducePow, Nat.zero_add, Nat.add_zero, Nat.reduceAdd, Nat.reduceMul, Nat.reduceSub, xf_same, xq_ff, xq_fo, xf_1, xf_2, xs_1, xs_2, xs_same, xq_so, xj_1, xj_2, xj_same, xq_jo, xq_sa1, xq_same, xq_other, upd_s, oI_n, oI_s, xv_0, xv_1, xv_2, xv_3, xm_p1, xm_p2, List.filter_cons, List.filter_nil, Nat.reduceBEq, Bool.not_true, Bool.not_false, Bool.and_true, Bool.and_false, Bool.false_and, Bool.true_and, if_true, if_false, Bool.false_eq_true, reduceIte, xc_i, xc_j, xc_r, xc_n, List.nil_append, List.cons_append, Option.toList_some, Option.toList_none, nI_ltJ, nI_leJ, nI_eqJ, nI_ltz, nI_gez, nI_gtz, nI_lez, nI_eqz, m1_ltz, m1_gez, true_imp_iff, false_imp_iff, true_and, and_true, ne_eq, not_false_eq_true, not_true_eq_false, Nat.reduceEqDiff, Nat.reduceLT, Nat.reduceLeDiff, s3, pf_2 s1 hpp]
  refine ⟨fun c => absurd c (by omega), fun c40 => ?_⟩
  with_reducible refine xm_go_blk b_X3_readNode_47 k_X3_readNode_47 ?_
  refine by_aload_n rfl ?_
  refine by_getf cn_73 fl_3_15 (by first | exact rfl | assumption) (by decide) ?_
  simp (disch := first | exact Nat.ne_of_beq_eq_false rfl | omega) only [nI_add, xa_sub, xa_mul, pk_div, nm_mod, xa_shr, xa_and7, xa_and1, xa_and255, xa_by_and, nI_m1, Nat.add_sub_cancel, Nat.reducePow, Nat.zero_add, Nat.add_zero, Nat.reduceAdd, Nat.reduceMul, Nat.reduceSub, xf_same, xq_ff, xq_fo, xf_1, xf_2, xs_1, xs_2, xs_same, xq_so, xj_1, xj_2, xj_same, xq_jo, xq_sa1, xq_same, xq_other, upd_s, oI_n, oI_s, s3, pf_2 s1 hpp]
  refine by_getf cn_73 fl_3_87 (by first | exact rfl | assumption | exact ps_0 hpp) (by decide) ?_
  refine by_iload_n rfl ?_
  refine by_aload_n rfl ?_
  refine by_iload_n rfl ?_
  simp (disch := first | exact Nat.ne_of_beq_eq_false rfl | omega) only [nI_add, xa_sub, xa_mul, pk_div, nm_mod, xa_shr, xa_and7, xa_and1, xa_and255, xa_by_and, nI_m1, Nat.add_sub_cancel, Nat.reducePow, Nat.zero_add, Nat.add_zero, Nat.reduceAdd, Nat.reduceMul, Nat.reduceSub, xf_same, xq_ff, xq_fo, xf_1, xf_2, xs_1, xs_2, xs_same, xq_so, xj_1, xj_2, xj_same, xq_jo, xq_sa1, xq_same, xq_other, upd_s, oI_n, oI_s, xv_0, xv_1, xv_2, xv_3, xm_p1, xm_p2, List.filter_cons, List.filter_nil, Nat.reduceBEq, Bool.not_true, Bool.not_false, Bool.and_true, Bool.and_false, Bool.false_and, Bool.true_and, if_true, if_false, Bool.false_eq_true, reduceIte, xc_i, xc_j, xc_r, xc_n, List.nil_append, List.cons_append, Option.toList_some, Option.toList_none, s3, pf_2 s1 hpp]
  refine by_inv1 cn_73 lk_3_91 (by rw [xe_cnt]; decide) is_70 np_70 cn_70 (by first | exact rfl | assumption) (Nat.le_of_ble_eq_true rfl) ?_
  refine sp_rdC (by omega) hS (fun y h2 hch => ?_)
  obtain ⟨hf, hch⟩ := hch
  cases hr : pr_ch (by_bit l) (8 * l.length) ps.length a with
  | error x =>
    rw [hr] at hch
    obtain ⟨hx1, rfl, a', hS2⟩ := hch
    have f7 := hS2.2.2.2.2.2.2.1
    have hx2 := hS2.2.2.2.2.2.2.2.2.2
    have hx0 : (x = 0) = False := eq_false (by omega)
    have hE : post none (xm_si h2 (pp + 2) ps.length (-1)) := by
      refine hp _ ?_
      rw [hr]
      exact ⟨Fr_si (Fr_tr hA.1 hf (by simp) (by simp [ldT])) (by simp [ldR]), hx1, a', ldS_si hS2 (by omega)⟩
    by_cases h2c : c ≤ 2
    · with_reducible refine xm_go_blk b_X3_readNode_60 k_X3_readNode_60 ?_
      refine by_iast (by first | exact rfl | assumption | exact ps_1 hpp | exact ps_2 hpp | exact ps_3 hpp | exact ps_4 hpp | exact ps_5 hpp | exact ps_6 hpp | exact ps_7 hpp | exact ps_8 hpp | exact ps_9 hpp | exact ps_10 hpp | exact ps_11 hpp | exact ps_15 hpp | exact ps_16 hpp | exact ps_17 hpp | exact ps_18 hpp | exact ps_19 hpp | exact ps_21 hpp | exact ps_22 hpp | exact ps_23 hpp | exact ps_24 hpp) ⟨by omega, by omega⟩ ?_
      refine by_nil ?_
      with_reducible refine xm_go_blk b_X3_readNode_61 k_X3_readNode_61 ?_
      refine by_iload_n rfl ?_
      refine by_iconst ci_2 ?_
      refine by_ic_gt 87 rfl ?_
      simp (disch := first | exact Nat.ne_of_beq_eq_false rfl | omega) only [nI_add, xa_sub, xa_mul, pk_div, nm_mod, xa_shr, xa_and7, xa_and1, xa_and255, xa_by_and, nI_m1, Nat.add_sub_cancel, Nat.reducePow, Nat.zero_add, Nat.add_zero, Nat.reduceAdd, Nat.reduceMul, Nat.reduceSub, xf_same, xq_ff, xq_fo, xf_1, xf_2, xs_1, xs_2, xs_same, xq_so, xj_1, xj_2, xj_same, xq_jo, xq_sa1, xq_same, xq_other, upd_s, oI_n, oI_s, xv_0, xv_1, xv_2, xv_3, xm_p1, xm_p2, List.filter_cons, List.filter_nil, Nat.reduceBEq, Bool.not_true, Bool.not_false, Bool.and_true, Bool.and_false, Bool.false_and, Bool.true_and, if_true, if_false, Bool.false_eq_true, reduceIte, xc_i, xc_j, xc_r, xc_n, List.nil_append, List.cons_append, Option.toList_some, Option.toList_none, nI_ltJ, nI_leJ, nI_eqJ, nI_ltz, nI_gez, nI_gtz, nI_lez, nI_eqz, m1_ltz, m1_gez, true_imp_iff, false_imp_iff, true_and, and_true, ne_eq, not_false_eq_true, not_true_eq_false, Nat.reduceEqDiff, Nat.reduceLT, Nat.reduceLeDiff, f7, hx0]
      refine ⟨fun c => absurd c (by omega), fun c61 => ?_⟩
      with_reducible refine xm_go_blk b_X3_readNode_66 k_X3_readNode_66 ?_
      refine by_aload_n rfl ?_
      refine by_getf cn_73 fl_3_47 (by first | exact rfl | assumption) (by decide) ?_
      simp (disch := first | exact Nat.ne_of_beq_eq_false rfl | omega) only [nI_add, xa_sub, xa_mul, pk_div, nm_mod, xa_shr, xa_and7, xa_and1, xa_and255, xa_by_and, nI_m1, Nat.add_sub_cancel, Nat.reducePow, Nat.zero_add, Nat.add_zero, Nat.reduceAdd, Nat.reduceMul, Nat.reduceSub, xf_same, xq_ff, xq_fo, xf_1, xf_2, xs_1, xs_2, xs_same, xq_so, xj_1, xj_2, xj_same, xq_jo, xq_sa1, xq_same, xq_other, upd_s, oI_n, oI_s, f7, hx0]
      refine by_if_ne 87 rfl ?_
      simp (disch := first | exact Nat.ne_of_beq_eq_false rfl | omega) only [nI_add, xa_sub, xa_mul, pk_div, nm_mod, xa_shr, xa_and7, xa_and1, xa_and255, xa_by_and, nI_m1, Nat.add_sub_cancel, Nat.reducePow, Nat.zero_add, Nat.add_zero, Nat.reduceAdd, Nat.reduceMul, Nat.reduceSub, xf_same, xq_ff, xq_fo, xf_1, xf_2, xs_1, xs_2, xs_same, xq_so, xj_1, xj_2, xj_same, xq_jo, xq_sa1, xq_same, xq_other, upd_s, oI_n, oI_s, xv_0, xv_1, xv_2, xv_3, xm_p1, xm_p2, List.filter_cons, List.filter_nil, Nat.reduceBEq, Bool.not_true, Bool.not_false, Bool.and_true, Bool.and_false, Bool.false_and, Bool.true_and, if_true, if_false, Bool.false_eq_true, reduceIte, xc_i, xc_j, xc_r, xc_n, List.nil_append, List.cons_append, Option.toList_some, Option.toList_none, nI_ltJ, nI_leJ, nI_eqJ, nI_ltz, nI_gez, nI_gtz, nI_lez, nI_eqz, m1_ltz, m1_gez, true_imp_iff, false_imp_iff, true_and, and_true, ne_eq, not_false_eq_true, not_true_eq_false, Nat.reduceEqDiff, Nat.reduceLT, Nat.reduceLeDiff, f7, hx0]
      exact rdn_87 (by omega) hE
    · with_reducible refine xm_go_blk b_X3_readNode_60 k_X3_readNode_60 ?_
      refine by_iast (by first | exact rfl | assumption | exact ps_1 hpp | exact ps_2 hpp | exact ps_3 hpp | exact ps_4 hpp | exact ps_5 hpp | exact ps_6 hpp | exact ps_7 hpp | exact ps_8 hpp | exact ps_9 hpp | exact ps_10 hpp | exact ps_11 hpp | exact ps_15 hpp | exact ps_16 hpp | exact ps_17 hpp | exact ps_18 hpp | exact ps_19 hpp | exact ps_21 hpp | exact ps_22 hpp | exact ps_23 hpp | exact ps_24 hpp) ⟨by omega, by omega⟩ ?_
      refine by_nil ?_
      with_reducible refine xm_go_blk b_X3_readNode_61 k_X3_readNode_61 ?_
      refine by_iload_n rfl ?_
      refine by_iconst ci_2 ?_
      refine by_ic_gt 87 rfl ?_
      simp (disch := first | exact Nat.ne_of_beq_eq_false rfl | omega) only [nI_add, xa_sub, xa_mul, pk_div, nm_mod, xa_shr, xa_and7, xa_and1, xa_and255, xa_by_and, nI_m1, Nat.add_sub_cancel, Nat.reducePow, Nat.zero_add, Nat.add_zero, Nat.reduceAdd, Nat.reduceMul, Nat.reduceSub, xf_same, xq_ff, xq_fo, xf_1, xf_2, xs_1, xs_2, xs_same, xq_so, xj_1, xj_2, xj_same, xq_jo, xq_sa1, xq_same, xq_other, upd_s, oI_n, oI_s, xv_0, xv_1, xv_2, xv_3, xm_p1, xm_p2, List.filter_cons, List.filter_nil, Nat.reduceBEq, Bool.not_true, Bool.not_false, Bool.and_true, Bool.and_false, Bool.false_and, Bool.true_and, if_true, if_false, Bool.false_eq_true, reduceIte, xc_i, xc_j, xc_r, xc_n, List.nil_append, List.cons_append, Option.toList_some, Option.toList_none, nI_ltJ, nI_leJ, nI_eqJ, nI_ltz, nI_gez, nI_gtz, nI_lez, nI_eqz, m1_ltz, m1_gez, true_imp_iff, false_imp_iff, true_and, and_true, ne_eq, not_false_eq_true, not_true_eq_false, Nat.reduceEqDiff, Nat.reduceLT, Nat.reduceLeDiff]
      refine ⟨fun c61 => ?_, fun c => absurd (by omega) c⟩
      exact rdn_87 (by omega) hE
  | ok q =>
    obtain ⟨i, b⟩ := q
    rw [hr] at hch hp
    obtain ⟨rfl, hS2⟩ := hch
    have f7 := hS2.2.2.2.2.2.2.1
    have hk := pr_ch_le (by_bit_lt l) s9 hr
    have hA2 := ldAd_fr hA hpp hf
    by_cases h2c : c ≤ 2
    · simp only [if_pos h2c] at hp
      have hS3 := ldS_si (c := pp + 2) (j := ps.length) (x := nI i) hS2 (by omega)
      have g3 := hS2.2.2.1
      with_reducible refine xm_go_blk b_X3_readNode_60 k_X3_readNode_60 ?_
      refine by_iast (by first | exact rfl | assumption | exact ps_1 hpp | exact ps_2 hpp | exact ps_3 hpp | exact ps_4 hpp | exact ps_5 hpp | exact ps_6 hpp | exact ps_7 hpp | exact ps_8 hpp | exact ps_9 hpp | exact ps_10 hpp | exact ps_11 hpp | exact ps_15 hpp | exact ps_16 hpp | exact ps_17 hpp | exact ps_18 hpp | exact ps_19 hpp | exact ps_21 hpp | exact ps_22 hpp | exact ps_23 hpp | exact ps_24 hpp) ⟨by omega, by omega⟩ ?_
      refine by_nil ?_
      with_reducible refine xm_go_blk b_X3_readNode_61 k_X3_readNode_61 ?_
      refine by_iload_n rfl ?_
      refine by_iconst ci_2 ?_
      refine by_ic_gt 87 rfl ?_
      simp (disch := first | exact Nat.ne_of_beq_eq_false rfl | omega) only [nI_add, xa_sub, xa_mul, pk_div, nm_mod, xa_shr, xa_and7, xa_and1, xa_and255, xa_by_and, nI_m1, Nat.add_sub_cancel, Nat.reducePow, Nat.zero_add, Nat.add_zero, Nat.reduceAdd, Nat.reduceMul, Nat.reduceSub, xf_same, xq_ff, xq_fo, xf_1, xf_2, xs_1, xs_2, xs_same, xq_so, xj_1, xj_2, xj_same, xq_jo, xq_sa1, xq_same, xq_other, upd_s, oI_n, oI_s, xv_0, xv_1, xv_2, xv_3, xm_p1, xm_p2, List.filter_cons, List.filter_nil, Nat.reduceBEq, Bool.not_true, Bool.not_false, Bool.and_true, Bool.and_false, Bool.false_and, Bool.true_and, if_true, if_false, Bool.false_eq_true, reduceIte, xc_i, xc_j, xc_r, xc_n, List.nil_append, List.cons_append, Option.toList_some, Option.toList_none, nI_ltJ, nI_leJ, nI_eqJ, nI_ltz, nI_gez, nI_gtz, nI_lez, nI_eqz, m1_ltz, m1_gez, true_imp_iff, false_imp_iff, true_and, and_true, ne_eq, not_false_eq_true, not_true_eq_false, Nat.reduceEqDiff, Nat.reduceLT, Nat.reduceLeDiff, f7, g3, pf_3 hS2.1 hpp]
      refine ⟨fun c => absurd c (by omega), fun c61 => ?_⟩
      with_reducible refine xm_go_blk b_X3_readNode_66 k_X3_readNode_66 ?_
      refine by_aload_n rfl ?_
      refine by_getf cn_73 fl_3_47 (by first | exact rfl | assumption) (by decide) ?_
      simp (disch := first | exact Nat.ne_of_beq_eq_false rfl | omega) only [nI_add, xa_sub, xa_mul, pk_div, nm_mod, xa_shr, xa_and7, xa_and1, xa_and255, xa_by_and, nI_m1, Nat.add_sub_cancel, Nat.reducePow, Nat.zero_add, Nat.add_zero, Nat.reduceAdd, Nat.reduceMul, Nat.reduceSub, xf_same, xq_ff, xq_fo, xf_1, xf_2, xs_1, xs_2, xs_same, xq_so, xj_1, xj_2, xj_same, xq_jo, xq_sa1, xq_same, xq_other, upd_s, oI_n, oI_s, f7, g3, pf_3 hS2.1 hpp]
      refine by_if_ne 87 rfl ?_
      simp (disch := first | exact Nat.ne_of_beq_eq_false rfl | omega) only [nI_add, xa_sub, xa_mul, pk_div, nm_mod, xa_shr, xa_and7, xa_and1, xa_and255, xa_by_and, nI_m1, Nat.add_sub_cancel, Nat.reducePow, Nat.zero_add, Nat.add_zero, Nat.reduceAdd, Nat.reduceMul, Nat.reduceSub, xf_same, xq_ff, xq_fo, xf_1, xf_2, xs_1, xs_2, xs_same, xq_so, xj_1, xj_2, xj_same, xq_jo, xq_sa1, xq_same, xq_other, upd_s, oI_n, oI_s, xv_0, xv_1, xv_2, xv_3, xm_p1, xm_p2, List.filter_cons, List.filter_nil, Nat.reduceBEq, Bool.not_true, Bool.not_false, Bool.and_true, Bool.and_false, Bool.false_and, Bool.true_and, if_true, if_false, Bool.false_eq_true, reduceIte, xc_i, xc_j, xc_r, xc_n, List.nil_append, List.cons_append, Option.toList_some, Option.toList_none, nI_ltJ, nI_leJ, nI_eqJ, nI_ltz, nI_gez, nI_gtz, nI_lez, nI_eqz, m1_ltz, m1_gez, true_imp_iff, false_imp_iff, true_and, and_true, ne_eq, not_false_eq_true, not_true_eq_false, Nat.reduceEqDiff, Nat.reduceLT, Nat.reduceLeDiff, f7, g3, pf_3 hS2.1 hpp]
      with_reducible refine xm_go_blk b_X3_readNode_73 k_X3_readNode_73 ?_
      refine by_aload_n rfl ?_
      refine by_getf cn_73 fl_3_15 (by first | exact rfl | assumption) (by decide) ?_
      simp (disch := first | exact Nat.ne_of_beq_eq_false rfl | omega) only [nI_add, xa_sub, xa_mul, pk_div, nm_mod, xa_shr, xa_and7, xa_and1, xa_and255, xa_by_and, nI_m1, Nat.add_sub_cancel, Nat.reducePow, Nat.zero_add, Nat.add_zero, Nat.reduceAdd, Nat.reduceMul, Nat.reduceSub, xf_same, xq_ff, xq_fo, xf_1, xf_2, xs_1, xs_2, xs_same, xq_so, xj_1, xj_2, xj_same, xq_jo, xq_sa1, xq_same, xq_other, upd_s, oI_n, oI_s, f7, g3, pf_3 hS2.1 hpp]
      refine by_getf cn_73 fl_3_94 (by first | exact rfl | assumption | exact ps_0 hpp) (by decide) ?_
      refine by_iload_n rfl ?_
      refine by_aload_n rfl ?_
      refine by_iload_n rfl ?_
      simp (disch := first | exact Nat.ne_of_beq_eq_false rfl | omega) only [nI_add, xa_sub, xa_mul, pk_div, nm_mod, xa_shr, xa_and7, xa_and1, xa_and255, xa_by_and, nI_m1, Nat.add_sub_cancel, Nat.reducePow, Nat.zero_add, Nat.add_zero, Nat.reduceAdd, Nat.reduceMul, Nat.reduceSub, xf_same, xq_ff, xq_fo, xf_1, xf_2, xs_1, xs_2, xs_same, xq_so, xj_1, xj_2, xj_same, xq_jo, xq_sa1, xq_same, xq_other, upd_s, oI_n, oI_s, xv_0, xv_1, xv_2, xv_3, xm_p1, xm_p2, List.filter_cons, List.filter_nil, Nat.reduceBEq, Bool.not_true, Bool.not_false, Bool.and_true, Bool.and_false, Bool.false_and, Bool.true_and, if_true, if_false, Bool.false_eq_true, reduceIte, xc_i, xc_j, xc_r, xc_n, List.nil_append, List.cons_append, Option.toList_some, Option.toList_none, f7, g3, pf_3 hS2.1 hpp]
      refine by_inv1 cn_73 lk_3_91 (by rw [xe_cnt]; decide) is_70 np_70 cn_70 (by first | exact rfl | assumption) (Nat.le_of_ble_eq_true rfl) ?_
      refine sp_rdC (by omega) hS3 (fun y h3 hch => ?_)
      obtain ⟨hf3, hch⟩ := hch
      cases hr2 : pr_ch (by_bit l) (8 * l.length) ps.length b with
      | error x =>
        rw [hr2] at hch hp
        obtain ⟨hx1, rfl, a', hS4⟩ := hch
        with_reducible refine xm_go_blk b_X3_readNode_86 k_X3_readNode_86 ?_
        refine by_iast (by first | exact rfl | assumption | exact ps_1 hpp | exact ps_2 hpp | exact ps_3 hpp | exact ps_4 hpp | exact ps_5 hpp | exact ps_6 hpp | exact ps_7 hpp | exact ps_8 hpp | exact ps_9 hpp | exact ps_10 hpp | exact ps_11 hpp | exact ps_15 hpp | exact ps_16 hpp | exact ps_17 hpp | exact ps_18 hpp | exact ps_19 hpp | exact ps_21 hpp | exact ps_22 hpp | exact ps_23 hpp | exact ps_24 hpp) ⟨by omega, by omega⟩ ?_
        refine by_nil ?_
        refine rdn_87 (by omega) (hp _ ?_)
        exact ⟨Fr_si (Fr_tr (Fr_si hA2.1 (by simp [ldR])) hf3 (by simp) (by simp [ldT])) (by simp [ldR]), hx1, a', ldS_si hS4 (by omega)⟩
      | ok q =>
        obtain ⟨j, b'⟩ := q
        rw [hr2] at hch hp
        obtain ⟨rfl, hS4⟩ := hch
        have hk2 := pr_ch_le (by_bit_lt l) hk.2.1 hr2
        with_reducible refine xm_go_blk b_X3_readNode_86 k_X3_readNode_86 ?_
        refine by_iast (by first | exact rfl | assumption | exact ps_1 hpp | exact ps_2 hpp | exact ps_3 hpp | exact ps_4 hpp | exact ps_5 hpp | exact ps_6 hpp | exact ps_7 hpp | exact ps_8 hpp | exact ps_9 hpp | exact ps_10 hpp | exact ps_11 hpp | exact ps_15 hpp | exact ps_16 hpp | exact ps_17 hpp | exact ps_18 hpp | exact ps_19 hpp | exact ps_21 hpp | exact ps_22 hpp | exact ps_23 hpp | exact ps_24 hpp) ⟨by omega, by omega⟩ ?_
        refine by_nil ?_
        exact rdn_87 (by omega) (hp _ (rdn_2 hC hA2 hpp hf3 hS4 (by omega) (by omega)))
    · simp only [if_neg h2c] at hp
      with_reducible refine xm_go_blk b_X3_readNode_60 k_X3_readNode_60 ?_
      refine by_iast (by first | exact rfl | assumption | exact ps_1 hpp | exact ps_2 hpp | exact ps_3 hpp | exact ps_4 hpp | exact ps_5 hpp | exact ps_6 hpp | exact ps_7 hpp | exact ps_8 hpp | exact ps_9 hpp | exact ps_10 hpp | exact ps_11 hpp | exact ps_15 hpp | exact ps_16 hpp | exact ps_17 hpp | exact ps_18 hpp | exact ps_19 hpp | exact ps_21 hpp | exact ps_22 hpp | exact ps_23 hpp | exact ps_24 hpp) ⟨by omega, by omega⟩ ?_
      refine by_nil ?_
      with_reducible refine xm_go_blk b_X3_readNode_61 k_X3_readNode_61 ?_
      refine by_iload_n rfl ?_
      refine by_iconst ci_2 ?_
      refine by_ic_gt 87 rfl ?_
      simp (disch := first | exact Nat.ne_of_beq_eq_false rfl | omega) only [nI_add, xa_sub, xa_mul, pk_div, nm_mod, xa_shr, xa_and7, xa_and1, xa_and255, xa_by_and, nI_m1, Nat.add_sub_cancel, Nat.reducePow, Nat.zero_add, Nat.add_zero, Nat.reduceAdd, Nat.reduceMul, Nat.reduceSub, xf_same, xq_ff, xq_fo, xf_1, xf_2, xs_1, xs_2, xs_same, xq_so, xj_1, xj_2, xj_same, xq_jo, xq_sa1, xq_same, xq_other, upd_s, oI_n, oI_s, xv_0, xv_1, xv_2, xv_3, xm_p1, xm_p2, List.filter_cons, List.filter_nil, Nat.reduceBEq, Bool.not_true, Bool.not_false, Bool.and_true, Bool.and_false, Bool.false_and, Bool.true_and, if_true, if_false, Bool.false_eq_true, reduceIte, xc_i, xc_j, xc_r, xc_n, List.nil_append, List.cons_append, Option.toList_some, Option.toList_none, nI_ltJ, nI_leJ, nI_eqJ, nI_ltz, nI_gez, nI_gtz, nI_lez, nI_eqz, m1_ltz, m1_gez, true_imp_iff, false_imp_iff, true_and, and_true, ne_eq, not_false_eq_true, not_true_eq_false, Nat.reduceEqDiff, Nat.reduceLT, Nat.reduceLeDiff]
      refine ⟨fun c61 => ?_, fun c => absurd (by omega) c⟩
      exact rdn_87 (by omega) (hp _ (rdn_1 hC hA2 hS2 (by omega) (by omega)))
end RDN
