/-! ===== say: an expression of the class ===== -/
section PR
variable {t : List Nat} {NL : List (List Nat × Nat)} {G : sG} {st : List (Option Nat)} {p k n m : Nat} {S S' : sS} {x : Nat × Nat}
theorem sT_b (h : sBeg t NL G st p = .inl x) : sXf t NL (k + 1) G st p = some (.inl x) := by
  have e : sTrn t NL G st p = .inl x := by unfold sTrn; rw [h]
  rw [sXf, e]
theorem sT_w (h : sBeg t NL G st p = .inr (S, none)) : sXf t NL (k + 1) G st p = sXf t NL k S.1 S.2.1 S.2.2 := by
  have e : sTrn t NL G st p = .inr (S, none) := by unfold sTrn; rw [h]
  rw [sXf, e]
theorem sT_fb (h : sBeg t NL G st p = .inr (S, some n)) (h2 : sFin t n S.1 S.2.1 S.2.2 = .inl x) : sXf t NL (k + 1) G st p = some (.inl x) := by
  have e : sTrn t NL G st p = .inl x := by unfold sTrn; rw [h]; exact h2
  rw [sXf, e]
theorem sT_fw (h : sBeg t NL G st p = .inr (S, some n)) (h2 : sFin t n S.1 S.2.1 S.2.2 = .inr (S', none)) : sXf t NL (k + 1) G st p = sXf t NL k S'.1 S'.2.1 S'.2.2 := by
  have e : sTrn t NL G st p = .inr (S', none) := by unfold sTrn; rw [h]; exact h2
  rw [sXf, e]
theorem sT_fd (h : sBeg t NL G st p = .inr (S, some n)) (h2 : sFin t n S.1 S.2.1 S.2.2 = .inr (S', some m)) : sXf t NL (k + 1) G st p = some (.inr (S'.1, S'.2.2, m)) := by
  have e : sTrn t NL G st p = .inr (S', some m) := by unfold sTrn; rw [h]; exact h2
  rw [sXf, e]
end PR
/-- what the class finds ahead of an expression or a definition -/
def cD (h : xm_H) (pp : Nat) (t : List Nat) (NL : List (List Nat × Nat)) (G : sG) (p nh W : Nat) : Prop := cT (xm_sf h 46 8 (.int (nI 0))) pp t NL G [] p nh W
section SY
variable {sc : xm_Sc} {d pp nh p W : Nat} {t : List Nat} {NL : List (List Nat × Nat)} {G : sG} {h : xm_H} {post : xm_Po}
theorem sp_readExpression (hpp : pp = 52 ∨ pp = 77) (hF : XF h) (hT : cD h pp t NL G p nh W) (hI : sInv t NL G []) (hpt : p ≤ t.length) (hp2 : 2 ≤ p) (hW : W + 2000 < 1000000)
    (hB : ∀ e f h' W', (∃ k, sXf t NL k G [] p = some (.inl (e, f))) → Fr (sbR pp) (sbT pp) h h' → ordI h' W' → 5 * W' + p ≤ 5 * W + t.length + 5 → h'.2.2 46 16 = .int (nI e) → h'.2.2 46 0 = .int (nI f) → post (some (.int (-1))) h')
    (hG : ∀ G' p' n h' nh' W', (∃ k, sXf t NL k G [] p = some (.inr (G', p', n))) → Fr (sbR pp) (sbT pp) h h' → cT h' pp t NL G' [] p' nh' W' → sInv t NL G' [] → n < sCt G' → p < p' → p' ≤ t.length → W ≤ W' → 5 * W' + p ≤ 5 * W + p' → h'.2.2 46 16 = h.2.2 46 16 → h'.2.2 46 0 = h.2.2 46 0 → post (some (.int (nI n))) h') : xm_T (XE sc) (d + 5) 150 [.ref 46] h post := by
  have ht8 : t.length ≤ 8192 := hT.2.1.2.2.1.2.2.1
  have m21 : ((-1 : Int32) = -2) = False := eq_false (by decide)
  have m2l : ((-2 : Int32) < 0) = True := eq_true (by decide)
  have ret : ∀ (x : Int32) (turn : Nat) (h1 : xm_H), turn + 1 < 8192 → (x = -2) = False → post (some (.int x)) h1 → xm_go (XE sc) (xm_T (XE sc) (d + 4)) 150 post 38 [(1, .int x), (2, .int (nI turn)), (0, .ref 46)] [] h1 := fun x turn h1 h2 h3 h4 => by
    with_reducible refine xm_go_blk b_X9_readExpression_38 k_X9_readExpression_38 ?_
    refine by_iinc (by rw [ml_150]; decide) rfl ci_1 ?_
    refine by_goto 10 rfl ?_
    try simp (disch := first | exact Nat.ne_of_beq_eq_false rfl | exact rfl | omega) only [nI_add, xa_sub, xa_mul, pk_div, nm_mod, xa_shr, xa_and7, xa_and1, xa_and255, xa_by_and, nI_m1, Nat.add_sub_cancel, Nat.reducePow, Nat.zero_add, Nat.add_zero, Nat.reduceAdd, Nat.reduceMul, Nat.reduceSub, xf_same, xq_ff, xq_fo, xf_1, xf_2, xs_1, xs_2, xs_same, xq_so, xj_1, xj_2, xj_same, xq_jo, xq_sa1, xq_same, xq_other, upd_s, oI_n, oI_s, xv_0, xv_1, xv_2, xv_3, xm_p1, xm_p2, xq_fp, xq_fn, List.filter_nil, Nat.reduceBEq, Bool.not_true, Bool.not_false, Bool.and_true, Bool.and_false, Bool.false_and, Bool.true_and, if_true, if_false, Bool.false_eq_true, reduceIte, xc_i, xc_j, xc_r, xc_n, List.nil_append, List.cons_append, Option.toList_some, Option.toList_none, h3]
    with_reducible refine xm_go_blk b_X9_readExpression_10 k_X9_readExpression_10 ?_
    refine by_iload_n rfl ?_
    refine by_sipush cs_8192 ?_
    refine by_ic_ge 44 rfl ?_
    simp (disch := first | exact Nat.ne_of_beq_eq_false rfl | exact rfl | omega) only [nI_add, xa_sub, xa_mul, pk_div, nm_mod, xa_shr, xa_and7, xa_and1, xa_and255, xa_by_and, nI_m1, Nat.add_sub_cancel, Nat.reducePow, Nat.zero_add, Nat.add_zero, Nat.reduceAdd, Nat.reduceMul, Nat.reduceSub, xf_same, xq_ff, xq_fo, xf_1, xf_2, xs_1, xs_2, xs_same, xq_so, xj_1, xj_2, xj_same, xq_jo, xq_sa1, xq_same, xq_other, upd_s, oI_n, oI_s, xv_0, xv_1, xv_2, xv_3, xm_p1, xm_p2, xq_fp, xq_fn, List.filter_nil, Nat.reduceBEq, Bool.not_true, Bool.not_false, Bool.and_true, Bool.and_false, Bool.false_and, Bool.true_and, if_true, if_false, Bool.false_eq_true, reduceIte, xc_i, xc_j, xc_r, xc_n, List.nil_append, List.cons_append, Option.toList_some, Option.toList_none, nI_ltJ, nI_leJ, nI_eqJ, nI_ltz, nI_gez, nI_gtz, nI_lez, nI_eqz, m1_ltz, m1_gez, true_imp_iff, false_imp_iff, true_and, and_true, ne_eq, not_false_eq_true, not_true_eq_false, Nat.reduceEqDiff, Nat.reduceLT, Nat.reduceLeDiff, h3]
    refine ⟨fun c => absurd c (by omega), fun c10 => ?_⟩
    with_reducible refine xm_go_blk b_X9_readExpression_17 k_X9_readExpression_17 ?_
    refine by_iload_n rfl ?_
    refine by_bipush cb_m2 ?_
    refine by_ic_ne 44 rfl ?_
    simp (disch := first | exact Nat.ne_of_beq_eq_false rfl | exact rfl | omega) only [nI_add, xa_sub, xa_mul, pk_div, nm_mod, xa_shr, xa_and7, xa_and1, xa_and255, xa_by_and, nI_m1, Nat.add_sub_cancel, Nat.reducePow, Nat.zero_add, Nat.add_zero, Nat.reduceAdd, Nat.reduceMul, Nat.reduceSub, xf_same, xq_ff, xq_fo, xf_1, xf_2, xs_1, xs_2, xs_same, xq_so, xj_1, xj_2, xj_same, xq_jo, xq_sa1, xq_same, xq_other, upd_s, oI_n, oI_s, xv_0, xv_1, xv_2, xv_3, xm_p1, xm_p2, xq_fp, xq_fn, List.filter_nil, Nat.reduceBEq, Bool.not_true, Bool.not_false, Bool.and_true, Bool.and_false, Bool.false_and, Bool.true_and, if_true, if_false, Bool.false_eq_true, reduceIte, xc_i, xc_j, xc_r, xc_n, List.nil_append, List.cons_append, Option.toList_some, Option.toList_none, nI_ltJ, nI_leJ, nI_eqJ, nI_ltz, nI_gez, nI_gtz, nI_lez, nI_eqz, m1_ltz, m1_gez, true_imp_iff, false_imp_iff, true_and, and_true, ne_eq, not_false_eq_true, not_true_eq_false, Nat.reduceEqDiff, Nat.reduceLT, Nat.reduceLeDiff, h3]
    with_reducible refine xm_go_blk b_X9_readExpression_44 k_X9_readExpression_44 ?_
    refine by_iload_n rfl ?_
    refine by_iret ry_150 (by first | rfl | assumption) ?_
    exact h4
  have key : ∀ (m : Nat) (G1 : sG) (st1 : List (Option Nat)) (p1 nh1 W1 turn : Nat) (h1 : xm_H), t.length - p1 < m → (∀ o, (∃ k, sXf t NL k G1 st1 p1 = some o) → ∃ k, sXf t NL k G [] p = some o) → cT h1 pp t NL G1 st1 p1 nh1 W1 → sInv t NL G1 st1 → p ≤ p1 → p1 ≤ t.length → st1.length + 2 ≤ p1 → turn + 2 ≤ p1 → W ≤ W1 → 5 * W1 + p ≤ 5 * W + p1 → Fr (sbR pp) (sbT pp) h h1 → h1.2.2 46 16 = h.2.2 46 16 → h1.2.2 46 0 = h.2.2 46 0 → xm_go (XE sc) (xm_T (XE sc) (d + 4)) 150 post 10 [(2, .int (nI turn)), (1, .int (-2)), (0, .ref 46)] [] h1 := by
    intro m
    induction m with
    | zero => intro G1 st1 p1 nh1 W1 turn h1 hm; omega
    | succ m ih =>
      intro G1 st1 p1 nh1 W1 turn h1 hm hs hT1 hI1 hpp1 hp1 hst1 htu hWW hW5 f1 a16 a0
      with_reducible refine xm_go_blk b_X9_readExpression_10 k_X9_readExpression_10 ?_
      refine by_iload_n rfl ?_
      refine by_sipush cs_8192 ?_
      refine by_ic_ge 44 rfl ?_
      simp (disch := first | exact Nat.ne_of_beq_eq_false rfl | exact rfl | omega) only [nI_add, xa_sub, xa_mul, pk_div, nm_mod, xa_shr, xa_and7, xa_and1, xa_and255, xa_by_and, nI_m1, Nat.add_sub_cancel, Nat.reducePow, Nat.zero_add, Nat.add_zero, Nat.reduceAdd, Nat.reduceMul, Nat.reduceSub, xf_same, xq_ff, xq_fo, xf_1, xf_2, xs_1, xs_2, xs_same, xq_so, xj_1, xj_2, xj_same, xq_jo, xq_sa1, xq_same, xq_other, upd_s, oI_n, oI_s, xv_0, xv_1, xv_2, xv_3, xm_p1, xm_p2, xq_fp, xq_fn, List.filter_nil, Nat.reduceBEq, Bool.not_true, Bool.not_false, Bool.and_true, Bool.and_false, Bool.false_and, Bool.true_and, if_true, if_false, Bool.false_eq_true, reduceIte, xc_i, xc_j, xc_r, xc_n, List.nil_append, List.cons_append, Option.toList_some, Option.toList_none, nI_ltJ, nI_leJ, nI_eqJ, nI_ltz, nI_gez, nI_gtz, nI_lez, nI_eqz, m1_ltz, m1_gez, true_imp_iff, false_imp_iff, true_and, and_true, ne_eq, not_false_eq_true, not_true_eq_false, Nat.reduceEqDiff, Nat.reduceLT, Nat.reduceLeDiff]
      refine ⟨fun c => absurd c (by omega), fun c10 => ?_⟩
      with_reducible refine xm_go_blk b_X9_readExpression_17 k_X9_readExpression_17 ?_
      refine by_iload_n rfl ?_
      refine by_bipush cb_m2 ?_
      refine by_ic_ne 44 rfl ?_
      simp (disch := first | exact Nat.ne_of_beq_eq_false rfl | exact rfl | omega) only [nI_add, xa_sub, xa_mul, pk_div, nm_mod, xa_shr, xa_and7, xa_and1, xa_and255, xa_by_and, nI_m1, Nat.add_sub_cancel, Nat.reducePow, Nat.zero_add, Nat.add_zero, Nat.reduceAdd, Nat.reduceMul, Nat.reduceSub, xf_same, xq_ff, xq_fo, xf_1, xf_2, xs_1, xs_2, xs_same, xq_so, xj_1, xj_2, xj_same, xq_jo, xq_sa1, xq_same, xq_other, upd_s, oI_n, oI_s, xv_0, xv_1, xv_2, xv_3, xm_p1, xm_p2, xq_fp, xq_fn, List.filter_nil, Nat.reduceBEq, Bool.not_true, Bool.not_false, Bool.and_true, Bool.and_false, Bool.false_and, Bool.true_and, if_true, if_false, Bool.false_eq_true, reduceIte, xc_i, xc_j, xc_r, xc_n, List.nil_append, List.cons_append, Option.toList_some, Option.toList_none, nI_ltJ, nI_leJ, nI_eqJ, nI_ltz, nI_gez, nI_gtz, nI_lez, nI_eqz, m1_ltz, m1_gez, true_imp_iff, false_imp_iff, true_and, and_true, ne_eq, not_false_eq_true, not_true_eq_false, Nat.reduceEqDiff, Nat.reduceLT, Nat.reduceLeDiff]
      with_reducible refine xm_go_blk b_X9_readExpression_23 k_X9_readExpression_23 ?_
      refine by_aload_n rfl ?_
      refine by_inv0 cn_150 lk_9_151 (by rw [xe_cnt]; decide) is_142 np_142 cn_142 (by first | exact rfl | assumption) (Nat.le_of_ble_eq_true rfl) ?_
      refine sp_xbegin (d := d) hpp hT1 hI1 hp1 hst1 (by omega) (fun e f h2 W2 eb f2 o2 hw2 b16 b0 => ?_) (fun S o h2 nh2 W2 eb f2 hT2 hw2 hw5 b16 b0 => ?_)
      · with_reducible refine xm_go_blk b_X9_readExpression_27 k_X9_readExpression_27 ?_
        refine by_istore_n (by rw [ml_150]; decide) ?_
        refine by_iload_n rfl ?_
        refine by_if_lt 38 rfl ?_
        simp (disch := first | exact Nat.ne_of_beq_eq_false rfl | exact rfl | omega) only [nI_add, xa_sub, xa_mul, pk_div, nm_mod, xa_shr, xa_and7, xa_and1, xa_and255, xa_by_and, nI_m1, Nat.add_sub_cancel, Nat.reducePow, Nat.zero_add, Nat.add_zero, Nat.reduceAdd, Nat.reduceMul, Nat.reduceSub, xf_same, xq_ff, xq_fo, xf_1, xf_2, xs_1, xs_2, xs_same, xq_so, xj_1, xj_2, xj_same, xq_jo, xq_sa1, xq_same, xq_other, upd_s, oI_n, oI_s, xv_0, xv_1, xv_2, xv_3, xm_p1, xm_p2, xq_fp, xq_fn, List.filter_nil, Nat.reduceBEq, Bool.not_true, Bool.not_false, Bool.and_true, Bool.and_false, Bool.false_and, Bool.true_and, if_true, if_false, Bool.false_eq_true, reduceIte, xc_i, xc_j, xc_r, xc_n, List.nil_append, List.cons_append, Option.toList_some, Option.toList_none, nI_ltJ, nI_leJ, nI_eqJ, nI_ltz, nI_gez, nI_gtz, nI_lez, nI_eqz, m1_ltz, m1_gez, true_imp_iff, false_imp_iff, true_and, and_true, ne_eq, not_false_eq_true, not_true_eq_false, Nat.reduceEqDiff, Nat.reduceLT, Nat.reduceLeDiff]
        exact xm_go_wk (by simp [Value.category]) (ret (-1) turn h2 (by omega) m21 (hB e f h2 W2 (hs _ ⟨1, sT_b eb⟩) (Fr_tr f1 f2 (fun _ z => z) (fun _ z => z)) o2 (by omega) b16 b0))
      · obtain ⟨k1, k2, k3, k4, k5⟩ := sBeg_ok hI1 hp1 eb
        have f3 := Fr_tr f1 f2 (fun _ z => z) (fun _ z => z)
        cases o with
        | none =>
          have hl : S.2.1.length + 2 ≤ S.2.2 := by omega
          show xm_go (XE sc) (xm_T (XE sc) (d + 4)) 150 post 27 [(2, .int (nI turn)), (1, .int (-2)), (0, .ref 46)] [.int (-2)] h2
          with_reducible refine xm_go_blk b_X9_readExpression_27 k_X9_readExpression_27 ?_
          refine by_istore_n (by rw [ml_150]; decide) ?_
          refine by_iload_n rfl ?_
          refine by_if_lt 38 rfl ?_
          simp (disch := first | exact Nat.ne_of_beq_eq_false rfl | exact rfl | omega) only [nI_add, xa_sub, xa_mul, pk_div, nm_mod, xa_shr, xa_and7, xa_and1, xa_and255, xa_by_and, nI_m1, Nat.add_sub_cancel, Nat.reducePow, Nat.zero_add, Nat.add_zero, Nat.reduceAdd, Nat.reduceMul, Nat.reduceSub, xf_same, xq_ff, xq_fo, xf_1, xf_2, xs_1, xs_2, xs_same, xq_so, xj_1, xj_2, xj_same, xq_jo, xq_sa1, xq_same, xq_other, upd_s, oI_n, oI_s, xv_0, xv_1, xv_2, xv_3, xm_p1, xm_p2, xq_fp, xq_fn, List.filter_nil, Nat.reduceBEq, Bool.not_true, Bool.not_false, Bool.and_true, Bool.and_false, Bool.false_and, Bool.true_and, if_true, if_false, Bool.false_eq_true, reduceIte, xc_i, xc_j, xc_r, xc_n, List.nil_append, List.cons_append, Option.toList_some, Option.toList_none, nI_ltJ, nI_leJ, nI_eqJ, nI_ltz, nI_gez, nI_gtz, nI_lez, nI_eqz, m1_ltz, m1_gez, true_imp_iff, false_imp_iff, true_and, and_true, ne_eq, not_false_eq_true, not_true_eq_false, Nat.reduceEqDiff, Nat.reduceLT, Nat.reduceLeDiff, m2l]
          with_reducible refine xm_go_blk b_X9_readExpression_38 k_X9_readExpression_38 ?_
          refine by_iinc (by rw [ml_150]; decide) rfl ci_1 ?_
          refine by_goto 10 rfl ?_
          try simp (disch := first | exact Nat.ne_of_beq_eq_false rfl | exact rfl | omega) only [nI_add, xa_sub, xa_mul, pk_div, nm_mod, xa_shr, xa_and7, xa_and1, xa_and255, xa_by_and, nI_m1, Nat.add_sub_cancel, Nat.reducePow, Nat.zero_add, Nat.add_zero, Nat.reduceAdd, Nat.reduceMul, Nat.reduceSub, xf_same, xq_ff, xq_fo, xf_1, xf_2, xs_1, xs_2, xs_same, xq_so, xj_1, xj_2, xj_same, xq_jo, xq_sa1, xq_same, xq_other, upd_s, oI_n, oI_s, xv_0, xv_1, xv_2, xv_3, xm_p1, xm_p2, xq_fp, xq_fn, List.filter_nil, Nat.reduceBEq, Bool.not_true, Bool.not_false, Bool.and_true, Bool.and_false, Bool.false_and, Bool.true_and, if_true, if_false, Bool.false_eq_true, reduceIte, xc_i, xc_j, xc_r, xc_n, List.nil_append, List.cons_append, Option.toList_some, Option.toList_none, m2l]
          exact xm_go_wk (by simp [Value.category]) (ih S.1 S.2.1 S.2.2 nh2 W2 (turn + 1) h2 (by omega) (fun o ho => hs o (by obtain ⟨k, hk⟩ := ho; exact ⟨k + 1, by rw [sT_w eb]; exact hk⟩)) hT2 k1 (by omega) k4 hl (by omega) (by omega) (by omega) f3 (by rw [b16]; exact a16) (by rw [b0]; exact a0))
        | some n =>
          obtain ⟨n1, n2⟩ := k2 n rfl
          have hN : sCt S.1 ≤ 2000 := by obtain ⟨⟨rk, M, hd⟩, _⟩ := k1; exact hd.1
          show xm_go (XE sc) (xm_T (XE sc) (d + 4)) 150 post 27 [(2, .int (nI turn)), (1, .int (-2)), (0, .ref 46)] [.int (nI n)] h2
          with_reducible refine xm_go_blk b_X9_readExpression_27 k_X9_readExpression_27 ?_
          refine by_istore_n (by rw [ml_150]; decide) ?_
          refine by_iload_n rfl ?_
          refine by_if_lt 38 rfl ?_
          simp (disch := first | exact Nat.ne_of_beq_eq_false rfl | exact rfl | omega) only [nI_add, xa_sub, xa_mul, pk_div, nm_mod, xa_shr, xa_and7, xa_and1, xa_and255, xa_by_and, nI_m1, Nat.add_sub_cancel, Nat.reducePow, Nat.zero_add, Nat.add_zero, Nat.reduceAdd, Nat.reduceMul, Nat.reduceSub, xf_same, xq_ff, xq_fo, xf_1, xf_2, xs_1, xs_2, xs_same, xq_so, xj_1, xj_2, xj_same, xq_jo, xq_sa1, xq_same, xq_other, upd_s, oI_n, oI_s, xv_0, xv_1, xv_2, xv_3, xm_p1, xm_p2, xq_fp, xq_fn, List.filter_nil, Nat.reduceBEq, Bool.not_true, Bool.not_false, Bool.and_true, Bool.and_false, Bool.false_and, Bool.true_and, if_true, if_false, Bool.false_eq_true, reduceIte, xc_i, xc_j, xc_r, xc_n, List.nil_append, List.cons_append, Option.toList_some, Option.toList_none, nI_ltJ, nI_leJ, nI_eqJ, nI_ltz, nI_gez, nI_gtz, nI_lez, nI_eqz, m1_ltz, m1_gez, true_imp_iff, false_imp_iff, true_and, and_true, ne_eq, not_false_eq_true, not_true_eq_false, Nat.reduceEqDiff, Nat.reduceLT, Nat.reduceLeDiff]
          with_reducible refine xm_go_blk b_X9_readExpression_32 k_X9_readExpression_32 ?_
          refine by_aload_n rfl ?_
          refine by_iload_n rfl ?_
          refine by_inv1 cn_150 lk_9_154 (by rw [xe_cnt]; decide) is_143 np_143 cn_143 (by first | exact rfl | assumption) (Nat.le_of_ble_eq_true rfl) ?_
          refine sp_finish (d := d) hpp hT2 k1 n1 n2 k4 (by omega) (fun e f h4 ef f4 o4 c16 c0 => ?_) (fun S' o' h4 ef f4 hT4 c16 c0 => ?_)
          · with_reducible refine xm_go_blk b_X9_readExpression_37 k_X9_readExpression_37 ?_
            refine by_istore_n (by rw [ml_150]; decide) ?_
            refine by_nil ?_
            try simp (disch := first | exact Nat.ne_of_beq_eq_false rfl | exact rfl | omega) only [nI_add, xa_sub, xa_mul, pk_div, nm_mod, xa_shr, xa_and7, xa_and1, xa_and255, xa_by_and, nI_m1, Nat.add_sub_cancel, Nat.reducePow, Nat.zero_add, Nat.add_zero, Nat.reduceAdd, Nat.reduceMul, Nat.reduceSub, xf_same, xq_ff, xq_fo, xf_1, xf_2, xs_1, xs_2, xs_same, xq_so, xj_1, xj_2, xj_same, xq_jo, xq_sa1, xq_same, xq_other, upd_s, oI_n, oI_s, xv_0, xv_1, xv_2, xv_3, xm_p1, xm_p2, xq_fp, xq_fn, List.filter_nil, Nat.reduceBEq, Bool.not_true, Bool.not_false, Bool.and_true, Bool.and_false, Bool.false_and, Bool.true_and, if_true, if_false, Bool.false_eq_true, reduceIte, xc_i, xc_j, xc_r, xc_n, List.nil_append, List.cons_append, Option.toList_some, Option.toList_none]
            exact xm_go_wk (by simp [Value.category]) (ret (-1) turn h4 (by omega) m21 (hB e f h4 W2 (hs _ ⟨1, sT_fb eb ef⟩) (Fr_tr f3 f4 (fun _ z => z) (fun _ z => z)) o4 (by omega) c16 c0))
          · obtain ⟨g1, g2, g3, g4, g5⟩ := sFin_ok S.2.1 k1 n1 n2 k4 ef
            have f5 := Fr_tr f3 f4 (fun _ z => z) (fun _ z => z)
            cases o' with
            | none =>
              show xm_go (XE sc) (xm_T (XE sc) (d + 4)) 150 post 37 [(1, .int (nI n)), (2, .int (nI turn)), (0, .ref 46)] [.int (-2)] h4
              with_reducible refine xm_go_blk b_X9_readExpression_37 k_X9_readExpression_37 ?_
              refine by_istore_n (by rw [ml_150]; decide) ?_
              refine by_nil ?_
              try simp (disch := first | exact Nat.ne_of_beq_eq_false rfl | exact rfl | omega) only [nI_add, xa_sub, xa_mul, pk_div, nm_mod, xa_shr, xa_and7, xa_and1, xa_and255, xa_by_and, nI_m1, Nat.add_sub_cancel, Nat.reducePow, Nat.zero_add, Nat.add_zero, Nat.reduceAdd, Nat.reduceMul, Nat.reduceSub, xf_same, xq_ff, xq_fo, xf_1, xf_2, xs_1, xs_2, xs_same, xq_so, xj_1, xj_2, xj_same, xq_jo, xq_sa1, xq_same, xq_other, upd_s, oI_n, oI_s, xv_0, xv_1, xv_2, xv_3, xm_p1, xm_p2, xq_fp, xq_fn, List.filter_nil, Nat.reduceBEq, Bool.not_true, Bool.not_false, Bool.and_true, Bool.and_false, Bool.false_and, Bool.true_and, if_true, if_false, Bool.false_eq_true, reduceIte, xc_i, xc_j, xc_r, xc_n, List.nil_append, List.cons_append, Option.toList_some, Option.toList_none]
              with_reducible refine xm_go_blk b_X9_readExpression_38 k_X9_readExpression_38 ?_
              refine by_iinc (by rw [ml_150]; decide) rfl ci_1 ?_
              refine by_goto 10 rfl ?_
              try simp (disch := first | exact Nat.ne_of_beq_eq_false rfl | exact rfl | omega) only [nI_add, xa_sub, xa_mul, pk_div, nm_mod, xa_shr, xa_and7, xa_and1, xa_and255, xa_by_and, nI_m1, Nat.add_sub_cancel, Nat.reducePow, Nat.zero_add, Nat.add_zero, Nat.reduceAdd, Nat.reduceMul, Nat.reduceSub, xf_same, xq_ff, xq_fo, xf_1, xf_2, xs_1, xs_2, xs_same, xq_so, xj_1, xj_2, xj_same, xq_jo, xq_sa1, xq_same, xq_other, upd_s, oI_n, oI_s, xv_0, xv_1, xv_2, xv_3, xm_p1, xm_p2, xq_fp, xq_fn, List.filter_nil, Nat.reduceBEq, Bool.not_true, Bool.not_false, Bool.and_true, Bool.and_false, Bool.false_and, Bool.true_and, if_true, if_false, Bool.false_eq_true, reduceIte, xc_i, xc_j, xc_r, xc_n, List.nil_append, List.cons_append, Option.toList_some, Option.toList_none]
              exact xm_go_wk (by simp [Value.category]) (ih S'.1 S'.2.1 S'.2.2 nh2 W2 (turn + 1) h4 (by omega) (fun o ho => hs o (by obtain ⟨k, hk⟩ := ho; exact ⟨k + 1, by rw [sT_fw eb ef]; exact hk⟩)) hT4 g1 (by omega) g4 (by omega) (by omega) (by omega) (by omega) f5 (by rw [c16, b16]; exact a16) (by rw [c0, b0]; exact a0))
            | some q =>
              obtain ⟨q1, q2⟩ := g2 q rfl
              have hN2 : sCt S'.1 ≤ 2000 := by obtain ⟨⟨rk, M, hd⟩, _⟩ := g1; exact hd.1
              have mq : (nI q = -2) = False := eq_false (fun z => absurd (show nI q < 0 by rw [z]; decide) (nI_pos (by omega)))
              show xm_go (XE sc) (xm_T (XE sc) (d + 4)) 150 post 37 [(1, .int (nI n)), (2, .int (nI turn)), (0, .ref 46)] [.int (nI q)] h4
              with_reducible refine xm_go_blk b_X9_readExpression_37 k_X9_readExpression_37 ?_
              refine by_istore_n (by rw [ml_150]; decide) ?_
              refine by_nil ?_
              try simp (disch := first | exact Nat.ne_of_beq_eq_false rfl | exact rfl | omega) only [nI_add, xa_sub, xa_mul, pk_div, nm_mod, xa_shr, xa_and7, xa_and1, xa_and255, xa_by_and, nI_m1, Nat.add_sub_cancel, Nat.reducePow, Nat.zero_add, Nat.add_zero, Nat.reduceAdd, Nat.reduceMul, Nat.reduceSub, xf_same, xq_ff, xq_fo, xf_1, xf_2, xs_1, xs_2, xs_same, xq_so, xj_1, xj_2, xj_same, xq_jo, xq_sa1, xq_same, xq_other, upd_s, oI_n, oI_s, xv_0, xv_1, xv_2, xv_3, xm_p1, xm_p2, xq_fp, xq_fn, List.filter_nil, Nat.reduceBEq, Bool.not_true, Bool.not_false, Bool.and_true, Bool.and_false, Bool.false_and, Bool.true_and, if_true, if_false, Bool.false_eq_true, reduceIte, xc_i, xc_j, xc_r, xc_n, List.nil_append, List.cons_append, Option.toList_some, Option.toList_none]
              rw [q2] at hT4 g1
              exact xm_go_wk (by simp [Value.category]) (ret (nI q) turn h4 (by omega) mq (hG S'.1 S'.2.2 q h4 nh2 W2 (hs _ ⟨1, sT_fd eb ef⟩) f5 hT4 g1 q1 (by omega) g4 (by omega) (by omega) (by rw [c16, b16]; exact a16) (by rw [c0, b0]; exact a0)))
  refine xq_in rfl ?_
  simp only [xq_a0, xq_aI, xq_aJ, xq_aR, Nat.reduceAdd]
  with_reducible refine xm_go_blk b_X9_readExpression_0 k_X9_readExpression_0 ?_
  refine by_aload_n rfl ?_
  refine by_iconst ci_0 ?_
  refine by_putf cn_150 fl_9_148 (by first | exact rfl | assumption) (by decide) nf_9_8 ft_9_8 (by first | rfl | assumption) (by first | rfl | assumption) ?_
  refine by_bipush cb_m2 ?_
  refine by_istore_n (by rw [ml_150]; decide) ?_
  refine by_iconst ci_0 ?_
  refine by_istore_n (by rw [ml_150]; decide) ?_
  refine by_nil ?_
  try simp (disch := first | exact Nat.ne_of_beq_eq_false rfl | exact rfl | omega) only [nI_add, xa_sub, xa_mul, pk_div, nm_mod, xa_shr, xa_and7, xa_and1, xa_and255, xa_by_and, nI_m1, Nat.add_sub_cancel, Nat.reducePow, Nat.zero_add, Nat.add_zero, Nat.reduceAdd, Nat.reduceMul, Nat.reduceSub, xf_same, xq_ff, xq_fo, xf_1, xf_2, xs_1, xs_2, xs_same, xq_so, xj_1, xj_2, xj_same, xq_jo, xq_sa1, xq_same, xq_other, upd_s, oI_n, oI_s, xv_0, xv_1, xv_2, xv_3, xm_p1, xm_p2, xq_fp, xq_fn, List.filter_nil, Nat.reduceBEq, Bool.not_true, Bool.not_false, Bool.and_true, Bool.and_false, Bool.false_and, Bool.true_and, if_true, if_false, Bool.false_eq_true, reduceIte, xc_i, xc_j, xc_r, xc_n, List.nil_append, List.cons_append, Option.toList_some, Option.toList_none]
  exact key (t.length - p + 1) G [] p nh W 0 _ (by omega) (fun o ho => ho) hT hI (Nat.le_refl _) hpt (by show 0 + 2 ≤ p; omega) (by omega) (Nat.le_refl _) (by omega) (Fr_sf Fr_rf (by simp [sbT])) (by simp [xm_sf, updV]) (by simp [xm_sf, updV])
end SY
