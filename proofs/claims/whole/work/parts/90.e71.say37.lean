/-! ===== say: the reference's faults of witnesses ===== -/
/-- the reference's rows behind the second walk -/
def mW (h : xm_H) (t : List Nat) (G : sG) (L2 : List Nat) (T : Nat → Ty) (cn : Nat) (tr : Nat → Ty) (K Lf R : Nat → Nat) : Prop :=
  XF h ∧ mtp h t ∧ h.2.2 102 14 = .int (nI L2.length) ∧ (∀ i, i < L2.length → h.1 113 i = nI (L2.getD i 0)) ∧ mtT h cn tr K Lf R ∧ ∀ n ∈ L2, n < 2000 ∧ h.1 105 n = nI (sCd G n) ∧ h.1 109 n = nI (sLn G n) ∧ h.1 108 n = nI (sNu G n) ∧ (sCd G n = 11 → ∀ k, k < 8 → h.1 110 (8 * n + k) = nI (sHw G n k)) ∧ (sCd G n = 10 → ∃ j, 3200 ≤ j ∧ j < cn ∧ h.1 112 n = nI j ∧ tr j = T n ∧ ty_w (T n) ≤ 2048)
abbrev wfR : List Nat := [115, 116, 145]
section SY
variable {sc : xm_Sc} {d cn : Nat} {t L2 : List Nat} {G : sG} {T tr : Nat → Ty} {K Lf R : Nat → Nat} {h h' : xm_H} {post : xm_Po}
theorem mtp_f2 {S : List Nat} {T : List (Nat × Nat)} (hm : mtp h t) (hf : Fr S T h h') (h1 : 103 ∉ S) (h2 : (102, 2) ∉ T) : mtp h' t :=
  ⟨by rw [hf.2.2 _ _ h2]; exact hm.1, fun i hi => by rw [hf.1 _ h1]; exact hm.2.1 i hi, hm.2.2⟩
theorem mW_fr {S' : List Nat} {T' : List (Nat × Nat)} (hx : mW h t G L2 T cn tr K Lf R) (hf : Fr S' T' h h') (qf : xt_fin.all (fun q => !(T'.contains (q.1, q.2.1))) = true) (q1 : [103, 105, 108, 109, 110, 112, 113].all (fun c => !(S'.contains c)) = true) (q2 : mtR.all (fun c => !(S'.contains c)) = true) (q3 : [(102, 2), (102, 14), (102, 40)].all (fun c => !(T'.contains c)) = true) : mW h' t G L2 T cn tr K Lf R := by
  obtain ⟨x1, x2, x3, x4, x5, x6⟩ := hx
  have r : ∀ c, c ∈ [103, 105, 108, 109, 110, 112, 113] → c ∉ S' := fun c hc z => by
    have := List.all_eq_true.mp q1 c hc
    simp [z] at this
  have r2 : ∀ c, c ∈ mtR → c ∉ S' := fun c hc z => by
    have := List.all_eq_true.mp q2 c hc
    simp [z] at this
  have r3 : ∀ c, c ∈ [(102, 2), (102, 14), (102, 40)] → c ∉ T' := fun c hc z => by
    have := List.all_eq_true.mp q3 c hc
    simp [z] at this
  refine ⟨Fr_XF x1 hf qf, mtp_f2 x2 hf (r _ (by simp)) (r3 _ (by simp)), by rw [hf.2.2 _ _ (r3 _ (by simp))]; exact x3, fun i hi => by rw [hf.1 _ (r 113 (by simp))]; exact x4 i hi, mtT_fr x5 hf (r3 _ (by simp)) r2, fun n hn => ?_⟩
  rw [hf.1 _ (r 105 (by simp)), hf.1 _ (r 108 (by simp)), hf.1 _ (r 109 (by simp)), hf.1 _ (r 110 (by simp)), hf.1 _ (r 112 (by simp))]
  exact x6 n hn
theorem mW_wf (hx : mW h t G L2 T cn tr K Lf R) (hf : Fr wfR [] h h') : mW h' t G L2 T cn tr K Lf R := mW_fr hx hf (by decide +kernel) (by decide) (by decide) (by decide)
/-- a witness's bits -/
theorem wf_98 {n k : Nat} (hx : mW h t G L2 T cn tr K Lf R) (hn : n ∈ L2) (hG : sNo t G n) (e : sCd G n = 10)
    (hgo : ∀ h', Fr [145] [] h h' → (∀ i, i < sLn G n → h'.1 145 i = nI (t.getD (sNu G n + i) 0 - 48)) → xm_go (XE sc) (xm_T (XE sc) (d + 1)) 320 post 137 [(2, .int (nI n)), (1, .int (nI k)), (0, .ref 102)] [] h') :
    ∀ (y i : Nat) (h' : xm_H), i + y = sLn G n → Fr [145] [] h h' → (∀ j, j < i → h'.1 145 j = nI (t.getD (sNu G n + j) 0 - 48)) → xm_go (XE sc) (xm_T (XE sc) (d + 1)) 320 post 98 [(3, .int (nI i)), (2, .int (nI n)), (1, .int (nI k)), (0, .ref 102)] [] h' := by
  obtain ⟨g1, g2, g3, g4⟩ := hG
  obtain ⟨g41, g42⟩ := g4 e
  have ht8 : t.length ≤ 8192 := hx.2.1.2.2.2
  intro y
  induction y with
  | zero =>
    intro i h' hi f1 hb
    obtain ⟨F1, y2, y3, y4, y5, y6⟩ := mW_wf hx (Fr_mo f1 (by simp) (by simp))
    obtain ⟨n2, w5, w9, w8, w11, w12⟩ := y6 n hn
    with_reducible refine xm_go_blk b_X12_witnessFault_98 k_X12_witnessFault_98 ?_
    refine by_iload_n rfl ?_
    refine by_aload_n rfl ?_
    refine by_getf cn_320 fl_12_28 (by first | exact rfl | assumption) (by decide) ?_
    refine by_iload_n rfl ?_
    simp (disch := first | exact Nat.ne_of_beq_eq_false rfl | exact rfl | omega) only [nI_add, xa_sub, xa_mul, pk_div, nm_mod, xa_shr, xa_and7, xa_and1, xa_and255, xa_by_and, nI_m1, Nat.add_sub_cancel, Nat.reducePow, Nat.zero_add, Nat.add_zero, Nat.reduceAdd, Nat.reduceMul, Nat.reduceSub, xf_same, xq_ff, xq_fo, xf_1, xf_2, xs_1, xs_2, xs_same, xq_so, xj_1, xj_2, xj_same, xq_jo, xq_sa1, xq_same, xq_other, upd_s, oI_n, oI_s, xf_102_10 F1, w9]
    first | refine by_iald (by first | exact rfl | assumption | exact ps_1 hpp | exact ps_2 hpp | exact ps_3 hpp | exact ps_4 hpp | exact ps_5 hpp | exact ps_6 hpp | exact ps_7 hpp | exact ps_8 hpp | exact ps_9 hpp | exact ps_10 hpp | exact ps_11 hpp | exact ps_15 hpp | exact ps_16 hpp | exact ps_17 hpp | exact ps_18 hpp | exact ps_19 hpp | exact ps_21 hpp | exact ps_22 hpp | exact ps_23 hpp | exact ps_24 hpp) ⟨by omega, by omega⟩ ?_ | refine by_tald rfl rfl ⟨by omega, by omega⟩ ?_
    refine by_ic_ge 137 rfl ?_
    simp (disch := first | exact Nat.ne_of_beq_eq_false rfl | exact rfl | omega) only [nI_add, xa_sub, xa_mul, pk_div, nm_mod, xa_shr, xa_and7, xa_and1, xa_and255, xa_by_and, nI_m1, Nat.add_sub_cancel, Nat.reducePow, Nat.zero_add, Nat.add_zero, Nat.reduceAdd, Nat.reduceMul, Nat.reduceSub, xf_same, xq_ff, xq_fo, xf_1, xf_2, xs_1, xs_2, xs_same, xq_so, xj_1, xj_2, xj_same, xq_jo, xq_sa1, xq_same, xq_other, upd_s, oI_n, oI_s, xv_0, xv_1, xv_2, xv_3, xm_p1, xm_p2, xq_fp, xq_fn, List.filter_nil, Nat.reduceBEq, Bool.not_true, Bool.not_false, Bool.and_true, Bool.and_false, Bool.false_and, Bool.true_and, if_true, if_false, Bool.false_eq_true, reduceIte, xc_i, xc_j, xc_r, xc_n, List.nil_append, List.cons_append, Option.toList_some, Option.toList_none, nI_ltJ, nI_leJ, nI_eqJ, nI_ltz, nI_gez, nI_gtz, nI_lez, nI_eqz, m1_ltz, m1_gez, true_imp_iff, false_imp_iff, true_and, and_true, ne_eq, not_false_eq_true, not_true_eq_false, Nat.reduceEqDiff, Nat.reduceLT, Nat.reduceLeDiff, xf_102_10 F1, w9]
    refine ⟨fun c98 => ?_, fun c => absurd (by omega) c⟩
    exact xm_go_wk (by simp [Value.category]) (hgo h' f1 (fun j hj => hb j (by omega)))
  | succ y ih =>
    intro i h' hi f1 hb
    obtain ⟨F1, y2, y3, y4, y5, y6⟩ := mW_wf hx (Fr_mo f1 (by simp) (by simp))
    obtain ⟨n2, w5, w9, w8, w11, w12⟩ := y6 n hn
    have et := y2.2.1 (sNu G n + i) (by omega)
    have hb2 := g42 i (by omega)
    have hs : t.getD (sNu G n + i) 0 - 48 < 2 := by omega
    have k2 := fun h2 f2 hb3 => ih (i + 1) h2 (by omega) f2 hb3
    generalize hbb : t.getD (sNu G n + i) 0 = bb at et hb2 hs
    have hsub : nI bb - nI 48 = nI (bb - 48) := xa_sub (by omega)
    with_reducible refine xm_go_blk b_X12_witnessFault_98 k_X12_witnessFault_98 ?_
    refine by_iload_n rfl ?_
    refine by_aload_n rfl ?_
    refine by_getf cn_320 fl_12_28 (by first | exact rfl | assumption) (by decide) ?_
    refine by_iload_n rfl ?_
    simp (disch := first | exact Nat.ne_of_beq_eq_false rfl | exact rfl | omega) only [nI_add, xa_sub, xa_mul, pk_div, nm_mod, xa_shr, xa_and7, xa_and1, xa_and255, xa_by_and, nI_m1, Nat.add_sub_cancel, Nat.reducePow, Nat.zero_add, Nat.add_zero, Nat.reduceAdd, Nat.reduceMul, Nat.reduceSub, xf_same, xq_ff, xq_fo, xf_1, xf_2, xs_1, xs_2, xs_same, xq_so, xj_1, xj_2, xj_same, xq_jo, xq_sa1, xq_same, xq_other, upd_s, oI_n, oI_s, xf_102_10 F1, w9, xf_102_58 F1, xf_102_1 F1, xf_102_9 F1, w8, et, bb_n hs]
    first | refine by_iald (by first | exact rfl | assumption | exact ps_1 hpp | exact ps_2 hpp | exact ps_3 hpp | exact ps_4 hpp | exact ps_5 hpp | exact ps_6 hpp | exact ps_7 hpp | exact ps_8 hpp | exact ps_9 hpp | exact ps_10 hpp | exact ps_11 hpp | exact ps_15 hpp | exact ps_16 hpp | exact ps_17 hpp | exact ps_18 hpp | exact ps_19 hpp | exact ps_21 hpp | exact ps_22 hpp | exact ps_23 hpp | exact ps_24 hpp) ⟨by omega, by omega⟩ ?_ | refine by_tald rfl rfl ⟨by omega, by omega⟩ ?_
    refine by_ic_ge 137 rfl ?_
    simp (disch := first | exact Nat.ne_of_beq_eq_false rfl | exact rfl | omega) only [nI_add, xa_sub, xa_mul, pk_div, nm_mod, xa_shr, xa_and7, xa_and1, xa_and255, xa_by_and, nI_m1, Nat.add_sub_cancel, Nat.reducePow, Nat.zero_add, Nat.add_zero, Nat.reduceAdd, Nat.reduceMul, Nat.reduceSub, xf_same, xq_ff, xq_fo, xf_1, xf_2, xs_1, xs_2, xs_same, xq_so, xj_1, xj_2, xj_same, xq_jo, xq_sa1, xq_same, xq_other, upd_s, oI_n, oI_s, xv_0, xv_1, xv_2, xv_3, xm_p1, xm_p2, xq_fp, xq_fn, List.filter_nil, Nat.reduceBEq, Bool.not_true, Bool.not_false, Bool.and_true, Bool.and_false, Bool.false_and, Bool.true_and, if_true, if_false, Bool.false_eq_true, reduceIte, xc_i, xc_j, xc_r, xc_n, List.nil_append, List.cons_append, Option.toList_some, Option.toList_none, nI_ltJ, nI_leJ, nI_eqJ, nI_ltz, nI_gez, nI_gtz, nI_lez, nI_eqz, m1_ltz, m1_gez, true_imp_iff, false_imp_iff, true_and, and_true, ne_eq, not_false_eq_true, not_true_eq_false, Nat.reduceEqDiff, Nat.reduceLT, Nat.reduceLeDiff, xf_102_10 F1, w9, xf_102_58 F1, xf_102_1 F1, xf_102_9 F1, w8, et, bb_n hs]
    refine ⟨fun c => absurd c (by omega), fun c98 => ?_⟩
    with_reducible refine xm_go_blk b_X12_witnessFault_108 k_X12_witnessFault_108 ?_
    refine by_aload_n rfl ?_
    refine by_getf cn_320 fl_12_141 (by first | exact rfl | assumption) (by decide) ?_
    refine by_iload_n rfl ?_
    refine by_aload_n rfl ?_
    refine by_getf cn_320 fl_12_7 (by first | exact rfl | assumption) (by decide) ?_
    refine by_aload_n rfl ?_
    refine by_getf cn_320 fl_12_25 (by first | exact rfl | assumption) (by decide) ?_
    refine by_iload_n rfl ?_
    simp (disch := first | exact Nat.ne_of_beq_eq_false rfl | exact rfl | omega) only [nI_add, xa_sub, xa_mul, pk_div, nm_mod, xa_shr, xa_and7, xa_and1, xa_and255, xa_by_and, nI_m1, Nat.add_sub_cancel, Nat.reducePow, Nat.zero_add, Nat.add_zero, Nat.reduceAdd, Nat.reduceMul, Nat.reduceSub, xf_same, xq_ff, xq_fo, xf_1, xf_2, xs_1, xs_2, xs_same, xq_so, xj_1, xj_2, xj_same, xq_jo, xq_sa1, xq_same, xq_other, upd_s, oI_n, oI_s, xf_102_10 F1, w9, xf_102_58 F1, xf_102_1 F1, xf_102_9 F1, w8, et, bb_n hs]
    first | refine by_iald (by first | exact rfl | assumption | exact ps_1 hpp | exact ps_2 hpp | exact ps_3 hpp | exact ps_4 hpp | exact ps_5 hpp | exact ps_6 hpp | exact ps_7 hpp | exact ps_8 hpp | exact ps_9 hpp | exact ps_10 hpp | exact ps_11 hpp | exact ps_15 hpp | exact ps_16 hpp | exact ps_17 hpp | exact ps_18 hpp | exact ps_19 hpp | exact ps_21 hpp | exact ps_22 hpp | exact ps_23 hpp | exact ps_24 hpp) ⟨by omega, by omega⟩ ?_ | refine by_tald rfl rfl ⟨by omega, by omega⟩ ?_
    refine by_iload_n rfl ?_
    refine by_iadd ?_
    simp (disch := first | exact Nat.ne_of_beq_eq_false rfl | exact rfl | omega) only [nI_add, xa_sub, xa_mul, pk_div, nm_mod, xa_shr, xa_and7, xa_and1, xa_and255, xa_by_and, nI_m1, Nat.add_sub_cancel, Nat.reducePow, Nat.zero_add, Nat.add_zero, Nat.reduceAdd, Nat.reduceMul, Nat.reduceSub, xf_same, xq_ff, xq_fo, xf_1, xf_2, xs_1, xs_2, xs_same, xq_so, xj_1, xj_2, xj_same, xq_jo, xq_sa1, xq_same, xq_other, upd_s, oI_n, oI_s, xf_102_10 F1, w9, xf_102_58 F1, xf_102_1 F1, xf_102_9 F1, w8, et, bb_n hs]
    first | refine by_iald (by first | exact rfl | assumption | exact ps_1 hpp | exact ps_2 hpp | exact ps_3 hpp | exact ps_4 hpp | exact ps_5 hpp | exact ps_6 hpp | exact ps_7 hpp | exact ps_8 hpp | exact ps_9 hpp | exact ps_10 hpp | exact ps_11 hpp | exact ps_15 hpp | exact ps_16 hpp | exact ps_17 hpp | exact ps_18 hpp | exact ps_19 hpp | exact ps_21 hpp | exact ps_22 hpp | exact ps_23 hpp | exact ps_24 hpp) ⟨by omega, by omega⟩ ?_ | refine by_tald rfl rfl ⟨by omega, by omega⟩ ?_
    refine by_bipush cb_48 ?_
    refine by_isub ?_
    refine by_i2b ?_
    first | refine by_bast (by first | exact rfl | assumption | exact ps_13 hpp) ⟨by omega, by omega⟩ ?_ | refine by_zast (by first | exact rfl | assumption | exact ps_20 hpp) ⟨by omega, by omega⟩ ?_
    refine by_iinc (by rw [ml_320]; decide) rfl ci_1 ?_
    refine by_goto 98 rfl ?_
    try simp (disch := first | exact Nat.ne_of_beq_eq_false rfl | exact rfl | omega) only [nI_add, xa_sub, xa_mul, pk_div, nm_mod, xa_shr, xa_and7, xa_and1, xa_and255, xa_by_and, nI_m1, Nat.add_sub_cancel, Nat.reducePow, Nat.zero_add, Nat.add_zero, Nat.reduceAdd, Nat.reduceMul, Nat.reduceSub, xf_same, xq_ff, xq_fo, xf_1, xf_2, xs_1, xs_2, xs_same, xq_so, xj_1, xj_2, xj_same, xq_jo, xq_sa1, xq_same, xq_other, upd_s, oI_n, oI_s, xv_0, xv_1, xv_2, xv_3, xm_p1, xm_p2, xq_fp, xq_fn, List.filter_nil, Nat.reduceBEq, Bool.not_true, Bool.not_false, Bool.and_true, Bool.and_false, Bool.false_and, Bool.true_and, if_true, if_false, Bool.false_eq_true, reduceIte, xc_i, xc_j, xc_r, xc_n, List.nil_append, List.cons_append, Option.toList_some, Option.toList_none, xf_102_10 F1, w9, xf_102_58 F1, xf_102_1 F1, xf_102_9 F1, w8, et, bb_n hs]
    refine xm_go_wk (by simp [Value.category]) (k2 _ (Fr_si f1 (by simp)) (fun j hj => ?_))
    by_cases q : j = i
    · subst q; rw [xs_same, upd_s, hbb]
    · rw [xs_same, upd_o q]; exact hb j (by omega)
theorem sp_witnessFault (hx : mW h t G L2 T cn tr K Lf R) (hG : ∀ n ∈ L2, sNo t G n) (hcn : cn ≤ 17211) (hlen : L2.length ≤ 400)
    (h10 : sW1 G T L2 → post (some (.int (nI 10))) h) (h11 : ∀ h', ¬ sW1 G T L2 → sW2 t G T L2 → Fr wfR [] h h' → post (some (.int (nI 11))) h') (h0 : ∀ h', ¬ sW1 G T L2 → ¬ sW2 t G T L2 → Fr wfR [] h h' → post (some (.int (nI 0))) h') : xm_T (XE sc) (d + 2) 320 [.ref 102] h post := by
  have loop2 : ∀ (B A : List Nat) (h1 : xm_H), L2 = A ++ B → ¬ sW1 G T L2 → Fr wfR [] h h1 → (∀ n ∈ A, sCd G n = 10 → ty_val (fun i => t.getD (sNu G n + i) 0 - 48) (T n) 0 = true) → xm_go (XE sc) (xm_T (XE sc) (d + 1)) 320 post 67 [(1, .int (nI A.length)), (0, .ref 102)] [] h1 := by
    intro B
    induction B with
    | nil =>
      intro A h1 hAB hn1 f1 hA
      rw [List.append_nil] at hAB
      subst hAB
      have X := mW_wf hx f1
      have e5 := X.2.2.1
      with_reducible refine xm_go_blk b_X12_witnessFault_67 k_X12_witnessFault_67 ?_
      refine by_iload_n rfl ?_
      refine by_aload_n rfl ?_
      refine by_getf cn_320 fl_12_226 (by first | exact rfl | assumption) (by decide) ?_
      simp (disch := first | exact Nat.ne_of_beq_eq_false rfl | exact rfl | omega) only [nI_add, xa_sub, xa_mul, pk_div, nm_mod, xa_shr, xa_and7, xa_and1, xa_and255, xa_by_and, nI_m1, Nat.add_sub_cancel, Nat.reducePow, Nat.zero_add, Nat.add_zero, Nat.reduceAdd, Nat.reduceMul, Nat.reduceSub, xf_same, xq_ff, xq_fo, xf_1, xf_2, xs_1, xs_2, xs_same, xq_so, xj_1, xj_2, xj_same, xq_jo, xq_sa1, xq_same, xq_other, upd_s, oI_n, oI_s, e5]
      refine by_ic_ge 160 rfl ?_
      simp (disch := first | exact Nat.ne_of_beq_eq_false rfl | exact rfl | omega) only [nI_add, xa_sub, xa_mul, pk_div, nm_mod, xa_shr, xa_and7, xa_and1, xa_and255, xa_by_and, nI_m1, Nat.add_sub_cancel, Nat.reducePow, Nat.zero_add, Nat.add_zero, Nat.reduceAdd, Nat.reduceMul, Nat.reduceSub, xf_same, xq_ff, xq_fo, xf_1, xf_2, xs_1, xs_2, xs_same, xq_so, xj_1, xj_2, xj_same, xq_jo, xq_sa1, xq_same, xq_other, upd_s, oI_n, oI_s, xv_0, xv_1, xv_2, xv_3, xm_p1, xm_p2, xq_fp, xq_fn, List.filter_nil, Nat.reduceBEq, Bool.not_true, Bool.not_false, Bool.and_true, Bool.and_false, Bool.false_and, Bool.true_and, if_true, if_false, Bool.false_eq_true, reduceIte, xc_i, xc_j, xc_r, xc_n, List.nil_append, List.cons_append, Option.toList_some, Option.toList_none, nI_ltJ, nI_leJ, nI_eqJ, nI_ltz, nI_gez, nI_gtz, nI_lez, nI_eqz, m1_ltz, m1_gez, true_imp_iff, false_imp_iff, true_and, and_true, ne_eq, not_false_eq_true, not_true_eq_false, Nat.reduceEqDiff, Nat.reduceLT, Nat.reduceLeDiff, e5]
      refine ⟨fun c67 => ?_, fun c => absurd (by omega) c⟩
      with_reducible refine xm_go_blk b_X12_witnessFault_160 k_X12_witnessFault_160 ?_
      refine by_iconst ci_0 ?_
      refine by_iret ry_320 (by first | rfl | assumption) ?_
      exact h0 h1 hn1 (fun ⟨n, n1, n2, n3⟩ => by rw [hA n n1 n2] at n3; cases n3) f1
    | cons n B ih =>
      intro A h1 hAB hn1 f1 hA
      have X := mW_wf hx f1
      have X0 := X
      obtain ⟨F1, y2, y3, y4, y5, y6⟩ := X
      have hmem : n ∈ L2 := by rw [hAB]; simp
      have hAl : A.length < L2.length := by rw [hAB]; simp
      have hget : L2.getD A.length 0 = n := by rw [hAB]; simp [List.getD]
      have e8 : h1.1 113 A.length = nI n := by rw [y4 _ hAl, hget]
      obtain ⟨n2, w5, w9, w8, w11, w12⟩ := y6 n hmem
      have hGn := hG n hmem
      have g1 := hGn.1
      by_cases e : sCd G n = 10
      · rw [e] at w5
        obtain ⟨j, j0, j1, j2, j3, j4⟩ := w12 e
        have hln : sLn G n = ty_w (T n) := Classical.byContradiction fun z => hn1 ⟨n, hmem, e, z⟩
        with_reducible refine xm_go_blk b_X12_witnessFault_67 k_X12_witnessFault_67 ?_
        refine by_iload_n rfl ?_
        refine by_aload_n rfl ?_
        refine by_getf cn_320 fl_12_226 (by first | exact rfl | assumption) (by decide) ?_
        simp (disch := first | exact Nat.ne_of_beq_eq_false rfl | exact rfl | omega) only [nI_add, xa_sub, xa_mul, pk_div, nm_mod, xa_shr, xa_and7, xa_and1, xa_and255, xa_by_and, nI_m1, Nat.add_sub_cancel, Nat.reducePow, Nat.zero_add, Nat.add_zero, Nat.reduceAdd, Nat.reduceMul, Nat.reduceSub, xf_same, xq_ff, xq_fo, xf_1, xf_2, xs_1, xs_2, xs_same, xq_so, xj_1, xj_2, xj_same, xq_jo, xq_sa1, xq_same, xq_other, upd_s, oI_n, oI_s, y3, xf_102_15 F1, e8, xf_102_6 F1, w5]
        refine by_ic_ge 160 rfl ?_
        simp (disch := first | exact Nat.ne_of_beq_eq_false rfl | exact rfl | omega) only [nI_add, xa_sub, xa_mul, pk_div, nm_mod, xa_shr, xa_and7, xa_and1, xa_and255, xa_by_and, nI_m1, Nat.add_sub_cancel, Nat.reducePow, Nat.zero_add, Nat.add_zero, Nat.reduceAdd, Nat.reduceMul, Nat.reduceSub, xf_same, xq_ff, xq_fo, xf_1, xf_2, xs_1, xs_2, xs_same, xq_so, xj_1, xj_2, xj_same, xq_jo, xq_sa1, xq_same, xq_other, upd_s, oI_n, oI_s, xv_0, xv_1, xv_2, xv_3, xm_p1, xm_p2, xq_fp, xq_fn, List.filter_nil, Nat.reduceBEq, Bool.not_true, Bool.not_false, Bool.and_true, Bool.and_false, Bool.false_and, Bool.true_and, if_true, if_false, Bool.false_eq_true, reduceIte, xc_i, xc_j, xc_r, xc_n, List.nil_append, List.cons_append, Option.toList_some, Option.toList_none, nI_ltJ, nI_leJ, nI_eqJ, nI_ltz, nI_gez, nI_gtz, nI_lez, nI_eqz, m1_ltz, m1_gez, true_imp_iff, false_imp_iff, true_and, and_true, ne_eq, not_false_eq_true, not_true_eq_false, Nat.reduceEqDiff, Nat.reduceLT, Nat.reduceLeDiff, y3, xf_102_15 F1, e8, xf_102_6 F1, w5]
        refine ⟨fun c => absurd c (by omega), fun c67 => ?_⟩
        with_reducible refine xm_go_blk b_X12_witnessFault_75 k_X12_witnessFault_75 ?_
        refine by_aload_n rfl ?_
        refine by_getf cn_320 fl_12_40 (by first | exact rfl | assumption) (by decide) ?_
        refine by_iload_n rfl ?_
        simp (disch := first | exact Nat.ne_of_beq_eq_false rfl | exact rfl | omega) only [nI_add, xa_sub, xa_mul, pk_div, nm_mod, xa_shr, xa_and7, xa_and1, xa_and255, xa_by_and, nI_m1, Nat.add_sub_cancel, Nat.reducePow, Nat.zero_add, Nat.add_zero, Nat.reduceAdd, Nat.reduceMul, Nat.reduceSub, xf_same, xq_ff, xq_fo, xf_1, xf_2, xs_1, xs_2, xs_same, xq_so, xj_1, xj_2, xj_same, xq_jo, xq_sa1, xq_same, xq_other, upd_s, oI_n, oI_s, y3, xf_102_15 F1, e8, xf_102_6 F1, w5]
        first | refine by_iald (by first | exact rfl | assumption | exact ps_1 hpp | exact ps_2 hpp | exact ps_3 hpp | exact ps_4 hpp | exact ps_5 hpp | exact ps_6 hpp | exact ps_7 hpp | exact ps_8 hpp | exact ps_9 hpp | exact ps_10 hpp | exact ps_11 hpp | exact ps_15 hpp | exact ps_16 hpp | exact ps_17 hpp | exact ps_18 hpp | exact ps_19 hpp | exact ps_21 hpp | exact ps_22 hpp | exact ps_23 hpp | exact ps_24 hpp) ⟨by omega, by omega⟩ ?_ | refine by_tald rfl rfl ⟨by omega, by omega⟩ ?_
        refine by_istore_n (by rw [ml_320]; decide) ?_
        refine by_aload_n rfl ?_
        refine by_getf cn_320 fl_12_16 (by first | exact rfl | assumption) (by decide) ?_
        refine by_iload_n rfl ?_
        simp (disch := first | exact Nat.ne_of_beq_eq_false rfl | exact rfl | omega) only [nI_add, xa_sub, xa_mul, pk_div, nm_mod, xa_shr, xa_and7, xa_and1, xa_and255, xa_by_and, nI_m1, Nat.add_sub_cancel, Nat.reducePow, Nat.zero_add, Nat.add_zero, Nat.reduceAdd, Nat.reduceMul, Nat.reduceSub, xf_same, xq_ff, xq_fo, xf_1, xf_2, xs_1, xs_2, xs_same, xq_so, xj_1, xj_2, xj_same, xq_jo, xq_sa1, xq_same, xq_other, upd_s, oI_n, oI_s, y3, xf_102_15 F1, e8, xf_102_6 F1, w5]
        first | refine by_iald (by first | exact rfl | assumption | exact ps_1 hpp | exact ps_2 hpp | exact ps_3 hpp | exact ps_4 hpp | exact ps_5 hpp | exact ps_6 hpp | exact ps_7 hpp | exact ps_8 hpp | exact ps_9 hpp | exact ps_10 hpp | exact ps_11 hpp | exact ps_15 hpp | exact ps_16 hpp | exact ps_17 hpp | exact ps_18 hpp | exact ps_19 hpp | exact ps_21 hpp | exact ps_22 hpp | exact ps_23 hpp | exact ps_24 hpp) ⟨by omega, by omega⟩ ?_ | refine by_tald rfl rfl ⟨by omega, by omega⟩ ?_
        refine by_bipush cb_10 ?_
        refine by_ic_eq 96 rfl ?_
        simp (disch := first | exact Nat.ne_of_beq_eq_false rfl | exact rfl | omega) only [nI_add, xa_sub, xa_mul, pk_div, nm_mod, xa_shr, xa_and7, xa_and1, xa_and255, xa_by_and, nI_m1, Nat.add_sub_cancel, Nat.reducePow, Nat.zero_add, Nat.add_zero, Nat.reduceAdd, Nat.reduceMul, Nat.reduceSub, xf_same, xq_ff, xq_fo, xf_1, xf_2, xs_1, xs_2, xs_same, xq_so, xj_1, xj_2, xj_same, xq_jo, xq_sa1, xq_same, xq_other, upd_s, oI_n, oI_s, xv_0, xv_1, xv_2, xv_3, xm_p1, xm_p2, xq_fp, xq_fn, List.filter_nil, Nat.reduceBEq, Bool.not_true, Bool.not_false, Bool.and_true, Bool.and_false, Bool.false_and, Bool.true_and, if_true, if_false, Bool.false_eq_true, reduceIte, xc_i, xc_j, xc_r, xc_n, List.nil_append, List.cons_append, Option.toList_some, Option.toList_none, nI_ltJ, nI_leJ, nI_eqJ, nI_ltz, nI_gez, nI_gtz, nI_lez, nI_eqz, m1_ltz, m1_gez, true_imp_iff, false_imp_iff, true_and, and_true, ne_eq, not_false_eq_true, not_true_eq_false, Nat.reduceEqDiff, Nat.reduceLT, Nat.reduceLeDiff, y3, xf_102_15 F1, e8, xf_102_6 F1, w5]
        with_reducible refine xm_go_blk b_X12_witnessFault_96 k_X12_witnessFault_96 ?_
        refine by_iconst ci_0 ?_
        refine by_istore_n (by rw [ml_320]; decide) ?_
        refine by_nil ?_
        try simp (disch := first | exact Nat.ne_of_beq_eq_false rfl | exact rfl | omega) only [nI_add, xa_sub, xa_mul, pk_div, nm_mod, xa_shr, xa_and7, xa_and1, xa_and255, xa_by_and, nI_m1, Nat.add_sub_cancel, Nat.reducePow, Nat.zero_add, Nat.add_zero, Nat.reduceAdd, Nat.reduceMul, Nat.reduceSub, xf_same, xq_ff, xq_fo, xf_1, xf_2, xs_1, xs_2, xs_same, xq_so, xj_1, xj_2, xj_same, xq_jo, xq_sa1, xq_same, xq_other, upd_s, oI_n, oI_s, xv_0, xv_1, xv_2, xv_3, xm_p1, xm_p2, xq_fp, xq_fn, List.filter_nil, Nat.reduceBEq, Bool.not_true, Bool.not_false, Bool.and_true, Bool.and_false, Bool.false_and, Bool.true_and, if_true, if_false, Bool.false_eq_true, reduceIte, xc_i, xc_j, xc_r, xc_n, List.nil_append, List.cons_append, Option.toList_some, Option.toList_none, y3, xf_102_15 F1, e8, xf_102_6 F1, w5]
        refine xm_go_wk (by simp [Value.category]) (wf_98 (d := d) (k := A.length) X0 hmem hGn e (fun h2 f2 hb2 => ?_) (sLn G n) 0 h1 (by omega) Fr_rf (fun j hj => absurd hj (Nat.not_lt_zero _)))
        have f12 : Fr wfR [] h1 h2 := Fr_mo f2 (by simp) (by simp)
        obtain ⟨F2, z2, z3, z4, z5, z6⟩ := mW_wf X0 f12
        obtain ⟨_, _, _, _, _, v12⟩ := z6 n hmem
        obtain ⟨j', k0, k1, k2, k3, k4⟩ := v12 e
        have g42 := (hGn.2.2.2 e).2
        have ev : ty_val (fun i => t.getD (sNu G n + i) 0 - 48) (tr j') 0 = ty_val (fun i => t.getD (sNu G n + i) 0 - 48) (T n) 0 := by rw [k3]
        with_reducible refine xm_go_blk b_X12_witnessFault_137 k_X12_witnessFault_137 ?_
        refine by_aload_n rfl ?_
        refine by_aload_n rfl ?_
        refine by_getf cn_320 fl_12_37 (by first | exact rfl | assumption) (by decide) ?_
        refine by_iload_n rfl ?_
        simp (disch := first | exact Nat.ne_of_beq_eq_false rfl | exact rfl | omega) only [nI_add, xa_sub, xa_mul, pk_div, nm_mod, xa_shr, xa_and7, xa_and1, xa_and255, xa_by_and, nI_m1, Nat.add_sub_cancel, Nat.reducePow, Nat.zero_add, Nat.add_zero, Nat.reduceAdd, Nat.reduceMul, Nat.reduceSub, xf_same, xq_ff, xq_fo, xf_1, xf_2, xs_1, xs_2, xs_same, xq_so, xj_1, xj_2, xj_same, xq_jo, xq_sa1, xq_same, xq_other, upd_s, oI_n, oI_s, xf_102_13 F2, k2]
        first | refine by_iald (by first | exact rfl | assumption | exact ps_1 hpp | exact ps_2 hpp | exact ps_3 hpp | exact ps_4 hpp | exact ps_5 hpp | exact ps_6 hpp | exact ps_7 hpp | exact ps_8 hpp | exact ps_9 hpp | exact ps_10 hpp | exact ps_11 hpp | exact ps_15 hpp | exact ps_16 hpp | exact ps_17 hpp | exact ps_18 hpp | exact ps_19 hpp | exact ps_21 hpp | exact ps_22 hpp | exact ps_23 hpp | exact ps_24 hpp) ⟨by omega, by omega⟩ ?_ | refine by_tald rfl rfl ⟨by omega, by omega⟩ ?_
        refine by_iconst ci_0 ?_
        simp (disch := first | exact Nat.ne_of_beq_eq_false rfl | exact rfl | omega) only [nI_add, xa_sub, xa_mul, pk_div, nm_mod, xa_shr, xa_and7, xa_and1, xa_and255, xa_by_and, nI_m1, Nat.add_sub_cancel, Nat.reducePow, Nat.zero_add, Nat.add_zero, Nat.reduceAdd, Nat.reduceMul, Nat.reduceSub, xf_same, xq_ff, xq_fo, xf_1, xf_2, xs_1, xs_2, xs_same, xq_so, xj_1, xj_2, xj_same, xq_jo, xq_sa1, xq_same, xq_other, upd_s, oI_n, oI_s, xv_0, xv_1, xv_2, xv_3, xm_p1, xm_p2, xq_fp, xq_fn, List.filter_nil, Nat.reduceBEq, Bool.not_true, Bool.not_false, Bool.and_true, Bool.and_false, Bool.false_and, Bool.true_and, if_true, if_false, Bool.false_eq_true, reduceIte, xc_i, xc_j, xc_r, xc_n, List.nil_append, List.cons_append, Option.toList_some, Option.toList_none, xf_102_13 F2, k2]
        refine by_inv2 cn_320 lk_12_286 (by rw [xe_cnt]; decide) is_237 np_237 cn_237 (by first | exact rfl | assumption) (Nat.le_of_ble_eq_true rfl) ?_
        refine sp_isValue (d := d) (v := fun i => t.getD (sNu G n + i) 0 - 48) F2 (vT_mt z5 (by omega)) k0 k1 (by rw [k3]; exact k4) (by rw [k3]; omega) (fun i _ hi => ⟨hb2 i (by rw [k3] at hi; omega), ?_⟩) (fun h3 hv f3 => ?_) (fun h3 hv f3 => ?_)
        · have := g42 i (by rw [k3] at hi; omega)
          show t.getD (sNu G n + i) 0 - 48 < 2
          omega
        · rw [ev] at hv
          with_reducible refine xm_go_blk b_X12_witnessFault_148 k_X12_witnessFault_148 ?_
          refine by_if_ne 154 rfl ?_
          simp (disch := first | exact Nat.ne_of_beq_eq_false rfl | exact rfl | omega) only [nI_add, xa_sub, xa_mul, pk_div, nm_mod, xa_shr, xa_and7, xa_and1, xa_and255, xa_by_and, nI_m1, Nat.add_sub_cancel, Nat.reducePow, Nat.zero_add, Nat.add_zero, Nat.reduceAdd, Nat.reduceMul, Nat.reduceSub, xf_same, xq_ff, xq_fo, xf_1, xf_2, xs_1, xs_2, xs_same, xq_so, xj_1, xj_2, xj_same, xq_jo, xq_sa1, xq_same, xq_other, upd_s, oI_n, oI_s, xv_0, xv_1, xv_2, xv_3, xm_p1, xm_p2, xq_fp, xq_fn, List.filter_nil, Nat.reduceBEq, Bool.not_true, Bool.not_false, Bool.and_true, Bool.and_false, Bool.false_and, Bool.true_and, if_true, if_false, Bool.false_eq_true, reduceIte, xc_i, xc_j, xc_r, xc_n, List.nil_append, List.cons_append, Option.toList_some, Option.toList_none, nI_ltJ, nI_leJ, nI_eqJ, nI_ltz, nI_gez, nI_gtz, nI_lez, nI_eqz, m1_ltz, m1_gez, true_imp_iff, false_imp_iff, true_and, and_true, ne_eq, not_false_eq_true, not_true_eq_false, Nat.reduceEqDiff, Nat.reduceLT, Nat.reduceLeDiff]
          with_reducible refine xm_go_blk b_X12_witnessFault_154 k_X12_witnessFault_154 ?_
          refine by_iinc (by rw [ml_320]; decide) rfl ci_1 ?_
          refine by_goto 67 rfl ?_
          try simp (disch := first | exact Nat.ne_of_beq_eq_false rfl | exact rfl | omega) only [nI_add, xa_sub, xa_mul, pk_div, nm_mod, xa_shr, xa_and7, xa_and1, xa_and255, xa_by_and, nI_m1, Nat.add_sub_cancel, Nat.reducePow, Nat.zero_add, Nat.add_zero, Nat.reduceAdd, Nat.reduceMul, Nat.reduceSub, xf_same, xq_ff, xq_fo, xf_1, xf_2, xs_1, xs_2, xs_same, xq_so, xj_1, xj_2, xj_same, xq_jo, xq_sa1, xq_same, xq_other, upd_s, oI_n, oI_s, xv_0, xv_1, xv_2, xv_3, xm_p1, xm_p2, xq_fp, xq_fn, List.filter_nil, Nat.reduceBEq, Bool.not_true, Bool.not_false, Bool.and_true, Bool.and_false, Bool.false_and, Bool.true_and, if_true, if_false, Bool.false_eq_true, reduceIte, xc_i, xc_j, xc_r, xc_n, List.nil_append, List.cons_append, Option.toList_some, Option.toList_none]
          have := ih (A ++ [n]) h3 (by rw [hAB]; simp) hn1 (Fr_tr f1 (Fr_tr f12 f3 (by simp) (by simp)) (fun _ z => z) (fun _ z => z)) (fun m hm hc => by
            rcases List.mem_append.mp hm with z | z
            · exact hA m z hc
            · rw [List.mem_singleton.mp z]; exact hv)
          rw [List.length_append] at this
          exact xm_go_wk (by simp [Value.category]) this
        · rw [ev] at hv
          with_reducible refine xm_go_blk b_X12_witnessFault_148 k_X12_witnessFault_148 ?_
          refine by_if_ne 154 rfl ?_
          simp (disch := first | exact Nat.ne_of_beq_eq_false rfl | exact rfl | omega) only [nI_add, xa_sub, xa_mul, pk_div, nm_mod, xa_shr, xa_and7, xa_and1, xa_and255, xa_by_and, nI_m1, Nat.add_sub_cancel, Nat.reducePow, Nat.zero_add, Nat.add_zero, Nat.reduceAdd, Nat.reduceMul, Nat.reduceSub, xf_same, xq_ff, xq_fo, xf_1, xf_2, xs_1, xs_2, xs_same, xq_so, xj_1, xj_2, xj_same, xq_jo, xq_sa1, xq_same, xq_other, upd_s, oI_n, oI_s, xv_0, xv_1, xv_2, xv_3, xm_p1, xm_p2, xq_fp, xq_fn, List.filter_nil, Nat.reduceBEq, Bool.not_true, Bool.not_false, Bool.and_true, Bool.and_false, Bool.false_and, Bool.true_and, if_true, if_false, Bool.false_eq_true, reduceIte, xc_i, xc_j, xc_r, xc_n, List.nil_append, List.cons_append, Option.toList_some, Option.toList_none, nI_ltJ, nI_leJ, nI_eqJ, nI_ltz, nI_gez, nI_gtz, nI_lez, nI_eqz, m1_ltz, m1_gez, true_imp_iff, false_imp_iff, true_and, and_true, ne_eq, not_false_eq_true, not_true_eq_false, Nat.reduceEqDiff, Nat.reduceLT, Nat.reduceLeDiff]
          with_reducible refine xm_go_blk b_X12_witnessFault_151 k_X12_witnessFault_151 ?_
          refine by_bipush cb_11 ?_
          refine by_iret ry_320 (by first | rfl | assumption) ?_
          exact h11 h3 hn1 ⟨n, hmem, e, hv⟩ (Fr_tr f1 (Fr_tr f12 f3 (by simp) (by simp)) (fun _ z => z) (fun _ z => z))
      · have e' : (sCd G n = 10) = False := eq_false e
        with_reducible refine xm_go_blk b_X12_witnessFault_67 k_X12_witnessFault_67 ?_
        refine by_iload_n rfl ?_
        refine by_aload_n rfl ?_
        refine by_getf cn_320 fl_12_226 (by first | exact rfl | assumption) (by decide) ?_
        simp (disch := first | exact Nat.ne_of_beq_eq_false rfl | exact rfl | omega) only [nI_add, xa_sub, xa_mul, pk_div, nm_mod, xa_shr, xa_and7, xa_and1, xa_and255, xa_by_and, nI_m1, Nat.add_sub_cancel, Nat.reducePow, Nat.zero_add, Nat.add_zero, Nat.reduceAdd, Nat.reduceMul, Nat.reduceSub, xf_same, xq_ff, xq_fo, xf_1, xf_2, xs_1, xs_2, xs_same, xq_so, xj_1, xj_2, xj_same, xq_jo, xq_sa1, xq_same, xq_other, upd_s, oI_n, oI_s, y3, xf_102_15 F1, e8, xf_102_6 F1, w5, e']
        refine by_ic_ge 160 rfl ?_
        simp (disch := first | exact Nat.ne_of_beq_eq_false rfl | exact rfl | omega) only [nI_add, xa_sub, xa_mul, pk_div, nm_mod, xa_shr, xa_and7, xa_and1, xa_and255, xa_by_and, nI_m1, Nat.add_sub_cancel, Nat.reducePow, Nat.zero_add, Nat.add_zero, Nat.reduceAdd, Nat.reduceMul, Nat.reduceSub, xf_same, xq_ff, xq_fo, xf_1, xf_2, xs_1, xs_2, xs_same, xq_so, xj_1, xj_2, xj_same, xq_jo, xq_sa1, xq_same, xq_other, upd_s, oI_n, oI_s, xv_0, xv_1, xv_2, xv_3, xm_p1, xm_p2, xq_fp, xq_fn, List.filter_nil, Nat.reduceBEq, Bool.not_true, Bool.not_false, Bool.and_true, Bool.and_false, Bool.false_and, Bool.true_and, if_true, if_false, Bool.false_eq_true, reduceIte, xc_i, xc_j, xc_r, xc_n, List.nil_append, List.cons_append, Option.toList_some, Option.toList_none, nI_ltJ, nI_leJ, nI_eqJ, nI_ltz, nI_gez, nI_gtz, nI_lez, nI_eqz, m1_ltz, m1_gez, true_imp_iff, false_imp_iff, true_and, and_true, ne_eq, not_false_eq_true, not_true_eq_false, Nat.reduceEqDiff, Nat.reduceLT, Nat.reduceLeDiff, y3, xf_102_15 F1, e8, xf_102_6 F1, w5, e']
        refine ⟨fun c => absurd c (by omega), fun c67 => ?_⟩
        with_reducible refine xm_go_blk b_X12_witnessFault_75 k_X12_witnessFault_75 ?_
        refine by_aload_n rfl ?_
        refine by_getf cn_320 fl_12_40 (by first | exact rfl | assumption) (by decide) ?_
        refine by_iload_n rfl ?_
        simp (disch := first | exact Nat.ne_of_beq_eq_false rfl | exact rfl | omega) only [nI_add, xa_sub, xa_mul, pk_div, nm_mod, xa_shr, xa_and7, xa_and1, xa_and255, xa_by_and, nI_m1, Nat.add_sub_cancel, Nat.reducePow, Nat.zero_add, Nat.add_zero, Nat.reduceAdd, Nat.reduceMul, Nat.reduceSub, xf_same, xq_ff, xq_fo, xf_1, xf_2, xs_1, xs_2, xs_same, xq_so, xj_1, xj_2, xj_same, xq_jo, xq_sa1, xq_same, xq_other, upd_s, oI_n, oI_s, y3, xf_102_15 F1, e8, xf_102_6 F1, w5, e']
        first | refine by_iald (by first | exact rfl | assumption | exact ps_1 hpp | exact ps_2 hpp | exact ps_3 hpp | exact ps_4 hpp | exact ps_5 hpp | exact ps_6 hpp | exact ps_7 hpp | exact ps_8 hpp | exact ps_9 hpp | exact ps_10 hpp | exact ps_11 hpp | exact ps_15 hpp | exact ps_16 hpp | exact ps_17 hpp | exact ps_18 hpp | exact ps_19 hpp | exact ps_21 hpp | exact ps_22 hpp | exact ps_23 hpp | exact ps_24 hpp) ⟨by omega, by omega⟩ ?_ | refine by_tald rfl rfl ⟨by omega, by omega⟩ ?_
        refine by_istore_n (by rw [ml_320]; decide) ?_
        refine by_aload_n rfl ?_
        refine by_getf cn_320 fl_12_16 (by first | exact rfl | assumption) (by decide) ?_
        refine by_iload_n rfl ?_
        simp (disch := first | exact Nat.ne_of_beq_eq_false rfl | exact rfl | omega) only [nI_add, xa_sub, xa_mul, pk_div, nm_mod, xa_shr, xa_and7, xa_and1, xa_and255, xa_by_and, nI_m1, Nat.add_sub_cancel, Nat.reducePow, Nat.zero_add, Nat.add_zero, Nat.reduceAdd, Nat.reduceMul, Nat.reduceSub, xf_same, xq_ff, xq_fo, xf_1, xf_2, xs_1, xs_2, xs_same, xq_so, xj_1, xj_2, xj_same, xq_jo, xq_sa1, xq_same, xq_other, upd_s, oI_n, oI_s, y3, xf_102_15 F1, e8, xf_102_6 F1, w5, e']
        first | refine by_iald (by first | exact rfl | assumption | exact ps_1 hpp | exact ps_2 hpp | exact ps_3 hpp | exact ps_4 hpp | exact ps_5 hpp | exact ps_6 hpp | exact ps_7 hpp | exact ps_8 hpp | exact ps_9 hpp | exact ps_10 hpp | exact ps_11 hpp | exact ps_15 hpp | exact ps_16 hpp | exact ps_17 hpp | exact ps_18 hpp | exact ps_19 hpp | exact ps_21 hpp | exact ps_22 hpp | exact ps_23 hpp | exact ps_24 hpp) ⟨by omega, by omega⟩ ?_ | refine by_tald rfl rfl ⟨by omega, by omega⟩ ?_
        refine by_bipush cb_10 ?_
        refine by_ic_eq 96 rfl ?_
        simp (disch := first | exact Nat.ne_of_beq_eq_false rfl | exact rfl | omega) only [nI_add, xa_sub, xa_mul, pk_div, nm_mod, xa_shr, xa_and7, xa_and1, xa_and255, xa_by_and, nI_m1, Nat.add_sub_cancel, Nat.reducePow, Nat.zero_add, Nat.add_zero, Nat.reduceAdd, Nat.reduceMul, Nat.reduceSub, xf_same, xq_ff, xq_fo, xf_1, xf_2, xs_1, xs_2, xs_same, xq_so, xj_1, xj_2, xj_same, xq_jo, xq_sa1, xq_same, xq_other, upd_s, oI_n, oI_s, xv_0, xv_1, xv_2, xv_3, xm_p1, xm_p2, xq_fp, xq_fn, List.filter_nil, Nat.reduceBEq, Bool.not_true, Bool.not_false, Bool.and_true, Bool.and_false, Bool.false_and, Bool.true_and, if_true, if_false, Bool.false_eq_true, reduceIte, xc_i, xc_j, xc_r, xc_n, List.nil_append, List.cons_append, Option.toList_some, Option.toList_none, nI_ltJ, nI_leJ, nI_eqJ, nI_ltz, nI_gez, nI_gtz, nI_lez, nI_eqz, m1_ltz, m1_gez, true_imp_iff, false_imp_iff, true_and, and_true, ne_eq, not_false_eq_true, not_true_eq_false, Nat.reduceEqDiff, Nat.reduceLT, Nat.reduceLeDiff, y3, xf_102_15 F1, e8, xf_102_6 F1, w5, e']
        with_reducible refine xm_go_blk b_X12_witnessFault_93 k_X12_witnessFault_93 ?_
        refine by_goto 154 rfl ?_
        with_reducible refine xm_go_blk b_X12_witnessFault_154 k_X12_witnessFault_154 ?_
        refine by_iinc (by rw [ml_320]; decide) rfl ci_1 ?_
        refine by_goto 67 rfl ?_
        try simp (disch := first | exact Nat.ne_of_beq_eq_false rfl | exact rfl | omega) only [nI_add, xa_sub, xa_mul, pk_div, nm_mod, xa_shr, xa_and7, xa_and1, xa_and255, xa_by_and, nI_m1, Nat.add_sub_cancel, Nat.reducePow, Nat.zero_add, Nat.add_zero, Nat.reduceAdd, Nat.reduceMul, Nat.reduceSub, xf_same, xq_ff, xq_fo, xf_1, xf_2, xs_1, xs_2, xs_same, xq_so, xj_1, xj_2, xj_same, xq_jo, xq_sa1, xq_same, xq_other, upd_s, oI_n, oI_s, xv_0, xv_1, xv_2, xv_3, xm_p1, xm_p2, xq_fp, xq_fn, List.filter_nil, Nat.reduceBEq, Bool.not_true, Bool.not_false, Bool.and_true, Bool.and_false, Bool.false_and, Bool.true_and, if_true, if_false, Bool.false_eq_true, reduceIte, xc_i, xc_j, xc_r, xc_n, List.nil_append, List.cons_append, Option.toList_some, Option.toList_none, y3, xf_102_15 F1, e8, xf_102_6 F1, w5, e']
        have := ih (A ++ [n]) h1 (by rw [hAB]; simp) hn1 f1 (fun m hm hc => by
          rcases List.mem_append.mp hm with z | z
          · exact hA m z hc
          · rw [List.mem_singleton.mp z] at hc; exact absurd hc e)
        rw [List.length_append] at this
        exact xm_go_wk (by simp [Value.category]) this
  obtain ⟨F1, y2, y3, y4, y5, y6⟩ := hx
  have ht8 : t.length ≤ 8192 := y2.2.2.2
  have loop1 : ∀ (B A : List Nat), L2 = A ++ B → (∀ n ∈ A, sCd G n = 10 → sLn G n = ty_w (T n)) → xm_go (XE sc) (xm_T (XE sc) (d + 1)) 320 post 2 [(1, .int (nI A.length)), (0, .ref 102)] [] h := by
    intro B
    induction B with
    | nil =>
      intro A hAB hA
      rw [List.append_nil] at hAB
      subst hAB
      with_reducible refine xm_go_blk b_X12_witnessFault_2 k_X12_witnessFault_2 ?_
      refine by_iload_n rfl ?_
      refine by_aload_n rfl ?_
      refine by_getf cn_320 fl_12_226 (by first | exact rfl | assumption) (by decide) ?_
      simp (disch := first | exact Nat.ne_of_beq_eq_false rfl | exact rfl | omega) only [nI_add, xa_sub, xa_mul, pk_div, nm_mod, xa_shr, xa_and7, xa_and1, xa_and255, xa_by_and, nI_m1, Nat.add_sub_cancel, Nat.reducePow, Nat.zero_add, Nat.add_zero, Nat.reduceAdd, Nat.reduceMul, Nat.reduceSub, xf_same, xq_ff, xq_fo, xf_1, xf_2, xs_1, xs_2, xs_same, xq_so, xj_1, xj_2, xj_same, xq_jo, xq_sa1, xq_same, xq_other, upd_s, oI_n, oI_s, y3]
      refine by_ic_ge 65 rfl ?_
      simp (disch := first | exact Nat.ne_of_beq_eq_false rfl | exact rfl | omega) only [nI_add, xa_sub, xa_mul, pk_div, nm_mod, xa_shr, xa_and7, xa_and1, xa_and255, xa_by_and, nI_m1, Nat.add_sub_cancel, Nat.reducePow, Nat.zero_add, Nat.add_zero, Nat.reduceAdd, Nat.reduceMul, Nat.reduceSub, xf_same, xq_ff, xq_fo, xf_1, xf_2, xs_1, xs_2, xs_same, xq_so, xj_1, xj_2, xj_same, xq_jo, xq_sa1, xq_same, xq_other, upd_s, oI_n, oI_s, xv_0, xv_1, xv_2, xv_3, xm_p1, xm_p2, xq_fp, xq_fn, List.filter_nil, Nat.reduceBEq, Bool.not_true, Bool.not_false, Bool.and_true, Bool.and_false, Bool.false_and, Bool.true_and, if_true, if_false, Bool.false_eq_true, reduceIte, xc_i, xc_j, xc_r, xc_n, List.nil_append, List.cons_append, Option.toList_some, Option.toList_none, nI_ltJ, nI_leJ, nI_eqJ, nI_ltz, nI_gez, nI_gtz, nI_lez, nI_eqz, m1_ltz, m1_gez, true_imp_iff, false_imp_iff, true_and, and_true, ne_eq, not_false_eq_true, not_true_eq_false, Nat.reduceEqDiff, Nat.reduceLT, Nat.reduceLeDiff, y3]
      refine ⟨fun c2 => ?_, fun c => absurd (by omega) c⟩
      with_reducible refine xm_go_blk b_X12_witnessFault_65 k_X12_witnessFault_65 ?_
      refine by_iconst ci_0 ?_
      refine by_istore_n (by rw [ml_320]; decide) ?_
      refine by_nil ?_
      try simp (disch := first | exact Nat.ne_of_beq_eq_false rfl | exact rfl | omega) only [nI_add, xa_sub, xa_mul, pk_div, nm_mod, xa_shr, xa_and7, xa_and1, xa_and255, xa_by_and, nI_m1, Nat.add_sub_cancel, Nat.reducePow, Nat.zero_add, Nat.add_zero, Nat.reduceAdd, Nat.reduceMul, Nat.reduceSub, xf_same, xq_ff, xq_fo, xf_1, xf_2, xs_1, xs_2, xs_same, xq_so, xj_1, xj_2, xj_same, xq_jo, xq_sa1, xq_same, xq_other, upd_s, oI_n, oI_s, xv_0, xv_1, xv_2, xv_3, xm_p1, xm_p2, xq_fp, xq_fn, List.filter_nil, Nat.reduceBEq, Bool.not_true, Bool.not_false, Bool.and_true, Bool.and_false, Bool.false_and, Bool.true_and, if_true, if_false, Bool.false_eq_true, reduceIte, xc_i, xc_j, xc_r, xc_n, List.nil_append, List.cons_append, Option.toList_some, Option.toList_none, y3]
      exact xm_go_wk (by simp [Value.category]) (loop2 L2 [] h rfl (fun ⟨n, n1, n2, n3⟩ => n3 (hA n n1 n2)) Fr_rf (fun n hn => nomatch hn))
    | cons n B ih =>
      intro A hAB hA
      have hmem : n ∈ L2 := by rw [hAB]; simp
      have hAl : A.length < L2.length := by rw [hAB]; simp
      have hget : L2.getD A.length 0 = n := by rw [hAB]; simp [List.getD]
      have e8 : h.1 113 A.length = nI n := by rw [y4 _ hAl, hget]
      obtain ⟨n2, w5, w9, w8, w11, w12⟩ := y6 n hmem
      have g1 := (hG n hmem).1
      by_cases e : sCd G n = 10
      · rw [e] at w5
        obtain ⟨j, j0, j1, j2, j3, j4⟩ := w12 e
        have ew := mw_w y5 j0 j1 j3 j4
        have hl8 : sLn G n ≤ 8192 := by
          have := ((hG n hmem).2.2.2 e).1
          omega
        by_cases q : sLn G n = ty_w (T n)
        · have q' : (sLn G n = ty_w (T n)) = True := eq_true q
          with_reducible refine xm_go_blk b_X12_witnessFault_2 k_X12_witnessFault_2 ?_
          refine by_iload_n rfl ?_
          refine by_aload_n rfl ?_
          refine by_getf cn_320 fl_12_226 (by first | exact rfl | assumption) (by decide) ?_
          simp (disch := first | exact Nat.ne_of_beq_eq_false rfl | exact rfl | omega) only [nI_add, xa_sub, xa_mul, pk_div, nm_mod, xa_shr, xa_and7, xa_and1, xa_and255, xa_by_and, nI_m1, Nat.add_sub_cancel, Nat.reducePow, Nat.zero_add, Nat.add_zero, Nat.reduceAdd, Nat.reduceMul, Nat.reduceSub, xf_same, xq_ff, xq_fo, xf_1, xf_2, xs_1, xs_2, xs_same, xq_so, xj_1, xj_2, xj_same, xq_jo, xq_sa1, xq_same, xq_other, upd_s, oI_n, oI_s, y3, xf_102_6 F1, xf_102_15 F1, e8, w5, xf_102_10 F1, w9, xf_102_44 F1, xf_102_13 F1, j2, ew, q']
          refine by_ic_ge 65 rfl ?_
          simp (disch := first | exact Nat.ne_of_beq_eq_false rfl | exact rfl | omega) only [nI_add, xa_sub, xa_mul, pk_div, nm_mod, xa_shr, xa_and7, xa_and1, xa_and255, xa_by_and, nI_m1, Nat.add_sub_cancel, Nat.reducePow, Nat.zero_add, Nat.add_zero, Nat.reduceAdd, Nat.reduceMul, Nat.reduceSub, xf_same, xq_ff, xq_fo, xf_1, xf_2, xs_1, xs_2, xs_same, xq_so, xj_1, xj_2, xj_same, xq_jo, xq_sa1, xq_same, xq_other, upd_s, oI_n, oI_s, xv_0, xv_1, xv_2, xv_3, xm_p1, xm_p2, xq_fp, xq_fn, List.filter_nil, Nat.reduceBEq, Bool.not_true, Bool.not_false, Bool.and_true, Bool.and_false, Bool.false_and, Bool.true_and, if_true, if_false, Bool.false_eq_true, reduceIte, xc_i, xc_j, xc_r, xc_n, List.nil_append, List.cons_append, Option.toList_some, Option.toList_none, nI_ltJ, nI_leJ, nI_eqJ, nI_ltz, nI_gez, nI_gtz, nI_lez, nI_eqz, m1_ltz, m1_gez, true_imp_iff, false_imp_iff, true_and, and_true, ne_eq, not_false_eq_true, not_true_eq_false, Nat.reduceEqDiff, Nat.reduceLT, Nat.reduceLeDiff, y3, xf_102_6 F1, xf_102_15 F1, e8, w5, xf_102_10 F1, w9, xf_102_44 F1, xf_102_13 F1, j2, ew, q']
          refine ⟨fun c => absurd c (by omega), fun c2 => ?_⟩
          with_reducible refine xm_go_blk b_X12_witnessFault_10 k_X12_witnessFault_10 ?_
          refine by_aload_n rfl ?_
          refine by_getf cn_320 fl_12_16 (by first | exact rfl | assumption) (by decide) ?_
          refine by_aload_n rfl ?_
          refine by_getf cn_320 fl_12_40 (by first | exact rfl | assumption) (by decide) ?_
          refine by_iload_n rfl ?_
          simp (disch := first | exact Nat.ne_of_beq_eq_false rfl | exact rfl | omega) only [nI_add, xa_sub, xa_mul, pk_div, nm_mod, xa_shr, xa_and7, xa_and1, xa_and255, xa_by_and, nI_m1, Nat.add_sub_cancel, Nat.reducePow, Nat.zero_add, Nat.add_zero, Nat.reduceAdd, Nat.reduceMul, Nat.reduceSub, xf_same, xq_ff, xq_fo, xf_1, xf_2, xs_1, xs_2, xs_same, xq_so, xj_1, xj_2, xj_same, xq_jo, xq_sa1, xq_same, xq_other, upd_s, oI_n, oI_s, y3, xf_102_6 F1, xf_102_15 F1, e8, w5, xf_102_10 F1, w9, xf_102_44 F1, xf_102_13 F1, j2, ew, q']
          first | refine by_iald (by first | exact rfl | assumption | exact ps_1 hpp | exact ps_2 hpp | exact ps_3 hpp | exact ps_4 hpp | exact ps_5 hpp | exact ps_6 hpp | exact ps_7 hpp | exact ps_8 hpp | exact ps_9 hpp | exact ps_10 hpp | exact ps_11 hpp | exact ps_15 hpp | exact ps_16 hpp | exact ps_17 hpp | exact ps_18 hpp | exact ps_19 hpp | exact ps_21 hpp | exact ps_22 hpp | exact ps_23 hpp | exact ps_24 hpp) ⟨by omega, by omega⟩ ?_ | refine by_tald rfl rfl ⟨by omega, by omega⟩ ?_
          simp (disch := first | exact Nat.ne_of_beq_eq_false rfl | exact rfl | omega) only [nI_add, xa_sub, xa_mul, pk_div, nm_mod, xa_shr, xa_and7, xa_and1, xa_and255, xa_by_and, nI_m1, Nat.add_sub_cancel, Nat.reducePow, Nat.zero_add, Nat.add_zero, Nat.reduceAdd, Nat.reduceMul, Nat.reduceSub, xf_same, xq_ff, xq_fo, xf_1, xf_2, xs_1, xs_2, xs_same, xq_so, xj_1, xj_2, xj_same, xq_jo, xq_sa1, xq_same, xq_other, upd_s, oI_n, oI_s, y3, xf_102_6 F1, xf_102_15 F1, e8, w5, xf_102_10 F1, w9, xf_102_44 F1, xf_102_13 F1, j2, ew, q']
          first | refine by_iald (by first | exact rfl | assumption | exact ps_1 hpp | exact ps_2 hpp | exact ps_3 hpp | exact ps_4 hpp | exact ps_5 hpp | exact ps_6 hpp | exact ps_7 hpp | exact ps_8 hpp | exact ps_9 hpp | exact ps_10 hpp | exact ps_11 hpp | exact ps_15 hpp | exact ps_16 hpp | exact ps_17 hpp | exact ps_18 hpp | exact ps_19 hpp | exact ps_21 hpp | exact ps_22 hpp | exact ps_23 hpp | exact ps_24 hpp) ⟨by omega, by omega⟩ ?_ | refine by_tald rfl rfl ⟨by omega, by omega⟩ ?_
          refine by_bipush cb_10 ?_
          refine by_ic_ne 59 rfl ?_
          simp (disch := first | exact Nat.ne_of_beq_eq_false rfl | exact rfl | omega) only [nI_add, xa_sub, xa_mul, pk_div, nm_mod, xa_shr, xa_and7, xa_and1, xa_and255, xa_by_and, nI_m1, Nat.add_sub_cancel, Nat.reducePow, Nat.zero_add, Nat.add_zero, Nat.reduceAdd, Nat.reduceMul, Nat.reduceSub, xf_same, xq_ff, xq_fo, xf_1, xf_2, xs_1, xs_2, xs_same, xq_so, xj_1, xj_2, xj_same, xq_jo, xq_sa1, xq_same, xq_other, upd_s, oI_n, oI_s, xv_0, xv_1, xv_2, xv_3, xm_p1, xm_p2, xq_fp, xq_fn, List.filter_nil, Nat.reduceBEq, Bool.not_true, Bool.not_false, Bool.and_true, Bool.and_false, Bool.false_and, Bool.true_and, if_true, if_false, Bool.false_eq_true, reduceIte, xc_i, xc_j, xc_r, xc_n, List.nil_append, List.cons_append, Option.toList_some, Option.toList_none, nI_ltJ, nI_leJ, nI_eqJ, nI_ltz, nI_gez, nI_gtz, nI_lez, nI_eqz, m1_ltz, m1_gez, true_imp_iff, false_imp_iff, true_and, and_true, ne_eq, not_false_eq_true, not_true_eq_false, Nat.reduceEqDiff, Nat.reduceLT, Nat.reduceLeDiff, y3, xf_102_6 F1, xf_102_15 F1, e8, w5, xf_102_10 F1, w9, xf_102_44 F1, xf_102_13 F1, j2, ew, q']
          with_reducible refine xm_go_blk b_X12_witnessFault_26 k_X12_witnessFault_26 ?_
          refine by_aload_n rfl ?_
          refine by_getf cn_320 fl_12_28 (by first | exact rfl | assumption) (by decide) ?_
          refine by_aload_n rfl ?_
          refine by_getf cn_320 fl_12_40 (by first | exact rfl | assumption) (by decide) ?_
          refine by_iload_n rfl ?_
          simp (disch := first | exact Nat.ne_of_beq_eq_false rfl | exact rfl | omega) only [nI_add, xa_sub, xa_mul, pk_div, nm_mod, xa_shr, xa_and7, xa_and1, xa_and255, xa_by_and, nI_m1, Nat.add_sub_cancel, Nat.reducePow, Nat.zero_add, Nat.add_zero, Nat.reduceAdd, Nat.reduceMul, Nat.reduceSub, xf_same, xq_ff, xq_fo, xf_1, xf_2, xs_1, xs_2, xs_same, xq_so, xj_1, xj_2, xj_same, xq_jo, xq_sa1, xq_same, xq_other, upd_s, oI_n, oI_s, y3, xf_102_6 F1, xf_102_15 F1, e8, w5, xf_102_10 F1, w9, xf_102_44 F1, xf_102_13 F1, j2, ew, q']
          first | refine by_iald (by first | exact rfl | assumption | exact ps_1 hpp | exact ps_2 hpp | exact ps_3 hpp | exact ps_4 hpp | exact ps_5 hpp | exact ps_6 hpp | exact ps_7 hpp | exact ps_8 hpp | exact ps_9 hpp | exact ps_10 hpp | exact ps_11 hpp | exact ps_15 hpp | exact ps_16 hpp | exact ps_17 hpp | exact ps_18 hpp | exact ps_19 hpp | exact ps_21 hpp | exact ps_22 hpp | exact ps_23 hpp | exact ps_24 hpp) ⟨by omega, by omega⟩ ?_ | refine by_tald rfl rfl ⟨by omega, by omega⟩ ?_
          simp (disch := first | exact Nat.ne_of_beq_eq_false rfl | exact rfl | omega) only [nI_add, xa_sub, xa_mul, pk_div, nm_mod, xa_shr, xa_and7, xa_and1, xa_and255, xa_by_and, nI_m1, Nat.add_sub_cancel, Nat.reducePow, Nat.zero_add, Nat.add_zero, Nat.reduceAdd, Nat.reduceMul, Nat.reduceSub, xf_same, xq_ff, xq_fo, xf_1, xf_2, xs_1, xs_2, xs_same, xq_so, xj_1, xj_2, xj_same, xq_jo, xq_sa1, xq_same, xq_other, upd_s, oI_n, oI_s, y3, xf_102_6 F1, xf_102_15 F1, e8, w5, xf_102_10 F1, w9, xf_102_44 F1, xf_102_13 F1, j2, ew, q']
          first | refine by_iald (by first | exact rfl | assumption | exact ps_1 hpp | exact ps_2 hpp | exact ps_3 hpp | exact ps_4 hpp | exact ps_5 hpp | exact ps_6 hpp | exact ps_7 hpp | exact ps_8 hpp | exact ps_9 hpp | exact ps_10 hpp | exact ps_11 hpp | exact ps_15 hpp | exact ps_16 hpp | exact ps_17 hpp | exact ps_18 hpp | exact ps_19 hpp | exact ps_21 hpp | exact ps_22 hpp | exact ps_23 hpp | exact ps_24 hpp) ⟨by omega, by omega⟩ ?_ | refine by_tald rfl rfl ⟨by omega, by omega⟩ ?_
          refine by_aload_n rfl ?_
          refine by_getf cn_320 fl_12_100 (by first | exact rfl | assumption) (by decide) ?_
          refine by_aload_n rfl ?_
          refine by_getf cn_320 fl_12_37 (by first | exact rfl | assumption) (by decide) ?_
          refine by_aload_n rfl ?_
          refine by_getf cn_320 fl_12_40 (by first | exact rfl | assumption) (by decide) ?_
          refine by_iload_n rfl ?_
          simp (disch := first | exact Nat.ne_of_beq_eq_false rfl | exact rfl | omega) only [nI_add, xa_sub, xa_mul, pk_div, nm_mod, xa_shr, xa_and7, xa_and1, xa_and255, xa_by_and, nI_m1, Nat.add_sub_cancel, Nat.reducePow, Nat.zero_add, Nat.add_zero, Nat.reduceAdd, Nat.reduceMul, Nat.reduceSub, xf_same, xq_ff, xq_fo, xf_1, xf_2, xs_1, xs_2, xs_same, xq_so, xj_1, xj_2, xj_same, xq_jo, xq_sa1, xq_same, xq_other, upd_s, oI_n, oI_s, y3, xf_102_6 F1, xf_102_15 F1, e8, w5, xf_102_10 F1, w9, xf_102_44 F1, xf_102_13 F1, j2, ew, q']
          first | refine by_iald (by first | exact rfl | assumption | exact ps_1 hpp | exact ps_2 hpp | exact ps_3 hpp | exact ps_4 hpp | exact ps_5 hpp | exact ps_6 hpp | exact ps_7 hpp | exact ps_8 hpp | exact ps_9 hpp | exact ps_10 hpp | exact ps_11 hpp | exact ps_15 hpp | exact ps_16 hpp | exact ps_17 hpp | exact ps_18 hpp | exact ps_19 hpp | exact ps_21 hpp | exact ps_22 hpp | exact ps_23 hpp | exact ps_24 hpp) ⟨by omega, by omega⟩ ?_ | refine by_tald rfl rfl ⟨by omega, by omega⟩ ?_
          simp (disch := first | exact Nat.ne_of_beq_eq_false rfl | exact rfl | omega) only [nI_add, xa_sub, xa_mul, pk_div, nm_mod, xa_shr, xa_and7, xa_and1, xa_and255, xa_by_and, nI_m1, Nat.add_sub_cancel, Nat.reducePow, Nat.zero_add, Nat.add_zero, Nat.reduceAdd, Nat.reduceMul, Nat.reduceSub, xf_same, xq_ff, xq_fo, xf_1, xf_2, xs_1, xs_2, xs_same, xq_so, xj_1, xj_2, xj_same, xq_jo, xq_sa1, xq_same, xq_other, upd_s, oI_n, oI_s, y3, xf_102_6 F1, xf_102_15 F1, e8, w5, xf_102_10 F1, w9, xf_102_44 F1, xf_102_13 F1, j2, ew, q']
          first | refine by_iald (by first | exact rfl | assumption | exact ps_1 hpp | exact ps_2 hpp | exact ps_3 hpp | exact ps_4 hpp | exact ps_5 hpp | exact ps_6 hpp | exact ps_7 hpp | exact ps_8 hpp | exact ps_9 hpp | exact ps_10 hpp | exact ps_11 hpp | exact ps_15 hpp | exact ps_16 hpp | exact ps_17 hpp | exact ps_18 hpp | exact ps_19 hpp | exact ps_21 hpp | exact ps_22 hpp | exact ps_23 hpp | exact ps_24 hpp) ⟨by omega, by omega⟩ ?_ | refine by_tald rfl rfl ⟨by omega, by omega⟩ ?_
          simp (disch := first | exact Nat.ne_of_beq_eq_false rfl | exact rfl | omega) only [nI_add, xa_sub, xa_mul, pk_div, nm_mod, xa_shr, xa_and7, xa_and1, xa_and255, xa_by_and, nI_m1, Nat.add_sub_cancel, Nat.reducePow, Nat.zero_add, Nat.add_zero, Nat.reduceAdd, Nat.reduceMul, Nat.reduceSub, xf_same, xq_ff, xq_fo, xf_1, xf_2, xs_1, xs_2, xs_same, xq_so, xj_1, xj_2, xj_same, xq_jo, xq_sa1, xq_same, xq_other, upd_s, oI_n, oI_s, y3, xf_102_6 F1, xf_102_15 F1, e8, w5, xf_102_10 F1, w9, xf_102_44 F1, xf_102_13 F1, j2, ew, q']
          first | refine by_iald (by first | exact rfl | assumption | exact ps_1 hpp | exact ps_2 hpp | exact ps_3 hpp | exact ps_4 hpp | exact ps_5 hpp | exact ps_6 hpp | exact ps_7 hpp | exact ps_8 hpp | exact ps_9 hpp | exact ps_10 hpp | exact ps_11 hpp | exact ps_15 hpp | exact ps_16 hpp | exact ps_17 hpp | exact ps_18 hpp | exact ps_19 hpp | exact ps_21 hpp | exact ps_22 hpp | exact ps_23 hpp | exact ps_24 hpp) ⟨by omega, by omega⟩ ?_ | refine by_tald rfl rfl ⟨by omega, by omega⟩ ?_
          refine by_ic_eq 59 rfl ?_
          simp (disch := first | exact Nat.ne_of_beq_eq_false rfl | exact rfl | omega) only [nI_add, xa_sub, xa_mul, pk_div, nm_mod, xa_shr, xa_and7, xa_and1, xa_and255, xa_by_and, nI_m1, Nat.add_sub_cancel, Nat.reducePow, Nat.zero_add, Nat.add_zero, Nat.reduceAdd, Nat.reduceMul, Nat.reduceSub, xf_same, xq_ff, xq_fo, xf_1, xf_2, xs_1, xs_2, xs_same, xq_so, xj_1, xj_2, xj_same, xq_jo, xq_sa1, xq_same, xq_other, upd_s, oI_n, oI_s, xv_0, xv_1, xv_2, xv_3, xm_p1, xm_p2, xq_fp, xq_fn, List.filter_nil, Nat.reduceBEq, Bool.not_true, Bool.not_false, Bool.and_true, Bool.and_false, Bool.false_and, Bool.true_and, if_true, if_false, Bool.false_eq_true, reduceIte, xc_i, xc_j, xc_r, xc_n, List.nil_append, List.cons_append, Option.toList_some, Option.toList_none, nI_ltJ, nI_leJ, nI_eqJ, nI_ltz, nI_gez, nI_gtz, nI_lez, nI_eqz, m1_ltz, m1_gez, true_imp_iff, false_imp_iff, true_and, and_true, ne_eq, not_false_eq_true, not_true_eq_false, Nat.reduceEqDiff, Nat.reduceLT, Nat.reduceLeDiff, y3, xf_102_6 F1, xf_102_15 F1, e8, w5, xf_102_10 F1, w9, xf_102_44 F1, xf_102_13 F1, j2, ew, q']
          with_reducible refine xm_go_blk b_X12_witnessFault_59 k_X12_witnessFault_59 ?_
          refine by_iinc (by rw [ml_320]; decide) rfl ci_1 ?_
          refine by_goto 2 rfl ?_
          try simp (disch := first | exact Nat.ne_of_beq_eq_false rfl | exact rfl | omega) only [nI_add, xa_sub, xa_mul, pk_div, nm_mod, xa_shr, xa_and7, xa_and1, xa_and255, xa_by_and, nI_m1, Nat.add_sub_cancel, Nat.reducePow, Nat.zero_add, Nat.add_zero, Nat.reduceAdd, Nat.reduceMul, Nat.reduceSub, xf_same, xq_ff, xq_fo, xf_1, xf_2, xs_1, xs_2, xs_same, xq_so, xj_1, xj_2, xj_same, xq_jo, xq_sa1, xq_same, xq_other, upd_s, oI_n, oI_s, xv_0, xv_1, xv_2, xv_3, xm_p1, xm_p2, xq_fp, xq_fn, List.filter_nil, Nat.reduceBEq, Bool.not_true, Bool.not_false, Bool.and_true, Bool.and_false, Bool.false_and, Bool.true_and, if_true, if_false, Bool.false_eq_true, reduceIte, xc_i, xc_j, xc_r, xc_n, List.nil_append, List.cons_append, Option.toList_some, Option.toList_none, y3, xf_102_6 F1, xf_102_15 F1, e8, w5, xf_102_10 F1, w9, xf_102_44 F1, xf_102_13 F1, j2, ew, q']
          have := ih (A ++ [n]) (by rw [hAB]; simp) (fun m hm hc => by
            rcases List.mem_append.mp hm with z | z
            · exact hA m z hc
            · rw [List.mem_singleton.mp z]; exact q)
          rw [List.length_append] at this
          exact xm_go_wk (by simp [Value.category]) this
        · have q' : (sLn G n = ty_w (T n)) = False := eq_false q
          with_reducible refine xm_go_blk b_X12_witnessFault_2 k_X12_witnessFault_2 ?_
          refine by_iload_n rfl ?_
          refine by_aload_n rfl ?_
          refine by_getf cn_320 fl_12_226 (by first | exact rfl | assumption) (by decide) ?_
          simp (disch := first | exact Nat.ne_of_beq_eq_false rfl | exact rfl | omega) only [nI_add, xa_sub, xa_mul, pk_div, nm_mod, xa_shr, xa_and7, xa_and1, xa_and255, xa_by_and, nI_m1, Nat.add_sub_cancel, Nat.reducePow, Nat.zero_add, Nat.add_zero, Nat.reduceAdd, Nat.reduceMul, Nat.reduceSub, xf_same, xq_ff, xq_fo, xf_1, xf_2, xs_1, xs_2, xs_same, xq_so, xj_1, xj_2, xj_same, xq_jo, xq_sa1, xq_same, xq_other, upd_s, oI_n, oI_s, y3, xf_102_6 F1, xf_102_15 F1, e8, w5, xf_102_10 F1, w9, xf_102_44 F1, xf_102_13 F1, j2, ew, q']
          refine by_ic_ge 65 rfl ?_
          simp (disch := first | exact Nat.ne_of_beq_eq_false rfl | exact rfl | omega) only [nI_add, xa_sub, xa_mul, pk_div, nm_mod, xa_shr, xa_and7, xa_and1, xa_and255, xa_by_and, nI_m1, Nat.add_sub_cancel, Nat.reducePow, Nat.zero_add, Nat.add_zero, Nat.reduceAdd, Nat.reduceMul, Nat.reduceSub, xf_same, xq_ff, xq_fo, xf_1, xf_2, xs_1, xs_2, xs_same, xq_so, xj_1, xj_2, xj_same, xq_jo, xq_sa1, xq_same, xq_other, upd_s, oI_n, oI_s, xv_0, xv_1, xv_2, xv_3, xm_p1, xm_p2, xq_fp, xq_fn, List.filter_nil, Nat.reduceBEq, Bool.not_true, Bool.not_false, Bool.and_true, Bool.and_false, Bool.false_and, Bool.true_and, if_true, if_false, Bool.false_eq_true, reduceIte, xc_i, xc_j, xc_r, xc_n, List.nil_append, List.cons_append, Option.toList_some, Option.toList_none, nI_ltJ, nI_leJ, nI_eqJ, nI_ltz, nI_gez, nI_gtz, nI_lez, nI_eqz, m1_ltz, m1_gez, true_imp_iff, false_imp_iff, true_and, and_true, ne_eq, not_false_eq_true, not_true_eq_false, Nat.reduceEqDiff, Nat.reduceLT, Nat.reduceLeDiff, y3, xf_102_6 F1, xf_102_15 F1, e8, w5, xf_102_10 F1, w9, xf_102_44 F1, xf_102_13 F1, j2, ew, q']
          refine ⟨fun c => absurd c (by omega), fun c2 => ?_⟩
          with_reducible refine xm_go_blk b_X12_witnessFault_10 k_X12_witnessFault_10 ?_
          refine by_aload_n rfl ?_
          refine by_getf cn_320 fl_12_16 (by first | exact rfl | assumption) (by decide) ?_
          refine by_aload_n rfl ?_
          refine by_getf cn_320 fl_12_40 (by first | exact rfl | assumption) (by decide) ?_
          refine by_iload_n rfl ?_
          simp (disch := first | exact Nat.ne_of_beq_eq_false rfl | exact rfl | omega) only [nI_add, xa_sub, xa_mul, pk_div, nm_mod, xa_shr, xa_and7, xa_and1, xa_and255, xa_by_and, nI_m1, Nat.add_sub_cancel, Nat.reducePow, Nat.zero_add, Nat.add_zero, Nat.reduceAdd, Nat.reduceMul, Nat.reduceSub, xf_same, xq_ff, xq_fo, xf_1, xf_2, xs_1, xs_2, xs_same, xq_so, xj_1, xj_2, xj_same, xq_jo, xq_sa1, xq_same, xq_other, upd_s, oI_n, oI_s, y3, xf_102_6 F1, xf_102_15 F1, e8, w5, xf_102_10 F1, w9, xf_102_44 F1, xf_102_13 F1, j2, ew, q']
          first | refine by_iald (by first | exact rfl | assumption | exact ps_1 hpp | exact ps_2 hpp | exact ps_3 hpp | exact ps_4 hpp | exact ps_5 hpp | exact ps_6 hpp | exact ps_7 hpp | exact ps_8 hpp | exact ps_9 hpp | exact ps_10 hpp | exact ps_11 hpp | exact ps_15 hpp | exact ps_16 hpp | exact ps_17 hpp | exact ps_18 hpp | exact ps_19 hpp | exact ps_21 hpp | exact ps_22 hpp | exact ps_23 hpp | exact ps_24 hpp) ⟨by omega, by omega⟩ ?_ | refine by_tald rfl rfl ⟨by omega, by omega⟩ ?_
          simp (disch := first | exact Nat.ne_of_beq_eq_false rfl | exact rfl | omega) only [nI_add, xa_sub, xa_mul, pk_div, nm_mod, xa_shr, xa_and7, xa_and1, xa_and255, xa_by_and, nI_m1, Nat.add_sub_cancel, Nat.reducePow, Nat.zero_add, Nat.add_zero, Nat.reduceAdd, Nat.reduceMul, Nat.reduceSub, xf_same, xq_ff, xq_fo, xf_1, xf_2, xs_1, xs_2, xs_same, xq_so, xj_1, xj_2, xj_same, xq_jo, xq_sa1, xq_same, xq_other, upd_s, oI_n, oI_s, y3, xf_102_6 F1, xf_102_15 F1, e8, w5, xf_102_10 F1, w9, xf_102_44 F1, xf_102_13 F1, j2, ew, q']
          first | refine by_iald (by first | exact rfl | assumption | exact ps_1 hpp | exact ps_2 hpp | exact ps_3 hpp | exact ps_4 hpp | exact ps_5 hpp | exact ps_6 hpp | exact ps_7 hpp | exact ps_8 hpp | exact ps_9 hpp | exact ps_10 hpp | exact ps_11 hpp | exact ps_15 hpp | exact ps_16 hpp | exact ps_17 hpp | exact ps_18 hpp | exact ps_19 hpp | exact ps_21 hpp | exact ps_22 hpp | exact ps_23 hpp | exact ps_24 hpp) ⟨by omega, by omega⟩ ?_ | refine by_tald rfl rfl ⟨by omega, by omega⟩ ?_
          refine by_bipush cb_10 ?_
          refine by_ic_ne 59 rfl ?_
          simp (disch := first | exact Nat.ne_of_beq_eq_false rfl | exact rfl | omega) only [nI_add, xa_sub, xa_mul, pk_div, nm_mod, xa_shr, xa_and7, xa_and1, xa_and255, xa_by_and, nI_m1, Nat.add_sub_cancel, Nat.reducePow, Nat.zero_add, Nat.add_zero, Nat.reduceAdd, Nat.reduceMul, Nat.reduceSub, xf_same, xq_ff, xq_fo, xf_1, xf_2, xs_1, xs_2, xs_same, xq_so, xj_1, xj_2, xj_same, xq_jo, xq_sa1, xq_same, xq_other, upd_s, oI_n, oI_s, xv_0, xv_1, xv_2, xv_3, xm_p1, xm_p2, xq_fp, xq_fn, List.filter_nil, Nat.reduceBEq, Bool.not_true, Bool.not_false, Bool.and_true, Bool.and_false, Bool.false_and, Bool.true_and, if_true, if_false, Bool.false_eq_true, reduceIte, xc_i, xc_j, xc_r, xc_n, List.nil_append, List.cons_append, Option.toList_some, Option.toList_none, nI_ltJ, nI_leJ, nI_eqJ, nI_ltz, nI_gez, nI_gtz, nI_lez, nI_eqz, m1_ltz, m1_gez, true_imp_iff, false_imp_iff, true_and, and_true, ne_eq, not_false_eq_true, not_true_eq_false, Nat.reduceEqDiff, Nat.reduceLT, Nat.reduceLeDiff, y3, xf_102_6 F1, xf_102_15 F1, e8, w5, xf_102_10 F1, w9, xf_102_44 F1, xf_102_13 F1, j2, ew, q']
          with_reducible refine xm_go_blk b_X12_witnessFault_26 k_X12_witnessFault_26 ?_
          refine by_aload_n rfl ?_
          refine by_getf cn_320 fl_12_28 (by first | exact rfl | assumption) (by decide) ?_
          refine by_aload_n rfl ?_
          refine by_getf cn_320 fl_12_40 (by first | exact rfl | assumption) (by decide) ?_
          refine by_iload_n rfl ?_
          simp (disch := first | exact Nat.ne_of_beq_eq_false rfl | exact rfl | omega) only [nI_add, xa_sub, xa_mul, pk_div, nm_mod, xa_shr, xa_and7, xa_and1, xa_and255, xa_by_and, nI_m1, Nat.add_sub_cancel, Nat.reducePow, Nat.zero_add, Nat.add_zero, Nat.reduceAdd, Nat.reduceMul, Nat.reduceSub, xf_same, xq_ff, xq_fo, xf_1, xf_2, xs_1, xs_2, xs_same, xq_so, xj_1, xj_2, xj_same, xq_jo, xq_sa1, xq_same, xq_other, upd_s, oI_n, oI_s, y3, xf_102_6 F1, xf_102_15 F1, e8, w5, xf_102_10 F1, w9, xf_102_44 F1, xf_102_13 F1, j2, ew, q']
          first | refine by_iald (by first | exact rfl | assumption | exact ps_1 hpp | exact ps_2 hpp | exact ps_3 hpp | exact ps_4 hpp | exact ps_5 hpp | exact ps_6 hpp | exact ps_7 hpp | exact ps_8 hpp | exact ps_9 hpp | exact ps_10 hpp | exact ps_11 hpp | exact ps_15 hpp | exact ps_16 hpp | exact ps_17 hpp | exact ps_18 hpp | exact ps_19 hpp | exact ps_21 hpp | exact ps_22 hpp | exact ps_23 hpp | exact ps_24 hpp) ⟨by omega, by omega⟩ ?_ | refine by_tald rfl rfl ⟨by omega, by omega⟩ ?_
          simp (disch := first | exact Nat.ne_of_beq_eq_false rfl | exact rfl | omega) only [nI_add, xa_sub, xa_mul, pk_div, nm_mod, xa_shr, xa_and7, xa_and1, xa_and255, xa_by_and, nI_m1, Nat.add_sub_cancel, Nat.reducePow, Nat.zero_add, Nat.add_zero, Nat.reduceAdd, Nat.reduceMul, Nat.reduceSub, xf_same, xq_ff, xq_fo, xf_1, xf_2, xs_1, xs_2, xs_same, xq_so, xj_1, xj_2, xj_same, xq_jo, xq_sa1, xq_same, xq_other, upd_s, oI_n, oI_s, y3, xf_102_6 F1, xf_102_15 F1, e8, w5, xf_102_10 F1, w9, xf_102_44 F1, xf_102_13 F1, j2, ew, q']
          first | refine by_iald (by first | exact rfl | assumption | exact ps_1 hpp | exact ps_2 hpp | exact ps_3 hpp | exact ps_4 hpp | exact ps_5 hpp | exact ps_6 hpp | exact ps_7 hpp | exact ps_8 hpp | exact ps_9 hpp | exact ps_10 hpp | exact ps_11 hpp | exact ps_15 hpp | exact ps_16 hpp | exact ps_17 hpp | exact ps_18 hpp | exact ps_19 hpp | exact ps_21 hpp | exact ps_22 hpp | exact ps_23 hpp | exact ps_24 hpp) ⟨by omega, by omega⟩ ?_ | refine by_tald rfl rfl ⟨by omega, by omega⟩ ?_
          refine by_aload_n rfl ?_
          refine by_getf cn_320 fl_12_100 (by first | exact rfl | assumption) (by decide) ?_
          refine by_aload_n rfl ?_
          refine by_getf cn_320 fl_12_37 (by first | exact rfl | assumption) (by decide) ?_
          refine by_aload_n rfl ?_
          refine by_getf cn_320 fl_12_40 (by first | exact rfl | assumption) (by decide) ?_
          refine by_iload_n rfl ?_
          simp (disch := first | exact Nat.ne_of_beq_eq_false rfl | exact rfl | omega) only [nI_add, xa_sub, xa_mul, pk_div, nm_mod, xa_shr, xa_and7, xa_and1, xa_and255, xa_by_and, nI_m1, Nat.add_sub_cancel, Nat.reducePow, Nat.zero_add, Nat.add_zero, Nat.reduceAdd, Nat.reduceMul, Nat.reduceSub, xf_same, xq_ff, xq_fo, xf_1, xf_2, xs_1, xs_2, xs_same, xq_so, xj_1, xj_2, xj_same, xq_jo, xq_sa1, xq_same, xq_other, upd_s, oI_n, oI_s, y3, xf_102_6 F1, xf_102_15 F1, e8, w5, xf_102_10 F1, w9, xf_102_44 F1, xf_102_13 F1, j2, ew, q']
          first | refine by_iald (by first | exact rfl | assumption | exact ps_1 hpp | exact ps_2 hpp | exact ps_3 hpp | exact ps_4 hpp | exact ps_5 hpp | exact ps_6 hpp | exact ps_7 hpp | exact ps_8 hpp | exact ps_9 hpp | exact ps_10 hpp | exact ps_11 hpp | exact ps_15 hpp | exact ps_16 hpp | exact ps_17 hpp | exact ps_18 hpp | exact ps_19 hpp | exact ps_21 hpp | exact ps_22 hpp | exact ps_23 hpp | exact ps_24 hpp) ⟨by omega, by omega⟩ ?_ | refine by_tald rfl rfl ⟨by omega, by omega⟩ ?_
          simp (disch := first | exact Nat.ne_of_beq_eq_false rfl | exact rfl | omega) only [nI_add, xa_sub, xa_mul, pk_div, nm_mod, xa_shr, xa_and7, xa_and1, xa_and255, xa_by_and, nI_m1, Nat.add_sub_cancel, Nat.reducePow, Nat.zero_add, Nat.add_zero, Nat.reduceAdd, Nat.reduceMul, Nat.reduceSub, xf_same, xq_ff, xq_fo, xf_1, xf_2, xs_1, xs_2, xs_same, xq_so, xj_1, xj_2, xj_same, xq_jo, xq_sa1, xq_same, xq_other, upd_s, oI_n, oI_s, y3, xf_102_6 F1, xf_102_15 F1, e8, w5, xf_102_10 F1, w9, xf_102_44 F1, xf_102_13 F1, j2, ew, q']
          first | refine by_iald (by first | exact rfl | assumption | exact ps_1 hpp | exact ps_2 hpp | exact ps_3 hpp | exact ps_4 hpp | exact ps_5 hpp | exact ps_6 hpp | exact ps_7 hpp | exact ps_8 hpp | exact ps_9 hpp | exact ps_10 hpp | exact ps_11 hpp | exact ps_15 hpp | exact ps_16 hpp | exact ps_17 hpp | exact ps_18 hpp | exact ps_19 hpp | exact ps_21 hpp | exact ps_22 hpp | exact ps_23 hpp | exact ps_24 hpp) ⟨by omega, by omega⟩ ?_ | refine by_tald rfl rfl ⟨by omega, by omega⟩ ?_
          simp (disch := first | exact Nat.ne_of_beq_eq_false rfl | exact rfl | omega) only [nI_add, xa_sub, xa_mul, pk_div, nm_mod, xa_shr, xa_and7, xa_and1, xa_and255, xa_by_and, nI_m1, Nat.add_sub_cancel, Nat.reducePow, Nat.zero_add, Nat.add_zero, Nat.reduceAdd, Nat.reduceMul, Nat.reduceSub, xf_same, xq_ff, xq_fo, xf_1, xf_2, xs_1, xs_2, xs_same, xq_so, xj_1, xj_2, xj_same, xq_jo, xq_sa1, xq_same, xq_other, upd_s, oI_n, oI_s, y3, xf_102_6 F1, xf_102_15 F1, e8, w5, xf_102_10 F1, w9, xf_102_44 F1, xf_102_13 F1, j2, ew, q']
          first | refine by_iald (by first | exact rfl | assumption | exact ps_1 hpp | exact ps_2 hpp | exact ps_3 hpp | exact ps_4 hpp | exact ps_5 hpp | exact ps_6 hpp | exact ps_7 hpp | exact ps_8 hpp | exact ps_9 hpp | exact ps_10 hpp | exact ps_11 hpp | exact ps_15 hpp | exact ps_16 hpp | exact ps_17 hpp | exact ps_18 hpp | exact ps_19 hpp | exact ps_21 hpp | exact ps_22 hpp | exact ps_23 hpp | exact ps_24 hpp) ⟨by omega, by omega⟩ ?_ | refine by_tald rfl rfl ⟨by omega, by omega⟩ ?_
          refine by_ic_eq 59 rfl ?_
          simp (disch := first | exact Nat.ne_of_beq_eq_false rfl | exact rfl | omega) only [nI_add, xa_sub, xa_mul, pk_div, nm_mod, xa_shr, xa_and7, xa_and1, xa_and255, xa_by_and, nI_m1, Nat.add_sub_cancel, Nat.reducePow, Nat.zero_add, Nat.add_zero, Nat.reduceAdd, Nat.reduceMul, Nat.reduceSub, xf_same, xq_ff, xq_fo, xf_1, xf_2, xs_1, xs_2, xs_same, xq_so, xj_1, xj_2, xj_same, xq_jo, xq_sa1, xq_same, xq_other, upd_s, oI_n, oI_s, xv_0, xv_1, xv_2, xv_3, xm_p1, xm_p2, xq_fp, xq_fn, List.filter_nil, Nat.reduceBEq, Bool.not_true, Bool.not_false, Bool.and_true, Bool.and_false, Bool.false_and, Bool.true_and, if_true, if_false, Bool.false_eq_true, reduceIte, xc_i, xc_j, xc_r, xc_n, List.nil_append, List.cons_append, Option.toList_some, Option.toList_none, nI_ltJ, nI_leJ, nI_eqJ, nI_ltz, nI_gez, nI_gtz, nI_lez, nI_eqz, m1_ltz, m1_gez, true_imp_iff, false_imp_iff, true_and, and_true, ne_eq, not_false_eq_true, not_true_eq_false, Nat.reduceEqDiff, Nat.reduceLT, Nat.reduceLeDiff, y3, xf_102_6 F1, xf_102_15 F1, e8, w5, xf_102_10 F1, w9, xf_102_44 F1, xf_102_13 F1, j2, ew, q']
          with_reducible refine xm_go_blk b_X12_witnessFault_56 k_X12_witnessFault_56 ?_
          refine by_bipush cb_10 ?_
          refine by_iret ry_320 (by first | rfl | assumption) ?_
          exact h10 ⟨n, hmem, e, q⟩
      · have e' : (sCd G n = 10) = False := eq_false e
        with_reducible refine xm_go_blk b_X12_witnessFault_2 k_X12_witnessFault_2 ?_
        refine by_iload_n rfl ?_
        refine by_aload_n rfl ?_
        refine by_getf cn_320 fl_12_226 (by first | exact rfl | assumption) (by decide) ?_
        simp (disch := first | exact Nat.ne_of_beq_eq_false rfl | exact rfl | omega) only [nI_add, xa_sub, xa_mul, pk_div, nm_mod, xa_shr, xa_and7, xa_and1, xa_and255, xa_by_and, nI_m1, Nat.add_sub_cancel, Nat.reducePow, Nat.zero_add, Nat.add_zero, Nat.reduceAdd, Nat.reduceMul, Nat.reduceSub, xf_same, xq_ff, xq_fo, xf_1, xf_2, xs_1, xs_2, xs_same, xq_so, xj_1, xj_2, xj_same, xq_jo, xq_sa1, xq_same, xq_other, upd_s, oI_n, oI_s, y3, xf_102_6 F1, xf_102_15 F1, e8, w5, e']
        refine by_ic_ge 65 rfl ?_
        simp (disch := first | exact Nat.ne_of_beq_eq_false rfl | exact rfl | omega) only [nI_add, xa_sub, xa_mul, pk_div, nm_mod, xa_shr, xa_and7, xa_and1, xa_and255, xa_by_and, nI_m1, Nat.add_sub_cancel, Nat.reducePow, Nat.zero_add, Nat.add_zero, Nat.reduceAdd, Nat.reduceMul, Nat.reduceSub, xf_same, xq_ff, xq_fo, xf_1, xf_2, xs_1, xs_2, xs_same, xq_so, xj_1, xj_2, xj_same, xq_jo, xq_sa1, xq_same, xq_other, upd_s, oI_n, oI_s, xv_0, xv_1, xv_2, xv_3, xm_p1, xm_p2, xq_fp, xq_fn, List.filter_nil, Nat.reduceBEq, Bool.not_true, Bool.not_false, Bool.and_true, Bool.and_false, Bool.false_and, Bool.true_and, if_true, if_false, Bool.false_eq_true, reduceIte, xc_i, xc_j, xc_r, xc_n, List.nil_append, List.cons_append, Option.toList_some, Option.toList_none, nI_ltJ, nI_leJ, nI_eqJ, nI_ltz, nI_gez, nI_gtz, nI_lez, nI_eqz, m1_ltz, m1_gez, true_imp_iff, false_imp_iff, true_and, and_true, ne_eq, not_false_eq_true, not_true_eq_false, Nat.reduceEqDiff, Nat.reduceLT, Nat.reduceLeDiff, y3, xf_102_6 F1, xf_102_15 F1, e8, w5, e']
        refine ⟨fun c => absurd c (by omega), fun c2 => ?_⟩
        with_reducible refine xm_go_blk b_X12_witnessFault_10 k_X12_witnessFault_10 ?_
        refine by_aload_n rfl ?_
        refine by_getf cn_320 fl_12_16 (by first | exact rfl | assumption) (by decide) ?_
        refine by_aload_n rfl ?_
        refine by_getf cn_320 fl_12_40 (by first | exact rfl | assumption) (by decide) ?_
        refine by_iload_n rfl ?_
        simp (disch := first | exact Nat.ne_of_beq_eq_false rfl | exact rfl | omega) only [nI_add, xa_sub, xa_mul, pk_div, nm_mod, xa_shr, xa_and7, xa_and1, xa_and255, xa_by_and, nI_m1, Nat.add_sub_cancel, Nat.reducePow, Nat.zero_add, Nat.add_zero, Nat.reduceAdd, Nat.reduceMul, Nat.reduceSub, xf_same, xq_ff, xq_fo, xf_1, xf_2, xs_1, xs_2, xs_same, xq_so, xj_1, xj_2, xj_same, xq_jo, xq_sa1, xq_same, xq_other, upd_s, oI_n, oI_s, y3, xf_102_6 F1, xf_102_15 F1, e8, w5, e']
        first | refine by_iald (by first | exact rfl | assumption | exact ps_1 hpp | exact ps_2 hpp | exact ps_3 hpp | exact ps_4 hpp | exact ps_5 hpp | exact ps_6 hpp | exact ps_7 hpp | exact ps_8 hpp | exact ps_9 hpp | exact ps_10 hpp | exact ps_11 hpp | exact ps_15 hpp | exact ps_16 hpp | exact ps_17 hpp | exact ps_18 hpp | exact ps_19 hpp | exact ps_21 hpp | exact ps_22 hpp | exact ps_23 hpp | exact ps_24 hpp) ⟨by omega, by omega⟩ ?_ | refine by_tald rfl rfl ⟨by omega, by omega⟩ ?_
        simp (disch := first | exact Nat.ne_of_beq_eq_false rfl | exact rfl | omega) only [nI_add, xa_sub, xa_mul, pk_div, nm_mod, xa_shr, xa_and7, xa_and1, xa_and255, xa_by_and, nI_m1, Nat.add_sub_cancel, Nat.reducePow, Nat.zero_add, Nat.add_zero, Nat.reduceAdd, Nat.reduceMul, Nat.reduceSub, xf_same, xq_ff, xq_fo, xf_1, xf_2, xs_1, xs_2, xs_same, xq_so, xj_1, xj_2, xj_same, xq_jo, xq_sa1, xq_same, xq_other, upd_s, oI_n, oI_s, y3, xf_102_6 F1, xf_102_15 F1, e8, w5, e']
        first | refine by_iald (by first | exact rfl | assumption | exact ps_1 hpp | exact ps_2 hpp | exact ps_3 hpp | exact ps_4 hpp | exact ps_5 hpp | exact ps_6 hpp | exact ps_7 hpp | exact ps_8 hpp | exact ps_9 hpp | exact ps_10 hpp | exact ps_11 hpp | exact ps_15 hpp | exact ps_16 hpp | exact ps_17 hpp | exact ps_18 hpp | exact ps_19 hpp | exact ps_21 hpp | exact ps_22 hpp | exact ps_23 hpp | exact ps_24 hpp) ⟨by omega, by omega⟩ ?_ | refine by_tald rfl rfl ⟨by omega, by omega⟩ ?_
        refine by_bipush cb_10 ?_
        refine by_ic_ne 59 rfl ?_
        simp (disch := first | exact Nat.ne_of_beq_eq_false rfl | exact rfl | omega) only [nI_add, xa_sub, xa_mul, pk_div, nm_mod, xa_shr, xa_and7, xa_and1, xa_and255, xa_by_and, nI_m1, Nat.add_sub_cancel, Nat.reducePow, Nat.zero_add, Nat.add_zero, Nat.reduceAdd, Nat.reduceMul, Nat.reduceSub, xf_same, xq_ff, xq_fo, xf_1, xf_2, xs_1, xs_2, xs_same, xq_so, xj_1, xj_2, xj_same, xq_jo, xq_sa1, xq_same, xq_other, upd_s, oI_n, oI_s, xv_0, xv_1, xv_2, xv_3, xm_p1, xm_p2, xq_fp, xq_fn, List.filter_nil, Nat.reduceBEq, Bool.not_true, Bool.not_false, Bool.and_true, Bool.and_false, Bool.false_and, Bool.true_and, if_true, if_false, Bool.false_eq_true, reduceIte, xc_i, xc_j, xc_r, xc_n, List.nil_append, List.cons_append, Option.toList_some, Option.toList_none, nI_ltJ, nI_leJ, nI_eqJ, nI_ltz, nI_gez, nI_gtz, nI_lez, nI_eqz, m1_ltz, m1_gez, true_imp_iff, false_imp_iff, true_and, and_true, ne_eq, not_false_eq_true, not_true_eq_false, Nat.reduceEqDiff, Nat.reduceLT, Nat.reduceLeDiff, y3, xf_102_6 F1, xf_102_15 F1, e8, w5, e']
        with_reducible refine xm_go_blk b_X12_witnessFault_59 k_X12_witnessFault_59 ?_
        refine by_iinc (by rw [ml_320]; decide) rfl ci_1 ?_
        refine by_goto 2 rfl ?_
        try simp (disch := first | exact Nat.ne_of_beq_eq_false rfl | exact rfl | omega) only [nI_add, xa_sub, xa_mul, pk_div, nm_mod, xa_shr, xa_and7, xa_and1, xa_and255, xa_by_and, nI_m1, Nat.add_sub_cancel, Nat.reducePow, Nat.zero_add, Nat.add_zero, Nat.reduceAdd, Nat.reduceMul, Nat.reduceSub, xf_same, xq_ff, xq_fo, xf_1, xf_2, xs_1, xs_2, xs_same, xq_so, xj_1, xj_2, xj_same, xq_jo, xq_sa1, xq_same, xq_other, upd_s, oI_n, oI_s, xv_0, xv_1, xv_2, xv_3, xm_p1, xm_p2, xq_fp, xq_fn, List.filter_nil, Nat.reduceBEq, Bool.not_true, Bool.not_false, Bool.and_true, Bool.and_false, Bool.false_and, Bool.true_and, if_true, if_false, Bool.false_eq_true, reduceIte, xc_i, xc_j, xc_r, xc_n, List.nil_append, List.cons_append, Option.toList_some, Option.toList_none, y3, xf_102_6 F1, xf_102_15 F1, e8, w5, e']
        have := ih (A ++ [n]) (by rw [hAB]; simp) (fun m hm hc => by
          rcases List.mem_append.mp hm with z | z
          · exact hA m z hc
          · rw [List.mem_singleton.mp z] at hc; exact absurd hc e)
        rw [List.length_append] at this
        exact xm_go_wk (by simp [Value.category]) this
  refine xq_in rfl ?_
  simp only [xq_a0, xq_aI, xq_aJ, xq_aR, Nat.reduceAdd]
  with_reducible refine xm_go_blk b_X12_witnessFault_0 k_X12_witnessFault_0 ?_
  refine by_iconst ci_0 ?_
  refine by_istore_n (by rw [ml_320]; decide) ?_
  refine by_nil ?_
  try simp (disch := first | exact Nat.ne_of_beq_eq_false rfl | exact rfl | omega) only [nI_add, xa_sub, xa_mul, pk_div, nm_mod, xa_shr, xa_and7, xa_and1, xa_and255, xa_by_and, nI_m1, Nat.add_sub_cancel, Nat.reducePow, Nat.zero_add, Nat.add_zero, Nat.reduceAdd, Nat.reduceMul, Nat.reduceSub, xf_same, xq_ff, xq_fo, xf_1, xf_2, xs_1, xs_2, xs_same, xq_so, xj_1, xj_2, xj_same, xq_jo, xq_sa1, xq_same, xq_other, upd_s, oI_n, oI_s, xv_0, xv_1, xv_2, xv_3, xm_p1, xm_p2, xq_fp, xq_fn, List.filter_nil, Nat.reduceBEq, Bool.not_true, Bool.not_false, Bool.and_true, Bool.and_false, Bool.false_and, Bool.true_and, if_true, if_false, Bool.false_eq_true, reduceIte, xc_i, xc_j, xc_r, xc_n, List.nil_append, List.cons_append, Option.toList_some, Option.toList_none]
  exact xm_go_wk (by simp [Value.category]) (loop1 L2 [] rfl (fun n hn => nomatch hn))
end SY
