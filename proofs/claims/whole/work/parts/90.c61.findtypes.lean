/-! ===== the reference: findTypes ===== -/
def fyR : List Nat := [111, 112, 115, 129, 130, 131, 132, 133, 134, 135, 136, 138, 139, 140, 141, 142, 143, 144]
def fyT : List (Nat × Nat) := [(102, 50), (102, 40)]
theorem fy_fin : xt_fin.all (fun q => !(fyT.contains (q.1, q.2.1))) = true := by decide +kernel
theorem ndR_fr {S : List Nat} {T : List (Nat × Nat)} {h h' : xm_H} {N : Nat} {cd fi se nu : Nat → Nat} (hn : ndR h N cd fi se nu) (hf : Fr S T h h') (h1 : 105 ∉ S) (h2 : 106 ∉ S) (h3 : 107 ∉ S) (h4 : 108 ∉ S) : ndR h' N cd fi se nu := fun n hn' => by
  rw [hf.1 _ h1, hf.1 _ h2, hf.1 _ h3, hf.1 _ h4]
  exact hn n hn'
section FT
variable {sc : xm_Sc} {d N : Nat} {cd fi se nu : Nat → Nat} {L : List Nat} {h : xm_H} {post : xm_Po}
theorem ft_10 (hN : N ≤ 2000) (hL : ndL cd fi se L) (hLN : ∀ n ∈ L, n < N) (hL3 : ∀ i, i < L.length → h.1 113 i = nI (L.getD i 0)) (hLl : h.2.2 102 14 = .int (nI L.length))
    (hgo : ∀ h' c k l r rt es src tgt, Fr mlR mgT h h' → msI h' N cd fi se nu L c k l r rt es src tgt → xm_go (XE sc) (xm_T (XE sc) (d + 4)) 224 post 40 [(0, .ref 102)] [] h')
    (hB : ∀ h', Fr mlR mgT h h' → (∀ S T, ¬ ty_sol cd fi se nu L S T) → post (some (.int (nI 8))) h') :
    ∀ (B A : List Nat) (h' : xm_H) (c : Nat) (k l r rt : Nat → Nat) (es : List (Nat × Nat)) (src tgt : Nat → Nat), L = A ++ B → Fr mlR mgT h h' → msI h' N cd fi se nu A c k l r rt es src tgt → xm_go (XE sc) (xm_T (XE sc) (d + 4)) 224 post 10 [(0, .ref 102), (1, .int (nI A.length))] [] h' := by
  have hlen : L.length ≤ 2000 := Nat.le_trans (nd_len N L hL.1 hLN) hN
  intro B
  induction B with
  | nil =>
    intro A h' c k l r rt es src tgt hAB hf hI
    rw [List.append_nil] at hAB
    subst hAB
    have e14 : h'.2.2 102 14 = .int (nI L.length) := by rw [hf.2.2 _ _ (by simp [mgT])]; exact hLl
    with_reducible refine xm_go_blk b_X12_findTypes_10 k_X12_findTypes_10 ?_
    refine by_iload_n rfl ?_
    refine by_aload_n rfl ?_
    refine by_getf cn_224 fl_12_226 (by first | exact rfl | assumption) (by decide) ?_
    simp (disch := first | exact Nat.ne_of_beq_eq_false rfl | exact rfl | omega) only [nI_add, xa_sub, xa_mul, pk_div, nm_mod, xa_shr, xa_and7, xa_and1, xa_and255, xa_by_and, nI_m1, Nat.add_sub_cancel, Nat.reducePow, Nat.zero_add, Nat.add_zero, Nat.reduceAdd, Nat.reduceMul, Nat.reduceSub, xf_same, xq_ff, xq_fo, xf_1, xf_2, xs_1, xs_2, xs_same, xq_so, xj_1, xj_2, xj_same, xq_jo, xq_sa1, xq_same, xq_other, upd_s, oI_n, oI_s, e14]
    refine by_ic_ge 40 rfl ?_
    simp (disch := first | exact Nat.ne_of_beq_eq_false rfl | exact rfl | omega) only [nI_add, xa_sub, xa_mul, pk_div, nm_mod, xa_shr, xa_and7, xa_and1, xa_and255, xa_by_and, nI_m1, Nat.add_sub_cancel, Nat.reducePow, Nat.zero_add, Nat.add_zero, Nat.reduceAdd, Nat.reduceMul, Nat.reduceSub, xf_same, xq_ff, xq_fo, xf_1, xf_2, xs_1, xs_2, xs_same, xq_so, xj_1, xj_2, xj_same, xq_jo, xq_sa1, xq_same, xq_other, upd_s, oI_n, oI_s, xv_0, xv_1, xv_2, xv_3, xm_p1, xm_p2, xq_fp, xq_fn, List.filter_nil, Nat.reduceBEq, Bool.not_true, Bool.not_false, Bool.and_true, Bool.and_false, Bool.false_and, Bool.true_and, if_true, if_false, Bool.false_eq_true, reduceIte, xc_i, xc_j, xc_r, xc_n, List.nil_append, List.cons_append, Option.toList_some, Option.toList_none, nI_ltJ, nI_leJ, nI_eqJ, nI_ltz, nI_gez, nI_gtz, nI_lez, nI_eqz, m1_ltz, m1_gez, true_imp_iff, false_imp_iff, true_and, and_true, ne_eq, not_false_eq_true, not_true_eq_false, Nat.reduceEqDiff, Nat.reduceLT, Nat.reduceLeDiff, e14]
    refine ⟨fun c10 => ?_, fun c => absurd (by omega) c⟩
    exact xm_go_wk (by simp [Value.category]) (hgo h' c k l r rt es src tgt hf hI)
  | cons n B ih =>
    intro A h' c k l r rt es src tgt hAB hf hI
    have hmem : n ∈ L := by rw [hAB]; simp
    have hA : A.length < L.length := by rw [hAB]; simp
    have hget : L.getD A.length 0 = n := by rw [hAB]; simp [List.getD]
    have e8 : h'.1 113 A.length = nI n := by rw [hf.1 113 (by simp [mlR]), hL3 _ hA, hget]
    have e14 : h'.2.2 102 14 = .int (nI L.length) := by rw [hf.2.2 _ _ (by simp [mgT])]; exact hLl
    have hnN := hLN n hmem
    obtain ⟨hnA, hnB, hch⟩ := ndL_ch hL hAB
    obtain ⟨k1, k2⟩ := hL.2.1 A n B hAB
    obtain ⟨v1, v2, v3⟩ := hL.2.2 n hmem
    with_reducible refine xm_go_blk b_X12_findTypes_10 k_X12_findTypes_10 ?_
    refine by_iload_n rfl ?_
    refine by_aload_n rfl ?_
    refine by_getf cn_224 fl_12_226 (by first | exact rfl | assumption) (by decide) ?_
    simp (disch := first | exact Nat.ne_of_beq_eq_false rfl | exact rfl | omega) only [nI_add, xa_sub, xa_mul, pk_div, nm_mod, xa_shr, xa_and7, xa_and1, xa_and255, xa_by_and, nI_m1, Nat.add_sub_cancel, Nat.reducePow, Nat.zero_add, Nat.add_zero, Nat.reduceAdd, Nat.reduceMul, Nat.reduceSub, xf_same, xq_ff, xq_fo, xf_1, xf_2, xs_1, xs_2, xs_same, xq_so, xj_1, xj_2, xj_same, xq_jo, xq_sa1, xq_same, xq_other, upd_s, oI_n, oI_s, e14, xf_102_15 hI.1, e8]
    refine by_ic_ge 40 rfl ?_
    simp (disch := first | exact Nat.ne_of_beq_eq_false rfl | exact rfl | omega) only [nI_add, xa_sub, xa_mul, pk_div, nm_mod, xa_shr, xa_and7, xa_and1, xa_and255, xa_by_and, nI_m1, Nat.add_sub_cancel, Nat.reducePow, Nat.zero_add, Nat.add_zero, Nat.reduceAdd, Nat.reduceMul, Nat.reduceSub, xf_same, xq_ff, xq_fo, xf_1, xf_2, xs_1, xs_2, xs_same, xq_so, xj_1, xj_2, xj_same, xq_jo, xq_sa1, xq_same, xq_other, upd_s, oI_n, oI_s, xv_0, xv_1, xv_2, xv_3, xm_p1, xm_p2, xq_fp, xq_fn, List.filter_nil, Nat.reduceBEq, Bool.not_true, Bool.not_false, Bool.and_true, Bool.and_false, Bool.false_and, Bool.true_and, if_true, if_false, Bool.false_eq_true, reduceIte, xc_i, xc_j, xc_r, xc_n, List.nil_append, List.cons_append, Option.toList_some, Option.toList_none, nI_ltJ, nI_leJ, nI_eqJ, nI_ltz, nI_gez, nI_gtz, nI_lez, nI_eqz, m1_ltz, m1_gez, true_imp_iff, false_imp_iff, true_and, and_true, ne_eq, not_false_eq_true, not_true_eq_false, Nat.reduceEqDiff, Nat.reduceLT, Nat.reduceLeDiff, e14, xf_102_15 hI.1, e8]
    refine ⟨fun c => absurd c (by omega), fun c10 => ?_⟩
    with_reducible refine xm_go_blk b_X12_findTypes_18 k_X12_findTypes_18 ?_
    refine by_aload_n rfl ?_
    refine by_aload_n rfl ?_
    refine by_getf cn_224 fl_12_40 (by first | exact rfl | assumption) (by decide) ?_
    refine by_iload_n rfl ?_
    simp (disch := first | exact Nat.ne_of_beq_eq_false rfl | exact rfl | omega) only [nI_add, xa_sub, xa_mul, pk_div, nm_mod, xa_shr, xa_and7, xa_and1, xa_and255, xa_by_and, nI_m1, Nat.add_sub_cancel, Nat.reducePow, Nat.zero_add, Nat.add_zero, Nat.reduceAdd, Nat.reduceMul, Nat.reduceSub, xf_same, xq_ff, xq_fo, xf_1, xf_2, xs_1, xs_2, xs_same, xq_so, xj_1, xj_2, xj_same, xq_jo, xq_sa1, xq_same, xq_other, upd_s, oI_n, oI_s, e14, xf_102_15 hI.1, e8]
    first | refine by_iald (by first | exact rfl | assumption | exact ps_1 hpp | exact ps_2 hpp | exact ps_3 hpp | exact ps_4 hpp | exact ps_5 hpp | exact ps_6 hpp | exact ps_7 hpp | exact ps_8 hpp | exact ps_9 hpp | exact ps_10 hpp | exact ps_11 hpp | exact ps_15 hpp | exact ps_16 hpp | exact ps_17 hpp | exact ps_18 hpp | exact ps_19 hpp | exact ps_21 hpp | exact ps_22 hpp | exact ps_23 hpp | exact ps_24 hpp) ⟨by omega, by omega⟩ ?_ | refine by_tald rfl rfl ⟨by omega, by omega⟩ ?_
    simp (disch := first | exact Nat.ne_of_beq_eq_false rfl | exact rfl | omega) only [nI_add, xa_sub, xa_mul, pk_div, nm_mod, xa_shr, xa_and7, xa_and1, xa_and255, xa_by_and, nI_m1, Nat.add_sub_cancel, Nat.reducePow, Nat.zero_add, Nat.add_zero, Nat.reduceAdd, Nat.reduceMul, Nat.reduceSub, xf_same, xq_ff, xq_fo, xf_1, xf_2, xs_1, xs_2, xs_same, xq_so, xj_1, xj_2, xj_same, xq_jo, xq_sa1, xq_same, xq_other, upd_s, oI_n, oI_s, xv_0, xv_1, xv_2, xv_3, xm_p1, xm_p2, xq_fp, xq_fn, List.filter_nil, Nat.reduceBEq, Bool.not_true, Bool.not_false, Bool.and_true, Bool.and_false, Bool.false_and, Bool.true_and, if_true, if_false, Bool.false_eq_true, reduceIte, xc_i, xc_j, xc_r, xc_n, List.nil_append, List.cons_append, Option.toList_some, Option.toList_none, e14, xf_102_15 hI.1, e8]
    refine by_inv1 cn_224 lk_12_277 (by rw [xe_cnt]; decide) is_316 np_316 cn_316 (by first | exact rfl | assumption) (Nat.le_of_ble_eq_true rfl) ?_
    refine sp_typesOf hI hnN hnA (by omega) hch k1 k2 v1 v2 v3 ⟨fun h2 c2 k2 l2 r2 rt2 es2 src2 tgt2 hf2 hI2 => ?_, fun h2 hf2 hno => ?_⟩
    · have := ih (A ++ [n]) h2 c2 k2 l2 r2 rt2 es2 src2 tgt2 (by rw [hAB]; simp) (Fr_tr hf hf2 (fun _ z => z) (fun _ z => z)) hI2
      rw [List.length_append] at this
      with_reducible refine xm_go_blk b_X12_findTypes_28 k_X12_findTypes_28 ?_
      refine by_if_ne 34 rfl ?_
      simp (disch := first | exact Nat.ne_of_beq_eq_false rfl | exact rfl | omega) only [nI_add, xa_sub, xa_mul, pk_div, nm_mod, xa_shr, xa_and7, xa_and1, xa_and255, xa_by_and, nI_m1, Nat.add_sub_cancel, Nat.reducePow, Nat.zero_add, Nat.add_zero, Nat.reduceAdd, Nat.reduceMul, Nat.reduceSub, xf_same, xq_ff, xq_fo, xf_1, xf_2, xs_1, xs_2, xs_same, xq_so, xj_1, xj_2, xj_same, xq_jo, xq_sa1, xq_same, xq_other, upd_s, oI_n, oI_s, xv_0, xv_1, xv_2, xv_3, xm_p1, xm_p2, xq_fp, xq_fn, List.filter_nil, Nat.reduceBEq, Bool.not_true, Bool.not_false, Bool.and_true, Bool.and_false, Bool.false_and, Bool.true_and, if_true, if_false, Bool.false_eq_true, reduceIte, xc_i, xc_j, xc_r, xc_n, List.nil_append, List.cons_append, Option.toList_some, Option.toList_none, nI_ltJ, nI_leJ, nI_eqJ, nI_ltz, nI_gez, nI_gtz, nI_lez, nI_eqz, m1_ltz, m1_gez, true_imp_iff, false_imp_iff, true_and, and_true, ne_eq, not_false_eq_true, not_true_eq_false, Nat.reduceEqDiff, Nat.reduceLT, Nat.reduceLeDiff]
      with_reducible refine xm_go_blk b_X12_findTypes_34 k_X12_findTypes_34 ?_
      refine by_iinc (by rw [ml_224]; decide) rfl ci_1 ?_
      refine by_goto 10 rfl ?_
      simp (disch := first | exact Nat.ne_of_beq_eq_false rfl | exact rfl | omega) only [nI_add, xa_sub, xa_mul, pk_div, nm_mod, xa_shr, xa_and7, xa_and1, xa_and255, xa_by_and, nI_m1, Nat.add_sub_cancel, Nat.reducePow, Nat.zero_add, Nat.add_zero, Nat.reduceAdd, Nat.reduceMul, Nat.reduceSub, xf_same, xq_ff, xq_fo, xf_1, xf_2, xs_1, xs_2, xs_same, xq_so, xj_1, xj_2, xj_same, xq_jo, xq_sa1, xq_same, xq_other, upd_s, oI_n, oI_s, xv_0, xv_1, xv_2, xv_3, xm_p1, xm_p2, xq_fp, xq_fn, List.filter_nil, Nat.reduceBEq, Bool.not_true, Bool.not_false, Bool.and_true, Bool.and_false, Bool.false_and, Bool.true_and, if_true, if_false, Bool.false_eq_true, reduceIte, xc_i, xc_j, xc_r, xc_n, List.nil_append, List.cons_append, Option.toList_some, Option.toList_none]
      exact xm_go_wk (by simp [Value.category]) this
    · with_reducible refine xm_go_blk b_X12_findTypes_28 k_X12_findTypes_28 ?_
      refine by_if_ne 34 rfl ?_
      simp (disch := first | exact Nat.ne_of_beq_eq_false rfl | exact rfl | omega) only [nI_add, xa_sub, xa_mul, pk_div, nm_mod, xa_shr, xa_and7, xa_and1, xa_and255, xa_by_and, nI_m1, Nat.add_sub_cancel, Nat.reducePow, Nat.zero_add, Nat.add_zero, Nat.reduceAdd, Nat.reduceMul, Nat.reduceSub, xf_same, xq_ff, xq_fo, xf_1, xf_2, xs_1, xs_2, xs_same, xq_so, xj_1, xj_2, xj_same, xq_jo, xq_sa1, xq_same, xq_other, upd_s, oI_n, oI_s, xv_0, xv_1, xv_2, xv_3, xm_p1, xm_p2, xq_fp, xq_fn, List.filter_nil, Nat.reduceBEq, Bool.not_true, Bool.not_false, Bool.and_true, Bool.and_false, Bool.false_and, Bool.true_and, if_true, if_false, Bool.false_eq_true, reduceIte, xc_i, xc_j, xc_r, xc_n, List.nil_append, List.cons_append, Option.toList_some, Option.toList_none, nI_ltJ, nI_leJ, nI_eqJ, nI_ltz, nI_gez, nI_gtz, nI_lez, nI_eqz, m1_ltz, m1_gez, true_imp_iff, false_imp_iff, true_and, and_true, ne_eq, not_false_eq_true, not_true_eq_false, Nat.reduceEqDiff, Nat.reduceLT, Nat.reduceLeDiff]
      with_reducible refine xm_go_blk b_X12_findTypes_31 k_X12_findTypes_31 ?_
      refine by_bipush cb_8 ?_
      refine by_iret ry_224 (by first | rfl | assumption) ?_
      refine hB h2 (Fr_tr hf hf2 (fun _ z => z) (fun _ z => z)) (fun S T hs => hno S T ⟨hs.1, hs.2.1, fun m hm => hs.2.2 m ?_⟩)
      rw [hAB]
      rcases List.mem_append.mp hm with z | z
      · exact List.mem_append_left _ z
      · rw [List.mem_singleton.mp z]; simp
theorem ft_42 {c : Nat} (hF : XF h) (hc : c ≤ 14010) (hcl : h.2.2 102 50 = .int (nI c)) (hgo : ∀ h', Fr [142] [] h h' → (∀ t, t < c → h'.1 142 t = -1) → xm_go (XE sc) (xm_T (XE sc) (d + 4)) 224 post 63 [(0, .ref 102)] [] h') :
    ∀ (j i : Nat) (h' : xm_H), i + j = c → Fr [142] [] h h' → (∀ t, t < i → h'.1 142 t = -1) → xm_go (XE sc) (xm_T (XE sc) (d + 4)) 224 post 42 [(0, .ref 102), (1, .int (nI i))] [] h' := by
  intro j
  induction j with
  | zero =>
    intro i h' hi hf hq
    have : i = c := by omega
    subst this
    have e5 : h'.2.2 102 50 = .int (nI i) := by rw [hf.2.2 _ _ (by simp)]; exact hcl
    with_reducible refine xm_go_blk b_X12_findTypes_42 k_X12_findTypes_42 ?_
    refine by_iload_n rfl ?_
    refine by_aload_n rfl ?_
    refine by_getf cn_224 fl_12_233 (by first | exact rfl | assumption) (by decide) ?_
    simp (disch := first | exact Nat.ne_of_beq_eq_false rfl | exact rfl | omega) only [nI_add, xa_sub, xa_mul, pk_div, nm_mod, xa_shr, xa_and7, xa_and1, xa_and255, xa_by_and, nI_m1, Nat.add_sub_cancel, Nat.reducePow, Nat.zero_add, Nat.add_zero, Nat.reduceAdd, Nat.reduceMul, Nat.reduceSub, xf_same, xq_ff, xq_fo, xf_1, xf_2, xs_1, xs_2, xs_same, xq_so, xj_1, xj_2, xj_same, xq_jo, xq_sa1, xq_same, xq_other, upd_s, oI_n, oI_s, e5]
    refine by_ic_ge 63 rfl ?_
    simp (disch := first | exact Nat.ne_of_beq_eq_false rfl | exact rfl | omega) only [nI_add, xa_sub, xa_mul, pk_div, nm_mod, xa_shr, xa_and7, xa_and1, xa_and255, xa_by_and, nI_m1, Nat.add_sub_cancel, Nat.reducePow, Nat.zero_add, Nat.add_zero, Nat.reduceAdd, Nat.reduceMul, Nat.reduceSub, xf_same, xq_ff, xq_fo, xf_1, xf_2, xs_1, xs_2, xs_same, xq_so, xj_1, xj_2, xj_same, xq_jo, xq_sa1, xq_same, xq_other, upd_s, oI_n, oI_s, xv_0, xv_1, xv_2, xv_3, xm_p1, xm_p2, xq_fp, xq_fn, List.filter_nil, Nat.reduceBEq, Bool.not_true, Bool.not_false, Bool.and_true, Bool.and_false, Bool.false_and, Bool.true_and, if_true, if_false, Bool.false_eq_true, reduceIte, xc_i, xc_j, xc_r, xc_n, List.nil_append, List.cons_append, Option.toList_some, Option.toList_none, nI_ltJ, nI_leJ, nI_eqJ, nI_ltz, nI_gez, nI_gtz, nI_lez, nI_eqz, m1_ltz, m1_gez, true_imp_iff, false_imp_iff, true_and, and_true, ne_eq, not_false_eq_true, not_true_eq_false, Nat.reduceEqDiff, Nat.reduceLT, Nat.reduceLeDiff, e5]
    refine ⟨fun c42 => ?_, fun c => absurd (by omega) c⟩
    exact xm_go_wk (by simp [Value.category]) (hgo h' hf hq)
  | succ j ih =>
    intro i h' hi hf hq
    have hF1 : XF h' := Fr_XF hF hf (by decide +kernel)
    have e5 : h'.2.2 102 50 = .int (nI c) := by rw [hf.2.2 _ _ (by simp)]; exact hcl
    with_reducible refine xm_go_blk b_X12_findTypes_42 k_X12_findTypes_42 ?_
    refine by_iload_n rfl ?_
    refine by_aload_n rfl ?_
    refine by_getf cn_224 fl_12_233 (by first | exact rfl | assumption) (by decide) ?_
    simp (disch := first | exact Nat.ne_of_beq_eq_false rfl | exact rfl | omega) only [nI_add, xa_sub, xa_mul, pk_div, nm_mod, xa_shr, xa_and7, xa_and1, xa_and255, xa_by_and, nI_m1, Nat.add_sub_cancel, Nat.reducePow, Nat.zero_add, Nat.add_zero, Nat.reduceAdd, Nat.reduceMul, Nat.reduceSub, xf_same, xq_ff, xq_fo, xf_1, xf_2, xs_1, xs_2, xs_same, xq_so, xj_1, xj_2, xj_same, xq_jo, xq_sa1, xq_same, xq_other, upd_s, oI_n, oI_s, e5, xf_102_55 hF1]
    refine by_ic_ge 63 rfl ?_
    simp (disch := first | exact Nat.ne_of_beq_eq_false rfl | exact rfl | omega) only [nI_add, xa_sub, xa_mul, pk_div, nm_mod, xa_shr, xa_and7, xa_and1, xa_and255, xa_by_and, nI_m1, Nat.add_sub_cancel, Nat.reducePow, Nat.zero_add, Nat.add_zero, Nat.reduceAdd, Nat.reduceMul, Nat.reduceSub, xf_same, xq_ff, xq_fo, xf_1, xf_2, xs_1, xs_2, xs_same, xq_so, xj_1, xj_2, xj_same, xq_jo, xq_sa1, xq_same, xq_other, upd_s, oI_n, oI_s, xv_0, xv_1, xv_2, xv_3, xm_p1, xm_p2, xq_fp, xq_fn, List.filter_nil, Nat.reduceBEq, Bool.not_true, Bool.not_false, Bool.and_true, Bool.and_false, Bool.false_and, Bool.true_and, if_true, if_false, Bool.false_eq_true, reduceIte, xc_i, xc_j, xc_r, xc_n, List.nil_append, List.cons_append, Option.toList_some, Option.toList_none, nI_ltJ, nI_leJ, nI_eqJ, nI_ltz, nI_gez, nI_gtz, nI_lez, nI_eqz, m1_ltz, m1_gez, true_imp_iff, false_imp_iff, true_and, and_true, ne_eq, not_false_eq_true, not_true_eq_false, Nat.reduceEqDiff, Nat.reduceLT, Nat.reduceLeDiff, e5, xf_102_55 hF1]
    refine ⟨fun c => absurd c (by omega), fun c42 => ?_⟩
    with_reducible refine xm_go_blk b_X12_findTypes_50 k_X12_findTypes_50 ?_
    refine by_aload_n rfl ?_
    refine by_getf cn_224 fl_12_130 (by first | exact rfl | assumption) (by decide) ?_
    refine by_iload_n rfl ?_
    refine by_iconst ci_m1 ?_
    simp (disch := first | exact Nat.ne_of_beq_eq_false rfl | exact rfl | omega) only [nI_add, xa_sub, xa_mul, pk_div, nm_mod, xa_shr, xa_and7, xa_and1, xa_and255, xa_by_and, nI_m1, Nat.add_sub_cancel, Nat.reducePow, Nat.zero_add, Nat.add_zero, Nat.reduceAdd, Nat.reduceMul, Nat.reduceSub, xf_same, xq_ff, xq_fo, xf_1, xf_2, xs_1, xs_2, xs_same, xq_so, xj_1, xj_2, xj_same, xq_jo, xq_sa1, xq_same, xq_other, upd_s, oI_n, oI_s, e5, xf_102_55 hF1]
    refine by_iast (by first | exact rfl | assumption | exact ps_1 hpp | exact ps_2 hpp | exact ps_3 hpp | exact ps_4 hpp | exact ps_5 hpp | exact ps_6 hpp | exact ps_7 hpp | exact ps_8 hpp | exact ps_9 hpp | exact ps_10 hpp | exact ps_11 hpp | exact ps_15 hpp | exact ps_16 hpp | exact ps_17 hpp | exact ps_18 hpp | exact ps_19 hpp | exact ps_21 hpp | exact ps_22 hpp | exact ps_23 hpp | exact ps_24 hpp) ⟨by omega, by omega⟩ ?_
    refine by_iinc (by rw [ml_224]; decide) rfl ci_1 ?_
    refine by_goto 42 rfl ?_
    simp (disch := first | exact Nat.ne_of_beq_eq_false rfl | exact rfl | omega) only [nI_add, xa_sub, xa_mul, pk_div, nm_mod, xa_shr, xa_and7, xa_and1, xa_and255, xa_by_and, nI_m1, Nat.add_sub_cancel, Nat.reducePow, Nat.zero_add, Nat.add_zero, Nat.reduceAdd, Nat.reduceMul, Nat.reduceSub, xf_same, xq_ff, xq_fo, xf_1, xf_2, xs_1, xs_2, xs_same, xq_so, xj_1, xj_2, xj_same, xq_jo, xq_sa1, xq_same, xq_other, upd_s, oI_n, oI_s, xv_0, xv_1, xv_2, xv_3, xm_p1, xm_p2, xq_fp, xq_fn, List.filter_nil, Nat.reduceBEq, Bool.not_true, Bool.not_false, Bool.and_true, Bool.and_false, Bool.false_and, Bool.true_and, if_true, if_false, Bool.false_eq_true, reduceIte, xc_i, xc_j, xc_r, xc_n, List.nil_append, List.cons_append, Option.toList_some, Option.toList_none, e5, xf_102_55 hF1]
    refine xm_go_wk (by simp [Value.category]) (ih (i + 1) _ (by omega) (Fr_si hf (by simp)) (fun t ht => ?_))
    by_cases e : t = i
    · subst e
      rw [xs_same, upd_s]
    · rw [xs_same, upd_o e]; exact hq t (by omega)
theorem ft_67 {c : Nat} {k l r rt src tgt : Nat → Nat} (hc : c ≤ 14010) (hN : N ≤ 2000) (hnd : L.Nodup) (hLN : ∀ n ∈ L, n < N) (hcode : ∀ n, n < N → h.1 105 n = nI (cd n) ∧ cd n ≤ 12) (hL3 : ∀ i, i < L.length → h.1 113 i = nI (L.getD i 0)) (hLl : h.2.2 102 14 = .int (nI L.length)) (hsrc : ∀ n ∈ L, cd n ≠ 11 → src n < c ∧ tgt n < c)
    (hT : ∀ h' fd' cn' tr' K' L' R' w, Fr ftR stT h h' → kpT h h' → ftJ h' c cd k l r rt src tgt L [] fd' cn' tr' K' L' R' → (w = 0 ∨ w = 9) → (w = 9 ↔ ∃ n ∈ L, cd n ≠ 11 ∧ ftW rt fd' src tgt n) → post (some (.int (nI w))) h')
    (hB : ∀ h', Fr ftR stT h h' → kpT h h' → (∀ V, ty_all c k l r V → ty_lnk c rt V → False) → post (some (.int (nI 8))) h') :
    ∀ (B A : List Nat) (h' : xm_H) (fd : Nat → Option Ty) (cn : Nat) (tr : Nat → Ty) (K Lf R : Nat → Nat) (g : Nat), L = A ++ B → Fr ftR stT h h' → kpT h h' → ftJ h' c cd k l r rt src tgt A B fd cn tr K Lf R → g ≤ 1 → (g = 1 ↔ ∃ n ∈ A, cd n ≠ 11 ∧ ftW rt fd src tgt n) → xm_go (XE sc) (xm_T (XE sc) (d + 3)) 224 post 67 [(0, .ref 102), (1, .int (nI g)), (2, .int (nI A.length))] [] h' := by
  have hlen : L.length ≤ 2000 := Nat.le_trans (nd_len N L hnd hLN) hN
  intro B
  induction B with
  | nil =>
    intro A h' fd cn tr K Lf R g hAB hf hk hJ hg1 hg
    rw [List.append_nil] at hAB
    subst hAB
    have e14 : h'.2.2 102 14 = .int (nI L.length) := by rw [hf.2.2 _ _ (by simp [stT])]; exact hLl
    rcases (by omega : g = 0 ∨ g = 1) with rfl | rfl
    · with_reducible refine xm_go_blk b_X12_findTypes_67 k_X12_findTypes_67 ?_
      refine by_iload_n rfl ?_
      refine by_aload_n rfl ?_
      refine by_getf cn_224 fl_12_226 (by first | exact rfl | assumption) (by decide) ?_
      simp (disch := first | exact Nat.ne_of_beq_eq_false rfl | exact rfl | omega) only [nI_add, xa_sub, xa_mul, pk_div, nm_mod, xa_shr, xa_and7, xa_and1, xa_and255, xa_by_and, nI_m1, Nat.add_sub_cancel, Nat.reducePow, Nat.zero_add, Nat.add_zero, Nat.reduceAdd, Nat.reduceMul, Nat.reduceSub, xf_same, xq_ff, xq_fo, xf_1, xf_2, xs_1, xs_2, xs_same, xq_so, xj_1, xj_2, xj_same, xq_jo, xq_sa1, xq_same, xq_other, upd_s, oI_n, oI_s, e14]
      refine by_ic_ge 195 rfl ?_
      simp (disch := first | exact Nat.ne_of_beq_eq_false rfl | exact rfl | omega) only [nI_add, xa_sub, xa_mul, pk_div, nm_mod, xa_shr, xa_and7, xa_and1, xa_and255, xa_by_and, nI_m1, Nat.add_sub_cancel, Nat.reducePow, Nat.zero_add, Nat.add_zero, Nat.reduceAdd, Nat.reduceMul, Nat.reduceSub, xf_same, xq_ff, xq_fo, xf_1, xf_2, xs_1, xs_2, xs_same, xq_so, xj_1, xj_2, xj_same, xq_jo, xq_sa1, xq_same, xq_other, upd_s, oI_n, oI_s, xv_0, xv_1, xv_2, xv_3, xm_p1, xm_p2, xq_fp, xq_fn, List.filter_nil, Nat.reduceBEq, Bool.not_true, Bool.not_false, Bool.and_true, Bool.and_false, Bool.false_and, Bool.true_and, if_true, if_false, Bool.false_eq_true, reduceIte, xc_i, xc_j, xc_r, xc_n, List.nil_append, List.cons_append, Option.toList_some, Option.toList_none, nI_ltJ, nI_leJ, nI_eqJ, nI_ltz, nI_gez, nI_gtz, nI_lez, nI_eqz, m1_ltz, m1_gez, true_imp_iff, false_imp_iff, true_and, and_true, ne_eq, not_false_eq_true, not_true_eq_false, Nat.reduceEqDiff, Nat.reduceLT, Nat.reduceLeDiff, e14]
      refine ⟨fun c67 => ?_, fun c => absurd (by omega) c⟩
      with_reducible refine xm_go_blk b_X12_findTypes_195 k_X12_findTypes_195 ?_
      refine by_iload_n rfl ?_
      refine by_if_eq 204 rfl ?_
      simp (disch := first | exact Nat.ne_of_beq_eq_false rfl | exact rfl | omega) only [nI_add, xa_sub, xa_mul, pk_div, nm_mod, xa_shr, xa_and7, xa_and1, xa_and255, xa_by_and, nI_m1, Nat.add_sub_cancel, Nat.reducePow, Nat.zero_add, Nat.add_zero, Nat.reduceAdd, Nat.reduceMul, Nat.reduceSub, xf_same, xq_ff, xq_fo, xf_1, xf_2, xs_1, xs_2, xs_same, xq_so, xj_1, xj_2, xj_same, xq_jo, xq_sa1, xq_same, xq_other, upd_s, oI_n, oI_s, xv_0, xv_1, xv_2, xv_3, xm_p1, xm_p2, xq_fp, xq_fn, List.filter_nil, Nat.reduceBEq, Bool.not_true, Bool.not_false, Bool.and_true, Bool.and_false, Bool.false_and, Bool.true_and, if_true, if_false, Bool.false_eq_true, reduceIte, xc_i, xc_j, xc_r, xc_n, List.nil_append, List.cons_append, Option.toList_some, Option.toList_none, nI_ltJ, nI_leJ, nI_eqJ, nI_ltz, nI_gez, nI_gtz, nI_lez, nI_eqz, m1_ltz, m1_gez, true_imp_iff, false_imp_iff, true_and, and_true, ne_eq, not_false_eq_true, not_true_eq_false, Nat.reduceEqDiff, Nat.reduceLT, Nat.reduceLeDiff, e14]
      with_reducible refine xm_go_blk b_X12_findTypes_204 k_X12_findTypes_204 ?_
      refine by_iconst ci_0 ?_
      refine by_nil ?_
      with_reducible refine xm_go_blk b_X12_findTypes_205 k_X12_findTypes_205 ?_
      refine by_iret ry_224 (by first | rfl | assumption) ?_
      exact hT h' fd cn tr K Lf R 0 hf hk hJ (Or.inl rfl) ⟨fun z => absurd z (by decide), fun z => absurd (hg.mpr z) (by decide)⟩
    · with_reducible refine xm_go_blk b_X12_findTypes_67 k_X12_findTypes_67 ?_
      refine by_iload_n rfl ?_
      refine by_aload_n rfl ?_
      refine by_getf cn_224 fl_12_226 (by first | exact rfl | assumption) (by decide) ?_
      simp (disch := first | exact Nat.ne_of_beq_eq_false rfl | exact rfl | omega) only [nI_add, xa_sub, xa_mul, pk_div, nm_mod, xa_shr, xa_and7, xa_and1, xa_and255, xa_by_and, nI_m1, Nat.add_sub_cancel, Nat.reducePow, Nat.zero_add, Nat.add_zero, Nat.reduceAdd, Nat.reduceMul, Nat.reduceSub, xf_same, xq_ff, xq_fo, xf_1, xf_2, xs_1, xs_2, xs_same, xq_so, xj_1, xj_2, xj_same, xq_jo, xq_sa1, xq_same, xq_other, upd_s, oI_n, oI_s, e14]
      refine by_ic_ge 195 rfl ?_
      simp (disch := first | exact Nat.ne_of_beq_eq_false rfl | exact rfl | omega) only [nI_add, xa_sub, xa_mul, pk_div, nm_mod, xa_shr, xa_and7, xa_and1, xa_and255, xa_by_and, nI_m1, Nat.add_sub_cancel, Nat.reducePow, Nat.zero_add, Nat.add_zero, Nat.reduceAdd, Nat.reduceMul, Nat.reduceSub, xf_same, xq_ff, xq_fo, xf_1, xf_2, xs_1, xs_2, xs_same, xq_so, xj_1, xj_2, xj_same, xq_jo, xq_sa1, xq_same, xq_other, upd_s, oI_n, oI_s, xv_0, xv_1, xv_2, xv_3, xm_p1, xm_p2, xq_fp, xq_fn, List.filter_nil, Nat.reduceBEq, Bool.not_true, Bool.not_false, Bool.and_true, Bool.and_false, Bool.false_and, Bool.true_and, if_true, if_false, Bool.false_eq_true, reduceIte, xc_i, xc_j, xc_r, xc_n, List.nil_append, List.cons_append, Option.toList_some, Option.toList_none, nI_ltJ, nI_leJ, nI_eqJ, nI_ltz, nI_gez, nI_gtz, nI_lez, nI_eqz, m1_ltz, m1_gez, true_imp_iff, false_imp_iff, true_and, and_true, ne_eq, not_false_eq_true, not_true_eq_false, Nat.reduceEqDiff, Nat.reduceLT, Nat.reduceLeDiff, e14]
      refine ⟨fun c67 => ?_, fun c => absurd (by omega) c⟩
      with_reducible refine xm_go_blk b_X12_findTypes_195 k_X12_findTypes_195 ?_
      refine by_iload_n rfl ?_
      refine by_if_eq 204 rfl ?_
      simp (disch := first | exact Nat.ne_of_beq_eq_false rfl | exact rfl | omega) only [nI_add, xa_sub, xa_mul, pk_div, nm_mod, xa_shr, xa_and7, xa_and1, xa_and255, xa_by_and, nI_m1, Nat.add_sub_cancel, Nat.reducePow, Nat.zero_add, Nat.add_zero, Nat.reduceAdd, Nat.reduceMul, Nat.reduceSub, xf_same, xq_ff, xq_fo, xf_1, xf_2, xs_1, xs_2, xs_same, xq_so, xj_1, xj_2, xj_same, xq_jo, xq_sa1, xq_same, xq_other, upd_s, oI_n, oI_s, xv_0, xv_1, xv_2, xv_3, xm_p1, xm_p2, xq_fp, xq_fn, List.filter_nil, Nat.reduceBEq, Bool.not_true, Bool.not_false, Bool.and_true, Bool.and_false, Bool.false_and, Bool.true_and, if_true, if_false, Bool.false_eq_true, reduceIte, xc_i, xc_j, xc_r, xc_n, List.nil_append, List.cons_append, Option.toList_some, Option.toList_none, nI_ltJ, nI_leJ, nI_eqJ, nI_ltz, nI_gez, nI_gtz, nI_lez, nI_eqz, m1_ltz, m1_gez, true_imp_iff, false_imp_iff, true_and, and_true, ne_eq, not_false_eq_true, not_true_eq_false, Nat.reduceEqDiff, Nat.reduceLT, Nat.reduceLeDiff, e14]
      with_reducible refine xm_go_blk b_X12_findTypes_199 k_X12_findTypes_199 ?_
      refine by_bipush cb_9 ?_
      refine by_goto 205 rfl ?_
      with_reducible refine xm_go_blk b_X12_findTypes_205 k_X12_findTypes_205 ?_
      refine by_iret ry_224 (by first | rfl | assumption) ?_
      exact hT h' fd cn tr K Lf R 9 hf hk hJ (Or.inr rfl) ⟨fun _ => hg.mp rfl, fun _ => rfl⟩
  | cons n B ih =>
    intro A h' fd cn tr K Lf R g hAB hf hk hJ hg1 hg
    have hmem : n ∈ L := by rw [hAB]; simp
    have hA : A.length < L.length := by rw [hAB]; simp
    have hget : L.getD A.length 0 = n := by rw [hAB]; simp [List.getD]
    have e8 : h'.1 113 A.length = nI n := by rw [hf.1 113 (by simp [ftR]), hL3 _ hA, hget]
    have e14 : h'.2.2 102 14 = .int (nI L.length) := by rw [hf.2.2 _ _ (by simp [stT])]; exact hLl
    have hnN := hLN n hmem
    have e1 : h'.1 105 n = nI (cd n) := by rw [hf.1 105 (by simp [ftR])]; exact (hcode n hnN).1
    have hc12 := (hcode n hnN).2
    have hF := hJ.1
    rw [hAB] at hnd
    have hnd' := List.nodup_append.mp hnd
    have hnB : n ∉ B := (List.nodup_cons.mp hnd'.2.1).1
    have hnA : n ∉ A := fun z => hnd'.2.2 n z n (List.mem_cons_self ..) rfl
    have nxt : ∀ h2 fd2 cn2 tr2 K2 L2 R2 g2, Fr ftR stT h h2 → kpT h h2 → ftJ h2 c cd k l r rt src tgt (A ++ [n]) B fd2 cn2 tr2 K2 L2 R2 → g2 ≤ 1 → (g2 = 1 ↔ ∃ m ∈ A ++ [n], cd m ≠ 11 ∧ ftW rt fd2 src tgt m) → xm_go (XE sc) (xm_T (XE sc) (d + 3)) 224 post 189 [(0, .ref 102), (1, .int (nI g2)), (2, .int (nI A.length))] [] h2 := by
      intro h2 fd2 cn2 tr2 K2 L2 R2 g2 hf2 hk2 hJ2 hg2 hg2'
      have := ih (A ++ [n]) h2 fd2 cn2 tr2 K2 L2 R2 g2 (by rw [hAB]; simp) hf2 hk2 hJ2 hg2 hg2'
      rw [List.length_append] at this
      with_reducible refine xm_go_blk b_X12_findTypes_189 k_X12_findTypes_189 ?_
      refine by_iinc (by rw [ml_224]; decide) rfl ci_1 ?_
      refine by_goto 67 rfl ?_
      simp (disch := first | exact Nat.ne_of_beq_eq_false rfl | exact rfl | omega) only [nI_add, xa_sub, xa_mul, pk_div, nm_mod, xa_shr, xa_and7, xa_and1, xa_and255, xa_by_and, nI_m1, Nat.add_sub_cancel, Nat.reducePow, Nat.zero_add, Nat.add_zero, Nat.reduceAdd, Nat.reduceMul, Nat.reduceSub, xf_same, xq_ff, xq_fo, xf_1, xf_2, xs_1, xs_2, xs_same, xq_so, xj_1, xj_2, xj_same, xq_jo, xq_sa1, xq_same, xq_other, upd_s, oI_n, oI_s, xv_0, xv_1, xv_2, xv_3, xm_p1, xm_p2, xq_fp, xq_fn, List.filter_nil, Nat.reduceBEq, Bool.not_true, Bool.not_false, Bool.and_true, Bool.and_false, Bool.false_and, Bool.true_and, if_true, if_false, Bool.false_eq_true, reduceIte, xc_i, xc_j, xc_r, xc_n, List.nil_append, List.cons_append, Option.toList_some, Option.toList_none]
      exact xm_go_wk (by simp [Value.category]) this
    by_cases hv : cd n = 11
    · rw [hv] at e1
      with_reducible refine xm_go_blk b_X12_findTypes_67 k_X12_findTypes_67 ?_
      refine by_iload_n rfl ?_
      refine by_aload_n rfl ?_
      refine by_getf cn_224 fl_12_226 (by first | exact rfl | assumption) (by decide) ?_
      simp (disch := first | exact Nat.ne_of_beq_eq_false rfl | exact rfl | omega) only [nI_add, xa_sub, xa_mul, pk_div, nm_mod, xa_shr, xa_and7, xa_and1, xa_and255, xa_by_and, nI_m1, Nat.add_sub_cancel, Nat.reducePow, Nat.zero_add, Nat.add_zero, Nat.reduceAdd, Nat.reduceMul, Nat.reduceSub, xf_same, xq_ff, xq_fo, xf_1, xf_2, xs_1, xs_2, xs_same, xq_so, xj_1, xj_2, xj_same, xq_jo, xq_sa1, xq_same, xq_other, upd_s, oI_n, oI_s, e14, xf_102_15 hF, xf_102_6 hF, e8, e1]
      refine by_ic_ge 195 rfl ?_
      simp (disch := first | exact Nat.ne_of_beq_eq_false rfl | exact rfl | omega) only [nI_add, xa_sub, xa_mul, pk_div, nm_mod, xa_shr, xa_and7, xa_and1, xa_and255, xa_by_and, nI_m1, Nat.add_sub_cancel, Nat.reducePow, Nat.zero_add, Nat.add_zero, Nat.reduceAdd, Nat.reduceMul, Nat.reduceSub, xf_same, xq_ff, xq_fo, xf_1, xf_2, xs_1, xs_2, xs_same, xq_so, xj_1, xj_2, xj_same, xq_jo, xq_sa1, xq_same, xq_other, upd_s, oI_n, oI_s, xv_0, xv_1, xv_2, xv_3, xm_p1, xm_p2, xq_fp, xq_fn, List.filter_nil, Nat.reduceBEq, Bool.not_true, Bool.not_false, Bool.and_true, Bool.and_false, Bool.false_and, Bool.true_and, if_true, if_false, Bool.false_eq_true, reduceIte, xc_i, xc_j, xc_r, xc_n, List.nil_append, List.cons_append, Option.toList_some, Option.toList_none, nI_ltJ, nI_leJ, nI_eqJ, nI_ltz, nI_gez, nI_gtz, nI_lez, nI_eqz, m1_ltz, m1_gez, true_imp_iff, false_imp_iff, true_and, and_true, ne_eq, not_false_eq_true, not_true_eq_false, Nat.reduceEqDiff, Nat.reduceLT, Nat.reduceLeDiff, e14, xf_102_15 hF, xf_102_6 hF, e8, e1]
      refine ⟨fun c => absurd c (by omega), fun c67 => ?_⟩
      with_reducible refine xm_go_blk b_X12_findTypes_75 k_X12_findTypes_75 ?_
      refine by_aload_n rfl ?_
      refine by_getf cn_224 fl_12_40 (by first | exact rfl | assumption) (by decide) ?_
      refine by_iload_n rfl ?_
      simp (disch := first | exact Nat.ne_of_beq_eq_false rfl | exact rfl | omega) only [nI_add, xa_sub, xa_mul, pk_div, nm_mod, xa_shr, xa_and7, xa_and1, xa_and255, xa_by_and, nI_m1, Nat.add_sub_cancel, Nat.reducePow, Nat.zero_add, Nat.add_zero, Nat.reduceAdd, Nat.reduceMul, Nat.reduceSub, xf_same, xq_ff, xq_fo, xf_1, xf_2, xs_1, xs_2, xs_same, xq_so, xj_1, xj_2, xj_same, xq_jo, xq_sa1, xq_same, xq_other, upd_s, oI_n, oI_s, e14, xf_102_15 hF, xf_102_6 hF, e8, e1]
      first | refine by_iald (by first | exact rfl | assumption | exact ps_1 hpp | exact ps_2 hpp | exact ps_3 hpp | exact ps_4 hpp | exact ps_5 hpp | exact ps_6 hpp | exact ps_7 hpp | exact ps_8 hpp | exact ps_9 hpp | exact ps_10 hpp | exact ps_11 hpp | exact ps_15 hpp | exact ps_16 hpp | exact ps_17 hpp | exact ps_18 hpp | exact ps_19 hpp | exact ps_21 hpp | exact ps_22 hpp | exact ps_23 hpp | exact ps_24 hpp) ⟨by omega, by omega⟩ ?_ | refine by_tald rfl rfl ⟨by omega, by omega⟩ ?_
      refine by_istore_n (by rw [ml_224]; decide) ?_
      refine by_aload_n rfl ?_
      refine by_getf cn_224 fl_12_16 (by first | exact rfl | assumption) (by decide) ?_
      refine by_iload_n rfl ?_
      simp (disch := first | exact Nat.ne_of_beq_eq_false rfl | exact rfl | omega) only [nI_add, xa_sub, xa_mul, pk_div, nm_mod, xa_shr, xa_and7, xa_and1, xa_and255, xa_by_and, nI_m1, Nat.add_sub_cancel, Nat.reducePow, Nat.zero_add, Nat.add_zero, Nat.reduceAdd, Nat.reduceMul, Nat.reduceSub, xf_same, xq_ff, xq_fo, xf_1, xf_2, xs_1, xs_2, xs_same, xq_so, xj_1, xj_2, xj_same, xq_jo, xq_sa1, xq_same, xq_other, upd_s, oI_n, oI_s, e14, xf_102_15 hF, xf_102_6 hF, e8, e1]
      first | refine by_iald (by first | exact rfl | assumption | exact ps_1 hpp | exact ps_2 hpp | exact ps_3 hpp | exact ps_4 hpp | exact ps_5 hpp | exact ps_6 hpp | exact ps_7 hpp | exact ps_8 hpp | exact ps_9 hpp | exact ps_10 hpp | exact ps_11 hpp | exact ps_15 hpp | exact ps_16 hpp | exact ps_17 hpp | exact ps_18 hpp | exact ps_19 hpp | exact ps_21 hpp | exact ps_22 hpp | exact ps_23 hpp | exact ps_24 hpp) ⟨by omega, by omega⟩ ?_ | refine by_tald rfl rfl ⟨by omega, by omega⟩ ?_
      refine by_bipush cb_11 ?_
      refine by_ic_ne 96 rfl ?_
      simp (disch := first | exact Nat.ne_of_beq_eq_false rfl | exact rfl | omega) only [nI_add, xa_sub, xa_mul, pk_div, nm_mod, xa_shr, xa_and7, xa_and1, xa_and255, xa_by_and, nI_m1, Nat.add_sub_cancel, Nat.reducePow, Nat.zero_add, Nat.add_zero, Nat.reduceAdd, Nat.reduceMul, Nat.reduceSub, xf_same, xq_ff, xq_fo, xf_1, xf_2, xs_1, xs_2, xs_same, xq_so, xj_1, xj_2, xj_same, xq_jo, xq_sa1, xq_same, xq_other, upd_s, oI_n, oI_s, xv_0, xv_1, xv_2, xv_3, xm_p1, xm_p2, xq_fp, xq_fn, List.filter_nil, Nat.reduceBEq, Bool.not_true, Bool.not_false, Bool.and_true, Bool.and_false, Bool.false_and, Bool.true_and, if_true, if_false, Bool.false_eq_true, reduceIte, xc_i, xc_j, xc_r, xc_n, List.nil_append, List.cons_append, Option.toList_some, Option.toList_none, nI_ltJ, nI_leJ, nI_eqJ, nI_ltz, nI_gez, nI_gtz, nI_lez, nI_eqz, m1_ltz, m1_gez, true_imp_iff, false_imp_iff, true_and, and_true, ne_eq, not_false_eq_true, not_true_eq_false, Nat.reduceEqDiff, Nat.reduceLT, Nat.reduceLeDiff, e14, xf_102_15 hF, xf_102_6 hF, e8, e1]
      with_reducible refine xm_go_blk b_X12_findTypes_93 k_X12_findTypes_93 ?_
      refine by_goto 189 rfl ?_
      refine xm_go_wk (by simp [Value.category]) (nxt h' fd cn tr K Lf R g hf hk ⟨hJ.1, hJ.2.1, fun q hq hqv => ?_, fun q hq => hJ.2.2.2 q (List.mem_cons_of_mem _ hq)⟩ hg1 ?_)
      · rcases List.mem_append.mp hq with hq | hq
        · exact hJ.2.2.1 q hq hqv
        · rw [List.mem_singleton.mp hq] at hqv
          exact absurd hv hqv
      · rw [hg]
        constructor
        · rintro ⟨m, m1, m2⟩
          exact ⟨m, List.mem_append_left _ m1, m2⟩
        · rintro ⟨m, m1, m2, m3⟩
          rcases List.mem_append.mp m1 with q | q
          · exact ⟨m, q, m2, m3⟩
          · rw [List.mem_singleton.mp q] at m2
            exact absurd hv m2
    · have e0 : (cd n = 11) = False := eq_false hv
      with_reducible refine xm_go_blk b_X12_findTypes_67 k_X12_findTypes_67 ?_
      refine by_iload_n rfl ?_
      refine by_aload_n rfl ?_
      refine by_getf cn_224 fl_12_226 (by first | exact rfl | assumption) (by decide) ?_
      simp (disch := first | exact Nat.ne_of_beq_eq_false rfl | exact rfl | omega) only [nI_add, xa_sub, xa_mul, pk_div, nm_mod, xa_shr, xa_and7, xa_and1, xa_and255, xa_by_and, nI_m1, Nat.add_sub_cancel, Nat.reducePow, Nat.zero_add, Nat.add_zero, Nat.reduceAdd, Nat.reduceMul, Nat.reduceSub, xf_same, xq_ff, xq_fo, xf_1, xf_2, xs_1, xs_2, xs_same, xq_so, xj_1, xj_2, xj_same, xq_jo, xq_sa1, xq_same, xq_other, upd_s, oI_n, oI_s, e14, xf_102_15 hF, xf_102_6 hF, e8, e1, e0]
      refine by_ic_ge 195 rfl ?_
      simp (disch := first | exact Nat.ne_of_beq_eq_false rfl | exact rfl | omega) only [nI_add, xa_sub, xa_mul, pk_div, nm_mod, xa_shr, xa_and7, xa_and1, xa_and255, xa_by_and, nI_m1, Nat.add_sub_cancel, Nat.reducePow, Nat.zero_add, Nat.add_zero, Nat.reduceAdd, Nat.reduceMul, Nat.reduceSub, xf_same, xq_ff, xq_fo, xf_1, xf_2, xs_1, xs_2, xs_same, xq_so, xj_1, xj_2, xj_same, xq_jo, xq_sa1, xq_same, xq_other, upd_s, oI_n, oI_s, xv_0, xv_1, xv_2, xv_3, xm_p1, xm_p2, xq_fp, xq_fn, List.filter_nil, Nat.reduceBEq, Bool.not_true, Bool.not_false, Bool.and_true, Bool.and_false, Bool.false_and, Bool.true_and, if_true, if_false, Bool.false_eq_true, reduceIte, xc_i, xc_j, xc_r, xc_n, List.nil_append, List.cons_append, Option.toList_some, Option.toList_none, nI_ltJ, nI_leJ, nI_eqJ, nI_ltz, nI_gez, nI_gtz, nI_lez, nI_eqz, m1_ltz, m1_gez, true_imp_iff, false_imp_iff, true_and, and_true, ne_eq, not_false_eq_true, not_true_eq_false, Nat.reduceEqDiff, Nat.reduceLT, Nat.reduceLeDiff, e14, xf_102_15 hF, xf_102_6 hF, e8, e1, e0]
      refine ⟨fun c => absurd c (by omega), fun c67 => ?_⟩
      with_reducible refine xm_go_blk b_X12_findTypes_75 k_X12_findTypes_75 ?_
      refine by_aload_n rfl ?_
      refine by_getf cn_224 fl_12_40 (by first | exact rfl | assumption) (by decide) ?_
      refine by_iload_n rfl ?_
      simp (disch := first | exact Nat.ne_of_beq_eq_false rfl | exact rfl | omega) only [nI_add, xa_sub, xa_mul, pk_div, nm_mod, xa_shr, xa_and7, xa_and1, xa_and255, xa_by_and, nI_m1, Nat.add_sub_cancel, Nat.reducePow, Nat.zero_add, Nat.add_zero, Nat.reduceAdd, Nat.reduceMul, Nat.reduceSub, xf_same, xq_ff, xq_fo, xf_1, xf_2, xs_1, xs_2, xs_same, xq_so, xj_1, xj_2, xj_same, xq_jo, xq_sa1, xq_same, xq_other, upd_s, oI_n, oI_s, e14, xf_102_15 hF, xf_102_6 hF, e8, e1, e0]
      first | refine by_iald (by first | exact rfl | assumption | exact ps_1 hpp | exact ps_2 hpp | exact ps_3 hpp | exact ps_4 hpp | exact ps_5 hpp | exact ps_6 hpp | exact ps_7 hpp | exact ps_8 hpp | exact ps_9 hpp | exact ps_10 hpp | exact ps_11 hpp | exact ps_15 hpp | exact ps_16 hpp | exact ps_17 hpp | exact ps_18 hpp | exact ps_19 hpp | exact ps_21 hpp | exact ps_22 hpp | exact ps_23 hpp | exact ps_24 hpp) ⟨by omega, by omega⟩ ?_ | refine by_tald rfl rfl ⟨by omega, by omega⟩ ?_
      refine by_istore_n (by rw [ml_224]; decide) ?_
      refine by_aload_n rfl ?_
      refine by_getf cn_224 fl_12_16 (by first | exact rfl | assumption) (by decide) ?_
      refine by_iload_n rfl ?_
      simp (disch := first | exact Nat.ne_of_beq_eq_false rfl | exact rfl | omega) only [nI_add, xa_sub, xa_mul, pk_div, nm_mod, xa_shr, xa_and7, xa_and1, xa_and255, xa_by_and, nI_m1, Nat.add_sub_cancel, Nat.reducePow, Nat.zero_add, Nat.add_zero, Nat.reduceAdd, Nat.reduceMul, Nat.reduceSub, xf_same, xq_ff, xq_fo, xf_1, xf_2, xs_1, xs_2, xs_same, xq_so, xj_1, xj_2, xj_same, xq_jo, xq_sa1, xq_same, xq_other, upd_s, oI_n, oI_s, e14, xf_102_15 hF, xf_102_6 hF, e8, e1, e0]
      first | refine by_iald (by first | exact rfl | assumption | exact ps_1 hpp | exact ps_2 hpp | exact ps_3 hpp | exact ps_4 hpp | exact ps_5 hpp | exact ps_6 hpp | exact ps_7 hpp | exact ps_8 hpp | exact ps_9 hpp | exact ps_10 hpp | exact ps_11 hpp | exact ps_15 hpp | exact ps_16 hpp | exact ps_17 hpp | exact ps_18 hpp | exact ps_19 hpp | exact ps_21 hpp | exact ps_22 hpp | exact ps_23 hpp | exact ps_24 hpp) ⟨by omega, by omega⟩ ?_ | refine by_tald rfl rfl ⟨by omega, by omega⟩ ?_
      refine by_bipush cb_11 ?_
      refine by_ic_ne 96 rfl ?_
      simp (disch := first | exact Nat.ne_of_beq_eq_false rfl | exact rfl | omega) only [nI_add, xa_sub, xa_mul, pk_div, nm_mod, xa_shr, xa_and7, xa_and1, xa_and255, xa_by_and, nI_m1, Nat.add_sub_cancel, Nat.reducePow, Nat.zero_add, Nat.add_zero, Nat.reduceAdd, Nat.reduceMul, Nat.reduceSub, xf_same, xq_ff, xq_fo, xf_1, xf_2, xs_1, xs_2, xs_same, xq_so, xj_1, xj_2, xj_same, xq_jo, xq_sa1, xq_same, xq_other, upd_s, oI_n, oI_s, xv_0, xv_1, xv_2, xv_3, xm_p1, xm_p2, xq_fp, xq_fn, List.filter_nil, Nat.reduceBEq, Bool.not_true, Bool.not_false, Bool.and_true, Bool.and_false, Bool.false_and, Bool.true_and, if_true, if_false, Bool.false_eq_true, reduceIte, xc_i, xc_j, xc_r, xc_n, List.nil_append, List.cons_append, Option.toList_some, Option.toList_none, nI_ltJ, nI_leJ, nI_eqJ, nI_ltz, nI_gez, nI_gtz, nI_lez, nI_eqz, m1_ltz, m1_gez, true_imp_iff, false_imp_iff, true_and, and_true, ne_eq, not_false_eq_true, not_true_eq_false, Nat.reduceEqDiff, Nat.reduceLT, Nat.reduceLeDiff, e14, xf_102_15 hF, xf_102_6 hF, e8, e1, e0]
      refine xm_go_wk (by simp [Value.category]) (ft_1 hc hJ (by omega) hnA hnB hv (hsrc n hmem hv).1 (hsrc n hmem hv).2 hg1 (fun h2 fd2 cn2 tr2 K2 L2 R2 g2 hf2 hk2 hJ2 hX hg2 => nxt h2 fd2 cn2 tr2 K2 L2 R2 g2 (Fr_tr hf hf2 (fun _ z => z) (fun _ z => z)) (kpT_tr hk hk2) hJ2 hg2.1 ?_) (fun h2 hf2 hk2 hb => hB h2 (Fr_tr hf hf2 (fun _ z => z) (fun _ z => z)) (kpT_tr hk hk2) hb))
      have same : ∀ m ∈ A, cd m ≠ 11 → (ftW rt fd2 src tgt m ↔ ftW rt fd src tgt m) := by
        intro m hm hmv
        obtain ⟨i', j', a0, a1, a2, a3, a4, a5, a6, a7⟩ := hJ.2.2.1 m hm hmv
        unfold ftW
        rw [rs_V_up a5 hX.2.2, rs_V_up a7 hX.2.2]
      rw [hg2.2, hg]
      constructor
      · rintro (⟨m, m1, m2, m3⟩ | q)
        · exact ⟨m, List.mem_append_left _ m1, m2, (same m m1 m2).mpr m3⟩
        · exact ⟨n, List.mem_append_right _ (by simp), hv, q⟩
      · rintro ⟨m, m1, m2, m3⟩
        rcases List.mem_append.mp m1 with q | q
        · exact Or.inl ⟨m, q, m2, (same m q m2).mp m3⟩
        · rw [List.mem_singleton.mp q] at m3
          exact Or.inr m3
theorem sp_findTypes (hF : XF h) (hN : N ≤ 2000) (hnd : ndR h N cd fi se nu) (hL : ndL cd fi se L) (hLN : ∀ n ∈ L, n < N) (hL3 : ∀ i, i < L.length → h.1 113 i = nI (L.getD i 0)) (hLl : h.2.2 102 14 = .int (nI L.length))
    (hT : ∀ h' S T cn tr K Lf R w, Fr fyR fyT h h' → kpT h h' → ty_least cd fi se nu L S T → mtT h' cn tr K Lf R → cn ≤ 3211 + 7 * L.length → (∀ n ∈ L, cd n ≠ 11 → ∃ i j, 3200 ≤ i ∧ i < cn ∧ 3200 ≤ j ∧ j < cn ∧ h'.1 111 n = nI i ∧ tr i = S n ∧ h'.1 112 n = nI j ∧ tr j = T n) → (w = 0 ∨ w = 9) → (w = 9 ↔ ∃ n ∈ L, cd n ≠ 11 ∧ (2048 < ty_w (S n) ∨ 2048 < ty_w (T n))) → post (some (.int (nI w))) h')
    (hB : ∀ h', Fr fyR fyT h h' → kpT h h' → (∀ S T, ¬ ty_sol cd fi se nu L S T) → post (some (.int (nI 8))) h') :
    xm_T (XE sc) (d + 5) 224 [.ref 102] h post := by
  have hlen : L.length ≤ 2000 := Nat.le_trans (nd_len N L hL.1 hLN) hN
  refine xq_in rfl ?_
  simp only [xq_a0, xq_aI, xq_aJ, xq_aR, Nat.reduceAdd]
  with_reducible refine xm_go_blk b_X12_findTypes_0 k_X12_findTypes_0 ?_
  refine by_aload_n rfl ?_
  refine by_inv0 cn_224 lk_12_271 (by rw [xe_cnt]; decide) is_204 np_204 cn_204 (by first | exact rfl | assumption) (Nat.le_of_ble_eq_true rfl) ?_
  refine sp_beginCells hF (fun h1 k l r rt f1 hg hK hw => ?_)
  have F1 : XF h1 := Fr_XF hF f1 mg_fin
  with_reducible refine xm_go_blk b_X12_findTypes_4 k_X12_findTypes_4 ?_
  refine by_aload_n rfl ?_
  refine by_inv0 cn_224 lk_12_274 (by rw [xe_cnt]; decide) is_205 np_205 cn_205 (by first | exact rfl | assumption) (Nat.le_of_ble_eq_true rfl) ?_
  refine sp_beginKinds F1 (fun h2 f2 kp2 hT2 => ?_)
  have F2 : XF h2 := Fr_XF F1 f2 mt_fin
  have f12 : Fr fyR fyT h h2 := Fr_tr (Fr_mo f1 (by simp [mbR, fyR]) (by simp [mgT, fyT])) f2 (by simp [mtR, fyR]) (by simp [fyT])
  have kp12 : kpT h h2 := fun a j q1 q2 q3 => by rw [kp2 a j (by omega) q3, f1.1 a (by simp [mbR]; omega)]
  have hI0 : msI h2 N cd fi se nu [] 10 k l r rt [] (fun _ => 0) (fun _ => 0) := ⟨F2, ndR_fr hnd f12 (by simp [fyR]) (by simp [fyR]) (by simp [fyR]) (by simp [fyR]), mgr_fr hg f2 (by simp) (by simp [mtR]) (by simp [mtR]) (by simp [mtR]) (by simp [mtR]), bc_tyS hK, fun n hn => absurd hn (by simp), by simp, by simp, hN, fun j hj => ⟨by rw [f2.1 144 (by simp [mtR])]; exact hw j hj, (bc_den hK).2 j hj⟩, Nat.le_refl _, (bc_den hK).1⟩
  have hL32 : ∀ i, i < L.length → h2.1 113 i = nI (L.getD i 0) := fun i hi => by rw [f12.1 113 (by simp [fyR])]; exact hL3 i hi
  have hLl2 : h2.2.2 102 14 = .int (nI L.length) := by rw [f12.2.2 _ _ (by simp [fyT])]; exact hLl
  have hrun := ft_10 (sc := sc) (d := d) (post := post) (nu := nu) hN hL hLN hL32 hLl2 (fun h3 c k l r rt es src tgt f3 hI => ?_) (fun h3 f3 hno => ?_) L [] h2 10 k l r rt [] (fun _ => 0) (fun _ => 0) rfl Fr_rf hI0
  · with_reducible refine xm_go_blk b_X12_findTypes_8 k_X12_findTypes_8 ?_
    refine by_iconst ci_0 ?_
    refine by_istore_n (by rw [ml_224]; decide) ?_
    refine by_nil ?_
    simp (disch := first | exact Nat.ne_of_beq_eq_false rfl | exact rfl | omega) only [nI_add, xa_sub, xa_mul, pk_div, nm_mod, xa_shr, xa_and7, xa_and1, xa_and255, xa_by_and, nI_m1, Nat.add_sub_cancel, Nat.reducePow, Nat.zero_add, Nat.add_zero, Nat.reduceAdd, Nat.reduceMul, Nat.reduceSub, xf_same, xq_ff, xq_fo, xf_1, xf_2, xs_1, xs_2, xs_same, xq_so, xj_1, xj_2, xj_same, xq_jo, xq_sa1, xq_same, xq_other, upd_s, oI_n, oI_s, xv_0, xv_1, xv_2, xv_3, xm_p1, xm_p2, xq_fp, xq_fn, List.filter_nil, Nat.reduceBEq, Bool.not_true, Bool.not_false, Bool.and_true, Bool.and_false, Bool.false_and, Bool.true_and, if_true, if_false, Bool.false_eq_true, reduceIte, xc_i, xc_j, xc_r, xc_n, List.nil_append, List.cons_append, Option.toList_some, Option.toList_none]
    exact xm_go_wk (by simp [Value.category]) hrun
  · have f13 : Fr fyR fyT h h3 := Fr_tr f12 f3 (by simp [mlR, fyR]) (by simp [mgT, fyT])
    have kp13 : kpT h h3 := kpT_tr kp12 (kpT_fr f3 (fun a q1 q2 => by simp [mlR]; omega))
    have hT3 : mtT h3 3201 _ _ _ _ := mtT_fr hT2 f3 (by simp [mgT]) (by simp [mtR, mlR])
    obtain ⟨i1, i3, i4, i5, i6, i7, i8, i9, i10, i11, i12⟩ := hI
    obtain ⟨g1, g2, ⟨u, dd, m, g3, g4, g5⟩, g6, g7⟩ := i4
    have hc14 : c ≤ 14010 := by omega
    have hG := uf_G (k := k) (l := l) (r := r) g4 (fun t ht => ⟨(g2 t ht).2.1, fun e => ((g2 t ht).2.2 e).2.2⟩)
    with_reducible refine xm_go_blk b_X12_findTypes_40 k_X12_findTypes_40 ?_
    refine by_iconst ci_0 ?_
    refine by_istore_n (by rw [ml_224]; decide) ?_
    refine by_nil ?_
    simp (disch := first | exact Nat.ne_of_beq_eq_false rfl | exact rfl | omega) only [nI_add, xa_sub, xa_mul, pk_div, nm_mod, xa_shr, xa_and7, xa_and1, xa_and255, xa_by_and, nI_m1, Nat.add_sub_cancel, Nat.reducePow, Nat.zero_add, Nat.add_zero, Nat.reduceAdd, Nat.reduceMul, Nat.reduceSub, xf_same, xq_ff, xq_fo, xf_1, xf_2, xs_1, xs_2, xs_same, xq_so, xj_1, xj_2, xj_same, xq_jo, xq_sa1, xq_same, xq_other, upd_s, oI_n, oI_s, xv_0, xv_1, xv_2, xv_3, xm_p1, xm_p2, xq_fp, xq_fn, List.filter_nil, Nat.reduceBEq, Bool.not_true, Bool.not_false, Bool.and_true, Bool.and_false, Bool.false_and, Bool.true_and, if_true, if_false, Bool.false_eq_true, reduceIte, xc_i, xc_j, xc_r, xc_n, List.nil_append, List.cons_append, Option.toList_some, Option.toList_none]
    refine xm_go_wk (by simp [Value.category]) (ft_42 i1 hc14 g1 (fun h4 f4 hc4 => ?_) c 0 h3 (by omega) Fr_rf (fun t ht => absurd ht (by omega)))
    have F4 : XF h4 := Fr_XF i1 f4 (by decide +kernel)
    have f14 : Fr fyR fyT h h4 := Fr_tr f13 f4 (by simp [fyR]) (by simp)
    have kp14 : kpT h h4 := kpT_tr kp13 (kpT_fr f4 (fun a q1 q2 => by simp; omega))
    have hJ0 : ftJ h4 c cd k l r rt src tgt [] L (fun _ => none) 3201 (fun _ => tO) (fun _ => 0) (fun _ => 0) (fun _ => 0) := by
      refine ⟨F4, ⟨⟨u, dd, m, upA_fr g3 f4 (by simp), g4⟩, mnA_fr g2 f4 (by simp) (by simp) (by simp), mtT_fr hT3 f4 (by simp) (by simp [mtR]), ?_, fun t a e => (by cases e), ⟨by simp, by simp, trivial, by simp⟩, fun t ht => ⟨fun a e => (by cases e), fun _ => ⟨fun _ => hc4 t ht, fun z => by simp at z, fun z => by simp at z⟩⟩⟩, fun n hn => absurd hn (by simp), fun n hn hv => ?_⟩
      · have := rs_m_le (fun _ => none) [] c
        simp only [List.length_nil]
        omega
      · rw [f4.1 111 (by simp), f4.1 112 (by simp)]; exact (i6 n hn).2 hv
    have hrun2 := ft_67 (sc := sc) (d := d + 1) (post := post) (cd := cd) (N := N) hc14 hN hL.1 hLN (fun n hn => ⟨by rw [f4.1 105 (by simp)]; exact (i3 n hn).1, (i3 n hn).2.1⟩) (fun i hi => by rw [f14.1 113 (by simp [fyR])]; exact hL3 i hi) (by rw [f14.2.2 _ _ (by simp [fyT])]; exact hLl) (fun n hn hv => i5.2.2.1 n hn hv) (fun h5 fd5 cn5 tr5 K5 L5 R5 w f5 kp5 hJ5 hw1 hw2 => ?_) (fun h5 f5 kp5 hb => ?_) L [] h4 _ _ _ _ _ _ 0 rfl Fr_rf kpT_rf hJ0 (by decide) ⟨fun z => absurd z (by decide), fun ⟨n, hn, _⟩ => absurd hn (by simp)⟩
    · with_reducible refine xm_go_blk b_X12_findTypes_63 k_X12_findTypes_63 ?_
      refine by_iconst ci_0 ?_
      refine by_istore_n (by rw [ml_224]; decide) ?_
      refine by_iconst ci_0 ?_
      refine by_istore_n (by rw [ml_224]; decide) ?_
      refine by_nil ?_
      simp (disch := first | exact Nat.ne_of_beq_eq_false rfl | exact rfl | omega) only [nI_add, xa_sub, xa_mul, pk_div, nm_mod, xa_shr, xa_and7, xa_and1, xa_and255, xa_by_and, nI_m1, Nat.add_sub_cancel, Nat.reducePow, Nat.zero_add, Nat.add_zero, Nat.reduceAdd, Nat.reduceMul, Nat.reduceSub, xf_same, xq_ff, xq_fo, xf_1, xf_2, xs_1, xs_2, xs_same, xq_so, xj_1, xj_2, xj_same, xq_jo, xq_sa1, xq_same, xq_other, upd_s, oI_n, oI_s, xv_0, xv_1, xv_2, xv_3, xm_p1, xm_p2, xq_fp, xq_fn, List.filter_nil, Nat.reduceBEq, Bool.not_true, Bool.not_false, Bool.and_true, Bool.and_false, Bool.false_and, Bool.true_and, if_true, if_false, Bool.false_eq_true, reduceIte, xc_i, xc_j, xc_r, xc_n, List.nil_append, List.cons_append, Option.toList_some, Option.toList_none]
      exact xm_go_wk (by simp [Value.category]) hrun2
    · obtain ⟨j1, ⟨_, j2, j3, j4, j5, j6, j7⟩, j8, j9⟩ := hJ5
      have f5s : Fr fyR fyT h h5 := Fr_tr f14 f5 (by simp [ftR, fyR]) (by simp [stT, fyT])
      refine hT h5 (fun n => rs_V rt fd5 (src n)) (fun n => rs_V rt fd5 (tgt n)) cn5 tr5 K5 L5 R5 w f5s (kpT_tr kp14 kp5) (rs_least hG j5 g6 g7 i5 (fun n hn hv => ?_) (ndL_in hL).1 (ndL_in hL).2) j3 ?_ (fun n hn hv => ?_) hw1 hw2
      · obtain ⟨i, j, a0, a1, a2, a3, a4, a5, a6, a7⟩ := j8 n hn hv
        rw [a5, a7]
        exact ⟨by simp, by simp⟩
      · have hb0 : rs_b fd5 [] = 0 := rfl
        rw [hb0] at j4
        omega
      · obtain ⟨i, j, a0, a1, a2, a3, a4, a5, a6, a7⟩ := j8 n hn hv
        refine ⟨i, j, a0, a1, a2, a3, a4, ?_, a6, ?_⟩
        · show tr5 i = (fd5 (rt (src n))).getD tO
          rw [a5]; rfl
        · show tr5 j = (fd5 (rt (tgt n))).getD tO
          rw [a7]; rfl
    · exact hB h5 (Fr_tr f14 f5 (by simp [ftR, fyR]) (by simp [stT, fyT])) (kpT_tr kp14 kp5) (rs_none g6 i5 hb)
  · exact hB h3 (Fr_tr f12 f3 (by simp [mlR, fyR]) (by simp [mgT, fyT])) (kpT_tr kp12 (kpT_fr f3 (fun a q1 q2 => by simp [mlR]; omega))) hno
end FT
