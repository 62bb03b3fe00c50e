/-! ===== Finder.solve ===== -/
def slR (pp : Nat) : List Nat := [16, 17, 18, 19, 20, 21, pp + 6, pp + 7, pp + 15, pp + 16, pp + 17, pp + 18, pp + 19, pp + 20, pp + 21, pp + 22, pp + 23]
def slT (pp : Nat) : List (Nat × Nat) := [(15, 6), (15, 7), (pp + 14, 0)]
/-- nodes of a list: children ahead, hidden ones where they may be -/
def ndL (cd fi se : Nat → Nat) (L : List Nat) : Prop := L.Nodup ∧ (∀ A n B, L = A ++ n :: B → (cd n ≤ 6 → fi n ∈ A) ∧ (cd n ≤ 2 → se n ∈ A)) ∧ ∀ n ∈ L, (cd n ≤ 6 → cd n ≠ 1 → cd (fi n) ≠ 11) ∧ (cd n ≤ 2 → cd n ≠ 1 → cd (se n) ≠ 11) ∧ (cd n = 1 → cd (fi n) ≠ 11 ∨ cd (se n) ≠ 11)
theorem ndL_ch {cd fi se : Nat → Nat} {L A B : List Nat} {n : Nat} (h : ndL cd fi se L) (e : L = A ++ n :: B) : n ∉ A ∧ n ∉ B ∧ (∀ m ∈ A, (cd m ≤ 6 → fi m ≠ n) ∧ (cd m ≤ 2 → se m ≠ n)) := by
  obtain ⟨h1, h2, h3⟩ := h
  rw [e] at h1
  have hnd' := List.nodup_append.mp h1
  have hnB : n ∉ B := (List.nodup_cons.mp hnd'.2.1).1
  have hnA : n ∉ A := fun z => hnd'.2.2 n z n (List.mem_cons_self ..) rfl
  refine ⟨hnA, hnB, fun m hm => ?_⟩
  obtain ⟨X, Y, rfl⟩ := List.append_of_mem hm
  obtain ⟨q1, q2⟩ := h2 X m (Y ++ n :: B) (by rw [e]; simp)
  refine ⟨fun z y => hnA ?_, fun z y => hnA ?_⟩
  · rw [← y]; exact List.mem_append_left _ (q1 z)
  · rw [← y]; exact List.mem_append_left _ (q2 z)
theorem ndL_in {cd fi se : Nat → Nat} {L : List Nat} (h : ndL cd fi se L) : (∀ n ∈ L, cd n ≤ 6 → fi n ∈ L) ∧ (∀ n ∈ L, cd n ≤ 2 → se n ∈ L) := by
  refine ⟨fun n hn hc => ?_, fun n hn hc => ?_⟩
  · obtain ⟨X, Y, e⟩ := List.append_of_mem hn
    rw [e]; exact List.mem_append_left _ ((h.2.1 X n Y e).1 hc)
  · obtain ⟨X, Y, e⟩ := List.append_of_mem hn
    rw [e]; exact List.mem_append_left _ ((h.2.1 X n Y e).2 hc)
theorem sl_fin {pp : Nat} (hpp : pp = 52 ∨ pp = 77) : xt_fin.all (fun q => !((slT pp).contains (q.1, q.2.1))) = true := by rcases hpp with rfl | rfl <;> decide +kernel
theorem ndF_fr {S : List Nat} {T : List (Nat × Nat)} {h h' : xm_H} {pp N : Nat} {cd fi se nu : Nat → Nat} (hn : ndF h pp N cd fi se nu) (hf : Fr S T h h') (h1 : pp + 1 ∉ S) (h2 : pp + 2 ∉ S) (h3 : pp + 3 ∉ S) (h4 : pp + 4 ∉ S) : ndF h' pp N cd fi se nu := fun n hn' => by
  rw [hf.1 _ h1, hf.1 _ h2, hf.1 _ h3, hf.1 _ h4]
  exact hn n hn'
section SV
variable {sc : xm_Sc} {d pp N : Nat} {cd fi se nu : Nat → Nat} {L : List Nat} {h : xm_H} {post : xm_Po}
/-- the first loop -/
theorem sv_3 {sz : Int32} (hF : XF h) (hgo : ∀ h', Fr [19, 20] [] h h' → (∀ t, t < 26 → h'.1 19 t = nI t ∧ h'.1 20 t = -1) → xm_go (XE sc) (xm_T (XE sc) (d + 4)) 49 post 33 [(0, .ref 15), (1, .ref pp), (2, .ref 8), (3, .int sz)] [] h') :
    ∀ (j i : Nat) (h' : xm_H), i + j = 26 → Fr [19, 20] [] h h' → (∀ t, t < i → h'.1 19 t = nI t ∧ h'.1 20 t = -1) → xm_go (XE sc) (xm_T (XE sc) (d + 4)) 49 post 3 [(4, .int (nI i)), (0, .ref 15), (1, .ref pp), (2, .ref 8), (3, .int sz)] [] h' := by
  intro j
  induction j with
  | zero =>
    intro i h' hi hf hq
    have : i = 26 := by omega
    subst this
    with_reducible refine xm_go_blk b_X1_solve_3 k_X1_solve_3 ?_
    refine by_iload rfl ?_
    refine by_bipush cb_26 ?_
    refine by_ic_ge 33 rfl ?_
    simp (disch := first | exact Nat.ne_of_beq_eq_false rfl | exact rfl | omega) only [nI_add, xa_sub, xa_mul, pk_div, nm_mod, xa_shr, xa_and7, xa_and1, xa_and255, xa_by_and, nI_m1, Nat.add_sub_cancel, Nat.reducePow, Nat.zero_add, Nat.add_zero, Nat.reduceAdd, Nat.reduceMul, Nat.reduceSub, xf_same, xq_ff, xq_fo, xf_1, xf_2, xs_1, xs_2, xs_same, xq_so, xj_1, xj_2, xj_same, xq_jo, xq_sa1, xq_same, xq_other, upd_s, oI_n, oI_s, xv_0, xv_1, xv_2, xv_3, xm_p1, xm_p2, xq_fp, xq_fn, List.filter_nil, Nat.reduceBEq, Bool.not_true, Bool.not_false, Bool.and_true, Bool.and_false, Bool.false_and, Bool.true_and, if_true, if_false, Bool.false_eq_true, reduceIte, xc_i, xc_j, xc_r, xc_n, List.nil_append, List.cons_append, Option.toList_some, Option.toList_none, nI_ltJ, nI_leJ, nI_eqJ, nI_ltz, nI_gez, nI_gtz, nI_lez, nI_eqz, m1_ltz, m1_gez, true_imp_iff, false_imp_iff, true_and, and_true, ne_eq, not_false_eq_true, not_true_eq_false, Nat.reduceEqDiff, Nat.reduceLT, Nat.reduceLeDiff]
    exact xm_go_wk (by simp [Value.category]) (hgo h' hf hq)
  | succ j ih =>
    intro i h' hi hf hq
    have hF1 : XF h' := Fr_XF hF hf (by decide +kernel)
    with_reducible refine xm_go_blk b_X1_solve_3 k_X1_solve_3 ?_
    refine by_iload rfl ?_
    refine by_bipush cb_26 ?_
    refine by_ic_ge 33 rfl ?_
    simp (disch := first | exact Nat.ne_of_beq_eq_false rfl | exact rfl | omega) only [nI_add, xa_sub, xa_mul, pk_div, nm_mod, xa_shr, xa_and7, xa_and1, xa_and255, xa_by_and, nI_m1, Nat.add_sub_cancel, Nat.reducePow, Nat.zero_add, Nat.add_zero, Nat.reduceAdd, Nat.reduceMul, Nat.reduceSub, xf_same, xq_ff, xq_fo, xf_1, xf_2, xs_1, xs_2, xs_same, xq_so, xj_1, xj_2, xj_same, xq_jo, xq_sa1, xq_same, xq_other, upd_s, oI_n, oI_s, xv_0, xv_1, xv_2, xv_3, xm_p1, xm_p2, xq_fp, xq_fn, List.filter_nil, Nat.reduceBEq, Bool.not_true, Bool.not_false, Bool.and_true, Bool.and_false, Bool.false_and, Bool.true_and, if_true, if_false, Bool.false_eq_true, reduceIte, xc_i, xc_j, xc_r, xc_n, List.nil_append, List.cons_append, Option.toList_some, Option.toList_none, nI_ltJ, nI_leJ, nI_eqJ, nI_ltz, nI_gez, nI_gtz, nI_lez, nI_eqz, m1_ltz, m1_gez, true_imp_iff, false_imp_iff, true_and, and_true, ne_eq, not_false_eq_true, not_true_eq_false, Nat.reduceEqDiff, Nat.reduceLT, Nat.reduceLeDiff, xf_15_3 hF1, xf_15_4 hF1]
    refine ⟨fun c => absurd c (by omega), fun c3 => ?_⟩
    with_reducible refine xm_go_blk b_X1_solve_10 k_X1_solve_10 ?_
    refine by_aload_n rfl ?_
    refine by_getf cn_49 fl_1_23 (by first | exact rfl | assumption) (by decide) ?_
    refine by_iload rfl ?_
    refine by_iload rfl ?_
    simp (disch := first | exact Nat.ne_of_beq_eq_false rfl | exact rfl | omega) only [nI_add, xa_sub, xa_mul, pk_div, nm_mod, xa_shr, xa_and7, xa_and1, xa_and255, xa_by_and, nI_m1, Nat.add_sub_cancel, Nat.reducePow, Nat.zero_add, Nat.add_zero, Nat.reduceAdd, Nat.reduceMul, Nat.reduceSub, xf_same, xq_ff, xq_fo, xf_1, xf_2, xs_1, xs_2, xs_same, xq_so, xj_1, xj_2, xj_same, xq_jo, xq_sa1, xq_same, xq_other, upd_s, oI_n, oI_s, xf_15_3 hF1, xf_15_4 hF1]
    refine by_iast (by first | exact rfl | assumption | exact ps_1 hpp | exact ps_2 hpp | exact ps_3 hpp | exact ps_4 hpp | exact ps_5 hpp | exact ps_6 hpp | exact ps_7 hpp | exact ps_8 hpp | exact ps_9 hpp | exact ps_10 hpp | exact ps_11 hpp | exact ps_15 hpp | exact ps_16 hpp | exact ps_17 hpp | exact ps_18 hpp | exact ps_19 hpp | exact ps_21 hpp | exact ps_22 hpp | exact ps_23 hpp | exact ps_24 hpp) ⟨by omega, by omega⟩ ?_
    refine by_aload_n rfl ?_
    refine by_getf cn_49 fl_1_26 (by first | exact rfl | assumption) (by decide) ?_
    refine by_iload rfl ?_
    refine by_iconst ci_m1 ?_
    simp (disch := first | exact Nat.ne_of_beq_eq_false rfl | exact rfl | omega) only [nI_add, xa_sub, xa_mul, pk_div, nm_mod, xa_shr, xa_and7, xa_and1, xa_and255, xa_by_and, nI_m1, Nat.add_sub_cancel, Nat.reducePow, Nat.zero_add, Nat.add_zero, Nat.reduceAdd, Nat.reduceMul, Nat.reduceSub, xf_same, xq_ff, xq_fo, xf_1, xf_2, xs_1, xs_2, xs_same, xq_so, xj_1, xj_2, xj_same, xq_jo, xq_sa1, xq_same, xq_other, upd_s, oI_n, oI_s, xf_15_3 hF1, xf_15_4 hF1]
    refine by_iast (by first | exact rfl | assumption | exact ps_1 hpp | exact ps_2 hpp | exact ps_3 hpp | exact ps_4 hpp | exact ps_5 hpp | exact ps_6 hpp | exact ps_7 hpp | exact ps_8 hpp | exact ps_9 hpp | exact ps_10 hpp | exact ps_11 hpp | exact ps_15 hpp | exact ps_16 hpp | exact ps_17 hpp | exact ps_18 hpp | exact ps_19 hpp | exact ps_21 hpp | exact ps_22 hpp | exact ps_23 hpp | exact ps_24 hpp) ⟨by omega, by omega⟩ ?_
    refine by_iinc (by rw [ml_49]; decide) rfl ci_1 ?_
    refine by_goto 3 rfl ?_
    simp (disch := first | exact Nat.ne_of_beq_eq_false rfl | exact rfl | omega) only [nI_add, xa_sub, xa_mul, pk_div, nm_mod, xa_shr, xa_and7, xa_and1, xa_and255, xa_by_and, nI_m1, Nat.add_sub_cancel, Nat.reducePow, Nat.zero_add, Nat.add_zero, Nat.reduceAdd, Nat.reduceMul, Nat.reduceSub, xf_same, xq_ff, xq_fo, xf_1, xf_2, xs_1, xs_2, xs_same, xq_so, xj_1, xj_2, xj_same, xq_jo, xq_sa1, xq_same, xq_other, upd_s, oI_n, oI_s, xv_0, xv_1, xv_2, xv_3, xm_p1, xm_p2, xq_fp, xq_fn, List.filter_nil, Nat.reduceBEq, Bool.not_true, Bool.not_false, Bool.and_true, Bool.and_false, Bool.false_and, Bool.true_and, if_true, if_false, Bool.false_eq_true, reduceIte, xc_i, xc_j, xc_r, xc_n, List.nil_append, List.cons_append, Option.toList_some, Option.toList_none, xf_15_3 hF1, xf_15_4 hF1]
    refine xm_go_wk (by simp [Value.category]) (ih (i + 1) _ (by omega) (Fr_si (Fr_si hf (by simp)) (by simp)) (fun t ht => ?_))
    by_cases e : t = i
    · subst e
      exact ⟨by rw [xq_so (by omega), xs_same, upd_s], by rw [xs_same, upd_s]⟩
    · obtain ⟨q1, q2⟩ := hq t (by omega)
      exact ⟨by rw [xq_so (by omega), xs_same, upd_o e]; exact q1, by rw [xs_same, upd_o e, xq_so (by omega)]; exact q2⟩
/-- rules of all nodes -/
theorem sv_42 (hpp : pp = 52 ∨ pp = 77) (hN : N ≤ 2000) (hL : ndL cd fi se L) (hLN : ∀ n ∈ L, n < N) (hL8 : ∀ i, i < L.length → h.1 8 i = nI (L.getD i 0))
    (hgo : ∀ h' c k l r rt es src tgt, Fr (rlR pp) grT h h' → tsI h' pp N cd fi se nu L c k l r rt es src tgt → xm_go (XE sc) (xm_T (XE sc) (d + 4)) 49 post 68 [(0, .ref 15), (1, .ref pp), (2, .ref 8), (3, .int (nI L.length))] [] h')
    (hB : ∀ h', Fr (rlR pp) grT h h' → fxA h' → (∀ S T, ¬ ty_sol cd fi se nu L S T) → post (some (.int (nI 0))) h') :
    ∀ (B A : List Nat) (h' : xm_H) (c : Nat) (k l r rt : Nat → Nat) (es : List (Nat × Nat)) (src tgt : Nat → Nat), L = A ++ B → Fr (rlR pp) grT h h' → tsI h' pp N cd fi se nu A c k l r rt es src tgt → xm_go (XE sc) (xm_T (XE sc) (d + 4)) 49 post 42 [(0, .ref 15), (1, .ref pp), (2, .ref 8), (3, .int (nI L.length)), (4, .int (nI A.length))] [] h' := by
  have hlen : L.length ≤ 2000 := Nat.le_trans (nd_len N L hL.1 hLN) hN
  intro B
  induction B with
  | nil =>
    intro A h' c k l r rt es src tgt hAB hf hI
    rw [List.append_nil] at hAB
    subst hAB
    with_reducible refine xm_go_blk b_X1_solve_42 k_X1_solve_42 ?_
    refine by_iload rfl ?_
    refine by_iload_n rfl ?_
    refine by_ic_ge 68 rfl ?_
    simp (disch := first | exact Nat.ne_of_beq_eq_false rfl | exact rfl | omega) only [nI_add, xa_sub, xa_mul, pk_div, nm_mod, xa_shr, xa_and7, xa_and1, xa_and255, xa_by_and, nI_m1, Nat.add_sub_cancel, Nat.reducePow, Nat.zero_add, Nat.add_zero, Nat.reduceAdd, Nat.reduceMul, Nat.reduceSub, xf_same, xq_ff, xq_fo, xf_1, xf_2, xs_1, xs_2, xs_same, xq_so, xj_1, xj_2, xj_same, xq_jo, xq_sa1, xq_same, xq_other, upd_s, oI_n, oI_s, xv_0, xv_1, xv_2, xv_3, xm_p1, xm_p2, xq_fp, xq_fn, List.filter_nil, Nat.reduceBEq, Bool.not_true, Bool.not_false, Bool.and_true, Bool.and_false, Bool.false_and, Bool.true_and, if_true, if_false, Bool.false_eq_true, reduceIte, xc_i, xc_j, xc_r, xc_n, List.nil_append, List.cons_append, Option.toList_some, Option.toList_none, nI_ltJ, nI_leJ, nI_eqJ, nI_ltz, nI_gez, nI_gtz, nI_lez, nI_eqz, m1_ltz, m1_gez, true_imp_iff, false_imp_iff, true_and, and_true, ne_eq, not_false_eq_true, not_true_eq_false, Nat.reduceEqDiff, Nat.reduceLT, Nat.reduceLeDiff]
    refine ⟨fun c42 => ?_, fun c => absurd (by omega) c⟩
    exact xm_go_wk (by simp [Value.category]) (hgo h' c k l r rt es src tgt hf hI)
  | cons n B ih =>
    intro A h' c k l r rt es src tgt hAB hf hI
    have hmem : n ∈ L := by rw [hAB]; simp
    have hA : A.length < L.length := by rw [hAB]; simp
    have hget : L.getD A.length 0 = n := by rw [hAB]; simp [List.getD]
    have e8 : h'.1 8 A.length = nI n := by rw [hf.1 8 (by simp [rlR] <;> omega), hL8 _ hA, hget]
    have hnN := hLN n hmem
    obtain ⟨hnA, hnB, hch⟩ := ndL_ch hL hAB
    obtain ⟨k1, k2⟩ := hL.2.1 A n B hAB
    obtain ⟨v1, v2, v3⟩ := hL.2.2 n hmem
    with_reducible refine xm_go_blk b_X1_solve_42 k_X1_solve_42 ?_
    refine by_iload rfl ?_
    refine by_iload_n rfl ?_
    refine by_ic_ge 68 rfl ?_
    simp (disch := first | exact Nat.ne_of_beq_eq_false rfl | exact rfl | omega) only [nI_add, xa_sub, xa_mul, pk_div, nm_mod, xa_shr, xa_and7, xa_and1, xa_and255, xa_by_and, nI_m1, Nat.add_sub_cancel, Nat.reducePow, Nat.zero_add, Nat.add_zero, Nat.reduceAdd, Nat.reduceMul, Nat.reduceSub, xf_same, xq_ff, xq_fo, xf_1, xf_2, xs_1, xs_2, xs_same, xq_so, xj_1, xj_2, xj_same, xq_jo, xq_sa1, xq_same, xq_other, upd_s, oI_n, oI_s, xv_0, xv_1, xv_2, xv_3, xm_p1, xm_p2, xq_fp, xq_fn, List.filter_nil, Nat.reduceBEq, Bool.not_true, Bool.not_false, Bool.and_true, Bool.and_false, Bool.false_and, Bool.true_and, if_true, if_false, Bool.false_eq_true, reduceIte, xc_i, xc_j, xc_r, xc_n, List.nil_append, List.cons_append, Option.toList_some, Option.toList_none, nI_ltJ, nI_leJ, nI_eqJ, nI_ltz, nI_gez, nI_gtz, nI_lez, nI_eqz, m1_ltz, m1_gez, true_imp_iff, false_imp_iff, true_and, and_true, ne_eq, not_false_eq_true, not_true_eq_false, Nat.reduceEqDiff, Nat.reduceLT, Nat.reduceLeDiff, e8]
    refine ⟨fun c => absurd c (by omega), fun c42 => ?_⟩
    with_reducible refine xm_go_blk b_X1_solve_48 k_X1_solve_48 ?_
    refine by_aload_n rfl ?_
    refine by_aload_n rfl ?_
    refine by_aload_n rfl ?_
    refine by_iload rfl ?_
    first | refine by_iald (by first | exact rfl | assumption | exact ps_1 hpp | exact ps_2 hpp | exact ps_3 hpp | exact ps_4 hpp | exact ps_5 hpp | exact ps_6 hpp | exact ps_7 hpp | exact ps_8 hpp | exact ps_9 hpp | exact ps_10 hpp | exact ps_11 hpp | exact ps_15 hpp | exact ps_16 hpp | exact ps_17 hpp | exact ps_18 hpp | exact ps_19 hpp | exact ps_21 hpp | exact ps_22 hpp | exact ps_23 hpp | exact ps_24 hpp) ⟨by omega, by omega⟩ ?_ | refine by_tald rfl rfl ⟨by omega, by omega⟩ ?_
    simp (disch := first | exact Nat.ne_of_beq_eq_false rfl | exact rfl | omega) only [nI_add, xa_sub, xa_mul, pk_div, nm_mod, xa_shr, xa_and7, xa_and1, xa_and255, xa_by_and, nI_m1, Nat.add_sub_cancel, Nat.reducePow, Nat.zero_add, Nat.add_zero, Nat.reduceAdd, Nat.reduceMul, Nat.reduceSub, xf_same, xq_ff, xq_fo, xf_1, xf_2, xs_1, xs_2, xs_same, xq_so, xj_1, xj_2, xj_same, xq_jo, xq_sa1, xq_same, xq_other, upd_s, oI_n, oI_s, xv_0, xv_1, xv_2, xv_3, xm_p1, xm_p2, xq_fp, xq_fn, List.filter_nil, Nat.reduceBEq, Bool.not_true, Bool.not_false, Bool.and_true, Bool.and_false, Bool.false_and, Bool.true_and, if_true, if_false, Bool.false_eq_true, reduceIte, xc_i, xc_j, xc_r, xc_n, List.nil_append, List.cons_append, Option.toList_some, Option.toList_none, e8]
    refine by_inv2 cn_49 lk_1_40 (by rw [xe_cnt]; decide) is_46 np_46 cn_46 (by first | exact rfl | assumption) (Nat.le_of_ble_eq_true rfl) ?_
    refine sp_rule hI hnN hnA (by omega) hch k1 k2 v1 v2 v3 ⟨fun h2 c2 k2 l2 r2 rt2 es2 src2 tgt2 hf2 hI2 => ?_, fun h2 hf2 hfa hno => ?_⟩
    · have := ih (A ++ [n]) h2 c2 k2 l2 r2 rt2 es2 src2 tgt2 (by rw [hAB]; simp) (Fr_tr hf hf2 (fun _ z => z) (fun _ z => z)) hI2
      rw [List.length_append] at this
      with_reducible refine xm_go_blk b_X1_solve_57 k_X1_solve_57 ?_
      refine by_if_ne 62 rfl ?_
      simp (disch := first | exact Nat.ne_of_beq_eq_false rfl | exact rfl | omega) only [nI_add, xa_sub, xa_mul, pk_div, nm_mod, xa_shr, xa_and7, xa_and1, xa_and255, xa_by_and, nI_m1, Nat.add_sub_cancel, Nat.reducePow, Nat.zero_add, Nat.add_zero, Nat.reduceAdd, Nat.reduceMul, Nat.reduceSub, xf_same, xq_ff, xq_fo, xf_1, xf_2, xs_1, xs_2, xs_same, xq_so, xj_1, xj_2, xj_same, xq_jo, xq_sa1, xq_same, xq_other, upd_s, oI_n, oI_s, xv_0, xv_1, xv_2, xv_3, xm_p1, xm_p2, xq_fp, xq_fn, List.filter_nil, Nat.reduceBEq, Bool.not_true, Bool.not_false, Bool.and_true, Bool.and_false, Bool.false_and, Bool.true_and, if_true, if_false, Bool.false_eq_true, reduceIte, xc_i, xc_j, xc_r, xc_n, List.nil_append, List.cons_append, Option.toList_some, Option.toList_none, nI_ltJ, nI_leJ, nI_eqJ, nI_ltz, nI_gez, nI_gtz, nI_lez, nI_eqz, m1_ltz, m1_gez, true_imp_iff, false_imp_iff, true_and, and_true, ne_eq, not_false_eq_true, not_true_eq_false, Nat.reduceEqDiff, Nat.reduceLT, Nat.reduceLeDiff]
      with_reducible refine xm_go_blk b_X1_solve_62 k_X1_solve_62 ?_
      refine by_iinc (by rw [ml_49]; decide) rfl ci_1 ?_
      refine by_goto 42 rfl ?_
      simp (disch := first | exact Nat.ne_of_beq_eq_false rfl | exact rfl | omega) only [nI_add, xa_sub, xa_mul, pk_div, nm_mod, xa_shr, xa_and7, xa_and1, xa_and255, xa_by_and, nI_m1, Nat.add_sub_cancel, Nat.reducePow, Nat.zero_add, Nat.add_zero, Nat.reduceAdd, Nat.reduceMul, Nat.reduceSub, xf_same, xq_ff, xq_fo, xf_1, xf_2, xs_1, xs_2, xs_same, xq_so, xj_1, xj_2, xj_same, xq_jo, xq_sa1, xq_same, xq_other, upd_s, oI_n, oI_s, xv_0, xv_1, xv_2, xv_3, xm_p1, xm_p2, xq_fp, xq_fn, List.filter_nil, Nat.reduceBEq, Bool.not_true, Bool.not_false, Bool.and_true, Bool.and_false, Bool.false_and, Bool.true_and, if_true, if_false, Bool.false_eq_true, reduceIte, xc_i, xc_j, xc_r, xc_n, List.nil_append, List.cons_append, Option.toList_some, Option.toList_none]
      exact xm_go_wk (by simp [Value.category]) this
    · with_reducible refine xm_go_blk b_X1_solve_57 k_X1_solve_57 ?_
      refine by_if_ne 62 rfl ?_
      simp (disch := first | exact Nat.ne_of_beq_eq_false rfl | exact rfl | omega) only [nI_add, xa_sub, xa_mul, pk_div, nm_mod, xa_shr, xa_and7, xa_and1, xa_and255, xa_by_and, nI_m1, Nat.add_sub_cancel, Nat.reducePow, Nat.zero_add, Nat.add_zero, Nat.reduceAdd, Nat.reduceMul, Nat.reduceSub, xf_same, xq_ff, xq_fo, xf_1, xf_2, xs_1, xs_2, xs_same, xq_so, xj_1, xj_2, xj_same, xq_jo, xq_sa1, xq_same, xq_other, upd_s, oI_n, oI_s, xv_0, xv_1, xv_2, xv_3, xm_p1, xm_p2, xq_fp, xq_fn, List.filter_nil, Nat.reduceBEq, Bool.not_true, Bool.not_false, Bool.and_true, Bool.and_false, Bool.false_and, Bool.true_and, if_true, if_false, Bool.false_eq_true, reduceIte, xc_i, xc_j, xc_r, xc_n, List.nil_append, List.cons_append, Option.toList_some, Option.toList_none, nI_ltJ, nI_leJ, nI_eqJ, nI_ltz, nI_gez, nI_gtz, nI_lez, nI_eqz, m1_ltz, m1_gez, true_imp_iff, false_imp_iff, true_and, and_true, ne_eq, not_false_eq_true, not_true_eq_false, Nat.reduceEqDiff, Nat.reduceLT, Nat.reduceLeDiff]
      with_reducible refine xm_go_blk b_X1_solve_60 k_X1_solve_60 ?_
      refine by_iconst ci_0 ?_
      refine by_iret ry_49 (by first | rfl | assumption) ?_
      refine hB h2 (Fr_tr hf hf2 (fun _ z => z) (fun _ z => z)) hfa (fun S T hs => hno S T ⟨hs.1, hs.2.1, fun m hm => hs.2.2 m ?_⟩)
      rw [hAB]
      rcases List.mem_append.mp hm with z | z
      · exact List.mem_append_left _ z
      · rw [List.mem_singleton.mp z]; simp
theorem sp_solve (hF : XF h) (hpp : pp = 52 ∨ pp = 77) (hN : N ≤ 2000) (hnd : ndF h pp N cd fi se nu) (hfx : fxA h) (hL : ndL cd fi se L) (hLN : ∀ n ∈ L, n < N) (hL8 : ∀ i, i < L.length → h.1 8 i = nI (L.getD i 0))
    (hT : ∀ h' S T cn tr K Lf R, Fr (slR pp) (slT pp) h h' → fxA h' → ty_least cd fi se nu L S T → tyT h' pp cn tr K Lf R → cn ≤ 26 + 7 * L.length → (∀ n ∈ L, cd n ≠ 11 → ∃ i j, i < cn ∧ j < cn ∧ h'.1 (pp + 6) n = nI i ∧ tr i = S n ∧ h'.1 (pp + 7) n = nI j ∧ tr j = T n) → (∀ n ∈ L, cd n = 11 → h'.1 (pp + 6) n = -1 ∧ h'.1 (pp + 7) n = -1) → post (some (.int (nI 1))) h')
    (hB : ∀ h', Fr (slR pp) (slT pp) h h' → fxA h' → (∀ S T, ¬ ty_sol cd fi se nu L S T) → post (some (.int (nI 0))) h') :
    xm_T (XE sc) (d + 5) 49 [.ref 15, .ref pp, .ref 8, .int (nI L.length)] h post := by
  refine xq_in rfl ?_
  simp only [xq_a0, xq_aI, xq_aJ, xq_aR, Nat.reduceAdd]
  with_reducible refine xm_go_blk b_X1_solve_0 k_X1_solve_0 ?_
  refine by_iconst ci_0 ?_
  refine by_istore (by rw [ml_49]; decide) ?_
  refine by_nil ?_
  simp (disch := first | exact Nat.ne_of_beq_eq_false rfl | exact rfl | omega) only [nI_add, xa_sub, xa_mul, pk_div, nm_mod, xa_shr, xa_and7, xa_and1, xa_and255, xa_by_and, nI_m1, Nat.add_sub_cancel, Nat.reducePow, Nat.zero_add, Nat.add_zero, Nat.reduceAdd, Nat.reduceMul, Nat.reduceSub, xf_same, xq_ff, xq_fo, xf_1, xf_2, xs_1, xs_2, xs_same, xq_so, xj_1, xj_2, xj_same, xq_jo, xq_sa1, xq_same, xq_other, upd_s, oI_n, oI_s, xv_0, xv_1, xv_2, xv_3, xm_p1, xm_p2, xq_fp, xq_fn, List.filter_nil, Nat.reduceBEq, Bool.not_true, Bool.not_false, Bool.and_true, Bool.and_false, Bool.false_and, Bool.true_and, if_true, if_false, Bool.false_eq_true, reduceIte, xc_i, xc_j, xc_r, xc_n, List.nil_append, List.cons_append, Option.toList_some, Option.toList_none]
  refine xm_go_wk (by simp [Value.category]) (sv_3 (pp := pp) (sz := nI L.length) hF (fun h1 f1 u1 => ?_) 26 0 h rfl Fr_rf (fun t ht => absurd ht (by omega)))
  have F1 : XF h1 := Fr_XF hF f1 (by decide +kernel)
  with_reducible refine xm_go_blk b_X1_solve_33 k_X1_solve_33 ?_
  refine by_aload_n rfl ?_
  refine by_bipush cb_26 ?_
  refine by_putf cn_49 fl_1_36 (by first | exact rfl | assumption) (by decide) nf_1_6 ft_1_6 (by first | rfl | assumption) (by first | rfl | assumption) ?_
  refine by_iconst ci_0 ?_
  refine by_istore (by rw [ml_49]; decide) ?_
  refine by_nil ?_
  simp (disch := first | exact Nat.ne_of_beq_eq_false rfl | exact rfl | omega) only [nI_add, xa_sub, xa_mul, pk_div, nm_mod, xa_shr, xa_and7, xa_and1, xa_and255, xa_by_and, nI_m1, Nat.add_sub_cancel, Nat.reducePow, Nat.zero_add, Nat.add_zero, Nat.reduceAdd, Nat.reduceMul, Nat.reduceSub, xf_same, xq_ff, xq_fo, xf_1, xf_2, xs_1, xs_2, xs_same, xq_so, xj_1, xj_2, xj_same, xq_jo, xq_sa1, xq_same, xq_other, upd_s, oI_n, oI_s, xv_0, xv_1, xv_2, xv_3, xm_p1, xm_p2, xq_fp, xq_fn, List.filter_nil, Nat.reduceBEq, Bool.not_true, Bool.not_false, Bool.and_true, Bool.and_false, Bool.false_and, Bool.true_and, if_true, if_false, Bool.false_eq_true, reduceIte, xc_i, xc_j, xc_r, xc_n, List.nil_append, List.cons_append, Option.toList_some, Option.toList_none]
  have f2 : Fr [19, 20] [(15, 6)] h (xm_sf h1 15 6 (.int (nI 26))) := Fr_sf (Fr_mo f1 (fun _ z => z) (by simp)) (by simp)
  have f2b : Fr [] [(15, 6)] h1 (xm_sf h1 15 6 (.int (nI 26))) := Fr_sf Fr_rf (by simp)
  have F2 : XF (xm_sf h1 15 6 (.int (nI 26))) := Fr_XF F1 f2b (by decide +kernel)
  have A2 : fxA (xm_sf h1 15 6 (.int (nI 26))) := fun t ht => by
    rw [f2.1 16 (by simp), f2.1 17 (by simp), f2.1 18 (by simp)]
    exact hfx t ht
  have hI0 : tsI (xm_sf h1 15 6 (.int (nI 26))) pp N cd fi se nu [] 26 fxK fxL fxR id [] (fun _ => 0) (fun _ => 0) := ⟨F2, hpp, ndF_fr hnd f2 (by simp <;> omega) (by simp <;> omega) (by simp <;> omega) (by simp <;> omega), fx_gr (by simp only [xf_same]) A2 (fun t ht => u1 t ht), fx_tyS, fun n hn => absurd hn (by simp), by simp, by simp, hN, fx_den, ⟨Nat.le_refl _, fun n hn => absurd hn (by simp)⟩, tx_rf⟩
  have hL82 : ∀ i, i < L.length → (xm_sf h1 15 6 (.int (nI 26))).1 8 i = nI (L.getD i 0) := fun i hi => by rw [f2.1 8 (by simp)]; exact hL8 i hi
  have f2s : Fr (slR pp) (slT pp) h (xm_sf h1 15 6 (.int (nI 26))) := Fr_mo f2 (by simp [slR]) (by simp [slT])
  have hrun := sv_42 (sc := sc) (d := d) (post := post) (nu := nu) hpp hN hL hLN hL82 (fun h3 c k l r rt es src tgt f3 hI => ?_) ?_ L [] _ 26 fxK fxL fxR id [] (fun _ => 0) (fun _ => 0) rfl Fr_rf hI0
  · exact xm_go_wk (by simp [Value.category]) hrun
  · have hI' := hI
    obtain ⟨i1, _, i3, i4, i5, i6, i7, i8, i9, i10, i11, i12⟩ := hI'
    obtain ⟨g1, g2, ⟨u, dd, m, g3, g4, g5⟩, g6, g7, g8⟩ := i4
    have f3s : Fr (slR pp) (slT pp) h h3 := Fr_tr f2s f3 (by simp [rlR, slR]) (by simp [grT, slT])
    with_reducible refine xm_go_blk b_X1_solve_68 k_X1_solve_68 ?_
    refine by_aload_n rfl ?_
    refine by_getf cn_49 fl_1_44 (by first | exact rfl | assumption | exact ps_0 hpp) (by decide) ?_
    simp (disch := first | exact Nat.ne_of_beq_eq_false rfl | exact rfl | omega) only [nI_add, xa_sub, xa_mul, pk_div, nm_mod, xa_shr, xa_and7, xa_and1, xa_and255, xa_by_and, nI_m1, Nat.add_sub_cancel, Nat.reducePow, Nat.zero_add, Nat.add_zero, Nat.reduceAdd, Nat.reduceMul, Nat.reduceSub, xf_same, xq_ff, xq_fo, xf_1, xf_2, xs_1, xs_2, xs_same, xq_so, xj_1, xj_2, xj_same, xq_jo, xq_sa1, xq_same, xq_other, upd_s, oI_n, oI_s, xv_0, xv_1, xv_2, xv_3, xm_p1, xm_p2, xq_fp, xq_fn, List.filter_nil, Nat.reduceBEq, Bool.not_true, Bool.not_false, Bool.and_true, Bool.and_false, Bool.false_and, Bool.true_and, if_true, if_false, Bool.false_eq_true, reduceIte, xc_i, xc_j, xc_r, xc_n, List.nil_append, List.cons_append, Option.toList_some, Option.toList_none, pf_13 i1 hpp]
    refine by_inv0 cn_49 lk_1_50 (by rw [xe_cnt]; decide) is_165 np_165 cn_165 (by first | exact rfl | assumption | exact ps_14 hpp) (Nat.le_of_ble_eq_true rfl) ?_
    refine sp_tclear i1 hpp (fun h4 f4 hT4 => ?_)
    have F4 : XF h4 := Fr_XF i1 f4 (by rcases hpp with rfl | rfl <;> decide +kernel)
    have f4s : Fr (slR pp) (slT pp) h h4 := Fr_tr f3s f4 (by simp [slR]) (by simp [slT])
    have A4 : fnA h4 c k l r := fnA_fr g2 f4 (by simp <;> omega) (by simp <;> omega) (by simp <;> omega)
    have hc14 : c ≤ 14026 := by
      have : L.length ≤ 2000 := Nat.le_trans (nd_len N L hL.1 hLN) hN
      omega
    have hG := uf_G (k := k) (l := l) (r := r) g4 (fun t ht => ⟨(g2 t ht).2.1, fun e => ((g2 t ht).2.2 e).2.2⟩)
    have hJ0 : svJ h4 pp c cd k l r rt src tgt [] L (fun _ => none) 0 (fun _ => tO) (fun _ => 0) (fun _ => 0) (fun _ => 0) := by
      refine ⟨F4, ⟨⟨u, dd, m, upA_fr g3 f4 (by simp <;> omega), g4, by omega⟩, A4, hT4, ?_, fun t a e => (by cases e), ⟨by simp, by simp, trivial, by simp⟩, fun t ht => ⟨fun a e => (by cases e), fun _ => ⟨fun _ => ?_, fun z => by simp at z, fun z => by simp at z⟩⟩⟩, fun n hn => absurd hn (by simp), fun n hn hv => ?_⟩
      · have := rs_m_le (fun _ => none) [] c
        simp only [List.length_nil]
        omega
      · rw [f4.1 20 (by simp <;> omega)]; exact g8 t ht
      · rw [f4.1 (pp + 6) (by simp), f4.1 (pp + 7) (by simp)]; exact (i6 n hn).2 hv
    have hrun2 := sv_78 (sc := sc) (d := d + 1) (post := post) (cd := cd) (N := N) hpp hc14 hN hL.1 hLN (fun n hn => ⟨by rw [f4.1 (pp + 1) (by simp)]; exact (i3 n hn).1, (i3 n hn).2.1⟩) (fun i hi => by rw [f4s.1 8 (by simp [slR] <;> omega)]; exact hL8 i hi) (fun n hn hv => i5.2.2.1 n hn hv) (fun h5 fd5 cn5 tr5 K5 L5 R5 f5 hJ5 hH5 => ?_) (fun h5 f5 hb => ?_) L [] h4 _ _ _ _ _ _ rfl Fr_rf hJ0 (fun _ _ => ⟨rfl, rfl⟩)
    · with_reducible refine xm_go_blk b_X1_solve_75 k_X1_solve_75 ?_
      refine by_iconst ci_0 ?_
      refine by_istore (by rw [ml_49]; decide) ?_
      refine by_nil ?_
      simp (disch := first | exact Nat.ne_of_beq_eq_false rfl | exact rfl | omega) only [nI_add, xa_sub, xa_mul, pk_div, nm_mod, xa_shr, xa_and7, xa_and1, xa_and255, xa_by_and, nI_m1, Nat.add_sub_cancel, Nat.reducePow, Nat.zero_add, Nat.add_zero, Nat.reduceAdd, Nat.reduceMul, Nat.reduceSub, xf_same, xq_ff, xq_fo, xf_1, xf_2, xs_1, xs_2, xs_same, xq_so, xj_1, xj_2, xj_same, xq_jo, xq_sa1, xq_same, xq_other, upd_s, oI_n, oI_s, xv_0, xv_1, xv_2, xv_3, xm_p1, xm_p2, xq_fp, xq_fn, List.filter_nil, Nat.reduceBEq, Bool.not_true, Bool.not_false, Bool.and_true, Bool.and_false, Bool.false_and, Bool.true_and, if_true, if_false, Bool.false_eq_true, reduceIte, xc_i, xc_j, xc_r, xc_n, List.nil_append, List.cons_append, Option.toList_some, Option.toList_none]
      exact xm_go_wk (by simp [Value.category]) hrun2
    · obtain ⟨j1, ⟨_, j2, j3, j4, j5, j6, j7⟩, j8, j9⟩ := hJ5
      have f5s : Fr (slR pp) (slT pp) h h5 := Fr_tr f4s f5 (by simp [svR, slR]) (by simp [rvT, slT])
      refine hT h5 _ _ cn5 tr5 K5 L5 R5 f5s (fx_fn j2 i12) (rs_least hG j5 g6 g7 i5 (fun n hn hv => ?_) (ndL_in hL).1 (ndL_in hL).2) j3 ?_ (fun n hn hv => ?_) (fun n hn e => ?_)
      · obtain ⟨i, j, a1, a2, a3, a4, a5, a6⟩ := j8 n hn hv
        rw [a4, a6]
        exact ⟨by simp, by simp⟩
      · have hb0 : rs_b fd5 [] = 0 := rfl
        rw [hb0] at j4
        omega
      · obtain ⟨i, j, a1, a2, a3, a4, a5, a6⟩ := j8 n hn hv
        refine ⟨i, j, a1, a2, a3, ?_, a5, ?_⟩
        · show tr5 i = (fd5 (rt (src n))).getD tO
          rw [a4]; rfl
        · show tr5 j = (fd5 (rt (tgt n))).getD tO
          rw [a6]; rfl
      · rw [(hH5 n e).1, (hH5 n e).2, f4.1 (pp + 6) (by simp), f4.1 (pp + 7) (by simp)]
        exact i11.2 n hn e
    · exact hB h5 (Fr_tr f4s f5 (by simp [svR, slR]) (by simp [rvT, slT])) (fx_fn (fnA_fr A4 f5 (by simp [svR] <;> omega) (by simp [svR] <;> omega) (by simp [svR] <;> omega)) i12) (rs_none g6 i5 hb)
  · intro h3 f3 hfa hno
    exact hB h3 (Fr_tr f2s f3 (by simp [rlR, slR]) (by simp [grT, slT])) hfa hno
end SV
