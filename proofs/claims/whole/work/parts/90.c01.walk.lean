/-! ===== Order.walk ===== -/
/-- what the walk has: what waits, marks, what is left -/
def wk_J (c1 c2 : Nat → Option Nat) (N W : Nat) (h h' : xm_H) (s : List Nat) (mm : Nat → Bool) (o : List Nat) : Prop :=
  Fr [8, 9, 10, 11] [(7, 2), (7, 9)] h h' ∧ h'.2.2 7 9 = .int (nI (W + 1)) ∧ h'.2.2 7 2 = .int (nI o.length) ∧ (∀ i, i < o.length → h'.1 8 i = nI (o.getD i 0)) ∧ (∀ i, i < o.length → h'.1 9 (o.getD i 0) = nI i) ∧ (∀ i, i < s.length → h'.1 11 (s.length - 1 - i) = nI (s.getD i 0)) ∧ (∀ x, x < N → (h'.1 10 x = nI (W + 1)) = (mm x = true)) ∧ ∀ x, x < 2000 → ∃ k, k ≤ W + 1 ∧ h'.1 10 x = nI k
theorem wk_push {c1 c2 : Nat → Option Nat} {N W : Nat} {h h' : xm_H} {s : List Nat} {mm : Nat → Bool} {o : List Nat} {x : Nat} (hN : N ≤ 2000) (hx : x < N) (hJ : wk_J c1 c2 N W h h' s mm o) : wk_J c1 c2 N W h (xm_si (xm_si h' 10 x (nI (W + 1))) 11 s.length (nI x)) (x :: s) (df_st mm x) o := by
  obtain ⟨j1, j2, j3, j4, j5, j6, j7, j8⟩ := hJ
  refine ⟨Fr_si (Fr_si j1 (by decide)) (by decide), j2, j3, fun i hi => ?_, fun i hi => ?_, fun i hi => ?_, fun y hy => ?_, fun y hy => ?_⟩
  · rw [← j4 i hi]; simp [xm_si]
  · rw [← j5 i hi]; simp [xm_si]
  · cases i with
    | zero => simp [xm_si, upd]
    | succ i =>
      simp only [List.length_cons] at hi ⊢
      have e : s.length + 1 - 1 - (i + 1) = s.length - 1 - i := by omega
      rw [e, List.getD_cons_succ, ← j6 i (by omega)]
      have e2 : s.length - 1 - i ≠ s.length := by omega
      simp [xm_si, upd, e2]
  · by_cases e : y = x
    · subst e
      simp [xm_si, upd, df_st]
    · simp only [df_st, if_neg e]
      rw [← j7 y hy]
      simp [xm_si, upd, e]
  · by_cases e : y = x
    · subst e
      exact ⟨W + 1, Nat.le_refl _, by simp [xm_si, upd]⟩
    · obtain ⟨k, k1, k2⟩ := j8 y hy
      exact ⟨k, k1, by rw [← k2]; simp [xm_si, upd, e]⟩
theorem wk_pop {c1 c2 : Nat → Option Nat} {N W : Nat} {h h' : xm_H} {s : List Nat} {mm : Nat → Bool} {o : List Nat} {n : Nat} (hn : n ∉ o) (hJ : wk_J c1 c2 N W h h' (n :: s) mm o) : wk_J c1 c2 N W h (xm_sf (xm_si (xm_si h' 9 n (nI o.length)) 8 o.length (nI n)) 7 2 (.int (nI (o.length + 1)))) s mm (o ++ [n]) := by
  obtain ⟨j1, j2, j3, j4, j5, j6, j7, j8⟩ := hJ
  refine ⟨Fr_sf (Fr_si (Fr_si j1 (by decide)) (by decide)) (by decide), ?_, ?_, fun i hi => ?_, fun i hi => ?_, fun i hi => ?_, fun y hy => ?_, fun y hy => ?_⟩
  · rw [← j2]; simp [xm_sf, xm_si, updV]
  · simp [xm_sf, updV]
  · by_cases e : i = o.length
    · subst e
      simp [xm_sf, xm_si, upd, List.getD]
    · have hi2 : i < o.length := by simp at hi; omega
      have e2 : (o ++ [n]).getD i 0 = o.getD i 0 := by simp [List.getD, List.getElem?_append_left hi2]
      rw [e2, ← j4 i hi2]
      simp [xm_sf, xm_si, upd, e]
  · by_cases e : i = o.length
    · subst e
      have e2 : (o ++ [n]).getD o.length 0 = n := by simp [List.getD]
      rw [e2]
      simp [xm_sf, xm_si, upd]
    · have hi2 : i < o.length := by simp at hi; omega
      have e2 : (o ++ [n]).getD i 0 = o.getD i 0 := by simp [List.getD, List.getElem?_append_left hi2]
      rw [e2, ← j5 i hi2]
      have e3 : o.getD i 0 ≠ n := fun z => hn (by
        rw [← z]
        simp [List.getD, List.getElem?_eq_getElem hi2])
      rw [show (xm_sf (xm_si (xm_si h' 9 n (nI o.length)) 8 o.length (nI n)) 7 2 (.int (nI (o.length + 1)))).1 9 = upd (h'.1 9) n (nI o.length) by simp [xm_sf, xm_si], upd_o e3]
  · have := j6 (i + 1) (by simp; omega)
    rw [List.getD_cons_succ] at this
    rw [← this]
    simp only [List.length_cons]
    have e : s.length + 1 - 1 - (i + 1) = s.length - 1 - i := by omega
    rw [e]
    simp [xm_sf, xm_si]
  · rw [← j7 y hy]; simp [xm_sf, xm_si]
  · obtain ⟨k, k1, k2⟩ := j8 y hy
    exact ⟨k, k1, by rw [← k2]; simp [xm_sf, xm_si]⟩
theorem df_step_cs {c1 c2 : Nat → Option Nat} {n : Nat} {s s' o o' : List Nat} {m m' : Nat → Bool} (h : df_step c1 c2 (n :: s, m, o) = (s', m', o')) : (s'.length = s.length + 2 ∧ o'.length = o.length) ∨ (s'.length = s.length ∧ o'.length = o.length + 1) := by
  cases e1 : df_nx m (c1 n) with
  | some x =>
    rw [df_step_1 e1] at h
    cases h
    exact Or.inl ⟨rfl, rfl⟩
  | none =>
    cases e2 : df_nx m (c2 n) with
    | some x =>
      rw [df_step_2 e1 e2] at h
      cases h
      exact Or.inl ⟨rfl, rfl⟩
    | none =>
      rw [df_step_3 e1 e2] at h
      cases h
      exact Or.inr ⟨rfl, by simp⟩
/-- one turn is done: on at the loop's head -/
def wk_K (sc : xm_Sc) (d pp N W turn : Nat) (post : xm_Po) (c1 c2 : Nat → Option Nat) (h : xm_H) (q : df_S) : Prop := ∀ s mm o h2, wk_J c1 c2 N W h h2 s mm o → df_step c1 c2 q = (s, mm, o) → xm_go (XE sc) (xm_T (XE sc) d) 97 post 37 [(4, .int (nI (turn + 1))), (3, .int (nI s.length)), (0, .ref 7), (1, .ref pp)] [] h2
section WK
variable {sc : xm_Sc} {d pp N W turn n : Nat} {h h' : xm_H} {post : xm_Po} {c1 c2 : Nat → Option Nat} {s : List Nat} {mm : Nat → Bool} {o : List Nat}
theorem wk_s96 (hF' : XF h') (hpp : pp = 52 ∨ pp = 77) (hN : N ≤ 2000) (hlen : s.length + 1 + o.length < N) (hJ : wk_J c1 c2 N W h h' (n :: s) mm o) (hK : wk_K sc d pp N W turn post c1 c2 h (n :: s, mm, o)) {x : Nat} (hx : x < N) (hmx : mm x = false) (hst : df_step c1 c2 (n :: s, mm, o) = (x :: n :: s, df_st mm x, o)) :
    xm_go (XE sc) (xm_T (XE sc) d) 97 post 96 [(6, .int (nI x)), (5, .int (nI n)), (4, .int (nI turn)), (3, .int (nI (s.length + 1))), (0, .ref 7), (1, .ref pp)] [] h' := by
  have em : (h'.1 10 x = nI (W + 1)) = False := by rw [hJ.2.2.2.2.2.2.1 x hx, hmx]; simp
  have e9 := hJ.2.1
  with_reducible refine xm_go_blk b_X5_walk_96 k_X5_walk_96 ?_
  refine by_iload rfl ?_
  refine by_if_lt 115 rfl ?_
  simp (disch := first | exact Nat.ne_of_beq_eq_false rfl | omega) only [nI_add, xa_sub, xa_mul, pk_div, nm_mod, xa_shr, xa_and7, xa_and1, xa_and255, xa_by_and, nI_m1, Nat.add_sub_cancel, Nat.reducePow, Nat.zero_add, Nat.add_zero, Nat.reduceAdd, Nat.reduceMul, Nat.reduceSub, xf_same, xq_ff, xq_fo, xf_1, xf_2, xs_1, xs_2, xs_same, xq_so, xj_1, xj_2, xj_same, xq_jo, xq_sa1, xq_same, xq_other, upd_s, oI_n, oI_s, xv_0, xv_1, xv_2, xv_3, xm_p1, xm_p2, List.filter_cons, List.filter_nil, Nat.reduceBEq, Bool.not_true, Bool.not_false, Bool.and_true, Bool.and_false, Bool.false_and, Bool.true_and, if_true, if_false, Bool.false_eq_true, reduceIte, xc_i, xc_j, xc_r, xc_n, List.nil_append, List.cons_append, Option.toList_some, Option.toList_none, nI_ltJ, nI_leJ, nI_eqJ, nI_ltz, nI_gez, nI_gtz, nI_lez, nI_eqz, m1_ltz, m1_gez, true_imp_iff, false_imp_iff, true_and, and_true, ne_eq, not_false_eq_true, not_true_eq_false, Nat.reduceEqDiff, Nat.reduceLT, Nat.reduceLeDiff, xf_7_3 hF', xf_7_4 hF', e9, em]
  with_reducible refine xm_go_blk b_X5_walk_101 k_X5_walk_101 ?_
  refine by_aload_n rfl ?_
  refine by_getf cn_97 fl_5_18 (by first | exact rfl | assumption) (by decide) ?_
  refine by_iload rfl ?_
  simp (disch := first | exact Nat.ne_of_beq_eq_false rfl | omega) only [nI_add, xa_sub, xa_mul, pk_div, nm_mod, xa_shr, xa_and7, xa_and1, xa_and255, xa_by_and, nI_m1, Nat.add_sub_cancel, Nat.reducePow, Nat.zero_add, Nat.add_zero, Nat.reduceAdd, Nat.reduceMul, Nat.reduceSub, xf_same, xq_ff, xq_fo, xf_1, xf_2, xs_1, xs_2, xs_same, xq_so, xj_1, xj_2, xj_same, xq_jo, xq_sa1, xq_same, xq_other, upd_s, oI_n, oI_s, xf_7_3 hF', xf_7_4 hF', e9, em]
  first | refine by_iald (by first | exact rfl | assumption | exact ps_1 hpp | exact ps_2 hpp | exact ps_3 hpp | exact ps_4 hpp | exact ps_5 hpp | exact ps_6 hpp | exact ps_7 hpp | exact ps_8 hpp | exact ps_9 hpp | exact ps_10 hpp | exact ps_11 hpp | exact ps_15 hpp | exact ps_16 hpp | exact ps_17 hpp | exact ps_18 hpp | exact ps_19 hpp | exact ps_21 hpp | exact ps_22 hpp | exact ps_23 hpp | exact ps_24 hpp) ⟨by omega, by omega⟩ ?_ | refine by_tald rfl rfl ⟨by omega, by omega⟩ ?_
  refine by_aload_n rfl ?_
  refine by_getf cn_97 fl_5_40 (by first | exact rfl | assumption) (by decide) ?_
  simp (disch := first | exact Nat.ne_of_beq_eq_false rfl | omega) only [nI_add, xa_sub, xa_mul, pk_div, nm_mod, xa_shr, xa_and7, xa_and1, xa_and255, xa_by_and, nI_m1, Nat.add_sub_cancel, Nat.reducePow, Nat.zero_add, Nat.add_zero, Nat.reduceAdd, Nat.reduceMul, Nat.reduceSub, xf_same, xq_ff, xq_fo, xf_1, xf_2, xs_1, xs_2, xs_same, xq_so, xj_1, xj_2, xj_same, xq_jo, xq_sa1, xq_same, xq_other, upd_s, oI_n, oI_s, xf_7_3 hF', xf_7_4 hF', e9, em]
  refine by_ic_ne 153 rfl ?_
  simp (disch := first | exact Nat.ne_of_beq_eq_false rfl | omega) only [nI_add, xa_sub, xa_mul, pk_div, nm_mod, xa_shr, xa_and7, xa_and1, xa_and255, xa_by_and, nI_m1, Nat.add_sub_cancel, Nat.reducePow, Nat.zero_add, Nat.add_zero, Nat.reduceAdd, Nat.reduceMul, Nat.reduceSub, xf_same, xq_ff, xq_fo, xf_1, xf_2, xs_1, xs_2, xs_same, xq_so, xj_1, xj_2, xj_same, xq_jo, xq_sa1, xq_same, xq_other, upd_s, oI_n, oI_s, xv_0, xv_1, xv_2, xv_3, xm_p1, xm_p2, List.filter_cons, List.filter_nil, Nat.reduceBEq, Bool.not_true, Bool.not_false, Bool.and_true, Bool.and_false, Bool.false_and, Bool.true_and, if_true, if_false, Bool.false_eq_true, reduceIte, xc_i, xc_j, xc_r, xc_n, List.nil_append, List.cons_append, Option.toList_some, Option.toList_none, nI_ltJ, nI_leJ, nI_eqJ, nI_ltz, nI_gez, nI_gtz, nI_lez, nI_eqz, m1_ltz, m1_gez, true_imp_iff, false_imp_iff, true_and, and_true, ne_eq, not_false_eq_true, not_true_eq_false, Nat.reduceEqDiff, Nat.reduceLT, Nat.reduceLeDiff, xf_7_3 hF', xf_7_4 hF', e9, em]
  with_reducible refine xm_go_blk b_X5_walk_153 k_X5_walk_153 ?_
  refine by_aload_n rfl ?_
  refine by_getf cn_97 fl_5_18 (by first | exact rfl | assumption) (by decide) ?_
  refine by_iload rfl ?_
  refine by_aload_n rfl ?_
  refine by_getf cn_97 fl_5_40 (by first | exact rfl | assumption) (by decide) ?_
  simp (disch := first | exact Nat.ne_of_beq_eq_false rfl | omega) only [nI_add, xa_sub, xa_mul, pk_div, nm_mod, xa_shr, xa_and7, xa_and1, xa_and255, xa_by_and, nI_m1, Nat.add_sub_cancel, Nat.reducePow, Nat.zero_add, Nat.add_zero, Nat.reduceAdd, Nat.reduceMul, Nat.reduceSub, xf_same, xq_ff, xq_fo, xf_1, xf_2, xs_1, xs_2, xs_same, xq_so, xj_1, xj_2, xj_same, xq_jo, xq_sa1, xq_same, xq_other, upd_s, oI_n, oI_s, xf_7_3 hF', xf_7_4 hF', e9, em]
  refine by_iast (by first | exact rfl | assumption | exact ps_1 hpp | exact ps_2 hpp | exact ps_3 hpp | exact ps_4 hpp | exact ps_5 hpp | exact ps_6 hpp | exact ps_7 hpp | exact ps_8 hpp | exact ps_9 hpp | exact ps_10 hpp | exact ps_11 hpp | exact ps_15 hpp | exact ps_16 hpp | exact ps_17 hpp | exact ps_18 hpp | exact ps_19 hpp | exact ps_21 hpp | exact ps_22 hpp | exact ps_23 hpp | exact ps_24 hpp) ⟨by omega, by omega⟩ ?_
  refine by_aload_n rfl ?_
  refine by_getf cn_97 fl_5_21 (by first | exact rfl | assumption) (by decide) ?_
  refine by_iload_n rfl ?_
  refine by_iload rfl ?_
  simp (disch := first | exact Nat.ne_of_beq_eq_false rfl | omega) only [nI_add, xa_sub, xa_mul, pk_div, nm_mod, xa_shr, xa_and7, xa_and1, xa_and255, xa_by_and, nI_m1, Nat.add_sub_cancel, Nat.reducePow, Nat.zero_add, Nat.add_zero, Nat.reduceAdd, Nat.reduceMul, Nat.reduceSub, xf_same, xq_ff, xq_fo, xf_1, xf_2, xs_1, xs_2, xs_same, xq_so, xj_1, xj_2, xj_same, xq_jo, xq_sa1, xq_same, xq_other, upd_s, oI_n, oI_s, xf_7_3 hF', xf_7_4 hF', e9, em]
  refine by_iast (by first | exact rfl | assumption | exact ps_1 hpp | exact ps_2 hpp | exact ps_3 hpp | exact ps_4 hpp | exact ps_5 hpp | exact ps_6 hpp | exact ps_7 hpp | exact ps_8 hpp | exact ps_9 hpp | exact ps_10 hpp | exact ps_11 hpp | exact ps_15 hpp | exact ps_16 hpp | exact ps_17 hpp | exact ps_18 hpp | exact ps_19 hpp | exact ps_21 hpp | exact ps_22 hpp | exact ps_23 hpp | exact ps_24 hpp) ⟨by omega, by omega⟩ ?_
  refine by_iinc (by rw [ml_97]; decide) rfl ci_1 ?_
  refine by_nil ?_
  simp (disch := first | exact Nat.ne_of_beq_eq_false rfl | omega) only [nI_add, xa_sub, xa_mul, pk_div, nm_mod, xa_shr, xa_and7, xa_and1, xa_and255, xa_by_and, nI_m1, Nat.add_sub_cancel, Nat.reducePow, Nat.zero_add, Nat.add_zero, Nat.reduceAdd, Nat.reduceMul, Nat.reduceSub, xf_same, xq_ff, xq_fo, xf_1, xf_2, xs_1, xs_2, xs_same, xq_so, xj_1, xj_2, xj_same, xq_jo, xq_sa1, xq_same, xq_other, upd_s, oI_n, oI_s, xv_0, xv_1, xv_2, xv_3, xm_p1, xm_p2, List.filter_cons, List.filter_nil, Nat.reduceBEq, Bool.not_true, Bool.not_false, Bool.and_true, Bool.and_false, Bool.false_and, Bool.true_and, if_true, if_false, Bool.false_eq_true, reduceIte, xc_i, xc_j, xc_r, xc_n, List.nil_append, List.cons_append, Option.toList_some, Option.toList_none, xf_7_3 hF', xf_7_4 hF', e9, em]
  with_reducible refine xm_go_blk b_X5_walk_175 k_X5_walk_175 ?_
  refine by_iinc (by rw [ml_97]; decide) rfl ci_1 ?_
  refine by_goto 37 rfl ?_
  simp (disch := first | exact Nat.ne_of_beq_eq_false rfl | omega) only [nI_add, xa_sub, xa_mul, pk_div, nm_mod, xa_shr, xa_and7, xa_and1, xa_and255, xa_by_and, nI_m1, Nat.add_sub_cancel, Nat.reducePow, Nat.zero_add, Nat.add_zero, Nat.reduceAdd, Nat.reduceMul, Nat.reduceSub, xf_same, xq_ff, xq_fo, xf_1, xf_2, xs_1, xs_2, xs_same, xq_so, xj_1, xj_2, xj_same, xq_jo, xq_sa1, xq_same, xq_other, upd_s, oI_n, oI_s, xv_0, xv_1, xv_2, xv_3, xm_p1, xm_p2, List.filter_cons, List.filter_nil, Nat.reduceBEq, Bool.not_true, Bool.not_false, Bool.and_true, Bool.and_false, Bool.false_and, Bool.true_and, if_true, if_false, Bool.false_eq_true, reduceIte, xc_i, xc_j, xc_r, xc_n, List.nil_append, List.cons_append, Option.toList_some, Option.toList_none, xf_7_3 hF', xf_7_4 hF', e9, em]
  refine xm_go_wk ?_ (hK _ _ _ _ (wk_push hN hx hJ) hst)
  intro q hq
  simp only [List.length_cons, List.mem_cons, List.not_mem_nil, or_false] at hq ⊢
  rcases hq with rfl | rfl | rfl | rfl <;> simp
theorem wk_s115 (hF' : XF h') (hn : n < N) (hno : n ∉ o) (hN : N ≤ 2000) (hlen : s.length + 1 + o.length ≤ N) (hJ : wk_J c1 c2 N W h h' (n :: s) mm o) (hK : wk_K sc d pp N W turn post c1 c2 h (n :: s, mm, o)) {y : Int32} (hst : df_step c1 c2 (n :: s, mm, o) = (s, mm, o ++ [n])) :
    xm_go (XE sc) (xm_T (XE sc) d) 97 post 115 [(6, .int y), (5, .int (nI n)), (4, .int (nI turn)), (3, .int (nI (s.length + 1))), (0, .ref 7), (1, .ref pp)] [] h' := by
  have e3 := hJ.2.2.1
  with_reducible refine xm_go_blk b_X5_walk_115 k_X5_walk_115 ?_
  refine by_aload_n rfl ?_
  refine by_getf cn_97 fl_5_15 (by first | exact rfl | assumption) (by decide) ?_
  refine by_iload rfl ?_
  refine by_aload_n rfl ?_
  refine by_getf cn_97 fl_5_44 (by first | exact rfl | assumption) (by decide) ?_
  simp (disch := first | exact Nat.ne_of_beq_eq_false rfl | omega) only [nI_add, xa_sub, xa_mul, pk_div, nm_mod, xa_shr, xa_and7, xa_and1, xa_and255, xa_by_and, nI_m1, Nat.add_sub_cancel, Nat.reducePow, Nat.zero_add, Nat.add_zero, Nat.reduceAdd, Nat.reduceMul, Nat.reduceSub, xf_same, xq_ff, xq_fo, xf_1, xf_2, xs_1, xs_2, xs_same, xq_so, xj_1, xj_2, xj_same, xq_jo, xq_sa1, xq_same, xq_other, upd_s, oI_n, oI_s, xf_7_0 hF', xf_7_1 hF', e3]
  refine by_iast (by first | exact rfl | assumption | exact ps_1 hpp | exact ps_2 hpp | exact ps_3 hpp | exact ps_4 hpp | exact ps_5 hpp | exact ps_6 hpp | exact ps_7 hpp | exact ps_8 hpp | exact ps_9 hpp | exact ps_10 hpp | exact ps_11 hpp | exact ps_15 hpp | exact ps_16 hpp | exact ps_17 hpp | exact ps_18 hpp | exact ps_19 hpp | exact ps_21 hpp | exact ps_22 hpp | exact ps_23 hpp | exact ps_24 hpp) ⟨by omega, by omega⟩ ?_
  refine by_aload_n rfl ?_
  refine by_getf cn_97 fl_5_9 (by first | exact rfl | assumption) (by decide) ?_
  refine by_aload_n rfl ?_
  refine by_getf cn_97 fl_5_44 (by first | exact rfl | assumption) (by decide) ?_
  refine by_iload rfl ?_
  simp (disch := first | exact Nat.ne_of_beq_eq_false rfl | omega) only [nI_add, xa_sub, xa_mul, pk_div, nm_mod, xa_shr, xa_and7, xa_and1, xa_and255, xa_by_and, nI_m1, Nat.add_sub_cancel, Nat.reducePow, Nat.zero_add, Nat.add_zero, Nat.reduceAdd, Nat.reduceMul, Nat.reduceSub, xf_same, xq_ff, xq_fo, xf_1, xf_2, xs_1, xs_2, xs_same, xq_so, xj_1, xj_2, xj_same, xq_jo, xq_sa1, xq_same, xq_other, upd_s, oI_n, oI_s, xf_7_0 hF', xf_7_1 hF', e3]
  refine by_iast (by first | exact rfl | assumption | exact ps_1 hpp | exact ps_2 hpp | exact ps_3 hpp | exact ps_4 hpp | exact ps_5 hpp | exact ps_6 hpp | exact ps_7 hpp | exact ps_8 hpp | exact ps_9 hpp | exact ps_10 hpp | exact ps_11 hpp | exact ps_15 hpp | exact ps_16 hpp | exact ps_17 hpp | exact ps_18 hpp | exact ps_19 hpp | exact ps_21 hpp | exact ps_22 hpp | exact ps_23 hpp | exact ps_24 hpp) ⟨by omega, by omega⟩ ?_
  refine by_aload_n rfl ?_
  refine by_dup rfl ?_
  refine by_getf cn_97 fl_5_44 (by first | exact rfl | assumption) (by decide) ?_
  refine by_iconst ci_1 ?_
  simp (disch := first | exact Nat.ne_of_beq_eq_false rfl | omega) only [nI_add, xa_sub, xa_mul, pk_div, nm_mod, xa_shr, xa_and7, xa_and1, xa_and255, xa_by_and, nI_m1, Nat.add_sub_cancel, Nat.reducePow, Nat.zero_add, Nat.add_zero, Nat.reduceAdd, Nat.reduceMul, Nat.reduceSub, xf_same, xq_ff, xq_fo, xf_1, xf_2, xs_1, xs_2, xs_same, xq_so, xj_1, xj_2, xj_same, xq_jo, xq_sa1, xq_same, xq_other, upd_s, oI_n, oI_s, xf_7_0 hF', xf_7_1 hF', e3]
  refine by_iadd ?_
  refine by_putf cn_97 fl_5_44 (by first | exact rfl | assumption) (by decide) nf_5_2 ft_5_2 (by first | rfl | assumption) (by first | rfl | assumption) ?_
  refine by_iinc (by rw [ml_97]; decide) rfl ci_m1 ?_
  refine by_goto 175 rfl ?_
  simp (disch := first | exact Nat.ne_of_beq_eq_false rfl | omega) only [nI_add, xa_sub, xa_mul, pk_div, nm_mod, xa_shr, xa_and7, xa_and1, xa_and255, xa_by_and, nI_m1, Nat.add_sub_cancel, Nat.reducePow, Nat.zero_add, Nat.add_zero, Nat.reduceAdd, Nat.reduceMul, Nat.reduceSub, xf_same, xq_ff, xq_fo, xf_1, xf_2, xs_1, xs_2, xs_same, xq_so, xj_1, xj_2, xj_same, xq_jo, xq_sa1, xq_same, xq_other, upd_s, oI_n, oI_s, xv_0, xv_1, xv_2, xv_3, xm_p1, xm_p2, List.filter_cons, List.filter_nil, Nat.reduceBEq, Bool.not_true, Bool.not_false, Bool.and_true, Bool.and_false, Bool.false_and, Bool.true_and, if_true, if_false, Bool.false_eq_true, reduceIte, xc_i, xc_j, xc_r, xc_n, List.nil_append, List.cons_append, Option.toList_some, Option.toList_none, xf_7_0 hF', xf_7_1 hF', e3]
  with_reducible refine xm_go_blk b_X5_walk_175 k_X5_walk_175 ?_
  refine by_iinc (by rw [ml_97]; decide) rfl ci_1 ?_
  refine by_goto 37 rfl ?_
  simp (disch := first | exact Nat.ne_of_beq_eq_false rfl | omega) only [nI_add, xa_sub, xa_mul, pk_div, nm_mod, xa_shr, xa_and7, xa_and1, xa_and255, xa_by_and, nI_m1, Nat.add_sub_cancel, Nat.reducePow, Nat.zero_add, Nat.add_zero, Nat.reduceAdd, Nat.reduceMul, Nat.reduceSub, xf_same, xq_ff, xq_fo, xf_1, xf_2, xs_1, xs_2, xs_same, xq_so, xj_1, xj_2, xj_same, xq_jo, xq_sa1, xq_same, xq_other, upd_s, oI_n, oI_s, xv_0, xv_1, xv_2, xv_3, xm_p1, xm_p2, List.filter_cons, List.filter_nil, Nat.reduceBEq, Bool.not_true, Bool.not_false, Bool.and_true, Bool.and_false, Bool.false_and, Bool.true_and, if_true, if_false, Bool.false_eq_true, reduceIte, xc_i, xc_j, xc_r, xc_n, List.nil_append, List.cons_append, Option.toList_some, Option.toList_none, xf_7_0 hF', xf_7_1 hF', e3]
  refine xm_go_wk ?_ (hK _ _ _ _ (wk_pop hno hJ) hst)
  intro q hq
  simp only [List.mem_cons, List.not_mem_nil, or_false] at hq ⊢
  rcases hq with rfl | rfl | rfl | rfl <;> simp
theorem wk_s87 (hF' : XF h') (hpp : pp = 52 ∨ pp = 77) (hn : n < N) (hN : N ≤ 2000) (hcN : df_cN c1 c2 N) (e2 : h'.1 (pp + 3) n = oI (c2 n)) (hJ : wk_J c1 c2 N W h h' (n :: s) mm o) {y : Int32}
    (hpush : ∀ x, x < N → mm x = false → df_nx mm (c2 n) = some x → xm_go (XE sc) (xm_T (XE sc) d) 97 post 96 [(6, .int (nI x)), (5, .int (nI n)), (4, .int (nI turn)), (3, .int (nI (s.length + 1))), (0, .ref 7), (1, .ref pp)] [] h')
    (hpop : ∀ y : Int32, df_nx mm (c2 n) = none → xm_go (XE sc) (xm_T (XE sc) d) 97 post 115 [(6, .int y), (5, .int (nI n)), (4, .int (nI turn)), (3, .int (nI (s.length + 1))), (0, .ref 7), (1, .ref pp)] [] h') :
    xm_go (XE sc) (xm_T (XE sc) d) 97 post 87 [(6, .int y), (5, .int (nI n)), (4, .int (nI turn)), (3, .int (nI (s.length + 1))), (0, .ref 7), (1, .ref pp)] [] h' := by
  have e9 := hJ.2.1
  cases hc : c2 n with
  | none =>
    rw [hc] at e2
    with_reducible refine xm_go_blk b_X5_walk_87 k_X5_walk_87 ?_
    refine by_aload_n rfl ?_
    refine by_getf cn_97 fl_5_52 (by first | exact rfl | assumption | exact ps_0 hpp) (by decide) ?_
    refine by_iload rfl ?_
    simp (disch := first | exact Nat.ne_of_beq_eq_false rfl | omega) only [nI_add, xa_sub, xa_mul, pk_div, nm_mod, xa_shr, xa_and7, xa_and1, xa_and255, xa_by_and, nI_m1, Nat.add_sub_cancel, Nat.reducePow, Nat.zero_add, Nat.add_zero, Nat.reduceAdd, Nat.reduceMul, Nat.reduceSub, xf_same, xq_ff, xq_fo, xf_1, xf_2, xs_1, xs_2, xs_same, xq_so, xj_1, xj_2, xj_same, xq_jo, xq_sa1, xq_same, xq_other, upd_s, oI_n, oI_s, pf_3 hF' hpp, ps_0 hpp, ps_3 hpp, e2]
    first | refine by_iald (by first | exact rfl | assumption | exact ps_1 hpp | exact ps_2 hpp | exact ps_3 hpp | exact ps_4 hpp | exact ps_5 hpp | exact ps_6 hpp | exact ps_7 hpp | exact ps_8 hpp | exact ps_9 hpp | exact ps_10 hpp | exact ps_11 hpp | exact ps_15 hpp | exact ps_16 hpp | exact ps_17 hpp | exact ps_18 hpp | exact ps_19 hpp | exact ps_21 hpp | exact ps_22 hpp | exact ps_23 hpp | exact ps_24 hpp) ⟨by omega, by omega⟩ ?_ | refine by_tald rfl rfl ⟨by omega, by omega⟩ ?_
    refine by_istore (by rw [ml_97]; decide) ?_
    refine by_nil ?_
    simp (disch := first | exact Nat.ne_of_beq_eq_false rfl | omega) only [nI_add, xa_sub, xa_mul, pk_div, nm_mod, xa_shr, xa_and7, xa_and1, xa_and255, xa_by_and, nI_m1, Nat.add_sub_cancel, Nat.reducePow, Nat.zero_add, Nat.add_zero, Nat.reduceAdd, Nat.reduceMul, Nat.reduceSub, xf_same, xq_ff, xq_fo, xf_1, xf_2, xs_1, xs_2, xs_same, xq_so, xj_1, xj_2, xj_same, xq_jo, xq_sa1, xq_same, xq_other, upd_s, oI_n, oI_s, xv_0, xv_1, xv_2, xv_3, xm_p1, xm_p2, List.filter_cons, List.filter_nil, Nat.reduceBEq, Bool.not_true, Bool.not_false, Bool.and_true, Bool.and_false, Bool.false_and, Bool.true_and, if_true, if_false, Bool.false_eq_true, reduceIte, xc_i, xc_j, xc_r, xc_n, List.nil_append, List.cons_append, Option.toList_some, Option.toList_none, pf_3 hF' hpp, ps_0 hpp, ps_3 hpp, e2]
    with_reducible refine xm_go_blk b_X5_walk_96 k_X5_walk_96 ?_
    refine by_iload rfl ?_
    refine by_if_lt 115 rfl ?_
    simp (disch := first | exact Nat.ne_of_beq_eq_false rfl | omega) only [nI_add, xa_sub, xa_mul, pk_div, nm_mod, xa_shr, xa_and7, xa_and1, xa_and255, xa_by_and, nI_m1, Nat.add_sub_cancel, Nat.reducePow, Nat.zero_add, Nat.add_zero, Nat.reduceAdd, Nat.reduceMul, Nat.reduceSub, xf_same, xq_ff, xq_fo, xf_1, xf_2, xs_1, xs_2, xs_same, xq_so, xj_1, xj_2, xj_same, xq_jo, xq_sa1, xq_same, xq_other, upd_s, oI_n, oI_s, xv_0, xv_1, xv_2, xv_3, xm_p1, xm_p2, List.filter_cons, List.filter_nil, Nat.reduceBEq, Bool.not_true, Bool.not_false, Bool.and_true, Bool.and_false, Bool.false_and, Bool.true_and, if_true, if_false, Bool.false_eq_true, reduceIte, xc_i, xc_j, xc_r, xc_n, List.nil_append, List.cons_append, Option.toList_some, Option.toList_none, nI_ltJ, nI_leJ, nI_eqJ, nI_ltz, nI_gez, nI_gtz, nI_lez, nI_eqz, m1_ltz, m1_gez, true_imp_iff, false_imp_iff, true_and, and_true, ne_eq, not_false_eq_true, not_true_eq_false, Nat.reduceEqDiff, Nat.reduceLT, Nat.reduceLeDiff, pf_3 hF' hpp, ps_0 hpp, ps_3 hpp, e2]
    exact hpop _ (by rw [hc]; rfl)
  | some x =>
    rw [hc] at e2
    have hx : x < N := hcN n hn x (Or.inr hc)
    by_cases hmx : mm x = true
    · have em : h'.1 10 x = nI (W + 1) := by rw [hJ.2.2.2.2.2.2.1 x hx]; exact hmx
      with_reducible refine xm_go_blk b_X5_walk_87 k_X5_walk_87 ?_
      refine by_aload_n rfl ?_
      refine by_getf cn_97 fl_5_52 (by first | exact rfl | assumption | exact ps_0 hpp) (by decide) ?_
      refine by_iload rfl ?_
      simp (disch := first | exact Nat.ne_of_beq_eq_false rfl | omega) only [nI_add, xa_sub, xa_mul, pk_div, nm_mod, xa_shr, xa_and7, xa_and1, xa_and255, xa_by_and, nI_m1, Nat.add_sub_cancel, Nat.reducePow, Nat.zero_add, Nat.add_zero, Nat.reduceAdd, Nat.reduceMul, Nat.reduceSub, xf_same, xq_ff, xq_fo, xf_1, xf_2, xs_1, xs_2, xs_same, xq_so, xj_1, xj_2, xj_same, xq_jo, xq_sa1, xq_same, xq_other, upd_s, oI_n, oI_s, pf_3 hF' hpp, ps_0 hpp, ps_3 hpp, e2, xf_7_3 hF', e9, em]
      first | refine by_iald (by first | exact rfl | assumption | exact ps_1 hpp | exact ps_2 hpp | exact ps_3 hpp | exact ps_4 hpp | exact ps_5 hpp | exact ps_6 hpp | exact ps_7 hpp | exact ps_8 hpp | exact ps_9 hpp | exact ps_10 hpp | exact ps_11 hpp | exact ps_15 hpp | exact ps_16 hpp | exact ps_17 hpp | exact ps_18 hpp | exact ps_19 hpp | exact ps_21 hpp | exact ps_22 hpp | exact ps_23 hpp | exact ps_24 hpp) ⟨by omega, by omega⟩ ?_ | refine by_tald rfl rfl ⟨by omega, by omega⟩ ?_
      refine by_istore (by rw [ml_97]; decide) ?_
      refine by_nil ?_
      simp (disch := first | exact Nat.ne_of_beq_eq_false rfl | omega) only [nI_add, xa_sub, xa_mul, pk_div, nm_mod, xa_shr, xa_and7, xa_and1, xa_and255, xa_by_and, nI_m1, Nat.add_sub_cancel, Nat.reducePow, Nat.zero_add, Nat.add_zero, Nat.reduceAdd, Nat.reduceMul, Nat.reduceSub, xf_same, xq_ff, xq_fo, xf_1, xf_2, xs_1, xs_2, xs_same, xq_so, xj_1, xj_2, xj_same, xq_jo, xq_sa1, xq_same, xq_other, upd_s, oI_n, oI_s, xv_0, xv_1, xv_2, xv_3, xm_p1, xm_p2, List.filter_cons, List.filter_nil, Nat.reduceBEq, Bool.not_true, Bool.not_false, Bool.and_true, Bool.and_false, Bool.false_and, Bool.true_and, if_true, if_false, Bool.false_eq_true, reduceIte, xc_i, xc_j, xc_r, xc_n, List.nil_append, List.cons_append, Option.toList_some, Option.toList_none, pf_3 hF' hpp, ps_0 hpp, ps_3 hpp, e2, xf_7_3 hF', e9, em]
      with_reducible refine xm_go_blk b_X5_walk_96 k_X5_walk_96 ?_
      refine by_iload rfl ?_
      refine by_if_lt 115 rfl ?_
      simp (disch := first | exact Nat.ne_of_beq_eq_false rfl | omega) only [nI_add, xa_sub, xa_mul, pk_div, nm_mod, xa_shr, xa_and7, xa_and1, xa_and255, xa_by_and, nI_m1, Nat.add_sub_cancel, Nat.reducePow, Nat.zero_add, Nat.add_zero, Nat.reduceAdd, Nat.reduceMul, Nat.reduceSub, xf_same, xq_ff, xq_fo, xf_1, xf_2, xs_1, xs_2, xs_same, xq_so, xj_1, xj_2, xj_same, xq_jo, xq_sa1, xq_same, xq_other, upd_s, oI_n, oI_s, xv_0, xv_1, xv_2, xv_3, xm_p1, xm_p2, List.filter_cons, List.filter_nil, Nat.reduceBEq, Bool.not_true, Bool.not_false, Bool.and_true, Bool.and_false, Bool.false_and, Bool.true_and, if_true, if_false, Bool.false_eq_true, reduceIte, xc_i, xc_j, xc_r, xc_n, List.nil_append, List.cons_append, Option.toList_some, Option.toList_none, nI_ltJ, nI_leJ, nI_eqJ, nI_ltz, nI_gez, nI_gtz, nI_lez, nI_eqz, m1_ltz, m1_gez, true_imp_iff, false_imp_iff, true_and, and_true, ne_eq, not_false_eq_true, not_true_eq_false, Nat.reduceEqDiff, Nat.reduceLT, Nat.reduceLeDiff, pf_3 hF' hpp, ps_0 hpp, ps_3 hpp, e2, xf_7_3 hF', e9, em]
      with_reducible refine xm_go_blk b_X5_walk_101 k_X5_walk_101 ?_
      refine by_aload_n rfl ?_
      refine by_getf cn_97 fl_5_18 (by first | exact rfl | assumption) (by decide) ?_
      refine by_iload rfl ?_
      simp (disch := first | exact Nat.ne_of_beq_eq_false rfl | omega) only [nI_add, xa_sub, xa_mul, pk_div, nm_mod, xa_shr, xa_and7, xa_and1, xa_and255, xa_by_and, nI_m1, Nat.add_sub_cancel, Nat.reducePow, Nat.zero_add, Nat.add_zero, Nat.reduceAdd, Nat.reduceMul, Nat.reduceSub, xf_same, xq_ff, xq_fo, xf_1, xf_2, xs_1, xs_2, xs_same, xq_so, xj_1, xj_2, xj_same, xq_jo, xq_sa1, xq_same, xq_other, upd_s, oI_n, oI_s, pf_3 hF' hpp, ps_0 hpp, ps_3 hpp, e2, xf_7_3 hF', e9, em]
      first | refine by_iald (by first | exact rfl | assumption | exact ps_1 hpp | exact ps_2 hpp | exact ps_3 hpp | exact ps_4 hpp | exact ps_5 hpp | exact ps_6 hpp | exact ps_7 hpp | exact ps_8 hpp | exact ps_9 hpp | exact ps_10 hpp | exact ps_11 hpp | exact ps_15 hpp | exact ps_16 hpp | exact ps_17 hpp | exact ps_18 hpp | exact ps_19 hpp | exact ps_21 hpp | exact ps_22 hpp | exact ps_23 hpp | exact ps_24 hpp) ⟨by omega, by omega⟩ ?_ | refine by_tald rfl rfl ⟨by omega, by omega⟩ ?_
      refine by_aload_n rfl ?_
      refine by_getf cn_97 fl_5_40 (by first | exact rfl | assumption) (by decide) ?_
      simp (disch := first | exact Nat.ne_of_beq_eq_false rfl | omega) only [nI_add, xa_sub, xa_mul, pk_div, nm_mod, xa_shr, xa_and7, xa_and1, xa_and255, xa_by_and, nI_m1, Nat.add_sub_cancel, Nat.reducePow, Nat.zero_add, Nat.add_zero, Nat.reduceAdd, Nat.reduceMul, Nat.reduceSub, xf_same, xq_ff, xq_fo, xf_1, xf_2, xs_1, xs_2, xs_same, xq_so, xj_1, xj_2, xj_same, xq_jo, xq_sa1, xq_same, xq_other, upd_s, oI_n, oI_s, pf_3 hF' hpp, ps_0 hpp, ps_3 hpp, e2, xf_7_3 hF', e9, em]
      refine by_ic_ne 153 rfl ?_
      simp (disch := first | exact Nat.ne_of_beq_eq_false rfl | omega) only [nI_add, xa_sub, xa_mul, pk_div, nm_mod, xa_shr, xa_and7, xa_and1, xa_and255, xa_by_and, nI_m1, Nat.add_sub_cancel, Nat.reducePow, Nat.zero_add, Nat.add_zero, Nat.reduceAdd, Nat.reduceMul, Nat.reduceSub, xf_same, xq_ff, xq_fo, xf_1, xf_2, xs_1, xs_2, xs_same, xq_so, xj_1, xj_2, xj_same, xq_jo, xq_sa1, xq_same, xq_other, upd_s, oI_n, oI_s, xv_0, xv_1, xv_2, xv_3, xm_p1, xm_p2, List.filter_cons, List.filter_nil, Nat.reduceBEq, Bool.not_true, Bool.not_false, Bool.and_true, Bool.and_false, Bool.false_and, Bool.true_and, if_true, if_false, Bool.false_eq_true, reduceIte, xc_i, xc_j, xc_r, xc_n, List.nil_append, List.cons_append, Option.toList_some, Option.toList_none, nI_ltJ, nI_leJ, nI_eqJ, nI_ltz, nI_gez, nI_gtz, nI_lez, nI_eqz, m1_ltz, m1_gez, true_imp_iff, false_imp_iff, true_and, and_true, ne_eq, not_false_eq_true, not_true_eq_false, Nat.reduceEqDiff, Nat.reduceLT, Nat.reduceLeDiff, pf_3 hF' hpp, ps_0 hpp, ps_3 hpp, e2, xf_7_3 hF', e9, em]
      exact hpop _ (by rw [hc]; simp [df_nx, hmx])
    · have hmx : mm x = false := by simpa using hmx
      with_reducible refine xm_go_blk b_X5_walk_87 k_X5_walk_87 ?_
      refine by_aload_n rfl ?_
      refine by_getf cn_97 fl_5_52 (by first | exact rfl | assumption | exact ps_0 hpp) (by decide) ?_
      refine by_iload rfl ?_
      simp (disch := first | exact Nat.ne_of_beq_eq_false rfl | omega) only [nI_add, xa_sub, xa_mul, pk_div, nm_mod, xa_shr, xa_and7, xa_and1, xa_and255, xa_by_and, nI_m1, Nat.add_sub_cancel, Nat.reducePow, Nat.zero_add, Nat.add_zero, Nat.reduceAdd, Nat.reduceMul, Nat.reduceSub, xf_same, xq_ff, xq_fo, xf_1, xf_2, xs_1, xs_2, xs_same, xq_so, xj_1, xj_2, xj_same, xq_jo, xq_sa1, xq_same, xq_other, upd_s, oI_n, oI_s, pf_3 hF' hpp, ps_0 hpp, ps_3 hpp, e2]
      first | refine by_iald (by first | exact rfl | assumption | exact ps_1 hpp | exact ps_2 hpp | exact ps_3 hpp | exact ps_4 hpp | exact ps_5 hpp | exact ps_6 hpp | exact ps_7 hpp | exact ps_8 hpp | exact ps_9 hpp | exact ps_10 hpp | exact ps_11 hpp | exact ps_15 hpp | exact ps_16 hpp | exact ps_17 hpp | exact ps_18 hpp | exact ps_19 hpp | exact ps_21 hpp | exact ps_22 hpp | exact ps_23 hpp | exact ps_24 hpp) ⟨by omega, by omega⟩ ?_ | refine by_tald rfl rfl ⟨by omega, by omega⟩ ?_
      refine by_istore (by rw [ml_97]; decide) ?_
      refine by_nil ?_
      simp (disch := first | exact Nat.ne_of_beq_eq_false rfl | omega) only [nI_add, xa_sub, xa_mul, pk_div, nm_mod, xa_shr, xa_and7, xa_and1, xa_and255, xa_by_and, nI_m1, Nat.add_sub_cancel, Nat.reducePow, Nat.zero_add, Nat.add_zero, Nat.reduceAdd, Nat.reduceMul, Nat.reduceSub, xf_same, xq_ff, xq_fo, xf_1, xf_2, xs_1, xs_2, xs_same, xq_so, xj_1, xj_2, xj_same, xq_jo, xq_sa1, xq_same, xq_other, upd_s, oI_n, oI_s, xv_0, xv_1, xv_2, xv_3, xm_p1, xm_p2, List.filter_cons, List.filter_nil, Nat.reduceBEq, Bool.not_true, Bool.not_false, Bool.and_true, Bool.and_false, Bool.false_and, Bool.true_and, if_true, if_false, Bool.false_eq_true, reduceIte, xc_i, xc_j, xc_r, xc_n, List.nil_append, List.cons_append, Option.toList_some, Option.toList_none, pf_3 hF' hpp, ps_0 hpp, ps_3 hpp, e2]
      exact hpush x hx hmx (by rw [hc]; simp [df_nx, hmx])
theorem wk_s37 (hF' : XF h') (hpp : pp = 52 ∨ pp = 77) (hn : n < N) (hN : N ≤ 2000) (hlen : s.length + 1 + o.length ≤ N) (htu : turn < 4000) (hcN : df_cN c1 c2 N) (e1 : h'.1 (pp + 2) n = oI (c1 n)) (hJ : wk_J c1 c2 N W h h' (n :: s) mm o)
    (hpush : ∀ x, x < N → mm x = false → df_nx mm (c1 n) = some x → xm_go (XE sc) (xm_T (XE sc) d) 97 post 96 [(6, .int (nI x)), (5, .int (nI n)), (4, .int (nI turn)), (3, .int (nI (s.length + 1))), (0, .ref 7), (1, .ref pp)] [] h')
    (hsec : ∀ y : Int32, df_nx mm (c1 n) = none → xm_go (XE sc) (xm_T (XE sc) d) 97 post 87 [(6, .int y), (5, .int (nI n)), (4, .int (nI turn)), (3, .int (nI (s.length + 1))), (0, .ref 7), (1, .ref pp)] [] h') :
    xm_go (XE sc) (xm_T (XE sc) d) 97 post 37 [(4, .int (nI turn)), (3, .int (nI (s.length + 1))), (0, .ref 7), (1, .ref pp)] [] h' := by
  have e9 := hJ.2.1
  have e5 : h'.1 11 s.length = nI n := by
    have := hJ.2.2.2.2.2.1 0 (by simp)
    simpa using this
  cases hc : c1 n with
  | none =>
    rw [hc] at e1
    with_reducible refine xm_go_blk b_X5_walk_37 k_X5_walk_37 ?_
    refine by_iload rfl ?_
    refine by_sipush cs_4000 ?_
    refine by_ic_ge 181 rfl ?_
    simp (disch := first | exact Nat.ne_of_beq_eq_false rfl | omega) only [nI_add, xa_sub, xa_mul, pk_div, nm_mod, xa_shr, xa_and7, xa_and1, xa_and255, xa_by_and, nI_m1, Nat.add_sub_cancel, Nat.reducePow, Nat.zero_add, Nat.add_zero, Nat.reduceAdd, Nat.reduceMul, Nat.reduceSub, xf_same, xq_ff, xq_fo, xf_1, xf_2, xs_1, xs_2, xs_same, xq_so, xj_1, xj_2, xj_same, xq_jo, xq_sa1, xq_same, xq_other, upd_s, oI_n, oI_s, xv_0, xv_1, xv_2, xv_3, xm_p1, xm_p2, List.filter_cons, List.filter_nil, Nat.reduceBEq, Bool.not_true, Bool.not_false, Bool.and_true, Bool.and_false, Bool.false_and, Bool.true_and, if_true, if_false, Bool.false_eq_true, reduceIte, xc_i, xc_j, xc_r, xc_n, List.nil_append, List.cons_append, Option.toList_some, Option.toList_none, nI_ltJ, nI_leJ, nI_eqJ, nI_ltz, nI_gez, nI_gtz, nI_lez, nI_eqz, m1_ltz, m1_gez, true_imp_iff, false_imp_iff, true_and, and_true, ne_eq, not_false_eq_true, not_true_eq_false, Nat.reduceEqDiff, Nat.reduceLT, Nat.reduceLeDiff, xf_7_4 hF', e5, pf_2 hF' hpp, ps_0 hpp, ps_2 hpp, e1]
    refine ⟨fun c => absurd c (by omega), fun c37 => ?_⟩
    with_reducible refine xm_go_blk b_X5_walk_45 k_X5_walk_45 ?_
    refine by_iload_n rfl ?_
    refine by_if_le 181 rfl ?_
    simp (disch := first | exact Nat.ne_of_beq_eq_false rfl | omega) only [nI_add, xa_sub, xa_mul, pk_div, nm_mod, xa_shr, xa_and7, xa_and1, xa_and255, xa_by_and, nI_m1, Nat.add_sub_cancel, Nat.reducePow, Nat.zero_add, Nat.add_zero, Nat.reduceAdd, Nat.reduceMul, Nat.reduceSub, xf_same, xq_ff, xq_fo, xf_1, xf_2, xs_1, xs_2, xs_same, xq_so, xj_1, xj_2, xj_same, xq_jo, xq_sa1, xq_same, xq_other, upd_s, oI_n, oI_s, xv_0, xv_1, xv_2, xv_3, xm_p1, xm_p2, List.filter_cons, List.filter_nil, Nat.reduceBEq, Bool.not_true, Bool.not_false, Bool.and_true, Bool.and_false, Bool.false_and, Bool.true_and, if_true, if_false, Bool.false_eq_true, reduceIte, xc_i, xc_j, xc_r, xc_n, List.nil_append, List.cons_append, Option.toList_some, Option.toList_none, nI_ltJ, nI_leJ, nI_eqJ, nI_ltz, nI_gez, nI_gtz, nI_lez, nI_eqz, m1_ltz, m1_gez, true_imp_iff, false_imp_iff, true_and, and_true, ne_eq, not_false_eq_true, not_true_eq_false, Nat.reduceEqDiff, Nat.reduceLT, Nat.reduceLeDiff, xf_7_4 hF', e5, pf_2 hF' hpp, ps_0 hpp, ps_2 hpp, e1]
    with_reducible refine xm_go_blk b_X5_walk_49 k_X5_walk_49 ?_
    refine by_aload_n rfl ?_
    refine by_getf cn_97 fl_5_21 (by first | exact rfl | assumption) (by decide) ?_
    refine by_iload_n rfl ?_
    refine by_iconst ci_1 ?_
    refine by_isub ?_
    simp (disch := first | exact Nat.ne_of_beq_eq_false rfl | omega) only [nI_add, xa_sub, xa_mul, pk_div, nm_mod, xa_shr, xa_and7, xa_and1, xa_and255, xa_by_and, nI_m1, Nat.add_sub_cancel, Nat.reducePow, Nat.zero_add, Nat.add_zero, Nat.reduceAdd, Nat.reduceMul, Nat.reduceSub, xf_same, xq_ff, xq_fo, xf_1, xf_2, xs_1, xs_2, xs_same, xq_so, xj_1, xj_2, xj_same, xq_jo, xq_sa1, xq_same, xq_other, upd_s, oI_n, oI_s, xf_7_4 hF', e5, pf_2 hF' hpp, ps_0 hpp, ps_2 hpp, e1]
    first | refine by_iald (by first | exact rfl | assumption | exact ps_1 hpp | exact ps_2 hpp | exact ps_3 hpp | exact ps_4 hpp | exact ps_5 hpp | exact ps_6 hpp | exact ps_7 hpp | exact ps_8 hpp | exact ps_9 hpp | exact ps_10 hpp | exact ps_11 hpp | exact ps_15 hpp | exact ps_16 hpp | exact ps_17 hpp | exact ps_18 hpp | exact ps_19 hpp | exact ps_21 hpp | exact ps_22 hpp | exact ps_23 hpp | exact ps_24 hpp) ⟨by omega, by omega⟩ ?_ | refine by_tald rfl rfl ⟨by omega, by omega⟩ ?_
    refine by_istore (by rw [ml_97]; decide) ?_
    refine by_aload_n rfl ?_
    refine by_getf cn_97 fl_5_47 (by first | exact rfl | assumption | exact ps_0 hpp) (by decide) ?_
    refine by_iload rfl ?_
    simp (disch := first | exact Nat.ne_of_beq_eq_false rfl | omega) only [nI_add, xa_sub, xa_mul, pk_div, nm_mod, xa_shr, xa_and7, xa_and1, xa_and255, xa_by_and, nI_m1, Nat.add_sub_cancel, Nat.reducePow, Nat.zero_add, Nat.add_zero, Nat.reduceAdd, Nat.reduceMul, Nat.reduceSub, xf_same, xq_ff, xq_fo, xf_1, xf_2, xs_1, xs_2, xs_same, xq_so, xj_1, xj_2, xj_same, xq_jo, xq_sa1, xq_same, xq_other, upd_s, oI_n, oI_s, xf_7_4 hF', e5, pf_2 hF' hpp, ps_0 hpp, ps_2 hpp, e1]
    first | refine by_iald (by first | exact rfl | assumption | exact ps_1 hpp | exact ps_2 hpp | exact ps_3 hpp | exact ps_4 hpp | exact ps_5 hpp | exact ps_6 hpp | exact ps_7 hpp | exact ps_8 hpp | exact ps_9 hpp | exact ps_10 hpp | exact ps_11 hpp | exact ps_15 hpp | exact ps_16 hpp | exact ps_17 hpp | exact ps_18 hpp | exact ps_19 hpp | exact ps_21 hpp | exact ps_22 hpp | exact ps_23 hpp | exact ps_24 hpp) ⟨by omega, by omega⟩ ?_ | refine by_tald rfl rfl ⟨by omega, by omega⟩ ?_
    refine by_istore (by rw [ml_97]; decide) ?_
    refine by_iload rfl ?_
    refine by_if_lt 87 rfl ?_
    simp (disch := first | exact Nat.ne_of_beq_eq_false rfl | omega) only [nI_add, xa_sub, xa_mul, pk_div, nm_mod, xa_shr, xa_and7, xa_and1, xa_and255, xa_by_and, nI_m1, Nat.add_sub_cancel, Nat.reducePow, Nat.zero_add, Nat.add_zero, Nat.reduceAdd, Nat.reduceMul, Nat.reduceSub, xf_same, xq_ff, xq_fo, xf_1, xf_2, xs_1, xs_2, xs_same, xq_so, xj_1, xj_2, xj_same, xq_jo, xq_sa1, xq_same, xq_other, upd_s, oI_n, oI_s, xv_0, xv_1, xv_2, xv_3, xm_p1, xm_p2, List.filter_cons, List.filter_nil, Nat.reduceBEq, Bool.not_true, Bool.not_false, Bool.and_true, Bool.and_false, Bool.false_and, Bool.true_and, if_true, if_false, Bool.false_eq_true, reduceIte, xc_i, xc_j, xc_r, xc_n, List.nil_append, List.cons_append, Option.toList_some, Option.toList_none, nI_ltJ, nI_leJ, nI_eqJ, nI_ltz, nI_gez, nI_gtz, nI_lez, nI_eqz, m1_ltz, m1_gez, true_imp_iff, false_imp_iff, true_and, and_true, ne_eq, not_false_eq_true, not_true_eq_false, Nat.reduceEqDiff, Nat.reduceLT, Nat.reduceLeDiff, xf_7_4 hF', e5, pf_2 hF' hpp, ps_0 hpp, ps_2 hpp, e1]
    exact hsec _ (by rw [hc]; rfl)
  | some x =>
    rw [hc] at e1
    have hx : x < N := hcN n hn x (Or.inl hc)
    by_cases hmx : mm x = true
    · have em : h'.1 10 x = nI (W + 1) := by rw [hJ.2.2.2.2.2.2.1 x hx]; exact hmx
      with_reducible refine xm_go_blk b_X5_walk_37 k_X5_walk_37 ?_
      refine by_iload rfl ?_
      refine by_sipush cs_4000 ?_
      refine by_ic_ge 181 rfl ?_
      simp (disch := first | exact Nat.ne_of_beq_eq_false rfl | omega) only [nI_add, xa_sub, xa_mul, pk_div, nm_mod, xa_shr, xa_and7, xa_and1, xa_and255, xa_by_and, nI_m1, Nat.add_sub_cancel, Nat.reducePow, Nat.zero_add, Nat.add_zero, Nat.reduceAdd, Nat.reduceMul, Nat.reduceSub, xf_same, xq_ff, xq_fo, xf_1, xf_2, xs_1, xs_2, xs_same, xq_so, xj_1, xj_2, xj_same, xq_jo, xq_sa1, xq_same, xq_other, upd_s, oI_n, oI_s, xv_0, xv_1, xv_2, xv_3, xm_p1, xm_p2, List.filter_cons, List.filter_nil, Nat.reduceBEq, Bool.not_true, Bool.not_false, Bool.and_true, Bool.and_false, Bool.false_and, Bool.true_and, if_true, if_false, Bool.false_eq_true, reduceIte, xc_i, xc_j, xc_r, xc_n, List.nil_append, List.cons_append, Option.toList_some, Option.toList_none, nI_ltJ, nI_leJ, nI_eqJ, nI_ltz, nI_gez, nI_gtz, nI_lez, nI_eqz, m1_ltz, m1_gez, true_imp_iff, false_imp_iff, true_and, and_true, ne_eq, not_false_eq_true, not_true_eq_false, Nat.reduceEqDiff, Nat.reduceLT, Nat.reduceLeDiff, xf_7_4 hF', e5, pf_2 hF' hpp, ps_0 hpp, ps_2 hpp, e1, xf_7_3 hF', e9, em]
      refine ⟨fun c => absurd c (by omega), fun c37 => ?_⟩
      with_reducible refine xm_go_blk b_X5_walk_45 k_X5_walk_45 ?_
      refine by_iload_n rfl ?_
      refine by_if_le 181 rfl ?_
      simp (disch := first | exact Nat.ne_of_beq_eq_false rfl | omega) only [nI_add, xa_sub, xa_mul, pk_div, nm_mod, xa_shr, xa_and7, xa_and1, xa_and255, xa_by_and, nI_m1, Nat.add_sub_cancel, Nat.reducePow, Nat.zero_add, Nat.add_zero, Nat.reduceAdd, Nat.reduceMul, Nat.reduceSub, xf_same, xq_ff, xq_fo, xf_1, xf_2, xs_1, xs_2, xs_same, xq_so, xj_1, xj_2, xj_same, xq_jo, xq_sa1, xq_same, xq_other, upd_s, oI_n, oI_s, xv_0, xv_1, xv_2, xv_3, xm_p1, xm_p2, List.filter_cons, List.filter_nil, Nat.reduceBEq, Bool.not_true, Bool.not_false, Bool.and_true, Bool.and_false, Bool.false_and, Bool.true_and, if_true, if_false, Bool.false_eq_true, reduceIte, xc_i, xc_j, xc_r, xc_n, List.nil_append, List.cons_append, Option.toList_some, Option.toList_none, nI_ltJ, nI_leJ, nI_eqJ, nI_ltz, nI_gez, nI_gtz, nI_lez, nI_eqz, m1_ltz, m1_gez, true_imp_iff, false_imp_iff, true_and, and_true, ne_eq, not_false_eq_true, not_true_eq_false, Nat.reduceEqDiff, Nat.reduceLT, Nat.reduceLeDiff, xf_7_4 hF', e5, pf_2 hF' hpp, ps_0 hpp, ps_2 hpp, e1, xf_7_3 hF', e9, em]
      with_reducible refine xm_go_blk b_X5_walk_49 k_X5_walk_49 ?_
      refine by_aload_n rfl ?_
      refine by_getf cn_97 fl_5_21 (by first | exact rfl | assumption) (by decide) ?_
      refine by_iload_n rfl ?_
      refine by_iconst ci_1 ?_
      refine by_isub ?_
      simp (disch := first | exact Nat.ne_of_beq_eq_false rfl | omega) only [nI_add, xa_sub, xa_mul, pk_div, nm_mod, xa_shr, xa_and7, xa_and1, xa_and255, xa_by_and, nI_m1, Nat.add_sub_cancel, Nat.reducePow, Nat.zero_add, Nat.add_zero, Nat.reduceAdd, Nat.reduceMul, Nat.reduceSub, xf_same, xq_ff, xq_fo, xf_1, xf_2, xs_1, xs_2, xs_same, xq_so, xj_1, xj_2, xj_same, xq_jo, xq_sa1, xq_same, xq_other, upd_s, oI_n, oI_s, xf_7_4 hF', e5, pf_2 hF' hpp, ps_0 hpp, ps_2 hpp, e1, xf_7_3 hF', e9, em]
      first | refine by_iald (by first | exact rfl | assumption | exact ps_1 hpp | exact ps_2 hpp | exact ps_3 hpp | exact ps_4 hpp | exact ps_5 hpp | exact ps_6 hpp | exact ps_7 hpp | exact ps_8 hpp | exact ps_9 hpp | exact ps_10 hpp | exact ps_11 hpp | exact ps_15 hpp | exact ps_16 hpp | exact ps_17 hpp | exact ps_18 hpp | exact ps_19 hpp | exact ps_21 hpp | exact ps_22 hpp | exact ps_23 hpp | exact ps_24 hpp) ⟨by omega, by omega⟩ ?_ | refine by_tald rfl rfl ⟨by omega, by omega⟩ ?_
      refine by_istore (by rw [ml_97]; decide) ?_
      refine by_aload_n rfl ?_
      refine by_getf cn_97 fl_5_47 (by first | exact rfl | assumption | exact ps_0 hpp) (by decide) ?_
      refine by_iload rfl ?_
      simp (disch := first | exact Nat.ne_of_beq_eq_false rfl | omega) only [nI_add, xa_sub, xa_mul, pk_div, nm_mod, xa_shr, xa_and7, xa_and1, xa_and255, xa_by_and, nI_m1, Nat.add_sub_cancel, Nat.reducePow, Nat.zero_add, Nat.add_zero, Nat.reduceAdd, Nat.reduceMul, Nat.reduceSub, xf_same, xq_ff, xq_fo, xf_1, xf_2, xs_1, xs_2, xs_same, xq_so, xj_1, xj_2, xj_same, xq_jo, xq_sa1, xq_same, xq_other, upd_s, oI_n, oI_s, xf_7_4 hF', e5, pf_2 hF' hpp, ps_0 hpp, ps_2 hpp, e1, xf_7_3 hF', e9, em]
      first | refine by_iald (by first | exact rfl | assumption | exact ps_1 hpp | exact ps_2 hpp | exact ps_3 hpp | exact ps_4 hpp | exact ps_5 hpp | exact ps_6 hpp | exact ps_7 hpp | exact ps_8 hpp | exact ps_9 hpp | exact ps_10 hpp | exact ps_11 hpp | exact ps_15 hpp | exact ps_16 hpp | exact ps_17 hpp | exact ps_18 hpp | exact ps_19 hpp | exact ps_21 hpp | exact ps_22 hpp | exact ps_23 hpp | exact ps_24 hpp) ⟨by omega, by omega⟩ ?_ | refine by_tald rfl rfl ⟨by omega, by omega⟩ ?_
      refine by_istore (by rw [ml_97]; decide) ?_
      refine by_iload rfl ?_
      refine by_if_lt 87 rfl ?_
      simp (disch := first | exact Nat.ne_of_beq_eq_false rfl | omega) only [nI_add, xa_sub, xa_mul, pk_div, nm_mod, xa_shr, xa_and7, xa_and1, xa_and255, xa_by_and, nI_m1, Nat.add_sub_cancel, Nat.reducePow, Nat.zero_add, Nat.add_zero, Nat.reduceAdd, Nat.reduceMul, Nat.reduceSub, xf_same, xq_ff, xq_fo, xf_1, xf_2, xs_1, xs_2, xs_same, xq_so, xj_1, xj_2, xj_same, xq_jo, xq_sa1, xq_same, xq_other, upd_s, oI_n, oI_s, xv_0, xv_1, xv_2, xv_3, xm_p1, xm_p2, List.filter_cons, List.filter_nil, Nat.reduceBEq, Bool.not_true, Bool.not_false, Bool.and_true, Bool.and_false, Bool.false_and, Bool.true_and, if_true, if_false, Bool.false_eq_true, reduceIte, xc_i, xc_j, xc_r, xc_n, List.nil_append, List.cons_append, Option.toList_some, Option.toList_none, nI_ltJ, nI_leJ, nI_eqJ, nI_ltz, nI_gez, nI_gtz, nI_lez, nI_eqz, m1_ltz, m1_gez, true_imp_iff, false_imp_iff, true_and, and_true, ne_eq, not_false_eq_true, not_true_eq_false, Nat.reduceEqDiff, Nat.reduceLT, Nat.reduceLeDiff, xf_7_4 hF', e5, pf_2 hF' hpp, ps_0 hpp, ps_2 hpp, e1, xf_7_3 hF', e9, em]
      with_reducible refine xm_go_blk b_X5_walk_73 k_X5_walk_73 ?_
      refine by_aload_n rfl ?_
      refine by_getf cn_97 fl_5_18 (by first | exact rfl | assumption) (by decide) ?_
      refine by_iload rfl ?_
      simp (disch := first | exact Nat.ne_of_beq_eq_false rfl | omega) only [nI_add, xa_sub, xa_mul, pk_div, nm_mod, xa_shr, xa_and7, xa_and1, xa_and255, xa_by_and, nI_m1, Nat.add_sub_cancel, Nat.reducePow, Nat.zero_add, Nat.add_zero, Nat.reduceAdd, Nat.reduceMul, Nat.reduceSub, xf_same, xq_ff, xq_fo, xf_1, xf_2, xs_1, xs_2, xs_same, xq_so, xj_1, xj_2, xj_same, xq_jo, xq_sa1, xq_same, xq_other, upd_s, oI_n, oI_s, xf_7_4 hF', e5, pf_2 hF' hpp, ps_0 hpp, ps_2 hpp, e1, xf_7_3 hF', e9, em]
      first | refine by_iald (by first | exact rfl | assumption | exact ps_1 hpp | exact ps_2 hpp | exact ps_3 hpp | exact ps_4 hpp | exact ps_5 hpp | exact ps_6 hpp | exact ps_7 hpp | exact ps_8 hpp | exact ps_9 hpp | exact ps_10 hpp | exact ps_11 hpp | exact ps_15 hpp | exact ps_16 hpp | exact ps_17 hpp | exact ps_18 hpp | exact ps_19 hpp | exact ps_21 hpp | exact ps_22 hpp | exact ps_23 hpp | exact ps_24 hpp) ⟨by omega, by omega⟩ ?_ | refine by_tald rfl rfl ⟨by omega, by omega⟩ ?_
      refine by_aload_n rfl ?_
      refine by_getf cn_97 fl_5_40 (by first | exact rfl | assumption) (by decide) ?_
      simp (disch := first | exact Nat.ne_of_beq_eq_false rfl | omega) only [nI_add, xa_sub, xa_mul, pk_div, nm_mod, xa_shr, xa_and7, xa_and1, xa_and255, xa_by_and, nI_m1, Nat.add_sub_cancel, Nat.reducePow, Nat.zero_add, Nat.add_zero, Nat.reduceAdd, Nat.reduceMul, Nat.reduceSub, xf_same, xq_ff, xq_fo, xf_1, xf_2, xs_1, xs_2, xs_same, xq_so, xj_1, xj_2, xj_same, xq_jo, xq_sa1, xq_same, xq_other, upd_s, oI_n, oI_s, xf_7_4 hF', e5, pf_2 hF' hpp, ps_0 hpp, ps_2 hpp, e1, xf_7_3 hF', e9, em]
      refine by_ic_ne 96 rfl ?_
      simp (disch := first | exact Nat.ne_of_beq_eq_false rfl | omega) only [nI_add, xa_sub, xa_mul, pk_div, nm_mod, xa_shr, xa_and7, xa_and1, xa_and255, xa_by_and, nI_m1, Nat.add_sub_cancel, Nat.reducePow, Nat.zero_add, Nat.add_zero, Nat.reduceAdd, Nat.reduceMul, Nat.reduceSub, xf_same, xq_ff, xq_fo, xf_1, xf_2, xs_1, xs_2, xs_same, xq_so, xj_1, xj_2, xj_same, xq_jo, xq_sa1, xq_same, xq_other, upd_s, oI_n, oI_s, xv_0, xv_1, xv_2, xv_3, xm_p1, xm_p2, List.filter_cons, List.filter_nil, Nat.reduceBEq, Bool.not_true, Bool.not_false, Bool.and_true, Bool.and_false, Bool.false_and, Bool.true_and, if_true, if_false, Bool.false_eq_true, reduceIte, xc_i, xc_j, xc_r, xc_n, List.nil_append, List.cons_append, Option.toList_some, Option.toList_none, nI_ltJ, nI_leJ, nI_eqJ, nI_ltz, nI_gez, nI_gtz, nI_lez, nI_eqz, m1_ltz, m1_gez, true_imp_iff, false_imp_iff, true_and, and_true, ne_eq, not_false_eq_true, not_true_eq_false, Nat.reduceEqDiff, Nat.reduceLT, Nat.reduceLeDiff, xf_7_4 hF', e5, pf_2 hF' hpp, ps_0 hpp, ps_2 hpp, e1, xf_7_3 hF', e9, em]
      exact hsec _ (by rw [hc]; simp [df_nx, hmx])
    · have hmx : mm x = false := by simpa using hmx
      have em : (h'.1 10 x = nI (W + 1)) = False := by rw [hJ.2.2.2.2.2.2.1 x hx, hmx]; simp
      with_reducible refine xm_go_blk b_X5_walk_37 k_X5_walk_37 ?_
      refine by_iload rfl ?_
      refine by_sipush cs_4000 ?_
      refine by_ic_ge 181 rfl ?_
      simp (disch := first | exact Nat.ne_of_beq_eq_false rfl | omega) only [nI_add, xa_sub, xa_mul, pk_div, nm_mod, xa_shr, xa_and7, xa_and1, xa_and255, xa_by_and, nI_m1, Nat.add_sub_cancel, Nat.reducePow, Nat.zero_add, Nat.add_zero, Nat.reduceAdd, Nat.reduceMul, Nat.reduceSub, xf_same, xq_ff, xq_fo, xf_1, xf_2, xs_1, xs_2, xs_same, xq_so, xj_1, xj_2, xj_same, xq_jo, xq_sa1, xq_same, xq_other, upd_s, oI_n, oI_s, xv_0, xv_1, xv_2, xv_3, xm_p1, xm_p2, List.filter_cons, List.filter_nil, Nat.reduceBEq, Bool.not_true, Bool.not_false, Bool.and_true, Bool.and_false, Bool.false_and, Bool.true_and, if_true, if_false, Bool.false_eq_true, reduceIte, xc_i, xc_j, xc_r, xc_n, List.nil_append, List.cons_append, Option.toList_some, Option.toList_none, nI_ltJ, nI_leJ, nI_eqJ, nI_ltz, nI_gez, nI_gtz, nI_lez, nI_eqz, m1_ltz, m1_gez, true_imp_iff, false_imp_iff, true_and, and_true, ne_eq, not_false_eq_true, not_true_eq_false, Nat.reduceEqDiff, Nat.reduceLT, Nat.reduceLeDiff, xf_7_4 hF', e5, pf_2 hF' hpp, ps_0 hpp, ps_2 hpp, e1, xf_7_3 hF', e9, em]
      refine ⟨fun c => absurd c (by omega), fun c37 => ?_⟩
      with_reducible refine xm_go_blk b_X5_walk_45 k_X5_walk_45 ?_
      refine by_iload_n rfl ?_
      refine by_if_le 181 rfl ?_
      simp (disch := first | exact Nat.ne_of_beq_eq_false rfl | omega) only [nI_add, xa_sub, xa_mul, pk_div, nm_mod, xa_shr, xa_and7, xa_and1, xa_and255, xa_by_and, nI_m1, Nat.add_sub_cancel, Nat.reducePow, Nat.zero_add, Nat.add_zero, Nat.reduceAdd, Nat.reduceMul, Nat.reduceSub, xf_same, xq_ff, xq_fo, xf_1, xf_2, xs_1, xs_2, xs_same, xq_so, xj_1, xj_2, xj_same, xq_jo, xq_sa1, xq_same, xq_other, upd_s, oI_n, oI_s, xv_0, xv_1, xv_2, xv_3, xm_p1, xm_p2, List.filter_cons, List.filter_nil, Nat.reduceBEq, Bool.not_true, Bool.not_false, Bool.and_true, Bool.and_false, Bool.false_and, Bool.true_and, if_true, if_false, Bool.false_eq_true, reduceIte, xc_i, xc_j, xc_r, xc_n, List.nil_append, List.cons_append, Option.toList_some, Option.toList_none, nI_ltJ, nI_leJ, nI_eqJ, nI_ltz, nI_gez, nI_gtz, nI_lez, nI_eqz, m1_ltz, m1_gez, true_imp_iff, false_imp_iff, true_and, and_true, ne_eq, not_false_eq_true, not_true_eq_false, Nat.reduceEqDiff, Nat.reduceLT, Nat.reduceLeDiff, xf_7_4 hF', e5, pf_2 hF' hpp, ps_0 hpp, ps_2 hpp, e1, xf_7_3 hF', e9, em]
      with_reducible refine xm_go_blk b_X5_walk_49 k_X5_walk_49 ?_
      refine by_aload_n rfl ?_
      refine by_getf cn_97 fl_5_21 (by first | exact rfl | assumption) (by decide) ?_
      refine by_iload_n rfl ?_
      refine by_iconst ci_1 ?_
      refine by_isub ?_
      simp (disch := first | exact Nat.ne_of_beq_eq_false rfl | omega) only [nI_add, xa_sub, xa_mul, pk_div, nm_mod, xa_shr, xa_and7, xa_and1, xa_and255, xa_by_and, nI_m1, Nat.add_sub_cancel, Nat.reducePow, Nat.zero_add, Nat.add_zero, Nat.reduceAdd, Nat.reduceMul, Nat.reduceSub, xf_same, xq_ff, xq_fo, xf_1, xf_2, xs_1, xs_2, xs_same, xq_so, xj_1, xj_2, xj_same, xq_jo, xq_sa1, xq_same, xq_other, upd_s, oI_n, oI_s, xf_7_4 hF', e5, pf_2 hF' hpp, ps_0 hpp, ps_2 hpp, e1, xf_7_3 hF', e9, em]
      first | refine by_iald (by first | exact rfl | assumption | exact ps_1 hpp | exact ps_2 hpp | exact ps_3 hpp | exact ps_4 hpp | exact ps_5 hpp | exact ps_6 hpp | exact ps_7 hpp | exact ps_8 hpp | exact ps_9 hpp | exact ps_10 hpp | exact ps_11 hpp | exact ps_15 hpp | exact ps_16 hpp | exact ps_17 hpp | exact ps_18 hpp | exact ps_19 hpp | exact ps_21 hpp | exact ps_22 hpp | exact ps_23 hpp | exact ps_24 hpp) ⟨by omega, by omega⟩ ?_ | refine by_tald rfl rfl ⟨by omega, by omega⟩ ?_
      refine by_istore (by rw [ml_97]; decide) ?_
      refine by_aload_n rfl ?_
      refine by_getf cn_97 fl_5_47 (by first | exact rfl | assumption | exact ps_0 hpp) (by decide) ?_
      refine by_iload rfl ?_
      simp (disch := first | exact Nat.ne_of_beq_eq_false rfl | omega) only [nI_add, xa_sub, xa_mul, pk_div, nm_mod, xa_shr, xa_and7, xa_and1, xa_and255, xa_by_and, nI_m1, Nat.add_sub_cancel, Nat.reducePow, Nat.zero_add, Nat.add_zero, Nat.reduceAdd, Nat.reduceMul, Nat.reduceSub, xf_same, xq_ff, xq_fo, xf_1, xf_2, xs_1, xs_2, xs_same, xq_so, xj_1, xj_2, xj_same, xq_jo, xq_sa1, xq_same, xq_other, upd_s, oI_n, oI_s, xf_7_4 hF', e5, pf_2 hF' hpp, ps_0 hpp, ps_2 hpp, e1, xf_7_3 hF', e9, em]
      first | refine by_iald (by first | exact rfl | assumption | exact ps_1 hpp | exact ps_2 hpp | exact ps_3 hpp | exact ps_4 hpp | exact ps_5 hpp | exact ps_6 hpp | exact ps_7 hpp | exact ps_8 hpp | exact ps_9 hpp | exact ps_10 hpp | exact ps_11 hpp | exact ps_15 hpp | exact ps_16 hpp | exact ps_17 hpp | exact ps_18 hpp | exact ps_19 hpp | exact ps_21 hpp | exact ps_22 hpp | exact ps_23 hpp | exact ps_24 hpp) ⟨by omega, by omega⟩ ?_ | refine by_tald rfl rfl ⟨by omega, by omega⟩ ?_
      refine by_istore (by rw [ml_97]; decide) ?_
      refine by_iload rfl ?_
      refine by_if_lt 87 rfl ?_
      simp (disch := first | exact Nat.ne_of_beq_eq_false rfl | omega) only [nI_add, xa_sub, xa_mul, pk_div, nm_mod, xa_shr, xa_and7, xa_and1, xa_and255, xa_by_and, nI_m1, Nat.add_sub_cancel, Nat.reducePow, Nat.zero_add, Nat.add_zero, Nat.reduceAdd, Nat.reduceMul, Nat.reduceSub, xf_same, xq_ff, xq_fo, xf_1, xf_2, xs_1, xs_2, xs_same, xq_so, xj_1, xj_2, xj_same, xq_jo, xq_sa1, xq_same, xq_other, upd_s, oI_n, oI_s, xv_0, xv_1, xv_2, xv_3, xm_p1, xm_p2, List.filter_cons, List.filter_nil, Nat.reduceBEq, Bool.not_true, Bool.not_false, Bool.and_true, Bool.and_false, Bool.false_and, Bool.true_and, if_true, if_false, Bool.false_eq_true, reduceIte, xc_i, xc_j, xc_r, xc_n, List.nil_append, List.cons_append, Option.toList_some, Option.toList_none, nI_ltJ, nI_leJ, nI_eqJ, nI_ltz, nI_gez, nI_gtz, nI_lez, nI_eqz, m1_ltz, m1_gez, true_imp_iff, false_imp_iff, true_and, and_true, ne_eq, not_false_eq_true, not_true_eq_false, Nat.reduceEqDiff, Nat.reduceLT, Nat.reduceLeDiff, xf_7_4 hF', e5, pf_2 hF' hpp, ps_0 hpp, ps_2 hpp, e1, xf_7_3 hF', e9, em]
      with_reducible refine xm_go_blk b_X5_walk_73 k_X5_walk_73 ?_
      refine by_aload_n rfl ?_
      refine by_getf cn_97 fl_5_18 (by first | exact rfl | assumption) (by decide) ?_
      refine by_iload rfl ?_
      simp (disch := first | exact Nat.ne_of_beq_eq_false rfl | omega) only [nI_add, xa_sub, xa_mul, pk_div, nm_mod, xa_shr, xa_and7, xa_and1, xa_and255, xa_by_and, nI_m1, Nat.add_sub_cancel, Nat.reducePow, Nat.zero_add, Nat.add_zero, Nat.reduceAdd, Nat.reduceMul, Nat.reduceSub, xf_same, xq_ff, xq_fo, xf_1, xf_2, xs_1, xs_2, xs_same, xq_so, xj_1, xj_2, xj_same, xq_jo, xq_sa1, xq_same, xq_other, upd_s, oI_n, oI_s, xf_7_4 hF', e5, pf_2 hF' hpp, ps_0 hpp, ps_2 hpp, e1, xf_7_3 hF', e9, em]
      first | refine by_iald (by first | exact rfl | assumption | exact ps_1 hpp | exact ps_2 hpp | exact ps_3 hpp | exact ps_4 hpp | exact ps_5 hpp | exact ps_6 hpp | exact ps_7 hpp | exact ps_8 hpp | exact ps_9 hpp | exact ps_10 hpp | exact ps_11 hpp | exact ps_15 hpp | exact ps_16 hpp | exact ps_17 hpp | exact ps_18 hpp | exact ps_19 hpp | exact ps_21 hpp | exact ps_22 hpp | exact ps_23 hpp | exact ps_24 hpp) ⟨by omega, by omega⟩ ?_ | refine by_tald rfl rfl ⟨by omega, by omega⟩ ?_
      refine by_aload_n rfl ?_
      refine by_getf cn_97 fl_5_40 (by first | exact rfl | assumption) (by decide) ?_
      simp (disch := first | exact Nat.ne_of_beq_eq_false rfl | omega) only [nI_add, xa_sub, xa_mul, pk_div, nm_mod, xa_shr, xa_and7, xa_and1, xa_and255, xa_by_and, nI_m1, Nat.add_sub_cancel, Nat.reducePow, Nat.zero_add, Nat.add_zero, Nat.reduceAdd, Nat.reduceMul, Nat.reduceSub, xf_same, xq_ff, xq_fo, xf_1, xf_2, xs_1, xs_2, xs_same, xq_so, xj_1, xj_2, xj_same, xq_jo, xq_sa1, xq_same, xq_other, upd_s, oI_n, oI_s, xf_7_4 hF', e5, pf_2 hF' hpp, ps_0 hpp, ps_2 hpp, e1, xf_7_3 hF', e9, em]
      refine by_ic_ne 96 rfl ?_
      simp (disch := first | exact Nat.ne_of_beq_eq_false rfl | omega) only [nI_add, xa_sub, xa_mul, pk_div, nm_mod, xa_shr, xa_and7, xa_and1, xa_and255, xa_by_and, nI_m1, Nat.add_sub_cancel, Nat.reducePow, Nat.zero_add, Nat.add_zero, Nat.reduceAdd, Nat.reduceMul, Nat.reduceSub, xf_same, xq_ff, xq_fo, xf_1, xf_2, xs_1, xs_2, xs_same, xq_so, xj_1, xj_2, xj_same, xq_jo, xq_sa1, xq_same, xq_other, upd_s, oI_n, oI_s, xv_0, xv_1, xv_2, xv_3, xm_p1, xm_p2, List.filter_cons, List.filter_nil, Nat.reduceBEq, Bool.not_true, Bool.not_false, Bool.and_true, Bool.and_false, Bool.false_and, Bool.true_and, if_true, if_false, Bool.false_eq_true, reduceIte, xc_i, xc_j, xc_r, xc_n, List.nil_append, List.cons_append, Option.toList_some, Option.toList_none, nI_ltJ, nI_leJ, nI_eqJ, nI_ltz, nI_gez, nI_gtz, nI_lez, nI_eqz, m1_ltz, m1_gez, true_imp_iff, false_imp_iff, true_and, and_true, ne_eq, not_false_eq_true, not_true_eq_false, Nat.reduceEqDiff, Nat.reduceLT, Nat.reduceLeDiff, xf_7_4 hF', e5, pf_2 hF' hpp, ps_0 hpp, ps_2 hpp, e1, xf_7_3 hF', e9, em]
      exact hpush x hx hmx (by rw [hc]; simp [df_nx, hmx])
theorem wk_sE {root : Nat} (hlen : o.length ≤ N) (htu : turn ≤ 4000) (hit : df_out c1 c2 root o) (hJ : wk_J c1 c2 N W h h' [] mm o) 
    (hp : ∀ h' L, df_out c1 c2 root L → Fr [8, 9, 10, 11] [(7, 2), (7, 9)] h h' → h'.2.2 7 2 = .int (nI L.length) → L.length ≤ N → h'.2.2 7 9 = .int (nI (W + 1)) → (∀ x, x < 2000 → ∃ k, k ≤ W + 1 ∧ h'.1 10 x = nI k) → (∀ i, i < L.length → h'.1 8 i = nI (L.getD i 0)) → (∀ i, i < L.length → h'.1 9 (L.getD i 0) = nI i) → post none h') :
    xm_go (XE sc) (xm_T (XE sc) d) 97 post 37 [(4, .int (nI turn)), (3, .int (nI 0)), (0, .ref 7), (1, .ref pp)] [] h' := by
  have hend : xm_go (XE sc) (xm_T (XE sc) d) 97 post 181 [(4, .int (nI turn)), (3, .int (nI 0)), (0, .ref 7), (1, .ref pp)] [] h' := by
    with_reducible refine xm_go_blk b_X5_walk_181 k_X5_walk_181 ?_
    refine by_ret ry_97 ?_
    obtain ⟨j1, j2, j3, j4, j5, j6, j7, j8⟩ := hJ
    exact hp h' o hit j1 j3 hlen j2 j8 j4 j5
  with_reducible refine xm_go_blk b_X5_walk_37 k_X5_walk_37 ?_
  refine by_iload rfl ?_
  refine by_sipush cs_4000 ?_
  refine by_ic_ge 181 rfl ?_
  simp (disch := first | exact Nat.ne_of_beq_eq_false rfl | omega) only [nI_add, xa_sub, xa_mul, pk_div, nm_mod, xa_shr, xa_and7, xa_and1, xa_and255, xa_by_and, nI_m1, Nat.add_sub_cancel, Nat.reducePow, Nat.zero_add, Nat.add_zero, Nat.reduceAdd, Nat.reduceMul, Nat.reduceSub, xf_same, xq_ff, xq_fo, xf_1, xf_2, xs_1, xs_2, xs_same, xq_so, xj_1, xj_2, xj_same, xq_jo, xq_sa1, xq_same, xq_other, upd_s, oI_n, oI_s, xv_0, xv_1, xv_2, xv_3, xm_p1, xm_p2, List.filter_cons, List.filter_nil, Nat.reduceBEq, Bool.not_true, Bool.not_false, Bool.and_true, Bool.and_false, Bool.false_and, Bool.true_and, if_true, if_false, Bool.false_eq_true, reduceIte, xc_i, xc_j, xc_r, xc_n, List.nil_append, List.cons_append, Option.toList_some, Option.toList_none, nI_ltJ, nI_leJ, nI_eqJ, nI_ltz, nI_gez, nI_gtz, nI_lez, nI_eqz, m1_ltz, m1_gez, true_imp_iff, false_imp_iff, true_and, and_true, ne_eq, not_false_eq_true, not_true_eq_false, Nat.reduceEqDiff, Nat.reduceLT, Nat.reduceLeDiff]
  refine ⟨fun c => hend, fun c => ?_⟩
  with_reducible refine xm_go_blk b_X5_walk_45 k_X5_walk_45 ?_
  refine by_iload_n rfl ?_
  refine by_if_le 181 rfl ?_
  simp (disch := first | exact Nat.ne_of_beq_eq_false rfl | omega) only [nI_add, xa_sub, xa_mul, pk_div, nm_mod, xa_shr, xa_and7, xa_and1, xa_and255, xa_by_and, nI_m1, Nat.add_sub_cancel, Nat.reducePow, Nat.zero_add, Nat.add_zero, Nat.reduceAdd, Nat.reduceMul, Nat.reduceSub, xf_same, xq_ff, xq_fo, xf_1, xf_2, xs_1, xs_2, xs_same, xq_so, xj_1, xj_2, xj_same, xq_jo, xq_sa1, xq_same, xq_other, upd_s, oI_n, oI_s, xv_0, xv_1, xv_2, xv_3, xm_p1, xm_p2, List.filter_cons, List.filter_nil, Nat.reduceBEq, Bool.not_true, Bool.not_false, Bool.and_true, Bool.and_false, Bool.false_and, Bool.true_and, if_true, if_false, Bool.false_eq_true, reduceIte, xc_i, xc_j, xc_r, xc_n, List.nil_append, List.cons_append, Option.toList_some, Option.toList_none, nI_ltJ, nI_leJ, nI_eqJ, nI_ltz, nI_gez, nI_gtz, nI_lez, nI_eqz, m1_ltz, m1_gez, true_imp_iff, false_imp_iff, true_and, and_true, ne_eq, not_false_eq_true, not_true_eq_false, Nat.reduceEqDiff, Nat.reduceLT, Nat.reduceLeDiff]
  exact hend
end WK
theorem sp_walk {sc : xm_Sc} {d pp N root W : Nat} {h : xm_H} {post : xm_Po} {c1 c2 : Nat → Option Nat} (hpp : pp = 52 ∨ pp = 77) (hF : XF h) (hW : h.2.2 7 9 = .int (nI W)) (hW2 : W < 1000000) (hm : ∀ x, x < 2000 → ∃ k, k ≤ W ∧ h.1 10 x = nI k) (hN : N ≤ 2000) (hr : root < N) (h1 : ∀ n, n < N → h.1 (pp + 2) n = oI (c1 n)) (h2 : ∀ n, n < N → h.1 (pp + 3) n = oI (c2 n)) (hcN : df_cN c1 c2 N)
    (hp : ∀ h' L, df_out c1 c2 root L → Fr [8, 9, 10, 11] [(7, 2), (7, 9)] h h' → h'.2.2 7 2 = .int (nI L.length) → L.length ≤ N → h'.2.2 7 9 = .int (nI (W + 1)) → (∀ x, x < 2000 → ∃ k, k ≤ W + 1 ∧ h'.1 10 x = nI k) → (∀ i, i < L.length → h'.1 8 i = nI (L.getD i 0)) → (∀ i, i < L.length → h'.1 9 (L.getD i 0) = nI i) → post none h') :
    xm_T (XE sc) (d + 1) 97 [.ref 7, .ref pp, .int (nI root)] h post := by
  have key : ∀ m s mm o h' turn, df_ok c1 c2 N (s, mm, o) → (∃ j, df_it c1 c2 j (df_0 root) = (s, mm, o)) → 2 * (N - (s.length + o.length)) + s.length = m → turn + m ≤ 4000 → wk_J c1 c2 N W h h' s mm o → xm_go (XE sc) (xm_T (XE sc) d) 97 post 37 [(4, .int (nI turn)), (3, .int (nI s.length)), (0, .ref 7), (1, .ref pp)] [] h' := by
    intro m
    induction m using Nat.strongRecOn with
    | ind m ih =>
    intro s mm o h' turn hok hit hme htu hJ
    have hlen : s.length + o.length ≤ N := df_ok_len hok
    have hF' : XF h' := Fr_XF hF hJ.1 (by decide +kernel)
    cases s with
    | nil =>
      obtain ⟨j, hj⟩ := hit
      exact wk_sE (by simp at hlen; omega) (by omega) ⟨j, mm, hj⟩ hJ hp
    | cons n s =>
      simp only [List.length_cons] at hlen hme htu
      have hn : n < N := hok.2.2 n (by simp)
      have hno : n ∉ o := fun z => (List.nodup_cons.mp (show (n :: (s ++ o)).Nodup from hok.1)).1 (List.mem_append_right _ z)
      have hok2 := df_ok_step hcN hok
      have hlen2 := df_ok_len hok2
      have hK : wk_K sc d pp N W turn post c1 c2 h (n :: s, mm, o) := by
        intro s' mm' o' h2 hJ2 hst
        rw [hst] at hok2 hlen2
        simp only at hlen2
        have hm2 : 2 * (N - (s'.length + o'.length)) + s'.length < m := by
          rcases df_step_cs hst with ⟨q1, q2⟩ | ⟨q1, q2⟩ <;> rw [q1, q2] at hlen2 ⊢ <;> omega
        refine ih _ hm2 s' mm' o' h2 (turn + 1) hok2 ?_ rfl (by omega) hJ2
        obtain ⟨j, hj⟩ := hit
        exact ⟨j + 1, by rw [df_it_add, hj]; exact hst⟩
      have hpush : ∀ x, x < N → mm x = false → df_step c1 c2 (n :: s, mm, o) = (x :: n :: s, df_st mm x, o) → xm_go (XE sc) (xm_T (XE sc) d) 97 post 96 [(6, .int (nI x)), (5, .int (nI n)), (4, .int (nI turn)), (3, .int (nI (s.length + 1))), (0, .ref 7), (1, .ref pp)] [] h' := by
        intro x hx hmx hst
        rw [hst] at hlen2
        simp only [List.length_cons] at hlen2
        exact wk_s96 hF' hpp hN (by omega) hJ hK hx hmx hst
      refine wk_s37 hF' hpp hn hN hlen (by omega) hcN (by rw [hJ.1.1 _ (by simp; omega), h1 n hn]) hJ (fun x hx hmx e => hpush x hx hmx (df_step_1 e)) (fun y e => ?_)
      exact wk_s87 hF' hpp hn hN hcN (by rw [hJ.1.1 _ (by simp; omega), h2 n hn]) hJ (fun x hx hmx e2 => hpush x hx hmx (df_step_2 e e2)) (fun y e2 => wk_s115 hF' hn hno hN hlen hJ hK (df_step_3 e e2))
  refine xq_in rfl ?_
  simp only [xq_a0, xq_aI, xq_aJ, xq_aR, Nat.reduceAdd]
  with_reducible refine xm_go_blk b_X5_walk_0 k_X5_walk_0 ?_
  refine by_aload_n rfl ?_
  refine by_dup rfl ?_
  refine by_getf cn_97 fl_5_40 (by first | exact rfl | assumption) (by decide) ?_
  refine by_iconst ci_1 ?_
  simp (disch := first | exact Nat.ne_of_beq_eq_false rfl | omega) only [nI_add, xa_sub, xa_mul, pk_div, nm_mod, xa_shr, xa_and7, xa_and1, xa_and255, xa_by_and, nI_m1, Nat.add_sub_cancel, Nat.reducePow, Nat.zero_add, Nat.add_zero, Nat.reduceAdd, Nat.reduceMul, Nat.reduceSub, xf_same, xq_ff, xq_fo, xf_1, xf_2, xs_1, xs_2, xs_same, xq_so, xj_1, xj_2, xj_same, xq_jo, xq_sa1, xq_same, xq_other, upd_s, oI_n, oI_s, xf_7_3 hF, xf_7_4 hF, hW]
  refine by_iadd ?_
  refine by_putf cn_97 fl_5_40 (by first | exact rfl | assumption) (by decide) nf_5_9 ft_5_9 (by first | rfl | assumption) (by first | rfl | assumption) ?_
  refine by_aload_n rfl ?_
  refine by_iconst ci_0 ?_
  refine by_putf cn_97 fl_5_44 (by first | exact rfl | assumption) (by decide) nf_5_2 ft_5_2 (by first | rfl | assumption) (by first | rfl | assumption) ?_
  refine by_iconst ci_1 ?_
  refine by_istore_n (by rw [ml_97]; decide) ?_
  refine by_aload_n rfl ?_
  refine by_getf cn_97 fl_5_21 (by first | exact rfl | assumption) (by decide) ?_
  refine by_iconst ci_0 ?_
  refine by_iload_n rfl ?_
  simp (disch := first | exact Nat.ne_of_beq_eq_false rfl | omega) only [nI_add, xa_sub, xa_mul, pk_div, nm_mod, xa_shr, xa_and7, xa_and1, xa_and255, xa_by_and, nI_m1, Nat.add_sub_cancel, Nat.reducePow, Nat.zero_add, Nat.add_zero, Nat.reduceAdd, Nat.reduceMul, Nat.reduceSub, xf_same, xq_ff, xq_fo, xf_1, xf_2, xs_1, xs_2, xs_same, xq_so, xj_1, xj_2, xj_same, xq_jo, xq_sa1, xq_same, xq_other, upd_s, oI_n, oI_s, xf_7_3 hF, xf_7_4 hF, hW]
  refine by_iast (by first | exact rfl | assumption | exact ps_1 hpp | exact ps_2 hpp | exact ps_3 hpp | exact ps_4 hpp | exact ps_5 hpp | exact ps_6 hpp | exact ps_7 hpp | exact ps_8 hpp | exact ps_9 hpp | exact ps_10 hpp | exact ps_11 hpp | exact ps_15 hpp | exact ps_16 hpp | exact ps_17 hpp | exact ps_18 hpp | exact ps_19 hpp | exact ps_21 hpp | exact ps_22 hpp | exact ps_23 hpp | exact ps_24 hpp) ⟨by omega, by omega⟩ ?_
  refine by_aload_n rfl ?_
  refine by_getf cn_97 fl_5_18 (by first | exact rfl | assumption) (by decide) ?_
  refine by_iload_n rfl ?_
  refine by_aload_n rfl ?_
  refine by_getf cn_97 fl_5_40 (by first | exact rfl | assumption) (by decide) ?_
  simp (disch := first | exact Nat.ne_of_beq_eq_false rfl | omega) only [nI_add, xa_sub, xa_mul, pk_div, nm_mod, xa_shr, xa_and7, xa_and1, xa_and255, xa_by_and, nI_m1, Nat.add_sub_cancel, Nat.reducePow, Nat.zero_add, Nat.add_zero, Nat.reduceAdd, Nat.reduceMul, Nat.reduceSub, xf_same, xq_ff, xq_fo, xf_1, xf_2, xs_1, xs_2, xs_same, xq_so, xj_1, xj_2, xj_same, xq_jo, xq_sa1, xq_same, xq_other, upd_s, oI_n, oI_s, xf_7_3 hF, xf_7_4 hF, hW]
  refine by_iast (by first | exact rfl | assumption | exact ps_1 hpp | exact ps_2 hpp | exact ps_3 hpp | exact ps_4 hpp | exact ps_5 hpp | exact ps_6 hpp | exact ps_7 hpp | exact ps_8 hpp | exact ps_9 hpp | exact ps_10 hpp | exact ps_11 hpp | exact ps_15 hpp | exact ps_16 hpp | exact ps_17 hpp | exact ps_18 hpp | exact ps_19 hpp | exact ps_21 hpp | exact ps_22 hpp | exact ps_23 hpp | exact ps_24 hpp) ⟨by omega, by omega⟩ ?_
  refine by_iconst ci_0 ?_
  refine by_istore (by rw [ml_97]; decide) ?_
  refine by_nil ?_
  simp (disch := first | exact Nat.ne_of_beq_eq_false rfl | omega) only [nI_add, xa_sub, xa_mul, pk_div, nm_mod, xa_shr, xa_and7, xa_and1, xa_and255, xa_by_and, nI_m1, Nat.add_sub_cancel, Nat.reducePow, Nat.zero_add, Nat.add_zero, Nat.reduceAdd, Nat.reduceMul, Nat.reduceSub, xf_same, xq_ff, xq_fo, xf_1, xf_2, xs_1, xs_2, xs_same, xq_so, xj_1, xj_2, xj_same, xq_jo, xq_sa1, xq_same, xq_other, upd_s, oI_n, oI_s, xv_0, xv_1, xv_2, xv_3, xm_p1, xm_p2, List.filter_cons, List.filter_nil, Nat.reduceBEq, Bool.not_true, Bool.not_false, Bool.and_true, Bool.and_false, Bool.false_and, Bool.true_and, if_true, if_false, Bool.false_eq_true, reduceIte, xc_i, xc_j, xc_r, xc_n, List.nil_append, List.cons_append, Option.toList_some, Option.toList_none, xf_7_3 hF, xf_7_4 hF, hW]
  refine xm_go_wk ?_ (key (2 * (N - 1) + 1) [root] (df_st (fun _ => false) root) [] _ 0 (df_ok_0 hr) ⟨0, rfl⟩ (by simp) (by omega) ?_)
  · intro q hq
    simp only [List.length_cons, List.length_nil, List.mem_cons, List.not_mem_nil, or_false] at hq ⊢
    rcases hq with rfl | rfl | rfl | rfl <;> simp
  · refine ⟨Fr_si (Fr_si (Fr_sf (Fr_sf Fr_rf (by decide)) (by decide)) (by decide)) (by decide), ?_, ?_, fun i hi => absurd hi (Nat.not_lt_zero _), fun i hi => absurd hi (Nat.not_lt_zero _), fun i hi => ?_, fun x hx => ?_, fun x hx => ?_⟩
    · simp [xm_sf, xm_si, updV]
    · simp [xm_sf, xm_si, updV]
    · have : i = 0 := by simpa using hi
      subst this
      simp [xm_sf, xm_si, upd]
    · by_cases e : x = root
      · subst e
        simp [xm_sf, xm_si, upd, df_st]
      · obtain ⟨k, k1, k2⟩ := hm x (by omega)
        have : ¬ (nI k = nI (W + 1)) := by rw [nI_eqJ (by omega) (by omega)]; omega
        simp [xm_sf, xm_si, upd, df_st, e, k2, this]
    · by_cases e : x = root
      · subst e
        exact ⟨W + 1, Nat.le_refl _, by simp [xm_sf, xm_si, upd]⟩
      · obtain ⟨k, k1, k2⟩ := hm x hx
        exact ⟨k, by omega, by rw [← k2]; simp [xm_sf, xm_si, upd, e]⟩
