/-! ===== Order.merge ===== -/
theorem oI_inj {a b : Option Nat} (ha : ∀ x, a = some x → x < 2147483648) (hb : ∀ x, b = some x → x < 2147483648) : oI a = oI b ↔ a = b := by
  cases a with
  | none =>
    cases b with
    | none => simp
    | some y => exact ⟨fun z => absurd z.symm (nI_ne1 (hb y rfl)), fun z => by cases z⟩
  | some x =>
    cases b with
    | none => exact ⟨fun z => absurd z (nI_ne1 (ha x rfl)), fun z => by cases z⟩
    | some y =>
      have h1 := ha x rfl
      have h2 := hb y rfl
      exact ⟨fun z => by rw [(nI_eq h1 h2).mp z], fun z => by rw [z]⟩
section MG
variable {sc : xm_Sc} {d pp N : Nat} {cd hx : Nat → Nat} {c1 c2 : Nat → Option Nat} {L : List Nat} {h : xm_H} {post : xm_Po}
/-- nodes' rows as merge finds them -/
def mgD (h : xm_H) (pp N : Nat) (cd hx : Nat → Nat) (c1 c2 : Nat → Option Nat) : Prop := ndK h pp N cd c1 c2 ∧ ∀ n, n < N → cd n = 11 → h.1 (pp + 4) n = nI (8 * hx n) ∧ 8 * hx n + 8 ≤ 2048
def mgW (h : xm_H) (pp : Nat) (hx : Nat → Nat) : Nat → Nat → Int32 := fun n k => h.1 (pp + 11) (8 * hx n + k)
def mgK (h : xm_H) (pp : Nat) (cd hx : Nat → Nat) (c1 c2 : Nat → Option Nat) : (Nat → Nat) → Nat → Nat → Prop := smK cd c1 c2 (h.1 (pp + 4)) (h.1 (pp + 6)) (h.1 (pp + 7)) (mgW h pp hx)
def mgS (h : xm_H) (pp : Nat) (cd hx : Nat → Nat) (c1 c2 : Nat → Option Nat) (tw : Nat → Nat) (m : Nat) : Nat := if cd m = 11 then slH (mgW h pp hx m 0) else slN (cd m) (oI ((c1 m).map tw)) (oI ((c2 m).map tw)) (h.1 (pp + 4) m) (h.1 (pp + 6) m) (h.1 (pp + 7) m)
def mgR2 (pp : Nat) : List Nat := [pp + 2, pp + 3, 12, 13, 14]
def mgJ (h h' : xm_H) (pp N : Nat) (cd hx : Nat → Nat) (c1 c2 : Nat → Option Nat) (A : List Nat) (tw : Nat → Nat) : Prop :=
  XF h' ∧ Fr (mgR2 pp) [] h h' ∧ (∀ n, n < N → (n ∈ A → h'.1 (pp + 2) n = oI ((c1 n).map tw) ∧ h'.1 (pp + 3) n = oI ((c2 n).map tw)) ∧ (n ∉ A → h'.1 (pp + 2) n = oI (c1 n) ∧ h'.1 (pp + 3) n = oI (c2 n))) ∧ (∀ n ∈ A, h'.1 12 n = nI (tw n) ∧ tw n ∈ A) ∧ twR (mgK h pp cd hx c1 c2) A tw ∧ hc_ok (h'.1 14) (h'.1 13) (mgS h pp cd hx c1 c2 tw) (fun m => m ∈ A ∧ tw m = m ∧ cd m ≠ 10) 1024
/-- a node's children become what stands for them -/
theorem mg_34 {A B : List Nat} {n cnt : Nat} {tw : Nat → Nat} {h' : xm_H} (hpp : pp = 52 ∨ pp = 77) (hN : N ≤ 2000) (hLN : ∀ m ∈ L, m < N) (hAB : L = A ++ n :: B) (hlen : L.length ≤ 2000) (hs : h.2.2 7 2 = .int (nI L.length)) (hl : ∀ i, i < L.length → h.1 8 i = nI (L.getD i 0)) (hnA : n ∉ A) (hcl : ∀ x, (c1 n = some x ∨ c2 n = some x) → x ∈ A) (hJ : mgJ h h' pp N cd hx c1 c2 A tw)
    (hgo : ∀ h2, Fr [pp + 2, pp + 3] [] h' h2 → h2.1 (pp + 2) n = oI ((c1 n).map tw) → h2.1 (pp + 3) n = oI ((c2 n).map tw) → (∀ m, m ≠ n → h2.1 (pp + 2) m = h'.1 (pp + 2) m ∧ h2.1 (pp + 3) m = h'.1 (pp + 3) m) → xm_go (XE sc) (xm_T (XE sc) (d + 2)) 93 post 100 [(4, .int (nI n)), (0, .ref 7), (1, .ref pp), (2, .int (nI cnt)), (3, .int (nI A.length))] [] h2) :
    xm_go (XE sc) (xm_T (XE sc) (d + 2)) 93 post 26 [(0, .ref 7), (1, .ref pp), (2, .int (nI cnt)), (3, .int (nI A.length))] [] h' := by
  obtain ⟨j1, j2, j3, j4, j5, j6⟩ := hJ
  have hmem : n ∈ L := by rw [hAB]; simp
  have hA : A.length < L.length := by rw [hAB]; simp
  have hget : L.getD A.length 0 = n := by rw [hAB]; simp [List.getD]
  have e8 : h'.1 8 A.length = nI n := by rw [j2.1 8 (by simp [mgR2] <;> omega), hl _ hA, hget]
  have e2 : h'.2.2 7 2 = .int (nI L.length) := by rw [j2.2.2 _ _ (by simp)]; exact hs
  have hnN := hLN n hmem
  have hAN : ∀ x ∈ A, x < 2000 := fun x hx => by have := hLN x (by rw [hAB]; exact List.mem_append_left _ hx); omega
  obtain ⟨r1, r2⟩ := (j3 n hnN).2 hnA
  have sec : ∀ h2, XF h2 → Fr [pp + 2] [] h' h2 → h2.1 (pp + 2) n = oI ((c1 n).map tw) → (∀ m, m ≠ n → h2.1 (pp + 2) m = h'.1 (pp + 2) m) → xm_go (XE sc) (xm_T (XE sc) (d + 2)) 93 post 71 [(4, .int (nI n)), (0, .ref 7), (1, .ref pp), (2, .int (nI cnt)), (3, .int (nI A.length))] [] h2 := by
    intro h2 F2 f2 q1 q2
    have r2' : h2.1 (pp + 3) n = oI (c2 n) := by rw [f2.1 (pp + 3) (by simp)]; exact r2
    cases e : c2 n with
    | none =>
      rw [e] at r2' hgo
      have r2' : h2.1 (pp + 3) n = -1 := r2'
      with_reducible refine xm_go_blk b_X5_merge_71 k_X5_merge_71 ?_
      refine by_aload_n rfl ?_
      refine by_getf cn_93 fl_5_52 (by first | exact rfl | assumption | exact ps_0 hpp) (by decide) ?_
      refine by_iload rfl ?_
      simp (disch := first | exact Nat.ne_of_beq_eq_false rfl | exact rfl | omega) only [nI_add, xa_sub, xa_mul, pk_div, nm_mod, xa_shr, xa_and7, xa_and1, xa_and255, xa_by_and, nI_m1, Nat.add_sub_cancel, Nat.reducePow, Nat.zero_add, Nat.add_zero, Nat.reduceAdd, Nat.reduceMul, Nat.reduceSub, xf_same, xq_ff, xq_fo, xf_1, xf_2, xs_1, xs_2, xs_same, xq_so, xj_1, xj_2, xj_same, xq_jo, xq_sa1, xq_same, xq_other, upd_s, oI_n, oI_s, pf_3 F2 hpp, r2', m1_ltz]
      first | refine by_iald (by first | exact rfl | assumption | exact ps_1 hpp | exact ps_2 hpp | exact ps_3 hpp | exact ps_4 hpp | exact ps_5 hpp | exact ps_6 hpp | exact ps_7 hpp | exact ps_8 hpp | exact ps_9 hpp | exact ps_10 hpp | exact ps_11 hpp | exact ps_15 hpp | exact ps_16 hpp | exact ps_17 hpp | exact ps_18 hpp | exact ps_19 hpp | exact ps_21 hpp | exact ps_22 hpp | exact ps_23 hpp | exact ps_24 hpp) ⟨by omega, by omega⟩ ?_ | refine by_tald rfl rfl ⟨by omega, by omega⟩ ?_
      refine by_if_lt 100 rfl ?_
      simp (disch := first | exact Nat.ne_of_beq_eq_false rfl | exact rfl | omega) only [nI_add, xa_sub, xa_mul, pk_div, nm_mod, xa_shr, xa_and7, xa_and1, xa_and255, xa_by_and, nI_m1, Nat.add_sub_cancel, Nat.reducePow, Nat.zero_add, Nat.add_zero, Nat.reduceAdd, Nat.reduceMul, Nat.reduceSub, xf_same, xq_ff, xq_fo, xf_1, xf_2, xs_1, xs_2, xs_same, xq_so, xj_1, xj_2, xj_same, xq_jo, xq_sa1, xq_same, xq_other, upd_s, oI_n, oI_s, xv_0, xv_1, xv_2, xv_3, xm_p1, xm_p2, xq_fp, xq_fn, List.filter_nil, Nat.reduceBEq, Bool.not_true, Bool.not_false, Bool.and_true, Bool.and_false, Bool.false_and, Bool.true_and, if_true, if_false, Bool.false_eq_true, reduceIte, xc_i, xc_j, xc_r, xc_n, List.nil_append, List.cons_append, Option.toList_some, Option.toList_none, nI_ltJ, nI_leJ, nI_eqJ, nI_ltz, nI_gez, nI_gtz, nI_lez, nI_eqz, m1_ltz, m1_gez, true_imp_iff, false_imp_iff, true_and, and_true, ne_eq, not_false_eq_true, not_true_eq_false, Nat.reduceEqDiff, Nat.reduceLT, Nat.reduceLeDiff, pf_3 F2 hpp, r2', m1_ltz]
      exact xm_go_wk (by simp [Value.category]) (hgo h2 (Fr_mo f2 (by simp) (by simp)) q1 r2' (fun m hm => ⟨q2 m hm, by rw [f2.1 (pp + 3) (by simp)]⟩))
    | some x =>
      rw [e] at r2' hgo
      have r2' : h2.1 (pp + 3) n = nI x := r2'
      have hx := hcl x (Or.inr e)
      have hx2 := hAN x hx
      have t1 : h2.1 12 x = nI (tw x) := by rw [f2.1 12 (by simp <;> omega)]; exact (j4 x hx).1
      with_reducible refine xm_go_blk b_X5_merge_71 k_X5_merge_71 ?_
      refine by_aload_n rfl ?_
      refine by_getf cn_93 fl_5_52 (by first | exact rfl | assumption | exact ps_0 hpp) (by decide) ?_
      refine by_iload rfl ?_
      simp (disch := first | exact Nat.ne_of_beq_eq_false rfl | exact rfl | omega) only [nI_add, xa_sub, xa_mul, pk_div, nm_mod, xa_shr, xa_and7, xa_and1, xa_and255, xa_by_and, nI_m1, Nat.add_sub_cancel, Nat.reducePow, Nat.zero_add, Nat.add_zero, Nat.reduceAdd, Nat.reduceMul, Nat.reduceSub, xf_same, xq_ff, xq_fo, xf_1, xf_2, xs_1, xs_2, xs_same, xq_so, xj_1, xj_2, xj_same, xq_jo, xq_sa1, xq_same, xq_other, upd_s, oI_n, oI_s, pf_3 F2 hpp, xf_7_5 F2, r2', t1]
      first | refine by_iald (by first | exact rfl | assumption | exact ps_1 hpp | exact ps_2 hpp | exact ps_3 hpp | exact ps_4 hpp | exact ps_5 hpp | exact ps_6 hpp | exact ps_7 hpp | exact ps_8 hpp | exact ps_9 hpp | exact ps_10 hpp | exact ps_11 hpp | exact ps_15 hpp | exact ps_16 hpp | exact ps_17 hpp | exact ps_18 hpp | exact ps_19 hpp | exact ps_21 hpp | exact ps_22 hpp | exact ps_23 hpp | exact ps_24 hpp) ⟨by omega, by omega⟩ ?_ | refine by_tald rfl rfl ⟨by omega, by omega⟩ ?_
      refine by_if_lt 100 rfl ?_
      simp (disch := first | exact Nat.ne_of_beq_eq_false rfl | exact rfl | omega) only [nI_add, xa_sub, xa_mul, pk_div, nm_mod, xa_shr, xa_and7, xa_and1, xa_and255, xa_by_and, nI_m1, Nat.add_sub_cancel, Nat.reducePow, Nat.zero_add, Nat.add_zero, Nat.reduceAdd, Nat.reduceMul, Nat.reduceSub, xf_same, xq_ff, xq_fo, xf_1, xf_2, xs_1, xs_2, xs_same, xq_so, xj_1, xj_2, xj_same, xq_jo, xq_sa1, xq_same, xq_other, upd_s, oI_n, oI_s, xv_0, xv_1, xv_2, xv_3, xm_p1, xm_p2, xq_fp, xq_fn, List.filter_nil, Nat.reduceBEq, Bool.not_true, Bool.not_false, Bool.and_true, Bool.and_false, Bool.false_and, Bool.true_and, if_true, if_false, Bool.false_eq_true, reduceIte, xc_i, xc_j, xc_r, xc_n, List.nil_append, List.cons_append, Option.toList_some, Option.toList_none, nI_ltJ, nI_leJ, nI_eqJ, nI_ltz, nI_gez, nI_gtz, nI_lez, nI_eqz, m1_ltz, m1_gez, true_imp_iff, false_imp_iff, true_and, and_true, ne_eq, not_false_eq_true, not_true_eq_false, Nat.reduceEqDiff, Nat.reduceLT, Nat.reduceLeDiff, pf_3 F2 hpp, xf_7_5 F2, r2', t1]
      with_reducible refine xm_go_blk b_X5_merge_81 k_X5_merge_81 ?_
      refine by_aload_n rfl ?_
      refine by_getf cn_93 fl_5_52 (by first | exact rfl | assumption | exact ps_0 hpp) (by decide) ?_
      refine by_iload rfl ?_
      refine by_aload_n rfl ?_
      refine by_getf cn_93 fl_5_24 (by first | exact rfl | assumption) (by decide) ?_
      refine by_aload_n rfl ?_
      refine by_getf cn_93 fl_5_52 (by first | exact rfl | assumption | exact ps_0 hpp) (by decide) ?_
      refine by_iload rfl ?_
      simp (disch := first | exact Nat.ne_of_beq_eq_false rfl | exact rfl | omega) only [nI_add, xa_sub, xa_mul, pk_div, nm_mod, xa_shr, xa_and7, xa_and1, xa_and255, xa_by_and, nI_m1, Nat.add_sub_cancel, Nat.reducePow, Nat.zero_add, Nat.add_zero, Nat.reduceAdd, Nat.reduceMul, Nat.reduceSub, xf_same, xq_ff, xq_fo, xf_1, xf_2, xs_1, xs_2, xs_same, xq_so, xj_1, xj_2, xj_same, xq_jo, xq_sa1, xq_same, xq_other, upd_s, oI_n, oI_s, pf_3 F2 hpp, xf_7_5 F2, r2', t1]
      first | refine by_iald (by first | exact rfl | assumption | exact ps_1 hpp | exact ps_2 hpp | exact ps_3 hpp | exact ps_4 hpp | exact ps_5 hpp | exact ps_6 hpp | exact ps_7 hpp | exact ps_8 hpp | exact ps_9 hpp | exact ps_10 hpp | exact ps_11 hpp | exact ps_15 hpp | exact ps_16 hpp | exact ps_17 hpp | exact ps_18 hpp | exact ps_19 hpp | exact ps_21 hpp | exact ps_22 hpp | exact ps_23 hpp | exact ps_24 hpp) ⟨by omega, by omega⟩ ?_ | refine by_tald rfl rfl ⟨by omega, by omega⟩ ?_
      simp (disch := first | exact Nat.ne_of_beq_eq_false rfl | exact rfl | omega) only [nI_add, xa_sub, xa_mul, pk_div, nm_mod, xa_shr, xa_and7, xa_and1, xa_and255, xa_by_and, nI_m1, Nat.add_sub_cancel, Nat.reducePow, Nat.zero_add, Nat.add_zero, Nat.reduceAdd, Nat.reduceMul, Nat.reduceSub, xf_same, xq_ff, xq_fo, xf_1, xf_2, xs_1, xs_2, xs_same, xq_so, xj_1, xj_2, xj_same, xq_jo, xq_sa1, xq_same, xq_other, upd_s, oI_n, oI_s, pf_3 F2 hpp, xf_7_5 F2, r2', t1]
      first | refine by_iald (by first | exact rfl | assumption | exact ps_1 hpp | exact ps_2 hpp | exact ps_3 hpp | exact ps_4 hpp | exact ps_5 hpp | exact ps_6 hpp | exact ps_7 hpp | exact ps_8 hpp | exact ps_9 hpp | exact ps_10 hpp | exact ps_11 hpp | exact ps_15 hpp | exact ps_16 hpp | exact ps_17 hpp | exact ps_18 hpp | exact ps_19 hpp | exact ps_21 hpp | exact ps_22 hpp | exact ps_23 hpp | exact ps_24 hpp) ⟨by omega, by omega⟩ ?_ | refine by_tald rfl rfl ⟨by omega, by omega⟩ ?_
      refine by_iast (by first | exact rfl | assumption | exact ps_1 hpp | exact ps_2 hpp | exact ps_3 hpp | exact ps_4 hpp | exact ps_5 hpp | exact ps_6 hpp | exact ps_7 hpp | exact ps_8 hpp | exact ps_9 hpp | exact ps_10 hpp | exact ps_11 hpp | exact ps_15 hpp | exact ps_16 hpp | exact ps_17 hpp | exact ps_18 hpp | exact ps_19 hpp | exact ps_21 hpp | exact ps_22 hpp | exact ps_23 hpp | exact ps_24 hpp) ⟨by omega, by omega⟩ ?_
      refine by_nil ?_
      simp (disch := first | exact Nat.ne_of_beq_eq_false rfl | exact rfl | omega) only [nI_add, xa_sub, xa_mul, pk_div, nm_mod, xa_shr, xa_and7, xa_and1, xa_and255, xa_by_and, nI_m1, Nat.add_sub_cancel, Nat.reducePow, Nat.zero_add, Nat.add_zero, Nat.reduceAdd, Nat.reduceMul, Nat.reduceSub, xf_same, xq_ff, xq_fo, xf_1, xf_2, xs_1, xs_2, xs_same, xq_so, xj_1, xj_2, xj_same, xq_jo, xq_sa1, xq_same, xq_other, upd_s, oI_n, oI_s, xv_0, xv_1, xv_2, xv_3, xm_p1, xm_p2, xq_fp, xq_fn, List.filter_nil, Nat.reduceBEq, Bool.not_true, Bool.not_false, Bool.and_true, Bool.and_false, Bool.false_and, Bool.true_and, if_true, if_false, Bool.false_eq_true, reduceIte, xc_i, xc_j, xc_r, xc_n, List.nil_append, List.cons_append, Option.toList_some, Option.toList_none, pf_3 F2 hpp, xf_7_5 F2, r2', t1]
      refine xm_go_wk (by simp [Value.category]) (hgo _ (Fr_si (Fr_mo f2 (by simp) (by simp)) (by simp)) (by rw [xq_so (by omega)]; exact q1) (by rw [xs_same, upd_s]; rfl) (fun m hm => ⟨by rw [xq_so (by omega)]; exact q2 m hm, by rw [xs_same, upd_o hm, f2.1 (pp + 3) (by simp)]⟩))
  cases e : c1 n with
  | none =>
    rw [e] at r1 sec
    have r1 : h'.1 (pp + 2) n = -1 := r1
    with_reducible refine xm_go_blk b_X5_merge_26 k_X5_merge_26 ?_
    refine by_iload_n rfl ?_
    refine by_aload_n rfl ?_
    refine by_getf cn_93 fl_5_44 (by first | exact rfl | assumption) (by decide) ?_
    simp (disch := first | exact Nat.ne_of_beq_eq_false rfl | exact rfl | omega) only [nI_add, xa_sub, xa_mul, pk_div, nm_mod, xa_shr, xa_and7, xa_and1, xa_and255, xa_by_and, nI_m1, Nat.add_sub_cancel, Nat.reducePow, Nat.zero_add, Nat.add_zero, Nat.reduceAdd, Nat.reduceMul, Nat.reduceSub, xf_same, xq_ff, xq_fo, xf_1, xf_2, xs_1, xs_2, xs_same, xq_so, xj_1, xj_2, xj_same, xq_jo, xq_sa1, xq_same, xq_other, upd_s, oI_n, oI_s, e2, xf_7_0 j1, e8, pf_2 j1 hpp, r1, m1_ltz]
    refine by_ic_ge 135 rfl ?_
    simp (disch := first | exact Nat.ne_of_beq_eq_false rfl | exact rfl | omega) only [nI_add, xa_sub, xa_mul, pk_div, nm_mod, xa_shr, xa_and7, xa_and1, xa_and255, xa_by_and, nI_m1, Nat.add_sub_cancel, Nat.reducePow, Nat.zero_add, Nat.add_zero, Nat.reduceAdd, Nat.reduceMul, Nat.reduceSub, xf_same, xq_ff, xq_fo, xf_1, xf_2, xs_1, xs_2, xs_same, xq_so, xj_1, xj_2, xj_same, xq_jo, xq_sa1, xq_same, xq_other, upd_s, oI_n, oI_s, xv_0, xv_1, xv_2, xv_3, xm_p1, xm_p2, xq_fp, xq_fn, List.filter_nil, Nat.reduceBEq, Bool.not_true, Bool.not_false, Bool.and_true, Bool.and_false, Bool.false_and, Bool.true_and, if_true, if_false, Bool.false_eq_true, reduceIte, xc_i, xc_j, xc_r, xc_n, List.nil_append, List.cons_append, Option.toList_some, Option.toList_none, nI_ltJ, nI_leJ, nI_eqJ, nI_ltz, nI_gez, nI_gtz, nI_lez, nI_eqz, m1_ltz, m1_gez, true_imp_iff, false_imp_iff, true_and, and_true, ne_eq, not_false_eq_true, not_true_eq_false, Nat.reduceEqDiff, Nat.reduceLT, Nat.reduceLeDiff, e2, xf_7_0 j1, e8, pf_2 j1 hpp, r1, m1_ltz]
    refine ⟨fun c => absurd c (by omega), fun c26 => ?_⟩
    with_reducible refine xm_go_blk b_X5_merge_34 k_X5_merge_34 ?_
    refine by_aload_n rfl ?_
    refine by_getf cn_93 fl_5_9 (by first | exact rfl | assumption) (by decide) ?_
    refine by_iload_n rfl ?_
    simp (disch := first | exact Nat.ne_of_beq_eq_false rfl | exact rfl | omega) only [nI_add, xa_sub, xa_mul, pk_div, nm_mod, xa_shr, xa_and7, xa_and1, xa_and255, xa_by_and, nI_m1, Nat.add_sub_cancel, Nat.reducePow, Nat.zero_add, Nat.add_zero, Nat.reduceAdd, Nat.reduceMul, Nat.reduceSub, xf_same, xq_ff, xq_fo, xf_1, xf_2, xs_1, xs_2, xs_same, xq_so, xj_1, xj_2, xj_same, xq_jo, xq_sa1, xq_same, xq_other, upd_s, oI_n, oI_s, e2, xf_7_0 j1, e8, pf_2 j1 hpp, r1, m1_ltz]
    first | refine by_iald (by first | exact rfl | assumption | exact ps_1 hpp | exact ps_2 hpp | exact ps_3 hpp | exact ps_4 hpp | exact ps_5 hpp | exact ps_6 hpp | exact ps_7 hpp | exact ps_8 hpp | exact ps_9 hpp | exact ps_10 hpp | exact ps_11 hpp | exact ps_15 hpp | exact ps_16 hpp | exact ps_17 hpp | exact ps_18 hpp | exact ps_19 hpp | exact ps_21 hpp | exact ps_22 hpp | exact ps_23 hpp | exact ps_24 hpp) ⟨by omega, by omega⟩ ?_ | refine by_tald rfl rfl ⟨by omega, by omega⟩ ?_
    refine by_istore (by rw [ml_93]; decide) ?_
    refine by_aload_n rfl ?_
    refine by_getf cn_93 fl_5_47 (by first | exact rfl | assumption | exact ps_0 hpp) (by decide) ?_
    refine by_iload rfl ?_
    simp (disch := first | exact Nat.ne_of_beq_eq_false rfl | exact rfl | omega) only [nI_add, xa_sub, xa_mul, pk_div, nm_mod, xa_shr, xa_and7, xa_and1, xa_and255, xa_by_and, nI_m1, Nat.add_sub_cancel, Nat.reducePow, Nat.zero_add, Nat.add_zero, Nat.reduceAdd, Nat.reduceMul, Nat.reduceSub, xf_same, xq_ff, xq_fo, xf_1, xf_2, xs_1, xs_2, xs_same, xq_so, xj_1, xj_2, xj_same, xq_jo, xq_sa1, xq_same, xq_other, upd_s, oI_n, oI_s, e2, xf_7_0 j1, e8, pf_2 j1 hpp, r1, m1_ltz]
    first | refine by_iald (by first | exact rfl | assumption | exact ps_1 hpp | exact ps_2 hpp | exact ps_3 hpp | exact ps_4 hpp | exact ps_5 hpp | exact ps_6 hpp | exact ps_7 hpp | exact ps_8 hpp | exact ps_9 hpp | exact ps_10 hpp | exact ps_11 hpp | exact ps_15 hpp | exact ps_16 hpp | exact ps_17 hpp | exact ps_18 hpp | exact ps_19 hpp | exact ps_21 hpp | exact ps_22 hpp | exact ps_23 hpp | exact ps_24 hpp) ⟨by omega, by omega⟩ ?_ | refine by_tald rfl rfl ⟨by omega, by omega⟩ ?_
    refine by_if_lt 71 rfl ?_
    simp (disch := first | exact Nat.ne_of_beq_eq_false rfl | exact rfl | omega) only [nI_add, xa_sub, xa_mul, pk_div, nm_mod, xa_shr, xa_and7, xa_and1, xa_and255, xa_by_and, nI_m1, Nat.add_sub_cancel, Nat.reducePow, Nat.zero_add, Nat.add_zero, Nat.reduceAdd, Nat.reduceMul, Nat.reduceSub, xf_same, xq_ff, xq_fo, xf_1, xf_2, xs_1, xs_2, xs_same, xq_so, xj_1, xj_2, xj_same, xq_jo, xq_sa1, xq_same, xq_other, upd_s, oI_n, oI_s, xv_0, xv_1, xv_2, xv_3, xm_p1, xm_p2, xq_fp, xq_fn, List.filter_nil, Nat.reduceBEq, Bool.not_true, Bool.not_false, Bool.and_true, Bool.and_false, Bool.false_and, Bool.true_and, if_true, if_false, Bool.false_eq_true, reduceIte, xc_i, xc_j, xc_r, xc_n, List.nil_append, List.cons_append, Option.toList_some, Option.toList_none, nI_ltJ, nI_leJ, nI_eqJ, nI_ltz, nI_gez, nI_gtz, nI_lez, nI_eqz, m1_ltz, m1_gez, true_imp_iff, false_imp_iff, true_and, and_true, ne_eq, not_false_eq_true, not_true_eq_false, Nat.reduceEqDiff, Nat.reduceLT, Nat.reduceLeDiff, e2, xf_7_0 j1, e8, pf_2 j1 hpp, r1, m1_ltz]
    exact xm_go_wk (by simp [Value.category]) (sec h' j1 Fr_rf r1 (fun _ _ => rfl))
  | some x =>
    rw [e] at r1 sec
    have r1 : h'.1 (pp + 2) n = nI x := r1
    have hx := hcl x (Or.inl e)
    have hx2 := hAN x hx
    have t1 := (j4 x hx).1
    with_reducible refine xm_go_blk b_X5_merge_26 k_X5_merge_26 ?_
    refine by_iload_n rfl ?_
    refine by_aload_n rfl ?_
    refine by_getf cn_93 fl_5_44 (by first | exact rfl | assumption) (by decide) ?_
    simp (disch := first | exact Nat.ne_of_beq_eq_false rfl | exact rfl | omega) only [nI_add, xa_sub, xa_mul, pk_div, nm_mod, xa_shr, xa_and7, xa_and1, xa_and255, xa_by_and, nI_m1, Nat.add_sub_cancel, Nat.reducePow, Nat.zero_add, Nat.add_zero, Nat.reduceAdd, Nat.reduceMul, Nat.reduceSub, xf_same, xq_ff, xq_fo, xf_1, xf_2, xs_1, xs_2, xs_same, xq_so, xj_1, xj_2, xj_same, xq_jo, xq_sa1, xq_same, xq_other, upd_s, oI_n, oI_s, e2, xf_7_0 j1, e8, pf_2 j1 hpp, xf_7_5 j1, r1, t1]
    refine by_ic_ge 135 rfl ?_
    simp (disch := first | exact Nat.ne_of_beq_eq_false rfl | exact rfl | omega) only [nI_add, xa_sub, xa_mul, pk_div, nm_mod, xa_shr, xa_and7, xa_and1, xa_and255, xa_by_and, nI_m1, Nat.add_sub_cancel, Nat.reducePow, Nat.zero_add, Nat.add_zero, Nat.reduceAdd, Nat.reduceMul, Nat.reduceSub, xf_same, xq_ff, xq_fo, xf_1, xf_2, xs_1, xs_2, xs_same, xq_so, xj_1, xj_2, xj_same, xq_jo, xq_sa1, xq_same, xq_other, upd_s, oI_n, oI_s, xv_0, xv_1, xv_2, xv_3, xm_p1, xm_p2, xq_fp, xq_fn, List.filter_nil, Nat.reduceBEq, Bool.not_true, Bool.not_false, Bool.and_true, Bool.and_false, Bool.false_and, Bool.true_and, if_true, if_false, Bool.false_eq_true, reduceIte, xc_i, xc_j, xc_r, xc_n, List.nil_append, List.cons_append, Option.toList_some, Option.toList_none, nI_ltJ, nI_leJ, nI_eqJ, nI_ltz, nI_gez, nI_gtz, nI_lez, nI_eqz, m1_ltz, m1_gez, true_imp_iff, false_imp_iff, true_and, and_true, ne_eq, not_false_eq_true, not_true_eq_false, Nat.reduceEqDiff, Nat.reduceLT, Nat.reduceLeDiff, e2, xf_7_0 j1, e8, pf_2 j1 hpp, xf_7_5 j1, r1, t1]
    refine ⟨fun c => absurd c (by omega), fun c26 => ?_⟩
    with_reducible refine xm_go_blk b_X5_merge_34 k_X5_merge_34 ?_
    refine by_aload_n rfl ?_
    refine by_getf cn_93 fl_5_9 (by first | exact rfl | assumption) (by decide) ?_
    refine by_iload_n rfl ?_
    simp (disch := first | exact Nat.ne_of_beq_eq_false rfl | exact rfl | omega) only [nI_add, xa_sub, xa_mul, pk_div, nm_mod, xa_shr, xa_and7, xa_and1, xa_and255, xa_by_and, nI_m1, Nat.add_sub_cancel, Nat.reducePow, Nat.zero_add, Nat.add_zero, Nat.reduceAdd, Nat.reduceMul, Nat.reduceSub, xf_same, xq_ff, xq_fo, xf_1, xf_2, xs_1, xs_2, xs_same, xq_so, xj_1, xj_2, xj_same, xq_jo, xq_sa1, xq_same, xq_other, upd_s, oI_n, oI_s, e2, xf_7_0 j1, e8, pf_2 j1 hpp, xf_7_5 j1, r1, t1]
    first | refine by_iald (by first | exact rfl | assumption | exact ps_1 hpp | exact ps_2 hpp | exact ps_3 hpp | exact ps_4 hpp | exact ps_5 hpp | exact ps_6 hpp | exact ps_7 hpp | exact ps_8 hpp | exact ps_9 hpp | exact ps_10 hpp | exact ps_11 hpp | exact ps_15 hpp | exact ps_16 hpp | exact ps_17 hpp | exact ps_18 hpp | exact ps_19 hpp | exact ps_21 hpp | exact ps_22 hpp | exact ps_23 hpp | exact ps_24 hpp) ⟨by omega, by omega⟩ ?_ | refine by_tald rfl rfl ⟨by omega, by omega⟩ ?_
    refine by_istore (by rw [ml_93]; decide) ?_
    refine by_aload_n rfl ?_
    refine by_getf cn_93 fl_5_47 (by first | exact rfl | assumption | exact ps_0 hpp) (by decide) ?_
    refine by_iload rfl ?_
    simp (disch := first | exact Nat.ne_of_beq_eq_false rfl | exact rfl | omega) only [nI_add, xa_sub, xa_mul, pk_div, nm_mod, xa_shr, xa_and7, xa_and1, xa_and255, xa_by_and, nI_m1, Nat.add_sub_cancel, Nat.reducePow, Nat.zero_add, Nat.add_zero, Nat.reduceAdd, Nat.reduceMul, Nat.reduceSub, xf_same, xq_ff, xq_fo, xf_1, xf_2, xs_1, xs_2, xs_same, xq_so, xj_1, xj_2, xj_same, xq_jo, xq_sa1, xq_same, xq_other, upd_s, oI_n, oI_s, e2, xf_7_0 j1, e8, pf_2 j1 hpp, xf_7_5 j1, r1, t1]
    first | refine by_iald (by first | exact rfl | assumption | exact ps_1 hpp | exact ps_2 hpp | exact ps_3 hpp | exact ps_4 hpp | exact ps_5 hpp | exact ps_6 hpp | exact ps_7 hpp | exact ps_8 hpp | exact ps_9 hpp | exact ps_10 hpp | exact ps_11 hpp | exact ps_15 hpp | exact ps_16 hpp | exact ps_17 hpp | exact ps_18 hpp | exact ps_19 hpp | exact ps_21 hpp | exact ps_22 hpp | exact ps_23 hpp | exact ps_24 hpp) ⟨by omega, by omega⟩ ?_ | refine by_tald rfl rfl ⟨by omega, by omega⟩ ?_
    refine by_if_lt 71 rfl ?_
    simp (disch := first | exact Nat.ne_of_beq_eq_false rfl | exact rfl | omega) only [nI_add, xa_sub, xa_mul, pk_div, nm_mod, xa_shr, xa_and7, xa_and1, xa_and255, xa_by_and, nI_m1, Nat.add_sub_cancel, Nat.reducePow, Nat.zero_add, Nat.add_zero, Nat.reduceAdd, Nat.reduceMul, Nat.reduceSub, xf_same, xq_ff, xq_fo, xf_1, xf_2, xs_1, xs_2, xs_same, xq_so, xj_1, xj_2, xj_same, xq_jo, xq_sa1, xq_same, xq_other, upd_s, oI_n, oI_s, xv_0, xv_1, xv_2, xv_3, xm_p1, xm_p2, xq_fp, xq_fn, List.filter_nil, Nat.reduceBEq, Bool.not_true, Bool.not_false, Bool.and_true, Bool.and_false, Bool.false_and, Bool.true_and, if_true, if_false, Bool.false_eq_true, reduceIte, xc_i, xc_j, xc_r, xc_n, List.nil_append, List.cons_append, Option.toList_some, Option.toList_none, nI_ltJ, nI_leJ, nI_eqJ, nI_ltz, nI_gez, nI_gtz, nI_lez, nI_eqz, m1_ltz, m1_gez, true_imp_iff, false_imp_iff, true_and, and_true, ne_eq, not_false_eq_true, not_true_eq_false, Nat.reduceEqDiff, Nat.reduceLT, Nat.reduceLeDiff, e2, xf_7_0 j1, e8, pf_2 j1 hpp, xf_7_5 j1, r1, t1]
    with_reducible refine xm_go_blk b_X5_merge_52 k_X5_merge_52 ?_
    refine by_aload_n rfl ?_
    refine by_getf cn_93 fl_5_47 (by first | exact rfl | assumption | exact ps_0 hpp) (by decide) ?_
    refine by_iload rfl ?_
    refine by_aload_n rfl ?_
    refine by_getf cn_93 fl_5_24 (by first | exact rfl | assumption) (by decide) ?_
    refine by_aload_n rfl ?_
    refine by_getf cn_93 fl_5_47 (by first | exact rfl | assumption | exact ps_0 hpp) (by decide) ?_
    refine by_iload rfl ?_
    simp (disch := first | exact Nat.ne_of_beq_eq_false rfl | exact rfl | omega) only [nI_add, xa_sub, xa_mul, pk_div, nm_mod, xa_shr, xa_and7, xa_and1, xa_and255, xa_by_and, nI_m1, Nat.add_sub_cancel, Nat.reducePow, Nat.zero_add, Nat.add_zero, Nat.reduceAdd, Nat.reduceMul, Nat.reduceSub, xf_same, xq_ff, xq_fo, xf_1, xf_2, xs_1, xs_2, xs_same, xq_so, xj_1, xj_2, xj_same, xq_jo, xq_sa1, xq_same, xq_other, upd_s, oI_n, oI_s, e2, xf_7_0 j1, e8, pf_2 j1 hpp, xf_7_5 j1, r1, t1]
    first | refine by_iald (by first | exact rfl | assumption | exact ps_1 hpp | exact ps_2 hpp | exact ps_3 hpp | exact ps_4 hpp | exact ps_5 hpp | exact ps_6 hpp | exact ps_7 hpp | exact ps_8 hpp | exact ps_9 hpp | exact ps_10 hpp | exact ps_11 hpp | exact ps_15 hpp | exact ps_16 hpp | exact ps_17 hpp | exact ps_18 hpp | exact ps_19 hpp | exact ps_21 hpp | exact ps_22 hpp | exact ps_23 hpp | exact ps_24 hpp) ⟨by omega, by omega⟩ ?_ | refine by_tald rfl rfl ⟨by omega, by omega⟩ ?_
    simp (disch := first | exact Nat.ne_of_beq_eq_false rfl | exact rfl | omega) only [nI_add, xa_sub, xa_mul, pk_div, nm_mod, xa_shr, xa_and7, xa_and1, xa_and255, xa_by_and, nI_m1, Nat.add_sub_cancel, Nat.reducePow, Nat.zero_add, Nat.add_zero, Nat.reduceAdd, Nat.reduceMul, Nat.reduceSub, xf_same, xq_ff, xq_fo, xf_1, xf_2, xs_1, xs_2, xs_same, xq_so, xj_1, xj_2, xj_same, xq_jo, xq_sa1, xq_same, xq_other, upd_s, oI_n, oI_s, e2, xf_7_0 j1, e8, pf_2 j1 hpp, xf_7_5 j1, r1, t1]
    first | refine by_iald (by first | exact rfl | assumption | exact ps_1 hpp | exact ps_2 hpp | exact ps_3 hpp | exact ps_4 hpp | exact ps_5 hpp | exact ps_6 hpp | exact ps_7 hpp | exact ps_8 hpp | exact ps_9 hpp | exact ps_10 hpp | exact ps_11 hpp | exact ps_15 hpp | exact ps_16 hpp | exact ps_17 hpp | exact ps_18 hpp | exact ps_19 hpp | exact ps_21 hpp | exact ps_22 hpp | exact ps_23 hpp | exact ps_24 hpp) ⟨by omega, by omega⟩ ?_ | refine by_tald rfl rfl ⟨by omega, by omega⟩ ?_
    refine by_iast (by first | exact rfl | assumption | exact ps_1 hpp | exact ps_2 hpp | exact ps_3 hpp | exact ps_4 hpp | exact ps_5 hpp | exact ps_6 hpp | exact ps_7 hpp | exact ps_8 hpp | exact ps_9 hpp | exact ps_10 hpp | exact ps_11 hpp | exact ps_15 hpp | exact ps_16 hpp | exact ps_17 hpp | exact ps_18 hpp | exact ps_19 hpp | exact ps_21 hpp | exact ps_22 hpp | exact ps_23 hpp | exact ps_24 hpp) ⟨by omega, by omega⟩ ?_
    refine by_nil ?_
    simp (disch := first | exact Nat.ne_of_beq_eq_false rfl | exact rfl | omega) only [nI_add, xa_sub, xa_mul, pk_div, nm_mod, xa_shr, xa_and7, xa_and1, xa_and255, xa_by_and, nI_m1, Nat.add_sub_cancel, Nat.reducePow, Nat.zero_add, Nat.add_zero, Nat.reduceAdd, Nat.reduceMul, Nat.reduceSub, xf_same, xq_ff, xq_fo, xf_1, xf_2, xs_1, xs_2, xs_same, xq_so, xj_1, xj_2, xj_same, xq_jo, xq_sa1, xq_same, xq_other, upd_s, oI_n, oI_s, xv_0, xv_1, xv_2, xv_3, xm_p1, xm_p2, xq_fp, xq_fn, List.filter_nil, Nat.reduceBEq, Bool.not_true, Bool.not_false, Bool.and_true, Bool.and_false, Bool.false_and, Bool.true_and, if_true, if_false, Bool.false_eq_true, reduceIte, xc_i, xc_j, xc_r, xc_n, List.nil_append, List.cons_append, Option.toList_some, Option.toList_none, e2, xf_7_0 j1, e8, pf_2 j1 hpp, xf_7_5 j1, r1, t1]
    have f2 : Fr [pp + 2] [] h' (xm_si h' (pp + 2) n (nI (tw x))) := Fr_si Fr_rf (by simp)
    exact xm_go_wk (by simp [Value.category]) (sec _ (Fr_XF j1 f2 (by decide +kernel)) f2 (by rw [xs_same, upd_s]; rfl) (fun m hm => by rw [xs_same, upd_o hm]))
end MG
