/-! ===== definitions of jets: the table of nodes, with what each gives ===== -/
/-- a cost: turns, waiting, cells -/
abbrev gQ := Nat × Nat × Nat
abbrev qle (a b : gQ) : Prop := a.1 ≤ b.1 ∧ a.2.1 ≤ b.2.1 ∧ a.2.2 ≤ b.2.2
theorem qle_rf (a : gQ) : qle a a := ⟨Nat.le_refl _, Nat.le_refl _, Nat.le_refl _⟩
theorem qle_tr {a b c : gQ} (h : qle a b) (k : qle b c) : qle a c := ⟨Nat.le_trans h.1 k.1, Nat.le_trans h.2.1 k.2.1, Nat.le_trans h.2.2 k.2.2⟩
def qL : gQ := (1, 0, 0)
def qB : gQ := (2, 0, 0)
def qC (k : Nat) (x y : gQ) : gQ := (1 + x.1 + y.1, max (1 + x.2.1) y.2.1, k + 1 + max x.2.2 y.2.2)
def qP (x y : gQ) : gQ := (1 + x.1 + y.1, max (1 + x.2.1) y.2.1, max x.2.2 y.2.2)
def qD (x : gQ) : gQ := (1 + x.1, x.2.1, x.2.2)
def qH (x y : gQ) : gQ := (1 + max x.1 y.1, max x.2.1 y.2.1, max x.2.2 y.2.2)
abbrev gFn := List Bool → List Bool
/-- a node: op, one, two, skip, other, source, target, what it gives, cost -/
abbrev gN := Nat × Nat × Nat × Nat × Nat × Nat × Nat × gFn × gQ
def g_o (N : gN) : Nat := N.1
def g_a (N : gN) : Nat := N.2.1
def g_b (N : gN) : Nat := N.2.2.1
def g_k (N : gN) : Nat := N.2.2.2.1
def g_l (N : gN) : Nat := N.2.2.2.2.1
def g_s (N : gN) : Nat := N.2.2.2.2.2.1
def g_t (N : gN) : Nat := N.2.2.2.2.2.2.1
def g_F (N : gN) : gFn := N.2.2.2.2.2.2.2.1
def g_q (N : gN) : gQ := N.2.2.2.2.2.2.2.2
def gCh (n m : Nat) : Prop := 400 ≤ m ∧ m < n
/-- what a node n must be like, over those ahead of it -/
def gW (G : Nat → gN) (n : Nat) (N : gN) : Prop :=
  (∀ x, x.length = g_s N → (g_F N x).length = g_t N) ∧ g_s N ≤ 4000 ∧ g_t N ≤ 4000 ∧ 1 ≤ (g_q N).1 ∧ g_k N ≤ 4000 ∧ g_l N ≤ 4000 ∧
  (g_o N = 0 ∨ g_o N = 1 ∨ g_o N = 2 ∨ g_o N = 3 ∨ g_o N = 4 ∨ g_o N = 6 ∨ g_o N = 7 ∨ g_o N = 8) ∧
  (g_o N = 0 → gCh n (g_a N) ∧ gCh n (g_b N) ∧ g_s (G (g_a N)) ≤ g_s N ∧ g_t (G (g_a N)) = g_k N ∧ g_s (G (g_b N)) = g_k N ∧ g_t (G (g_b N)) = g_t N ∧ qle (qC (g_k N) (g_q (G (g_a N))) (g_q (G (g_b N)))) (g_q N) ∧ ∀ x, x.length = g_s N → g_F N x = g_F (G (g_b N)) (g_F (G (g_a N)) (x.take (g_s (G (g_a N)))))) ∧
  (g_o N = 1 → gCh n (g_a N) ∧ gCh n (g_b N) ∧ g_k N = 1 ∧ g_l N = 1 ∧ 1 + g_s (G (g_a N)) ≤ g_s N ∧ 1 + g_s (G (g_b N)) ≤ g_s N ∧ g_t (G (g_a N)) = g_t N ∧ g_t (G (g_b N)) = g_t N ∧ qle (qH (g_q (G (g_a N))) (g_q (G (g_b N)))) (g_q N) ∧ ∀ x, x.length = g_s N → g_F N x = if x.getD 0 false = false then g_F (G (g_a N)) ((x.drop 1).take (g_s (G (g_a N)))) else g_F (G (g_b N)) ((x.drop 1).take (g_s (G (g_b N))))) ∧
  (g_o N = 2 → gCh n (g_a N) ∧ gCh n (g_b N) ∧ g_s (G (g_a N)) ≤ g_s N ∧ g_s (G (g_b N)) ≤ g_s N ∧ g_t (G (g_a N)) = g_k N ∧ g_k N + g_t (G (g_b N)) = g_t N ∧ qle (qP (g_q (G (g_a N))) (g_q (G (g_b N)))) (g_q N) ∧ ∀ x, x.length = g_s N → g_F N x = g_F (G (g_a N)) (x.take (g_s (G (g_a N)))) ++ g_F (G (g_b N)) (x.take (g_s (G (g_b N))))) ∧
  ((g_o N = 3 ∨ g_o N = 4) → gCh n (g_a N) ∧ g_s (G (g_a N)) ≤ g_s N ∧ 1 + g_k N + g_t (G (g_a N)) = g_t N ∧ qle (qD (g_q (G (g_a N)))) (g_q N) ∧ ∀ x, x.length = g_s N → g_F N x = (g_o N == 4) :: (List.replicate (g_k N) false ++ g_F (G (g_a N)) (x.take (g_s (G (g_a N)))))) ∧
  (g_o N = 6 → gCh n (g_a N) ∧ g_k N + g_s (G (g_a N)) ≤ g_s N ∧ g_t (G (g_a N)) = g_t N ∧ qle (qD (g_q (G (g_a N)))) (g_q N) ∧ ∀ x, x.length = g_s N → g_F N x = g_F (G (g_a N)) ((x.drop (g_k N)).take (g_s (G (g_a N))))) ∧
  (g_o N = 7 → g_l N + g_k N ≤ g_s N ∧ g_t N = g_k N ∧ ∀ x, x.length = g_s N → g_F N x = (x.drop (g_l N)).take (g_k N)) ∧
  (g_o N = 8 → g_t N = 0)
theorem gW_ext {G G' : Nat → gN} {n : Nat} {N : gN} (hg : ∀ m, m < n → G' m = G m) (hw : gW G n N) : gW G' n N := by
  obtain ⟨w1, w2, w3, w4, w5, w6, w7, c0, c1, c2, c3, c6, c7, c8⟩ := hw
  refine ⟨w1, w2, w3, w4, w5, w6, w7, fun e => ?_, fun e => ?_, fun e => ?_, fun e => ?_, fun e => ?_, c7, c8⟩
  · have := c0 e; rw [hg _ this.1.2, hg _ this.2.1.2]; exact this
  · have := c1 e; rw [hg _ this.1.2, hg _ this.2.1.2]; exact this
  · have := c2 e; rw [hg _ this.1.2, hg _ this.2.1.2]; exact this
  · have := c3 e; rw [hg _ this.1.2]; exact this
  · have := c6 e; rw [hg _ this.1.2]; exact this
/-- a node's rows -/
def gR (h : xm_H) (n : Nat) (N : gN) : Prop := h.1 23 n = nI (g_o N) ∧ (g_o N ≤ 6 → h.1 24 n = nI (g_a N)) ∧ (g_o N ≤ 2 → h.1 25 n = nI (g_b N)) ∧ h.1 26 n = nI (g_k N) ∧ h.1 27 n = nI (g_l N) ∧ h.1 29 n = nI (g_s N) ∧ h.1 30 n = nI (g_t N)
def gI (h : xm_H) (G : Nat → gN) (c : Nat) : Prop := h.2.2 22 9 = .int (nI c) ∧ 400 ≤ c ∧ c ≤ 8000 ∧ ∀ n, 400 ≤ n → n < c → gW G n (G n) ∧ gR h n (G n)
def gU (G : Nat → gN) (c : Nat) (N : gN) : Nat → gN := fun n => if n = c then N else G n
def gRw : List Nat := [23, 24, 25, 26, 27, 29, 30]
/-- rows ahead stay -/
def gKp (h h' : xm_H) (c : Nat) : Prop := ∀ r j, j < c → r ∈ gRw → h'.1 r j = h.1 r j
section CD
variable {sc : xm_Sc} {d c : Nat} {G : Nat → gN} {h : xm_H} {post : xm_Po}
theorem sp_add (N : gN) {a1 a2 : Int32} (hF : XF h) (hI : gI h G c) (hc : c < 8000) (ha : g_o N ≤ 6 → a1 = nI (g_a N)) (hb : g_o N ≤ 2 → a2 = nI (g_b N)) (hW : gW G c N)
    (hp : ∀ h', XF h' → Fr gRw [(22, 9)] h h' → gKp h h' c → gI h' (gU G c N) (c + 1) → post (some (.int (nI c))) h') : xm_T (XE sc) (d + 1) 0 [.ref 22, .int (nI (g_o N)), .int a1, .int a2, .int (nI (g_k N)), .int (nI (g_l N)), .int (nI (g_s N)), .int (nI (g_t N))] h post := by
  obtain ⟨i1, i2, i3, i4⟩ := hI
  refine xq_in rfl ?_
  simp only [xq_a0, xq_aI, xq_aJ, xq_aR, Nat.reduceAdd]
  with_reducible refine xm_go_blk b_X0_add_0 k_X0_add_0 ?_
  refine by_aload_n rfl ?_
  refine by_getf cn_0 fl_0_39 (by first | exact rfl | assumption) (by decide) ?_
  refine by_sipush cs_8000 ?_
  simp (disch := first | exact Nat.ne_of_beq_eq_false rfl | exact rfl | omega) only [nI_add, xa_sub, xa_mul, pk_div, nm_mod, xa_shr, xa_and7, xa_and1, xa_and255, xa_by_and, nI_m1, Nat.add_sub_cancel, Nat.reducePow, Nat.zero_add, Nat.add_zero, Nat.reduceAdd, Nat.reduceMul, Nat.reduceSub, xf_same, xq_ff, xq_fo, xf_1, xf_2, xs_1, xs_2, xs_same, xq_so, xj_1, xj_2, xj_same, xq_jo, xq_sa1, xq_same, xq_other, upd_s, oI_n, oI_s, i1, xf_22_0 hF, xf_22_1 hF, xf_22_2 hF, xf_22_3 hF, xf_22_4 hF, xf_22_6 hF, xf_22_7 hF]
  refine by_ic_ge 17 rfl ?_
  simp (disch := first | exact Nat.ne_of_beq_eq_false rfl | exact rfl | omega) only [nI_add, xa_sub, xa_mul, pk_div, nm_mod, xa_shr, xa_and7, xa_and1, xa_and255, xa_by_and, nI_m1, Nat.add_sub_cancel, Nat.reducePow, Nat.zero_add, Nat.add_zero, Nat.reduceAdd, Nat.reduceMul, Nat.reduceSub, xf_same, xq_ff, xq_fo, xf_1, xf_2, xs_1, xs_2, xs_same, xq_so, xj_1, xj_2, xj_same, xq_jo, xq_sa1, xq_same, xq_other, upd_s, oI_n, oI_s, xv_0, xv_1, xv_2, xv_3, xm_p1, xm_p2, xq_fp, xq_fn, List.filter_nil, Nat.reduceBEq, Bool.not_true, Bool.not_false, Bool.and_true, Bool.and_false, Bool.false_and, Bool.true_and, if_true, if_false, Bool.false_eq_true, reduceIte, xc_i, xc_j, xc_r, xc_n, List.nil_append, List.cons_append, Option.toList_some, Option.toList_none, nI_ltJ, nI_leJ, nI_eqJ, nI_ltz, nI_gez, nI_gtz, nI_lez, nI_eqz, m1_ltz, m1_gez, true_imp_iff, false_imp_iff, true_and, and_true, ne_eq, not_false_eq_true, not_true_eq_false, Nat.reduceEqDiff, Nat.reduceLT, Nat.reduceLeDiff, i1, xf_22_0 hF, xf_22_1 hF, xf_22_2 hF, xf_22_3 hF, xf_22_4 hF, xf_22_6 hF, xf_22_7 hF]
  refine ⟨fun c => absurd c (by omega), fun c0 => ?_⟩
  with_reducible refine xm_go_blk b_X0_add_10 k_X0_add_10 ?_
  refine by_aload_n rfl ?_
  refine by_getf cn_0 fl_0_39 (by first | exact rfl | assumption) (by decide) ?_
  refine by_goto 20 rfl ?_
  try simp (disch := first | exact Nat.ne_of_beq_eq_false rfl | exact rfl | omega) only [nI_add, xa_sub, xa_mul, pk_div, nm_mod, xa_shr, xa_and7, xa_and1, xa_and255, xa_by_and, nI_m1, Nat.add_sub_cancel, Nat.reducePow, Nat.zero_add, Nat.add_zero, Nat.reduceAdd, Nat.reduceMul, Nat.reduceSub, xf_same, xq_ff, xq_fo, xf_1, xf_2, xs_1, xs_2, xs_same, xq_so, xj_1, xj_2, xj_same, xq_jo, xq_sa1, xq_same, xq_other, upd_s, oI_n, oI_s, xv_0, xv_1, xv_2, xv_3, xm_p1, xm_p2, xq_fp, xq_fn, List.filter_nil, Nat.reduceBEq, Bool.not_true, Bool.not_false, Bool.and_true, Bool.and_false, Bool.false_and, Bool.true_and, if_true, if_false, Bool.false_eq_true, reduceIte, xc_i, xc_j, xc_r, xc_n, List.nil_append, List.cons_append, Option.toList_some, Option.toList_none, i1, xf_22_0 hF, xf_22_1 hF, xf_22_2 hF, xf_22_3 hF, xf_22_4 hF, xf_22_6 hF, xf_22_7 hF]
  with_reducible refine xm_go_blk b_X0_add_20 k_X0_add_20 ?_
  refine by_istore (by rw [ml_0]; decide) ?_
  refine by_aload_n rfl ?_
  refine by_iload rfl ?_
  refine by_iconst ci_1 ?_
  refine by_iadd ?_
  refine by_putf cn_0 fl_0_39 (by first | exact rfl | assumption) (by decide) nf_0_9 ft_0_9 (by first | rfl | assumption) (by first | rfl | assumption) ?_
  refine by_aload_n rfl ?_
  refine by_getf cn_0 fl_0_11 (by first | exact rfl | assumption) (by decide) ?_
  refine by_iload rfl ?_
  refine by_iload_n rfl ?_
  simp (disch := first | exact Nat.ne_of_beq_eq_false rfl | exact rfl | omega) only [nI_add, xa_sub, xa_mul, pk_div, nm_mod, xa_shr, xa_and7, xa_and1, xa_and255, xa_by_and, nI_m1, Nat.add_sub_cancel, Nat.reducePow, Nat.zero_add, Nat.add_zero, Nat.reduceAdd, Nat.reduceMul, Nat.reduceSub, xf_same, xq_ff, xq_fo, xf_1, xf_2, xs_1, xs_2, xs_same, xq_so, xj_1, xj_2, xj_same, xq_jo, xq_sa1, xq_same, xq_other, upd_s, oI_n, oI_s, i1, xf_22_0 hF, xf_22_1 hF, xf_22_2 hF, xf_22_3 hF, xf_22_4 hF, xf_22_6 hF, xf_22_7 hF]
  refine by_iast (by first | exact rfl | assumption | exact ps_1 hpp | exact ps_2 hpp | exact ps_3 hpp | exact ps_4 hpp | exact ps_5 hpp | exact ps_6 hpp | exact ps_7 hpp | exact ps_8 hpp | exact ps_9 hpp | exact ps_10 hpp | exact ps_11 hpp | exact ps_15 hpp | exact ps_16 hpp | exact ps_17 hpp | exact ps_18 hpp | exact ps_19 hpp | exact ps_21 hpp | exact ps_22 hpp | exact ps_23 hpp | exact ps_24 hpp) ⟨by omega, by omega⟩ ?_
  refine by_aload_n rfl ?_
  refine by_getf cn_0 fl_0_15 (by first | exact rfl | assumption) (by decide) ?_
  refine by_iload rfl ?_
  refine by_iload_n rfl ?_
  simp (disch := first | exact Nat.ne_of_beq_eq_false rfl | exact rfl | omega) only [nI_add, xa_sub, xa_mul, pk_div, nm_mod, xa_shr, xa_and7, xa_and1, xa_and255, xa_by_and, nI_m1, Nat.add_sub_cancel, Nat.reducePow, Nat.zero_add, Nat.add_zero, Nat.reduceAdd, Nat.reduceMul, Nat.reduceSub, xf_same, xq_ff, xq_fo, xf_1, xf_2, xs_1, xs_2, xs_same, xq_so, xj_1, xj_2, xj_same, xq_jo, xq_sa1, xq_same, xq_other, upd_s, oI_n, oI_s, i1, xf_22_0 hF, xf_22_1 hF, xf_22_2 hF, xf_22_3 hF, xf_22_4 hF, xf_22_6 hF, xf_22_7 hF]
  refine by_iast (by first | exact rfl | assumption | exact ps_1 hpp | exact ps_2 hpp | exact ps_3 hpp | exact ps_4 hpp | exact ps_5 hpp | exact ps_6 hpp | exact ps_7 hpp | exact ps_8 hpp | exact ps_9 hpp | exact ps_10 hpp | exact ps_11 hpp | exact ps_15 hpp | exact ps_16 hpp | exact ps_17 hpp | exact ps_18 hpp | exact ps_19 hpp | exact ps_21 hpp | exact ps_22 hpp | exact ps_23 hpp | exact ps_24 hpp) ⟨by omega, by omega⟩ ?_
  refine by_aload_n rfl ?_
  refine by_getf cn_0 fl_0_18 (by first | exact rfl | assumption) (by decide) ?_
  refine by_iload rfl ?_
  refine by_iload_n rfl ?_
  simp (disch := first | exact Nat.ne_of_beq_eq_false rfl | exact rfl | omega) only [nI_add, xa_sub, xa_mul, pk_div, nm_mod, xa_shr, xa_and7, xa_and1, xa_and255, xa_by_and, nI_m1, Nat.add_sub_cancel, Nat.reducePow, Nat.zero_add, Nat.add_zero, Nat.reduceAdd, Nat.reduceMul, Nat.reduceSub, xf_same, xq_ff, xq_fo, xf_1, xf_2, xs_1, xs_2, xs_same, xq_so, xj_1, xj_2, xj_same, xq_jo, xq_sa1, xq_same, xq_other, upd_s, oI_n, oI_s, i1, xf_22_0 hF, xf_22_1 hF, xf_22_2 hF, xf_22_3 hF, xf_22_4 hF, xf_22_6 hF, xf_22_7 hF]
  refine by_iast (by first | exact rfl | assumption | exact ps_1 hpp | exact ps_2 hpp | exact ps_3 hpp | exact ps_4 hpp | exact ps_5 hpp | exact ps_6 hpp | exact ps_7 hpp | exact ps_8 hpp | exact ps_9 hpp | exact ps_10 hpp | exact ps_11 hpp | exact ps_15 hpp | exact ps_16 hpp | exact ps_17 hpp | exact ps_18 hpp | exact ps_19 hpp | exact ps_21 hpp | exact ps_22 hpp | exact ps_23 hpp | exact ps_24 hpp) ⟨by omega, by omega⟩ ?_
  refine by_aload_n rfl ?_
  refine by_getf cn_0 fl_0_21 (by first | exact rfl | assumption) (by decide) ?_
  refine by_iload rfl ?_
  refine by_iload rfl ?_
  simp (disch := first | exact Nat.ne_of_beq_eq_false rfl | exact rfl | omega) only [nI_add, xa_sub, xa_mul, pk_div, nm_mod, xa_shr, xa_and7, xa_and1, xa_and255, xa_by_and, nI_m1, Nat.add_sub_cancel, Nat.reducePow, Nat.zero_add, Nat.add_zero, Nat.reduceAdd, Nat.reduceMul, Nat.reduceSub, xf_same, xq_ff, xq_fo, xf_1, xf_2, xs_1, xs_2, xs_same, xq_so, xj_1, xj_2, xj_same, xq_jo, xq_sa1, xq_same, xq_other, upd_s, oI_n, oI_s, i1, xf_22_0 hF, xf_22_1 hF, xf_22_2 hF, xf_22_3 hF, xf_22_4 hF, xf_22_6 hF, xf_22_7 hF]
  refine by_iast (by first | exact rfl | assumption | exact ps_1 hpp | exact ps_2 hpp | exact ps_3 hpp | exact ps_4 hpp | exact ps_5 hpp | exact ps_6 hpp | exact ps_7 hpp | exact ps_8 hpp | exact ps_9 hpp | exact ps_10 hpp | exact ps_11 hpp | exact ps_15 hpp | exact ps_16 hpp | exact ps_17 hpp | exact ps_18 hpp | exact ps_19 hpp | exact ps_21 hpp | exact ps_22 hpp | exact ps_23 hpp | exact ps_24 hpp) ⟨by omega, by omega⟩ ?_
  refine by_aload_n rfl ?_
  refine by_getf cn_0 fl_0_24 (by first | exact rfl | assumption) (by decide) ?_
  refine by_iload rfl ?_
  refine by_iload rfl ?_
  simp (disch := first | exact Nat.ne_of_beq_eq_false rfl | exact rfl | omega) only [nI_add, xa_sub, xa_mul, pk_div, nm_mod, xa_shr, xa_and7, xa_and1, xa_and255, xa_by_and, nI_m1, Nat.add_sub_cancel, Nat.reducePow, Nat.zero_add, Nat.add_zero, Nat.reduceAdd, Nat.reduceMul, Nat.reduceSub, xf_same, xq_ff, xq_fo, xf_1, xf_2, xs_1, xs_2, xs_same, xq_so, xj_1, xj_2, xj_same, xq_jo, xq_sa1, xq_same, xq_other, upd_s, oI_n, oI_s, i1, xf_22_0 hF, xf_22_1 hF, xf_22_2 hF, xf_22_3 hF, xf_22_4 hF, xf_22_6 hF, xf_22_7 hF]
  refine by_iast (by first | exact rfl | assumption | exact ps_1 hpp | exact ps_2 hpp | exact ps_3 hpp | exact ps_4 hpp | exact ps_5 hpp | exact ps_6 hpp | exact ps_7 hpp | exact ps_8 hpp | exact ps_9 hpp | exact ps_10 hpp | exact ps_11 hpp | exact ps_15 hpp | exact ps_16 hpp | exact ps_17 hpp | exact ps_18 hpp | exact ps_19 hpp | exact ps_21 hpp | exact ps_22 hpp | exact ps_23 hpp | exact ps_24 hpp) ⟨by omega, by omega⟩ ?_
  refine by_aload_n rfl ?_
  refine by_getf cn_0 fl_0_30 (by first | exact rfl | assumption) (by decide) ?_
  refine by_iload rfl ?_
  refine by_iload rfl ?_
  simp (disch := first | exact Nat.ne_of_beq_eq_false rfl | exact rfl | omega) only [nI_add, xa_sub, xa_mul, pk_div, nm_mod, xa_shr, xa_and7, xa_and1, xa_and255, xa_by_and, nI_m1, Nat.add_sub_cancel, Nat.reducePow, Nat.zero_add, Nat.add_zero, Nat.reduceAdd, Nat.reduceMul, Nat.reduceSub, xf_same, xq_ff, xq_fo, xf_1, xf_2, xs_1, xs_2, xs_same, xq_so, xj_1, xj_2, xj_same, xq_jo, xq_sa1, xq_same, xq_other, upd_s, oI_n, oI_s, i1, xf_22_0 hF, xf_22_1 hF, xf_22_2 hF, xf_22_3 hF, xf_22_4 hF, xf_22_6 hF, xf_22_7 hF]
  refine by_iast (by first | exact rfl | assumption | exact ps_1 hpp | exact ps_2 hpp | exact ps_3 hpp | exact ps_4 hpp | exact ps_5 hpp | exact ps_6 hpp | exact ps_7 hpp | exact ps_8 hpp | exact ps_9 hpp | exact ps_10 hpp | exact ps_11 hpp | exact ps_15 hpp | exact ps_16 hpp | exact ps_17 hpp | exact ps_18 hpp | exact ps_19 hpp | exact ps_21 hpp | exact ps_22 hpp | exact ps_23 hpp | exact ps_24 hpp) ⟨by omega, by omega⟩ ?_
  refine by_aload_n rfl ?_
  refine by_getf cn_0 fl_0_33 (by first | exact rfl | assumption) (by decide) ?_
  refine by_iload rfl ?_
  refine by_iload rfl ?_
  simp (disch := first | exact Nat.ne_of_beq_eq_false rfl | exact rfl | omega) only [nI_add, xa_sub, xa_mul, pk_div, nm_mod, xa_shr, xa_and7, xa_and1, xa_and255, xa_by_and, nI_m1, Nat.add_sub_cancel, Nat.reducePow, Nat.zero_add, Nat.add_zero, Nat.reduceAdd, Nat.reduceMul, Nat.reduceSub, xf_same, xq_ff, xq_fo, xf_1, xf_2, xs_1, xs_2, xs_same, xq_so, xj_1, xj_2, xj_same, xq_jo, xq_sa1, xq_same, xq_other, upd_s, oI_n, oI_s, i1, xf_22_0 hF, xf_22_1 hF, xf_22_2 hF, xf_22_3 hF, xf_22_4 hF, xf_22_6 hF, xf_22_7 hF]
  refine by_iast (by first | exact rfl | assumption | exact ps_1 hpp | exact ps_2 hpp | exact ps_3 hpp | exact ps_4 hpp | exact ps_5 hpp | exact ps_6 hpp | exact ps_7 hpp | exact ps_8 hpp | exact ps_9 hpp | exact ps_10 hpp | exact ps_11 hpp | exact ps_15 hpp | exact ps_16 hpp | exact ps_17 hpp | exact ps_18 hpp | exact ps_19 hpp | exact ps_21 hpp | exact ps_22 hpp | exact ps_23 hpp | exact ps_24 hpp) ⟨by omega, by omega⟩ ?_
  refine by_iload rfl ?_
  refine by_iret ry_0 (by first | rfl | assumption) ?_
  refine hp _ (Fr_XF hF (Fr_si (Fr_si (Fr_si (Fr_si (Fr_si (Fr_si (Fr_si (Fr_sf (T := [(22, 9)]) Fr_rf (by simp)) (by simp [gRw])) (by simp [gRw])) (by simp [gRw])) (by simp [gRw])) (by simp [gRw])) (by simp [gRw])) (by simp [gRw]) : Fr gRw _ h _) (by decide +kernel)) (Fr_si (Fr_si (Fr_si (Fr_si (Fr_si (Fr_si (Fr_si (Fr_sf Fr_rf (by simp)) (by simp [gRw])) (by simp [gRw])) (by simp [gRw])) (by simp [gRw])) (by simp [gRw])) (by simp [gRw])) (by simp [gRw])) (fun r j hj hr => ?_) ⟨?_, by omega, by omega, fun n h4 hn => ?_⟩
  · have hne : j ≠ c := by omega
    simp only [gRw, List.mem_cons, List.not_mem_nil, or_false] at hr
    rcases hr with rfl | rfl | rfl | rfl | rfl | rfl | rfl <;> simp [xm_si, xm_sf, upd, hne]
  · simp [xm_si, xm_sf, updV]
  · by_cases e : n = c
    · subst e
      have eg : gU G n N n = N := if_pos rfl
      rw [eg]
      refine ⟨gW_ext (fun m hm => if_neg (by omega)) hW, ?_, fun z => ?_, fun z => ?_, ?_, ?_, ?_, ?_⟩
      · simp [xm_si, xm_sf, upd]
      · rw [← ha z]; simp [xm_si, xm_sf, upd]
      · rw [← hb z]; simp [xm_si, xm_sf, upd]
      · simp [xm_si, xm_sf, upd]
      · simp [xm_si, xm_sf, upd]
      · simp [xm_si, xm_sf, upd]
      · simp [xm_si, xm_sf, upd]
    · have eg : gU G c N n = G n := if_neg e
      rw [eg]
      obtain ⟨j1, j2⟩ := i4 n h4 (by omega)
      refine ⟨gW_ext (fun m hm => if_neg (by omega)) j1, ?_⟩
      obtain ⟨r1, r2, r3, r4, r5, r6, r7⟩ := j2
      refine ⟨?_, fun z => ?_, fun z => ?_, ?_, ?_, ?_, ?_⟩
      · rw [← r1]; simp [xm_si, xm_sf, upd, e]
      · rw [← r2 z]; simp [xm_si, xm_sf, upd, e]
      · rw [← r3 z]; simp [xm_si, xm_sf, upd, e]
      · rw [← r4]; simp [xm_si, xm_sf, upd, e]
      · rw [← r5]; simp [xm_si, xm_sf, upd, e]
      · rw [← r6]; simp [xm_si, xm_sf, upd, e]
      · rw [← r7]; simp [xm_si, xm_sf, upd, e]
end CD
