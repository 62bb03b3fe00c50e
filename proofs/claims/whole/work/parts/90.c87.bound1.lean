/-! ===== bounds of what nodes need ===== -/
def gO (C : Nat → Nat) (o : Option Nat) : Nat := match o with
  | none => 0
  | some x => C x
def ownS (ps : List pr_D) (S T : Nat → Ty) (n : Nat) : Nat := if pC ps n = 7 then ty_w (S n) else if pC ps n = 10 then ty_w (T n) else if pC ps n = 12 then ty_w (S n) + ty_w (T n) else 0
def bndE (ps : List pr_D) (S T : Nat → Ty) (C F G : Nat → Nat) (n : Nat) : Prop :=
  C n = min 2147483647 (max (gO C (p1 ps n)) (gO C (p2 ps n)) + (if pC ps n = 0 then gO (fun x => ty_w (T x)) (p1 ps n) else 0)) ∧
  F n = min 2147483647 (max (gO F (p1 ps n)) (gO F (p2 ps n)) + (if pC ps n = 0 then 1 else 0)) ∧
  G n = (if pC ps n = 11 then 0 else min 2147483647 (1 + (if pC ps n = 1 then max (gO G (p1 ps n)) (gO G (p2 ps n)) else gO G (p1 ps n) + gO G (p2 ps n)) + ownS ps S T n))
def bnd (ps : List pr_D) (S T : Nat → Ty) (C F G : Nat → Nat) (N : Nat) : Prop := ∀ n, n < N → bndE ps S T C F G n
theorem gO_le {C : Nat → Nat} {o : Option Nat} {M : Nat} (h : ∀ x, o = some x → C x ≤ M) : gO C o ≤ M := by
  cases o with
  | none => exact Nat.zero_le _
  | some x => exact h x rfl
theorem bnd_le {ps : List pr_D} {S T : Nat → Ty} {C F G : Nat → Nat} {N n : Nat} (h : bnd ps S T C F G N) (hn : n < N) : C n ≤ 2147483647 ∧ F n ≤ 2147483647 ∧ G n ≤ 2147483647 := by
  obtain ⟨h1, h2, h3⟩ := h n hn
  refine ⟨by rw [h1]; exact Nat.min_le_left .., by rw [h2]; exact Nat.min_le_left .., ?_⟩
  rw [h3]
  split
  · exact Nat.zero_le _
  · exact Nat.min_le_left ..
theorem gO_congr {C C' : Nat → Nat} {o : Option Nat} (h : ∀ x, o = some x → C x = C' x) : gO C o = gO C' o := by
  cases o with
  | none => rfl
  | some x => exact h x rfl
theorem bnd_uniq {ps : List pr_D} (ho : psOK ps) {S T S' T' : Nat → Ty} {C F G C' F' G' : Nat → Nat} (hST : ∀ n, n < ps.length → pC ps n ≠ 11 → S n = S' n ∧ T n = T' n) (hv : ∀ n, n < ps.length → pC ps n = 0 → ∀ x, p1 ps n = some x → pC ps x ≠ 11) (h : bnd ps S T C F G ps.length) (h' : bnd ps S' T' C' F' G' ps.length) : ∀ n, n < ps.length → C n = C' n ∧ F n = F' n ∧ G n = G' n := by
  intro n
  induction n using Nat.strongRecOn with
  | ind n ih =>
  intro hn
  obtain ⟨a1, a2, a3⟩ := h n hn
  obtain ⟨b1, b2, b3⟩ := h' n hn
  obtain ⟨o1, o2, o3, o4, o5, _⟩ := ho n hn
  have k1 : ∀ x, p1 ps n = some x → x < n := o4
  have k2 : ∀ x, p2 ps n = some x → x < n := o5
  have e1 : gO C (p1 ps n) = gO C' (p1 ps n) := gO_congr (fun x hx => (ih x (k1 x hx) (by have := k1 x hx; omega)).1)
  have e2 : gO C (p2 ps n) = gO C' (p2 ps n) := gO_congr (fun x hx => (ih x (k2 x hx) (by have := k2 x hx; omega)).1)
  have e3 : gO F (p1 ps n) = gO F' (p1 ps n) := gO_congr (fun x hx => (ih x (k1 x hx) (by have := k1 x hx; omega)).2.1)
  have e4 : gO F (p2 ps n) = gO F' (p2 ps n) := gO_congr (fun x hx => (ih x (k2 x hx) (by have := k2 x hx; omega)).2.1)
  have e5 : gO G (p1 ps n) = gO G' (p1 ps n) := gO_congr (fun x hx => (ih x (k1 x hx) (by have := k1 x hx; omega)).2.2)
  have e6 : gO G (p2 ps n) = gO G' (p2 ps n) := gO_congr (fun x hx => (ih x (k2 x hx) (by have := k2 x hx; omega)).2.2)
  refine ⟨?_, by rw [a2, b2, e3, e4], ?_⟩
  · rw [a1, b1, e1, e2]
    by_cases q : pC ps n = 0
    · rw [if_pos q, if_pos q, gO_congr (C := fun x => ty_w (T x)) (C' := fun x => ty_w (T' x)) (fun x hx => by show ty_w (T x) = ty_w (T' x); rw [(hST x (by have := k1 x hx; omega) (hv n hn q x hx)).2])]
    · rw [if_neg q, if_neg q]
  · rw [a3, b3, e5, e6]
    by_cases q : pC ps n = 11
    · rw [if_pos q, if_pos q]
    · have : ownS ps S T n = ownS ps S' T' n := by
        unfold ownS
        rw [(hST n hn q).1, (hST n hn q).2]
      rw [if_neg q, if_neg q, this]
theorem lcmp_le {a b : Nat} (ha : a < 2 ^ 62) (hb : b < 2 ^ 62) : (lg_cmp (lN a) (lN b) ≤ 0) = (a ≤ b) := by
  apply propext
  rw [lg_cmp_le, Int64.le_iff_toInt_le, pf_lI (by omega), pf_lI (by omega)]
  omega
section BO
variable {sc : xm_Sc} {d pp n : Nat} {h : xm_H} {post : xm_Po}
theorem sp_capped {x : Nat} (hx : x < 2 ^ 62) (hp : post (some (.int (nI (min 2147483647 x)))) h) : xm_T (XE sc) (d + 1) 104 [.long (lN x)] h post := by
  refine xq_in rfl ?_
  simp only [xq_a0, xq_aI, xq_aJ, xq_aR, Nat.reduceAdd]
  by_cases q : x ≤ 2147483647
  · rw [Nat.min_eq_right q] at hp
    have q' : (x ≤ 2147483647) = True := eq_true q
    with_reducible refine xm_go_blk b_X6_capped_0 k_X6_capped_0 ?_
    refine by_lload_n rfl ?_
    refine by_ldc2 (x := lN 2147483647) cn_104 kl_6_88 (by decide) ?_
    refine by_lcmp ?_
    refine by_if_le 13 rfl ?_
    simp (disch := first | exact Nat.ne_of_beq_eq_false rfl | exact rfl | omega) only [nI_add, xa_sub, xa_mul, pk_div, nm_mod, xa_shr, xa_and7, xa_and1, xa_and255, xa_by_and, nI_m1, Nat.add_sub_cancel, Nat.reducePow, Nat.zero_add, Nat.add_zero, Nat.reduceAdd, Nat.reduceMul, Nat.reduceSub, xf_same, xq_ff, xq_fo, xf_1, xf_2, xs_1, xs_2, xs_same, xq_so, xj_1, xj_2, xj_same, xq_jo, xq_sa1, xq_same, xq_other, upd_s, oI_n, oI_s, xv_0, xv_1, xv_2, xv_3, xm_p1, xm_p2, xq_fp, xq_fn, List.filter_nil, Nat.reduceBEq, Bool.not_true, Bool.not_false, Bool.and_true, Bool.and_false, Bool.false_and, Bool.true_and, if_true, if_false, Bool.false_eq_true, reduceIte, xc_i, xc_j, xc_r, xc_n, List.nil_append, List.cons_append, Option.toList_some, Option.toList_none, nI_ltJ, nI_leJ, nI_eqJ, nI_ltz, nI_gez, nI_gtz, nI_lez, nI_eqz, m1_ltz, m1_gez, true_imp_iff, false_imp_iff, true_and, and_true, ne_eq, not_false_eq_true, not_true_eq_false, Nat.reduceEqDiff, Nat.reduceLT, Nat.reduceLeDiff, lcmp_le hx (show 2147483647 < 2 ^ 62 by decide), q', l2i_n]
    with_reducible refine xm_go_blk b_X6_capped_13 k_X6_capped_13 ?_
    refine by_lload_n rfl ?_
    refine by_l2i ?_
    refine by_nil ?_
    simp (disch := first | exact Nat.ne_of_beq_eq_false rfl | exact rfl | omega) only [nI_add, xa_sub, xa_mul, pk_div, nm_mod, xa_shr, xa_and7, xa_and1, xa_and255, xa_by_and, nI_m1, Nat.add_sub_cancel, Nat.reducePow, Nat.zero_add, Nat.add_zero, Nat.reduceAdd, Nat.reduceMul, Nat.reduceSub, xf_same, xq_ff, xq_fo, xf_1, xf_2, xs_1, xs_2, xs_same, xq_so, xj_1, xj_2, xj_same, xq_jo, xq_sa1, xq_same, xq_other, upd_s, oI_n, oI_s, xv_0, xv_1, xv_2, xv_3, xm_p1, xm_p2, xq_fp, xq_fn, List.filter_nil, Nat.reduceBEq, Bool.not_true, Bool.not_false, Bool.and_true, Bool.and_false, Bool.false_and, Bool.true_and, if_true, if_false, Bool.false_eq_true, reduceIte, xc_i, xc_j, xc_r, xc_n, List.nil_append, List.cons_append, Option.toList_some, Option.toList_none, lcmp_le hx (show 2147483647 < 2 ^ 62 by decide), q', l2i_n]
    with_reducible refine xm_go_blk b_X6_capped_15 k_X6_capped_15 ?_
    refine by_iret ry_104 (by first | rfl | assumption) ?_
    exact hp
  · rw [Nat.min_eq_left (by omega)] at hp
    have q' : (x ≤ 2147483647) = False := eq_false q
    with_reducible refine xm_go_blk b_X6_capped_0 k_X6_capped_0 ?_
    refine by_lload_n rfl ?_
    refine by_ldc2 (x := lN 2147483647) cn_104 kl_6_88 (by decide) ?_
    refine by_lcmp ?_
    refine by_if_le 13 rfl ?_
    simp (disch := first | exact Nat.ne_of_beq_eq_false rfl | exact rfl | omega) only [nI_add, xa_sub, xa_mul, pk_div, nm_mod, xa_shr, xa_and7, xa_and1, xa_and255, xa_by_and, nI_m1, Nat.add_sub_cancel, Nat.reducePow, Nat.zero_add, Nat.add_zero, Nat.reduceAdd, Nat.reduceMul, Nat.reduceSub, xf_same, xq_ff, xq_fo, xf_1, xf_2, xs_1, xs_2, xs_same, xq_so, xj_1, xj_2, xj_same, xq_jo, xq_sa1, xq_same, xq_other, upd_s, oI_n, oI_s, xv_0, xv_1, xv_2, xv_3, xm_p1, xm_p2, xq_fp, xq_fn, List.filter_nil, Nat.reduceBEq, Bool.not_true, Bool.not_false, Bool.and_true, Bool.and_false, Bool.false_and, Bool.true_and, if_true, if_false, Bool.false_eq_true, reduceIte, xc_i, xc_j, xc_r, xc_n, List.nil_append, List.cons_append, Option.toList_some, Option.toList_none, nI_ltJ, nI_leJ, nI_eqJ, nI_ltz, nI_gez, nI_gtz, nI_lez, nI_eqz, m1_ltz, m1_gez, true_imp_iff, false_imp_iff, true_and, and_true, ne_eq, not_false_eq_true, not_true_eq_false, Nat.reduceEqDiff, Nat.reduceLT, Nat.reduceLeDiff, lcmp_le hx (show 2147483647 < 2 ^ 62 by decide), q']
    with_reducible refine xm_go_blk b_X6_capped_8 k_X6_capped_8 ?_
    refine by_ldc (x := nI 2147483647) cn_104 ki_6_90 (by decide) ?_
    refine by_goto 15 rfl ?_
    with_reducible refine xm_go_blk b_X6_capped_15 k_X6_capped_15 ?_
    refine by_iret ry_104 (by first | rfl | assumption) ?_
    exact hp
end BO
