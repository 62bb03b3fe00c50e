/-! ===== say: naturals, written by both ===== -/
theorem lg_le {v b : Nat} (hv : 1 ≤ v) : (v / 2 ^ b = 0) = (Nat.log2 v < b) := by
  apply propext
  rw [Nat.div_eq_zero_iff]
  constructor
  · intro h
    rcases h with h | h
    · exact absurd h (Nat.ne_of_gt (Nat.two_pow_pos b))
    · exact (Nat.log2_lt (by omega)).mpr h
  · intro h
    exact Or.inr ((Nat.log2_lt (by omega)).mp h)
theorem lg_31 {v : Nat} (hv : 1 ≤ v) (h : v < 2147483648) : Nat.log2 v ≤ 30 := by
  have := (Nat.log2_lt (n := v) (k := 31) (by omega)).mpr h
  omega
/-- a number, its length, that one's length and so on -/
def nlv (v : Nat) : Nat → Nat
  | 0 => v
  | k + 1 => Nat.log2 (nlv v k)
def nkF (v : Nat) : Nat := if v ≤ 1 then 0 else if nlv v 1 ≤ 1 then 1 else if nlv v 2 ≤ 1 then 2 else if nlv v 3 ≤ 1 then 3 else 4
theorem nkF_p {v : Nat} (hv : v < 2147483648) : nkF v ≤ 4 ∧ nlv v (nkF v) ≤ 1 ∧ ∀ k, k < nkF v → 1 < nlv v k := by
  unfold nkF
  split
  · exact ⟨by decide, by assumption, fun k hk => absurd hk (Nat.not_lt_zero _)⟩
  · rename_i h0
    split
    · refine ⟨by decide, by assumption, fun k hk => ?_⟩
      have : k = 0 := by omega
      subst this
      show 1 < v
      omega
    · rename_i h1
      split
      · refine ⟨by decide, by assumption, fun k hk => ?_⟩
        rcases (by omega : k = 0 ∨ k = 1) with rfl | rfl
        · show 1 < v; omega
        · omega
      · rename_i h2
        split
        · refine ⟨by decide, by assumption, fun k hk => ?_⟩
          rcases (by omega : k = 0 ∨ k = 1 ∨ k = 2) with rfl | rfl | rfl
          · show 1 < v; omega
          · omega
          · omega
        · rename_i h3
          have l1 : nlv v 1 ≤ 30 := lg_31 (v := v) (by omega) hv
          have l2 : nlv v 2 ≤ 4 := by
            have := (Nat.log2_lt (n := nlv v 1) (k := 5) (by omega)).mpr (by omega)
            show Nat.log2 (nlv v 1) ≤ 4
            omega
          have l3 : nlv v 3 ≤ 2 := by
            have := (Nat.log2_lt (n := nlv v 2) (k := 3) (by omega)).mpr (by omega)
            show Nat.log2 (nlv v 2) ≤ 2
            omega
          have l4 : nlv v 4 ≤ 1 := by
            have := (Nat.log2_lt (n := nlv v 3) (k := 2) (by omega)).mpr (by omega)
            show Nat.log2 (nlv v 3) ≤ 1
            omega
          refine ⟨by decide, l4, fun k hk => ?_⟩
          rcases (by omega : k = 0 ∨ k = 1 ∨ k = 2 ∨ k = 3) with rfl | rfl | rfl | rfl
          · show 1 < v; omega
          · omega
          · omega
          · omega
/-- the layers below k, outward -/
def ntB (v : Nat) : Nat → List Nat
  | 0 => []
  | k + 1 => hiB (fun i => nlv v k / 2 ^ i % 2) (nlv v (k + 1)) ++ ntB v k
/-- a natural's bits -/
def ntT (v : Nat) : List Nat := List.replicate (nkF v) 1 ++ (0 :: ntB v (nkF v))
section SY
variable {sc : xm_Sc} {d v : Nat} {bl : List Nat} {h : xm_H} {post : xm_Po}
theorem sp_lengthOf (hv : 1 ≤ v) (hv2 : v < 2147483648) (hp : post (some (.int (nI (Nat.log2 v)))) h) : xm_T (XE sc) (d + 1) 132 [.int (nI v)] h post := by
  have h30 := lg_31 hv hv2
  have key : ∀ (y b : Nat), b + y = 31 → 1 ≤ b → xm_go (XE sc) (xm_T (XE sc) d) 132 post 4 [(2, .int (nI b)), (1, .int (nI (min (Nat.log2 v) (b - 1)))), (0, .int (nI v))] [] h := by
    intro y
    induction y with
    | zero =>
      intro b hb hb1
      have : b = 31 := by omega
      subst this
      have e : min (Nat.log2 v) (31 - 1) = Nat.log2 v := by omega
      with_reducible refine xm_go_blk b_X8_lengthOf_4 k_X8_lengthOf_4 ?_
      refine by_iload_n rfl ?_
      refine by_bipush cb_31 ?_
      refine by_ic_ge 24 rfl ?_
      simp (disch := first | exact Nat.ne_of_beq_eq_false rfl | exact rfl | omega) only [nI_add, xa_sub, xa_mul, pk_div, nm_mod, xa_shr, xa_and7, xa_and1, xa_and255, xa_by_and, nI_m1, Nat.add_sub_cancel, Nat.reducePow, Nat.zero_add, Nat.add_zero, Nat.reduceAdd, Nat.reduceMul, Nat.reduceSub, xf_same, xq_ff, xq_fo, xf_1, xf_2, xs_1, xs_2, xs_same, xq_so, xj_1, xj_2, xj_same, xq_jo, xq_sa1, xq_same, xq_other, upd_s, oI_n, oI_s, xv_0, xv_1, xv_2, xv_3, xm_p1, xm_p2, xq_fp, xq_fn, List.filter_nil, Nat.reduceBEq, Bool.not_true, Bool.not_false, Bool.and_true, Bool.and_false, Bool.false_and, Bool.true_and, if_true, if_false, Bool.false_eq_true, reduceIte, xc_i, xc_j, xc_r, xc_n, List.nil_append, List.cons_append, Option.toList_some, Option.toList_none, nI_ltJ, nI_leJ, nI_eqJ, nI_ltz, nI_gez, nI_gtz, nI_lez, nI_eqz, m1_ltz, m1_gez, true_imp_iff, false_imp_iff, true_and, and_true, ne_eq, not_false_eq_true, not_true_eq_false, Nat.reduceEqDiff, Nat.reduceLT, Nat.reduceLeDiff]
      with_reducible refine xm_go_blk b_X8_lengthOf_24 k_X8_lengthOf_24 ?_
      refine by_iload_n rfl ?_
      refine by_iret ry_132 (by first | rfl | assumption) ?_
      rw [e]
      exact hp
    | succ y ih =>
      intro b hb hb1
      have e0 : nI v >>> (nI b &&& 31) = nI (v / 2 ^ b) := xa_shr hv2 (by omega)
      have hd : v / 2 ^ b < 2147483648 := Nat.lt_of_le_of_lt (Nat.div_le_self _ _) hv2
      by_cases q : Nat.log2 v < b
      · have q1 : (v / 2 ^ b = 0) = True := by rw [lg_le hv]; exact eq_true q
        have e1 : min (Nat.log2 v) (b + 1 - 1) = min (Nat.log2 v) (b - 1) := by omega
        have k1 := ih (b + 1) (by omega) (by omega)
        rw [e1] at k1
        with_reducible refine xm_go_blk b_X8_lengthOf_4 k_X8_lengthOf_4 ?_
        refine by_iload_n rfl ?_
        refine by_bipush cb_31 ?_
        refine by_ic_ge 24 rfl ?_
        simp (disch := first | exact Nat.ne_of_beq_eq_false rfl | exact rfl | omega) only [nI_add, xa_sub, xa_mul, pk_div, nm_mod, xa_shr, xa_and7, xa_and1, xa_and255, xa_by_and, nI_m1, Nat.add_sub_cancel, Nat.reducePow, Nat.zero_add, Nat.add_zero, Nat.reduceAdd, Nat.reduceMul, Nat.reduceSub, xf_same, xq_ff, xq_fo, xf_1, xf_2, xs_1, xs_2, xs_same, xq_so, xj_1, xj_2, xj_same, xq_jo, xq_sa1, xq_same, xq_other, upd_s, oI_n, oI_s, xv_0, xv_1, xv_2, xv_3, xm_p1, xm_p2, xq_fp, xq_fn, List.filter_nil, Nat.reduceBEq, Bool.not_true, Bool.not_false, Bool.and_true, Bool.and_false, Bool.false_and, Bool.true_and, if_true, if_false, Bool.false_eq_true, reduceIte, xc_i, xc_j, xc_r, xc_n, List.nil_append, List.cons_append, Option.toList_some, Option.toList_none, nI_ltJ, nI_leJ, nI_eqJ, nI_ltz, nI_gez, nI_gtz, nI_lez, nI_eqz, m1_ltz, m1_gez, true_imp_iff, false_imp_iff, true_and, and_true, ne_eq, not_false_eq_true, not_true_eq_false, Nat.reduceEqDiff, Nat.reduceLT, Nat.reduceLeDiff, e0, q1]
        refine ⟨fun c => absurd c (by omega), fun c4 => ?_⟩
        with_reducible refine xm_go_blk b_X8_lengthOf_10 k_X8_lengthOf_10 ?_
        refine by_iload_n rfl ?_
        refine by_iload_n rfl ?_
        refine by_ishr ?_
        refine by_if_eq 18 rfl ?_
        simp (disch := first | exact Nat.ne_of_beq_eq_false rfl | exact rfl | omega) only [nI_add, xa_sub, xa_mul, pk_div, nm_mod, xa_shr, xa_and7, xa_and1, xa_and255, xa_by_and, nI_m1, Nat.add_sub_cancel, Nat.reducePow, Nat.zero_add, Nat.add_zero, Nat.reduceAdd, Nat.reduceMul, Nat.reduceSub, xf_same, xq_ff, xq_fo, xf_1, xf_2, xs_1, xs_2, xs_same, xq_so, xj_1, xj_2, xj_same, xq_jo, xq_sa1, xq_same, xq_other, upd_s, oI_n, oI_s, xv_0, xv_1, xv_2, xv_3, xm_p1, xm_p2, xq_fp, xq_fn, List.filter_nil, Nat.reduceBEq, Bool.not_true, Bool.not_false, Bool.and_true, Bool.and_false, Bool.false_and, Bool.true_and, if_true, if_false, Bool.false_eq_true, reduceIte, xc_i, xc_j, xc_r, xc_n, List.nil_append, List.cons_append, Option.toList_some, Option.toList_none, nI_ltJ, nI_leJ, nI_eqJ, nI_ltz, nI_gez, nI_gtz, nI_lez, nI_eqz, m1_ltz, m1_gez, true_imp_iff, false_imp_iff, true_and, and_true, ne_eq, not_false_eq_true, not_true_eq_false, Nat.reduceEqDiff, Nat.reduceLT, Nat.reduceLeDiff, e0, q1]
        with_reducible refine xm_go_blk b_X8_lengthOf_18 k_X8_lengthOf_18 ?_
        refine by_iinc (by rw [ml_132]; decide) rfl ci_1 ?_
        refine by_goto 4 rfl ?_
        try simp (disch := first | exact Nat.ne_of_beq_eq_false rfl | exact rfl | omega) only [nI_add, xa_sub, xa_mul, pk_div, nm_mod, xa_shr, xa_and7, xa_and1, xa_and255, xa_by_and, nI_m1, Nat.add_sub_cancel, Nat.reducePow, Nat.zero_add, Nat.add_zero, Nat.reduceAdd, Nat.reduceMul, Nat.reduceSub, xf_same, xq_ff, xq_fo, xf_1, xf_2, xs_1, xs_2, xs_same, xq_so, xj_1, xj_2, xj_same, xq_jo, xq_sa1, xq_same, xq_other, upd_s, oI_n, oI_s, xv_0, xv_1, xv_2, xv_3, xm_p1, xm_p2, xq_fp, xq_fn, List.filter_nil, Nat.reduceBEq, Bool.not_true, Bool.not_false, Bool.and_true, Bool.and_false, Bool.false_and, Bool.true_and, if_true, if_false, Bool.false_eq_true, reduceIte, xc_i, xc_j, xc_r, xc_n, List.nil_append, List.cons_append, Option.toList_some, Option.toList_none, e0, q1]
        exact xm_go_wk (by simp [Value.category]) k1
      · have q1 : (v / 2 ^ b = 0) = False := by rw [lg_le hv]; exact eq_false q
        have e1 : min (Nat.log2 v) (b + 1 - 1) = b := by omega
        have k1 := ih (b + 1) (by omega) (by omega)
        rw [e1] at k1
        with_reducible refine xm_go_blk b_X8_lengthOf_4 k_X8_lengthOf_4 ?_
        refine by_iload_n rfl ?_
        refine by_bipush cb_31 ?_
        refine by_ic_ge 24 rfl ?_
        simp (disch := first | exact Nat.ne_of_beq_eq_false rfl | exact rfl | omega) only [nI_add, xa_sub, xa_mul, pk_div, nm_mod, xa_shr, xa_and7, xa_and1, xa_and255, xa_by_and, nI_m1, Nat.add_sub_cancel, Nat.reducePow, Nat.zero_add, Nat.add_zero, Nat.reduceAdd, Nat.reduceMul, Nat.reduceSub, xf_same, xq_ff, xq_fo, xf_1, xf_2, xs_1, xs_2, xs_same, xq_so, xj_1, xj_2, xj_same, xq_jo, xq_sa1, xq_same, xq_other, upd_s, oI_n, oI_s, xv_0, xv_1, xv_2, xv_3, xm_p1, xm_p2, xq_fp, xq_fn, List.filter_nil, Nat.reduceBEq, Bool.not_true, Bool.not_false, Bool.and_true, Bool.and_false, Bool.false_and, Bool.true_and, if_true, if_false, Bool.false_eq_true, reduceIte, xc_i, xc_j, xc_r, xc_n, List.nil_append, List.cons_append, Option.toList_some, Option.toList_none, nI_ltJ, nI_leJ, nI_eqJ, nI_ltz, nI_gez, nI_gtz, nI_lez, nI_eqz, m1_ltz, m1_gez, true_imp_iff, false_imp_iff, true_and, and_true, ne_eq, not_false_eq_true, not_true_eq_false, Nat.reduceEqDiff, Nat.reduceLT, Nat.reduceLeDiff, e0, q1]
        refine ⟨fun c => absurd c (by omega), fun c4 => ?_⟩
        with_reducible refine xm_go_blk b_X8_lengthOf_10 k_X8_lengthOf_10 ?_
        refine by_iload_n rfl ?_
        refine by_iload_n rfl ?_
        refine by_ishr ?_
        refine by_if_eq 18 rfl ?_
        simp (disch := first | exact Nat.ne_of_beq_eq_false rfl | exact rfl | omega) only [nI_add, xa_sub, xa_mul, pk_div, nm_mod, xa_shr, xa_and7, xa_and1, xa_and255, xa_by_and, nI_m1, Nat.add_sub_cancel, Nat.reducePow, Nat.zero_add, Nat.add_zero, Nat.reduceAdd, Nat.reduceMul, Nat.reduceSub, xf_same, xq_ff, xq_fo, xf_1, xf_2, xs_1, xs_2, xs_same, xq_so, xj_1, xj_2, xj_same, xq_jo, xq_sa1, xq_same, xq_other, upd_s, oI_n, oI_s, xv_0, xv_1, xv_2, xv_3, xm_p1, xm_p2, xq_fp, xq_fn, List.filter_nil, Nat.reduceBEq, Bool.not_true, Bool.not_false, Bool.and_true, Bool.and_false, Bool.false_and, Bool.true_and, if_true, if_false, Bool.false_eq_true, reduceIte, xc_i, xc_j, xc_r, xc_n, List.nil_append, List.cons_append, Option.toList_some, Option.toList_none, nI_ltJ, nI_leJ, nI_eqJ, nI_ltz, nI_gez, nI_gtz, nI_lez, nI_eqz, m1_ltz, m1_gez, true_imp_iff, false_imp_iff, true_and, and_true, ne_eq, not_false_eq_true, not_true_eq_false, Nat.reduceEqDiff, Nat.reduceLT, Nat.reduceLeDiff, e0, q1]
        with_reducible refine xm_go_blk b_X8_lengthOf_16 k_X8_lengthOf_16 ?_
        refine by_iload_n rfl ?_
        refine by_istore_n (by rw [ml_132]; decide) ?_
        refine by_nil ?_
        try simp (disch := first | exact Nat.ne_of_beq_eq_false rfl | exact rfl | omega) only [nI_add, xa_sub, xa_mul, pk_div, nm_mod, xa_shr, xa_and7, xa_and1, xa_and255, xa_by_and, nI_m1, Nat.add_sub_cancel, Nat.reducePow, Nat.zero_add, Nat.add_zero, Nat.reduceAdd, Nat.reduceMul, Nat.reduceSub, xf_same, xq_ff, xq_fo, xf_1, xf_2, xs_1, xs_2, xs_same, xq_so, xj_1, xj_2, xj_same, xq_jo, xq_sa1, xq_same, xq_other, upd_s, oI_n, oI_s, xv_0, xv_1, xv_2, xv_3, xm_p1, xm_p2, xq_fp, xq_fn, List.filter_nil, Nat.reduceBEq, Bool.not_true, Bool.not_false, Bool.and_true, Bool.and_false, Bool.false_and, Bool.true_and, if_true, if_false, Bool.false_eq_true, reduceIte, xc_i, xc_j, xc_r, xc_n, List.nil_append, List.cons_append, Option.toList_some, Option.toList_none, e0, q1]
        with_reducible refine xm_go_blk b_X8_lengthOf_18 k_X8_lengthOf_18 ?_
        refine by_iinc (by rw [ml_132]; decide) rfl ci_1 ?_
        refine by_goto 4 rfl ?_
        try simp (disch := first | exact Nat.ne_of_beq_eq_false rfl | exact rfl | omega) only [nI_add, xa_sub, xa_mul, pk_div, nm_mod, xa_shr, xa_and7, xa_and1, xa_and255, xa_by_and, nI_m1, Nat.add_sub_cancel, Nat.reducePow, Nat.zero_add, Nat.add_zero, Nat.reduceAdd, Nat.reduceMul, Nat.reduceSub, xf_same, xq_ff, xq_fo, xf_1, xf_2, xs_1, xs_2, xs_same, xq_so, xj_1, xj_2, xj_same, xq_jo, xq_sa1, xq_same, xq_other, upd_s, oI_n, oI_s, xv_0, xv_1, xv_2, xv_3, xm_p1, xm_p2, xq_fp, xq_fn, List.filter_nil, Nat.reduceBEq, Bool.not_true, Bool.not_false, Bool.and_true, Bool.and_false, Bool.false_and, Bool.true_and, if_true, if_false, Bool.false_eq_true, reduceIte, xc_i, xc_j, xc_r, xc_n, List.nil_append, List.cons_append, Option.toList_some, Option.toList_none, e0, q1]
        exact xm_go_wk (by simp [Value.category]) k1
  have k0 := key 30 1 rfl (Nat.le_refl _)
  have e : min (Nat.log2 v) (1 - 1) = 0 := by omega
  rw [e] at k0
  refine xq_in rfl ?_
  simp only [xq_a0, xq_aI, xq_aJ, xq_aR, Nat.reduceAdd]
  with_reducible refine xm_go_blk b_X8_lengthOf_0 k_X8_lengthOf_0 ?_
  refine by_iconst ci_0 ?_
  refine by_istore_n (by rw [ml_132]; decide) ?_
  refine by_iconst ci_1 ?_
  refine by_istore_n (by rw [ml_132]; decide) ?_
  refine by_nil ?_
  try simp (disch := first | exact Nat.ne_of_beq_eq_false rfl | exact rfl | omega) only [nI_add, xa_sub, xa_mul, pk_div, nm_mod, xa_shr, xa_and7, xa_and1, xa_and255, xa_by_and, nI_m1, Nat.add_sub_cancel, Nat.reducePow, Nat.zero_add, Nat.add_zero, Nat.reduceAdd, Nat.reduceMul, Nat.reduceSub, xf_same, xq_ff, xq_fo, xf_1, xf_2, xs_1, xs_2, xs_same, xq_so, xj_1, xj_2, xj_same, xq_jo, xq_sa1, xq_same, xq_other, upd_s, oI_n, oI_s, xv_0, xv_1, xv_2, xv_3, xm_p1, xm_p2, xq_fp, xq_fn, List.filter_nil, Nat.reduceBEq, Bool.not_true, Bool.not_false, Bool.and_true, Bool.and_false, Bool.false_and, Bool.true_and, if_true, if_false, Bool.false_eq_true, reduceIte, xc_i, xc_j, xc_r, xc_n, List.nil_append, List.cons_append, Option.toList_some, Option.toList_none]
  exact xm_go_wk (by simp [Value.category]) k0
theorem sp_digitsOf (hv : 1 ≤ v) (hv2 : v < 2147483648) (hp : post (some (.int (nI (Nat.log2 v)))) h) : xm_T (XE sc) (d + 1) 219 [.int (nI v)] h post := by
  have h30 := lg_31 hv hv2
  have key : ∀ (y n : Nat), n + y = Nat.log2 v → xm_go (XE sc) (xm_T (XE sc) d) 219 post 2 [(1, .int (nI n)), (0, .int (nI v))] [] h := by
    intro y
    induction y with
    | zero =>
      intro n hn
      have e0 : nI v >>> (nI (n + 1) &&& 31) = nI (v / 2 ^ (n + 1)) := xa_shr hv2 (by omega)
      have q1 : (v / 2 ^ (n + 1) = 0) = True := by rw [lg_le hv]; exact eq_true (by omega)
      have q2 : v / 2 ^ (n + 1) = 0 := by rw [q1]; trivial
      rw [q2] at e0
      with_reducible refine xm_go_blk b_X12_digitsOf_2 k_X12_digitsOf_2 ?_
      refine by_iload_n rfl ?_
      refine by_iload_n rfl ?_
      refine by_iconst ci_1 ?_
      refine by_iadd ?_
      refine by_ishr ?_
      refine by_if_le 16 rfl ?_
      simp (disch := first | exact Nat.ne_of_beq_eq_false rfl | exact rfl | omega) only [nI_add, xa_sub, xa_mul, pk_div, nm_mod, xa_shr, xa_and7, xa_and1, xa_and255, xa_by_and, nI_m1, Nat.add_sub_cancel, Nat.reducePow, Nat.zero_add, Nat.add_zero, Nat.reduceAdd, Nat.reduceMul, Nat.reduceSub, xf_same, xq_ff, xq_fo, xf_1, xf_2, xs_1, xs_2, xs_same, xq_so, xj_1, xj_2, xj_same, xq_jo, xq_sa1, xq_same, xq_other, upd_s, oI_n, oI_s, xv_0, xv_1, xv_2, xv_3, xm_p1, xm_p2, xq_fp, xq_fn, List.filter_nil, Nat.reduceBEq, Bool.not_true, Bool.not_false, Bool.and_true, Bool.and_false, Bool.false_and, Bool.true_and, if_true, if_false, Bool.false_eq_true, reduceIte, xc_i, xc_j, xc_r, xc_n, List.nil_append, List.cons_append, Option.toList_some, Option.toList_none, nI_ltJ, nI_leJ, nI_eqJ, nI_ltz, nI_gez, nI_gtz, nI_lez, nI_eqz, m1_ltz, m1_gez, true_imp_iff, false_imp_iff, true_and, and_true, ne_eq, not_false_eq_true, not_true_eq_false, Nat.reduceEqDiff, Nat.reduceLT, Nat.reduceLeDiff, e0]
      with_reducible refine xm_go_blk b_X12_digitsOf_16 k_X12_digitsOf_16 ?_
      refine by_iload_n rfl ?_
      refine by_iret ry_219 (by first | rfl | assumption) ?_
      rw [show n = Nat.log2 v by omega]
      exact hp
    | succ y ih =>
      intro n hn
      have e0 : nI v >>> (nI (n + 1) &&& 31) = nI (v / 2 ^ (n + 1)) := xa_shr hv2 (by omega)
      have q1 : ¬ v / 2 ^ (n + 1) = 0 := by rw [lg_le hv]; omega
      have hd : v / 2 ^ (n + 1) < 2147483648 := Nat.lt_of_le_of_lt (Nat.div_le_self _ _) hv2
      have k1 := ih (n + 1) (by omega)
      generalize v / 2 ^ (n + 1) = z at *
      have q3 : (z ≤ 0) = False := eq_false (by omega)
      have q4 : (z = 0) = False := eq_false q1
      with_reducible refine xm_go_blk b_X12_digitsOf_2 k_X12_digitsOf_2 ?_
      refine by_iload_n rfl ?_
      refine by_iload_n rfl ?_
      refine by_iconst ci_1 ?_
      refine by_iadd ?_
      refine by_ishr ?_
      refine by_if_le 16 rfl ?_
      simp (disch := first | exact Nat.ne_of_beq_eq_false rfl | exact rfl | omega) only [nI_add, xa_sub, xa_mul, pk_div, nm_mod, xa_shr, xa_and7, xa_and1, xa_and255, xa_by_and, nI_m1, Nat.add_sub_cancel, Nat.reducePow, Nat.zero_add, Nat.add_zero, Nat.reduceAdd, Nat.reduceMul, Nat.reduceSub, xf_same, xq_ff, xq_fo, xf_1, xf_2, xs_1, xs_2, xs_same, xq_so, xj_1, xj_2, xj_same, xq_jo, xq_sa1, xq_same, xq_other, upd_s, oI_n, oI_s, xv_0, xv_1, xv_2, xv_3, xm_p1, xm_p2, xq_fp, xq_fn, List.filter_nil, Nat.reduceBEq, Bool.not_true, Bool.not_false, Bool.and_true, Bool.and_false, Bool.false_and, Bool.true_and, if_true, if_false, Bool.false_eq_true, reduceIte, xc_i, xc_j, xc_r, xc_n, List.nil_append, List.cons_append, Option.toList_some, Option.toList_none, nI_ltJ, nI_leJ, nI_eqJ, nI_ltz, nI_gez, nI_gtz, nI_lez, nI_eqz, m1_ltz, m1_gez, true_imp_iff, false_imp_iff, true_and, and_true, ne_eq, not_false_eq_true, not_true_eq_false, Nat.reduceEqDiff, Nat.reduceLT, Nat.reduceLeDiff, e0, q3, q4]
      with_reducible refine xm_go_blk b_X12_digitsOf_10 k_X12_digitsOf_10 ?_
      refine by_iinc (by rw [ml_219]; decide) rfl ci_1 ?_
      refine by_goto 2 rfl ?_
      try simp (disch := first | exact Nat.ne_of_beq_eq_false rfl | exact rfl | omega) only [nI_add, xa_sub, xa_mul, pk_div, nm_mod, xa_shr, xa_and7, xa_and1, xa_and255, xa_by_and, nI_m1, Nat.add_sub_cancel, Nat.reducePow, Nat.zero_add, Nat.add_zero, Nat.reduceAdd, Nat.reduceMul, Nat.reduceSub, xf_same, xq_ff, xq_fo, xf_1, xf_2, xs_1, xs_2, xs_same, xq_so, xj_1, xj_2, xj_same, xq_jo, xq_sa1, xq_same, xq_other, upd_s, oI_n, oI_s, xv_0, xv_1, xv_2, xv_3, xm_p1, xm_p2, xq_fp, xq_fn, List.filter_nil, Nat.reduceBEq, Bool.not_true, Bool.not_false, Bool.and_true, Bool.and_false, Bool.false_and, Bool.true_and, if_true, if_false, Bool.false_eq_true, reduceIte, xc_i, xc_j, xc_r, xc_n, List.nil_append, List.cons_append, Option.toList_some, Option.toList_none, e0, q3, q4]
      exact xm_go_wk (by simp [Value.category]) k1
  refine xq_in rfl ?_
  simp only [xq_a0, xq_aI, xq_aJ, xq_aR, Nat.reduceAdd]
  with_reducible refine xm_go_blk b_X12_digitsOf_0 k_X12_digitsOf_0 ?_
  refine by_iconst ci_0 ?_
  refine by_istore_n (by rw [ml_219]; decide) ?_
  refine by_nil ?_
  try simp (disch := first | exact Nat.ne_of_beq_eq_false rfl | exact rfl | omega) only [nI_add, xa_sub, xa_mul, pk_div, nm_mod, xa_shr, xa_and7, xa_and1, xa_and255, xa_by_and, nI_m1, Nat.add_sub_cancel, Nat.reducePow, Nat.zero_add, Nat.add_zero, Nat.reduceAdd, Nat.reduceMul, Nat.reduceSub, xf_same, xq_ff, xq_fo, xf_1, xf_2, xs_1, xs_2, xs_same, xq_so, xj_1, xj_2, xj_same, xq_jo, xq_sa1, xq_same, xq_other, upd_s, oI_n, oI_s, xv_0, xv_1, xv_2, xv_3, xm_p1, xm_p2, xq_fp, xq_fn, List.filter_nil, Nat.reduceBEq, Bool.not_true, Bool.not_false, Bool.and_true, Bool.and_false, Bool.false_and, Bool.true_and, if_true, if_false, Bool.false_eq_true, reduceIte, xc_i, xc_j, xc_r, xc_n, List.nil_append, List.cons_append, Option.toList_some, Option.toList_none]
  exact xm_go_wk (by simp [Value.category]) (key (Nat.log2 v) 0 (by omega))
end SY
