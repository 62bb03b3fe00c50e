/-! ===== Order.judge ===== -/
/-- children as numbers -/
def fiO (c : Nat → Option Nat) : Nat → Nat := fun n => (c n).getD 0
def ndO (cd : Nat → Nat) (c1 c2 : Nat → Option Nat) (N : Nat) : Prop := ∀ n, n < N → (cd n ≤ 6 ↔ (c1 n).isSome = true) ∧ (cd n ≤ 2 ↔ (c2 n).isSome = true)
theorem hid_f {cd : Nat → Nat} {c : Nat → Option Nat} {n : Nat} (hs : (c n).isSome = true) : hid cd (c n) = false ↔ cd (fiO c n) ≠ 11 := by
  obtain ⟨x, hx⟩ := Option.isSome_iff_exists.mp hs
  unfold fiO
  rw [hx]
  simp [hid]
/-- lists gone through, hidden nodes where they may be: as the types want it -/
theorem ndL_of {cd : Nat → Nat} {c1 c2 : Nat → Option Nat} {N : Nat} {L : List Nat} (ho : ndO cd c1 c2 N) (hnd : L.Nodup) (hLN : ∀ n ∈ L, n < N) (hcl : df_cl c1 c2 L) (hw : ∀ n ∈ L, hwl cd c1 c2 n = true) : ndL cd (fiO c1) (fiO c2) L := by
  refine ⟨hnd, fun A n B e => ?_, fun n hn => ?_⟩
  · have hn : n < N := hLN n (by rw [e]; simp)
    obtain ⟨o1, o2⟩ := ho n hn
    refine ⟨fun z => ?_, fun z => ?_⟩
    · obtain ⟨x, hx⟩ := Option.isSome_iff_exists.mp (o1.mp z)
      unfold fiO
      rw [hx]
      exact hcl A n B e x (Or.inl hx)
    · obtain ⟨x, hx⟩ := Option.isSome_iff_exists.mp (o2.mp z)
      unfold fiO
      rw [hx]
      exact hcl A n B e x (Or.inr hx)
  · obtain ⟨o1, o2⟩ := ho n (hLN n hn)
    have h := hw n hn
    unfold hwl at h
    refine ⟨fun z1 z2 => ?_, fun z1 z2 => ?_, fun z => ?_⟩
    · rw [if_neg z2] at h
      simp only [Bool.and_eq_true, Bool.not_eq_true'] at h
      exact (hid_f (o1.mp z1)).mp h.1
    · rw [if_neg z2] at h
      simp only [Bool.and_eq_true, Bool.not_eq_true'] at h
      exact (hid_f (o2.mp z1)).mp h.2
    · rw [if_pos z] at h
      simp only [Bool.not_eq_true', Bool.and_eq_false_iff] at h
      rcases h with h | h
      · exact Or.inl ((hid_f (o1.mp (by omega))).mp h)
      · exact Or.inr ((hid_f (o2.mp (by omega))).mp h)
section JU
variable {sc : xm_Sc} {d pp N n : Nat} {cd nu : Nat → Nat} {c1 c2 : Nat → Option Nat} {L : List Nat} {h : xm_H} {post : xm_Po}
theorem ndF_K (hC : ndK h pp N cd c1 c2) (ho : ndO cd c1 c2 N) (hnu : ∀ n, n < N → cd n = 12 → h.1 (pp + 4) n = nI (nu n) ∧ nu n ≤ 167) : ndF h pp N cd (fiO c1) (fiO c2) nu := by
  intro n hn
  obtain ⟨a1, a2, a3, a4, a5, a6⟩ := hC n hn
  obtain ⟨o1, o2⟩ := ho n hn
  refine ⟨a1, a2, fun z => ?_, fun z => ?_, fun z => ?_, fun z => ?_, hnu n hn⟩
  · obtain ⟨x, hx⟩ := Option.isSome_iff_exists.mp (o1.mp z)
    unfold fiO
    rw [a3, hx]
    exact ⟨rfl, a5 x hx⟩
  · have : c1 n = none := by
      cases e : c1 n with
      | none => rfl
      | some x => exact absurd (o1.mpr (by rw [e]; rfl)) (by omega)
    rw [a3, this]; rfl
  · obtain ⟨x, hx⟩ := Option.isSome_iff_exists.mp (o2.mp z)
    unfold fiO
    rw [a4, hx]
    exact ⟨rfl, a6 x hx⟩
  · have : c2 n = none := by
      cases e : c2 n with
      | none => rfl
      | some x => exact absurd (o2.mpr (by rw [e]; rfl)) (by omega)
    rw [a4, this]; rfl
/-- a node's width, or -1 of a hidden one -/
theorem sp_srcW {cn : Nat} {tr : Nat → Ty} {K Lf R : Nat → Nat} {i : Nat} (hF : XF h) (hpp : pp = 52 ∨ pp = 77) (hn : n < 2000) (hT : tyT h pp cn tr K Lf R) (hcn : cn ≤ 14026) (hi : i < cn) (h6 : h.1 (pp + 6) n = nI i) (hp : post (some (.int (nI (min 1000000 (ty_w (tr i)))))) h) : xm_T (XE sc) (d + 1) 110 [.ref pp, .int (nI n)] h post := by
  have e := (hT.2.1 i hi).2.2.2.2.2.2.1
  refine xq_in rfl ?_
  simp only [xq_a0, xq_aI, xq_aJ, xq_aR, Nat.reduceAdd]
  with_reducible refine xm_go_blk b_X6_sourceWidth_0 k_X6_sourceWidth_0 ?_
  refine by_aload_n rfl ?_
  refine by_getf cn_110 fl_6_27 (by first | exact rfl | assumption | exact ps_0 hpp) (by decide) ?_
  refine by_iload_n rfl ?_
  simp (disch := first | exact Nat.ne_of_beq_eq_false rfl | exact rfl | omega) only [nI_add, xa_sub, xa_mul, pk_div, nm_mod, xa_shr, xa_and7, xa_and1, xa_and255, xa_by_and, nI_m1, Nat.add_sub_cancel, Nat.reducePow, Nat.zero_add, Nat.add_zero, Nat.reduceAdd, Nat.reduceMul, Nat.reduceSub, xf_same, xq_ff, xq_fo, xf_1, xf_2, xs_1, xs_2, xs_same, xq_so, xj_1, xj_2, xj_same, xq_jo, xq_sa1, xq_same, xq_other, upd_s, oI_n, oI_s, pf_6 hF hpp, pf_13 hF hpp, pt_4 hF hpp, h6, e]
  first | refine by_iald (by first | exact rfl | assumption | exact ps_1 hpp | exact ps_2 hpp | exact ps_3 hpp | exact ps_4 hpp | exact ps_5 hpp | exact ps_6 hpp | exact ps_7 hpp | exact ps_8 hpp | exact ps_9 hpp | exact ps_10 hpp | exact ps_11 hpp | exact ps_15 hpp | exact ps_16 hpp | exact ps_17 hpp | exact ps_18 hpp | exact ps_19 hpp | exact ps_21 hpp | exact ps_22 hpp | exact ps_23 hpp | exact ps_24 hpp) ⟨by omega, by omega⟩ ?_ | refine by_tald rfl rfl ⟨by omega, by omega⟩ ?_
  refine by_if_ge 13 rfl ?_
  simp (disch := first | exact Nat.ne_of_beq_eq_false rfl | exact rfl | omega) only [nI_add, xa_sub, xa_mul, pk_div, nm_mod, xa_shr, xa_and7, xa_and1, xa_and255, xa_by_and, nI_m1, Nat.add_sub_cancel, Nat.reducePow, Nat.zero_add, Nat.add_zero, Nat.reduceAdd, Nat.reduceMul, Nat.reduceSub, xf_same, xq_ff, xq_fo, xf_1, xf_2, xs_1, xs_2, xs_same, xq_so, xj_1, xj_2, xj_same, xq_jo, xq_sa1, xq_same, xq_other, upd_s, oI_n, oI_s, xv_0, xv_1, xv_2, xv_3, xm_p1, xm_p2, xq_fp, xq_fn, List.filter_nil, Nat.reduceBEq, Bool.not_true, Bool.not_false, Bool.and_true, Bool.and_false, Bool.false_and, Bool.true_and, if_true, if_false, Bool.false_eq_true, reduceIte, xc_i, xc_j, xc_r, xc_n, List.nil_append, List.cons_append, Option.toList_some, Option.toList_none, nI_ltJ, nI_leJ, nI_eqJ, nI_ltz, nI_gez, nI_gtz, nI_lez, nI_eqz, m1_ltz, m1_gez, true_imp_iff, false_imp_iff, true_and, and_true, ne_eq, not_false_eq_true, not_true_eq_false, Nat.reduceEqDiff, Nat.reduceLT, Nat.reduceLeDiff, pf_6 hF hpp, pf_13 hF hpp, pt_4 hF hpp, h6, e]
  with_reducible refine xm_go_blk b_X6_sourceWidth_13 k_X6_sourceWidth_13 ?_
  refine by_aload_n rfl ?_
  refine by_getf cn_110 fl_6_55 (by first | exact rfl | assumption | exact ps_0 hpp) (by decide) ?_
  simp (disch := first | exact Nat.ne_of_beq_eq_false rfl | exact rfl | omega) only [nI_add, xa_sub, xa_mul, pk_div, nm_mod, xa_shr, xa_and7, xa_and1, xa_and255, xa_by_and, nI_m1, Nat.add_sub_cancel, Nat.reducePow, Nat.zero_add, Nat.add_zero, Nat.reduceAdd, Nat.reduceMul, Nat.reduceSub, xf_same, xq_ff, xq_fo, xf_1, xf_2, xs_1, xs_2, xs_same, xq_so, xj_1, xj_2, xj_same, xq_jo, xq_sa1, xq_same, xq_other, upd_s, oI_n, oI_s, pf_6 hF hpp, pf_13 hF hpp, pt_4 hF hpp, h6, e]
  refine by_getf cn_110 fl_6_73 (by first | exact rfl | assumption | exact ps_14 hpp) (by decide) ?_
  refine by_aload_n rfl ?_
  refine by_getf cn_110 fl_6_27 (by first | exact rfl | assumption | exact ps_0 hpp) (by decide) ?_
  refine by_iload_n rfl ?_
  simp (disch := first | exact Nat.ne_of_beq_eq_false rfl | exact rfl | omega) only [nI_add, xa_sub, xa_mul, pk_div, nm_mod, xa_shr, xa_and7, xa_and1, xa_and255, xa_by_and, nI_m1, Nat.add_sub_cancel, Nat.reducePow, Nat.zero_add, Nat.add_zero, Nat.reduceAdd, Nat.reduceMul, Nat.reduceSub, xf_same, xq_ff, xq_fo, xf_1, xf_2, xs_1, xs_2, xs_same, xq_so, xj_1, xj_2, xj_same, xq_jo, xq_sa1, xq_same, xq_other, upd_s, oI_n, oI_s, pf_6 hF hpp, pf_13 hF hpp, pt_4 hF hpp, h6, e]
  first | refine by_iald (by first | exact rfl | assumption | exact ps_1 hpp | exact ps_2 hpp | exact ps_3 hpp | exact ps_4 hpp | exact ps_5 hpp | exact ps_6 hpp | exact ps_7 hpp | exact ps_8 hpp | exact ps_9 hpp | exact ps_10 hpp | exact ps_11 hpp | exact ps_15 hpp | exact ps_16 hpp | exact ps_17 hpp | exact ps_18 hpp | exact ps_19 hpp | exact ps_21 hpp | exact ps_22 hpp | exact ps_23 hpp | exact ps_24 hpp) ⟨by omega, by omega⟩ ?_ | refine by_tald rfl rfl ⟨by omega, by omega⟩ ?_
  simp (disch := first | exact Nat.ne_of_beq_eq_false rfl | exact rfl | omega) only [nI_add, xa_sub, xa_mul, pk_div, nm_mod, xa_shr, xa_and7, xa_and1, xa_and255, xa_by_and, nI_m1, Nat.add_sub_cancel, Nat.reducePow, Nat.zero_add, Nat.add_zero, Nat.reduceAdd, Nat.reduceMul, Nat.reduceSub, xf_same, xq_ff, xq_fo, xf_1, xf_2, xs_1, xs_2, xs_same, xq_so, xj_1, xj_2, xj_same, xq_jo, xq_sa1, xq_same, xq_other, upd_s, oI_n, oI_s, pf_6 hF hpp, pf_13 hF hpp, pt_4 hF hpp, h6, e]
  first | refine by_iald (by first | exact rfl | assumption | exact ps_1 hpp | exact ps_2 hpp | exact ps_3 hpp | exact ps_4 hpp | exact ps_5 hpp | exact ps_6 hpp | exact ps_7 hpp | exact ps_8 hpp | exact ps_9 hpp | exact ps_10 hpp | exact ps_11 hpp | exact ps_15 hpp | exact ps_16 hpp | exact ps_17 hpp | exact ps_18 hpp | exact ps_19 hpp | exact ps_21 hpp | exact ps_22 hpp | exact ps_23 hpp | exact ps_24 hpp) ⟨by omega, by omega⟩ ?_ | refine by_tald rfl rfl ⟨by omega, by omega⟩ ?_
  refine by_nil ?_
  simp (disch := first | exact Nat.ne_of_beq_eq_false rfl | exact rfl | omega) only [nI_add, xa_sub, xa_mul, pk_div, nm_mod, xa_shr, xa_and7, xa_and1, xa_and255, xa_by_and, nI_m1, Nat.add_sub_cancel, Nat.reducePow, Nat.zero_add, Nat.add_zero, Nat.reduceAdd, Nat.reduceMul, Nat.reduceSub, xf_same, xq_ff, xq_fo, xf_1, xf_2, xs_1, xs_2, xs_same, xq_so, xj_1, xj_2, xj_same, xq_jo, xq_sa1, xq_same, xq_other, upd_s, oI_n, oI_s, xv_0, xv_1, xv_2, xv_3, xm_p1, xm_p2, xq_fp, xq_fn, List.filter_nil, Nat.reduceBEq, Bool.not_true, Bool.not_false, Bool.and_true, Bool.and_false, Bool.false_and, Bool.true_and, if_true, if_false, Bool.false_eq_true, reduceIte, xc_i, xc_j, xc_r, xc_n, List.nil_append, List.cons_append, Option.toList_some, Option.toList_none, pf_6 hF hpp, pf_13 hF hpp, pt_4 hF hpp, h6, e]
  with_reducible refine xm_go_blk b_X6_sourceWidth_27 k_X6_sourceWidth_27 ?_
  refine by_iret ry_110 (by first | rfl | assumption) ?_
  exact hp
theorem sp_srcW0 (hF : XF h) (hpp : pp = 52 ∨ pp = 77) (hn : n < 2000) (h6 : h.1 (pp + 6) n = -1) (hp : post (some (.int (-1))) h) : xm_T (XE sc) (d + 1) 110 [.ref pp, .int (nI n)] h post := by
  refine xq_in rfl ?_
  simp only [xq_a0, xq_aI, xq_aJ, xq_aR, Nat.reduceAdd]
  with_reducible refine xm_go_blk b_X6_sourceWidth_0 k_X6_sourceWidth_0 ?_
  refine by_aload_n rfl ?_
  refine by_getf cn_110 fl_6_27 (by first | exact rfl | assumption | exact ps_0 hpp) (by decide) ?_
  refine by_iload_n rfl ?_
  simp (disch := first | exact Nat.ne_of_beq_eq_false rfl | exact rfl | omega) only [nI_add, xa_sub, xa_mul, pk_div, nm_mod, xa_shr, xa_and7, xa_and1, xa_and255, xa_by_and, nI_m1, Nat.add_sub_cancel, Nat.reducePow, Nat.zero_add, Nat.add_zero, Nat.reduceAdd, Nat.reduceMul, Nat.reduceSub, xf_same, xq_ff, xq_fo, xf_1, xf_2, xs_1, xs_2, xs_same, xq_so, xj_1, xj_2, xj_same, xq_jo, xq_sa1, xq_same, xq_other, upd_s, oI_n, oI_s, pf_6 hF hpp, h6, m1_gez]
  first | refine by_iald (by first | exact rfl | assumption | exact ps_1 hpp | exact ps_2 hpp | exact ps_3 hpp | exact ps_4 hpp | exact ps_5 hpp | exact ps_6 hpp | exact ps_7 hpp | exact ps_8 hpp | exact ps_9 hpp | exact ps_10 hpp | exact ps_11 hpp | exact ps_15 hpp | exact ps_16 hpp | exact ps_17 hpp | exact ps_18 hpp | exact ps_19 hpp | exact ps_21 hpp | exact ps_22 hpp | exact ps_23 hpp | exact ps_24 hpp) ⟨by omega, by omega⟩ ?_ | refine by_tald rfl rfl ⟨by omega, by omega⟩ ?_
  refine by_if_ge 13 rfl ?_
  simp (disch := first | exact Nat.ne_of_beq_eq_false rfl | exact rfl | omega) only [nI_add, xa_sub, xa_mul, pk_div, nm_mod, xa_shr, xa_and7, xa_and1, xa_and255, xa_by_and, nI_m1, Nat.add_sub_cancel, Nat.reducePow, Nat.zero_add, Nat.add_zero, Nat.reduceAdd, Nat.reduceMul, Nat.reduceSub, xf_same, xq_ff, xq_fo, xf_1, xf_2, xs_1, xs_2, xs_same, xq_so, xj_1, xj_2, xj_same, xq_jo, xq_sa1, xq_same, xq_other, upd_s, oI_n, oI_s, xv_0, xv_1, xv_2, xv_3, xm_p1, xm_p2, xq_fp, xq_fn, List.filter_nil, Nat.reduceBEq, Bool.not_true, Bool.not_false, Bool.and_true, Bool.and_false, Bool.false_and, Bool.true_and, if_true, if_false, Bool.false_eq_true, reduceIte, xc_i, xc_j, xc_r, xc_n, List.nil_append, List.cons_append, Option.toList_some, Option.toList_none, nI_ltJ, nI_leJ, nI_eqJ, nI_ltz, nI_gez, nI_gtz, nI_lez, nI_eqz, m1_ltz, m1_gez, true_imp_iff, false_imp_iff, true_and, and_true, ne_eq, not_false_eq_true, not_true_eq_false, Nat.reduceEqDiff, Nat.reduceLT, Nat.reduceLeDiff, pf_6 hF hpp, h6, m1_gez]
  with_reducible refine xm_go_blk b_X6_sourceWidth_9 k_X6_sourceWidth_9 ?_
  refine by_iconst ci_m1 ?_
  refine by_goto 27 rfl ?_
  with_reducible refine xm_go_blk b_X6_sourceWidth_27 k_X6_sourceWidth_27 ?_
  refine by_iret ry_110 (by first | rfl | assumption) ?_
  exact hp
theorem sp_tgtW {cn : Nat} {tr : Nat → Ty} {K Lf R : Nat → Nat} {i : Nat} (hF : XF h) (hpp : pp = 52 ∨ pp = 77) (hn : n < 2000) (hT : tyT h pp cn tr K Lf R) (hcn : cn ≤ 14026) (hi : i < cn) (h6 : h.1 (pp + 7) n = nI i) (hp : post (some (.int (nI (min 1000000 (ty_w (tr i)))))) h) : xm_T (XE sc) (d + 1) 111 [.ref pp, .int (nI n)] h post := by
  have e := (hT.2.1 i hi).2.2.2.2.2.2.1
  refine xq_in rfl ?_
  simp only [xq_a0, xq_aI, xq_aJ, xq_aR, Nat.reduceAdd]
  with_reducible refine xm_go_blk b_X6_targetWidth_0 k_X6_targetWidth_0 ?_
  refine by_aload_n rfl ?_
  refine by_getf cn_111 fl_6_30 (by first | exact rfl | assumption | exact ps_0 hpp) (by decide) ?_
  refine by_iload_n rfl ?_
  simp (disch := first | exact Nat.ne_of_beq_eq_false rfl | exact rfl | omega) only [nI_add, xa_sub, xa_mul, pk_div, nm_mod, xa_shr, xa_and7, xa_and1, xa_and255, xa_by_and, nI_m1, Nat.add_sub_cancel, Nat.reducePow, Nat.zero_add, Nat.add_zero, Nat.reduceAdd, Nat.reduceMul, Nat.reduceSub, xf_same, xq_ff, xq_fo, xf_1, xf_2, xs_1, xs_2, xs_same, xq_so, xj_1, xj_2, xj_same, xq_jo, xq_sa1, xq_same, xq_other, upd_s, oI_n, oI_s, pf_7 hF hpp, pf_13 hF hpp, pt_4 hF hpp, h6, e]
  first | refine by_iald (by first | exact rfl | assumption | exact ps_1 hpp | exact ps_2 hpp | exact ps_3 hpp | exact ps_4 hpp | exact ps_5 hpp | exact ps_6 hpp | exact ps_7 hpp | exact ps_8 hpp | exact ps_9 hpp | exact ps_10 hpp | exact ps_11 hpp | exact ps_15 hpp | exact ps_16 hpp | exact ps_17 hpp | exact ps_18 hpp | exact ps_19 hpp | exact ps_21 hpp | exact ps_22 hpp | exact ps_23 hpp | exact ps_24 hpp) ⟨by omega, by omega⟩ ?_ | refine by_tald rfl rfl ⟨by omega, by omega⟩ ?_
  refine by_if_ge 13 rfl ?_
  simp (disch := first | exact Nat.ne_of_beq_eq_false rfl | exact rfl | omega) only [nI_add, xa_sub, xa_mul, pk_div, nm_mod, xa_shr, xa_and7, xa_and1, xa_and255, xa_by_and, nI_m1, Nat.add_sub_cancel, Nat.reducePow, Nat.zero_add, Nat.add_zero, Nat.reduceAdd, Nat.reduceMul, Nat.reduceSub, xf_same, xq_ff, xq_fo, xf_1, xf_2, xs_1, xs_2, xs_same, xq_so, xj_1, xj_2, xj_same, xq_jo, xq_sa1, xq_same, xq_other, upd_s, oI_n, oI_s, xv_0, xv_1, xv_2, xv_3, xm_p1, xm_p2, xq_fp, xq_fn, List.filter_nil, Nat.reduceBEq, Bool.not_true, Bool.not_false, Bool.and_true, Bool.and_false, Bool.false_and, Bool.true_and, if_true, if_false, Bool.false_eq_true, reduceIte, xc_i, xc_j, xc_r, xc_n, List.nil_append, List.cons_append, Option.toList_some, Option.toList_none, nI_ltJ, nI_leJ, nI_eqJ, nI_ltz, nI_gez, nI_gtz, nI_lez, nI_eqz, m1_ltz, m1_gez, true_imp_iff, false_imp_iff, true_and, and_true, ne_eq, not_false_eq_true, not_true_eq_false, Nat.reduceEqDiff, Nat.reduceLT, Nat.reduceLeDiff, pf_7 hF hpp, pf_13 hF hpp, pt_4 hF hpp, h6, e]
  with_reducible refine xm_go_blk b_X6_targetWidth_13 k_X6_targetWidth_13 ?_
  refine by_aload_n rfl ?_
  refine by_getf cn_111 fl_6_55 (by first | exact rfl | assumption | exact ps_0 hpp) (by decide) ?_
  simp (disch := first | exact Nat.ne_of_beq_eq_false rfl | exact rfl | omega) only [nI_add, xa_sub, xa_mul, pk_div, nm_mod, xa_shr, xa_and7, xa_and1, xa_and255, xa_by_and, nI_m1, Nat.add_sub_cancel, Nat.reducePow, Nat.zero_add, Nat.add_zero, Nat.reduceAdd, Nat.reduceMul, Nat.reduceSub, xf_same, xq_ff, xq_fo, xf_1, xf_2, xs_1, xs_2, xs_same, xq_so, xj_1, xj_2, xj_same, xq_jo, xq_sa1, xq_same, xq_other, upd_s, oI_n, oI_s, pf_7 hF hpp, pf_13 hF hpp, pt_4 hF hpp, h6, e]
  refine by_getf cn_111 fl_6_73 (by first | exact rfl | assumption | exact ps_14 hpp) (by decide) ?_
  refine by_aload_n rfl ?_
  refine by_getf cn_111 fl_6_30 (by first | exact rfl | assumption | exact ps_0 hpp) (by decide) ?_
  refine by_iload_n rfl ?_
  simp (disch := first | exact Nat.ne_of_beq_eq_false rfl | exact rfl | omega) only [nI_add, xa_sub, xa_mul, pk_div, nm_mod, xa_shr, xa_and7, xa_and1, xa_and255, xa_by_and, nI_m1, Nat.add_sub_cancel, Nat.reducePow, Nat.zero_add, Nat.add_zero, Nat.reduceAdd, Nat.reduceMul, Nat.reduceSub, xf_same, xq_ff, xq_fo, xf_1, xf_2, xs_1, xs_2, xs_same, xq_so, xj_1, xj_2, xj_same, xq_jo, xq_sa1, xq_same, xq_other, upd_s, oI_n, oI_s, pf_7 hF hpp, pf_13 hF hpp, pt_4 hF hpp, h6, e]
  first | refine by_iald (by first | exact rfl | assumption | exact ps_1 hpp | exact ps_2 hpp | exact ps_3 hpp | exact ps_4 hpp | exact ps_5 hpp | exact ps_6 hpp | exact ps_7 hpp | exact ps_8 hpp | exact ps_9 hpp | exact ps_10 hpp | exact ps_11 hpp | exact ps_15 hpp | exact ps_16 hpp | exact ps_17 hpp | exact ps_18 hpp | exact ps_19 hpp | exact ps_21 hpp | exact ps_22 hpp | exact ps_23 hpp | exact ps_24 hpp) ⟨by omega, by omega⟩ ?_ | refine by_tald rfl rfl ⟨by omega, by omega⟩ ?_
  simp (disch := first | exact Nat.ne_of_beq_eq_false rfl | exact rfl | omega) only [nI_add, xa_sub, xa_mul, pk_div, nm_mod, xa_shr, xa_and7, xa_and1, xa_and255, xa_by_and, nI_m1, Nat.add_sub_cancel, Nat.reducePow, Nat.zero_add, Nat.add_zero, Nat.reduceAdd, Nat.reduceMul, Nat.reduceSub, xf_same, xq_ff, xq_fo, xf_1, xf_2, xs_1, xs_2, xs_same, xq_so, xj_1, xj_2, xj_same, xq_jo, xq_sa1, xq_same, xq_other, upd_s, oI_n, oI_s, pf_7 hF hpp, pf_13 hF hpp, pt_4 hF hpp, h6, e]
  first | refine by_iald (by first | exact rfl | assumption | exact ps_1 hpp | exact ps_2 hpp | exact ps_3 hpp | exact ps_4 hpp | exact ps_5 hpp | exact ps_6 hpp | exact ps_7 hpp | exact ps_8 hpp | exact ps_9 hpp | exact ps_10 hpp | exact ps_11 hpp | exact ps_15 hpp | exact ps_16 hpp | exact ps_17 hpp | exact ps_18 hpp | exact ps_19 hpp | exact ps_21 hpp | exact ps_22 hpp | exact ps_23 hpp | exact ps_24 hpp) ⟨by omega, by omega⟩ ?_ | refine by_tald rfl rfl ⟨by omega, by omega⟩ ?_
  refine by_nil ?_
  simp (disch := first | exact Nat.ne_of_beq_eq_false rfl | exact rfl | omega) only [nI_add, xa_sub, xa_mul, pk_div, nm_mod, xa_shr, xa_and7, xa_and1, xa_and255, xa_by_and, nI_m1, Nat.add_sub_cancel, Nat.reducePow, Nat.zero_add, Nat.add_zero, Nat.reduceAdd, Nat.reduceMul, Nat.reduceSub, xf_same, xq_ff, xq_fo, xf_1, xf_2, xs_1, xs_2, xs_same, xq_so, xj_1, xj_2, xj_same, xq_jo, xq_sa1, xq_same, xq_other, upd_s, oI_n, oI_s, xv_0, xv_1, xv_2, xv_3, xm_p1, xm_p2, xq_fp, xq_fn, List.filter_nil, Nat.reduceBEq, Bool.not_true, Bool.not_false, Bool.and_true, Bool.and_false, Bool.false_and, Bool.true_and, if_true, if_false, Bool.false_eq_true, reduceIte, xc_i, xc_j, xc_r, xc_n, List.nil_append, List.cons_append, Option.toList_some, Option.toList_none, pf_7 hF hpp, pf_13 hF hpp, pt_4 hF hpp, h6, e]
  with_reducible refine xm_go_blk b_X6_targetWidth_27 k_X6_targetWidth_27 ?_
  refine by_iret ry_111 (by first | rfl | assumption) ?_
  exact hp
theorem sp_tgtW0 (hF : XF h) (hpp : pp = 52 ∨ pp = 77) (hn : n < 2000) (h6 : h.1 (pp + 7) n = -1) (hp : post (some (.int (-1))) h) : xm_T (XE sc) (d + 1) 111 [.ref pp, .int (nI n)] h post := by
  refine xq_in rfl ?_
  simp only [xq_a0, xq_aI, xq_aJ, xq_aR, Nat.reduceAdd]
  with_reducible refine xm_go_blk b_X6_targetWidth_0 k_X6_targetWidth_0 ?_
  refine by_aload_n rfl ?_
  refine by_getf cn_111 fl_6_30 (by first | exact rfl | assumption | exact ps_0 hpp) (by decide) ?_
  refine by_iload_n rfl ?_
  simp (disch := first | exact Nat.ne_of_beq_eq_false rfl | exact rfl | omega) only [nI_add, xa_sub, xa_mul, pk_div, nm_mod, xa_shr, xa_and7, xa_and1, xa_and255, xa_by_and, nI_m1, Nat.add_sub_cancel, Nat.reducePow, Nat.zero_add, Nat.add_zero, Nat.reduceAdd, Nat.reduceMul, Nat.reduceSub, xf_same, xq_ff, xq_fo, xf_1, xf_2, xs_1, xs_2, xs_same, xq_so, xj_1, xj_2, xj_same, xq_jo, xq_sa1, xq_same, xq_other, upd_s, oI_n, oI_s, pf_7 hF hpp, h6, m1_gez]
  first | refine by_iald (by first | exact rfl | assumption | exact ps_1 hpp | exact ps_2 hpp | exact ps_3 hpp | exact ps_4 hpp | exact ps_5 hpp | exact ps_6 hpp | exact ps_7 hpp | exact ps_8 hpp | exact ps_9 hpp | exact ps_10 hpp | exact ps_11 hpp | exact ps_15 hpp | exact ps_16 hpp | exact ps_17 hpp | exact ps_18 hpp | exact ps_19 hpp | exact ps_21 hpp | exact ps_22 hpp | exact ps_23 hpp | exact ps_24 hpp) ⟨by omega, by omega⟩ ?_ | refine by_tald rfl rfl ⟨by omega, by omega⟩ ?_
  refine by_if_ge 13 rfl ?_
  simp (disch := first | exact Nat.ne_of_beq_eq_false rfl | exact rfl | omega) only [nI_add, xa_sub, xa_mul, pk_div, nm_mod, xa_shr, xa_and7, xa_and1, xa_and255, xa_by_and, nI_m1, Nat.add_sub_cancel, Nat.reducePow, Nat.zero_add, Nat.add_zero, Nat.reduceAdd, Nat.reduceMul, Nat.reduceSub, xf_same, xq_ff, xq_fo, xf_1, xf_2, xs_1, xs_2, xs_same, xq_so, xj_1, xj_2, xj_same, xq_jo, xq_sa1, xq_same, xq_other, upd_s, oI_n, oI_s, xv_0, xv_1, xv_2, xv_3, xm_p1, xm_p2, xq_fp, xq_fn, List.filter_nil, Nat.reduceBEq, Bool.not_true, Bool.not_false, Bool.and_true, Bool.and_false, Bool.false_and, Bool.true_and, if_true, if_false, Bool.false_eq_true, reduceIte, xc_i, xc_j, xc_r, xc_n, List.nil_append, List.cons_append, Option.toList_some, Option.toList_none, nI_ltJ, nI_leJ, nI_eqJ, nI_ltz, nI_gez, nI_gtz, nI_lez, nI_eqz, m1_ltz, m1_gez, true_imp_iff, false_imp_iff, true_and, and_true, ne_eq, not_false_eq_true, not_true_eq_false, Nat.reduceEqDiff, Nat.reduceLT, Nat.reduceLeDiff, pf_7 hF hpp, h6, m1_gez]
  with_reducible refine xm_go_blk b_X6_targetWidth_9 k_X6_targetWidth_9 ?_
  refine by_iconst ci_m1 ?_
  refine by_goto 27 rfl ?_
  with_reducible refine xm_go_blk b_X6_targetWidth_27 k_X6_targetWidth_27 ?_
  refine by_iret ry_111 (by first | rfl | assumption) ?_
  exact hp
end JU
