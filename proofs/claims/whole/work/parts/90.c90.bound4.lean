/-! ===== Program.findBounds, whole ===== -/
theorem hid_1 : lN 1 + (-1 : Int32).toInt64 = lN 0 := by decide
section BO
variable {sc : xm_Sc} {d pp n cn : Nat} {ps : List pr_D} {S T tr : Nat → Ty} {K Lf R C F G : Nat → Nat} {h : xm_H} {post : xm_Po}
def fbV (h : xm_H) (pp n : Nat) (C F G : Nat → Nat) : Prop := ∀ m, m < n → h.1 (pp + 8) m = nI (C m) ∧ h.1 (pp + 9) m = nI (F m) ∧ h.1 (pp + 10) m = nI (G m)
theorem bnd_upd {c f g : Nat} (ho : psOK ps) (hn : n < ps.length) (hb : bnd ps S T C F G n) (hC : c = min 2147483647 (max (gO C (p1 ps n)) (gO C (p2 ps n)) + (if pC ps n = 0 then gO (fun x => ty_w (T x)) (p1 ps n) else 0))) (hF : f = min 2147483647 (max (gO F (p1 ps n)) (gO F (p2 ps n)) + (if pC ps n = 0 then 1 else 0))) (hG : g = (if pC ps n = 11 then 0 else min 2147483647 (1 + (if pC ps n = 1 then max (gO G (p1 ps n)) (gO G (p2 ps n)) else gO G (p1 ps n) + gO G (p2 ps n)) + ownS ps S T n))) :
    bnd ps S T (updN C n c) (updN F n f) (updN G n g) (n + 1) := by
  intro m hm
  have hmN : m < ps.length := by omega
  obtain ⟨o1, o2, o3, o4, o5, _⟩ := ho m hmN
  have k1 : ∀ x, p1 ps m = some x → x ≠ n := fun x hx => by have := o4 x hx; omega
  have k2 : ∀ x, p2 ps m = some x → x ≠ n := fun x hx => by have := o5 x hx; omega
  unfold bndE
  rw [gO_congr (C := updN C n c) (C' := C) (fun x hx => updN_o (k1 x hx)), gO_congr (C := updN C n c) (C' := C) (fun x hx => updN_o (k2 x hx)), gO_congr (C := updN F n f) (C' := F) (fun x hx => updN_o (k1 x hx)), gO_congr (C := updN F n f) (C' := F) (fun x hx => updN_o (k2 x hx)), gO_congr (C := updN G n g) (C' := G) (fun x hx => updN_o (k1 x hx)), gO_congr (C := updN G n g) (C' := G) (fun x hx => updN_o (k2 x hx))]
  by_cases e : m = n
  · subst e
    rw [updN_s, updN_s, updN_s]
    exact ⟨hC, hF, hG⟩
  · rw [updN_o e, updN_o e, updN_o e]
    exact hb m (by omega)
theorem fb_1 (hF : XF h) (hpp : pp = 52 ∨ pp = 77) (hB : bdP h pp ps S T cn tr K Lf R) (hn : n < ps.length) (hV : fbV h pp n C F G) (hb : bnd ps S T C F G n)
    (hgo : ∀ h' c f g, fbO pp n h h' → h'.1 (pp + 8) n = nI c → h'.1 (pp + 9) n = nI f → h'.1 (pp + 10) n = nI g → c = min 2147483647 (max (gO C (p1 ps n)) (gO C (p2 ps n)) + (if pC ps n = 0 then gO (fun x => ty_w (T x)) (p1 ps n) else 0)) → f = min 2147483647 (max (gO F (p1 ps n)) (gO F (p2 ps n)) + (if pC ps n = 0 then 1 else 0)) → g = (if pC ps n = 11 then 0 else min 2147483647 (1 + (if pC ps n = 1 then max (gO G (p1 ps n)) (gO G (p2 ps n)) else gO G (p1 ps n) + gO G (p2 ps n)) + ownS ps S T n)) → xm_go (XE sc) (xm_T (XE sc) (d + 2)) 107 post 112 [(0, .ref pp), (1, .int (nI n))] [] h') :
    xm_go (XE sc) (xm_T (XE sc) (d + 2)) 107 post 2 [(1, .int (nI n)), (0, .ref pp)] [] h := by
  have hB0 := hB
  obtain ⟨b1, b2, b3, b4, b5, b6, b7, b8, b9⟩ := hB0
  obtain ⟨r1, r2, r3⟩ := b4 n hn
  obtain ⟨o1, o2, o3, o4, o5, _⟩ := b1 n hn
  have o1 : pC ps n ≤ 12 := o1
  have o2 : pC ps n ≤ 6 ↔ (p1 ps n).isSome = true := o2
  have o3 : pC ps n ≤ 2 ↔ (p2 ps n).isSome = true := o3
  have O2 : fbO pp n h (xm_si (xm_si h (pp + 8) n (nI 0)) (pp + 9) n (nI 0)) := fbO_si (fbO_si fbO_rf (by omega)) (by omega)
  have F2 := fb_XF hF O2
  have hB2 := bdP_O hpp hB O2
  have hw : ownS ps S T n ≤ 4096 ∨ pC ps n = 11 := by
    by_cases q : pC ps n = 11
    · exact Or.inr q
    · left
      have := b8 n hn q
      unfold ownS
      split
      · omega
      · split
        · omega
        · split <;> omega
  have own0 : pC ps n ≤ 6 → ownS ps S T n = 0 := fun z => by
    unfold ownS
    rw [if_neg (by omega), if_neg (by omega), if_neg (by omega)]
  -- behind the first steps
  have cont : ∀ g0, (pC ps n = 11 → g0 = 0) → (pC ps n ≠ 11 → g0 = min 2147483647 (1 + ownS ps S T n)) → xm_go (XE sc) (xm_T (XE sc) (d + 2)) 107 post 40 [(1, .int (nI n)), (0, .ref pp)] [.int (nI g0), .int (nI n), .ref (pp + 10)] (xm_si (xm_si h (pp + 8) n (nI 0)) (pp + 9) n (nI 0)) := by
    intro g0 hg1 hg2
    have O3 : fbO pp n h (xm_si (xm_si (xm_si h (pp + 8) n (nI 0)) (pp + 9) n (nI 0)) (pp + 10) n (nI g0)) := fbO_si O2 (by omega)
    cases e1 : p1 ps n with
    | none =>
      have n6 : ¬ pC ps n ≤ 6 := fun z => by have := o2.mp z; rw [e1] at this; cases this
      have e2 : p2 ps n = none := by
        cases z : p2 ps n with
        | none => rfl
        | some y => exact absurd (o3.mpr (by rw [z]; rfl)) (by omega)
      rw [e1] at r2
      rw [e2] at r3
      have r2 : h.1 (pp + 2) n = -1 := r2
      have r3 : h.1 (pp + 3) n = -1 := r3
      rw [e1, e2] at hgo
      have hg := hgo _ 0 0 g0 O3 (by rw [xq_so (by omega), xq_so (by omega), xs_same, upd_s]) (by rw [xq_so (by omega), xs_same, upd_s]) (by rw [xs_same, upd_s]) (by rw [if_neg (by omega)]; simp [gO]) (by rw [if_neg (by omega)]; simp [gO]) (by
        by_cases q : pC ps n = 11
        · rw [if_pos q]; exact hg1 q
        · rw [if_neg q, hg2 q, if_neg (by omega)]; simp [gO])
      with_reducible refine xm_go_blk b_X6_findBounds_40 k_X6_findBounds_40 ?_
      refine by_iast (by first | exact rfl | assumption | exact ps_1 hpp | exact ps_2 hpp | exact ps_3 hpp | exact ps_4 hpp | exact ps_5 hpp | exact ps_6 hpp | exact ps_7 hpp | exact ps_8 hpp | exact ps_9 hpp | exact ps_10 hpp | exact ps_11 hpp | exact ps_15 hpp | exact ps_16 hpp | exact ps_17 hpp | exact ps_18 hpp | exact ps_19 hpp | exact ps_21 hpp | exact ps_22 hpp | exact ps_23 hpp | exact ps_24 hpp) ⟨by omega, by omega⟩ ?_
      refine by_aload_n rfl ?_
      refine by_getf cn_107 fl_6_15 (by first | exact rfl | assumption | exact ps_0 hpp) (by decide) ?_
      refine by_iload_n rfl ?_
      simp (disch := first | exact Nat.ne_of_beq_eq_false rfl | exact rfl | omega) only [nI_add, xa_sub, xa_mul, pk_div, nm_mod, xa_shr, xa_and7, xa_and1, xa_and255, xa_by_and, nI_m1, Nat.add_sub_cancel, Nat.reducePow, Nat.zero_add, Nat.add_zero, Nat.reduceAdd, Nat.reduceMul, Nat.reduceSub, xf_same, xq_ff, xq_fo, xf_1, xf_2, xs_1, xs_2, xs_same, xq_so, xj_1, xj_2, xj_same, xq_jo, xq_sa1, xq_same, xq_other, upd_s, oI_n, oI_s, pf_2 hF hpp, pf_3 hF hpp, r2, r3, m1_ltz]
      first | refine by_iald (by first | exact rfl | assumption | exact ps_1 hpp | exact ps_2 hpp | exact ps_3 hpp | exact ps_4 hpp | exact ps_5 hpp | exact ps_6 hpp | exact ps_7 hpp | exact ps_8 hpp | exact ps_9 hpp | exact ps_10 hpp | exact ps_11 hpp | exact ps_15 hpp | exact ps_16 hpp | exact ps_17 hpp | exact ps_18 hpp | exact ps_19 hpp | exact ps_21 hpp | exact ps_22 hpp | exact ps_23 hpp | exact ps_24 hpp) ⟨by omega, by omega⟩ ?_ | refine by_tald rfl rfl ⟨by omega, by omega⟩ ?_
      refine by_istore_n (by rw [ml_107]; decide) ?_
      refine by_aload_n rfl ?_
      refine by_getf cn_107 fl_6_18 (by first | exact rfl | assumption | exact ps_0 hpp) (by decide) ?_
      refine by_iload_n rfl ?_
      simp (disch := first | exact Nat.ne_of_beq_eq_false rfl | exact rfl | omega) only [nI_add, xa_sub, xa_mul, pk_div, nm_mod, xa_shr, xa_and7, xa_and1, xa_and255, xa_by_and, nI_m1, Nat.add_sub_cancel, Nat.reducePow, Nat.zero_add, Nat.add_zero, Nat.reduceAdd, Nat.reduceMul, Nat.reduceSub, xf_same, xq_ff, xq_fo, xf_1, xf_2, xs_1, xs_2, xs_same, xq_so, xj_1, xj_2, xj_same, xq_jo, xq_sa1, xq_same, xq_other, upd_s, oI_n, oI_s, pf_2 hF hpp, pf_3 hF hpp, r2, r3, m1_ltz]
      first | refine by_iald (by first | exact rfl | assumption | exact ps_1 hpp | exact ps_2 hpp | exact ps_3 hpp | exact ps_4 hpp | exact ps_5 hpp | exact ps_6 hpp | exact ps_7 hpp | exact ps_8 hpp | exact ps_9 hpp | exact ps_10 hpp | exact ps_11 hpp | exact ps_15 hpp | exact ps_16 hpp | exact ps_17 hpp | exact ps_18 hpp | exact ps_19 hpp | exact ps_21 hpp | exact ps_22 hpp | exact ps_23 hpp | exact ps_24 hpp) ⟨by omega, by omega⟩ ?_ | refine by_tald rfl rfl ⟨by omega, by omega⟩ ?_
      refine by_istore_n (by rw [ml_107]; decide) ?_
      refine by_iload_n rfl ?_
      refine by_if_lt 101 rfl ?_
      simp (disch := first | exact Nat.ne_of_beq_eq_false rfl | exact rfl | omega) only [nI_add, xa_sub, xa_mul, pk_div, nm_mod, xa_shr, xa_and7, xa_and1, xa_and255, xa_by_and, nI_m1, Nat.add_sub_cancel, Nat.reducePow, Nat.zero_add, Nat.add_zero, Nat.reduceAdd, Nat.reduceMul, Nat.reduceSub, xf_same, xq_ff, xq_fo, xf_1, xf_2, xs_1, xs_2, xs_same, xq_so, xj_1, xj_2, xj_same, xq_jo, xq_sa1, xq_same, xq_other, upd_s, oI_n, oI_s, xv_0, xv_1, xv_2, xv_3, xm_p1, xm_p2, xq_fp, xq_fn, List.filter_nil, Nat.reduceBEq, Bool.not_true, Bool.not_false, Bool.and_true, Bool.and_false, Bool.false_and, Bool.true_and, if_true, if_false, Bool.false_eq_true, reduceIte, xc_i, xc_j, xc_r, xc_n, List.nil_append, List.cons_append, Option.toList_some, Option.toList_none, nI_ltJ, nI_leJ, nI_eqJ, nI_ltz, nI_gez, nI_gtz, nI_lez, nI_eqz, m1_ltz, m1_gez, true_imp_iff, false_imp_iff, true_and, and_true, ne_eq, not_false_eq_true, not_true_eq_false, Nat.reduceEqDiff, Nat.reduceLT, Nat.reduceLeDiff, pf_2 hF hpp, pf_3 hF hpp, r2, r3, m1_ltz]
      with_reducible refine xm_go_blk b_X6_findBounds_101 k_X6_findBounds_101 ?_
      refine by_iload_n rfl ?_
      refine by_if_lt 112 rfl ?_
      simp (disch := first | exact Nat.ne_of_beq_eq_false rfl | exact rfl | omega) only [nI_add, xa_sub, xa_mul, pk_div, nm_mod, xa_shr, xa_and7, xa_and1, xa_and255, xa_by_and, nI_m1, Nat.add_sub_cancel, Nat.reducePow, Nat.zero_add, Nat.add_zero, Nat.reduceAdd, Nat.reduceMul, Nat.reduceSub, xf_same, xq_ff, xq_fo, xf_1, xf_2, xs_1, xs_2, xs_same, xq_so, xj_1, xj_2, xj_same, xq_jo, xq_sa1, xq_same, xq_other, upd_s, oI_n, oI_s, xv_0, xv_1, xv_2, xv_3, xm_p1, xm_p2, xq_fp, xq_fn, List.filter_nil, Nat.reduceBEq, Bool.not_true, Bool.not_false, Bool.and_true, Bool.and_false, Bool.false_and, Bool.true_and, if_true, if_false, Bool.false_eq_true, reduceIte, xc_i, xc_j, xc_r, xc_n, List.nil_append, List.cons_append, Option.toList_some, Option.toList_none, nI_ltJ, nI_leJ, nI_eqJ, nI_ltz, nI_gez, nI_gtz, nI_lez, nI_eqz, m1_ltz, m1_gez, true_imp_iff, false_imp_iff, true_and, and_true, ne_eq, not_false_eq_true, not_true_eq_false, Nat.reduceEqDiff, Nat.reduceLT, Nat.reduceLeDiff, pf_2 hF hpp, pf_3 hF hpp, r2, r3, m1_ltz]
      exact xm_go_wk (by simp [Value.category]) hg
    | some s =>
      have n6 : pC ps n ≤ 6 := o2.mpr (by rw [e1]; rfl)
      have hsn : s < n := o4 s e1
      obtain ⟨v1, v2, v3⟩ := hV s hsn
      obtain ⟨l1, l2, l3⟩ := bnd_le hb hsn
      rw [e1] at r2
      have r2 : h.1 (pp + 2) n = nI s := r2
      have n1 : s ≠ n := by omega
      have hown := own0 n6
      -- the values of the first child
      have O4 : ∀ g1, fbO pp n h (xm_si (xm_si (xm_si (xm_si (xm_si (xm_si h (pp + 8) n (nI 0)) (pp + 9) n (nI 0)) (pp + 10) n (nI g0)) (pp + 8) n (nI (C s))) (pp + 9) n (nI (F s))) (pp + 10) n (nI g1)) := fun g1 => fbO_si (fbO_si (fbO_si O3 (by omega)) (by omega)) (by omega)
      cases e2 : p2 ps n with
      | none =>
        rw [e2] at r3
        have r3 : h.1 (pp + 3) n = -1 := r3
        have n2 : ¬ pC ps n ≤ 2 := fun z => by have := o3.mp z; rw [e2] at this; cases this
        rw [e1, e2] at hgo
        have hg := hgo _ (C s) (F s) (min 2147483647 (1 + G s)) (O4 _) (by rw [xq_so (by omega), xq_so (by omega), xs_same, upd_s]) (by rw [xq_so (by omega), xs_same, upd_s]) (by rw [xs_same, upd_s]) (by rw [if_neg (by omega)]; simp only [gO]; omega) (by rw [if_neg (by omega)]; simp only [gO]; omega) (by rw [if_neg (by omega), if_neg (by omega), hown]; rfl)
        with_reducible refine xm_go_blk b_X6_findBounds_40 k_X6_findBounds_40 ?_
        refine by_iast (by first | exact rfl | assumption | exact ps_1 hpp | exact ps_2 hpp | exact ps_3 hpp | exact ps_4 hpp | exact ps_5 hpp | exact ps_6 hpp | exact ps_7 hpp | exact ps_8 hpp | exact ps_9 hpp | exact ps_10 hpp | exact ps_11 hpp | exact ps_15 hpp | exact ps_16 hpp | exact ps_17 hpp | exact ps_18 hpp | exact ps_19 hpp | exact ps_21 hpp | exact ps_22 hpp | exact ps_23 hpp | exact ps_24 hpp) ⟨by omega, by omega⟩ ?_
        refine by_aload_n rfl ?_
        refine by_getf cn_107 fl_6_15 (by first | exact rfl | assumption | exact ps_0 hpp) (by decide) ?_
        refine by_iload_n rfl ?_
        simp (disch := first | exact Nat.ne_of_beq_eq_false rfl | exact rfl | omega) only [nI_add, xa_sub, xa_mul, pk_div, nm_mod, xa_shr, xa_and7, xa_and1, xa_and255, xa_by_and, nI_m1, Nat.add_sub_cancel, Nat.reducePow, Nat.zero_add, Nat.add_zero, Nat.reduceAdd, Nat.reduceMul, Nat.reduceSub, xf_same, xq_ff, xq_fo, xf_1, xf_2, xs_1, xs_2, xs_same, xq_so, xj_1, xj_2, xj_same, xq_jo, xq_sa1, xq_same, xq_other, upd_s, oI_n, oI_s, pf_2 hF hpp, pf_3 hF hpp, pf_8 hF hpp, pf_9 hF hpp, pf_10 hF hpp, r2, r3, v1, v2, v3, upd_o n1, i2l_n (show G s < 2147483648 by omega), lN_pl]
        first | refine by_iald (by first | exact rfl | assumption | exact ps_1 hpp | exact ps_2 hpp | exact ps_3 hpp | exact ps_4 hpp | exact ps_5 hpp | exact ps_6 hpp | exact ps_7 hpp | exact ps_8 hpp | exact ps_9 hpp | exact ps_10 hpp | exact ps_11 hpp | exact ps_15 hpp | exact ps_16 hpp | exact ps_17 hpp | exact ps_18 hpp | exact ps_19 hpp | exact ps_21 hpp | exact ps_22 hpp | exact ps_23 hpp | exact ps_24 hpp) ⟨by omega, by omega⟩ ?_ | refine by_tald rfl rfl ⟨by omega, by omega⟩ ?_
        refine by_istore_n (by rw [ml_107]; decide) ?_
        refine by_aload_n rfl ?_
        refine by_getf cn_107 fl_6_18 (by first | exact rfl | assumption | exact ps_0 hpp) (by decide) ?_
        refine by_iload_n rfl ?_
        simp (disch := first | exact Nat.ne_of_beq_eq_false rfl | exact rfl | omega) only [nI_add, xa_sub, xa_mul, pk_div, nm_mod, xa_shr, xa_and7, xa_and1, xa_and255, xa_by_and, nI_m1, Nat.add_sub_cancel, Nat.reducePow, Nat.zero_add, Nat.add_zero, Nat.reduceAdd, Nat.reduceMul, Nat.reduceSub, xf_same, xq_ff, xq_fo, xf_1, xf_2, xs_1, xs_2, xs_same, xq_so, xj_1, xj_2, xj_same, xq_jo, xq_sa1, xq_same, xq_other, upd_s, oI_n, oI_s, pf_2 hF hpp, pf_3 hF hpp, pf_8 hF hpp, pf_9 hF hpp, pf_10 hF hpp, r2, r3, v1, v2, v3, upd_o n1, i2l_n (show G s < 2147483648 by omega), lN_pl]
        first | refine by_iald (by first | exact rfl | assumption | exact ps_1 hpp | exact ps_2 hpp | exact ps_3 hpp | exact ps_4 hpp | exact ps_5 hpp | exact ps_6 hpp | exact ps_7 hpp | exact ps_8 hpp | exact ps_9 hpp | exact ps_10 hpp | exact ps_11 hpp | exact ps_15 hpp | exact ps_16 hpp | exact ps_17 hpp | exact ps_18 hpp | exact ps_19 hpp | exact ps_21 hpp | exact ps_22 hpp | exact ps_23 hpp | exact ps_24 hpp) ⟨by omega, by omega⟩ ?_ | refine by_tald rfl rfl ⟨by omega, by omega⟩ ?_
        refine by_istore_n (by rw [ml_107]; decide) ?_
        refine by_iload_n rfl ?_
        refine by_if_lt 101 rfl ?_
        simp (disch := first | exact Nat.ne_of_beq_eq_false rfl | exact rfl | omega) only [nI_add, xa_sub, xa_mul, pk_div, nm_mod, xa_shr, xa_and7, xa_and1, xa_and255, xa_by_and, nI_m1, Nat.add_sub_cancel, Nat.reducePow, Nat.zero_add, Nat.add_zero, Nat.reduceAdd, Nat.reduceMul, Nat.reduceSub, xf_same, xq_ff, xq_fo, xf_1, xf_2, xs_1, xs_2, xs_same, xq_so, xj_1, xj_2, xj_same, xq_jo, xq_sa1, xq_same, xq_other, upd_s, oI_n, oI_s, xv_0, xv_1, xv_2, xv_3, xm_p1, xm_p2, xq_fp, xq_fn, List.filter_nil, Nat.reduceBEq, Bool.not_true, Bool.not_false, Bool.and_true, Bool.and_false, Bool.false_and, Bool.true_and, if_true, if_false, Bool.false_eq_true, reduceIte, xc_i, xc_j, xc_r, xc_n, List.nil_append, List.cons_append, Option.toList_some, Option.toList_none, nI_ltJ, nI_leJ, nI_eqJ, nI_ltz, nI_gez, nI_gtz, nI_lez, nI_eqz, m1_ltz, m1_gez, true_imp_iff, false_imp_iff, true_and, and_true, ne_eq, not_false_eq_true, not_true_eq_false, Nat.reduceEqDiff, Nat.reduceLT, Nat.reduceLeDiff, pf_2 hF hpp, pf_3 hF hpp, pf_8 hF hpp, pf_9 hF hpp, pf_10 hF hpp, r2, r3, v1, v2, v3, upd_o n1, i2l_n (show G s < 2147483648 by omega), lN_pl]
        with_reducible refine xm_go_blk b_X6_findBounds_59 k_X6_findBounds_59 ?_
        refine by_aload_n rfl ?_
        refine by_getf cn_107 fl_6_33 (by first | exact rfl | assumption | exact ps_0 hpp) (by decide) ?_
        refine by_iload_n rfl ?_
        refine by_aload_n rfl ?_
        refine by_getf cn_107 fl_6_33 (by first | exact rfl | assumption | exact ps_0 hpp) (by decide) ?_
        refine by_iload_n rfl ?_
        simp (disch := first | exact Nat.ne_of_beq_eq_false rfl | exact rfl | omega) only [nI_add, xa_sub, xa_mul, pk_div, nm_mod, xa_shr, xa_and7, xa_and1, xa_and255, xa_by_and, nI_m1, Nat.add_sub_cancel, Nat.reducePow, Nat.zero_add, Nat.add_zero, Nat.reduceAdd, Nat.reduceMul, Nat.reduceSub, xf_same, xq_ff, xq_fo, xf_1, xf_2, xs_1, xs_2, xs_same, xq_so, xj_1, xj_2, xj_same, xq_jo, xq_sa1, xq_same, xq_other, upd_s, oI_n, oI_s, pf_2 hF hpp, pf_3 hF hpp, pf_8 hF hpp, pf_9 hF hpp, pf_10 hF hpp, r2, r3, v1, v2, v3, upd_o n1, i2l_n (show G s < 2147483648 by omega), lN_pl]
        first | refine by_iald (by first | exact rfl | assumption | exact ps_1 hpp | exact ps_2 hpp | exact ps_3 hpp | exact ps_4 hpp | exact ps_5 hpp | exact ps_6 hpp | exact ps_7 hpp | exact ps_8 hpp | exact ps_9 hpp | exact ps_10 hpp | exact ps_11 hpp | exact ps_15 hpp | exact ps_16 hpp | exact ps_17 hpp | exact ps_18 hpp | exact ps_19 hpp | exact ps_21 hpp | exact ps_22 hpp | exact ps_23 hpp | exact ps_24 hpp) ⟨by omega, by omega⟩ ?_ | refine by_tald rfl rfl ⟨by omega, by omega⟩ ?_
        refine by_iast (by first | exact rfl | assumption | exact ps_1 hpp | exact ps_2 hpp | exact ps_3 hpp | exact ps_4 hpp | exact ps_5 hpp | exact ps_6 hpp | exact ps_7 hpp | exact ps_8 hpp | exact ps_9 hpp | exact ps_10 hpp | exact ps_11 hpp | exact ps_15 hpp | exact ps_16 hpp | exact ps_17 hpp | exact ps_18 hpp | exact ps_19 hpp | exact ps_21 hpp | exact ps_22 hpp | exact ps_23 hpp | exact ps_24 hpp) ⟨by omega, by omega⟩ ?_
        refine by_aload_n rfl ?_
        refine by_getf cn_107 fl_6_36 (by first | exact rfl | assumption | exact ps_0 hpp) (by decide) ?_
        refine by_iload_n rfl ?_
        refine by_aload_n rfl ?_
        refine by_getf cn_107 fl_6_36 (by first | exact rfl | assumption | exact ps_0 hpp) (by decide) ?_
        refine by_iload_n rfl ?_
        simp (disch := first | exact Nat.ne_of_beq_eq_false rfl | exact rfl | omega) only [nI_add, xa_sub, xa_mul, pk_div, nm_mod, xa_shr, xa_and7, xa_and1, xa_and255, xa_by_and, nI_m1, Nat.add_sub_cancel, Nat.reducePow, Nat.zero_add, Nat.add_zero, Nat.reduceAdd, Nat.reduceMul, Nat.reduceSub, xf_same, xq_ff, xq_fo, xf_1, xf_2, xs_1, xs_2, xs_same, xq_so, xj_1, xj_2, xj_same, xq_jo, xq_sa1, xq_same, xq_other, upd_s, oI_n, oI_s, pf_2 hF hpp, pf_3 hF hpp, pf_8 hF hpp, pf_9 hF hpp, pf_10 hF hpp, r2, r3, v1, v2, v3, upd_o n1, i2l_n (show G s < 2147483648 by omega), lN_pl]
        first | refine by_iald (by first | exact rfl | assumption | exact ps_1 hpp | exact ps_2 hpp | exact ps_3 hpp | exact ps_4 hpp | exact ps_5 hpp | exact ps_6 hpp | exact ps_7 hpp | exact ps_8 hpp | exact ps_9 hpp | exact ps_10 hpp | exact ps_11 hpp | exact ps_15 hpp | exact ps_16 hpp | exact ps_17 hpp | exact ps_18 hpp | exact ps_19 hpp | exact ps_21 hpp | exact ps_22 hpp | exact ps_23 hpp | exact ps_24 hpp) ⟨by omega, by omega⟩ ?_ | refine by_tald rfl rfl ⟨by omega, by omega⟩ ?_
        refine by_iast (by first | exact rfl | assumption | exact ps_1 hpp | exact ps_2 hpp | exact ps_3 hpp | exact ps_4 hpp | exact ps_5 hpp | exact ps_6 hpp | exact ps_7 hpp | exact ps_8 hpp | exact ps_9 hpp | exact ps_10 hpp | exact ps_11 hpp | exact ps_15 hpp | exact ps_16 hpp | exact ps_17 hpp | exact ps_18 hpp | exact ps_19 hpp | exact ps_21 hpp | exact ps_22 hpp | exact ps_23 hpp | exact ps_24 hpp) ⟨by omega, by omega⟩ ?_
        refine by_aload_n rfl ?_
        refine by_getf cn_107 fl_6_39 (by first | exact rfl | assumption | exact ps_0 hpp) (by decide) ?_
        refine by_iload_n rfl ?_
        refine by_lconst cl_1 ?_
        refine by_aload_n rfl ?_
        refine by_getf cn_107 fl_6_39 (by first | exact rfl | assumption | exact ps_0 hpp) (by decide) ?_
        refine by_iload_n rfl ?_
        simp (disch := first | exact Nat.ne_of_beq_eq_false rfl | exact rfl | omega) only [nI_add, xa_sub, xa_mul, pk_div, nm_mod, xa_shr, xa_and7, xa_and1, xa_and255, xa_by_and, nI_m1, Nat.add_sub_cancel, Nat.reducePow, Nat.zero_add, Nat.add_zero, Nat.reduceAdd, Nat.reduceMul, Nat.reduceSub, xf_same, xq_ff, xq_fo, xf_1, xf_2, xs_1, xs_2, xs_same, xq_so, xj_1, xj_2, xj_same, xq_jo, xq_sa1, xq_same, xq_other, upd_s, oI_n, oI_s, pf_2 hF hpp, pf_3 hF hpp, pf_8 hF hpp, pf_9 hF hpp, pf_10 hF hpp, r2, r3, v1, v2, v3, upd_o n1, i2l_n (show G s < 2147483648 by omega), lN_pl]
        first | refine by_iald (by first | exact rfl | assumption | exact ps_1 hpp | exact ps_2 hpp | exact ps_3 hpp | exact ps_4 hpp | exact ps_5 hpp | exact ps_6 hpp | exact ps_7 hpp | exact ps_8 hpp | exact ps_9 hpp | exact ps_10 hpp | exact ps_11 hpp | exact ps_15 hpp | exact ps_16 hpp | exact ps_17 hpp | exact ps_18 hpp | exact ps_19 hpp | exact ps_21 hpp | exact ps_22 hpp | exact ps_23 hpp | exact ps_24 hpp) ⟨by omega, by omega⟩ ?_ | refine by_tald rfl rfl ⟨by omega, by omega⟩ ?_
        refine by_i2l ?_
        refine by_ladd ?_
        simp (disch := first | exact Nat.ne_of_beq_eq_false rfl | exact rfl | omega) only [nI_add, xa_sub, xa_mul, pk_div, nm_mod, xa_shr, xa_and7, xa_and1, xa_and255, xa_by_and, nI_m1, Nat.add_sub_cancel, Nat.reducePow, Nat.zero_add, Nat.add_zero, Nat.reduceAdd, Nat.reduceMul, Nat.reduceSub, xf_same, xq_ff, xq_fo, xf_1, xf_2, xs_1, xs_2, xs_same, xq_so, xj_1, xj_2, xj_same, xq_jo, xq_sa1, xq_same, xq_other, upd_s, oI_n, oI_s, xv_0, xv_1, xv_2, xv_3, xm_p1, xm_p2, xq_fp, xq_fn, List.filter_nil, Nat.reduceBEq, Bool.not_true, Bool.not_false, Bool.and_true, Bool.and_false, Bool.false_and, Bool.true_and, if_true, if_false, Bool.false_eq_true, reduceIte, xc_i, xc_j, xc_r, xc_n, List.nil_append, List.cons_append, Option.toList_some, Option.toList_none, pf_2 hF hpp, pf_3 hF hpp, pf_8 hF hpp, pf_9 hF hpp, pf_10 hF hpp, r2, r3, v1, v2, v3, upd_o n1, i2l_n (show G s < 2147483648 by omega), lN_pl]
        refine by_ins1 cn_107 lk_6_82 (by rw [xe_cnt]; decide) is_104 np_104 (Nat.le_of_ble_eq_true rfl) ?_
        refine sp_capped (by omega) ?_
        with_reducible refine xm_go_blk b_X6_findBounds_100 k_X6_findBounds_100 ?_
        refine by_iast (by first | exact rfl | assumption | exact ps_1 hpp | exact ps_2 hpp | exact ps_3 hpp | exact ps_4 hpp | exact ps_5 hpp | exact ps_6 hpp | exact ps_7 hpp | exact ps_8 hpp | exact ps_9 hpp | exact ps_10 hpp | exact ps_11 hpp | exact ps_15 hpp | exact ps_16 hpp | exact ps_17 hpp | exact ps_18 hpp | exact ps_19 hpp | exact ps_21 hpp | exact ps_22 hpp | exact ps_23 hpp | exact ps_24 hpp) ⟨by omega, by omega⟩ ?_
        refine by_nil ?_
        with_reducible refine xm_go_blk b_X6_findBounds_101 k_X6_findBounds_101 ?_
        refine by_iload_n rfl ?_
        refine by_if_lt 112 rfl ?_
        simp (disch := first | exact Nat.ne_of_beq_eq_false rfl | exact rfl | omega) only [nI_add, xa_sub, xa_mul, pk_div, nm_mod, xa_shr, xa_and7, xa_and1, xa_and255, xa_by_and, nI_m1, Nat.add_sub_cancel, Nat.reducePow, Nat.zero_add, Nat.add_zero, Nat.reduceAdd, Nat.reduceMul, Nat.reduceSub, xf_same, xq_ff, xq_fo, xf_1, xf_2, xs_1, xs_2, xs_same, xq_so, xj_1, xj_2, xj_same, xq_jo, xq_sa1, xq_same, xq_other, upd_s, oI_n, oI_s, xv_0, xv_1, xv_2, xv_3, xm_p1, xm_p2, xq_fp, xq_fn, List.filter_nil, Nat.reduceBEq, Bool.not_true, Bool.not_false, Bool.and_true, Bool.and_false, Bool.false_and, Bool.true_and, if_true, if_false, Bool.false_eq_true, reduceIte, xc_i, xc_j, xc_r, xc_n, List.nil_append, List.cons_append, Option.toList_some, Option.toList_none, nI_ltJ, nI_leJ, nI_eqJ, nI_ltz, nI_gez, nI_gtz, nI_lez, nI_eqz, m1_ltz, m1_gez, true_imp_iff, false_imp_iff, true_and, and_true, ne_eq, not_false_eq_true, not_true_eq_false, Nat.reduceEqDiff, Nat.reduceLT, Nat.reduceLeDiff, m1_ltz]
        exact xm_go_wk (by simp [Value.category]) hg
      | some t =>
        have n2 : pC ps n ≤ 2 := o3.mpr (by rw [e2]; rfl)
        have htn : t < n := o5 t e2
        obtain ⟨w1, w2, w3⟩ := hV t htn
        obtain ⟨u1, u2, u3⟩ := bnd_le hb htn
        rw [e2] at r3
        have r3 : h.1 (pp + 3) n = nI t := r3
        have n3 : t ≠ n := by omega
        rw [e1, e2] at hgo
        with_reducible refine xm_go_blk b_X6_findBounds_40 k_X6_findBounds_40 ?_
        refine by_iast (by first | exact rfl | assumption | exact ps_1 hpp | exact ps_2 hpp | exact ps_3 hpp | exact ps_4 hpp | exact ps_5 hpp | exact ps_6 hpp | exact ps_7 hpp | exact ps_8 hpp | exact ps_9 hpp | exact ps_10 hpp | exact ps_11 hpp | exact ps_15 hpp | exact ps_16 hpp | exact ps_17 hpp | exact ps_18 hpp | exact ps_19 hpp | exact ps_21 hpp | exact ps_22 hpp | exact ps_23 hpp | exact ps_24 hpp) ⟨by omega, by omega⟩ ?_
        refine by_aload_n rfl ?_
        refine by_getf cn_107 fl_6_15 (by first | exact rfl | assumption | exact ps_0 hpp) (by decide) ?_
        refine by_iload_n rfl ?_
        simp (disch := first | exact Nat.ne_of_beq_eq_false rfl | exact rfl | omega) only [nI_add, xa_sub, xa_mul, pk_div, nm_mod, xa_shr, xa_and7, xa_and1, xa_and255, xa_by_and, nI_m1, Nat.add_sub_cancel, Nat.reducePow, Nat.zero_add, Nat.add_zero, Nat.reduceAdd, Nat.reduceMul, Nat.reduceSub, xf_same, xq_ff, xq_fo, xf_1, xf_2, xs_1, xs_2, xs_same, xq_so, xj_1, xj_2, xj_same, xq_jo, xq_sa1, xq_same, xq_other, upd_s, oI_n, oI_s, pf_2 hF hpp, pf_3 hF hpp, pf_8 hF hpp, pf_9 hF hpp, pf_10 hF hpp, r2, r3, v1, v2, v3, upd_o n1, i2l_n (show G s < 2147483648 by omega), lN_pl]
        first | refine by_iald (by first | exact rfl | assumption | exact ps_1 hpp | exact ps_2 hpp | exact ps_3 hpp | exact ps_4 hpp | exact ps_5 hpp | exact ps_6 hpp | exact ps_7 hpp | exact ps_8 hpp | exact ps_9 hpp | exact ps_10 hpp | exact ps_11 hpp | exact ps_15 hpp | exact ps_16 hpp | exact ps_17 hpp | exact ps_18 hpp | exact ps_19 hpp | exact ps_21 hpp | exact ps_22 hpp | exact ps_23 hpp | exact ps_24 hpp) ⟨by omega, by omega⟩ ?_ | refine by_tald rfl rfl ⟨by omega, by omega⟩ ?_
        refine by_istore_n (by rw [ml_107]; decide) ?_
        refine by_aload_n rfl ?_
        refine by_getf cn_107 fl_6_18 (by first | exact rfl | assumption | exact ps_0 hpp) (by decide) ?_
        refine by_iload_n rfl ?_
        simp (disch := first | exact Nat.ne_of_beq_eq_false rfl | exact rfl | omega) only [nI_add, xa_sub, xa_mul, pk_div, nm_mod, xa_shr, xa_and7, xa_and1, xa_and255, xa_by_and, nI_m1, Nat.add_sub_cancel, Nat.reducePow, Nat.zero_add, Nat.add_zero, Nat.reduceAdd, Nat.reduceMul, Nat.reduceSub, xf_same, xq_ff, xq_fo, xf_1, xf_2, xs_1, xs_2, xs_same, xq_so, xj_1, xj_2, xj_same, xq_jo, xq_sa1, xq_same, xq_other, upd_s, oI_n, oI_s, pf_2 hF hpp, pf_3 hF hpp, pf_8 hF hpp, pf_9 hF hpp, pf_10 hF hpp, r2, r3, v1, v2, v3, upd_o n1, i2l_n (show G s < 2147483648 by omega), lN_pl]
        first | refine by_iald (by first | exact rfl | assumption | exact ps_1 hpp | exact ps_2 hpp | exact ps_3 hpp | exact ps_4 hpp | exact ps_5 hpp | exact ps_6 hpp | exact ps_7 hpp | exact ps_8 hpp | exact ps_9 hpp | exact ps_10 hpp | exact ps_11 hpp | exact ps_15 hpp | exact ps_16 hpp | exact ps_17 hpp | exact ps_18 hpp | exact ps_19 hpp | exact ps_21 hpp | exact ps_22 hpp | exact ps_23 hpp | exact ps_24 hpp) ⟨by omega, by omega⟩ ?_ | refine by_tald rfl rfl ⟨by omega, by omega⟩ ?_
        refine by_istore_n (by rw [ml_107]; decide) ?_
        refine by_iload_n rfl ?_
        refine by_if_lt 101 rfl ?_
        simp (disch := first | exact Nat.ne_of_beq_eq_false rfl | exact rfl | omega) only [nI_add, xa_sub, xa_mul, pk_div, nm_mod, xa_shr, xa_and7, xa_and1, xa_and255, xa_by_and, nI_m1, Nat.add_sub_cancel, Nat.reducePow, Nat.zero_add, Nat.add_zero, Nat.reduceAdd, Nat.reduceMul, Nat.reduceSub, xf_same, xq_ff, xq_fo, xf_1, xf_2, xs_1, xs_2, xs_same, xq_so, xj_1, xj_2, xj_same, xq_jo, xq_sa1, xq_same, xq_other, upd_s, oI_n, oI_s, xv_0, xv_1, xv_2, xv_3, xm_p1, xm_p2, xq_fp, xq_fn, List.filter_nil, Nat.reduceBEq, Bool.not_true, Bool.not_false, Bool.and_true, Bool.and_false, Bool.false_and, Bool.true_and, if_true, if_false, Bool.false_eq_true, reduceIte, xc_i, xc_j, xc_r, xc_n, List.nil_append, List.cons_append, Option.toList_some, Option.toList_none, nI_ltJ, nI_leJ, nI_eqJ, nI_ltz, nI_gez, nI_gtz, nI_lez, nI_eqz, m1_ltz, m1_gez, true_imp_iff, false_imp_iff, true_and, and_true, ne_eq, not_false_eq_true, not_true_eq_false, Nat.reduceEqDiff, Nat.reduceLT, Nat.reduceLeDiff, pf_2 hF hpp, pf_3 hF hpp, pf_8 hF hpp, pf_9 hF hpp, pf_10 hF hpp, r2, r3, v1, v2, v3, upd_o n1, i2l_n (show G s < 2147483648 by omega), lN_pl]
        with_reducible refine xm_go_blk b_X6_findBounds_59 k_X6_findBounds_59 ?_
        refine by_aload_n rfl ?_
        refine by_getf cn_107 fl_6_33 (by first | exact rfl | assumption | exact ps_0 hpp) (by decide) ?_
        refine by_iload_n rfl ?_
        refine by_aload_n rfl ?_
        refine by_getf cn_107 fl_6_33 (by first | exact rfl | assumption | exact ps_0 hpp) (by decide) ?_
        refine by_iload_n rfl ?_
        simp (disch := first | exact Nat.ne_of_beq_eq_false rfl | exact rfl | omega) only [nI_add, xa_sub, xa_mul, pk_div, nm_mod, xa_shr, xa_and7, xa_and1, xa_and255, xa_by_and, nI_m1, Nat.add_sub_cancel, Nat.reducePow, Nat.zero_add, Nat.add_zero, Nat.reduceAdd, Nat.reduceMul, Nat.reduceSub, xf_same, xq_ff, xq_fo, xf_1, xf_2, xs_1, xs_2, xs_same, xq_so, xj_1, xj_2, xj_same, xq_jo, xq_sa1, xq_same, xq_other, upd_s, oI_n, oI_s, pf_2 hF hpp, pf_3 hF hpp, pf_8 hF hpp, pf_9 hF hpp, pf_10 hF hpp, r2, r3, v1, v2, v3, upd_o n1, i2l_n (show G s < 2147483648 by omega), lN_pl]
        first | refine by_iald (by first | exact rfl | assumption | exact ps_1 hpp | exact ps_2 hpp | exact ps_3 hpp | exact ps_4 hpp | exact ps_5 hpp | exact ps_6 hpp | exact ps_7 hpp | exact ps_8 hpp | exact ps_9 hpp | exact ps_10 hpp | exact ps_11 hpp | exact ps_15 hpp | exact ps_16 hpp | exact ps_17 hpp | exact ps_18 hpp | exact ps_19 hpp | exact ps_21 hpp | exact ps_22 hpp | exact ps_23 hpp | exact ps_24 hpp) ⟨by omega, by omega⟩ ?_ | refine by_tald rfl rfl ⟨by omega, by omega⟩ ?_
        refine by_iast (by first | exact rfl | assumption | exact ps_1 hpp | exact ps_2 hpp | exact ps_3 hpp | exact ps_4 hpp | exact ps_5 hpp | exact ps_6 hpp | exact ps_7 hpp | exact ps_8 hpp | exact ps_9 hpp | exact ps_10 hpp | exact ps_11 hpp | exact ps_15 hpp | exact ps_16 hpp | exact ps_17 hpp | exact ps_18 hpp | exact ps_19 hpp | exact ps_21 hpp | exact ps_22 hpp | exact ps_23 hpp | exact ps_24 hpp) ⟨by omega, by omega⟩ ?_
        refine by_aload_n rfl ?_
        refine by_getf cn_107 fl_6_36 (by first | exact rfl | assumption | exact ps_0 hpp) (by decide) ?_
        refine by_iload_n rfl ?_
        refine by_aload_n rfl ?_
        refine by_getf cn_107 fl_6_36 (by first | exact rfl | assumption | exact ps_0 hpp) (by decide) ?_
        refine by_iload_n rfl ?_
        simp (disch := first | exact Nat.ne_of_beq_eq_false rfl | exact rfl | omega) only [nI_add, xa_sub, xa_mul, pk_div, nm_mod, xa_shr, xa_and7, xa_and1, xa_and255, xa_by_and, nI_m1, Nat.add_sub_cancel, Nat.reducePow, Nat.zero_add, Nat.add_zero, Nat.reduceAdd, Nat.reduceMul, Nat.reduceSub, xf_same, xq_ff, xq_fo, xf_1, xf_2, xs_1, xs_2, xs_same, xq_so, xj_1, xj_2, xj_same, xq_jo, xq_sa1, xq_same, xq_other, upd_s, oI_n, oI_s, pf_2 hF hpp, pf_3 hF hpp, pf_8 hF hpp, pf_9 hF hpp, pf_10 hF hpp, r2, r3, v1, v2, v3, upd_o n1, i2l_n (show G s < 2147483648 by omega), lN_pl]
        first | refine by_iald (by first | exact rfl | assumption | exact ps_1 hpp | exact ps_2 hpp | exact ps_3 hpp | exact ps_4 hpp | exact ps_5 hpp | exact ps_6 hpp | exact ps_7 hpp | exact ps_8 hpp | exact ps_9 hpp | exact ps_10 hpp | exact ps_11 hpp | exact ps_15 hpp | exact ps_16 hpp | exact ps_17 hpp | exact ps_18 hpp | exact ps_19 hpp | exact ps_21 hpp | exact ps_22 hpp | exact ps_23 hpp | exact ps_24 hpp) ⟨by omega, by omega⟩ ?_ | refine by_tald rfl rfl ⟨by omega, by omega⟩ ?_
        refine by_iast (by first | exact rfl | assumption | exact ps_1 hpp | exact ps_2 hpp | exact ps_3 hpp | exact ps_4 hpp | exact ps_5 hpp | exact ps_6 hpp | exact ps_7 hpp | exact ps_8 hpp | exact ps_9 hpp | exact ps_10 hpp | exact ps_11 hpp | exact ps_15 hpp | exact ps_16 hpp | exact ps_17 hpp | exact ps_18 hpp | exact ps_19 hpp | exact ps_21 hpp | exact ps_22 hpp | exact ps_23 hpp | exact ps_24 hpp) ⟨by omega, by omega⟩ ?_
        refine by_aload_n rfl ?_
        refine by_getf cn_107 fl_6_39 (by first | exact rfl | assumption | exact ps_0 hpp) (by decide) ?_
        refine by_iload_n rfl ?_
        refine by_lconst cl_1 ?_
        refine by_aload_n rfl ?_
        refine by_getf cn_107 fl_6_39 (by first | exact rfl | assumption | exact ps_0 hpp) (by decide) ?_
        refine by_iload_n rfl ?_
        simp (disch := first | exact Nat.ne_of_beq_eq_false rfl | exact rfl | omega) only [nI_add, xa_sub, xa_mul, pk_div, nm_mod, xa_shr, xa_and7, xa_and1, xa_and255, xa_by_and, nI_m1, Nat.add_sub_cancel, Nat.reducePow, Nat.zero_add, Nat.add_zero, Nat.reduceAdd, Nat.reduceMul, Nat.reduceSub, xf_same, xq_ff, xq_fo, xf_1, xf_2, xs_1, xs_2, xs_same, xq_so, xj_1, xj_2, xj_same, xq_jo, xq_sa1, xq_same, xq_other, upd_s, oI_n, oI_s, pf_2 hF hpp, pf_3 hF hpp, pf_8 hF hpp, pf_9 hF hpp, pf_10 hF hpp, r2, r3, v1, v2, v3, upd_o n1, i2l_n (show G s < 2147483648 by omega), lN_pl]
        first | refine by_iald (by first | exact rfl | assumption | exact ps_1 hpp | exact ps_2 hpp | exact ps_3 hpp | exact ps_4 hpp | exact ps_5 hpp | exact ps_6 hpp | exact ps_7 hpp | exact ps_8 hpp | exact ps_9 hpp | exact ps_10 hpp | exact ps_11 hpp | exact ps_15 hpp | exact ps_16 hpp | exact ps_17 hpp | exact ps_18 hpp | exact ps_19 hpp | exact ps_21 hpp | exact ps_22 hpp | exact ps_23 hpp | exact ps_24 hpp) ⟨by omega, by omega⟩ ?_ | refine by_tald rfl rfl ⟨by omega, by omega⟩ ?_
        refine by_i2l ?_
        refine by_ladd ?_
        simp (disch := first | exact Nat.ne_of_beq_eq_false rfl | exact rfl | omega) only [nI_add, xa_sub, xa_mul, pk_div, nm_mod, xa_shr, xa_and7, xa_and1, xa_and255, xa_by_and, nI_m1, Nat.add_sub_cancel, Nat.reducePow, Nat.zero_add, Nat.add_zero, Nat.reduceAdd, Nat.reduceMul, Nat.reduceSub, xf_same, xq_ff, xq_fo, xf_1, xf_2, xs_1, xs_2, xs_same, xq_so, xj_1, xj_2, xj_same, xq_jo, xq_sa1, xq_same, xq_other, upd_s, oI_n, oI_s, xv_0, xv_1, xv_2, xv_3, xm_p1, xm_p2, xq_fp, xq_fn, List.filter_nil, Nat.reduceBEq, Bool.not_true, Bool.not_false, Bool.and_true, Bool.and_false, Bool.false_and, Bool.true_and, if_true, if_false, Bool.false_eq_true, reduceIte, xc_i, xc_j, xc_r, xc_n, List.nil_append, List.cons_append, Option.toList_some, Option.toList_none, pf_2 hF hpp, pf_3 hF hpp, pf_8 hF hpp, pf_9 hF hpp, pf_10 hF hpp, r2, r3, v1, v2, v3, upd_o n1, i2l_n (show G s < 2147483648 by omega), lN_pl]
        refine by_ins1 cn_107 lk_6_82 (by rw [xe_cnt]; decide) is_104 np_104 (Nat.le_of_ble_eq_true rfl) ?_
        refine sp_capped (by omega) ?_
        with_reducible refine xm_go_blk b_X6_findBounds_100 k_X6_findBounds_100 ?_
        refine by_iast (by first | exact rfl | assumption | exact ps_1 hpp | exact ps_2 hpp | exact ps_3 hpp | exact ps_4 hpp | exact ps_5 hpp | exact ps_6 hpp | exact ps_7 hpp | exact ps_8 hpp | exact ps_9 hpp | exact ps_10 hpp | exact ps_11 hpp | exact ps_15 hpp | exact ps_16 hpp | exact ps_17 hpp | exact ps_18 hpp | exact ps_19 hpp | exact ps_21 hpp | exact ps_22 hpp | exact ps_23 hpp | exact ps_24 hpp) ⟨by omega, by omega⟩ ?_
        refine by_nil ?_
        with_reducible refine xm_go_blk b_X6_findBounds_101 k_X6_findBounds_101 ?_
        refine by_iload_n rfl ?_
        refine by_if_lt 112 rfl ?_
        simp (disch := first | exact Nat.ne_of_beq_eq_false rfl | exact rfl | omega) only [nI_add, xa_sub, xa_mul, pk_div, nm_mod, xa_shr, xa_and7, xa_and1, xa_and255, xa_by_and, nI_m1, Nat.add_sub_cancel, Nat.reducePow, Nat.zero_add, Nat.add_zero, Nat.reduceAdd, Nat.reduceMul, Nat.reduceSub, xf_same, xq_ff, xq_fo, xf_1, xf_2, xs_1, xs_2, xs_same, xq_so, xj_1, xj_2, xj_same, xq_jo, xq_sa1, xq_same, xq_other, upd_s, oI_n, oI_s, xv_0, xv_1, xv_2, xv_3, xm_p1, xm_p2, xq_fp, xq_fn, List.filter_nil, Nat.reduceBEq, Bool.not_true, Bool.not_false, Bool.and_true, Bool.and_false, Bool.false_and, Bool.true_and, if_true, if_false, Bool.false_eq_true, reduceIte, xc_i, xc_j, xc_r, xc_n, List.nil_append, List.cons_append, Option.toList_some, Option.toList_none, nI_ltJ, nI_leJ, nI_eqJ, nI_ltz, nI_gez, nI_gtz, nI_lez, nI_eqz, m1_ltz, m1_gez, true_imp_iff, false_imp_iff, true_and, and_true, ne_eq, not_false_eq_true, not_true_eq_false, Nat.reduceEqDiff, Nat.reduceLT, Nat.reduceLeDiff]
        with_reducible refine xm_go_blk b_X6_findBounds_105 k_X6_findBounds_105 ?_
        refine by_aload_n rfl ?_
        refine by_iload_n rfl ?_
        refine by_iload_n rfl ?_
        refine by_iload_n rfl ?_
        refine by_inv3 cn_107 lk_6_94 (by rw [xe_cnt]; decide) is_108 np_108 cn_108 (by first | exact rfl | assumption | exact ps_0 hpp) (Nat.le_of_ble_eq_true rfl) ?_
        have O5 := O4 (min 2147483647 (1 + G s))
        refine sp_joinB (fb_XF hF O5) hpp (bdP_O hpp hB O5) hn hsn htn e1 (by rw [O5.2 _ _ n1]; exact v1) (by rw [O5.2 _ _ n3]; exact w1) (by rw [O5.2 _ _ n1]; exact v2) (by rw [O5.2 _ _ n3]; exact w2) (by rw [O5.2 _ _ n1]; exact v3) (by rw [O5.2 _ _ n3]; exact w3) l1 u1 l2 u2 l3 u3 (fun h6 O6 z1 z2 z3 => ?_)
        refine xm_go_wk (by simp [Value.category]) (hgo h6 _ _ _ (fbO_tr O5 O6) z1 z2 z3 ?_ ?_ ?_)
        · simp only [gO]
          split <;> omega
        · simp only [gO]
          split <;> omega
        · rw [if_neg (show ¬ pC ps n = 11 by omega), hown]
          simp only [gO, Nat.add_zero]
  with_reducible refine xm_go_blk b_X6_findBounds_2 k_X6_findBounds_2 ?_
  refine by_iload_n rfl ?_
  refine by_aload_n rfl ?_
  refine by_getf cn_107 fl_6_59 (by first | exact rfl | assumption | exact ps_0 hpp) (by decide) ?_
  simp (disch := first | exact Nat.ne_of_beq_eq_false rfl | exact rfl | omega) only [nI_add, xa_sub, xa_mul, pk_div, nm_mod, xa_shr, xa_and7, xa_and1, xa_and255, xa_by_and, nI_m1, Nat.add_sub_cancel, Nat.reducePow, Nat.zero_add, Nat.add_zero, Nat.reduceAdd, Nat.reduceMul, Nat.reduceSub, xf_same, xq_ff, xq_fo, xf_1, xf_2, xs_1, xs_2, xs_same, xq_so, xj_1, xj_2, xj_same, xq_jo, xq_sa1, xq_same, xq_other, upd_s, oI_n, oI_s, b3, pf_8 hF hpp, pf_9 hF hpp, pf_10 hF hpp]
  refine by_ic_ge 118 rfl ?_
  simp (disch := first | exact Nat.ne_of_beq_eq_false rfl | exact rfl | omega) only [nI_add, xa_sub, xa_mul, pk_div, nm_mod, xa_shr, xa_and7, xa_and1, xa_and255, xa_by_and, nI_m1, Nat.add_sub_cancel, Nat.reducePow, Nat.zero_add, Nat.add_zero, Nat.reduceAdd, Nat.reduceMul, Nat.reduceSub, xf_same, xq_ff, xq_fo, xf_1, xf_2, xs_1, xs_2, xs_same, xq_so, xj_1, xj_2, xj_same, xq_jo, xq_sa1, xq_same, xq_other, upd_s, oI_n, oI_s, xv_0, xv_1, xv_2, xv_3, xm_p1, xm_p2, xq_fp, xq_fn, List.filter_nil, Nat.reduceBEq, Bool.not_true, Bool.not_false, Bool.and_true, Bool.and_false, Bool.false_and, Bool.true_and, if_true, if_false, Bool.false_eq_true, reduceIte, xc_i, xc_j, xc_r, xc_n, List.nil_append, List.cons_append, Option.toList_some, Option.toList_none, nI_ltJ, nI_leJ, nI_eqJ, nI_ltz, nI_gez, nI_gtz, nI_lez, nI_eqz, m1_ltz, m1_gez, true_imp_iff, false_imp_iff, true_and, and_true, ne_eq, not_false_eq_true, not_true_eq_false, Nat.reduceEqDiff, Nat.reduceLT, Nat.reduceLeDiff, b3, pf_8 hF hpp, pf_9 hF hpp, pf_10 hF hpp]
  refine ⟨fun c => absurd c (by omega), fun c2 => ?_⟩
  with_reducible refine xm_go_blk b_X6_findBounds_10 k_X6_findBounds_10 ?_
  refine by_aload_n rfl ?_
  refine by_getf cn_107 fl_6_33 (by first | exact rfl | assumption | exact ps_0 hpp) (by decide) ?_
  refine by_iload_n rfl ?_
  refine by_iconst ci_0 ?_
  simp (disch := first | exact Nat.ne_of_beq_eq_false rfl | exact rfl | omega) only [nI_add, xa_sub, xa_mul, pk_div, nm_mod, xa_shr, xa_and7, xa_and1, xa_and255, xa_by_and, nI_m1, Nat.add_sub_cancel, Nat.reducePow, Nat.zero_add, Nat.add_zero, Nat.reduceAdd, Nat.reduceMul, Nat.reduceSub, xf_same, xq_ff, xq_fo, xf_1, xf_2, xs_1, xs_2, xs_same, xq_so, xj_1, xj_2, xj_same, xq_jo, xq_sa1, xq_same, xq_other, upd_s, oI_n, oI_s, b3, pf_8 hF hpp, pf_9 hF hpp, pf_10 hF hpp]
  refine by_iast (by first | exact rfl | assumption | exact ps_1 hpp | exact ps_2 hpp | exact ps_3 hpp | exact ps_4 hpp | exact ps_5 hpp | exact ps_6 hpp | exact ps_7 hpp | exact ps_8 hpp | exact ps_9 hpp | exact ps_10 hpp | exact ps_11 hpp | exact ps_15 hpp | exact ps_16 hpp | exact ps_17 hpp | exact ps_18 hpp | exact ps_19 hpp | exact ps_21 hpp | exact ps_22 hpp | exact ps_23 hpp | exact ps_24 hpp) ⟨by omega, by omega⟩ ?_
  refine by_aload_n rfl ?_
  refine by_getf cn_107 fl_6_36 (by first | exact rfl | assumption | exact ps_0 hpp) (by decide) ?_
  refine by_iload_n rfl ?_
  refine by_iconst ci_0 ?_
  simp (disch := first | exact Nat.ne_of_beq_eq_false rfl | exact rfl | omega) only [nI_add, xa_sub, xa_mul, pk_div, nm_mod, xa_shr, xa_and7, xa_and1, xa_and255, xa_by_and, nI_m1, Nat.add_sub_cancel, Nat.reducePow, Nat.zero_add, Nat.add_zero, Nat.reduceAdd, Nat.reduceMul, Nat.reduceSub, xf_same, xq_ff, xq_fo, xf_1, xf_2, xs_1, xs_2, xs_same, xq_so, xj_1, xj_2, xj_same, xq_jo, xq_sa1, xq_same, xq_other, upd_s, oI_n, oI_s, b3, pf_8 hF hpp, pf_9 hF hpp, pf_10 hF hpp]
  refine by_iast (by first | exact rfl | assumption | exact ps_1 hpp | exact ps_2 hpp | exact ps_3 hpp | exact ps_4 hpp | exact ps_5 hpp | exact ps_6 hpp | exact ps_7 hpp | exact ps_8 hpp | exact ps_9 hpp | exact ps_10 hpp | exact ps_11 hpp | exact ps_15 hpp | exact ps_16 hpp | exact ps_17 hpp | exact ps_18 hpp | exact ps_19 hpp | exact ps_21 hpp | exact ps_22 hpp | exact ps_23 hpp | exact ps_24 hpp) ⟨by omega, by omega⟩ ?_
  refine by_aload_n rfl ?_
  refine by_getf cn_107 fl_6_39 (by first | exact rfl | assumption | exact ps_0 hpp) (by decide) ?_
  refine by_iload_n rfl ?_
  refine by_lconst cl_1 ?_
  refine by_aload_n rfl ?_
  refine by_iload_n rfl ?_
  simp (disch := first | exact Nat.ne_of_beq_eq_false rfl | exact rfl | omega) only [nI_add, xa_sub, xa_mul, pk_div, nm_mod, xa_shr, xa_and7, xa_and1, xa_and255, xa_by_and, nI_m1, Nat.add_sub_cancel, Nat.reducePow, Nat.zero_add, Nat.add_zero, Nat.reduceAdd, Nat.reduceMul, Nat.reduceSub, xf_same, xq_ff, xq_fo, xf_1, xf_2, xs_1, xs_2, xs_same, xq_so, xj_1, xj_2, xj_same, xq_jo, xq_sa1, xq_same, xq_other, upd_s, oI_n, oI_s, xv_0, xv_1, xv_2, xv_3, xm_p1, xm_p2, xq_fp, xq_fn, List.filter_nil, Nat.reduceBEq, Bool.not_true, Bool.not_false, Bool.and_true, Bool.and_false, Bool.false_and, Bool.true_and, if_true, if_false, Bool.false_eq_true, reduceIte, xc_i, xc_j, xc_r, xc_n, List.nil_append, List.cons_append, Option.toList_some, Option.toList_none, b3, pf_8 hF hpp, pf_9 hF hpp, pf_10 hF hpp]
  refine by_inv1 cn_107 lk_6_91 (by rw [xe_cnt]; decide) is_109 np_109 cn_109 (by first | exact rfl | assumption | exact ps_0 hpp) (Nat.le_of_ble_eq_true rfl) ?_
  refine sp_ownSteps F2 hpp hB2 hn (fun hv => ?_) (fun hv => ?_)
  · have hw' : ownS ps S T n ≤ 4096 := by
      rcases hw with z | z
      · exact z
      · exact absurd z hv
    with_reducible refine xm_go_blk b_X6_findBounds_35 k_X6_findBounds_35 ?_
    refine by_i2l ?_
    refine by_ladd ?_
    simp (disch := first | exact Nat.ne_of_beq_eq_false rfl | exact rfl | omega) only [nI_add, xa_sub, xa_mul, pk_div, nm_mod, xa_shr, xa_and7, xa_and1, xa_and255, xa_by_and, nI_m1, Nat.add_sub_cancel, Nat.reducePow, Nat.zero_add, Nat.add_zero, Nat.reduceAdd, Nat.reduceMul, Nat.reduceSub, xf_same, xq_ff, xq_fo, xf_1, xf_2, xs_1, xs_2, xs_same, xq_so, xj_1, xj_2, xj_same, xq_jo, xq_sa1, xq_same, xq_other, upd_s, oI_n, oI_s, xv_0, xv_1, xv_2, xv_3, xm_p1, xm_p2, xq_fp, xq_fn, List.filter_nil, Nat.reduceBEq, Bool.not_true, Bool.not_false, Bool.and_true, Bool.and_false, Bool.false_and, Bool.true_and, if_true, if_false, Bool.false_eq_true, reduceIte, xc_i, xc_j, xc_r, xc_n, List.nil_append, List.cons_append, Option.toList_some, Option.toList_none, i2l_n (show ownS ps S T n < 2147483648 by omega), lN_pl]
    refine by_ins1 cn_107 lk_6_82 (by rw [xe_cnt]; decide) is_104 np_104 (Nat.le_of_ble_eq_true rfl) ?_
    refine sp_capped (by omega) ?_
    exact xm_go_wk (by simp [Value.category]) (cont _ (fun z => absurd z hv) (fun _ => rfl))
  · with_reducible refine xm_go_blk b_X6_findBounds_35 k_X6_findBounds_35 ?_
    refine by_i2l ?_
    refine by_ladd ?_
    simp (disch := first | exact Nat.ne_of_beq_eq_false rfl | exact rfl | omega) only [nI_add, xa_sub, xa_mul, pk_div, nm_mod, xa_shr, xa_and7, xa_and1, xa_and255, xa_by_and, nI_m1, Nat.add_sub_cancel, Nat.reducePow, Nat.zero_add, Nat.add_zero, Nat.reduceAdd, Nat.reduceMul, Nat.reduceSub, xf_same, xq_ff, xq_fo, xf_1, xf_2, xs_1, xs_2, xs_same, xq_so, xj_1, xj_2, xj_same, xq_jo, xq_sa1, xq_same, xq_other, upd_s, oI_n, oI_s, xv_0, xv_1, xv_2, xv_3, xm_p1, xm_p2, xq_fp, xq_fn, List.filter_nil, Nat.reduceBEq, Bool.not_true, Bool.not_false, Bool.and_true, Bool.and_false, Bool.false_and, Bool.true_and, if_true, if_false, Bool.false_eq_true, reduceIte, xc_i, xc_j, xc_r, xc_n, List.nil_append, List.cons_append, Option.toList_some, Option.toList_none, hid_1]
    refine by_ins1 cn_107 lk_6_82 (by rw [xe_cnt]; decide) is_104 np_104 (Nat.le_of_ble_eq_true rfl) ?_
    refine sp_capped (by decide) ?_
    exact xm_go_wk (by simp [Value.category]) (cont _ (fun _ => rfl) (fun z => absurd hv z))
theorem sp_findBounds (hF : XF h) (hpp : pp = 52 ∨ pp = 77) (hB : bdP h pp ps S T cn tr K Lf R)
    (hp : ∀ h' C F G, Fr [pp + 8, pp + 9, pp + 10] [] h h' → bnd ps S T C F G ps.length → fbV h' pp ps.length C F G → post none h') : xm_T (XE sc) (d + 3) 107 [.ref pp] h post := by
  have key : ∀ (j n : Nat) (h' : xm_H) (C F G : Nat → Nat), n + j = ps.length → Fr [pp + 8, pp + 9, pp + 10] [] h h' → bnd ps S T C F G n → fbV h' pp n C F G → xm_go (XE sc) (xm_T (XE sc) (d + 2)) 107 post 2 [(1, .int (nI n)), (0, .ref pp)] [] h' := by
    intro j
    induction j with
    | zero =>
      intro n h' C F G hj hf hb hV
      have : n = ps.length := by omega
      subst this
      have e0 : h'.2.2 pp 0 = .int (nI ps.length) := by rw [hf.2.2 _ _ (by simp)]; exact hB.2.2.1
      have := hB.2.1
      with_reducible refine xm_go_blk b_X6_findBounds_2 k_X6_findBounds_2 ?_
      refine by_iload_n rfl ?_
      refine by_aload_n rfl ?_
      refine by_getf cn_107 fl_6_59 (by first | exact rfl | assumption | exact ps_0 hpp) (by decide) ?_
      simp (disch := first | exact Nat.ne_of_beq_eq_false rfl | exact rfl | omega) only [nI_add, xa_sub, xa_mul, pk_div, nm_mod, xa_shr, xa_and7, xa_and1, xa_and255, xa_by_and, nI_m1, Nat.add_sub_cancel, Nat.reducePow, Nat.zero_add, Nat.add_zero, Nat.reduceAdd, Nat.reduceMul, Nat.reduceSub, xf_same, xq_ff, xq_fo, xf_1, xf_2, xs_1, xs_2, xs_same, xq_so, xj_1, xj_2, xj_same, xq_jo, xq_sa1, xq_same, xq_other, upd_s, oI_n, oI_s, e0]
      refine by_ic_ge 118 rfl ?_
      simp (disch := first | exact Nat.ne_of_beq_eq_false rfl | exact rfl | omega) only [nI_add, xa_sub, xa_mul, pk_div, nm_mod, xa_shr, xa_and7, xa_and1, xa_and255, xa_by_and, nI_m1, Nat.add_sub_cancel, Nat.reducePow, Nat.zero_add, Nat.add_zero, Nat.reduceAdd, Nat.reduceMul, Nat.reduceSub, xf_same, xq_ff, xq_fo, xf_1, xf_2, xs_1, xs_2, xs_same, xq_so, xj_1, xj_2, xj_same, xq_jo, xq_sa1, xq_same, xq_other, upd_s, oI_n, oI_s, xv_0, xv_1, xv_2, xv_3, xm_p1, xm_p2, xq_fp, xq_fn, List.filter_nil, Nat.reduceBEq, Bool.not_true, Bool.not_false, Bool.and_true, Bool.and_false, Bool.false_and, Bool.true_and, if_true, if_false, Bool.false_eq_true, reduceIte, xc_i, xc_j, xc_r, xc_n, List.nil_append, List.cons_append, Option.toList_some, Option.toList_none, nI_ltJ, nI_leJ, nI_eqJ, nI_ltz, nI_gez, nI_gtz, nI_lez, nI_eqz, m1_ltz, m1_gez, true_imp_iff, false_imp_iff, true_and, and_true, ne_eq, not_false_eq_true, not_true_eq_false, Nat.reduceEqDiff, Nat.reduceLT, Nat.reduceLeDiff, e0]
      refine ⟨fun c2 => ?_, fun c => absurd (by omega) c⟩
      with_reducible refine xm_go_blk b_X6_findBounds_118 k_X6_findBounds_118 ?_
      refine by_ret ry_107 ?_
      exact hp h' C F G hf hb hV
    | succ j ih =>
      intro n h' C F G hj hf hb hV
      have hB' := bdP_fr hB hf (by simp) (by simp) (by simp) (by simp) (by simp) (by simp) (by simp) (by simp [taR])
      have F' := Fr_XF hF hf (by decide +kernel)
      have := hB.2.1
      refine fb_1 F' hpp hB' (by omega) hV hb (fun h2 c f g O2 z1 z2 z3 q1 q2 q3 => ?_)
      with_reducible refine xm_go_blk b_X6_findBounds_112 k_X6_findBounds_112 ?_
      refine by_iinc (by rw [ml_107]; decide) rfl ci_1 ?_
      refine by_goto 2 rfl ?_
      simp (disch := first | exact Nat.ne_of_beq_eq_false rfl | exact rfl | omega) only [nI_add, xa_sub, xa_mul, pk_div, nm_mod, xa_shr, xa_and7, xa_and1, xa_and255, xa_by_and, nI_m1, Nat.add_sub_cancel, Nat.reducePow, Nat.zero_add, Nat.add_zero, Nat.reduceAdd, Nat.reduceMul, Nat.reduceSub, xf_same, xq_ff, xq_fo, xf_1, xf_2, xs_1, xs_2, xs_same, xq_so, xj_1, xj_2, xj_same, xq_jo, xq_sa1, xq_same, xq_other, upd_s, oI_n, oI_s, xv_0, xv_1, xv_2, xv_3, xm_p1, xm_p2, xq_fp, xq_fn, List.filter_nil, Nat.reduceBEq, Bool.not_true, Bool.not_false, Bool.and_true, Bool.and_false, Bool.false_and, Bool.true_and, if_true, if_false, Bool.false_eq_true, reduceIte, xc_i, xc_j, xc_r, xc_n, List.nil_append, List.cons_append, Option.toList_some, Option.toList_none]
      refine xm_go_wk (by simp [Value.category]) (ih (n + 1) h2 (updN C n c) (updN F n f) (updN G n g) (by omega) (Fr_tr hf O2.1 (fun _ z => z) (fun _ z => z)) (bnd_upd hB.1 (by omega) hb q1 q2 q3) (fun m hm => ?_))
      by_cases e : m = n
      · subst e
        rw [updN_s, updN_s, updN_s]
        exact ⟨z1, z2, z3⟩
      · rw [updN_o e, updN_o e, updN_o e, O2.2 _ _ e, O2.2 _ _ e, O2.2 _ _ e]
        exact hV m (by omega)
  refine xq_in rfl ?_
  simp only [xq_a0, xq_aI, xq_aJ, xq_aR, Nat.reduceAdd]
  with_reducible refine xm_go_blk b_X6_findBounds_0 k_X6_findBounds_0 ?_
  refine by_iconst ci_0 ?_
  refine by_istore_n (by rw [ml_107]; decide) ?_
  refine by_nil ?_
  simp (disch := first | exact Nat.ne_of_beq_eq_false rfl | exact rfl | omega) only [nI_add, xa_sub, xa_mul, pk_div, nm_mod, xa_shr, xa_and7, xa_and1, xa_and255, xa_by_and, nI_m1, Nat.add_sub_cancel, Nat.reducePow, Nat.zero_add, Nat.add_zero, Nat.reduceAdd, Nat.reduceMul, Nat.reduceSub, xf_same, xq_ff, xq_fo, xf_1, xf_2, xs_1, xs_2, xs_same, xq_so, xj_1, xj_2, xj_same, xq_jo, xq_sa1, xq_same, xq_other, upd_s, oI_n, oI_s, xv_0, xv_1, xv_2, xv_3, xm_p1, xm_p2, xq_fp, xq_fn, List.filter_nil, Nat.reduceBEq, Bool.not_true, Bool.not_false, Bool.and_true, Bool.and_false, Bool.false_and, Bool.true_and, if_true, if_false, Bool.false_eq_true, reduceIte, xc_i, xc_j, xc_r, xc_n, List.nil_append, List.cons_append, Option.toList_some, Option.toList_none]
  exact xm_go_wk (by simp [Value.category]) (key ps.length 0 h (fun _ => 0) (fun _ => 0) (fun _ => 0) (by omega) Fr_rf (fun m hm => absurd hm (by omega)) (fun m hm => absurd hm (by omega)))
end BO
