/-! ===== say: an expression of the reference ===== -/
section SY
variable {sc : xm_Sc} {d n p x : Nat} {t : List Nat} {NL : List (List Nat × Nat)} {G : sG} {st r : List (Option Nat)} {o : Option Nat} {h h' : xm_H} {post : xm_Po}
theorem mG0_set1 (hg : mG0 h G) : mG0 (xm_si h 106 x (nI n)) (sSet1 G x n) := by
  intro m hm
  obtain ⟨b1, b2, b3, b4, b5, b6⟩ := hg m hm
  refine ⟨by rw [xq_so (by decide)]; exact b1, ?_, by rw [xq_so (by decide)]; exact b3, by rw [xq_so (by decide)]; exact b4, by rw [xq_so (by decide)]; exact b5, fun z k hk => by rw [xq_so (by decide)]; exact b6 z k hk⟩
  rw [xs_same]
  unfold upd
  by_cases z : m = x
  · subst z
    rw [if_pos rfl]
    show nI n = oI (sUp (sC1 G) m (some n) m)
    rw [sUp_s]
    rfl
  · rw [if_neg z]
    show h.1 106 m = oI (sUp (sC1 G) x (some n) m)
    rw [sUp_o _ _ z]
    exact b2
theorem mG0_set2 (hg : mG0 h G) : mG0 (xm_si h 107 x (nI n)) (sSet2 G x n) := by
  intro m hm
  obtain ⟨b1, b2, b3, b4, b5, b6⟩ := hg m hm
  refine ⟨by rw [xq_so (by decide)]; exact b1, by rw [xq_so (by decide)]; exact b2, ?_, by rw [xq_so (by decide)]; exact b4, by rw [xq_so (by decide)]; exact b5, fun z k hk => by rw [xq_so (by decide)]; exact b6 z k hk⟩
  rw [xs_same]
  unfold upd
  by_cases z : m = x
  · subst z
    rw [if_pos rfl]
    show nI n = oI (sUp (sC2 G) m (some n) m)
    rw [sUp_s]
    rfl
  · rw [if_neg z]
    show h.1 107 m = oI (sUp (sC2 G) x (some n) m)
    rw [sUp_o _ _ z]
    exact b3
/-- one less waits -/
theorem mT1_pop {G' : sG} (hT : mT1 h t NL G (o :: r)) (hf : Fr [106, 107] [(102, 88)] h h') (e88 : h'.2.2 102 88 = .int (nI r.length)) (hN : sCt G' = sCt G) (hg : mG0 h' G') (ho : ∀ m ∈ stl r, sCd G' m = sCd G m ∧ sC1 G' m = sC1 G m) : mT1 h' t NL G' r := by
  obtain ⟨a1, a2, a3, a4, a5, a6, a7, a8, a9⟩ := hT
  exact ⟨Fr_XF a1 hf (by decide +kernel), mtp_fr a2 hf (by simp) (by simp), tgM_fr a3 hf (by simp), nmM_fr a4 hf (by simp) (by simp) (by simp), by rw [hf.2.2 _ _ (by simp), hN]; exact a5, hg, e88, mkS_o a8.2 (fun j _ => ⟨by rw [hf.1 _ (by simp)], by rw [hf.1 _ (by simp)]⟩) ho, by rw [hf.2.2 _ _ (by simp)]; exact a9⟩
theorem sp_joined (hT : mT1 h t NL G (o :: r)) (hI : sInv t NL G (o :: r)) (hn : n < sCt G) (hq : n ∉ stl (o :: r)) (hsa : h.2.2 102 82 = .int (nI p)) (hpt : p ≤ t.length) (hst : r.length + 3 ≤ p)
    (hB : ∀ e f h' v, sFin t n G (o :: r) p = .inl (e, f) → Fr smbR smbT h h' → h'.2.2 102 81 = .int (nI e) → 1 ≤ e → e < 2000 → h'.2.2 102 36 = .int (nI f) → post (some (.int v)) h')
    (hW : ∀ S h', sFin t n G (o :: r) p = .inr (S, none) → Fr smbR smbT h h' → mT1 h' t NL S.1 S.2.1 → h'.2.2 102 82 = .int (nI S.2.2) → h'.2.2 102 36 = h.2.2 102 36 → post (some (.int (-1))) h')
    (hP : ∀ m G' p' h', sFin t n G (o :: r) p = sFin t m G' r p' → Fr smbR smbT h h' → mT1 h' t NL G' r → sInv t NL G' r → m < sCt G' → m ∉ stl r → p ≤ p' → p' ≤ t.length → h'.2.2 102 82 = .int (nI p') → h'.2.2 102 36 = h.2.2 102 36 → post (some (.int (nI m))) h') : xm_T (XE sc) (d + 4) 243 [.ref 102, .int (nI n)] h post := by
  have ht8 : t.length ≤ 8192 := hT.2.1.2.2.2
  have hT' := hT
  obtain ⟨a1, a2, a3, a4, a5, a6, a7, a8, a9⟩ := hT
  obtain ⟨⟨rk, M, hd⟩, hNL⟩ := hI
  have hN := hd.1
  have h88 : h.2.2 102 88 = .int (nI (r.length + 1)) := a7
  refine xq_in rfl ?_
  simp only [xq_a0, xq_aI, xq_aJ, xq_aR, Nat.reduceAdd]
  cases o with
  | none =>
    have hk : h.1 159 r.length = -1 := a8.1
    obtain ⟨b1, b2, b3, b4⟩ := tk_b hpt
    with_reducible refine xm_go_blk b_X12_joined_0 k_X12_joined_0 ?_
    refine by_aload_n rfl ?_
    refine by_getf cn_243 fl_12_629 (by first | exact rfl | assumption) (by decide) ?_
    refine by_iconst ci_1 ?_
    simp (disch := first | exact Nat.ne_of_beq_eq_false rfl | exact rfl | omega) only [nI_add, xa_sub, xa_mul, pk_div, nm_mod, xa_shr, xa_and7, xa_and1, xa_and255, xa_by_and, nI_m1, Nat.add_sub_cancel, Nat.reducePow, Nat.zero_add, Nat.add_zero, Nat.reduceAdd, Nat.reduceMul, Nat.reduceSub, xf_same, xq_ff, xq_fo, xf_1, xf_2, xs_1, xs_2, xs_same, xq_so, xj_1, xj_2, xj_same, xq_jo, xq_sa1, xq_same, xq_other, upd_s, oI_n, oI_s, h88, xf_102_89 a1, hk]
    refine by_isub ?_
    refine by_istore_n (by rw [ml_243]; decide) ?_
    refine by_aload_n rfl ?_
    refine by_getf cn_243 fl_12_184 (by first | exact rfl | assumption) (by decide) ?_
    refine by_iload_n rfl ?_
    simp (disch := first | exact Nat.ne_of_beq_eq_false rfl | exact rfl | omega) only [nI_add, xa_sub, xa_mul, pk_div, nm_mod, xa_shr, xa_and7, xa_and1, xa_and255, xa_by_and, nI_m1, Nat.add_sub_cancel, Nat.reducePow, Nat.zero_add, Nat.add_zero, Nat.reduceAdd, Nat.reduceMul, Nat.reduceSub, xf_same, xq_ff, xq_fo, xf_1, xf_2, xs_1, xs_2, xs_same, xq_so, xj_1, xj_2, xj_same, xq_jo, xq_sa1, xq_same, xq_other, upd_s, oI_n, oI_s, h88, xf_102_89 a1, hk]
    first | refine by_iald (by first | exact rfl | assumption | exact ps_1 hpp | exact ps_2 hpp | exact ps_3 hpp | exact ps_4 hpp | exact ps_5 hpp | exact ps_6 hpp | exact ps_7 hpp | exact ps_8 hpp | exact ps_9 hpp | exact ps_10 hpp | exact ps_11 hpp | exact ps_15 hpp | exact ps_16 hpp | exact ps_17 hpp | exact ps_18 hpp | exact ps_19 hpp | exact ps_21 hpp | exact ps_22 hpp | exact ps_23 hpp | exact ps_24 hpp) ⟨by omega, by omega⟩ ?_ | refine by_tald rfl rfl ⟨by omega, by omega⟩ ?_
    refine by_istore_n (by rw [ml_243]; decide) ?_
    refine by_iload_n rfl ?_
    refine by_if_ge 59 rfl ?_
    simp (disch := first | exact Nat.ne_of_beq_eq_false rfl | exact rfl | omega) only [nI_add, xa_sub, xa_mul, pk_div, nm_mod, xa_shr, xa_and7, xa_and1, xa_and255, xa_by_and, nI_m1, Nat.add_sub_cancel, Nat.reducePow, Nat.zero_add, Nat.add_zero, Nat.reduceAdd, Nat.reduceMul, Nat.reduceSub, xf_same, xq_ff, xq_fo, xf_1, xf_2, xs_1, xs_2, xs_same, xq_so, xj_1, xj_2, xj_same, xq_jo, xq_sa1, xq_same, xq_other, upd_s, oI_n, oI_s, xv_0, xv_1, xv_2, xv_3, xm_p1, xm_p2, xq_fp, xq_fn, List.filter_nil, Nat.reduceBEq, Bool.not_true, Bool.not_false, Bool.and_true, Bool.and_false, Bool.false_and, Bool.true_and, if_true, if_false, Bool.false_eq_true, reduceIte, xc_i, xc_j, xc_r, xc_n, List.nil_append, List.cons_append, Option.toList_some, Option.toList_none, nI_ltJ, nI_leJ, nI_eqJ, nI_ltz, nI_gez, nI_gtz, nI_lez, nI_eqz, m1_ltz, m1_gez, true_imp_iff, false_imp_iff, true_and, and_true, ne_eq, not_false_eq_true, not_true_eq_false, Nat.reduceEqDiff, Nat.reduceLT, Nat.reduceLeDiff, h88, xf_102_89 a1, hk]
    with_reducible refine xm_go_blk b_X12_joined_18 k_X12_joined_18 ?_
    refine by_aload_n rfl ?_
    refine by_inv0 cn_243 lk_12_613 (by rw [xe_cnt]; decide) is_267 np_267 cn_267 (by first | exact rfl | assumption) (Nat.le_of_ble_eq_true rfl) ?_
    refine sp_mnextWord (d := d) a1 a2 hsa a9 hpt (fun h1 k1 f1 s1 q1 => ?_) (fun h1 k1 f1 w1 => ?_)
    · have e2 : sFin t n G (none :: r) p = .inl (1, tkF t p) := by rw [sFin, if_neg (by rw [k1]; decide)]
      have y88 : h1.2.2 102 88 = .int (nI (r.length + 1)) := by rw [f1.2.2 _ _ (by simp)]; exact h88
      with_reducible refine xm_go_blk b_X12_joined_22 k_X12_joined_22 ?_
      refine by_aload_n rfl ?_
      refine by_getf cn_243 fl_12_592 (by first | exact rfl | assumption) (by decide) ?_
      simp (disch := first | exact Nat.ne_of_beq_eq_false rfl | exact rfl | omega) only [nI_add, xa_sub, xa_mul, pk_div, nm_mod, xa_shr, xa_and7, xa_and1, xa_and255, xa_by_and, nI_m1, Nat.add_sub_cancel, Nat.reducePow, Nat.zero_add, Nat.add_zero, Nat.reduceAdd, Nat.reduceMul, Nat.reduceSub, xf_same, xq_ff, xq_fo, xf_1, xf_2, xs_1, xs_2, xs_same, xq_so, xj_1, xj_2, xj_same, xq_jo, xq_sa1, xq_same, xq_other, upd_s, oI_n, oI_s, s1, y88]
      refine by_if_ne 47 rfl ?_
      simp (disch := first | exact Nat.ne_of_beq_eq_false rfl | exact rfl | omega) only [nI_add, xa_sub, xa_mul, pk_div, nm_mod, xa_shr, xa_and7, xa_and1, xa_and255, xa_by_and, nI_m1, Nat.add_sub_cancel, Nat.reducePow, Nat.zero_add, Nat.add_zero, Nat.reduceAdd, Nat.reduceMul, Nat.reduceSub, xf_same, xq_ff, xq_fo, xf_1, xf_2, xs_1, xs_2, xs_same, xq_so, xj_1, xj_2, xj_same, xq_jo, xq_sa1, xq_same, xq_other, upd_s, oI_n, oI_s, xv_0, xv_1, xv_2, xv_3, xm_p1, xm_p2, xq_fp, xq_fn, List.filter_nil, Nat.reduceBEq, Bool.not_true, Bool.not_false, Bool.and_true, Bool.and_false, Bool.false_and, Bool.true_and, if_true, if_false, Bool.false_eq_true, reduceIte, xc_i, xc_j, xc_r, xc_n, List.nil_append, List.cons_append, Option.toList_some, Option.toList_none, nI_ltJ, nI_leJ, nI_eqJ, nI_ltz, nI_gez, nI_gtz, nI_lez, nI_eqz, m1_ltz, m1_gez, true_imp_iff, false_imp_iff, true_and, and_true, ne_eq, not_false_eq_true, not_true_eq_false, Nat.reduceEqDiff, Nat.reduceLT, Nat.reduceLeDiff, s1, y88]
      with_reducible refine xm_go_blk b_X12_joined_47 k_X12_joined_47 ?_
      refine by_aload_n rfl ?_
      refine by_dup rfl ?_
      refine by_getf cn_243 fl_12_629 (by first | exact rfl | assumption) (by decide) ?_
      refine by_iconst ci_1 ?_
      simp (disch := first | exact Nat.ne_of_beq_eq_false rfl | exact rfl | omega) only [nI_add, xa_sub, xa_mul, pk_div, nm_mod, xa_shr, xa_and7, xa_and1, xa_and255, xa_by_and, nI_m1, Nat.add_sub_cancel, Nat.reducePow, Nat.zero_add, Nat.add_zero, Nat.reduceAdd, Nat.reduceMul, Nat.reduceSub, xf_same, xq_ff, xq_fo, xf_1, xf_2, xs_1, xs_2, xs_same, xq_so, xj_1, xj_2, xj_same, xq_jo, xq_sa1, xq_same, xq_other, upd_s, oI_n, oI_s, s1, y88]
      refine by_isub ?_
      refine by_putf cn_243 fl_12_629 (by first | exact rfl | assumption) (by decide) nf_12_88 ft_12_88 (by first | rfl | assumption) (by first | rfl | assumption) ?_
      refine by_iload_n rfl ?_
      simp (disch := first | exact Nat.ne_of_beq_eq_false rfl | exact rfl | omega) only [nI_add, xa_sub, xa_mul, pk_div, nm_mod, xa_shr, xa_and7, xa_and1, xa_and255, xa_by_and, nI_m1, Nat.add_sub_cancel, Nat.reducePow, Nat.zero_add, Nat.add_zero, Nat.reduceAdd, Nat.reduceMul, Nat.reduceSub, xf_same, xq_ff, xq_fo, xf_1, xf_2, xs_1, xs_2, xs_same, xq_so, xj_1, xj_2, xj_same, xq_jo, xq_sa1, xq_same, xq_other, upd_s, oI_n, oI_s, s1, y88]
      refine by_iret ry_243 (by first | rfl | assumption) ?_
      exact hB 1 _ _ _ e2 (Fr_sf (Fr_mo f1 (by simp) (by simp)) (by simp)) (by simpa [xm_sf, updV] using s1) (by decide) (by decide) (by simpa [xm_sf, updV] using q1)
    · obtain ⟨u1, u2, u3⟩ := w1
      have T1 := mT1_w hT' f1
      have y81 : h1.2.2 102 81 = .int (nI 0) := T1.2.2.2.2.2.2.2.2
      have y88 : h1.2.2 102 88 = .int (nI (r.length + 1)) := by rw [f1.2.2 _ _ (by simp)]; exact h88
      have g1 : Fr smbR smbT h h1 := Fr_mo f1 (by simp) (by simp)
      by_cases k4 : tkK t p = 4
      · have u3' : h1.2.2 102 83 = .int (nI 3) := by rw [u3, k4]; rfl
        have e2 : sFin t n G (none :: r) p = sFin t n G r (tkE t p) := by rw [sFin, if_pos k4]
        with_reducible refine xm_go_blk b_X12_joined_22 k_X12_joined_22 ?_
        refine by_aload_n rfl ?_
        refine by_getf cn_243 fl_12_592 (by first | exact rfl | assumption) (by decide) ?_
        simp (disch := first | exact Nat.ne_of_beq_eq_false rfl | exact rfl | omega) only [nI_add, xa_sub, xa_mul, pk_div, nm_mod, xa_shr, xa_and7, xa_and1, xa_and255, xa_by_and, nI_m1, Nat.add_sub_cancel, Nat.reducePow, Nat.zero_add, Nat.add_zero, Nat.reduceAdd, Nat.reduceMul, Nat.reduceSub, xf_same, xq_ff, xq_fo, xf_1, xf_2, xs_1, xs_2, xs_same, xq_so, xj_1, xj_2, xj_same, xq_jo, xq_sa1, xq_same, xq_other, upd_s, oI_n, oI_s, y81, u3', y88]
        refine by_if_ne 47 rfl ?_
        simp (disch := first | exact Nat.ne_of_beq_eq_false rfl | exact rfl | omega) only [nI_add, xa_sub, xa_mul, pk_div, nm_mod, xa_shr, xa_and7, xa_and1, xa_and255, xa_by_and, nI_m1, Nat.add_sub_cancel, Nat.reducePow, Nat.zero_add, Nat.add_zero, Nat.reduceAdd, Nat.reduceMul, Nat.reduceSub, xf_same, xq_ff, xq_fo, xf_1, xf_2, xs_1, xs_2, xs_same, xq_so, xj_1, xj_2, xj_same, xq_jo, xq_sa1, xq_same, xq_other, upd_s, oI_n, oI_s, xv_0, xv_1, xv_2, xv_3, xm_p1, xm_p2, xq_fp, xq_fn, List.filter_nil, Nat.reduceBEq, Bool.not_true, Bool.not_false, Bool.and_true, Bool.and_false, Bool.false_and, Bool.true_and, if_true, if_false, Bool.false_eq_true, reduceIte, xc_i, xc_j, xc_r, xc_n, List.nil_append, List.cons_append, Option.toList_some, Option.toList_none, nI_ltJ, nI_leJ, nI_eqJ, nI_ltz, nI_gez, nI_gtz, nI_lez, nI_eqz, m1_ltz, m1_gez, true_imp_iff, false_imp_iff, true_and, and_true, ne_eq, not_false_eq_true, not_true_eq_false, Nat.reduceEqDiff, Nat.reduceLT, Nat.reduceLeDiff, y81, u3', y88]
        with_reducible refine xm_go_blk b_X12_joined_29 k_X12_joined_29 ?_
        refine by_aload_n rfl ?_
        refine by_getf cn_243 fl_12_601 (by first | exact rfl | assumption) (by decide) ?_
        refine by_iconst ci_3 ?_
        simp (disch := first | exact Nat.ne_of_beq_eq_false rfl | exact rfl | omega) only [nI_add, xa_sub, xa_mul, pk_div, nm_mod, xa_shr, xa_and7, xa_and1, xa_and255, xa_by_and, nI_m1, Nat.add_sub_cancel, Nat.reducePow, Nat.zero_add, Nat.add_zero, Nat.reduceAdd, Nat.reduceMul, Nat.reduceSub, xf_same, xq_ff, xq_fo, xf_1, xf_2, xs_1, xs_2, xs_same, xq_so, xj_1, xj_2, xj_same, xq_jo, xq_sa1, xq_same, xq_other, upd_s, oI_n, oI_s, y81, u3', y88]
        refine by_ic_eq 47 rfl ?_
        simp (disch := first | exact Nat.ne_of_beq_eq_false rfl | exact rfl | omega) only [nI_add, xa_sub, xa_mul, pk_div, nm_mod, xa_shr, xa_and7, xa_and1, xa_and255, xa_by_and, nI_m1, Nat.add_sub_cancel, Nat.reducePow, Nat.zero_add, Nat.add_zero, Nat.reduceAdd, Nat.reduceMul, Nat.reduceSub, xf_same, xq_ff, xq_fo, xf_1, xf_2, xs_1, xs_2, xs_same, xq_so, xj_1, xj_2, xj_same, xq_jo, xq_sa1, xq_same, xq_other, upd_s, oI_n, oI_s, xv_0, xv_1, xv_2, xv_3, xm_p1, xm_p2, xq_fp, xq_fn, List.filter_nil, Nat.reduceBEq, Bool.not_true, Bool.not_false, Bool.and_true, Bool.and_false, Bool.false_and, Bool.true_and, if_true, if_false, Bool.false_eq_true, reduceIte, xc_i, xc_j, xc_r, xc_n, List.nil_append, List.cons_append, Option.toList_some, Option.toList_none, nI_ltJ, nI_leJ, nI_eqJ, nI_ltz, nI_gez, nI_gtz, nI_lez, nI_eqz, m1_ltz, m1_gez, true_imp_iff, false_imp_iff, true_and, and_true, ne_eq, not_false_eq_true, not_true_eq_false, Nat.reduceEqDiff, Nat.reduceLT, Nat.reduceLeDiff, y81, u3', y88]
        with_reducible refine xm_go_blk b_X12_joined_47 k_X12_joined_47 ?_
        refine by_aload_n rfl ?_
        refine by_dup rfl ?_
        refine by_getf cn_243 fl_12_629 (by first | exact rfl | assumption) (by decide) ?_
        refine by_iconst ci_1 ?_
        simp (disch := first | exact Nat.ne_of_beq_eq_false rfl | exact rfl | omega) only [nI_add, xa_sub, xa_mul, pk_div, nm_mod, xa_shr, xa_and7, xa_and1, xa_and255, xa_by_and, nI_m1, Nat.add_sub_cancel, Nat.reducePow, Nat.zero_add, Nat.add_zero, Nat.reduceAdd, Nat.reduceMul, Nat.reduceSub, xf_same, xq_ff, xq_fo, xf_1, xf_2, xs_1, xs_2, xs_same, xq_so, xj_1, xj_2, xj_same, xq_jo, xq_sa1, xq_same, xq_other, upd_s, oI_n, oI_s, y81, u3', y88]
        refine by_isub ?_
        refine by_putf cn_243 fl_12_629 (by first | exact rfl | assumption) (by decide) nf_12_88 ft_12_88 (by first | rfl | assumption) (by first | rfl | assumption) ?_
        refine by_iload_n rfl ?_
        simp (disch := first | exact Nat.ne_of_beq_eq_false rfl | exact rfl | omega) only [nI_add, xa_sub, xa_mul, pk_div, nm_mod, xa_shr, xa_and7, xa_and1, xa_and255, xa_by_and, nI_m1, Nat.add_sub_cancel, Nat.reducePow, Nat.zero_add, Nat.add_zero, Nat.reduceAdd, Nat.reduceMul, Nat.reduceSub, xf_same, xq_ff, xq_fo, xf_1, xf_2, xs_1, xs_2, xs_same, xq_so, xj_1, xj_2, xj_same, xq_jo, xq_sa1, xq_same, xq_other, upd_s, oI_n, oI_s, y81, u3', y88]
        refine by_iret ry_243 (by first | rfl | assumption) ?_
        have f2 : Fr [106, 107] [(102, 88)] h1 (xm_sf h1 102 88 (.int (nI r.length))) := Fr_sf Fr_rf (by simp)
        exact hP n G (tkE t p) _ e2 (Fr_sf g1 (by simp)) (mT1_pop T1 f2 (by simp [xm_sf, updV]) rfl T1.2.2.2.2.2.1 (fun _ _ => ⟨rfl, rfl⟩)) ⟨⟨rk, M, hd⟩, hNL⟩ hn hq (by omega) b3 (by simpa [xm_sf, updV] using u1) (by rw [f2.2.2 _ _ (by simp), f1.2.2 _ _ (by simp)])
      · have hk5 := tkK_le t p
        have m3 : (mkk (tkK t p) = 3) = False := eq_false (by unfold mkk; omega)
        have m9 : mkk (tkK t p) < 2147483648 := by unfold mkk; omega
        have e2 : sFin t n G (none :: r) p = .inl (1, tkF t p) := by rw [sFin, if_neg k4]
        with_reducible refine xm_go_blk b_X12_joined_22 k_X12_joined_22 ?_
        refine by_aload_n rfl ?_
        refine by_getf cn_243 fl_12_592 (by first | exact rfl | assumption) (by decide) ?_
        simp (disch := first | exact Nat.ne_of_beq_eq_false rfl | exact rfl | omega) only [nI_add, xa_sub, xa_mul, pk_div, nm_mod, xa_shr, xa_and7, xa_and1, xa_and255, xa_by_and, nI_m1, Nat.add_sub_cancel, Nat.reducePow, Nat.zero_add, Nat.add_zero, Nat.reduceAdd, Nat.reduceMul, Nat.reduceSub, xf_same, xq_ff, xq_fo, xf_1, xf_2, xs_1, xs_2, xs_same, xq_so, xj_1, xj_2, xj_same, xq_jo, xq_sa1, xq_same, xq_other, upd_s, oI_n, oI_s, y81, u3, m3, u2]
        refine by_if_ne 47 rfl ?_
        simp (disch := first | exact Nat.ne_of_beq_eq_false rfl | exact rfl | omega) only [nI_add, xa_sub, xa_mul, pk_div, nm_mod, xa_shr, xa_and7, xa_and1, xa_and255, xa_by_and, nI_m1, Nat.add_sub_cancel, Nat.reducePow, Nat.zero_add, Nat.add_zero, Nat.reduceAdd, Nat.reduceMul, Nat.reduceSub, xf_same, xq_ff, xq_fo, xf_1, xf_2, xs_1, xs_2, xs_same, xq_so, xj_1, xj_2, xj_same, xq_jo, xq_sa1, xq_same, xq_other, upd_s, oI_n, oI_s, xv_0, xv_1, xv_2, xv_3, xm_p1, xm_p2, xq_fp, xq_fn, List.filter_nil, Nat.reduceBEq, Bool.not_true, Bool.not_false, Bool.and_true, Bool.and_false, Bool.false_and, Bool.true_and, if_true, if_false, Bool.false_eq_true, reduceIte, xc_i, xc_j, xc_r, xc_n, List.nil_append, List.cons_append, Option.toList_some, Option.toList_none, nI_ltJ, nI_leJ, nI_eqJ, nI_ltz, nI_gez, nI_gtz, nI_lez, nI_eqz, m1_ltz, m1_gez, true_imp_iff, false_imp_iff, true_and, and_true, ne_eq, not_false_eq_true, not_true_eq_false, Nat.reduceEqDiff, Nat.reduceLT, Nat.reduceLeDiff, y81, u3, m3, u2]
        with_reducible refine xm_go_blk b_X12_joined_29 k_X12_joined_29 ?_
        refine by_aload_n rfl ?_
        refine by_getf cn_243 fl_12_601 (by first | exact rfl | assumption) (by decide) ?_
        refine by_iconst ci_3 ?_
        simp (disch := first | exact Nat.ne_of_beq_eq_false rfl | exact rfl | omega) only [nI_add, xa_sub, xa_mul, pk_div, nm_mod, xa_shr, xa_and7, xa_and1, xa_and255, xa_by_and, nI_m1, Nat.add_sub_cancel, Nat.reducePow, Nat.zero_add, Nat.add_zero, Nat.reduceAdd, Nat.reduceMul, Nat.reduceSub, xf_same, xq_ff, xq_fo, xf_1, xf_2, xs_1, xs_2, xs_same, xq_so, xj_1, xj_2, xj_same, xq_jo, xq_sa1, xq_same, xq_other, upd_s, oI_n, oI_s, y81, u3, m3, u2]
        refine by_ic_eq 47 rfl ?_
        simp (disch := first | exact Nat.ne_of_beq_eq_false rfl | exact rfl | omega) only [nI_add, xa_sub, xa_mul, pk_div, nm_mod, xa_shr, xa_and7, xa_and1, xa_and255, xa_by_and, nI_m1, Nat.add_sub_cancel, Nat.reducePow, Nat.zero_add, Nat.add_zero, Nat.reduceAdd, Nat.reduceMul, Nat.reduceSub, xf_same, xq_ff, xq_fo, xf_1, xf_2, xs_1, xs_2, xs_same, xq_so, xj_1, xj_2, xj_same, xq_jo, xq_sa1, xq_same, xq_other, upd_s, oI_n, oI_s, xv_0, xv_1, xv_2, xv_3, xm_p1, xm_p2, xq_fp, xq_fn, List.filter_nil, Nat.reduceBEq, Bool.not_true, Bool.not_false, Bool.and_true, Bool.and_false, Bool.false_and, Bool.true_and, if_true, if_false, Bool.false_eq_true, reduceIte, xc_i, xc_j, xc_r, xc_n, List.nil_append, List.cons_append, Option.toList_some, Option.toList_none, nI_ltJ, nI_leJ, nI_eqJ, nI_ltz, nI_gez, nI_gtz, nI_lez, nI_eqz, m1_ltz, m1_gez, true_imp_iff, false_imp_iff, true_and, and_true, ne_eq, not_false_eq_true, not_true_eq_false, Nat.reduceEqDiff, Nat.reduceLT, Nat.reduceLeDiff, y81, u3, m3, u2]
        with_reducible refine xm_go_blk b_X12_joined_37 k_X12_joined_37 ?_
        refine by_aload_n rfl ?_
        refine by_iconst ci_1 ?_
        refine by_aload_n rfl ?_
        refine by_getf cn_243 fl_12_598 (by first | exact rfl | assumption) (by decide) ?_
        simp (disch := first | exact Nat.ne_of_beq_eq_false rfl | exact rfl | omega) only [nI_add, xa_sub, xa_mul, pk_div, nm_mod, xa_shr, xa_and7, xa_and1, xa_and255, xa_by_and, nI_m1, Nat.add_sub_cancel, Nat.reducePow, Nat.zero_add, Nat.add_zero, Nat.reduceAdd, Nat.reduceMul, Nat.reduceSub, xf_same, xq_ff, xq_fo, xf_1, xf_2, xs_1, xs_2, xs_same, xq_so, xj_1, xj_2, xj_same, xq_jo, xq_sa1, xq_same, xq_other, upd_s, oI_n, oI_s, xv_0, xv_1, xv_2, xv_3, xm_p1, xm_p2, xq_fp, xq_fn, List.filter_nil, Nat.reduceBEq, Bool.not_true, Bool.not_false, Bool.and_true, Bool.and_false, Bool.false_and, Bool.true_and, if_true, if_false, Bool.false_eq_true, reduceIte, xc_i, xc_j, xc_r, xc_n, List.nil_append, List.cons_append, Option.toList_some, Option.toList_none, y81, u3, m3, u2]
        refine by_inv2 cn_243 lk_12_604 (by rw [xe_cnt]; decide) is_328 np_328 cn_328 (by first | exact rfl | assumption) (Nat.le_of_ble_eq_true rfl) ?_
        refine sp_mwrong y81 ?_
        with_reducible refine xm_go_blk b_X12_joined_46 k_X12_joined_46 ?_
        refine by_iret ry_243 (by first | rfl | assumption) ?_
        exact hB 1 _ _ _ e2 (Fr_sf (Fr_sf g1 (by simp)) (by simp)) (by simp [xm_sf, updV]) (by decide) (by decide) (by simp [xm_sf, updV])
  | some x =>
    have hk : h.1 159 r.length = nI x ∧ h.1 160 r.length = nI (ndn G x) := a8.1
    obtain ⟨hk1, hk2⟩ := hk
    have hxN : x < sCt G := hd.2.2.1 x List.mem_cons_self
    obtain ⟨r1, r2, r3, r4, r5, r6⟩ := a6 x hxN
    have sd := hd.2.2.2 x hxN
    have c12 := sd.1
    have nx : ∀ e ∈ NL, e.2 < sCt G ∧ e.2 ∉ stl r := fun e he => ⟨(hNL e he).1, fun z => (hNL e he).2 (List.mem_cons_of_mem _ z)⟩
    have hxr : ∀ m ∈ stl r, m ≠ x := fun m hm z => by
      have := hd.2.1
      rw [stl_s] at this
      exact (List.nodup_cons.mp this).1 (by rw [← z]; exact hm)
    cases ec : sC1 G x with
    | some y =>
      have hsome : (sC1 G x).isSome = true := by rw [ec]; rfl
      obtain ⟨k1, k2, k3⟩ := sOK_pop2 hd hsome hn hq
      have e2 : sFin t n G (some x :: r) p = sFin t x (sSet2 G x n) r p := by rw [sFin, if_pos hsome]
      have c2 : sCd G x ≤ 2 := by
        by_cases z : 3 ≤ sCd G x
        · have := (sd.2.2.2.1 List.mem_cons_self).2.2 z
          rw [ec] at this
          cases this
        · omega
      have hn1 : ndn G x = 1 := by unfold ndn; rw [if_neg (by rw [ec]; intro z; cases z.2)]
      rw [hn1] at hk2
      with_reducible refine xm_go_blk b_X12_joined_0 k_X12_joined_0 ?_
      refine by_aload_n rfl ?_
      refine by_getf cn_243 fl_12_629 (by first | exact rfl | assumption) (by decide) ?_
      refine by_iconst ci_1 ?_
      simp (disch := first | exact Nat.ne_of_beq_eq_false rfl | exact rfl | omega) only [nI_add, xa_sub, xa_mul, pk_div, nm_mod, xa_shr, xa_and7, xa_and1, xa_and255, xa_by_and, nI_m1, Nat.add_sub_cancel, Nat.reducePow, Nat.zero_add, Nat.add_zero, Nat.reduceAdd, Nat.reduceMul, Nat.reduceSub, xf_same, xq_ff, xq_fo, xf_1, xf_2, xs_1, xs_2, xs_same, xq_so, xj_1, xj_2, xj_same, xq_jo, xq_sa1, xq_same, xq_other, upd_s, oI_n, oI_s, h88, xf_102_89 a1, hk1, xf_102_90 a1, hk2, xf_102_6 a1, r1, xf_102_8 a1]
      refine by_isub ?_
      refine by_istore_n (by rw [ml_243]; decide) ?_
      refine by_aload_n rfl ?_
      refine by_getf cn_243 fl_12_184 (by first | exact rfl | assumption) (by decide) ?_
      refine by_iload_n rfl ?_
      simp (disch := first | exact Nat.ne_of_beq_eq_false rfl | exact rfl | omega) only [nI_add, xa_sub, xa_mul, pk_div, nm_mod, xa_shr, xa_and7, xa_and1, xa_and255, xa_by_and, nI_m1, Nat.add_sub_cancel, Nat.reducePow, Nat.zero_add, Nat.add_zero, Nat.reduceAdd, Nat.reduceMul, Nat.reduceSub, xf_same, xq_ff, xq_fo, xf_1, xf_2, xs_1, xs_2, xs_same, xq_so, xj_1, xj_2, xj_same, xq_jo, xq_sa1, xq_same, xq_other, upd_s, oI_n, oI_s, h88, xf_102_89 a1, hk1, xf_102_90 a1, hk2, xf_102_6 a1, r1, xf_102_8 a1]
      first | refine by_iald (by first | exact rfl | assumption | exact ps_1 hpp | exact ps_2 hpp | exact ps_3 hpp | exact ps_4 hpp | exact ps_5 hpp | exact ps_6 hpp | exact ps_7 hpp | exact ps_8 hpp | exact ps_9 hpp | exact ps_10 hpp | exact ps_11 hpp | exact ps_15 hpp | exact ps_16 hpp | exact ps_17 hpp | exact ps_18 hpp | exact ps_19 hpp | exact ps_21 hpp | exact ps_22 hpp | exact ps_23 hpp | exact ps_24 hpp) ⟨by omega, by omega⟩ ?_ | refine by_tald rfl rfl ⟨by omega, by omega⟩ ?_
      refine by_istore_n (by rw [ml_243]; decide) ?_
      refine by_iload_n rfl ?_
      refine by_if_ge 59 rfl ?_
      simp (disch := first | exact Nat.ne_of_beq_eq_false rfl | exact rfl | omega) only [nI_add, xa_sub, xa_mul, pk_div, nm_mod, xa_shr, xa_and7, xa_and1, xa_and255, xa_by_and, nI_m1, Nat.add_sub_cancel, Nat.reducePow, Nat.zero_add, Nat.add_zero, Nat.reduceAdd, Nat.reduceMul, Nat.reduceSub, xf_same, xq_ff, xq_fo, xf_1, xf_2, xs_1, xs_2, xs_same, xq_so, xj_1, xj_2, xj_same, xq_jo, xq_sa1, xq_same, xq_other, upd_s, oI_n, oI_s, xv_0, xv_1, xv_2, xv_3, xm_p1, xm_p2, xq_fp, xq_fn, List.filter_nil, Nat.reduceBEq, Bool.not_true, Bool.not_false, Bool.and_true, Bool.and_false, Bool.false_and, Bool.true_and, if_true, if_false, Bool.false_eq_true, reduceIte, xc_i, xc_j, xc_r, xc_n, List.nil_append, List.cons_append, Option.toList_some, Option.toList_none, nI_ltJ, nI_leJ, nI_eqJ, nI_ltz, nI_gez, nI_gtz, nI_lez, nI_eqz, m1_ltz, m1_gez, true_imp_iff, false_imp_iff, true_and, and_true, ne_eq, not_false_eq_true, not_true_eq_false, Nat.reduceEqDiff, Nat.reduceLT, Nat.reduceLeDiff, h88, xf_102_89 a1, hk1, xf_102_90 a1, hk2, xf_102_6 a1, r1, xf_102_8 a1]
      with_reducible refine xm_go_blk b_X12_joined_59 k_X12_joined_59 ?_
      refine by_aload_n rfl ?_
      refine by_getf cn_243 fl_12_187 (by first | exact rfl | assumption) (by decide) ?_
      refine by_iload_n rfl ?_
      simp (disch := first | exact Nat.ne_of_beq_eq_false rfl | exact rfl | omega) only [nI_add, xa_sub, xa_mul, pk_div, nm_mod, xa_shr, xa_and7, xa_and1, xa_and255, xa_by_and, nI_m1, Nat.add_sub_cancel, Nat.reducePow, Nat.zero_add, Nat.add_zero, Nat.reduceAdd, Nat.reduceMul, Nat.reduceSub, xf_same, xq_ff, xq_fo, xf_1, xf_2, xs_1, xs_2, xs_same, xq_so, xj_1, xj_2, xj_same, xq_jo, xq_sa1, xq_same, xq_other, upd_s, oI_n, oI_s, h88, xf_102_89 a1, hk1, xf_102_90 a1, hk2, xf_102_6 a1, r1, xf_102_8 a1]
      first | refine by_iald (by first | exact rfl | assumption | exact ps_1 hpp | exact ps_2 hpp | exact ps_3 hpp | exact ps_4 hpp | exact ps_5 hpp | exact ps_6 hpp | exact ps_7 hpp | exact ps_8 hpp | exact ps_9 hpp | exact ps_10 hpp | exact ps_11 hpp | exact ps_15 hpp | exact ps_16 hpp | exact ps_17 hpp | exact ps_18 hpp | exact ps_19 hpp | exact ps_21 hpp | exact ps_22 hpp | exact ps_23 hpp | exact ps_24 hpp) ⟨by omega, by omega⟩ ?_ | refine by_tald rfl rfl ⟨by omega, by omega⟩ ?_
      refine by_iconst ci_2 ?_
      refine by_ic_ne 85 rfl ?_
      simp (disch := first | exact Nat.ne_of_beq_eq_false rfl | exact rfl | omega) only [nI_add, xa_sub, xa_mul, pk_div, nm_mod, xa_shr, xa_and7, xa_and1, xa_and255, xa_by_and, nI_m1, Nat.add_sub_cancel, Nat.reducePow, Nat.zero_add, Nat.add_zero, Nat.reduceAdd, Nat.reduceMul, Nat.reduceSub, xf_same, xq_ff, xq_fo, xf_1, xf_2, xs_1, xs_2, xs_same, xq_so, xj_1, xj_2, xj_same, xq_jo, xq_sa1, xq_same, xq_other, upd_s, oI_n, oI_s, xv_0, xv_1, xv_2, xv_3, xm_p1, xm_p2, xq_fp, xq_fn, List.filter_nil, Nat.reduceBEq, Bool.not_true, Bool.not_false, Bool.and_true, Bool.and_false, Bool.false_and, Bool.true_and, if_true, if_false, Bool.false_eq_true, reduceIte, xc_i, xc_j, xc_r, xc_n, List.nil_append, List.cons_append, Option.toList_some, Option.toList_none, nI_ltJ, nI_leJ, nI_eqJ, nI_ltz, nI_gez, nI_gtz, nI_lez, nI_eqz, m1_ltz, m1_gez, true_imp_iff, false_imp_iff, true_and, and_true, ne_eq, not_false_eq_true, not_true_eq_false, Nat.reduceEqDiff, Nat.reduceLT, Nat.reduceLeDiff, h88, xf_102_89 a1, hk1, xf_102_90 a1, hk2, xf_102_6 a1, r1, xf_102_8 a1]
      with_reducible refine xm_go_blk b_X12_joined_85 k_X12_joined_85 ?_
      refine by_aload_n rfl ?_
      refine by_getf cn_243 fl_12_16 (by first | exact rfl | assumption) (by decide) ?_
      refine by_iload_n rfl ?_
      simp (disch := first | exact Nat.ne_of_beq_eq_false rfl | exact rfl | omega) only [nI_add, xa_sub, xa_mul, pk_div, nm_mod, xa_shr, xa_and7, xa_and1, xa_and255, xa_by_and, nI_m1, Nat.add_sub_cancel, Nat.reducePow, Nat.zero_add, Nat.add_zero, Nat.reduceAdd, Nat.reduceMul, Nat.reduceSub, xf_same, xq_ff, xq_fo, xf_1, xf_2, xs_1, xs_2, xs_same, xq_so, xj_1, xj_2, xj_same, xq_jo, xq_sa1, xq_same, xq_other, upd_s, oI_n, oI_s, h88, xf_102_89 a1, hk1, xf_102_90 a1, hk2, xf_102_6 a1, r1, xf_102_8 a1]
      first | refine by_iald (by first | exact rfl | assumption | exact ps_1 hpp | exact ps_2 hpp | exact ps_3 hpp | exact ps_4 hpp | exact ps_5 hpp | exact ps_6 hpp | exact ps_7 hpp | exact ps_8 hpp | exact ps_9 hpp | exact ps_10 hpp | exact ps_11 hpp | exact ps_15 hpp | exact ps_16 hpp | exact ps_17 hpp | exact ps_18 hpp | exact ps_19 hpp | exact ps_21 hpp | exact ps_22 hpp | exact ps_23 hpp | exact ps_24 hpp) ⟨by omega, by omega⟩ ?_ | refine by_tald rfl rfl ⟨by omega, by omega⟩ ?_
      refine by_iconst ci_2 ?_
      refine by_ic_gt 105 rfl ?_
      simp (disch := first | exact Nat.ne_of_beq_eq_false rfl | exact rfl | omega) only [nI_add, xa_sub, xa_mul, pk_div, nm_mod, xa_shr, xa_and7, xa_and1, xa_and255, xa_by_and, nI_m1, Nat.add_sub_cancel, Nat.reducePow, Nat.zero_add, Nat.add_zero, Nat.reduceAdd, Nat.reduceMul, Nat.reduceSub, xf_same, xq_ff, xq_fo, xf_1, xf_2, xs_1, xs_2, xs_same, xq_so, xj_1, xj_2, xj_same, xq_jo, xq_sa1, xq_same, xq_other, upd_s, oI_n, oI_s, xv_0, xv_1, xv_2, xv_3, xm_p1, xm_p2, xq_fp, xq_fn, List.filter_nil, Nat.reduceBEq, Bool.not_true, Bool.not_false, Bool.and_true, Bool.and_false, Bool.false_and, Bool.true_and, if_true, if_false, Bool.false_eq_true, reduceIte, xc_i, xc_j, xc_r, xc_n, List.nil_append, List.cons_append, Option.toList_some, Option.toList_none, nI_ltJ, nI_leJ, nI_eqJ, nI_ltz, nI_gez, nI_gtz, nI_lez, nI_eqz, m1_ltz, m1_gez, true_imp_iff, false_imp_iff, true_and, and_true, ne_eq, not_false_eq_true, not_true_eq_false, Nat.reduceEqDiff, Nat.reduceLT, Nat.reduceLeDiff, h88, xf_102_89 a1, hk1, xf_102_90 a1, hk2, xf_102_6 a1, r1, xf_102_8 a1]
      refine ⟨fun c => absurd c (by omega), fun c85 => ?_⟩
      with_reducible refine xm_go_blk b_X12_joined_95 k_X12_joined_95 ?_
      refine by_aload_n rfl ?_
      refine by_getf cn_243 fl_12_22 (by first | exact rfl | assumption) (by decide) ?_
      refine by_iload_n rfl ?_
      refine by_iload_n rfl ?_
      simp (disch := first | exact Nat.ne_of_beq_eq_false rfl | exact rfl | omega) only [nI_add, xa_sub, xa_mul, pk_div, nm_mod, xa_shr, xa_and7, xa_and1, xa_and255, xa_by_and, nI_m1, Nat.add_sub_cancel, Nat.reducePow, Nat.zero_add, Nat.add_zero, Nat.reduceAdd, Nat.reduceMul, Nat.reduceSub, xf_same, xq_ff, xq_fo, xf_1, xf_2, xs_1, xs_2, xs_same, xq_so, xj_1, xj_2, xj_same, xq_jo, xq_sa1, xq_same, xq_other, upd_s, oI_n, oI_s, h88, xf_102_89 a1, hk1, xf_102_90 a1, hk2, xf_102_6 a1, r1, xf_102_8 a1]
      refine by_iast (by first | exact rfl | assumption | exact ps_1 hpp | exact ps_2 hpp | exact ps_3 hpp | exact ps_4 hpp | exact ps_5 hpp | exact ps_6 hpp | exact ps_7 hpp | exact ps_8 hpp | exact ps_9 hpp | exact ps_10 hpp | exact ps_11 hpp | exact ps_15 hpp | exact ps_16 hpp | exact ps_17 hpp | exact ps_18 hpp | exact ps_19 hpp | exact ps_21 hpp | exact ps_22 hpp | exact ps_23 hpp | exact ps_24 hpp) ⟨by omega, by omega⟩ ?_
      refine by_goto 112 rfl ?_
      with_reducible refine xm_go_blk b_X12_joined_112 k_X12_joined_112 ?_
      refine by_aload_n rfl ?_
      refine by_dup rfl ?_
      refine by_getf cn_243 fl_12_629 (by first | exact rfl | assumption) (by decide) ?_
      refine by_iconst ci_1 ?_
      simp (disch := first | exact Nat.ne_of_beq_eq_false rfl | exact rfl | omega) only [nI_add, xa_sub, xa_mul, pk_div, nm_mod, xa_shr, xa_and7, xa_and1, xa_and255, xa_by_and, nI_m1, Nat.add_sub_cancel, Nat.reducePow, Nat.zero_add, Nat.add_zero, Nat.reduceAdd, Nat.reduceMul, Nat.reduceSub, xf_same, xq_ff, xq_fo, xf_1, xf_2, xs_1, xs_2, xs_same, xq_so, xj_1, xj_2, xj_same, xq_jo, xq_sa1, xq_same, xq_other, upd_s, oI_n, oI_s, h88, xf_102_89 a1, hk1, xf_102_90 a1, hk2, xf_102_6 a1, r1, xf_102_8 a1]
      refine by_isub ?_
      refine by_putf cn_243 fl_12_629 (by first | exact rfl | assumption) (by decide) nf_12_88 ft_12_88 (by first | rfl | assumption) (by first | rfl | assumption) ?_
      refine by_iload_n rfl ?_
      simp (disch := first | exact Nat.ne_of_beq_eq_false rfl | exact rfl | omega) only [nI_add, xa_sub, xa_mul, pk_div, nm_mod, xa_shr, xa_and7, xa_and1, xa_and255, xa_by_and, nI_m1, Nat.add_sub_cancel, Nat.reducePow, Nat.zero_add, Nat.add_zero, Nat.reduceAdd, Nat.reduceMul, Nat.reduceSub, xf_same, xq_ff, xq_fo, xf_1, xf_2, xs_1, xs_2, xs_same, xq_so, xj_1, xj_2, xj_same, xq_jo, xq_sa1, xq_same, xq_other, upd_s, oI_n, oI_s, h88, xf_102_89 a1, hk1, xf_102_90 a1, hk2, xf_102_6 a1, r1, xf_102_8 a1]
      refine by_iret ry_243 (by first | rfl | assumption) ?_
      have f2 : Fr [106, 107] [(102, 88)] h (xm_sf (xm_si h 107 x (nI n)) 102 88 (.int (nI r.length))) := Fr_sf (Fr_si Fr_rf (by simp)) (by simp)
      exact hP x (sSet2 G x n) p _ e2 (Fr_mo f2 (by simp) (by simp)) (mT1_pop hT' f2 (by simp [xm_sf, updV]) rfl (mG0_set2 a6) (fun _ _ => ⟨rfl, rfl⟩)) ⟨⟨_, _, k1⟩, nx⟩ k2 k3 (Nat.le_refl _) hpt (by rw [f2.2.2 _ _ (by simp)]; exact hsa) (f2.2.2 _ _ (by simp))
    | none =>
      have hno : ¬ (sC1 G x).isSome = true := by rw [ec]; decide
      by_cases c2 : sCd G x ≤ 2
      · have e2 : sFin t n G (some x :: r) p = .inr ((sSet1 G x n, some x :: r, p), none) := by rw [sFin, if_neg hno, if_pos c2]
        have hn1 : ndn G x = 2 := by unfold ndn; rw [if_pos ⟨c2, ec⟩]
        rw [hn1] at hk2
        with_reducible refine xm_go_blk b_X12_joined_0 k_X12_joined_0 ?_
        refine by_aload_n rfl ?_
        refine by_getf cn_243 fl_12_629 (by first | exact rfl | assumption) (by decide) ?_
        refine by_iconst ci_1 ?_
        simp (disch := first | exact Nat.ne_of_beq_eq_false rfl | exact rfl | omega) only [nI_add, xa_sub, xa_mul, pk_div, nm_mod, xa_shr, xa_and7, xa_and1, xa_and255, xa_by_and, nI_m1, Nat.add_sub_cancel, Nat.reducePow, Nat.zero_add, Nat.add_zero, Nat.reduceAdd, Nat.reduceMul, Nat.reduceSub, xf_same, xq_ff, xq_fo, xf_1, xf_2, xs_1, xs_2, xs_same, xq_so, xj_1, xj_2, xj_same, xq_jo, xq_sa1, xq_same, xq_other, upd_s, oI_n, oI_s, h88, xf_102_89 a1, hk1, xf_102_90 a1, hk2, xf_102_7 a1]
        refine by_isub ?_
        refine by_istore_n (by rw [ml_243]; decide) ?_
        refine by_aload_n rfl ?_
        refine by_getf cn_243 fl_12_184 (by first | exact rfl | assumption) (by decide) ?_
        refine by_iload_n rfl ?_
        simp (disch := first | exact Nat.ne_of_beq_eq_false rfl | exact rfl | omega) only [nI_add, xa_sub, xa_mul, pk_div, nm_mod, xa_shr, xa_and7, xa_and1, xa_and255, xa_by_and, nI_m1, Nat.add_sub_cancel, Nat.reducePow, Nat.zero_add, Nat.add_zero, Nat.reduceAdd, Nat.reduceMul, Nat.reduceSub, xf_same, xq_ff, xq_fo, xf_1, xf_2, xs_1, xs_2, xs_same, xq_so, xj_1, xj_2, xj_same, xq_jo, xq_sa1, xq_same, xq_other, upd_s, oI_n, oI_s, h88, xf_102_89 a1, hk1, xf_102_90 a1, hk2, xf_102_7 a1]
        first | refine by_iald (by first | exact rfl | assumption | exact ps_1 hpp | exact ps_2 hpp | exact ps_3 hpp | exact ps_4 hpp | exact ps_5 hpp | exact ps_6 hpp | exact ps_7 hpp | exact ps_8 hpp | exact ps_9 hpp | exact ps_10 hpp | exact ps_11 hpp | exact ps_15 hpp | exact ps_16 hpp | exact ps_17 hpp | exact ps_18 hpp | exact ps_19 hpp | exact ps_21 hpp | exact ps_22 hpp | exact ps_23 hpp | exact ps_24 hpp) ⟨by omega, by omega⟩ ?_ | refine by_tald rfl rfl ⟨by omega, by omega⟩ ?_
        refine by_istore_n (by rw [ml_243]; decide) ?_
        refine by_iload_n rfl ?_
        refine by_if_ge 59 rfl ?_
        simp (disch := first | exact Nat.ne_of_beq_eq_false rfl | exact rfl | omega) only [nI_add, xa_sub, xa_mul, pk_div, nm_mod, xa_shr, xa_and7, xa_and1, xa_and255, xa_by_and, nI_m1, Nat.add_sub_cancel, Nat.reducePow, Nat.zero_add, Nat.add_zero, Nat.reduceAdd, Nat.reduceMul, Nat.reduceSub, xf_same, xq_ff, xq_fo, xf_1, xf_2, xs_1, xs_2, xs_same, xq_so, xj_1, xj_2, xj_same, xq_jo, xq_sa1, xq_same, xq_other, upd_s, oI_n, oI_s, xv_0, xv_1, xv_2, xv_3, xm_p1, xm_p2, xq_fp, xq_fn, List.filter_nil, Nat.reduceBEq, Bool.not_true, Bool.not_false, Bool.and_true, Bool.and_false, Bool.false_and, Bool.true_and, if_true, if_false, Bool.false_eq_true, reduceIte, xc_i, xc_j, xc_r, xc_n, List.nil_append, List.cons_append, Option.toList_some, Option.toList_none, nI_ltJ, nI_leJ, nI_eqJ, nI_ltz, nI_gez, nI_gtz, nI_lez, nI_eqz, m1_ltz, m1_gez, true_imp_iff, false_imp_iff, true_and, and_true, ne_eq, not_false_eq_true, not_true_eq_false, Nat.reduceEqDiff, Nat.reduceLT, Nat.reduceLeDiff, h88, xf_102_89 a1, hk1, xf_102_90 a1, hk2, xf_102_7 a1]
        with_reducible refine xm_go_blk b_X12_joined_59 k_X12_joined_59 ?_
        refine by_aload_n rfl ?_
        refine by_getf cn_243 fl_12_187 (by first | exact rfl | assumption) (by decide) ?_
        refine by_iload_n rfl ?_
        simp (disch := first | exact Nat.ne_of_beq_eq_false rfl | exact rfl | omega) only [nI_add, xa_sub, xa_mul, pk_div, nm_mod, xa_shr, xa_and7, xa_and1, xa_and255, xa_by_and, nI_m1, Nat.add_sub_cancel, Nat.reducePow, Nat.zero_add, Nat.add_zero, Nat.reduceAdd, Nat.reduceMul, Nat.reduceSub, xf_same, xq_ff, xq_fo, xf_1, xf_2, xs_1, xs_2, xs_same, xq_so, xj_1, xj_2, xj_same, xq_jo, xq_sa1, xq_same, xq_other, upd_s, oI_n, oI_s, h88, xf_102_89 a1, hk1, xf_102_90 a1, hk2, xf_102_7 a1]
        first | refine by_iald (by first | exact rfl | assumption | exact ps_1 hpp | exact ps_2 hpp | exact ps_3 hpp | exact ps_4 hpp | exact ps_5 hpp | exact ps_6 hpp | exact ps_7 hpp | exact ps_8 hpp | exact ps_9 hpp | exact ps_10 hpp | exact ps_11 hpp | exact ps_15 hpp | exact ps_16 hpp | exact ps_17 hpp | exact ps_18 hpp | exact ps_19 hpp | exact ps_21 hpp | exact ps_22 hpp | exact ps_23 hpp | exact ps_24 hpp) ⟨by omega, by omega⟩ ?_ | refine by_tald rfl rfl ⟨by omega, by omega⟩ ?_
        refine by_iconst ci_2 ?_
        refine by_ic_ne 85 rfl ?_
        simp (disch := first | exact Nat.ne_of_beq_eq_false rfl | exact rfl | omega) only [nI_add, xa_sub, xa_mul, pk_div, nm_mod, xa_shr, xa_and7, xa_and1, xa_and255, xa_by_and, nI_m1, Nat.add_sub_cancel, Nat.reducePow, Nat.zero_add, Nat.add_zero, Nat.reduceAdd, Nat.reduceMul, Nat.reduceSub, xf_same, xq_ff, xq_fo, xf_1, xf_2, xs_1, xs_2, xs_same, xq_so, xj_1, xj_2, xj_same, xq_jo, xq_sa1, xq_same, xq_other, upd_s, oI_n, oI_s, xv_0, xv_1, xv_2, xv_3, xm_p1, xm_p2, xq_fp, xq_fn, List.filter_nil, Nat.reduceBEq, Bool.not_true, Bool.not_false, Bool.and_true, Bool.and_false, Bool.false_and, Bool.true_and, if_true, if_false, Bool.false_eq_true, reduceIte, xc_i, xc_j, xc_r, xc_n, List.nil_append, List.cons_append, Option.toList_some, Option.toList_none, nI_ltJ, nI_leJ, nI_eqJ, nI_ltz, nI_gez, nI_gtz, nI_lez, nI_eqz, m1_ltz, m1_gez, true_imp_iff, false_imp_iff, true_and, and_true, ne_eq, not_false_eq_true, not_true_eq_false, Nat.reduceEqDiff, Nat.reduceLT, Nat.reduceLeDiff, h88, xf_102_89 a1, hk1, xf_102_90 a1, hk2, xf_102_7 a1]
        with_reducible refine xm_go_blk b_X12_joined_69 k_X12_joined_69 ?_
        refine by_aload_n rfl ?_
        refine by_getf cn_243 fl_12_19 (by first | exact rfl | assumption) (by decide) ?_
        refine by_iload_n rfl ?_
        refine by_iload_n rfl ?_
        simp (disch := first | exact Nat.ne_of_beq_eq_false rfl | exact rfl | omega) only [nI_add, xa_sub, xa_mul, pk_div, nm_mod, xa_shr, xa_and7, xa_and1, xa_and255, xa_by_and, nI_m1, Nat.add_sub_cancel, Nat.reducePow, Nat.zero_add, Nat.add_zero, Nat.reduceAdd, Nat.reduceMul, Nat.reduceSub, xf_same, xq_ff, xq_fo, xf_1, xf_2, xs_1, xs_2, xs_same, xq_so, xj_1, xj_2, xj_same, xq_jo, xq_sa1, xq_same, xq_other, upd_s, oI_n, oI_s, h88, xf_102_89 a1, hk1, xf_102_90 a1, hk2, xf_102_7 a1]
        refine by_iast (by first | exact rfl | assumption | exact ps_1 hpp | exact ps_2 hpp | exact ps_3 hpp | exact ps_4 hpp | exact ps_5 hpp | exact ps_6 hpp | exact ps_7 hpp | exact ps_8 hpp | exact ps_9 hpp | exact ps_10 hpp | exact ps_11 hpp | exact ps_15 hpp | exact ps_16 hpp | exact ps_17 hpp | exact ps_18 hpp | exact ps_19 hpp | exact ps_21 hpp | exact ps_22 hpp | exact ps_23 hpp | exact ps_24 hpp) ⟨by omega, by omega⟩ ?_
        refine by_aload_n rfl ?_
        refine by_getf cn_243 fl_12_187 (by first | exact rfl | assumption) (by decide) ?_
        refine by_iload_n rfl ?_
        refine by_iconst ci_1 ?_
        simp (disch := first | exact Nat.ne_of_beq_eq_false rfl | exact rfl | omega) only [nI_add, xa_sub, xa_mul, pk_div, nm_mod, xa_shr, xa_and7, xa_and1, xa_and255, xa_by_and, nI_m1, Nat.add_sub_cancel, Nat.reducePow, Nat.zero_add, Nat.add_zero, Nat.reduceAdd, Nat.reduceMul, Nat.reduceSub, xf_same, xq_ff, xq_fo, xf_1, xf_2, xs_1, xs_2, xs_same, xq_so, xj_1, xj_2, xj_same, xq_jo, xq_sa1, xq_same, xq_other, upd_s, oI_n, oI_s, h88, xf_102_89 a1, hk1, xf_102_90 a1, hk2, xf_102_7 a1]
        refine by_iast (by first | exact rfl | assumption | exact ps_1 hpp | exact ps_2 hpp | exact ps_3 hpp | exact ps_4 hpp | exact ps_5 hpp | exact ps_6 hpp | exact ps_7 hpp | exact ps_8 hpp | exact ps_9 hpp | exact ps_10 hpp | exact ps_11 hpp | exact ps_15 hpp | exact ps_16 hpp | exact ps_17 hpp | exact ps_18 hpp | exact ps_19 hpp | exact ps_21 hpp | exact ps_22 hpp | exact ps_23 hpp | exact ps_24 hpp) ⟨by omega, by omega⟩ ?_
        refine by_iconst ci_m1 ?_
        refine by_iret ry_243 (by first | rfl | assumption) ?_
        have f2 : Fr smbR smbT h (xm_si (xm_si h 106 x (nI n)) 160 r.length (nI 1)) := Fr_si (Fr_si Fr_rf (by simp)) (by simp)
        have d1 : sC1 (sSet1 G x n) x = some n := sUp_s _ _ _
        refine hW _ _ e2 f2 ⟨Fr_XF a1 f2 smb_fin, mtp_fr a2 f2 (by simp) (by simp), tgM_fr a3 f2 (by simp), nmM_fr a4 f2 (by simp) (by simp) (by simp), a5, mG0_fr (S := [160]) (T := []) (mG0_set1 a6) (Fr_si Fr_rf (by simp)) (by simp) (by simp), a7, ⟨⟨?_, ?_⟩, mkS_o a8.2 (fun j hj => ⟨?_, ?_⟩) (fun m hm => ⟨rfl, sUp_o _ _ (hxr m hm)⟩)⟩, a9⟩ hsa rfl
        · rw [xq_so (by decide), xq_so (by decide)]; exact hk1
        · rw [xs_same]
          unfold upd
          rw [if_pos rfl]
          unfold ndn
          rw [d1, if_neg (by intro z; cases z.2)]
        · rw [xq_so (by decide), xq_so (by decide)]
        · rw [xs_same]
          unfold upd
          rw [if_neg (by omega), xq_so (by decide)]
      · obtain ⟨k1, k2, k3⟩ := sOK_pop1 hd (by omega) hn hq
        have e2 : sFin t n G (some x :: r) p = sFin t x (sSet1 G x n) r p := by rw [sFin, if_neg hno, if_neg c2]
        have hn1 : ndn G x = 1 := by unfold ndn; rw [if_neg (fun z => c2 z.1)]
        rw [hn1] at hk2
        with_reducible refine xm_go_blk b_X12_joined_0 k_X12_joined_0 ?_
        refine by_aload_n rfl ?_
        refine by_getf cn_243 fl_12_629 (by first | exact rfl | assumption) (by decide) ?_
        refine by_iconst ci_1 ?_
        simp (disch := first | exact Nat.ne_of_beq_eq_false rfl | exact rfl | omega) only [nI_add, xa_sub, xa_mul, pk_div, nm_mod, xa_shr, xa_and7, xa_and1, xa_and255, xa_by_and, nI_m1, Nat.add_sub_cancel, Nat.reducePow, Nat.zero_add, Nat.add_zero, Nat.reduceAdd, Nat.reduceMul, Nat.reduceSub, xf_same, xq_ff, xq_fo, xf_1, xf_2, xs_1, xs_2, xs_same, xq_so, xj_1, xj_2, xj_same, xq_jo, xq_sa1, xq_same, xq_other, upd_s, oI_n, oI_s, h88, xf_102_89 a1, hk1, xf_102_90 a1, hk2, xf_102_6 a1, r1, xf_102_7 a1]
        refine by_isub ?_
        refine by_istore_n (by rw [ml_243]; decide) ?_
        refine by_aload_n rfl ?_
        refine by_getf cn_243 fl_12_184 (by first | exact rfl | assumption) (by decide) ?_
        refine by_iload_n rfl ?_
        simp (disch := first | exact Nat.ne_of_beq_eq_false rfl | exact rfl | omega) only [nI_add, xa_sub, xa_mul, pk_div, nm_mod, xa_shr, xa_and7, xa_and1, xa_and255, xa_by_and, nI_m1, Nat.add_sub_cancel, Nat.reducePow, Nat.zero_add, Nat.add_zero, Nat.reduceAdd, Nat.reduceMul, Nat.reduceSub, xf_same, xq_ff, xq_fo, xf_1, xf_2, xs_1, xs_2, xs_same, xq_so, xj_1, xj_2, xj_same, xq_jo, xq_sa1, xq_same, xq_other, upd_s, oI_n, oI_s, h88, xf_102_89 a1, hk1, xf_102_90 a1, hk2, xf_102_6 a1, r1, xf_102_7 a1]
        first | refine by_iald (by first | exact rfl | assumption | exact ps_1 hpp | exact ps_2 hpp | exact ps_3 hpp | exact ps_4 hpp | exact ps_5 hpp | exact ps_6 hpp | exact ps_7 hpp | exact ps_8 hpp | exact ps_9 hpp | exact ps_10 hpp | exact ps_11 hpp | exact ps_15 hpp | exact ps_16 hpp | exact ps_17 hpp | exact ps_18 hpp | exact ps_19 hpp | exact ps_21 hpp | exact ps_22 hpp | exact ps_23 hpp | exact ps_24 hpp) ⟨by omega, by omega⟩ ?_ | refine by_tald rfl rfl ⟨by omega, by omega⟩ ?_
        refine by_istore_n (by rw [ml_243]; decide) ?_
        refine by_iload_n rfl ?_
        refine by_if_ge 59 rfl ?_
        simp (disch := first | exact Nat.ne_of_beq_eq_false rfl | exact rfl | omega) only [nI_add, xa_sub, xa_mul, pk_div, nm_mod, xa_shr, xa_and7, xa_and1, xa_and255, xa_by_and, nI_m1, Nat.add_sub_cancel, Nat.reducePow, Nat.zero_add, Nat.add_zero, Nat.reduceAdd, Nat.reduceMul, Nat.reduceSub, xf_same, xq_ff, xq_fo, xf_1, xf_2, xs_1, xs_2, xs_same, xq_so, xj_1, xj_2, xj_same, xq_jo, xq_sa1, xq_same, xq_other, upd_s, oI_n, oI_s, xv_0, xv_1, xv_2, xv_3, xm_p1, xm_p2, xq_fp, xq_fn, List.filter_nil, Nat.reduceBEq, Bool.not_true, Bool.not_false, Bool.and_true, Bool.and_false, Bool.false_and, Bool.true_and, if_true, if_false, Bool.false_eq_true, reduceIte, xc_i, xc_j, xc_r, xc_n, List.nil_append, List.cons_append, Option.toList_some, Option.toList_none, nI_ltJ, nI_leJ, nI_eqJ, nI_ltz, nI_gez, nI_gtz, nI_lez, nI_eqz, m1_ltz, m1_gez, true_imp_iff, false_imp_iff, true_and, and_true, ne_eq, not_false_eq_true, not_true_eq_false, Nat.reduceEqDiff, Nat.reduceLT, Nat.reduceLeDiff, h88, xf_102_89 a1, hk1, xf_102_90 a1, hk2, xf_102_6 a1, r1, xf_102_7 a1]
        with_reducible refine xm_go_blk b_X12_joined_59 k_X12_joined_59 ?_
        refine by_aload_n rfl ?_
        refine by_getf cn_243 fl_12_187 (by first | exact rfl | assumption) (by decide) ?_
        refine by_iload_n rfl ?_
        simp (disch := first | exact Nat.ne_of_beq_eq_false rfl | exact rfl | omega) only [nI_add, xa_sub, xa_mul, pk_div, nm_mod, xa_shr, xa_and7, xa_and1, xa_and255, xa_by_and, nI_m1, Nat.add_sub_cancel, Nat.reducePow, Nat.zero_add, Nat.add_zero, Nat.reduceAdd, Nat.reduceMul, Nat.reduceSub, xf_same, xq_ff, xq_fo, xf_1, xf_2, xs_1, xs_2, xs_same, xq_so, xj_1, xj_2, xj_same, xq_jo, xq_sa1, xq_same, xq_other, upd_s, oI_n, oI_s, h88, xf_102_89 a1, hk1, xf_102_90 a1, hk2, xf_102_6 a1, r1, xf_102_7 a1]
        first | refine by_iald (by first | exact rfl | assumption | exact ps_1 hpp | exact ps_2 hpp | exact ps_3 hpp | exact ps_4 hpp | exact ps_5 hpp | exact ps_6 hpp | exact ps_7 hpp | exact ps_8 hpp | exact ps_9 hpp | exact ps_10 hpp | exact ps_11 hpp | exact ps_15 hpp | exact ps_16 hpp | exact ps_17 hpp | exact ps_18 hpp | exact ps_19 hpp | exact ps_21 hpp | exact ps_22 hpp | exact ps_23 hpp | exact ps_24 hpp) ⟨by omega, by omega⟩ ?_ | refine by_tald rfl rfl ⟨by omega, by omega⟩ ?_
        refine by_iconst ci_2 ?_
        refine by_ic_ne 85 rfl ?_
        simp (disch := first | exact Nat.ne_of_beq_eq_false rfl | exact rfl | omega) only [nI_add, xa_sub, xa_mul, pk_div, nm_mod, xa_shr, xa_and7, xa_and1, xa_and255, xa_by_and, nI_m1, Nat.add_sub_cancel, Nat.reducePow, Nat.zero_add, Nat.add_zero, Nat.reduceAdd, Nat.reduceMul, Nat.reduceSub, xf_same, xq_ff, xq_fo, xf_1, xf_2, xs_1, xs_2, xs_same, xq_so, xj_1, xj_2, xj_same, xq_jo, xq_sa1, xq_same, xq_other, upd_s, oI_n, oI_s, xv_0, xv_1, xv_2, xv_3, xm_p1, xm_p2, xq_fp, xq_fn, List.filter_nil, Nat.reduceBEq, Bool.not_true, Bool.not_false, Bool.and_true, Bool.and_false, Bool.false_and, Bool.true_and, if_true, if_false, Bool.false_eq_true, reduceIte, xc_i, xc_j, xc_r, xc_n, List.nil_append, List.cons_append, Option.toList_some, Option.toList_none, nI_ltJ, nI_leJ, nI_eqJ, nI_ltz, nI_gez, nI_gtz, nI_lez, nI_eqz, m1_ltz, m1_gez, true_imp_iff, false_imp_iff, true_and, and_true, ne_eq, not_false_eq_true, not_true_eq_false, Nat.reduceEqDiff, Nat.reduceLT, Nat.reduceLeDiff, h88, xf_102_89 a1, hk1, xf_102_90 a1, hk2, xf_102_6 a1, r1, xf_102_7 a1]
        with_reducible refine xm_go_blk b_X12_joined_85 k_X12_joined_85 ?_
        refine by_aload_n rfl ?_
        refine by_getf cn_243 fl_12_16 (by first | exact rfl | assumption) (by decide) ?_
        refine by_iload_n rfl ?_
        simp (disch := first | exact Nat.ne_of_beq_eq_false rfl | exact rfl | omega) only [nI_add, xa_sub, xa_mul, pk_div, nm_mod, xa_shr, xa_and7, xa_and1, xa_and255, xa_by_and, nI_m1, Nat.add_sub_cancel, Nat.reducePow, Nat.zero_add, Nat.add_zero, Nat.reduceAdd, Nat.reduceMul, Nat.reduceSub, xf_same, xq_ff, xq_fo, xf_1, xf_2, xs_1, xs_2, xs_same, xq_so, xj_1, xj_2, xj_same, xq_jo, xq_sa1, xq_same, xq_other, upd_s, oI_n, oI_s, h88, xf_102_89 a1, hk1, xf_102_90 a1, hk2, xf_102_6 a1, r1, xf_102_7 a1]
        first | refine by_iald (by first | exact rfl | assumption | exact ps_1 hpp | exact ps_2 hpp | exact ps_3 hpp | exact ps_4 hpp | exact ps_5 hpp | exact ps_6 hpp | exact ps_7 hpp | exact ps_8 hpp | exact ps_9 hpp | exact ps_10 hpp | exact ps_11 hpp | exact ps_15 hpp | exact ps_16 hpp | exact ps_17 hpp | exact ps_18 hpp | exact ps_19 hpp | exact ps_21 hpp | exact ps_22 hpp | exact ps_23 hpp | exact ps_24 hpp) ⟨by omega, by omega⟩ ?_ | refine by_tald rfl rfl ⟨by omega, by omega⟩ ?_
        refine by_iconst ci_2 ?_
        refine by_ic_gt 105 rfl ?_
        simp (disch := first | exact Nat.ne_of_beq_eq_false rfl | exact rfl | omega) only [nI_add, xa_sub, xa_mul, pk_div, nm_mod, xa_shr, xa_and7, xa_and1, xa_and255, xa_by_and, nI_m1, Nat.add_sub_cancel, Nat.reducePow, Nat.zero_add, Nat.add_zero, Nat.reduceAdd, Nat.reduceMul, Nat.reduceSub, xf_same, xq_ff, xq_fo, xf_1, xf_2, xs_1, xs_2, xs_same, xq_so, xj_1, xj_2, xj_same, xq_jo, xq_sa1, xq_same, xq_other, upd_s, oI_n, oI_s, xv_0, xv_1, xv_2, xv_3, xm_p1, xm_p2, xq_fp, xq_fn, List.filter_nil, Nat.reduceBEq, Bool.not_true, Bool.not_false, Bool.and_true, Bool.and_false, Bool.false_and, Bool.true_and, if_true, if_false, Bool.false_eq_true, reduceIte, xc_i, xc_j, xc_r, xc_n, List.nil_append, List.cons_append, Option.toList_some, Option.toList_none, nI_ltJ, nI_leJ, nI_eqJ, nI_ltz, nI_gez, nI_gtz, nI_lez, nI_eqz, m1_ltz, m1_gez, true_imp_iff, false_imp_iff, true_and, and_true, ne_eq, not_false_eq_true, not_true_eq_false, Nat.reduceEqDiff, Nat.reduceLT, Nat.reduceLeDiff, h88, xf_102_89 a1, hk1, xf_102_90 a1, hk2, xf_102_6 a1, r1, xf_102_7 a1]
        refine ⟨fun c85 => ?_, fun c => absurd (by omega) c⟩
        with_reducible refine xm_go_blk b_X12_joined_105 k_X12_joined_105 ?_
        refine by_aload_n rfl ?_
        refine by_getf cn_243 fl_12_19 (by first | exact rfl | assumption) (by decide) ?_
        refine by_iload_n rfl ?_
        refine by_iload_n rfl ?_
        simp (disch := first | exact Nat.ne_of_beq_eq_false rfl | exact rfl | omega) only [nI_add, xa_sub, xa_mul, pk_div, nm_mod, xa_shr, xa_and7, xa_and1, xa_and255, xa_by_and, nI_m1, Nat.add_sub_cancel, Nat.reducePow, Nat.zero_add, Nat.add_zero, Nat.reduceAdd, Nat.reduceMul, Nat.reduceSub, xf_same, xq_ff, xq_fo, xf_1, xf_2, xs_1, xs_2, xs_same, xq_so, xj_1, xj_2, xj_same, xq_jo, xq_sa1, xq_same, xq_other, upd_s, oI_n, oI_s, h88, xf_102_89 a1, hk1, xf_102_90 a1, hk2, xf_102_6 a1, r1, xf_102_7 a1]
        refine by_iast (by first | exact rfl | assumption | exact ps_1 hpp | exact ps_2 hpp | exact ps_3 hpp | exact ps_4 hpp | exact ps_5 hpp | exact ps_6 hpp | exact ps_7 hpp | exact ps_8 hpp | exact ps_9 hpp | exact ps_10 hpp | exact ps_11 hpp | exact ps_15 hpp | exact ps_16 hpp | exact ps_17 hpp | exact ps_18 hpp | exact ps_19 hpp | exact ps_21 hpp | exact ps_22 hpp | exact ps_23 hpp | exact ps_24 hpp) ⟨by omega, by omega⟩ ?_
        refine by_nil ?_
        with_reducible refine xm_go_blk b_X12_joined_112 k_X12_joined_112 ?_
        refine by_aload_n rfl ?_
        refine by_dup rfl ?_
        refine by_getf cn_243 fl_12_629 (by first | exact rfl | assumption) (by decide) ?_
        refine by_iconst ci_1 ?_
        simp (disch := first | exact Nat.ne_of_beq_eq_false rfl | exact rfl | omega) only [nI_add, xa_sub, xa_mul, pk_div, nm_mod, xa_shr, xa_and7, xa_and1, xa_and255, xa_by_and, nI_m1, Nat.add_sub_cancel, Nat.reducePow, Nat.zero_add, Nat.add_zero, Nat.reduceAdd, Nat.reduceMul, Nat.reduceSub, xf_same, xq_ff, xq_fo, xf_1, xf_2, xs_1, xs_2, xs_same, xq_so, xj_1, xj_2, xj_same, xq_jo, xq_sa1, xq_same, xq_other, upd_s, oI_n, oI_s, h88, xf_102_89 a1, hk1, xf_102_90 a1, hk2, xf_102_6 a1, r1, xf_102_7 a1]
        refine by_isub ?_
        refine by_putf cn_243 fl_12_629 (by first | exact rfl | assumption) (by decide) nf_12_88 ft_12_88 (by first | rfl | assumption) (by first | rfl | assumption) ?_
        refine by_iload_n rfl ?_
        simp (disch := first | exact Nat.ne_of_beq_eq_false rfl | exact rfl | omega) only [nI_add, xa_sub, xa_mul, pk_div, nm_mod, xa_shr, xa_and7, xa_and1, xa_and255, xa_by_and, nI_m1, Nat.add_sub_cancel, Nat.reducePow, Nat.zero_add, Nat.add_zero, Nat.reduceAdd, Nat.reduceMul, Nat.reduceSub, xf_same, xq_ff, xq_fo, xf_1, xf_2, xs_1, xs_2, xs_same, xq_so, xj_1, xj_2, xj_same, xq_jo, xq_sa1, xq_same, xq_other, upd_s, oI_n, oI_s, h88, xf_102_89 a1, hk1, xf_102_90 a1, hk2, xf_102_6 a1, r1, xf_102_7 a1]
        refine by_iret ry_243 (by first | rfl | assumption) ?_
        have f2 : Fr [106, 107] [(102, 88)] h (xm_sf (xm_si h 106 x (nI n)) 102 88 (.int (nI r.length))) := Fr_sf (Fr_si Fr_rf (by simp)) (by simp)
        exact hP x (sSet1 G x n) p _ e2 (Fr_mo f2 (by simp) (by simp)) (mT1_pop hT' f2 (by simp [xm_sf, updV]) rfl (mG0_set1 a6) (fun m hm => ⟨rfl, sUp_o _ _ (hxr m hm)⟩)) ⟨⟨_, _, k1⟩, nx⟩ k2 k3 (Nat.le_refl _) hpt (by rw [f2.2.2 _ _ (by simp)]; exact hsa) (f2.2.2 _ _ (by simp))
theorem sBeg_e {e f : Nat} (hb : sBeg t NL G st p = .inl (e, f)) : 1 ≤ e ∧ e < 2000 := by
  unfold sBeg at hb
  split at hb
  · cases hb
  · split at hb
    · cases hb; decide
    · split at hb
      · split at hb
        · cases hb; decide
        · cases hb
      · split at hb
        · split at hb
          · cases hb; decide
          · split at hb
            · cases hb; decide
            · split at hb
              · cases hb; decide
              · split at hb
                · cases hb; decide
                · cases hb
        · split at hb
          · cases hb; decide
          · split at hb
            · cases hb
            · split at hb
              · cases hb
              · split at hb
                · cases hb; decide
                · cases hb
theorem sp_mexpression (hF : XF h) (hT : mT1 (xm_sf h 102 88 (.int (nI 0))) t NL G []) (hI : sInv t NL G []) (hsa : h.2.2 102 82 = .int (nI p)) (hpt : p ≤ t.length) (hp2 : 2 ≤ p)
    (hB : ∀ e f h', (∃ k, sXf t NL k G [] p = some (.inl (e, f))) → Fr smbR smbT h h' → h'.2.2 102 81 = .int (nI e) → 1 ≤ e → e < 2000 → h'.2.2 102 36 = .int (nI f) → post (some (.int (-1))) h')
    (hG : ∀ G' p' n h', (∃ k, sXf t NL k G [] p = some (.inr (G', p', n))) → Fr smbR smbT h h' → mT1 h' t NL G' [] → sInv t NL G' [] → n < sCt G' → p < p' → p' ≤ t.length → h'.2.2 102 82 = .int (nI p') → h'.2.2 102 36 = h.2.2 102 36 → post (some (.int (nI n))) h') : xm_T (XE sc) (d + 7) 220 [.ref 102] h post := by
  have ht8 : t.length ≤ 8192 := hT.2.1.2.2.2
  -- a fault ends it
  have bad : ∀ e f (h1 : xm_H) (v : Int32), (∃ k, sXf t NL k G [] p = some (.inl (e, f))) → Fr smbR smbT h h1 → h1.2.2 102 81 = .int (nI e) → 1 ≤ e → e < 2000 → h1.2.2 102 36 = .int (nI f) → xm_go (XE sc) (xm_T (XE sc) (d + 6)) 220 post 30 [(1, .int v), (0, .ref 102)] [] h1 := fun e f h1 v hx f1 s1 e1 e2 q1 => by
    have ne : (e = 0) = False := eq_false (by omega)
    with_reducible refine xm_go_blk b_X12_expression_30 k_X12_expression_30 ?_
    refine by_aload_n rfl ?_
    refine by_getf cn_220 fl_12_592 (by first | exact rfl | assumption) (by decide) ?_
    simp (disch := first | exact Nat.ne_of_beq_eq_false rfl | exact rfl | omega) only [nI_add, xa_sub, xa_mul, pk_div, nm_mod, xa_shr, xa_and7, xa_and1, xa_and255, xa_by_and, nI_m1, Nat.add_sub_cancel, Nat.reducePow, Nat.zero_add, Nat.add_zero, Nat.reduceAdd, Nat.reduceMul, Nat.reduceSub, xf_same, xq_ff, xq_fo, xf_1, xf_2, xs_1, xs_2, xs_same, xq_so, xj_1, xj_2, xj_same, xq_jo, xq_sa1, xq_same, xq_other, upd_s, oI_n, oI_s, s1, ne]
    refine by_if_ne 57 rfl ?_
    simp (disch := first | exact Nat.ne_of_beq_eq_false rfl | exact rfl | omega) only [nI_add, xa_sub, xa_mul, pk_div, nm_mod, xa_shr, xa_and7, xa_and1, xa_and255, xa_by_and, nI_m1, Nat.add_sub_cancel, Nat.reducePow, Nat.zero_add, Nat.add_zero, Nat.reduceAdd, Nat.reduceMul, Nat.reduceSub, xf_same, xq_ff, xq_fo, xf_1, xf_2, xs_1, xs_2, xs_same, xq_so, xj_1, xj_2, xj_same, xq_jo, xq_sa1, xq_same, xq_other, upd_s, oI_n, oI_s, xv_0, xv_1, xv_2, xv_3, xm_p1, xm_p2, xq_fp, xq_fn, List.filter_nil, Nat.reduceBEq, Bool.not_true, Bool.not_false, Bool.and_true, Bool.and_false, Bool.false_and, Bool.true_and, if_true, if_false, Bool.false_eq_true, reduceIte, xc_i, xc_j, xc_r, xc_n, List.nil_append, List.cons_append, Option.toList_some, Option.toList_none, nI_ltJ, nI_leJ, nI_eqJ, nI_ltz, nI_gez, nI_gtz, nI_lez, nI_eqz, m1_ltz, m1_gez, true_imp_iff, false_imp_iff, true_and, and_true, ne_eq, not_false_eq_true, not_true_eq_false, Nat.reduceEqDiff, Nat.reduceLT, Nat.reduceLeDiff, s1, ne]
    with_reducible refine xm_go_blk b_X12_expression_57 k_X12_expression_57 ?_
    refine by_aload_n rfl ?_
    refine by_getf cn_220 fl_12_592 (by first | exact rfl | assumption) (by decide) ?_
    simp (disch := first | exact Nat.ne_of_beq_eq_false rfl | exact rfl | omega) only [nI_add, xa_sub, xa_mul, pk_div, nm_mod, xa_shr, xa_and7, xa_and1, xa_and255, xa_by_and, nI_m1, Nat.add_sub_cancel, Nat.reducePow, Nat.zero_add, Nat.add_zero, Nat.reduceAdd, Nat.reduceMul, Nat.reduceSub, xf_same, xq_ff, xq_fo, xf_1, xf_2, xs_1, xs_2, xs_same, xq_so, xj_1, xj_2, xj_same, xq_jo, xq_sa1, xq_same, xq_other, upd_s, oI_n, oI_s, s1, ne]
    refine by_if_ne 70 rfl ?_
    simp (disch := first | exact Nat.ne_of_beq_eq_false rfl | exact rfl | omega) only [nI_add, xa_sub, xa_mul, pk_div, nm_mod, xa_shr, xa_and7, xa_and1, xa_and255, xa_by_and, nI_m1, Nat.add_sub_cancel, Nat.reducePow, Nat.zero_add, Nat.add_zero, Nat.reduceAdd, Nat.reduceMul, Nat.reduceSub, xf_same, xq_ff, xq_fo, xf_1, xf_2, xs_1, xs_2, xs_same, xq_so, xj_1, xj_2, xj_same, xq_jo, xq_sa1, xq_same, xq_other, upd_s, oI_n, oI_s, xv_0, xv_1, xv_2, xv_3, xm_p1, xm_p2, xq_fp, xq_fn, List.filter_nil, Nat.reduceBEq, Bool.not_true, Bool.not_false, Bool.and_true, Bool.and_false, Bool.false_and, Bool.true_and, if_true, if_false, Bool.false_eq_true, reduceIte, xc_i, xc_j, xc_r, xc_n, List.nil_append, List.cons_append, Option.toList_some, Option.toList_none, nI_ltJ, nI_leJ, nI_eqJ, nI_ltz, nI_gez, nI_gtz, nI_lez, nI_eqz, m1_ltz, m1_gez, true_imp_iff, false_imp_iff, true_and, and_true, ne_eq, not_false_eq_true, not_true_eq_false, Nat.reduceEqDiff, Nat.reduceLT, Nat.reduceLeDiff, s1, ne]
    with_reducible refine xm_go_blk b_X12_expression_70 k_X12_expression_70 ?_
    refine by_goto 5 rfl ?_
    with_reducible refine xm_go_blk b_X12_expression_5 k_X12_expression_5 ?_
    refine by_aload_n rfl ?_
    refine by_getf cn_220 fl_12_592 (by first | exact rfl | assumption) (by decide) ?_
    simp (disch := first | exact Nat.ne_of_beq_eq_false rfl | exact rfl | omega) only [nI_add, xa_sub, xa_mul, pk_div, nm_mod, xa_shr, xa_and7, xa_and1, xa_and255, xa_by_and, nI_m1, Nat.add_sub_cancel, Nat.reducePow, Nat.zero_add, Nat.add_zero, Nat.reduceAdd, Nat.reduceMul, Nat.reduceSub, xf_same, xq_ff, xq_fo, xf_1, xf_2, xs_1, xs_2, xs_same, xq_so, xj_1, xj_2, xj_same, xq_jo, xq_sa1, xq_same, xq_other, upd_s, oI_n, oI_s, s1, ne]
    refine by_if_ne 73 rfl ?_
    simp (disch := first | exact Nat.ne_of_beq_eq_false rfl | exact rfl | omega) only [nI_add, xa_sub, xa_mul, pk_div, nm_mod, xa_shr, xa_and7, xa_and1, xa_and255, xa_by_and, nI_m1, Nat.add_sub_cancel, Nat.reducePow, Nat.zero_add, Nat.add_zero, Nat.reduceAdd, Nat.reduceMul, Nat.reduceSub, xf_same, xq_ff, xq_fo, xf_1, xf_2, xs_1, xs_2, xs_same, xq_so, xj_1, xj_2, xj_same, xq_jo, xq_sa1, xq_same, xq_other, upd_s, oI_n, oI_s, xv_0, xv_1, xv_2, xv_3, xm_p1, xm_p2, xq_fp, xq_fn, List.filter_nil, Nat.reduceBEq, Bool.not_true, Bool.not_false, Bool.and_true, Bool.and_false, Bool.false_and, Bool.true_and, if_true, if_false, Bool.false_eq_true, reduceIte, xc_i, xc_j, xc_r, xc_n, List.nil_append, List.cons_append, Option.toList_some, Option.toList_none, nI_ltJ, nI_leJ, nI_eqJ, nI_ltz, nI_gez, nI_gtz, nI_lez, nI_eqz, m1_ltz, m1_gez, true_imp_iff, false_imp_iff, true_and, and_true, ne_eq, not_false_eq_true, not_true_eq_false, Nat.reduceEqDiff, Nat.reduceLT, Nat.reduceLeDiff, s1, ne]
    with_reducible refine xm_go_blk b_X12_expression_73 k_X12_expression_73 ?_
    refine by_iconst ci_m1 ?_
    refine by_iret ry_220 (by first | rfl | assumption) ?_
    exact hB e f h1 hx f1 s1 e1 e2 q1
  have key : ∀ (m : Nat) (G1 : sG) (st1 : List (Option Nat)) (p1 : Nat) (h1 : xm_H) (lv : xm_L), (0, Value.ref 102) ∈ lv → t.length - p1 < m → (∀ o, (∃ k, sXf t NL k G1 st1 p1 = some o) → ∃ k, sXf t NL k G [] p = some o) → mT1 h1 t NL G1 st1 → sInv t NL G1 st1 → p ≤ p1 → p1 ≤ t.length → st1.length + 2 ≤ p1 → Fr smbR smbT h h1 → h1.2.2 102 82 = .int (nI p1) → h1.2.2 102 36 = h.2.2 102 36 → xm_go (XE sc) (xm_T (XE sc) (d + 6)) 220 post 5 [(0, .ref 102)] [] h1 := by
    intro m
    induction m with
    | zero => intro G1 st1 p1 h1 lv _ hm; omega
    | succ m ih =>
      intro G1 st1 p1 h1 lv hlv hm hs hT1 hI1 hpp1 hp1 hst1 f1 sa1 q1
      have s1 : h1.2.2 102 81 = .int (nI 0) := hT1.2.2.2.2.2.2.2.2
      with_reducible refine xm_go_blk b_X12_expression_5 k_X12_expression_5 ?_
      refine by_aload_n rfl ?_
      refine by_getf cn_220 fl_12_592 (by first | exact rfl | assumption) (by decide) ?_
      simp (disch := first | exact Nat.ne_of_beq_eq_false rfl | exact rfl | omega) only [nI_add, xa_sub, xa_mul, pk_div, nm_mod, xa_shr, xa_and7, xa_and1, xa_and255, xa_by_and, nI_m1, Nat.add_sub_cancel, Nat.reducePow, Nat.zero_add, Nat.add_zero, Nat.reduceAdd, Nat.reduceMul, Nat.reduceSub, xf_same, xq_ff, xq_fo, xf_1, xf_2, xs_1, xs_2, xs_same, xq_so, xj_1, xj_2, xj_same, xq_jo, xq_sa1, xq_same, xq_other, upd_s, oI_n, oI_s, s1]
      refine by_if_ne 73 rfl ?_
      simp (disch := first | exact Nat.ne_of_beq_eq_false rfl | exact rfl | omega) only [nI_add, xa_sub, xa_mul, pk_div, nm_mod, xa_shr, xa_and7, xa_and1, xa_and255, xa_by_and, nI_m1, Nat.add_sub_cancel, Nat.reducePow, Nat.zero_add, Nat.add_zero, Nat.reduceAdd, Nat.reduceMul, Nat.reduceSub, xf_same, xq_ff, xq_fo, xf_1, xf_2, xs_1, xs_2, xs_same, xq_so, xj_1, xj_2, xj_same, xq_jo, xq_sa1, xq_same, xq_other, upd_s, oI_n, oI_s, xv_0, xv_1, xv_2, xv_3, xm_p1, xm_p2, xq_fp, xq_fn, List.filter_nil, Nat.reduceBEq, Bool.not_true, Bool.not_false, Bool.and_true, Bool.and_false, Bool.false_and, Bool.true_and, if_true, if_false, Bool.false_eq_true, reduceIte, xc_i, xc_j, xc_r, xc_n, List.nil_append, List.cons_append, Option.toList_some, Option.toList_none, nI_ltJ, nI_leJ, nI_eqJ, nI_ltz, nI_gez, nI_gtz, nI_lez, nI_eqz, m1_ltz, m1_gez, true_imp_iff, false_imp_iff, true_and, and_true, ne_eq, not_false_eq_true, not_true_eq_false, Nat.reduceEqDiff, Nat.reduceLT, Nat.reduceLeDiff, s1]
      with_reducible refine xm_go_blk b_X12_expression_12 k_X12_expression_12 ?_
      refine by_aload_n rfl ?_
      refine by_inv0 cn_220 lk_12_613 (by rw [xe_cnt]; decide) is_267 np_267 cn_267 (by first | exact rfl | assumption) (Nat.le_of_ble_eq_true rfl) ?_
      refine sp_mnextWord (d := d + 3) hT1.1 hT1.2.1 sa1 s1 hp1 (fun h2 k1 f2 s2 q2 => ?_) (fun h2 k1 f2 w2 => ?_)
      · have eb : sBeg t NL G1 st1 p1 = .inl (1, tkF t p1) := by
          unfold sBeg
          rw [if_neg (by rw [k1]; decide)]
          have : wdO t p1 = none := by unfold wdO; rw [if_neg (by rw [k1]; intro z; cases z.1)]
          rw [this]
        with_reducible refine xm_go_blk b_X12_expression_16 k_X12_expression_16 ?_
        refine by_aload_n rfl ?_
        refine by_getf cn_220 fl_12_592 (by first | exact rfl | assumption) (by decide) ?_
        simp (disch := first | exact Nat.ne_of_beq_eq_false rfl | exact rfl | omega) only [nI_add, xa_sub, xa_mul, pk_div, nm_mod, xa_shr, xa_and7, xa_and1, xa_and255, xa_by_and, nI_m1, Nat.add_sub_cancel, Nat.reducePow, Nat.zero_add, Nat.add_zero, Nat.reduceAdd, Nat.reduceMul, Nat.reduceSub, xf_same, xq_ff, xq_fo, xf_1, xf_2, xs_1, xs_2, xs_same, xq_so, xj_1, xj_2, xj_same, xq_jo, xq_sa1, xq_same, xq_other, upd_s, oI_n, oI_s, s2]
        refine by_if_le 25 rfl ?_
        simp (disch := first | exact Nat.ne_of_beq_eq_false rfl | exact rfl | omega) only [nI_add, xa_sub, xa_mul, pk_div, nm_mod, xa_shr, xa_and7, xa_and1, xa_and255, xa_by_and, nI_m1, Nat.add_sub_cancel, Nat.reducePow, Nat.zero_add, Nat.add_zero, Nat.reduceAdd, Nat.reduceMul, Nat.reduceSub, xf_same, xq_ff, xq_fo, xf_1, xf_2, xs_1, xs_2, xs_same, xq_so, xj_1, xj_2, xj_same, xq_jo, xq_sa1, xq_same, xq_other, upd_s, oI_n, oI_s, xv_0, xv_1, xv_2, xv_3, xm_p1, xm_p2, xq_fp, xq_fn, List.filter_nil, Nat.reduceBEq, Bool.not_true, Bool.not_false, Bool.and_true, Bool.and_false, Bool.false_and, Bool.true_and, if_true, if_false, Bool.false_eq_true, reduceIte, xc_i, xc_j, xc_r, xc_n, List.nil_append, List.cons_append, Option.toList_some, Option.toList_none, nI_ltJ, nI_leJ, nI_eqJ, nI_ltz, nI_gez, nI_gtz, nI_lez, nI_eqz, m1_ltz, m1_gez, true_imp_iff, false_imp_iff, true_and, and_true, ne_eq, not_false_eq_true, not_true_eq_false, Nat.reduceEqDiff, Nat.reduceLT, Nat.reduceLeDiff, s2]
        with_reducible refine xm_go_blk b_X12_expression_23 k_X12_expression_23 ?_
        refine by_iconst ci_m1 ?_
        refine by_iret ry_220 (by first | rfl | assumption) ?_
        exact hB 1 _ h2 (hs _ ⟨1, sT_b eb⟩) (Fr_tr f1 f2 (by simp) (by simp)) s2 (by decide) (by decide) q2
      · have T2 := mT1_w hT1 f2
        have s2 : h2.2.2 102 81 = .int (nI 0) := T2.2.2.2.2.2.2.2.2
        have g2 : Fr smbR smbT h h2 := Fr_tr f1 f2 (by simp) (by simp)
        with_reducible refine xm_go_blk b_X12_expression_16 k_X12_expression_16 ?_
        refine by_aload_n rfl ?_
        refine by_getf cn_220 fl_12_592 (by first | exact rfl | assumption) (by decide) ?_
        simp (disch := first | exact Nat.ne_of_beq_eq_false rfl | exact rfl | omega) only [nI_add, xa_sub, xa_mul, pk_div, nm_mod, xa_shr, xa_and7, xa_and1, xa_and255, xa_by_and, nI_m1, Nat.add_sub_cancel, Nat.reducePow, Nat.zero_add, Nat.add_zero, Nat.reduceAdd, Nat.reduceMul, Nat.reduceSub, xf_same, xq_ff, xq_fo, xf_1, xf_2, xs_1, xs_2, xs_same, xq_so, xj_1, xj_2, xj_same, xq_jo, xq_sa1, xq_same, xq_other, upd_s, oI_n, oI_s, s2]
        refine by_if_le 25 rfl ?_
        simp (disch := first | exact Nat.ne_of_beq_eq_false rfl | exact rfl | omega) only [nI_add, xa_sub, xa_mul, pk_div, nm_mod, xa_shr, xa_and7, xa_and1, xa_and255, xa_by_and, nI_m1, Nat.add_sub_cancel, Nat.reducePow, Nat.zero_add, Nat.add_zero, Nat.reduceAdd, Nat.reduceMul, Nat.reduceSub, xf_same, xq_ff, xq_fo, xf_1, xf_2, xs_1, xs_2, xs_same, xq_so, xj_1, xj_2, xj_same, xq_jo, xq_sa1, xq_same, xq_other, upd_s, oI_n, oI_s, xv_0, xv_1, xv_2, xv_3, xm_p1, xm_p2, xq_fp, xq_fn, List.filter_nil, Nat.reduceBEq, Bool.not_true, Bool.not_false, Bool.and_true, Bool.and_false, Bool.false_and, Bool.true_and, if_true, if_false, Bool.false_eq_true, reduceIte, xc_i, xc_j, xc_r, xc_n, List.nil_append, List.cons_append, Option.toList_some, Option.toList_none, nI_ltJ, nI_leJ, nI_eqJ, nI_ltz, nI_gez, nI_gtz, nI_lez, nI_eqz, m1_ltz, m1_gez, true_imp_iff, false_imp_iff, true_and, and_true, ne_eq, not_false_eq_true, not_true_eq_false, Nat.reduceEqDiff, Nat.reduceLT, Nat.reduceLeDiff, s2]
        with_reducible refine xm_go_blk b_X12_expression_25 k_X12_expression_25 ?_
        refine by_aload_n rfl ?_
        refine by_inv0 cn_220 lk_12_647 (by rw [xe_cnt]; decide) is_206 np_206 cn_206 (by first | exact rfl | assumption) (Nat.le_of_ble_eq_true rfl) ?_
        refine sp_begun (d := d) T2 hI1 w2 hp1 hst1 k1 (fun e f h3 eb f3 s3 q3 => ?_) (fun S o h3 eb f3 T3 s3 q3 => ?_)
        · with_reducible refine xm_go_blk b_X12_expression_29 k_X12_expression_29 ?_
          refine by_istore_n (by rw [ml_220]; decide) ?_
          refine by_nil ?_
          try simp (disch := first | exact Nat.ne_of_beq_eq_false rfl | exact rfl | omega) only [nI_add, xa_sub, xa_mul, pk_div, nm_mod, xa_shr, xa_and7, xa_and1, xa_and255, xa_by_and, nI_m1, Nat.add_sub_cancel, Nat.reducePow, Nat.zero_add, Nat.add_zero, Nat.reduceAdd, Nat.reduceMul, Nat.reduceSub, xf_same, xq_ff, xq_fo, xf_1, xf_2, xs_1, xs_2, xs_same, xq_so, xj_1, xj_2, xj_same, xq_jo, xq_sa1, xq_same, xq_other, upd_s, oI_n, oI_s, xv_0, xv_1, xv_2, xv_3, xm_p1, xm_p2, xq_fp, xq_fn, List.filter_nil, Nat.reduceBEq, Bool.not_true, Bool.not_false, Bool.and_true, Bool.and_false, Bool.false_and, Bool.true_and, if_true, if_false, Bool.false_eq_true, reduceIte, xc_i, xc_j, xc_r, xc_n, List.nil_append, List.cons_append, Option.toList_some, Option.toList_none]
          obtain ⟨e1, e2⟩ := sBeg_e eb
          exact xm_go_wk (by simp [Value.category]) (bad e f h3 (-1) (hs _ ⟨1, sT_b eb⟩) (Fr_tr g2 f3 (fun _ z => z) (fun _ z => z)) s3 e1 e2 q3)
        · obtain ⟨k1', k2, k3, k4, k5⟩ := sBeg_ok hI1 hp1 eb
          have g3 : Fr smbR smbT h h3 := Fr_tr g2 f3 (fun _ z => z) (fun _ z => z)
          have q3' : h3.2.2 102 36 = h.2.2 102 36 := by rw [q3, f2.2.2 _ _ (by simp)]; exact q1
          have wait : ∀ (S' : sS) (h4 : xm_H), (∀ o, (∃ k, sXf t NL k S'.1 S'.2.1 S'.2.2 = some o) → ∃ k, sXf t NL k G [] p = some o) → mT1 h4 t NL S'.1 S'.2.1 → sInv t NL S'.1 S'.2.1 → p1 < S'.2.2 → S'.2.2 ≤ t.length → S'.2.1.length + 2 ≤ S'.2.2 → Fr smbR smbT h h4 → h4.2.2 102 82 = .int (nI S'.2.2) → h4.2.2 102 36 = h.2.2 102 36 → xm_go (XE sc) (xm_T (XE sc) (d + 6)) 220 post 30 [(1, .int (-1)), (0, .ref 102)] [] h4 := fun S' h4 z1 z2 z3 z4 z5 z6 z7 z8 z9 => by
            have s4 : h4.2.2 102 81 = .int (nI 0) := z2.2.2.2.2.2.2.2.2
            with_reducible refine xm_go_blk b_X12_expression_30 k_X12_expression_30 ?_
            refine by_aload_n rfl ?_
            refine by_getf cn_220 fl_12_592 (by first | exact rfl | assumption) (by decide) ?_
            simp (disch := first | exact Nat.ne_of_beq_eq_false rfl | exact rfl | omega) only [nI_add, xa_sub, xa_mul, pk_div, nm_mod, xa_shr, xa_and7, xa_and1, xa_and255, xa_by_and, nI_m1, Nat.add_sub_cancel, Nat.reducePow, Nat.zero_add, Nat.add_zero, Nat.reduceAdd, Nat.reduceMul, Nat.reduceSub, xf_same, xq_ff, xq_fo, xf_1, xf_2, xs_1, xs_2, xs_same, xq_so, xj_1, xj_2, xj_same, xq_jo, xq_sa1, xq_same, xq_other, upd_s, oI_n, oI_s, s4]
            refine by_if_ne 57 rfl ?_
            simp (disch := first | exact Nat.ne_of_beq_eq_false rfl | exact rfl | omega) only [nI_add, xa_sub, xa_mul, pk_div, nm_mod, xa_shr, xa_and7, xa_and1, xa_and255, xa_by_and, nI_m1, Nat.add_sub_cancel, Nat.reducePow, Nat.zero_add, Nat.add_zero, Nat.reduceAdd, Nat.reduceMul, Nat.reduceSub, xf_same, xq_ff, xq_fo, xf_1, xf_2, xs_1, xs_2, xs_same, xq_so, xj_1, xj_2, xj_same, xq_jo, xq_sa1, xq_same, xq_other, upd_s, oI_n, oI_s, xv_0, xv_1, xv_2, xv_3, xm_p1, xm_p2, xq_fp, xq_fn, List.filter_nil, Nat.reduceBEq, Bool.not_true, Bool.not_false, Bool.and_true, Bool.and_false, Bool.false_and, Bool.true_and, if_true, if_false, Bool.false_eq_true, reduceIte, xc_i, xc_j, xc_r, xc_n, List.nil_append, List.cons_append, Option.toList_some, Option.toList_none, nI_ltJ, nI_leJ, nI_eqJ, nI_ltz, nI_gez, nI_gtz, nI_lez, nI_eqz, m1_ltz, m1_gez, true_imp_iff, false_imp_iff, true_and, and_true, ne_eq, not_false_eq_true, not_true_eq_false, Nat.reduceEqDiff, Nat.reduceLT, Nat.reduceLeDiff, s4]
            with_reducible refine xm_go_blk b_X12_expression_37 k_X12_expression_37 ?_
            refine by_iload_n rfl ?_
            refine by_if_lt 57 rfl ?_
            simp (disch := first | exact Nat.ne_of_beq_eq_false rfl | exact rfl | omega) only [nI_add, xa_sub, xa_mul, pk_div, nm_mod, xa_shr, xa_and7, xa_and1, xa_and255, xa_by_and, nI_m1, Nat.add_sub_cancel, Nat.reducePow, Nat.zero_add, Nat.add_zero, Nat.reduceAdd, Nat.reduceMul, Nat.reduceSub, xf_same, xq_ff, xq_fo, xf_1, xf_2, xs_1, xs_2, xs_same, xq_so, xj_1, xj_2, xj_same, xq_jo, xq_sa1, xq_same, xq_other, upd_s, oI_n, oI_s, xv_0, xv_1, xv_2, xv_3, xm_p1, xm_p2, xq_fp, xq_fn, List.filter_nil, Nat.reduceBEq, Bool.not_true, Bool.not_false, Bool.and_true, Bool.and_false, Bool.false_and, Bool.true_and, if_true, if_false, Bool.false_eq_true, reduceIte, xc_i, xc_j, xc_r, xc_n, List.nil_append, List.cons_append, Option.toList_some, Option.toList_none, nI_ltJ, nI_leJ, nI_eqJ, nI_ltz, nI_gez, nI_gtz, nI_lez, nI_eqz, m1_ltz, m1_gez, true_imp_iff, false_imp_iff, true_and, and_true, ne_eq, not_false_eq_true, not_true_eq_false, Nat.reduceEqDiff, Nat.reduceLT, Nat.reduceLeDiff, s4]
            with_reducible refine xm_go_blk b_X12_expression_57 k_X12_expression_57 ?_
            refine by_aload_n rfl ?_
            refine by_getf cn_220 fl_12_592 (by first | exact rfl | assumption) (by decide) ?_
            simp (disch := first | exact Nat.ne_of_beq_eq_false rfl | exact rfl | omega) only [nI_add, xa_sub, xa_mul, pk_div, nm_mod, xa_shr, xa_and7, xa_and1, xa_and255, xa_by_and, nI_m1, Nat.add_sub_cancel, Nat.reducePow, Nat.zero_add, Nat.add_zero, Nat.reduceAdd, Nat.reduceMul, Nat.reduceSub, xf_same, xq_ff, xq_fo, xf_1, xf_2, xs_1, xs_2, xs_same, xq_so, xj_1, xj_2, xj_same, xq_jo, xq_sa1, xq_same, xq_other, upd_s, oI_n, oI_s, s4]
            refine by_if_ne 70 rfl ?_
            simp (disch := first | exact Nat.ne_of_beq_eq_false rfl | exact rfl | omega) only [nI_add, xa_sub, xa_mul, pk_div, nm_mod, xa_shr, xa_and7, xa_and1, xa_and255, xa_by_and, nI_m1, Nat.add_sub_cancel, Nat.reducePow, Nat.zero_add, Nat.add_zero, Nat.reduceAdd, Nat.reduceMul, Nat.reduceSub, xf_same, xq_ff, xq_fo, xf_1, xf_2, xs_1, xs_2, xs_same, xq_so, xj_1, xj_2, xj_same, xq_jo, xq_sa1, xq_same, xq_other, upd_s, oI_n, oI_s, xv_0, xv_1, xv_2, xv_3, xm_p1, xm_p2, xq_fp, xq_fn, List.filter_nil, Nat.reduceBEq, Bool.not_true, Bool.not_false, Bool.and_true, Bool.and_false, Bool.false_and, Bool.true_and, if_true, if_false, Bool.false_eq_true, reduceIte, xc_i, xc_j, xc_r, xc_n, List.nil_append, List.cons_append, Option.toList_some, Option.toList_none, nI_ltJ, nI_leJ, nI_eqJ, nI_ltz, nI_gez, nI_gtz, nI_lez, nI_eqz, m1_ltz, m1_gez, true_imp_iff, false_imp_iff, true_and, and_true, ne_eq, not_false_eq_true, not_true_eq_false, Nat.reduceEqDiff, Nat.reduceLT, Nat.reduceLeDiff, s4]
            with_reducible refine xm_go_blk b_X12_expression_64 k_X12_expression_64 ?_
            refine by_iload_n rfl ?_
            refine by_if_lt 70 rfl ?_
            simp (disch := first | exact Nat.ne_of_beq_eq_false rfl | exact rfl | omega) only [nI_add, xa_sub, xa_mul, pk_div, nm_mod, xa_shr, xa_and7, xa_and1, xa_and255, xa_by_and, nI_m1, Nat.add_sub_cancel, Nat.reducePow, Nat.zero_add, Nat.add_zero, Nat.reduceAdd, Nat.reduceMul, Nat.reduceSub, xf_same, xq_ff, xq_fo, xf_1, xf_2, xs_1, xs_2, xs_same, xq_so, xj_1, xj_2, xj_same, xq_jo, xq_sa1, xq_same, xq_other, upd_s, oI_n, oI_s, xv_0, xv_1, xv_2, xv_3, xm_p1, xm_p2, xq_fp, xq_fn, List.filter_nil, Nat.reduceBEq, Bool.not_true, Bool.not_false, Bool.and_true, Bool.and_false, Bool.false_and, Bool.true_and, if_true, if_false, Bool.false_eq_true, reduceIte, xc_i, xc_j, xc_r, xc_n, List.nil_append, List.cons_append, Option.toList_some, Option.toList_none, nI_ltJ, nI_leJ, nI_eqJ, nI_ltz, nI_gez, nI_gtz, nI_lez, nI_eqz, m1_ltz, m1_gez, true_imp_iff, false_imp_iff, true_and, and_true, ne_eq, not_false_eq_true, not_true_eq_false, Nat.reduceEqDiff, Nat.reduceLT, Nat.reduceLeDiff, s4]
            with_reducible refine xm_go_blk b_X12_expression_70 k_X12_expression_70 ?_
            refine by_goto 5 rfl ?_
            exact xm_go_wk (by simp [Value.category]) (ih S'.1 S'.2.1 S'.2.2 h4 [(0, .ref 102)] (by simp) (by omega) z1 z2 z3 (by omega) z5 z6 z7 z8 z9)
          cases o with
          | none =>
            show xm_go (XE sc) (xm_T (XE sc) (d + 6)) 220 post 29 [(0, .ref 102)] [.int (-1)] h3
            with_reducible refine xm_go_blk b_X12_expression_29 k_X12_expression_29 ?_
            refine by_istore_n (by rw [ml_220]; decide) ?_
            refine by_nil ?_
            try simp (disch := first | exact Nat.ne_of_beq_eq_false rfl | exact rfl | omega) only [nI_add, xa_sub, xa_mul, pk_div, nm_mod, xa_shr, xa_and7, xa_and1, xa_and255, xa_by_and, nI_m1, Nat.add_sub_cancel, Nat.reducePow, Nat.zero_add, Nat.add_zero, Nat.reduceAdd, Nat.reduceMul, Nat.reduceSub, xf_same, xq_ff, xq_fo, xf_1, xf_2, xs_1, xs_2, xs_same, xq_so, xj_1, xj_2, xj_same, xq_jo, xq_sa1, xq_same, xq_other, upd_s, oI_n, oI_s, xv_0, xv_1, xv_2, xv_3, xm_p1, xm_p2, xq_fp, xq_fn, List.filter_nil, Nat.reduceBEq, Bool.not_true, Bool.not_false, Bool.and_true, Bool.and_false, Bool.false_and, Bool.true_and, if_true, if_false, Bool.false_eq_true, reduceIte, xc_i, xc_j, xc_r, xc_n, List.nil_append, List.cons_append, Option.toList_some, Option.toList_none]
            exact xm_go_wk (by simp [Value.category]) (wait S h3 (fun o ho => hs o (by obtain ⟨k, hk⟩ := ho; exact ⟨k + 1, by rw [sT_w eb]; exact hk⟩)) T3 k1' k3 k4 (by omega) g3 s3 q3')
          | some n =>
            obtain ⟨n1, n2⟩ := k2 n rfl
            have fin : ∀ (s : List (Option Nat)) (G2 : sG) (v p2 : Nat) (h4 : xm_H), sFin t v G2 s p2 = sFin t n S.1 S.2.1 S.2.2 → mT1 h4 t NL G2 s → sInv t NL G2 s → v < sCt G2 → v ∉ stl s → S.2.2 ≤ p2 → p2 ≤ t.length → s.length + 2 ≤ p2 → Fr smbR smbT h h4 → h4.2.2 102 82 = .int (nI p2) → h4.2.2 102 36 = h.2.2 102 36 → xm_go (XE sc) (xm_T (XE sc) (d + 6)) 220 post 30 [(1, .int (nI v)), (0, .ref 102)] [] h4 := by
              intro s
              induction s with
              | nil =>
                intro G2 v p2 h4 he T4 I4 v1 v2 hp2 hp2t hs2 f4 sa4 q4
                have s4 : h4.2.2 102 81 = .int (nI 0) := T4.2.2.2.2.2.2.2.2
                have p4 : h4.2.2 102 88 = .int (nI 0) := T4.2.2.2.2.2.2.1
                have hN : sCt G2 ≤ 2000 := by obtain ⟨⟨rk, M, hd⟩, _⟩ := I4; exact hd.1
                have ef : sFin t n S.1 S.2.1 S.2.2 = .inr ((G2, [], p2), some v) := by rw [← he]; rfl
                with_reducible refine xm_go_blk b_X12_expression_30 k_X12_expression_30 ?_
                refine by_aload_n rfl ?_
                refine by_getf cn_220 fl_12_592 (by first | exact rfl | assumption) (by decide) ?_
                simp (disch := first | exact Nat.ne_of_beq_eq_false rfl | exact rfl | omega) only [nI_add, xa_sub, xa_mul, pk_div, nm_mod, xa_shr, xa_and7, xa_and1, xa_and255, xa_by_and, nI_m1, Nat.add_sub_cancel, Nat.reducePow, Nat.zero_add, Nat.add_zero, Nat.reduceAdd, Nat.reduceMul, Nat.reduceSub, xf_same, xq_ff, xq_fo, xf_1, xf_2, xs_1, xs_2, xs_same, xq_so, xj_1, xj_2, xj_same, xq_jo, xq_sa1, xq_same, xq_other, upd_s, oI_n, oI_s, s4, p4]
                refine by_if_ne 57 rfl ?_
                simp (disch := first | exact Nat.ne_of_beq_eq_false rfl | exact rfl | omega) only [nI_add, xa_sub, xa_mul, pk_div, nm_mod, xa_shr, xa_and7, xa_and1, xa_and255, xa_by_and, nI_m1, Nat.add_sub_cancel, Nat.reducePow, Nat.zero_add, Nat.add_zero, Nat.reduceAdd, Nat.reduceMul, Nat.reduceSub, xf_same, xq_ff, xq_fo, xf_1, xf_2, xs_1, xs_2, xs_same, xq_so, xj_1, xj_2, xj_same, xq_jo, xq_sa1, xq_same, xq_other, upd_s, oI_n, oI_s, xv_0, xv_1, xv_2, xv_3, xm_p1, xm_p2, xq_fp, xq_fn, List.filter_nil, Nat.reduceBEq, Bool.not_true, Bool.not_false, Bool.and_true, Bool.and_false, Bool.false_and, Bool.true_and, if_true, if_false, Bool.false_eq_true, reduceIte, xc_i, xc_j, xc_r, xc_n, List.nil_append, List.cons_append, Option.toList_some, Option.toList_none, nI_ltJ, nI_leJ, nI_eqJ, nI_ltz, nI_gez, nI_gtz, nI_lez, nI_eqz, m1_ltz, m1_gez, true_imp_iff, false_imp_iff, true_and, and_true, ne_eq, not_false_eq_true, not_true_eq_false, Nat.reduceEqDiff, Nat.reduceLT, Nat.reduceLeDiff, s4, p4]
                with_reducible refine xm_go_blk b_X12_expression_37 k_X12_expression_37 ?_
                refine by_iload_n rfl ?_
                refine by_if_lt 57 rfl ?_
                simp (disch := first | exact Nat.ne_of_beq_eq_false rfl | exact rfl | omega) only [nI_add, xa_sub, xa_mul, pk_div, nm_mod, xa_shr, xa_and7, xa_and1, xa_and255, xa_by_and, nI_m1, Nat.add_sub_cancel, Nat.reducePow, Nat.zero_add, Nat.add_zero, Nat.reduceAdd, Nat.reduceMul, Nat.reduceSub, xf_same, xq_ff, xq_fo, xf_1, xf_2, xs_1, xs_2, xs_same, xq_so, xj_1, xj_2, xj_same, xq_jo, xq_sa1, xq_same, xq_other, upd_s, oI_n, oI_s, xv_0, xv_1, xv_2, xv_3, xm_p1, xm_p2, xq_fp, xq_fn, List.filter_nil, Nat.reduceBEq, Bool.not_true, Bool.not_false, Bool.and_true, Bool.and_false, Bool.false_and, Bool.true_and, if_true, if_false, Bool.false_eq_true, reduceIte, xc_i, xc_j, xc_r, xc_n, List.nil_append, List.cons_append, Option.toList_some, Option.toList_none, nI_ltJ, nI_leJ, nI_eqJ, nI_ltz, nI_gez, nI_gtz, nI_lez, nI_eqz, m1_ltz, m1_gez, true_imp_iff, false_imp_iff, true_and, and_true, ne_eq, not_false_eq_true, not_true_eq_false, Nat.reduceEqDiff, Nat.reduceLT, Nat.reduceLeDiff, s4, p4]
                with_reducible refine xm_go_blk b_X12_expression_41 k_X12_expression_41 ?_
                refine by_aload_n rfl ?_
                refine by_getf cn_220 fl_12_629 (by first | exact rfl | assumption) (by decide) ?_
                simp (disch := first | exact Nat.ne_of_beq_eq_false rfl | exact rfl | omega) only [nI_add, xa_sub, xa_mul, pk_div, nm_mod, xa_shr, xa_and7, xa_and1, xa_and255, xa_by_and, nI_m1, Nat.add_sub_cancel, Nat.reducePow, Nat.zero_add, Nat.add_zero, Nat.reduceAdd, Nat.reduceMul, Nat.reduceSub, xf_same, xq_ff, xq_fo, xf_1, xf_2, xs_1, xs_2, xs_same, xq_so, xj_1, xj_2, xj_same, xq_jo, xq_sa1, xq_same, xq_other, upd_s, oI_n, oI_s, s4, p4]
                refine by_if_le 57 rfl ?_
                simp (disch := first | exact Nat.ne_of_beq_eq_false rfl | exact rfl | omega) only [nI_add, xa_sub, xa_mul, pk_div, nm_mod, xa_shr, xa_and7, xa_and1, xa_and255, xa_by_and, nI_m1, Nat.add_sub_cancel, Nat.reducePow, Nat.zero_add, Nat.add_zero, Nat.reduceAdd, Nat.reduceMul, Nat.reduceSub, xf_same, xq_ff, xq_fo, xf_1, xf_2, xs_1, xs_2, xs_same, xq_so, xj_1, xj_2, xj_same, xq_jo, xq_sa1, xq_same, xq_other, upd_s, oI_n, oI_s, xv_0, xv_1, xv_2, xv_3, xm_p1, xm_p2, xq_fp, xq_fn, List.filter_nil, Nat.reduceBEq, Bool.not_true, Bool.not_false, Bool.and_true, Bool.and_false, Bool.false_and, Bool.true_and, if_true, if_false, Bool.false_eq_true, reduceIte, xc_i, xc_j, xc_r, xc_n, List.nil_append, List.cons_append, Option.toList_some, Option.toList_none, nI_ltJ, nI_leJ, nI_eqJ, nI_ltz, nI_gez, nI_gtz, nI_lez, nI_eqz, m1_ltz, m1_gez, true_imp_iff, false_imp_iff, true_and, and_true, ne_eq, not_false_eq_true, not_true_eq_false, Nat.reduceEqDiff, Nat.reduceLT, Nat.reduceLeDiff, s4, p4]
                with_reducible refine xm_go_blk b_X12_expression_57 k_X12_expression_57 ?_
                refine by_aload_n rfl ?_
                refine by_getf cn_220 fl_12_592 (by first | exact rfl | assumption) (by decide) ?_
                simp (disch := first | exact Nat.ne_of_beq_eq_false rfl | exact rfl | omega) only [nI_add, xa_sub, xa_mul, pk_div, nm_mod, xa_shr, xa_and7, xa_and1, xa_and255, xa_by_and, nI_m1, Nat.add_sub_cancel, Nat.reducePow, Nat.zero_add, Nat.add_zero, Nat.reduceAdd, Nat.reduceMul, Nat.reduceSub, xf_same, xq_ff, xq_fo, xf_1, xf_2, xs_1, xs_2, xs_same, xq_so, xj_1, xj_2, xj_same, xq_jo, xq_sa1, xq_same, xq_other, upd_s, oI_n, oI_s, s4, p4]
                refine by_if_ne 70 rfl ?_
                simp (disch := first | exact Nat.ne_of_beq_eq_false rfl | exact rfl | omega) only [nI_add, xa_sub, xa_mul, pk_div, nm_mod, xa_shr, xa_and7, xa_and1, xa_and255, xa_by_and, nI_m1, Nat.add_sub_cancel, Nat.reducePow, Nat.zero_add, Nat.add_zero, Nat.reduceAdd, Nat.reduceMul, Nat.reduceSub, xf_same, xq_ff, xq_fo, xf_1, xf_2, xs_1, xs_2, xs_same, xq_so, xj_1, xj_2, xj_same, xq_jo, xq_sa1, xq_same, xq_other, upd_s, oI_n, oI_s, xv_0, xv_1, xv_2, xv_3, xm_p1, xm_p2, xq_fp, xq_fn, List.filter_nil, Nat.reduceBEq, Bool.not_true, Bool.not_false, Bool.and_true, Bool.and_false, Bool.false_and, Bool.true_and, if_true, if_false, Bool.false_eq_true, reduceIte, xc_i, xc_j, xc_r, xc_n, List.nil_append, List.cons_append, Option.toList_some, Option.toList_none, nI_ltJ, nI_leJ, nI_eqJ, nI_ltz, nI_gez, nI_gtz, nI_lez, nI_eqz, m1_ltz, m1_gez, true_imp_iff, false_imp_iff, true_and, and_true, ne_eq, not_false_eq_true, not_true_eq_false, Nat.reduceEqDiff, Nat.reduceLT, Nat.reduceLeDiff, s4, p4]
                with_reducible refine xm_go_blk b_X12_expression_64 k_X12_expression_64 ?_
                refine by_iload_n rfl ?_
                refine by_if_lt 70 rfl ?_
                simp (disch := first | exact Nat.ne_of_beq_eq_false rfl | exact rfl | omega) only [nI_add, xa_sub, xa_mul, pk_div, nm_mod, xa_shr, xa_and7, xa_and1, xa_and255, xa_by_and, nI_m1, Nat.add_sub_cancel, Nat.reducePow, Nat.zero_add, Nat.add_zero, Nat.reduceAdd, Nat.reduceMul, Nat.reduceSub, xf_same, xq_ff, xq_fo, xf_1, xf_2, xs_1, xs_2, xs_same, xq_so, xj_1, xj_2, xj_same, xq_jo, xq_sa1, xq_same, xq_other, upd_s, oI_n, oI_s, xv_0, xv_1, xv_2, xv_3, xm_p1, xm_p2, xq_fp, xq_fn, List.filter_nil, Nat.reduceBEq, Bool.not_true, Bool.not_false, Bool.and_true, Bool.and_false, Bool.false_and, Bool.true_and, if_true, if_false, Bool.false_eq_true, reduceIte, xc_i, xc_j, xc_r, xc_n, List.nil_append, List.cons_append, Option.toList_some, Option.toList_none, nI_ltJ, nI_leJ, nI_eqJ, nI_ltz, nI_gez, nI_gtz, nI_lez, nI_eqz, m1_ltz, m1_gez, true_imp_iff, false_imp_iff, true_and, and_true, ne_eq, not_false_eq_true, not_true_eq_false, Nat.reduceEqDiff, Nat.reduceLT, Nat.reduceLeDiff, s4, p4]
                with_reducible refine xm_go_blk b_X12_expression_68 k_X12_expression_68 ?_
                refine by_iload_n rfl ?_
                refine by_iret ry_220 (by first | rfl | assumption) ?_
                exact hG G2 p2 v h4 (hs _ ⟨1, sT_fd eb ef⟩) f4 T4 I4 v1 (by omega) hp2t sa4 q4
              | cons o2 r ihs =>
                intro G2 v p2 h4 he T4 I4 v1 v2 hp2 hp2t hs2 f4 sa4 q4
                have s4 : h4.2.2 102 81 = .int (nI 0) := T4.2.2.2.2.2.2.2.2
                have p4 : h4.2.2 102 88 = .int (nI (r.length + 1)) := T4.2.2.2.2.2.2.1
                have hN : sCt G2 ≤ 2000 := by obtain ⟨⟨rk, M, hd⟩, _⟩ := I4; exact hd.1
                have hs2' : r.length + 1 + 2 ≤ p2 := hs2
                with_reducible refine xm_go_blk b_X12_expression_30 k_X12_expression_30 ?_
                refine by_aload_n rfl ?_
                refine by_getf cn_220 fl_12_592 (by first | exact rfl | assumption) (by decide) ?_
                simp (disch := first | exact Nat.ne_of_beq_eq_false rfl | exact rfl | omega) only [nI_add, xa_sub, xa_mul, pk_div, nm_mod, xa_shr, xa_and7, xa_and1, xa_and255, xa_by_and, nI_m1, Nat.add_sub_cancel, Nat.reducePow, Nat.zero_add, Nat.add_zero, Nat.reduceAdd, Nat.reduceMul, Nat.reduceSub, xf_same, xq_ff, xq_fo, xf_1, xf_2, xs_1, xs_2, xs_same, xq_so, xj_1, xj_2, xj_same, xq_jo, xq_sa1, xq_same, xq_other, upd_s, oI_n, oI_s, s4, p4]
                refine by_if_ne 57 rfl ?_
                simp (disch := first | exact Nat.ne_of_beq_eq_false rfl | exact rfl | omega) only [nI_add, xa_sub, xa_mul, pk_div, nm_mod, xa_shr, xa_and7, xa_and1, xa_and255, xa_by_and, nI_m1, Nat.add_sub_cancel, Nat.reducePow, Nat.zero_add, Nat.add_zero, Nat.reduceAdd, Nat.reduceMul, Nat.reduceSub, xf_same, xq_ff, xq_fo, xf_1, xf_2, xs_1, xs_2, xs_same, xq_so, xj_1, xj_2, xj_same, xq_jo, xq_sa1, xq_same, xq_other, upd_s, oI_n, oI_s, xv_0, xv_1, xv_2, xv_3, xm_p1, xm_p2, xq_fp, xq_fn, List.filter_nil, Nat.reduceBEq, Bool.not_true, Bool.not_false, Bool.and_true, Bool.and_false, Bool.false_and, Bool.true_and, if_true, if_false, Bool.false_eq_true, reduceIte, xc_i, xc_j, xc_r, xc_n, List.nil_append, List.cons_append, Option.toList_some, Option.toList_none, nI_ltJ, nI_leJ, nI_eqJ, nI_ltz, nI_gez, nI_gtz, nI_lez, nI_eqz, m1_ltz, m1_gez, true_imp_iff, false_imp_iff, true_and, and_true, ne_eq, not_false_eq_true, not_true_eq_false, Nat.reduceEqDiff, Nat.reduceLT, Nat.reduceLeDiff, s4, p4]
                with_reducible refine xm_go_blk b_X12_expression_37 k_X12_expression_37 ?_
                refine by_iload_n rfl ?_
                refine by_if_lt 57 rfl ?_
                simp (disch := first | exact Nat.ne_of_beq_eq_false rfl | exact rfl | omega) only [nI_add, xa_sub, xa_mul, pk_div, nm_mod, xa_shr, xa_and7, xa_and1, xa_and255, xa_by_and, nI_m1, Nat.add_sub_cancel, Nat.reducePow, Nat.zero_add, Nat.add_zero, Nat.reduceAdd, Nat.reduceMul, Nat.reduceSub, xf_same, xq_ff, xq_fo, xf_1, xf_2, xs_1, xs_2, xs_same, xq_so, xj_1, xj_2, xj_same, xq_jo, xq_sa1, xq_same, xq_other, upd_s, oI_n, oI_s, xv_0, xv_1, xv_2, xv_3, xm_p1, xm_p2, xq_fp, xq_fn, List.filter_nil, Nat.reduceBEq, Bool.not_true, Bool.not_false, Bool.and_true, Bool.and_false, Bool.false_and, Bool.true_and, if_true, if_false, Bool.false_eq_true, reduceIte, xc_i, xc_j, xc_r, xc_n, List.nil_append, List.cons_append, Option.toList_some, Option.toList_none, nI_ltJ, nI_leJ, nI_eqJ, nI_ltz, nI_gez, nI_gtz, nI_lez, nI_eqz, m1_ltz, m1_gez, true_imp_iff, false_imp_iff, true_and, and_true, ne_eq, not_false_eq_true, not_true_eq_false, Nat.reduceEqDiff, Nat.reduceLT, Nat.reduceLeDiff, s4, p4]
                with_reducible refine xm_go_blk b_X12_expression_41 k_X12_expression_41 ?_
                refine by_aload_n rfl ?_
                refine by_getf cn_220 fl_12_629 (by first | exact rfl | assumption) (by decide) ?_
                simp (disch := first | exact Nat.ne_of_beq_eq_false rfl | exact rfl | omega) only [nI_add, xa_sub, xa_mul, pk_div, nm_mod, xa_shr, xa_and7, xa_and1, xa_and255, xa_by_and, nI_m1, Nat.add_sub_cancel, Nat.reducePow, Nat.zero_add, Nat.add_zero, Nat.reduceAdd, Nat.reduceMul, Nat.reduceSub, xf_same, xq_ff, xq_fo, xf_1, xf_2, xs_1, xs_2, xs_same, xq_so, xj_1, xj_2, xj_same, xq_jo, xq_sa1, xq_same, xq_other, upd_s, oI_n, oI_s, s4, p4]
                refine by_if_le 57 rfl ?_
                simp (disch := first | exact Nat.ne_of_beq_eq_false rfl | exact rfl | omega) only [nI_add, xa_sub, xa_mul, pk_div, nm_mod, xa_shr, xa_and7, xa_and1, xa_and255, xa_by_and, nI_m1, Nat.add_sub_cancel, Nat.reducePow, Nat.zero_add, Nat.add_zero, Nat.reduceAdd, Nat.reduceMul, Nat.reduceSub, xf_same, xq_ff, xq_fo, xf_1, xf_2, xs_1, xs_2, xs_same, xq_so, xj_1, xj_2, xj_same, xq_jo, xq_sa1, xq_same, xq_other, upd_s, oI_n, oI_s, xv_0, xv_1, xv_2, xv_3, xm_p1, xm_p2, xq_fp, xq_fn, List.filter_nil, Nat.reduceBEq, Bool.not_true, Bool.not_false, Bool.and_true, Bool.and_false, Bool.false_and, Bool.true_and, if_true, if_false, Bool.false_eq_true, reduceIte, xc_i, xc_j, xc_r, xc_n, List.nil_append, List.cons_append, Option.toList_some, Option.toList_none, nI_ltJ, nI_leJ, nI_eqJ, nI_ltz, nI_gez, nI_gtz, nI_lez, nI_eqz, m1_ltz, m1_gez, true_imp_iff, false_imp_iff, true_and, and_true, ne_eq, not_false_eq_true, not_true_eq_false, Nat.reduceEqDiff, Nat.reduceLT, Nat.reduceLeDiff, s4, p4]
                with_reducible refine xm_go_blk b_X12_expression_48 k_X12_expression_48 ?_
                refine by_aload_n rfl ?_
                refine by_iload_n rfl ?_
                refine by_inv1 cn_220 lk_12_650 (by rw [xe_cnt]; decide) is_243 np_243 cn_243 (by first | exact rfl | assumption) (Nat.le_of_ble_eq_true rfl) ?_
                refine sp_joined (d := d + 2) T4 I4 v1 v2 sa4 hp2t (by omega) (fun e f h5 x ef f5 s5 e1 e2 q5 => ?_) (fun S' h5 ef f5 T5 s5 q5 => ?_) (fun x G3 p3 h5 ef f5 T5 I5 x1 x2 hp3 hp3t s5 q5 => ?_)
                · with_reducible refine xm_go_blk b_X12_expression_53 k_X12_expression_53 ?_
                  refine by_istore_n (by rw [ml_220]; decide) ?_
                  refine by_goto 30 rfl ?_
                  try simp (disch := first | exact Nat.ne_of_beq_eq_false rfl | exact rfl | omega) only [nI_add, xa_sub, xa_mul, pk_div, nm_mod, xa_shr, xa_and7, xa_and1, xa_and255, xa_by_and, nI_m1, Nat.add_sub_cancel, Nat.reducePow, Nat.zero_add, Nat.add_zero, Nat.reduceAdd, Nat.reduceMul, Nat.reduceSub, xf_same, xq_ff, xq_fo, xf_1, xf_2, xs_1, xs_2, xs_same, xq_so, xj_1, xj_2, xj_same, xq_jo, xq_sa1, xq_same, xq_other, upd_s, oI_n, oI_s, xv_0, xv_1, xv_2, xv_3, xm_p1, xm_p2, xq_fp, xq_fn, List.filter_nil, Nat.reduceBEq, Bool.not_true, Bool.not_false, Bool.and_true, Bool.and_false, Bool.false_and, Bool.true_and, if_true, if_false, Bool.false_eq_true, reduceIte, xc_i, xc_j, xc_r, xc_n, List.nil_append, List.cons_append, Option.toList_some, Option.toList_none]
                  exact xm_go_wk (by simp [Value.category]) (bad e f h5 x (hs _ ⟨1, sT_fb eb (by rw [← he]; exact ef)⟩) (Fr_tr f4 f5 (fun _ z => z) (fun _ z => z)) s5 e1 e2 q5)
                · have ef2 : sFin t n S.1 S.2.1 S.2.2 = .inr (S', none) := by rw [← he]; exact ef
                  obtain ⟨g1, g2', g3', g4, g5⟩ := sFin_ok (o2 :: r) I4 v1 v2 hp2t ef
                  have g5' : S'.2.1.length ≤ r.length + 1 := g5
                  with_reducible refine xm_go_blk b_X12_expression_53 k_X12_expression_53 ?_
                  refine by_istore_n (by rw [ml_220]; decide) ?_
                  refine by_goto 30 rfl ?_
                  try simp (disch := first | exact Nat.ne_of_beq_eq_false rfl | exact rfl | omega) only [nI_add, xa_sub, xa_mul, pk_div, nm_mod, xa_shr, xa_and7, xa_and1, xa_and255, xa_by_and, nI_m1, Nat.add_sub_cancel, Nat.reducePow, Nat.zero_add, Nat.add_zero, Nat.reduceAdd, Nat.reduceMul, Nat.reduceSub, xf_same, xq_ff, xq_fo, xf_1, xf_2, xs_1, xs_2, xs_same, xq_so, xj_1, xj_2, xj_same, xq_jo, xq_sa1, xq_same, xq_other, upd_s, oI_n, oI_s, xv_0, xv_1, xv_2, xv_3, xm_p1, xm_p2, xq_fp, xq_fn, List.filter_nil, Nat.reduceBEq, Bool.not_true, Bool.not_false, Bool.and_true, Bool.and_false, Bool.false_and, Bool.true_and, if_true, if_false, Bool.false_eq_true, reduceIte, xc_i, xc_j, xc_r, xc_n, List.nil_append, List.cons_append, Option.toList_some, Option.toList_none]
                  exact xm_go_wk (by simp [Value.category]) (wait S' h5 (fun o ho => hs o (by obtain ⟨k, hk⟩ := ho; exact ⟨k + 1, by rw [sT_fw eb ef2]; exact hk⟩)) T5 g1 (by omega) g4 (by omega) (Fr_tr f4 f5 (fun _ z => z) (fun _ z => z)) s5 (by rw [q5]; exact q4))
                · with_reducible refine xm_go_blk b_X12_expression_53 k_X12_expression_53 ?_
                  refine by_istore_n (by rw [ml_220]; decide) ?_
                  refine by_goto 30 rfl ?_
                  try simp (disch := first | exact Nat.ne_of_beq_eq_false rfl | exact rfl | omega) only [nI_add, xa_sub, xa_mul, pk_div, nm_mod, xa_shr, xa_and7, xa_and1, xa_and255, xa_by_and, nI_m1, Nat.add_sub_cancel, Nat.reducePow, Nat.zero_add, Nat.add_zero, Nat.reduceAdd, Nat.reduceMul, Nat.reduceSub, xf_same, xq_ff, xq_fo, xf_1, xf_2, xs_1, xs_2, xs_same, xq_so, xj_1, xj_2, xj_same, xq_jo, xq_sa1, xq_same, xq_other, upd_s, oI_n, oI_s, xv_0, xv_1, xv_2, xv_3, xm_p1, xm_p2, xq_fp, xq_fn, List.filter_nil, Nat.reduceBEq, Bool.not_true, Bool.not_false, Bool.and_true, Bool.and_false, Bool.false_and, Bool.true_and, if_true, if_false, Bool.false_eq_true, reduceIte, xc_i, xc_j, xc_r, xc_n, List.nil_append, List.cons_append, Option.toList_some, Option.toList_none]
                  exact xm_go_wk (by simp [Value.category]) (ihs G3 x p3 h5 (by rw [← ef]; exact he) T5 I5 x1 x2 (by omega) hp3t (by omega) (Fr_tr f4 f5 (fun _ z => z) (fun _ z => z)) s5 (by rw [q5]; exact q4))
            show xm_go (XE sc) (xm_T (XE sc) (d + 6)) 220 post 29 [(0, .ref 102)] [.int (nI n)] h3
            with_reducible refine xm_go_blk b_X12_expression_29 k_X12_expression_29 ?_
            refine by_istore_n (by rw [ml_220]; decide) ?_
            refine by_nil ?_
            try simp (disch := first | exact Nat.ne_of_beq_eq_false rfl | exact rfl | omega) only [nI_add, xa_sub, xa_mul, pk_div, nm_mod, xa_shr, xa_and7, xa_and1, xa_and255, xa_by_and, nI_m1, Nat.add_sub_cancel, Nat.reducePow, Nat.zero_add, Nat.add_zero, Nat.reduceAdd, Nat.reduceMul, Nat.reduceSub, xf_same, xq_ff, xq_fo, xf_1, xf_2, xs_1, xs_2, xs_same, xq_so, xj_1, xj_2, xj_same, xq_jo, xq_sa1, xq_same, xq_other, upd_s, oI_n, oI_s, xv_0, xv_1, xv_2, xv_3, xm_p1, xm_p2, xq_fp, xq_fn, List.filter_nil, Nat.reduceBEq, Bool.not_true, Bool.not_false, Bool.and_true, Bool.and_false, Bool.false_and, Bool.true_and, if_true, if_false, Bool.false_eq_true, reduceIte, xc_i, xc_j, xc_r, xc_n, List.nil_append, List.cons_append, Option.toList_some, Option.toList_none]
            exact xm_go_wk (by simp [Value.category]) (fin S.2.1 S.1 n S.2.2 h3 rfl T3 k1' n1 n2 (Nat.le_refl _) k4 (by omega) g3 s3 q3')
  refine xq_in rfl ?_
  simp only [xq_a0, xq_aI, xq_aJ, xq_aR, Nat.reduceAdd]
  with_reducible refine xm_go_blk b_X12_expression_0 k_X12_expression_0 ?_
  refine by_aload_n rfl ?_
  refine by_iconst ci_0 ?_
  refine by_putf cn_220 fl_12_629 (by first | exact rfl | assumption) (by decide) nf_12_88 ft_12_88 (by first | rfl | assumption) (by first | rfl | assumption) ?_
  refine by_nil ?_
  exact key (t.length - p + 1) G [] p _ [(0, .ref 102)] (by simp) (by omega) (fun o ho => ho) hT hI (Nat.le_refl _) hpt (by show 0 + 2 ≤ p; omega) (Fr_sf Fr_rf (by simp)) (by simpa [xm_sf, updV] using hsa) (by simp [xm_sf, updV])
end SY
