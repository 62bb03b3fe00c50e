/-! ===== the pen of the class, what is made of the reference; publish, tellsMade ===== -/
theorem gN_l {a b : List Nat} {i : Nat} (h : i < a.length) : (a ++ b).getD i 0 = a.getD i 0 := by
  rw [List.getD_eq_getElem?_getD, List.getD_eq_getElem?_getD, List.getElem?_append_left h]
theorem gN_e {a : List Nat} {c : Nat} : (a ++ [c]).getD a.length 0 = c := by
  rw [List.getD_eq_getElem?_getD, List.getElem?_append_right (Nat.le_refl _), Nat.sub_self]; rfl
def penIs (h : xm_H) (l : List Nat) : Prop := h.2.2 5 1 = .int (nI (min l.length 8192)) ∧ h.2.2 5 2 = .int (nI (if l.length ≤ 8192 then 0 else 1)) ∧ ∀ i, i < l.length → i < 8192 → xa_by (h.1 6 i) = l.getD i 0 ∧ fits .byte (.int (h.1 6 i)) = true
theorem penIs_fr {S : List Nat} {T : List (Nat × Nat)} {h h' : xm_H} {l : List Nat} (hl : penIs h l) (hf : Fr S T h h') (h6 : 6 ∉ S) (h1 : (5, 1) ∉ T) (h2 : (5, 2) ∉ T) : penIs h' l :=
  ⟨by rw [hf.2.2 _ _ h1]; exact hl.1, by rw [hf.2.2 _ _ h2]; exact hl.2.1, fun i hi hi2 => by rw [hf.1 _ h6]; exact hl.2.2 i hi hi2⟩
section PN
variable {sc : xm_Sc} {d : Nat} {l : List Nat} {h : xm_H} {post : xm_Po}
theorem sp_pen {c : Nat} (hF : XF h) (hl : penIs h l) (hc : c < 256) (hp : ∀ h', Fr [6] [(5, 1), (5, 2)] h h' → penIs h' (l ++ [c]) → post none h') : xm_T (XE sc) (d + 1) 133 [.ref 5, .int (nI c)] h post := by
  by_cases e : l.length < 8192
  · have h1 : h.2.2 5 1 = .int (nI l.length) := by rw [hl.1, Nat.min_eq_left (by omega)]
    refine sp_put sh_5 sh_6 (xf_5_0 hF) h1 e (hp _ (Fr_sf (Fr_si Fr_rf (by simp)) (by simp)) ⟨?_, ?_, fun i hi hi2 => ?_⟩)
    · simp only [xf_same, List.length_append, List.length_cons, List.length_nil]
      rw [Nat.min_eq_left (by omega)]
    · have : (xm_sf (xm_si h 6 l.length (vp_nar .byte (nI c).toInt8.toInt32)) 5 1 (.int (nI (l.length + 1)))).2.2 5 2 = h.2.2 5 2 := by simp [xm_sf, xm_si, updV]
      rw [this, hl.2.1, if_pos (by omega), if_pos (by simp; omega)]
    · have hi' : i ≤ l.length := by simp at hi; omega
      show xa_by ((xm_si h 6 l.length (vp_nar .byte (nI c).toInt8.toInt32)).1 6 i) = _ ∧ fits .byte (.int ((xm_si h 6 l.length (vp_nar .byte (nI c).toInt8.toInt32)).1 6 i)) = true
      by_cases z : i = l.length
      · subst z
        rw [gN_e]
        have : (xm_si h 6 l.length (vp_nar .byte (nI c).toInt8.toInt32)).1 6 l.length = vp_nar .byte (nI c).toInt8.toInt32 := by simp [xm_si, upd]
        rw [this, xa_by_put, Nat.mod_eq_of_lt hc]
        exact ⟨rfl, xa_by_fit _⟩
      · have : (xm_si h 6 l.length (vp_nar .byte (nI c).toInt8.toInt32)).1 6 i = h.1 6 i := by simp [xm_si, upd, z]
        rw [this, gN_l (by omega)]
        exact hl.2.2 i (by omega) hi2
  · have h1 : h.2.2 5 1 = .int (nI 8192) := by rw [hl.1, Nat.min_eq_right (by omega)]
    refine sp_put_over sh_5 h1 (hp _ (Fr_sf Fr_rf (by simp)) ⟨?_, ?_, fun i hi hi2 => ?_⟩)
    · have : (xm_sf h 5 2 (.int (nI 1))).2.2 5 1 = h.2.2 5 1 := by simp [xm_sf, updV]
      rw [this, h1, Nat.min_eq_right (by simp; omega)]
    · simp only [xf_same, List.length_append, List.length_cons, List.length_nil]
      rw [if_neg (by omega)]
    · show xa_by (h.1 6 i) = _ ∧ _
      rw [gN_l (by omega)]
      exact hl.2.2 i (by omega) hi2
theorem sp_penclr (hF : XF h) (hp : ∀ h', Fr [] [(5, 1), (5, 2), (5, 3)] h h' → penIs h' [] → h'.2.2 5 3 = .int (nI 0) → post none h') : xm_T (XE sc) (d + 1) 128 [.ref 5] h post := by
  refine sp_clear sh_5 (hp _ (Fr_sf (Fr_sf (Fr_sf Fr_rf (by simp)) (by simp)) (by simp)) ⟨?_, ?_, fun i hi => absurd hi (Nat.not_lt_zero _)⟩ ?_)
  · simp [xm_sf, updV]
  · simp [xm_sf, updV]
  · simp [xm_sf, updV]
theorem sp_publishL (hF : XF h) (hl : penIs h l) (hlen : l.length ≤ 8192) (hp : ∀ h', Fr [4] [(3, 1), (3, 2), (3, 3)] h h' → rowIs h' 3 4 l → post (some (.int (nI l.length))) h') : xm_T (XE sc) (d + 3) 186 [.ref 0] h post := by
  have h1 : h.2.2 5 1 = .int (nI l.length) := by rw [hl.1, Nat.min_eq_left hlen]
  refine sp_publish hF h1 hlen (fun i hi => (hl.2.2 i hi (by omega)).2) (hp _ ?_ ?_)
  · refine Fr_sa (Fr_sf (Fr_sf (Fr_sf (Fr_sf Fr_rf (by simp)) (by simp)) (by simp)) (by simp)) (by simp)
  · have g : ∀ i, i < l.length → va_cpy (h.1 6) (h.1 4) 0 0 l.length i = h.1 6 i := fun i hi => by
      have := cpy_in (f := h.1 6) (g := h.1 4) (sp := 0) (dp := 0) (n := l.length) (i := i) (Nat.zero_le _) (by omega)
      simpa using this
    refine ⟨?_, ?_, hlen, fun i hi => ?_, fun i hi => ?_⟩
    · rw [xa_f]; simp [xm_sf, updV]; exact xf_3_0 hF
    · rw [xa_f]; simp [xm_sf, updV]
    · show xa_by (va_cpy (h.1 6) (h.1 4) 0 0 l.length i) = _
      rw [g i hi]; exact (hl.2.2 i hi (by omega)).1
    · show fits .byte (.int (va_cpy (h.1 6) (h.1 4) 0 0 l.length i)) = true
      rw [g i hi]; exact (hl.2.2 i hi (by omega)).2
end PN
/-- what the reference has made -/
def mkIs (h : xm_H) (l : List Nat) : Prop := h.2.2 102 61 = .int (nI (min l.length 8193)) ∧ ∀ i, i < l.length → i < 8193 → h.1 147 i = nI (l.getD i 0)
theorem mkIs_fr {S : List Nat} {T : List (Nat × Nat)} {h h' : xm_H} {l : List Nat} (hl : mkIs h l) (hf : Fr S T h h') (h6 : 147 ∉ S) (h1 : (102, 61) ∉ T) : mkIs h' l :=
  ⟨by rw [hf.2.2 _ _ h1]; exact hl.1, fun i hi hi2 => by rw [hf.1 _ h6]; exact hl.2 i hi hi2⟩
section MK
variable {sc : xm_Sc} {d : Nat} {l : List Nat} {h : xm_H} {post : xm_Po}
theorem sp_make {c : Nat} (hF : XF h) (hl : mkIs h l) (hp : ∀ h', Fr [147] [(102, 61)] h h' → mkIs h' (l ++ [c]) → post none h') : xm_T (XE sc) (d + 1) 254 [.ref 102, .int (nI c)] h post := by
  refine xq_in rfl ?_
  simp only [xq_a0, xq_aI, xq_aJ, xq_aR, Nat.reduceAdd]
  by_cases e : l.length < 8193
  · have h1 : h.2.2 102 61 = .int (nI l.length) := by rw [hl.1, Nat.min_eq_left (by omega)]
    with_reducible refine xm_go_blk b_X12_make_0 k_X12_make_0 ?_
    refine by_aload_n rfl ?_
    refine by_getf cn_254 fl_12_289 (by first | exact rfl | assumption) (by decide) ?_
    refine by_sipush cs_8193 ?_
    simp (disch := first | exact Nat.ne_of_beq_eq_false rfl | exact rfl | omega) only [nI_add, xa_sub, xa_mul, pk_div, nm_mod, xa_shr, xa_and7, xa_and1, xa_and255, xa_by_and, nI_m1, Nat.add_sub_cancel, Nat.reducePow, Nat.zero_add, Nat.add_zero, Nat.reduceAdd, Nat.reduceMul, Nat.reduceSub, xf_same, xq_ff, xq_fo, xf_1, xf_2, xs_1, xs_2, xs_same, xq_so, xj_1, xj_2, xj_same, xq_jo, xq_sa1, xq_same, xq_other, upd_s, oI_n, oI_s, h1, xf_102_60 hF]
    refine by_ic_ge 30 rfl ?_
    simp (disch := first | exact Nat.ne_of_beq_eq_false rfl | exact rfl | omega) only [nI_add, xa_sub, xa_mul, pk_div, nm_mod, xa_shr, xa_and7, xa_and1, xa_and255, xa_by_and, nI_m1, Nat.add_sub_cancel, Nat.reducePow, Nat.zero_add, Nat.add_zero, Nat.reduceAdd, Nat.reduceMul, Nat.reduceSub, xf_same, xq_ff, xq_fo, xf_1, xf_2, xs_1, xs_2, xs_same, xq_so, xj_1, xj_2, xj_same, xq_jo, xq_sa1, xq_same, xq_other, upd_s, oI_n, oI_s, xv_0, xv_1, xv_2, xv_3, xm_p1, xm_p2, xq_fp, xq_fn, List.filter_nil, Nat.reduceBEq, Bool.not_true, Bool.not_false, Bool.and_true, Bool.and_false, Bool.false_and, Bool.true_and, if_true, if_false, Bool.false_eq_true, reduceIte, xc_i, xc_j, xc_r, xc_n, List.nil_append, List.cons_append, Option.toList_some, Option.toList_none, nI_ltJ, nI_leJ, nI_eqJ, nI_ltz, nI_gez, nI_gtz, nI_lez, nI_eqz, m1_ltz, m1_gez, true_imp_iff, false_imp_iff, true_and, and_true, ne_eq, not_false_eq_true, not_true_eq_false, Nat.reduceEqDiff, Nat.reduceLT, Nat.reduceLeDiff, h1, xf_102_60 hF]
    refine ⟨fun c => absurd c (by omega), fun c0 => ?_⟩
    with_reducible refine xm_go_blk b_X12_make_10 k_X12_make_10 ?_
    refine by_aload_n rfl ?_
    refine by_getf cn_254 fl_12_148 (by first | exact rfl | assumption) (by decide) ?_
    refine by_aload_n rfl ?_
    refine by_getf cn_254 fl_12_289 (by first | exact rfl | assumption) (by decide) ?_
    refine by_iload_n rfl ?_
    simp (disch := first | exact Nat.ne_of_beq_eq_false rfl | exact rfl | omega) only [nI_add, xa_sub, xa_mul, pk_div, nm_mod, xa_shr, xa_and7, xa_and1, xa_and255, xa_by_and, nI_m1, Nat.add_sub_cancel, Nat.reducePow, Nat.zero_add, Nat.add_zero, Nat.reduceAdd, Nat.reduceMul, Nat.reduceSub, xf_same, xq_ff, xq_fo, xf_1, xf_2, xs_1, xs_2, xs_same, xq_so, xj_1, xj_2, xj_same, xq_jo, xq_sa1, xq_same, xq_other, upd_s, oI_n, oI_s, h1, xf_102_60 hF]
    refine by_iast (by first | exact rfl | assumption | exact ps_1 hpp | exact ps_2 hpp | exact ps_3 hpp | exact ps_4 hpp | exact ps_5 hpp | exact ps_6 hpp | exact ps_7 hpp | exact ps_8 hpp | exact ps_9 hpp | exact ps_10 hpp | exact ps_11 hpp | exact ps_15 hpp | exact ps_16 hpp | exact ps_17 hpp | exact ps_18 hpp | exact ps_19 hpp | exact ps_21 hpp | exact ps_22 hpp | exact ps_23 hpp | exact ps_24 hpp) ⟨by omega, by omega⟩ ?_
    refine by_aload_n rfl ?_
    refine by_dup rfl ?_
    refine by_getf cn_254 fl_12_289 (by first | exact rfl | assumption) (by decide) ?_
    refine by_iconst ci_1 ?_
    simp (disch := first | exact Nat.ne_of_beq_eq_false rfl | exact rfl | omega) only [nI_add, xa_sub, xa_mul, pk_div, nm_mod, xa_shr, xa_and7, xa_and1, xa_and255, xa_by_and, nI_m1, Nat.add_sub_cancel, Nat.reducePow, Nat.zero_add, Nat.add_zero, Nat.reduceAdd, Nat.reduceMul, Nat.reduceSub, xf_same, xq_ff, xq_fo, xf_1, xf_2, xs_1, xs_2, xs_same, xq_so, xj_1, xj_2, xj_same, xq_jo, xq_sa1, xq_same, xq_other, upd_s, oI_n, oI_s, h1, xf_102_60 hF]
    refine by_iadd ?_
    refine by_putf cn_254 fl_12_289 (by first | exact rfl | assumption) (by decide) nf_12_61 ft_12_61 (by first | rfl | assumption) (by first | rfl | assumption) ?_
    refine by_nil ?_
    try simp (disch := first | exact Nat.ne_of_beq_eq_false rfl | exact rfl | omega) only [nI_add, xa_sub, xa_mul, pk_div, nm_mod, xa_shr, xa_and7, xa_and1, xa_and255, xa_by_and, nI_m1, Nat.add_sub_cancel, Nat.reducePow, Nat.zero_add, Nat.add_zero, Nat.reduceAdd, Nat.reduceMul, Nat.reduceSub, xf_same, xq_ff, xq_fo, xf_1, xf_2, xs_1, xs_2, xs_same, xq_so, xj_1, xj_2, xj_same, xq_jo, xq_sa1, xq_same, xq_other, upd_s, oI_n, oI_s, xv_0, xv_1, xv_2, xv_3, xm_p1, xm_p2, xq_fp, xq_fn, List.filter_nil, Nat.reduceBEq, Bool.not_true, Bool.not_false, Bool.and_true, Bool.and_false, Bool.false_and, Bool.true_and, if_true, if_false, Bool.false_eq_true, reduceIte, xc_i, xc_j, xc_r, xc_n, List.nil_append, List.cons_append, Option.toList_some, Option.toList_none, h1, xf_102_60 hF]
    with_reducible refine xm_go_blk b_X12_make_30 k_X12_make_30 ?_
    refine by_ret ry_254 ?_
    refine hp _ (Fr_sf (Fr_si Fr_rf (by simp)) (by simp)) ⟨?_, fun i hi hi2 => ?_⟩
    · simp only [xf_same, List.length_append, List.length_cons, List.length_nil]
      rw [Nat.min_eq_left (by omega)]
    · have hi' : i ≤ l.length := by simp at hi; omega
      show (xm_si h 147 l.length (nI c)).1 147 i = _
      by_cases z : i = l.length
      · subst z
        rw [gN_e]; simp [xm_si, upd]
      · rw [gN_l (by omega), ← hl.2 i (by omega) hi2]; simp [xm_si, upd, z]
  · have h1 : h.2.2 102 61 = .int (nI 8193) := by rw [hl.1, Nat.min_eq_right (by omega)]
    with_reducible refine xm_go_blk b_X12_make_0 k_X12_make_0 ?_
    refine by_aload_n rfl ?_
    refine by_getf cn_254 fl_12_289 (by first | exact rfl | assumption) (by decide) ?_
    refine by_sipush cs_8193 ?_
    simp (disch := first | exact Nat.ne_of_beq_eq_false rfl | exact rfl | omega) only [nI_add, xa_sub, xa_mul, pk_div, nm_mod, xa_shr, xa_and7, xa_and1, xa_and255, xa_by_and, nI_m1, Nat.add_sub_cancel, Nat.reducePow, Nat.zero_add, Nat.add_zero, Nat.reduceAdd, Nat.reduceMul, Nat.reduceSub, xf_same, xq_ff, xq_fo, xf_1, xf_2, xs_1, xs_2, xs_same, xq_so, xj_1, xj_2, xj_same, xq_jo, xq_sa1, xq_same, xq_other, upd_s, oI_n, oI_s, h1]
    refine by_ic_ge 30 rfl ?_
    simp (disch := first | exact Nat.ne_of_beq_eq_false rfl | exact rfl | omega) only [nI_add, xa_sub, xa_mul, pk_div, nm_mod, xa_shr, xa_and7, xa_and1, xa_and255, xa_by_and, nI_m1, Nat.add_sub_cancel, Nat.reducePow, Nat.zero_add, Nat.add_zero, Nat.reduceAdd, Nat.reduceMul, Nat.reduceSub, xf_same, xq_ff, xq_fo, xf_1, xf_2, xs_1, xs_2, xs_same, xq_so, xj_1, xj_2, xj_same, xq_jo, xq_sa1, xq_same, xq_other, upd_s, oI_n, oI_s, xv_0, xv_1, xv_2, xv_3, xm_p1, xm_p2, xq_fp, xq_fn, List.filter_nil, Nat.reduceBEq, Bool.not_true, Bool.not_false, Bool.and_true, Bool.and_false, Bool.false_and, Bool.true_and, if_true, if_false, Bool.false_eq_true, reduceIte, xc_i, xc_j, xc_r, xc_n, List.nil_append, List.cons_append, Option.toList_some, Option.toList_none, nI_ltJ, nI_leJ, nI_eqJ, nI_ltz, nI_gez, nI_gtz, nI_lez, nI_eqz, m1_ltz, m1_gez, true_imp_iff, false_imp_iff, true_and, and_true, ne_eq, not_false_eq_true, not_true_eq_false, Nat.reduceEqDiff, Nat.reduceLT, Nat.reduceLeDiff, h1]
    with_reducible refine xm_go_blk b_X12_make_30 k_X12_make_30 ?_
    refine by_ret ry_254 ?_
    refine hp _ Fr_rf ⟨?_, fun i hi hi2 => ?_⟩
    · rw [h1, Nat.min_eq_right (by simp; omega)]
    · rw [gN_l (by omega)]; exact hl.2 i (by omega) hi2
theorem sp_tooLong (hl : mkIs h l) (hp : post (some (.int (nI (if l.length ≤ 8192 then 0 else 1)))) h) : xm_T (XE sc) (d + 1) 236 [.ref 102] h post := by
  refine xq_in rfl ?_
  simp only [xq_a0, xq_aI, xq_aJ, xq_aR, Nat.reduceAdd]
  by_cases e : l.length ≤ 8192
  · have h1 : h.2.2 102 61 = .int (nI l.length) := by rw [hl.1, Nat.min_eq_left (by omega)]
    rw [if_pos e] at hp
    with_reducible refine xm_go_blk b_X12_isTooLong_0 k_X12_isTooLong_0 ?_
    refine by_aload_n rfl ?_
    refine by_getf cn_236 fl_12_289 (by first | exact rfl | assumption) (by decide) ?_
    refine by_sipush cs_8192 ?_
    simp (disch := first | exact Nat.ne_of_beq_eq_false rfl | exact rfl | omega) only [nI_add, xa_sub, xa_mul, pk_div, nm_mod, xa_shr, xa_and7, xa_and1, xa_and255, xa_by_and, nI_m1, Nat.add_sub_cancel, Nat.reducePow, Nat.zero_add, Nat.add_zero, Nat.reduceAdd, Nat.reduceMul, Nat.reduceSub, xf_same, xq_ff, xq_fo, xf_1, xf_2, xs_1, xs_2, xs_same, xq_so, xj_1, xj_2, xj_same, xq_jo, xq_sa1, xq_same, xq_other, upd_s, oI_n, oI_s, h1]
    refine by_ic_le 14 rfl ?_
    simp (disch := first | exact Nat.ne_of_beq_eq_false rfl | exact rfl | omega) only [nI_add, xa_sub, xa_mul, pk_div, nm_mod, xa_shr, xa_and7, xa_and1, xa_and255, xa_by_and, nI_m1, Nat.add_sub_cancel, Nat.reducePow, Nat.zero_add, Nat.add_zero, Nat.reduceAdd, Nat.reduceMul, Nat.reduceSub, xf_same, xq_ff, xq_fo, xf_1, xf_2, xs_1, xs_2, xs_same, xq_so, xj_1, xj_2, xj_same, xq_jo, xq_sa1, xq_same, xq_other, upd_s, oI_n, oI_s, xv_0, xv_1, xv_2, xv_3, xm_p1, xm_p2, xq_fp, xq_fn, List.filter_nil, Nat.reduceBEq, Bool.not_true, Bool.not_false, Bool.and_true, Bool.and_false, Bool.false_and, Bool.true_and, if_true, if_false, Bool.false_eq_true, reduceIte, xc_i, xc_j, xc_r, xc_n, List.nil_append, List.cons_append, Option.toList_some, Option.toList_none, nI_ltJ, nI_leJ, nI_eqJ, nI_ltz, nI_gez, nI_gtz, nI_lez, nI_eqz, m1_ltz, m1_gez, true_imp_iff, false_imp_iff, true_and, and_true, ne_eq, not_false_eq_true, not_true_eq_false, Nat.reduceEqDiff, Nat.reduceLT, Nat.reduceLeDiff, h1]
    refine ⟨fun c0 => ?_, fun c => absurd (by omega) c⟩
    with_reducible refine xm_go_blk b_X12_isTooLong_14 k_X12_isTooLong_14 ?_
    refine by_iconst ci_0 ?_
    refine by_nil ?_
    with_reducible refine xm_go_blk b_X12_isTooLong_15 k_X12_isTooLong_15 ?_
    refine by_iret ry_236 (by first | rfl | assumption) ?_
    exact hp
  · have h1 : h.2.2 102 61 = .int (nI 8193) := by rw [hl.1, Nat.min_eq_right (by omega)]
    rw [if_neg e] at hp
    with_reducible refine xm_go_blk b_X12_isTooLong_0 k_X12_isTooLong_0 ?_
    refine by_aload_n rfl ?_
    refine by_getf cn_236 fl_12_289 (by first | exact rfl | assumption) (by decide) ?_
    refine by_sipush cs_8192 ?_
    simp (disch := first | exact Nat.ne_of_beq_eq_false rfl | exact rfl | omega) only [nI_add, xa_sub, xa_mul, pk_div, nm_mod, xa_shr, xa_and7, xa_and1, xa_and255, xa_by_and, nI_m1, Nat.add_sub_cancel, Nat.reducePow, Nat.zero_add, Nat.add_zero, Nat.reduceAdd, Nat.reduceMul, Nat.reduceSub, xf_same, xq_ff, xq_fo, xf_1, xf_2, xs_1, xs_2, xs_same, xq_so, xj_1, xj_2, xj_same, xq_jo, xq_sa1, xq_same, xq_other, upd_s, oI_n, oI_s, h1]
    refine by_ic_le 14 rfl ?_
    simp (disch := first | exact Nat.ne_of_beq_eq_false rfl | exact rfl | omega) only [nI_add, xa_sub, xa_mul, pk_div, nm_mod, xa_shr, xa_and7, xa_and1, xa_and255, xa_by_and, nI_m1, Nat.add_sub_cancel, Nat.reducePow, Nat.zero_add, Nat.add_zero, Nat.reduceAdd, Nat.reduceMul, Nat.reduceSub, xf_same, xq_ff, xq_fo, xf_1, xf_2, xs_1, xs_2, xs_same, xq_so, xj_1, xj_2, xj_same, xq_jo, xq_sa1, xq_same, xq_other, upd_s, oI_n, oI_s, xv_0, xv_1, xv_2, xv_3, xm_p1, xm_p2, xq_fp, xq_fn, List.filter_nil, Nat.reduceBEq, Bool.not_true, Bool.not_false, Bool.and_true, Bool.and_false, Bool.false_and, Bool.true_and, if_true, if_false, Bool.false_eq_true, reduceIte, xc_i, xc_j, xc_r, xc_n, List.nil_append, List.cons_append, Option.toList_some, Option.toList_none, nI_ltJ, nI_leJ, nI_eqJ, nI_ltz, nI_gez, nI_gtz, nI_lez, nI_eqz, m1_ltz, m1_gez, true_imp_iff, false_imp_iff, true_and, and_true, ne_eq, not_false_eq_true, not_true_eq_false, Nat.reduceEqDiff, Nat.reduceLT, Nat.reduceLeDiff, h1]
    with_reducible refine xm_go_blk b_X12_isTooLong_10 k_X12_isTooLong_10 ?_
    refine by_iconst ci_1 ?_
    refine by_goto 15 rfl ?_
    with_reducible refine xm_go_blk b_X12_isTooLong_15 k_X12_isTooLong_15 ?_
    refine by_iret ry_236 (by first | rfl | assumption) ?_
    exact hp
theorem sp_tellsMade (hF : XF h) (hl : mkIs h l) (hlen : l.length ≤ 8192) (hc : ∀ i, i < l.length → l.getD i 0 < 256) (hp : ∀ h', Fr [104] [(102, 4)] h h' → mrow h' 104 l → h'.2.2 102 4 = .int (nI l.length) → post (some (.int (nI l.length))) h') : xm_T (XE sc) (d + 1) 308 [.ref 102] h post := by
  have h1 : h.2.2 102 61 = .int (nI l.length) := by rw [hl.1, Nat.min_eq_left (by omega)]
  refine xq_in rfl ?_
  simp only [xq_a0, xq_aI, xq_aJ, xq_aR, Nat.reduceAdd]
  have key : ∀ (j k : Nat) (h2 : xm_H), k + j = l.length → Fr [104] [] h h2 → (∀ i, i < k → h2.1 104 i = nI (l.getD i 0)) → xm_go (XE sc) (xm_T (XE sc) d) 308 post 2 [(1, .int (nI k)), (0, .ref 102)] [] h2 := by
    intro j
    induction j with
    | zero =>
      intro k h2 hk f2 r2
      have e1 : h2.2.2 102 61 = .int (nI l.length) := by rw [f2.2.2 _ _ (by simp)]; exact h1
      with_reducible refine xm_go_blk b_X12_tellsMade_2 k_X12_tellsMade_2 ?_
      refine by_iload_n rfl ?_
      refine by_aload_n rfl ?_
      refine by_getf cn_308 fl_12_289 (by first | exact rfl | assumption) (by decide) ?_
      simp (disch := first | exact Nat.ne_of_beq_eq_false rfl | exact rfl | omega) only [nI_add, xa_sub, xa_mul, pk_div, nm_mod, xa_shr, xa_and7, xa_and1, xa_and255, xa_by_and, nI_m1, Nat.add_sub_cancel, Nat.reducePow, Nat.zero_add, Nat.add_zero, Nat.reduceAdd, Nat.reduceMul, Nat.reduceSub, xf_same, xq_ff, xq_fo, xf_1, xf_2, xs_1, xs_2, xs_same, xq_so, xj_1, xj_2, xj_same, xq_jo, xq_sa1, xq_same, xq_other, upd_s, oI_n, oI_s, e1]
      refine by_ic_ge 28 rfl ?_
      simp (disch := first | exact Nat.ne_of_beq_eq_false rfl | exact rfl | omega) only [nI_add, xa_sub, xa_mul, pk_div, nm_mod, xa_shr, xa_and7, xa_and1, xa_and255, xa_by_and, nI_m1, Nat.add_sub_cancel, Nat.reducePow, Nat.zero_add, Nat.add_zero, Nat.reduceAdd, Nat.reduceMul, Nat.reduceSub, xf_same, xq_ff, xq_fo, xf_1, xf_2, xs_1, xs_2, xs_same, xq_so, xj_1, xj_2, xj_same, xq_jo, xq_sa1, xq_same, xq_other, upd_s, oI_n, oI_s, xv_0, xv_1, xv_2, xv_3, xm_p1, xm_p2, xq_fp, xq_fn, List.filter_nil, Nat.reduceBEq, Bool.not_true, Bool.not_false, Bool.and_true, Bool.and_false, Bool.false_and, Bool.true_and, if_true, if_false, Bool.false_eq_true, reduceIte, xc_i, xc_j, xc_r, xc_n, List.nil_append, List.cons_append, Option.toList_some, Option.toList_none, nI_ltJ, nI_leJ, nI_eqJ, nI_ltz, nI_gez, nI_gtz, nI_lez, nI_eqz, m1_ltz, m1_gez, true_imp_iff, false_imp_iff, true_and, and_true, ne_eq, not_false_eq_true, not_true_eq_false, Nat.reduceEqDiff, Nat.reduceLT, Nat.reduceLeDiff, e1]
      refine ⟨fun c2 => ?_, fun c => absurd (by omega) c⟩
      with_reducible refine xm_go_blk b_X12_tellsMade_28 k_X12_tellsMade_28 ?_
      refine by_aload_n rfl ?_
      refine by_aload_n rfl ?_
      refine by_getf cn_308 fl_12_289 (by first | exact rfl | assumption) (by decide) ?_
      simp (disch := first | exact Nat.ne_of_beq_eq_false rfl | exact rfl | omega) only [nI_add, xa_sub, xa_mul, pk_div, nm_mod, xa_shr, xa_and7, xa_and1, xa_and255, xa_by_and, nI_m1, Nat.add_sub_cancel, Nat.reducePow, Nat.zero_add, Nat.add_zero, Nat.reduceAdd, Nat.reduceMul, Nat.reduceSub, xf_same, xq_ff, xq_fo, xf_1, xf_2, xs_1, xs_2, xs_same, xq_so, xj_1, xj_2, xj_same, xq_jo, xq_sa1, xq_same, xq_other, upd_s, oI_n, oI_s, e1]
      refine by_putf cn_308 fl_12_220 (by first | exact rfl | assumption) (by decide) nf_12_4 ft_12_4 (by first | rfl | assumption) (by first | rfl | assumption) ?_
      refine by_aload_n rfl ?_
      refine by_getf cn_308 fl_12_220 (by first | exact rfl | assumption) (by decide) ?_
      simp (disch := first | exact Nat.ne_of_beq_eq_false rfl | exact rfl | omega) only [nI_add, xa_sub, xa_mul, pk_div, nm_mod, xa_shr, xa_and7, xa_and1, xa_and255, xa_by_and, nI_m1, Nat.add_sub_cancel, Nat.reducePow, Nat.zero_add, Nat.add_zero, Nat.reduceAdd, Nat.reduceMul, Nat.reduceSub, xf_same, xq_ff, xq_fo, xf_1, xf_2, xs_1, xs_2, xs_same, xq_so, xj_1, xj_2, xj_same, xq_jo, xq_sa1, xq_same, xq_other, upd_s, oI_n, oI_s, e1]
      refine by_iret ry_308 (by first | rfl | assumption) ?_
      have : k = l.length := by omega
      subst this
      exact hp _ (Fr_sf (Fr_mo f2 (by simp) (by simp)) (by simp)) ⟨fun i hi => r2 i hi, hc, hlen⟩ (by simp only [xf_same])
    | succ j ih =>
      intro k h2 hk f2 r2
      have e1 : h2.2.2 102 61 = .int (nI l.length) := by rw [f2.2.2 _ _ (by simp)]; exact h1
      have F2 := Fr_XF hF f2 (by decide +kernel)
      have e2 : h2.1 147 k = nI (l.getD k 0) := by rw [f2.1 147 (by simp)]; exact hl.2 k (by omega) (by omega)
      with_reducible refine xm_go_blk b_X12_tellsMade_2 k_X12_tellsMade_2 ?_
      refine by_iload_n rfl ?_
      refine by_aload_n rfl ?_
      refine by_getf cn_308 fl_12_289 (by first | exact rfl | assumption) (by decide) ?_
      simp (disch := first | exact Nat.ne_of_beq_eq_false rfl | exact rfl | omega) only [nI_add, xa_sub, xa_mul, pk_div, nm_mod, xa_shr, xa_and7, xa_and1, xa_and255, xa_by_and, nI_m1, Nat.add_sub_cancel, Nat.reducePow, Nat.zero_add, Nat.add_zero, Nat.reduceAdd, Nat.reduceMul, Nat.reduceSub, xf_same, xq_ff, xq_fo, xf_1, xf_2, xs_1, xs_2, xs_same, xq_so, xj_1, xj_2, xj_same, xq_jo, xq_sa1, xq_same, xq_other, upd_s, oI_n, oI_s, e1, xf_102_3 F2, xf_102_60 F2, e2]
      refine by_ic_ge 28 rfl ?_
      simp (disch := first | exact Nat.ne_of_beq_eq_false rfl | exact rfl | omega) only [nI_add, xa_sub, xa_mul, pk_div, nm_mod, xa_shr, xa_and7, xa_and1, xa_and255, xa_by_and, nI_m1, Nat.add_sub_cancel, Nat.reducePow, Nat.zero_add, Nat.add_zero, Nat.reduceAdd, Nat.reduceMul, Nat.reduceSub, xf_same, xq_ff, xq_fo, xf_1, xf_2, xs_1, xs_2, xs_same, xq_so, xj_1, xj_2, xj_same, xq_jo, xq_sa1, xq_same, xq_other, upd_s, oI_n, oI_s, xv_0, xv_1, xv_2, xv_3, xm_p1, xm_p2, xq_fp, xq_fn, List.filter_nil, Nat.reduceBEq, Bool.not_true, Bool.not_false, Bool.and_true, Bool.and_false, Bool.false_and, Bool.true_and, if_true, if_false, Bool.false_eq_true, reduceIte, xc_i, xc_j, xc_r, xc_n, List.nil_append, List.cons_append, Option.toList_some, Option.toList_none, nI_ltJ, nI_leJ, nI_eqJ, nI_ltz, nI_gez, nI_gtz, nI_lez, nI_eqz, m1_ltz, m1_gez, true_imp_iff, false_imp_iff, true_and, and_true, ne_eq, not_false_eq_true, not_true_eq_false, Nat.reduceEqDiff, Nat.reduceLT, Nat.reduceLeDiff, e1, xf_102_3 F2, xf_102_60 F2, e2]
      refine ⟨fun c => absurd c (by omega), fun c2 => ?_⟩
      with_reducible refine xm_go_blk b_X12_tellsMade_10 k_X12_tellsMade_10 ?_
      refine by_aload_n rfl ?_
      refine by_getf cn_308 fl_12_13 (by first | exact rfl | assumption) (by decide) ?_
      refine by_iload_n rfl ?_
      refine by_aload_n rfl ?_
      refine by_getf cn_308 fl_12_148 (by first | exact rfl | assumption) (by decide) ?_
      refine by_iload_n rfl ?_
      simp (disch := first | exact Nat.ne_of_beq_eq_false rfl | exact rfl | omega) only [nI_add, xa_sub, xa_mul, pk_div, nm_mod, xa_shr, xa_and7, xa_and1, xa_and255, xa_by_and, nI_m1, Nat.add_sub_cancel, Nat.reducePow, Nat.zero_add, Nat.add_zero, Nat.reduceAdd, Nat.reduceMul, Nat.reduceSub, xf_same, xq_ff, xq_fo, xf_1, xf_2, xs_1, xs_2, xs_same, xq_so, xj_1, xj_2, xj_same, xq_jo, xq_sa1, xq_same, xq_other, upd_s, oI_n, oI_s, e1, xf_102_3 F2, xf_102_60 F2, e2]
      first | refine by_iald (by first | exact rfl | assumption | exact ps_1 hpp | exact ps_2 hpp | exact ps_3 hpp | exact ps_4 hpp | exact ps_5 hpp | exact ps_6 hpp | exact ps_7 hpp | exact ps_8 hpp | exact ps_9 hpp | exact ps_10 hpp | exact ps_11 hpp | exact ps_15 hpp | exact ps_16 hpp | exact ps_17 hpp | exact ps_18 hpp | exact ps_19 hpp | exact ps_21 hpp | exact ps_22 hpp | exact ps_23 hpp | exact ps_24 hpp) ⟨by omega, by omega⟩ ?_ | refine by_tald rfl rfl ⟨by omega, by omega⟩ ?_
      refine by_iast (by first | exact rfl | assumption | exact ps_1 hpp | exact ps_2 hpp | exact ps_3 hpp | exact ps_4 hpp | exact ps_5 hpp | exact ps_6 hpp | exact ps_7 hpp | exact ps_8 hpp | exact ps_9 hpp | exact ps_10 hpp | exact ps_11 hpp | exact ps_15 hpp | exact ps_16 hpp | exact ps_17 hpp | exact ps_18 hpp | exact ps_19 hpp | exact ps_21 hpp | exact ps_22 hpp | exact ps_23 hpp | exact ps_24 hpp) ⟨by omega, by omega⟩ ?_
      refine by_iinc (by rw [ml_308]; decide) rfl ci_1 ?_
      refine by_goto 2 rfl ?_
      try simp (disch := first | exact Nat.ne_of_beq_eq_false rfl | exact rfl | omega) only [nI_add, xa_sub, xa_mul, pk_div, nm_mod, xa_shr, xa_and7, xa_and1, xa_and255, xa_by_and, nI_m1, Nat.add_sub_cancel, Nat.reducePow, Nat.zero_add, Nat.add_zero, Nat.reduceAdd, Nat.reduceMul, Nat.reduceSub, xf_same, xq_ff, xq_fo, xf_1, xf_2, xs_1, xs_2, xs_same, xq_so, xj_1, xj_2, xj_same, xq_jo, xq_sa1, xq_same, xq_other, upd_s, oI_n, oI_s, xv_0, xv_1, xv_2, xv_3, xm_p1, xm_p2, xq_fp, xq_fn, List.filter_nil, Nat.reduceBEq, Bool.not_true, Bool.not_false, Bool.and_true, Bool.and_false, Bool.false_and, Bool.true_and, if_true, if_false, Bool.false_eq_true, reduceIte, xc_i, xc_j, xc_r, xc_n, List.nil_append, List.cons_append, Option.toList_some, Option.toList_none, e1, xf_102_3 F2, xf_102_60 F2, e2]
      refine xm_go_wk (by simp [Value.category]) (ih (k + 1) _ (by omega) (Fr_si f2 (by simp)) (fun i hi => ?_))
      by_cases z : i = k
      · subst z; simp [xm_si, upd]
      · rw [← r2 i (by omega)]; simp [xm_si, upd, z]
  with_reducible refine xm_go_blk b_X12_tellsMade_0 k_X12_tellsMade_0 ?_
  refine by_iconst ci_0 ?_
  refine by_istore_n (by rw [ml_308]; decide) ?_
  refine by_nil ?_
  try simp (disch := first | exact Nat.ne_of_beq_eq_false rfl | exact rfl | omega) only [nI_add, xa_sub, xa_mul, pk_div, nm_mod, xa_shr, xa_and7, xa_and1, xa_and255, xa_by_and, nI_m1, Nat.add_sub_cancel, Nat.reducePow, Nat.zero_add, Nat.add_zero, Nat.reduceAdd, Nat.reduceMul, Nat.reduceSub, xf_same, xq_ff, xq_fo, xf_1, xf_2, xs_1, xs_2, xs_same, xq_so, xj_1, xj_2, xj_same, xq_jo, xq_sa1, xq_same, xq_other, upd_s, oI_n, oI_s, xv_0, xv_1, xv_2, xv_3, xm_p1, xm_p2, xq_fp, xq_fn, List.filter_nil, Nat.reduceBEq, Bool.not_true, Bool.not_false, Bool.and_true, Bool.and_false, Bool.false_and, Bool.true_and, if_true, if_false, Bool.false_eq_true, reduceIte, xc_i, xc_j, xc_r, xc_n, List.nil_append, List.cons_append, Option.toList_some, Option.toList_none]
  exact xm_go_wk (by simp [Value.category]) (key l.length 0 h (by omega) Fr_rf (fun i hi => absurd hi (Nat.not_lt_zero _)))
end MK
