/-! ===== the class: type ===== -/
def ndA (o : Option PgD) (i : Int32) (n : Nat) : Prop := i = nI n ∧ n < pgN o
/-- the types of the class's program -/
theorem xPg_ty {h : xm_H} {pp a tb n : Nat} {l : List Nat} {ps : List pr_D} {S T : Nat → Ty} (hP : PF h pp l ps a S T) (htb : tb < 2) (hn : n < ps.length) :
    (pC ps n = 11 → h.1 (pp + (6 + tb)) n = -1) ∧ ∃ cn tr K L R, cn ≤ 2826 ∧ tyT h pp cn tr K L R ∧ (pC ps n ≠ 11 → ∃ t, t < cn ∧ h.1 (pp + (6 + tb)) n = nI t ∧ tr t = tyOf (l, ps, a, S, T) tb n) := by
  obtain ⟨cn, tr, K, L, R, c1, c2, c3⟩ := hP.2.2.2.2.2.2.2
  have tb2 : tb = 0 ∨ tb = 1 := by omega
  refine ⟨fun e11 => ?_, cn, tr, K, L, R, c1, c2, fun e11 => ?_⟩
  · obtain ⟨t1, t2⟩ := c3.2 n (List.mem_range.mpr hn) e11
    rcases tb2 with rfl | rfl
    · exact t1
    · exact t2
  · obtain ⟨x, y, x1, y1, x2, x3, y2, y3⟩ := c3.1 n (List.mem_range.mpr hn) e11
    rcases tb2 with rfl | rfl
    · exact ⟨x, x1, x2, x3⟩
    · exact ⟨y, y1, y2, y3⟩
def tyFT (pp : Nat) : List (Nat × Nat) := [(5, 1), (5, 2), (5, 3), (pp + 14, 11), (3, 1), (3, 2), (3, 3)]
section XT
variable {sc : xm_Sc} {d pp tb : Nat} {o : Option PgD} {h : xm_H} {post : xm_Po} {px : String → xm_H → Prop} {i : Int32}
theorem sp_xtype (hF : XF h) (hpp : pp = 52 ∨ pp = 77) (h9 : h.2.2 0 9 = .ref pp) (hP : xPg h pp o) (htb : tb < 2)
    (hA : (∀ n, ¬ ndA o i n) → px "java/util/NoSuchElementException" h)
    (hH : ∀ n q, o = some q → ndA o i n → pC q.2.1 n = 11 → post (some (.int (-2))) h)
    (hL : ∀ n q, o = some q → ndA o i n → pC q.2.1 n ≠ 11 → 300 < ty_tl (tyOf q tb n) → post (some (.int (-1))) h)
    (hC : ∀ n q h', o = some q → ndA o i n → pC q.2.1 n ≠ 11 → ty_tl (tyOf q tb n) ≤ 300 → Fr [4, 6, pp + 24] (tyFT pp) h h' → rowIs h' 3 4 (ttx (tyOf q tb n)) → post (some (.int (nI (ty_tl (tyOf q tb n))))) h') :
    xm_goX (XE sc) (xm_T (XE sc) (d + 3)) 193 post tw_X11_type px 0 [(0, .ref 0), (1, .int i), (2, .int (nI tb))] [] h := by
  obtain ⟨hc, hc4⟩ := xPg_c hP
  with_reducible refine xx_blk b_X11_type_0 k_X11_type_0 ?_
  refine by_aload_n rfl ?_
  refine by_iload_n rfl ?_
  refine by_inv1 cn_193 lk_11_201 (by rw [xe_cnt]; decide) is_180 np_180 cn_180 (by first | exact rfl | assumption) (Nat.le_of_ble_eq_true rfl) ?_
  refine sp_xisNode hpp h9 hc (by omega) ⟨fun n hn hlt => ?_, fun hno => ?_⟩
  · subst hn
    with_reducible refine xx_blk b_X11_type_5 k_X11_type_5 ?_
    refine by_if_ne 18 rfl ?_
    simp (disch := first | exact Nat.ne_of_beq_eq_false rfl | exact rfl | omega) only [nI_add, xa_sub, xa_mul, pk_div, nm_mod, xa_shr, xa_and7, xa_and1, xa_and255, xa_by_and, nI_m1, Nat.add_sub_cancel, Nat.reducePow, Nat.zero_add, Nat.add_zero, Nat.reduceAdd, Nat.reduceMul, Nat.reduceSub, xf_same, xq_ff, xq_fo, xf_1, xf_2, xs_1, xs_2, xs_same, xq_so, xj_1, xj_2, xj_same, xq_jo, xq_sa1, xq_same, xq_other, upd_s, oI_n, oI_s, xv_0, xv_1, xv_2, xv_3, xm_p1, xm_p2, xq_fp, xq_fn, List.filter_nil, Nat.reduceBEq, Bool.not_true, Bool.not_false, Bool.and_true, Bool.and_false, Bool.false_and, Bool.true_and, if_true, if_false, Bool.false_eq_true, reduceIte, xc_i, xc_j, xc_r, xc_n, List.nil_append, List.cons_append, Option.toList_some, Option.toList_none, nI_ltJ, nI_leJ, nI_eqJ, nI_ltz, nI_gez, nI_gtz, nI_lez, nI_eqz, m1_ltz, m1_gez, true_imp_iff, false_imp_iff, true_and, and_true, ne_eq, not_false_eq_true, not_true_eq_false, Nat.reduceEqDiff, Nat.reduceLT, Nat.reduceLeDiff]
    obtain _ | ⟨l, ps, a, S, T⟩ := o
    · exact absurd hlt (Nat.not_lt_zero _)
    have hlt' : n < ps.length := hlt
    have hps : ps.length ≤ 400 := hP.1.1.2.2.1
    obtain ⟨t11, cn, tr, K, L, R, hcn, hT, tne⟩ := xPg_ty (tb := tb) hP.1.1 htb hlt'
    refine xx_go ?_
    with_reducible refine xm_go_blk b_X11_type_18 k_X11_type_18 ?_
    refine by_aload_n rfl ?_
    refine by_getf cn_193 fl_11_71 (by first | exact rfl | assumption) (by decide) ?_
    refine by_iload_n rfl ?_
    refine by_iload_n rfl ?_
    simp (disch := first | exact Nat.ne_of_beq_eq_false rfl | exact rfl | omega) only [nI_add, xa_sub, xa_mul, pk_div, nm_mod, xa_shr, xa_and7, xa_and1, xa_and255, xa_by_and, nI_m1, Nat.add_sub_cancel, Nat.reducePow, Nat.zero_add, Nat.add_zero, Nat.reduceAdd, Nat.reduceMul, Nat.reduceSub, xf_same, xq_ff, xq_fo, xf_1, xf_2, xs_1, xs_2, xs_same, xq_so, xj_1, xj_2, xj_same, xq_jo, xq_sa1, xq_same, xq_other, upd_s, oI_n, oI_s, xv_0, xv_1, xv_2, xv_3, xm_p1, xm_p2, xq_fp, xq_fn, List.filter_nil, Nat.reduceBEq, Bool.not_true, Bool.not_false, Bool.and_true, Bool.and_false, Bool.false_and, Bool.true_and, if_true, if_false, Bool.false_eq_true, reduceIte, xc_i, xc_j, xc_r, xc_n, List.nil_append, List.cons_append, Option.toList_some, Option.toList_none, h9]
    refine by_inv2 cn_193 lk_11_231 (by rw [xe_cnt]; decide) is_112 np_112 cn_112 (by first | exact rfl | assumption | exact ps_0 hpp) (Nat.le_of_ble_eq_true rfl) ?_
    refine sp_typeOf hF hpp (by omega) htb ?_
    by_cases e11 : pC ps n = 11
    · rw [t11 e11]
      with_reducible refine xm_go_blk b_X11_type_27 k_X11_type_27 ?_
      refine by_istore_n (by rw [ml_193]; decide) ?_
      refine by_iload_n rfl ?_
      refine by_if_ge 35 rfl ?_
      simp (disch := first | exact Nat.ne_of_beq_eq_false rfl | exact rfl | omega) only [nI_add, xa_sub, xa_mul, pk_div, nm_mod, xa_shr, xa_and7, xa_and1, xa_and255, xa_by_and, nI_m1, Nat.add_sub_cancel, Nat.reducePow, Nat.zero_add, Nat.add_zero, Nat.reduceAdd, Nat.reduceMul, Nat.reduceSub, xf_same, xq_ff, xq_fo, xf_1, xf_2, xs_1, xs_2, xs_same, xq_so, xj_1, xj_2, xj_same, xq_jo, xq_sa1, xq_same, xq_other, upd_s, oI_n, oI_s, xv_0, xv_1, xv_2, xv_3, xm_p1, xm_p2, xq_fp, xq_fn, List.filter_nil, Nat.reduceBEq, Bool.not_true, Bool.not_false, Bool.and_true, Bool.and_false, Bool.false_and, Bool.true_and, if_true, if_false, Bool.false_eq_true, reduceIte, xc_i, xc_j, xc_r, xc_n, List.nil_append, List.cons_append, Option.toList_some, Option.toList_none, nI_ltJ, nI_leJ, nI_eqJ, nI_ltz, nI_gez, nI_gtz, nI_lez, nI_eqz, m1_ltz, m1_gez, true_imp_iff, false_imp_iff, true_and, and_true, ne_eq, not_false_eq_true, not_true_eq_false, Nat.reduceEqDiff, Nat.reduceLT, Nat.reduceLeDiff]
      with_reducible refine xm_go_blk b_X11_type_32 k_X11_type_32 ?_
      refine by_bipush cb_m2 ?_
      refine by_iret ry_193 (by first | rfl | assumption) ?_
      exact hH n _ rfl ⟨rfl, hlt⟩ e11
    · obtain ⟨t, ht, et, er⟩ := tne e11
      rw [et]
      have tl := (hT.2.1 t ht).2.2.2.2.2.2.2.2.2
      rw [er] at tl
      by_cases e3 : ty_tl (tyOf (l, ps, a, S, T) tb n) ≤ 300
      · rw [Nat.min_eq_right (by omega)] at tl
        with_reducible refine xm_go_blk b_X11_type_27 k_X11_type_27 ?_
        refine by_istore_n (by rw [ml_193]; decide) ?_
        refine by_iload_n rfl ?_
        refine by_if_ge 35 rfl ?_
        simp (disch := first | exact Nat.ne_of_beq_eq_false rfl | exact rfl | omega) only [nI_add, xa_sub, xa_mul, pk_div, nm_mod, xa_shr, xa_and7, xa_and1, xa_and255, xa_by_and, nI_m1, Nat.add_sub_cancel, Nat.reducePow, Nat.zero_add, Nat.add_zero, Nat.reduceAdd, Nat.reduceMul, Nat.reduceSub, xf_same, xq_ff, xq_fo, xf_1, xf_2, xs_1, xs_2, xs_same, xq_so, xj_1, xj_2, xj_same, xq_jo, xq_sa1, xq_same, xq_other, upd_s, oI_n, oI_s, xv_0, xv_1, xv_2, xv_3, xm_p1, xm_p2, xq_fp, xq_fn, List.filter_nil, Nat.reduceBEq, Bool.not_true, Bool.not_false, Bool.and_true, Bool.and_false, Bool.false_and, Bool.true_and, if_true, if_false, Bool.false_eq_true, reduceIte, xc_i, xc_j, xc_r, xc_n, List.nil_append, List.cons_append, Option.toList_some, Option.toList_none, nI_ltJ, nI_leJ, nI_eqJ, nI_ltz, nI_gez, nI_gtz, nI_lez, nI_eqz, m1_ltz, m1_gez, true_imp_iff, false_imp_iff, true_and, and_true, ne_eq, not_false_eq_true, not_true_eq_false, Nat.reduceEqDiff, Nat.reduceLT, Nat.reduceLeDiff, h9, pf_13 hF hpp, pt_7 hF hpp, tl, xf_0_2 hF]
        with_reducible refine xm_go_blk b_X11_type_35 k_X11_type_35 ?_
        refine by_aload_n rfl ?_
        refine by_getf cn_193 fl_11_71 (by first | exact rfl | assumption) (by decide) ?_
        simp (disch := first | exact Nat.ne_of_beq_eq_false rfl | exact rfl | omega) only [nI_add, xa_sub, xa_mul, pk_div, nm_mod, xa_shr, xa_and7, xa_and1, xa_and255, xa_by_and, nI_m1, Nat.add_sub_cancel, Nat.reducePow, Nat.zero_add, Nat.add_zero, Nat.reduceAdd, Nat.reduceMul, Nat.reduceSub, xf_same, xq_ff, xq_fo, xf_1, xf_2, xs_1, xs_2, xs_same, xq_so, xj_1, xj_2, xj_same, xq_jo, xq_sa1, xq_same, xq_other, upd_s, oI_n, oI_s, h9, pf_13 hF hpp, pt_7 hF hpp, tl, xf_0_2 hF]
        refine by_getf cn_193 fl_11_128 (by first | exact rfl | assumption | exact ps_0 hpp) (by decide) ?_
        simp (disch := first | exact Nat.ne_of_beq_eq_false rfl | exact rfl | omega) only [nI_add, xa_sub, xa_mul, pk_div, nm_mod, xa_shr, xa_and7, xa_and1, xa_and255, xa_by_and, nI_m1, Nat.add_sub_cancel, Nat.reducePow, Nat.zero_add, Nat.add_zero, Nat.reduceAdd, Nat.reduceMul, Nat.reduceSub, xf_same, xq_ff, xq_fo, xf_1, xf_2, xs_1, xs_2, xs_same, xq_so, xj_1, xj_2, xj_same, xq_jo, xq_sa1, xq_same, xq_other, upd_s, oI_n, oI_s, h9, pf_13 hF hpp, pt_7 hF hpp, tl, xf_0_2 hF]
        refine by_getf cn_193 fl_11_240 (by first | exact rfl | assumption | exact ps_14 hpp) (by decide) ?_
        refine by_iload_n rfl ?_
        simp (disch := first | exact Nat.ne_of_beq_eq_false rfl | exact rfl | omega) only [nI_add, xa_sub, xa_mul, pk_div, nm_mod, xa_shr, xa_and7, xa_and1, xa_and255, xa_by_and, nI_m1, Nat.add_sub_cancel, Nat.reducePow, Nat.zero_add, Nat.add_zero, Nat.reduceAdd, Nat.reduceMul, Nat.reduceSub, xf_same, xq_ff, xq_fo, xf_1, xf_2, xs_1, xs_2, xs_same, xq_so, xj_1, xj_2, xj_same, xq_jo, xq_sa1, xq_same, xq_other, upd_s, oI_n, oI_s, h9, pf_13 hF hpp, pt_7 hF hpp, tl, xf_0_2 hF]
        first | refine by_iald (by first | exact rfl | assumption | exact ps_1 hpp | exact ps_2 hpp | exact ps_3 hpp | exact ps_4 hpp | exact ps_5 hpp | exact ps_6 hpp | exact ps_7 hpp | exact ps_8 hpp | exact ps_9 hpp | exact ps_10 hpp | exact ps_11 hpp | exact ps_15 hpp | exact ps_16 hpp | exact ps_17 hpp | exact ps_18 hpp | exact ps_19 hpp | exact ps_21 hpp | exact ps_22 hpp | exact ps_23 hpp | exact ps_24 hpp) ⟨by omega, by omega⟩ ?_ | refine by_tald rfl rfl ⟨by omega, by omega⟩ ?_
        refine by_sipush cs_300 ?_
        refine by_ic_le 55 rfl ?_
        simp (disch := first | exact Nat.ne_of_beq_eq_false rfl | exact rfl | omega) only [nI_add, xa_sub, xa_mul, pk_div, nm_mod, xa_shr, xa_and7, xa_and1, xa_and255, xa_by_and, nI_m1, Nat.add_sub_cancel, Nat.reducePow, Nat.zero_add, Nat.add_zero, Nat.reduceAdd, Nat.reduceMul, Nat.reduceSub, xf_same, xq_ff, xq_fo, xf_1, xf_2, xs_1, xs_2, xs_same, xq_so, xj_1, xj_2, xj_same, xq_jo, xq_sa1, xq_same, xq_other, upd_s, oI_n, oI_s, xv_0, xv_1, xv_2, xv_3, xm_p1, xm_p2, xq_fp, xq_fn, List.filter_nil, Nat.reduceBEq, Bool.not_true, Bool.not_false, Bool.and_true, Bool.and_false, Bool.false_and, Bool.true_and, if_true, if_false, Bool.false_eq_true, reduceIte, xc_i, xc_j, xc_r, xc_n, List.nil_append, List.cons_append, Option.toList_some, Option.toList_none, nI_ltJ, nI_leJ, nI_eqJ, nI_ltz, nI_gez, nI_gtz, nI_lez, nI_eqz, m1_ltz, m1_gez, true_imp_iff, false_imp_iff, true_and, and_true, ne_eq, not_false_eq_true, not_true_eq_false, Nat.reduceEqDiff, Nat.reduceLT, Nat.reduceLeDiff, h9, pf_13 hF hpp, pt_7 hF hpp, tl, xf_0_2 hF]
        refine ⟨fun c35 => ?_, fun c => absurd (by omega) c⟩
        with_reducible refine xm_go_blk b_X11_type_55 k_X11_type_55 ?_
        refine by_aload_n rfl ?_
        refine by_getf cn_193 fl_11_19 (by first | exact rfl | assumption) (by decide) ?_
        simp (disch := first | exact Nat.ne_of_beq_eq_false rfl | exact rfl | omega) only [nI_add, xa_sub, xa_mul, pk_div, nm_mod, xa_shr, xa_and7, xa_and1, xa_and255, xa_by_and, nI_m1, Nat.add_sub_cancel, Nat.reducePow, Nat.zero_add, Nat.add_zero, Nat.reduceAdd, Nat.reduceMul, Nat.reduceSub, xf_same, xq_ff, xq_fo, xf_1, xf_2, xs_1, xs_2, xs_same, xq_so, xj_1, xj_2, xj_same, xq_jo, xq_sa1, xq_same, xq_other, upd_s, oI_n, oI_s, xv_0, xv_1, xv_2, xv_3, xm_p1, xm_p2, xq_fp, xq_fn, List.filter_nil, Nat.reduceBEq, Bool.not_true, Bool.not_false, Bool.and_true, Bool.and_false, Bool.false_and, Bool.true_and, if_true, if_false, Bool.false_eq_true, reduceIte, xc_i, xc_j, xc_r, xc_n, List.nil_append, List.cons_append, Option.toList_some, Option.toList_none, h9, pf_13 hF hpp, pt_7 hF hpp, tl, xf_0_2 hF]
        refine by_inv0 cn_193 lk_11_98 (by rw [xe_cnt]; decide) is_128 np_128 cn_128 (by first | exact rfl | assumption | exact ps_12 hpp) (Nat.le_of_ble_eq_true rfl) ?_
        refine sp_penclr hF (fun h1 f1 p1 _ => ?_)
        have F1 := Fr_XF hF f1 (by decide +kernel)
        have e9 : h1.2.2 0 9 = .ref pp := by rw [f1.2.2 _ _ (by simp)]; exact h9
        have hT1 : tyT h1 pp cn tr K L R := tyT_fr hT f1 (by simp <;> omega) (by simp [taR])
        with_reducible refine xm_go_blk b_X11_type_62 k_X11_type_62 ?_
        refine by_aload_n rfl ?_
        refine by_getf cn_193 fl_11_71 (by first | exact rfl | assumption) (by decide) ?_
        simp (disch := first | exact Nat.ne_of_beq_eq_false rfl | exact rfl | omega) only [nI_add, xa_sub, xa_mul, pk_div, nm_mod, xa_shr, xa_and7, xa_and1, xa_and255, xa_by_and, nI_m1, Nat.add_sub_cancel, Nat.reducePow, Nat.zero_add, Nat.add_zero, Nat.reduceAdd, Nat.reduceMul, Nat.reduceSub, xf_same, xq_ff, xq_fo, xf_1, xf_2, xs_1, xs_2, xs_same, xq_so, xj_1, xj_2, xj_same, xq_jo, xq_sa1, xq_same, xq_other, upd_s, oI_n, oI_s, e9, pf_13 F1 hpp, xf_0_2 F1]
        refine by_getf cn_193 fl_11_128 (by first | exact rfl | assumption | exact ps_0 hpp) (by decide) ?_
        refine by_iload_n rfl ?_
        refine by_aload_n rfl ?_
        refine by_getf cn_193 fl_11_19 (by first | exact rfl | assumption) (by decide) ?_
        simp (disch := first | exact Nat.ne_of_beq_eq_false rfl | exact rfl | omega) only [nI_add, xa_sub, xa_mul, pk_div, nm_mod, xa_shr, xa_and7, xa_and1, xa_and255, xa_by_and, nI_m1, Nat.add_sub_cancel, Nat.reducePow, Nat.zero_add, Nat.add_zero, Nat.reduceAdd, Nat.reduceMul, Nat.reduceSub, xf_same, xq_ff, xq_fo, xf_1, xf_2, xs_1, xs_2, xs_same, xq_so, xj_1, xj_2, xj_same, xq_jo, xq_sa1, xq_same, xq_other, upd_s, oI_n, oI_s, xv_0, xv_1, xv_2, xv_3, xm_p1, xm_p2, xq_fp, xq_fn, List.filter_nil, Nat.reduceBEq, Bool.not_true, Bool.not_false, Bool.and_true, Bool.and_false, Bool.false_and, Bool.true_and, if_true, if_false, Bool.false_eq_true, reduceIte, xc_i, xc_j, xc_r, xc_n, List.nil_append, List.cons_append, Option.toList_some, Option.toList_none, e9, pf_13 F1 hpp, xf_0_2 F1]
        refine by_inv2 cn_193 lk_11_243 (by rw [xe_cnt]; decide) is_176 np_176 cn_176 (by first | exact rfl | assumption | exact ps_14 hpp) (Nat.le_of_ble_eq_true rfl) ?_
        refine sp_writeType F1 hpp hT1 hcn ht (by rw [er]; exact e3) p1 (fun h2 f2 p2 => ?_)
        rw [er] at p2
        have f12 : Fr [6, pp + 24] (tyFT pp) h h2 := Fr_tr (Fr_mo f1 (by simp) (by simp [tyFT])) f2 (by simp) (by simp [twT, tyFT])
        have F2 := Fr_XF F1 f2 (wt_fin hpp)
        with_reducible refine xm_go_blk b_X11_type_77 k_X11_type_77 ?_
        refine by_aload_n rfl ?_
        refine by_inv0 cn_193 lk_11_194 (by rw [xe_cnt]; decide) is_186 np_186 cn_186 (by first | exact rfl | assumption) (Nat.le_of_ble_eq_true rfl) ?_
        refine sp_publishL F2 p2 (by rw [ttx_len]; omega) (fun h3 f3 r3 => ?_)
        rw [ttx_len]
        with_reducible refine xm_go_blk b_X11_type_81 k_X11_type_81 ?_
        refine by_iret ry_193 (by first | rfl | assumption) ?_
        exact hC n _ h3 rfl ⟨rfl, hlt⟩ e11 e3 (Fr_tr (Fr_mo f12 (by simp) (by simp)) f3 (by simp) (by simp [tyFT])) r3
      · have tlm : 300 < min 1000000 (ty_tl (tyOf (l, ps, a, S, T) tb n)) := by omega
        have tlm2 : min 1000000 (ty_tl (tyOf (l, ps, a, S, T) tb n)) ≤ 1000000 := by omega
        with_reducible refine xm_go_blk b_X11_type_27 k_X11_type_27 ?_
        refine by_istore_n (by rw [ml_193]; decide) ?_
        refine by_iload_n rfl ?_
        refine by_if_ge 35 rfl ?_
        simp (disch := first | exact Nat.ne_of_beq_eq_false rfl | exact rfl | omega) only [nI_add, xa_sub, xa_mul, pk_div, nm_mod, xa_shr, xa_and7, xa_and1, xa_and255, xa_by_and, nI_m1, Nat.add_sub_cancel, Nat.reducePow, Nat.zero_add, Nat.add_zero, Nat.reduceAdd, Nat.reduceMul, Nat.reduceSub, xf_same, xq_ff, xq_fo, xf_1, xf_2, xs_1, xs_2, xs_same, xq_so, xj_1, xj_2, xj_same, xq_jo, xq_sa1, xq_same, xq_other, upd_s, oI_n, oI_s, xv_0, xv_1, xv_2, xv_3, xm_p1, xm_p2, xq_fp, xq_fn, List.filter_nil, Nat.reduceBEq, Bool.not_true, Bool.not_false, Bool.and_true, Bool.and_false, Bool.false_and, Bool.true_and, if_true, if_false, Bool.false_eq_true, reduceIte, xc_i, xc_j, xc_r, xc_n, List.nil_append, List.cons_append, Option.toList_some, Option.toList_none, nI_ltJ, nI_leJ, nI_eqJ, nI_ltz, nI_gez, nI_gtz, nI_lez, nI_eqz, m1_ltz, m1_gez, true_imp_iff, false_imp_iff, true_and, and_true, ne_eq, not_false_eq_true, not_true_eq_false, Nat.reduceEqDiff, Nat.reduceLT, Nat.reduceLeDiff, h9, pf_13 hF hpp, pt_7 hF hpp, tl]
        with_reducible refine xm_go_blk b_X11_type_35 k_X11_type_35 ?_
        refine by_aload_n rfl ?_
        refine by_getf cn_193 fl_11_71 (by first | exact rfl | assumption) (by decide) ?_
        simp (disch := first | exact Nat.ne_of_beq_eq_false rfl | exact rfl | omega) only [nI_add, xa_sub, xa_mul, pk_div, nm_mod, xa_shr, xa_and7, xa_and1, xa_and255, xa_by_and, nI_m1, Nat.add_sub_cancel, Nat.reducePow, Nat.zero_add, Nat.add_zero, Nat.reduceAdd, Nat.reduceMul, Nat.reduceSub, xf_same, xq_ff, xq_fo, xf_1, xf_2, xs_1, xs_2, xs_same, xq_so, xj_1, xj_2, xj_same, xq_jo, xq_sa1, xq_same, xq_other, upd_s, oI_n, oI_s, h9, pf_13 hF hpp, pt_7 hF hpp, tl]
        refine by_getf cn_193 fl_11_128 (by first | exact rfl | assumption | exact ps_0 hpp) (by decide) ?_
        simp (disch := first | exact Nat.ne_of_beq_eq_false rfl | exact rfl | omega) only [nI_add, xa_sub, xa_mul, pk_div, nm_mod, xa_shr, xa_and7, xa_and1, xa_and255, xa_by_and, nI_m1, Nat.add_sub_cancel, Nat.reducePow, Nat.zero_add, Nat.add_zero, Nat.reduceAdd, Nat.reduceMul, Nat.reduceSub, xf_same, xq_ff, xq_fo, xf_1, xf_2, xs_1, xs_2, xs_same, xq_so, xj_1, xj_2, xj_same, xq_jo, xq_sa1, xq_same, xq_other, upd_s, oI_n, oI_s, h9, pf_13 hF hpp, pt_7 hF hpp, tl]
        refine by_getf cn_193 fl_11_240 (by first | exact rfl | assumption | exact ps_14 hpp) (by decide) ?_
        refine by_iload_n rfl ?_
        simp (disch := first | exact Nat.ne_of_beq_eq_false rfl | exact rfl | omega) only [nI_add, xa_sub, xa_mul, pk_div, nm_mod, xa_shr, xa_and7, xa_and1, xa_and255, xa_by_and, nI_m1, Nat.add_sub_cancel, Nat.reducePow, Nat.zero_add, Nat.add_zero, Nat.reduceAdd, Nat.reduceMul, Nat.reduceSub, xf_same, xq_ff, xq_fo, xf_1, xf_2, xs_1, xs_2, xs_same, xq_so, xj_1, xj_2, xj_same, xq_jo, xq_sa1, xq_same, xq_other, upd_s, oI_n, oI_s, h9, pf_13 hF hpp, pt_7 hF hpp, tl]
        first | refine by_iald (by first | exact rfl | assumption | exact ps_1 hpp | exact ps_2 hpp | exact ps_3 hpp | exact ps_4 hpp | exact ps_5 hpp | exact ps_6 hpp | exact ps_7 hpp | exact ps_8 hpp | exact ps_9 hpp | exact ps_10 hpp | exact ps_11 hpp | exact ps_15 hpp | exact ps_16 hpp | exact ps_17 hpp | exact ps_18 hpp | exact ps_19 hpp | exact ps_21 hpp | exact ps_22 hpp | exact ps_23 hpp | exact ps_24 hpp) ⟨by omega, by omega⟩ ?_ | refine by_tald rfl rfl ⟨by omega, by omega⟩ ?_
        refine by_sipush cs_300 ?_
        refine by_ic_le 55 rfl ?_
        simp (disch := first | exact Nat.ne_of_beq_eq_false rfl | exact rfl | omega) only [nI_add, xa_sub, xa_mul, pk_div, nm_mod, xa_shr, xa_and7, xa_and1, xa_and255, xa_by_and, nI_m1, Nat.add_sub_cancel, Nat.reducePow, Nat.zero_add, Nat.add_zero, Nat.reduceAdd, Nat.reduceMul, Nat.reduceSub, xf_same, xq_ff, xq_fo, xf_1, xf_2, xs_1, xs_2, xs_same, xq_so, xj_1, xj_2, xj_same, xq_jo, xq_sa1, xq_same, xq_other, upd_s, oI_n, oI_s, xv_0, xv_1, xv_2, xv_3, xm_p1, xm_p2, xq_fp, xq_fn, List.filter_nil, Nat.reduceBEq, Bool.not_true, Bool.not_false, Bool.and_true, Bool.and_false, Bool.false_and, Bool.true_and, if_true, if_false, Bool.false_eq_true, reduceIte, xc_i, xc_j, xc_r, xc_n, List.nil_append, List.cons_append, Option.toList_some, Option.toList_none, nI_ltJ, nI_leJ, nI_eqJ, nI_ltz, nI_gez, nI_gtz, nI_lez, nI_eqz, m1_ltz, m1_gez, true_imp_iff, false_imp_iff, true_and, and_true, ne_eq, not_false_eq_true, not_true_eq_false, Nat.reduceEqDiff, Nat.reduceLT, Nat.reduceLeDiff, h9, pf_13 hF hpp, pt_7 hF hpp, tl]
        refine ⟨fun c => absurd c (by omega), fun c35 => ?_⟩
        with_reducible refine xm_go_blk b_X11_type_53 k_X11_type_53 ?_
        refine by_iconst ci_m1 ?_
        refine by_iret ry_193 (by first | rfl | assumption) ?_
        exact hL n _ rfl ⟨rfl, hlt⟩ e11 (by omega)
  · with_reducible refine xx_blk b_X11_type_5 k_X11_type_5 ?_
    refine by_if_ne 18 rfl ?_
    simp (disch := first | exact Nat.ne_of_beq_eq_false rfl | exact rfl | omega) only [nI_add, xa_sub, xa_mul, pk_div, nm_mod, xa_shr, xa_and7, xa_and1, xa_and255, xa_by_and, nI_m1, Nat.add_sub_cancel, Nat.reducePow, Nat.zero_add, Nat.add_zero, Nat.reduceAdd, Nat.reduceMul, Nat.reduceSub, xf_same, xq_ff, xq_fo, xf_1, xf_2, xs_1, xs_2, xs_same, xq_so, xj_1, xj_2, xj_same, xq_jo, xq_sa1, xq_same, xq_other, upd_s, oI_n, oI_s, xv_0, xv_1, xv_2, xv_3, xm_p1, xm_p2, xq_fp, xq_fn, List.filter_nil, Nat.reduceBEq, Bool.not_true, Bool.not_false, Bool.and_true, Bool.and_false, Bool.false_and, Bool.true_and, if_true, if_false, Bool.false_eq_true, reduceIte, xc_i, xc_j, xc_r, xc_n, List.nil_append, List.cons_append, Option.toList_some, Option.toList_none, nI_ltJ, nI_leJ, nI_eqJ, nI_ltz, nI_gez, nI_gtz, nI_lez, nI_eqz, m1_ltz, m1_gez, true_imp_iff, false_imp_iff, true_and, and_true, ne_eq, not_false_eq_true, not_true_eq_false, Nat.reduceEqDiff, Nat.reduceLT, Nat.reduceLeDiff]
    exact xx_thr rfl (hA (fun n z => hno n z.2 z.1))
end XT
