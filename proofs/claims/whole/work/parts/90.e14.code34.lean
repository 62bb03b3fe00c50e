/-! ===== the class's machine: works ===== -/
section WK
variable {sc : xm_Sc} {d pp df : Nat} {h : xm_H} {post : xm_Po}
theorem sp_works {n i j cn : Nat} {tr : Nat → Ty} {K L R : Nat → Nat} {tl : List Nat} {w : mc_W} {r : (Nat → Bool) → Option mc_V} (hF : XF h) (hpp : pp = 52 ∨ pp = 77) (h0 : h.2.2 pp 0 = .int (nI (n + 1))) (hn : n < 400) (hT : tyT h pp cn tr K L R) (hcn : cn ≤ 2826) (hi : i < cn) (h6 : h.1 (pp + 6) n = nI i) (hj : j < cn) (h7 : h.1 (pp + 7) n = nI j) (es : ty_w (tr i) = w_s w n) (et : ty_w (tr j) = w_t w n) (hws : w_s w n ≤ 2048) (hwt : w_t w n ≤ 2048) (hrow : rowIs h 1 2 tl) (htl : w_s w n ≤ 8 * tl.length)
    (hbg : Bg sc d pp df w h post n r) (hlr : Lr w n r) (hwc : w_c w n ≤ 830000) (hwf : w_f w n ≤ 90000) (hwd : w_d w n ≤ 1600) (hwr : w_r w n < 8000) (hwb : w_b w n ≤ 1099511627776)
    (hyes : ∀ a s c e, r (byB tl) = some (a, s, c, e) → ∀ h', XF h' → Fr mcR mcT h h' → mSt h' [] (w_s w n + w_t w n + c) (2 + e) s → (∀ i, i < w_t w n → mB h' (w_s w n + i) = a.getD i false) → post (some (.int (nI 1))) h')
    (hno : r (byB tl) = none → ∀ h', XF h' → Fr mcR mcT h h' → post (some (.int (nI 0))) h') : xm_T (XE sc) (d + 8) 88 [.ref 32, .ref pp, .ref 1, .int (nI df)] h post := by
  have htl8 := hrow.2.2.1
  have hpp7 : pp + 6 ∉ mcR ∧ pp + 7 ∉ mcR ∧ (pp, 0) ∉ mcT ∧ (pp + 14, 0) ∉ mcT ∧ (∀ q, q ∈ taR pp → q ∉ mcR) := by
    rcases hpp with rfl | rfl <;> decide
  have key : ∀ (y z : Nat) (h1 : xm_H), z + y = tl.length → XF h1 → Fr mcR mcT h h1 → (∀ i, i < 8 * z → mB h1 i = byB tl i) → xm_go (XE sc) (xm_T (XE sc) (d + 7)) 88 post 11 [(5, .int (nI z)), (4, .int (nI n)), (0, .ref 32), (1, .ref pp), (2, .ref 1), (3, .int (nI df))] [] h1 := by
    intro y
    induction y with
    | zero =>
      intro z h1 hz F1 f1 b1
      have r1 := rowIs_fr hrow f1 (by simp [mcR]) (by simp [mcT]) (by simp [mcT])
      have r11 := r1.2.1
      have hz' : z = tl.length := by omega
      rw [hz'] at b1 ⊢
      with_reducible refine xm_go_blk b_X4_works_11 k_X4_works_11 ?_
      refine by_iload rfl ?_
      refine by_aload_n rfl ?_
      refine by_getf cn_88 fl_4_83 (by first | exact rfl | assumption | exact ps_12 hpp) (by decide) ?_
      simp (disch := first | exact Nat.ne_of_beq_eq_false rfl | exact rfl | omega) only [nI_add, xa_sub, xa_mul, pk_div, nm_mod, xa_shr, xa_and7, xa_and1, xa_and255, xa_by_and, nI_m1, Nat.add_sub_cancel, Nat.reducePow, Nat.zero_add, Nat.add_zero, Nat.reduceAdd, Nat.reduceMul, Nat.reduceSub, xf_same, xq_ff, xq_fo, xf_1, xf_2, xs_1, xs_2, xs_same, xq_so, xj_1, xj_2, xj_same, xq_jo, xq_sa1, xq_same, xq_other, upd_s, oI_n, oI_s, r11]
      refine by_ic_ge 44 rfl ?_
      simp (disch := first | exact Nat.ne_of_beq_eq_false rfl | exact rfl | omega) only [nI_add, xa_sub, xa_mul, pk_div, nm_mod, xa_shr, xa_and7, xa_and1, xa_and255, xa_by_and, nI_m1, Nat.add_sub_cancel, Nat.reducePow, Nat.zero_add, Nat.add_zero, Nat.reduceAdd, Nat.reduceMul, Nat.reduceSub, xf_same, xq_ff, xq_fo, xf_1, xf_2, xs_1, xs_2, xs_same, xq_so, xj_1, xj_2, xj_same, xq_jo, xq_sa1, xq_same, xq_other, upd_s, oI_n, oI_s, xv_0, xv_1, xv_2, xv_3, xm_p1, xm_p2, xq_fp, xq_fn, List.filter_nil, Nat.reduceBEq, Bool.not_true, Bool.not_false, Bool.and_true, Bool.and_false, Bool.false_and, Bool.true_and, if_true, if_false, Bool.false_eq_true, reduceIte, xc_i, xc_j, xc_r, xc_n, List.nil_append, List.cons_append, Option.toList_some, Option.toList_none, nI_ltJ, nI_leJ, nI_eqJ, nI_ltz, nI_gez, nI_gtz, nI_lez, nI_eqz, m1_ltz, m1_gez, true_imp_iff, false_imp_iff, true_and, and_true, ne_eq, not_false_eq_true, not_true_eq_false, Nat.reduceEqDiff, Nat.reduceLT, Nat.reduceLeDiff, r11]
      refine ⟨fun c11 => ?_, fun c => absurd (by omega) c⟩
      with_reducible refine xm_go_blk b_X4_works_44 k_X4_works_44 ?_
      refine by_aload_n rfl ?_
      refine by_iload rfl ?_
      refine by_inv1 cn_88 lk_4_89 (by rw [xe_cnt]; decide) is_110 np_110 cn_110 (by first | exact rfl | assumption | exact ps_0 hpp) (Nat.le_of_ble_eq_true rfl) ?_
      refine sp_srcW F1 hpp (by omega) (tyT_fr hT f1 hpp7.2.2.2.1 hpp7.2.2.2.2) (by omega) hi (by rw [f1.1 _ hpp7.1]; exact h6) ?_
      rw [es, Nat.min_eq_right (by omega)]
      with_reducible refine xm_go_blk b_X4_works_50 k_X4_works_50 ?_
      refine by_istore (by rw [ml_88]; decide) ?_
      refine by_aload_n rfl ?_
      refine by_iconst ci_0 ?_
      refine by_putf cn_88 fl_4_92 (by first | exact rfl | assumption) (by decide) nf_4_10 ft_4_10 (by first | rfl | assumption) (by first | rfl | assumption) ?_
      refine by_aload_n rfl ?_
      refine by_lconst cl_0 ?_
      refine by_putf cn_88 fl_4_42 (by first | exact rfl | assumption) (by decide) nf_4_16 ft_4_16 (by first | rfl | assumption) (by first | rfl | assumption) ?_
      refine by_aload_n rfl ?_
      refine by_iload rfl ?_
      refine by_aload_n rfl ?_
      refine by_iload rfl ?_
      simp (disch := first | exact Nat.ne_of_beq_eq_false rfl | exact rfl | omega) only [nI_add, xa_sub, xa_mul, pk_div, nm_mod, xa_shr, xa_and7, xa_and1, xa_and255, xa_by_and, nI_m1, Nat.add_sub_cancel, Nat.reducePow, Nat.zero_add, Nat.add_zero, Nat.reduceAdd, Nat.reduceMul, Nat.reduceSub, xf_same, xq_ff, xq_fo, xf_1, xf_2, xs_1, xs_2, xs_same, xq_so, xj_1, xj_2, xj_same, xq_jo, xq_sa1, xq_same, xq_other, upd_s, oI_n, oI_s, xv_0, xv_1, xv_2, xv_3, xm_p1, xm_p2, xq_fp, xq_fn, List.filter_nil, Nat.reduceBEq, Bool.not_true, Bool.not_false, Bool.and_true, Bool.and_false, Bool.false_and, Bool.true_and, if_true, if_false, Bool.false_eq_true, reduceIte, xc_i, xc_j, xc_r, xc_n, List.nil_append, List.cons_append, Option.toList_some, Option.toList_none]
      refine by_inv1 cn_88 lk_4_95 (by rw [xe_cnt]; decide) is_111 np_111 cn_111 (by first | exact rfl | assumption | exact ps_0 hpp) (Nat.le_of_ble_eq_true rfl) ?_
      have f2 : Fr mcR mcT h (xm_sf (xm_sf h1 32 10 (.int (nI 0))) 32 16 (.long (lN 0))) := Fr_sf (Fr_sf f1 (by simp [mcT])) (by simp [mcT])
      have F2 := Fr_XF hF f2 mcT_fin
      refine sp_tgtW F2 hpp (by omega) (tyT_fr hT f2 hpp7.2.2.2.1 hpp7.2.2.2.2) (by omega) hj (by rw [f2.1 _ hpp7.2.1]; exact h7) ?_
      rw [et, Nat.min_eq_right (by omega)]
      with_reducible refine xm_go_blk b_X4_works_71 k_X4_works_71 ?_
      refine by_iadd ?_
      refine by_putf cn_88 fl_4_98 (by first | exact rfl | assumption) (by decide) nf_4_0 ft_4_0 (by first | rfl | assumption) (by first | rfl | assumption) ?_
      refine by_aload_n rfl ?_
      refine by_iconst ci_2 ?_
      refine by_putf cn_88 fl_4_101 (by first | exact rfl | assumption) (by decide) nf_4_1 ft_4_1 (by first | rfl | assumption) (by first | rfl | assumption) ?_
      refine by_aload_n rfl ?_
      refine by_iload rfl ?_
      refine by_iconst ci_0 ?_
      refine by_iload rfl ?_
      refine by_aload_n rfl ?_
      refine by_getf cn_88 fl_4_98 (by first | exact rfl | assumption) (by decide) ?_
      refine by_iconst ci_2 ?_
      simp (disch := first | exact Nat.ne_of_beq_eq_false rfl | exact rfl | omega) only [nI_add, xa_sub, xa_mul, pk_div, nm_mod, xa_shr, xa_and7, xa_and1, xa_and255, xa_by_and, nI_m1, Nat.add_sub_cancel, Nat.reducePow, Nat.zero_add, Nat.add_zero, Nat.reduceAdd, Nat.reduceMul, Nat.reduceSub, xf_same, xq_ff, xq_fo, xf_1, xf_2, xs_1, xs_2, xs_same, xq_so, xj_1, xj_2, xj_same, xq_jo, xq_sa1, xq_same, xq_other, upd_s, oI_n, oI_s, xv_0, xv_1, xv_2, xv_3, xm_p1, xm_p2, xq_fp, xq_fn, List.filter_nil, Nat.reduceBEq, Bool.not_true, Bool.not_false, Bool.and_true, Bool.and_false, Bool.false_and, Bool.true_and, if_true, if_false, Bool.false_eq_true, reduceIte, xc_i, xc_j, xc_r, xc_n, List.nil_append, List.cons_append, Option.toList_some, Option.toList_none]
      refine by_inv5 cn_88 lk_4_104 (by rw [xe_cnt]; decide) is_77 np_77 cn_77 (by first | exact rfl | assumption) (Nat.le_of_ble_eq_true rfl) ?_
      have f3 : Fr mcR mcT h (xm_sf (xm_sf (xm_sf (xm_sf h1 32 10 (.int (nI 0))) 32 16 (.long (lN 0))) 32 0 (.int (nI (w_s w n + w_t w n)))) 32 1 (.int (nI 2))) := Fr_sf (Fr_sf f2 (by simp [mcT])) (by simp [mcT])
      have F3 := Fr_XF hF f3 mcT_fin
      have S3 : mSt (xm_sf (xm_sf (xm_sf (xm_sf h1 32 10 (.int (nI 0))) 32 16 (.long (lN 0))) 32 0 (.int (nI (w_s w n + w_t w n)))) 32 1 (.int (nI 2))) [] (w_s w n + w_t w n) 2 0 := ⟨by simp [xm_sf, updV], trivial, by simp [xm_sf, updV], by simp [xm_sf, updV], by simp [xm_sf, updV]⟩
      have b3 : mB (xm_sf (xm_sf (xm_sf (xm_sf h1 32 10 (.int (nI 0))) 32 16 (.long (lN 0))) 32 0 (.int (nI (w_s w n + w_t w n)))) 32 1 (.int (nI 2))) = mB h1 := rfl
      generalize xm_sf (xm_sf (xm_sf (xm_sf h1 32 10 (.int (nI 0))) 32 16 (.long (lN 0))) 32 0 (.int (nI (w_s w n + w_t w n)))) 32 1 (.int (nI 2)) = h3 at *
      refine sp_await (n := n) (f := 0) (t := w_s w n) (b := w_s w n + w_t w n) (g := 2) F3 (by simp) S3 (fun h4 f4 S4 => ?_)
      have f04 : Fr mcR mcT h h4 := Fr_tr f3 f4 (by simp [mcR]) (by simp [mcT])
      have F4 := Fr_XF hF f04 mcT_fin
      have b4 : mB h4 = mB h1 := (mB_fr f4 (by simp)).trans b3
      with_reducible refine xm_go_blk b_X4_works_94 k_X4_works_94 ?_
      refine by_lconst cl_0 ?_
      refine by_lstore (by rw [ml_88]; decide) ?_
      refine by_nil ?_
      try simp (disch := first | exact Nat.ne_of_beq_eq_false rfl | exact rfl | omega) only [nI_add, xa_sub, xa_mul, pk_div, nm_mod, xa_shr, xa_and7, xa_and1, xa_and255, xa_by_and, nI_m1, Nat.add_sub_cancel, Nat.reducePow, Nat.zero_add, Nat.add_zero, Nat.reduceAdd, Nat.reduceMul, Nat.reduceSub, xf_same, xq_ff, xq_fo, xf_1, xf_2, xs_1, xs_2, xs_same, xq_so, xj_1, xj_2, xj_same, xq_jo, xq_sa1, xq_same, xq_other, upd_s, oI_n, oI_s, xv_0, xv_1, xv_2, xv_3, xm_p1, xm_p2, xq_fp, xq_fn, List.filter_nil, Nat.reduceBEq, Bool.not_true, Bool.not_false, Bool.and_true, Bool.and_false, Bool.false_and, Bool.true_and, if_true, if_false, Bool.false_eq_true, reduceIte, xc_i, xc_j, xc_r, xc_n, List.nil_append, List.cons_append, Option.toList_some, Option.toList_none]
      refine xm_go_wk (by simp [Value.category]) (show Wk sc d pp df post 0 h4 from Wk_pop F4 hpp S4 (by simp) (by omega) (fun h5 F5 f5 N5 S5 => ?_))
      have f05 : Fr mcR mcT h h5 := Fr_tr f04 f5 (by simp) (by simp [mcT])
      have b5 : mB h5 = mB h1 := (mB_fr f5 (by simp)).trans b4
      have er : r (mc_sh (mB h5) 0) = r (byB tl) := hlr.1 _ _ (fun i hi => by
        show mB h5 (0 + i) = _
        rw [b5, Nat.zero_add]
        exact b1 i (by omega))
      refine hbg h5 0 (w_s w n) (w_s w n + w_t w n) 2 [] _ 2 0 0 0 F5 f05 N5 S5 (by omega) (by omega) (by omega) (by omega) (Nat.le_refl _) (Nat.le_refl _) (by omega) (by decide) (by omega) (by simp; omega) (by omega) (by omega) (fun a s c e hr h' tn' ht F' f' S' b' _ => ?_) (fun hr h' F' f' => ?_)
      · rw [er] at hr
        rw [Nat.max_eq_right (by omega), Nat.max_eq_right (by omega), Nat.zero_add] at S'
        exact Wk_end F' S' (by omega) (hyes a s c e hr h' F' f' S' b')
      · rw [er] at hr
        exact hno hr h' F' f'
    | succ y ih =>
      intro z h1 hz F1 f1 b1
      have r1 := rowIs_fr hrow f1 (by simp [mcR]) (by simp [mcT]) (by simp [mcT])
      have r11 := r1.2.1
      have hb := rowIs_lt r1 (i := z) (by omega)
      with_reducible refine xm_go_blk b_X4_works_11 k_X4_works_11 ?_
      refine by_iload rfl ?_
      refine by_aload_n rfl ?_
      refine by_getf cn_88 fl_4_83 (by first | exact rfl | assumption | exact ps_12 hpp) (by decide) ?_
      simp (disch := first | exact Nat.ne_of_beq_eq_false rfl | exact rfl | omega) only [nI_add, xa_sub, xa_mul, pk_div, nm_mod, xa_shr, xa_and7, xa_and1, xa_and255, xa_by_and, nI_m1, Nat.add_sub_cancel, Nat.reducePow, Nat.zero_add, Nat.add_zero, Nat.reduceAdd, Nat.reduceMul, Nat.reduceSub, xf_same, xq_ff, xq_fo, xf_1, xf_2, xs_1, xs_2, xs_same, xq_so, xj_1, xj_2, xj_same, xq_jo, xq_sa1, xq_same, xq_other, upd_s, oI_n, oI_s, r11]
      refine by_ic_ge 44 rfl ?_
      simp (disch := first | exact Nat.ne_of_beq_eq_false rfl | exact rfl | omega) only [nI_add, xa_sub, xa_mul, pk_div, nm_mod, xa_shr, xa_and7, xa_and1, xa_and255, xa_by_and, nI_m1, Nat.add_sub_cancel, Nat.reducePow, Nat.zero_add, Nat.add_zero, Nat.reduceAdd, Nat.reduceMul, Nat.reduceSub, xf_same, xq_ff, xq_fo, xf_1, xf_2, xs_1, xs_2, xs_same, xq_so, xj_1, xj_2, xj_same, xq_jo, xq_sa1, xq_same, xq_other, upd_s, oI_n, oI_s, xv_0, xv_1, xv_2, xv_3, xm_p1, xm_p2, xq_fp, xq_fn, List.filter_nil, Nat.reduceBEq, Bool.not_true, Bool.not_false, Bool.and_true, Bool.and_false, Bool.false_and, Bool.true_and, if_true, if_false, Bool.false_eq_true, reduceIte, xc_i, xc_j, xc_r, xc_n, List.nil_append, List.cons_append, Option.toList_some, Option.toList_none, nI_ltJ, nI_leJ, nI_eqJ, nI_ltz, nI_gez, nI_gtz, nI_lez, nI_eqz, m1_ltz, m1_gez, true_imp_iff, false_imp_iff, true_and, and_true, ne_eq, not_false_eq_true, not_true_eq_false, Nat.reduceEqDiff, Nat.reduceLT, Nat.reduceLeDiff, r11]
      refine ⟨fun c => absurd c (by omega), fun c11 => ?_⟩
      with_reducible refine xm_go_blk b_X4_works_20 k_X4_works_20 ?_
      refine by_aload_n rfl ?_
      refine by_bipush cb_8 ?_
      refine by_iload rfl ?_
      refine by_imul ?_
      refine by_bipush cb_8 ?_
      refine by_aload_n rfl ?_
      refine by_iload rfl ?_
      simp (disch := first | exact Nat.ne_of_beq_eq_false rfl | exact rfl | omega) only [nI_add, xa_sub, xa_mul, pk_div, nm_mod, xa_shr, xa_and7, xa_and1, xa_and255, xa_by_and, nI_m1, Nat.add_sub_cancel, Nat.reducePow, Nat.zero_add, Nat.add_zero, Nat.reduceAdd, Nat.reduceMul, Nat.reduceSub, xf_same, xq_ff, xq_fo, xf_1, xf_2, xs_1, xs_2, xs_same, xq_so, xj_1, xj_2, xj_same, xq_jo, xq_sa1, xq_same, xq_other, upd_s, oI_n, oI_s, xv_0, xv_1, xv_2, xv_3, xm_p1, xm_p2, xq_fp, xq_fn, List.filter_nil, Nat.reduceBEq, Bool.not_true, Bool.not_false, Bool.and_true, Bool.and_false, Bool.false_and, Bool.true_and, if_true, if_false, Bool.false_eq_true, reduceIte, xc_i, xc_j, xc_r, xc_n, List.nil_append, List.cons_append, Option.toList_some, Option.toList_none, r11]
      refine by_inv1 cn_88 lk_4_86 (by rw [xe_cnt]; decide) is_126 np_126 cn_126 (by first | exact rfl | assumption | exact ps_12 hpp) (Nat.le_of_ble_eq_true rfl) ?_
      refine sp_atL rfl rfl r1 (by omega) ?_
      have ei : (nI (tl.getD z 0)).toInt64 = lN (tl.getD z 0) := i2l_n (by omega)
      with_reducible refine xm_go_blk b_X4_works_34 k_X4_works_34 ?_
      refine by_i2l ?_
      simp (disch := first | exact Nat.ne_of_beq_eq_false rfl | exact rfl | omega) only [nI_add, xa_sub, xa_mul, pk_div, nm_mod, xa_shr, xa_and7, xa_and1, xa_and255, xa_by_and, nI_m1, Nat.add_sub_cancel, Nat.reducePow, Nat.zero_add, Nat.add_zero, Nat.reduceAdd, Nat.reduceMul, Nat.reduceSub, xf_same, xq_ff, xq_fo, xf_1, xf_2, xs_1, xs_2, xs_same, xq_so, xj_1, xj_2, xj_same, xq_jo, xq_sa1, xq_same, xq_other, upd_s, oI_n, oI_s, xv_0, xv_1, xv_2, xv_3, xm_p1, xm_p2, xq_fp, xq_fn, List.filter_nil, Nat.reduceBEq, Bool.not_true, Bool.not_false, Bool.and_true, Bool.and_false, Bool.false_and, Bool.true_and, if_true, if_false, Bool.false_eq_true, reduceIte, xc_i, xc_j, xc_r, xc_n, List.nil_append, List.cons_append, Option.toList_some, Option.toList_none, ei]
      refine by_inv3 cn_88 lk_4_66 (by rw [xe_cnt]; decide) is_86 np_86 cn_86 (by first | exact rfl | assumption) (Nat.le_of_ble_eq_true rfl) ?_
      refine sp_mput F1 (by decide) (by decide) (by omega) (fun h2 f2 b2 => ?_)
      rw [wb_tn (by omega)] at b2
      with_reducible refine xm_go_blk b_X4_works_38 k_X4_works_38 ?_
      refine by_iinc (by rw [ml_88]; decide) rfl ci_1 ?_
      refine by_goto 11 rfl ?_
      try simp (disch := first | exact Nat.ne_of_beq_eq_false rfl | exact rfl | omega) only [nI_add, xa_sub, xa_mul, pk_div, nm_mod, xa_shr, xa_and7, xa_and1, xa_and255, xa_by_and, nI_m1, Nat.add_sub_cancel, Nat.reducePow, Nat.zero_add, Nat.add_zero, Nat.reduceAdd, Nat.reduceMul, Nat.reduceSub, xf_same, xq_ff, xq_fo, xf_1, xf_2, xs_1, xs_2, xs_same, xq_so, xj_1, xj_2, xj_same, xq_jo, xq_sa1, xq_same, xq_other, upd_s, oI_n, oI_s, xv_0, xv_1, xv_2, xv_3, xm_p1, xm_p2, xq_fp, xq_fn, List.filter_nil, Nat.reduceBEq, Bool.not_true, Bool.not_false, Bool.and_true, Bool.and_false, Bool.false_and, Bool.true_and, if_true, if_false, Bool.false_eq_true, reduceIte, xc_i, xc_j, xc_r, xc_n, List.nil_append, List.cons_append, Option.toList_some, Option.toList_none]
      refine xm_go_wk (by simp [Value.category]) (ih (z + 1) h2 (by omega) (Fr_XF F1 f2 (by decide +kernel)) (Fr_tr f1 f2 (by simp [mcR]) (by simp)) (fun i hi => ?_))
      rw [b2]
      by_cases e : i < 8 * z
      · unfold mc_wr
        rw [if_neg (by omega)]
        exact b1 i e
      · obtain ⟨t, rfl⟩ : ∃ t, i = 8 * z + t := ⟨i - 8 * z, by omega⟩
        have ht : t < 8 := by omega
        rw [mc_wr_in (by rw [bbits_len]; exact ht), bbits_get 8 _ t ht]
        show _ = (by_bit tl (8 * z + t) == 1)
        unfold by_bit
        rw [show (8 * z + t) / 8 = z by omega, show (8 * z + t) % 8 = t by omega]
  refine xq_in rfl ?_
  simp only [xq_a0, xq_aI, xq_aJ, xq_aR, Nat.reduceAdd]
  with_reducible refine xm_go_blk b_X4_works_0 k_X4_works_0 ?_
  refine by_aload_n rfl ?_
  refine by_getf cn_88 fl_4_80 (by first | exact rfl | assumption | exact ps_0 hpp) (by decide) ?_
  refine by_iconst ci_1 ?_
  simp (disch := first | exact Nat.ne_of_beq_eq_false rfl | exact rfl | omega) only [nI_add, xa_sub, xa_mul, pk_div, nm_mod, xa_shr, xa_and7, xa_and1, xa_and255, xa_by_and, nI_m1, Nat.add_sub_cancel, Nat.reducePow, Nat.zero_add, Nat.add_zero, Nat.reduceAdd, Nat.reduceMul, Nat.reduceSub, xf_same, xq_ff, xq_fo, xf_1, xf_2, xs_1, xs_2, xs_same, xq_so, xj_1, xj_2, xj_same, xq_jo, xq_sa1, xq_same, xq_other, upd_s, oI_n, oI_s, h0]
  refine by_isub ?_
  refine by_istore (by rw [ml_88]; decide) ?_
  refine by_iconst ci_0 ?_
  refine by_istore (by rw [ml_88]; decide) ?_
  refine by_nil ?_
  try simp (disch := first | exact Nat.ne_of_beq_eq_false rfl | exact rfl | omega) only [nI_add, xa_sub, xa_mul, pk_div, nm_mod, xa_shr, xa_and7, xa_and1, xa_and255, xa_by_and, nI_m1, Nat.add_sub_cancel, Nat.reducePow, Nat.zero_add, Nat.add_zero, Nat.reduceAdd, Nat.reduceMul, Nat.reduceSub, xf_same, xq_ff, xq_fo, xf_1, xf_2, xs_1, xs_2, xs_same, xq_so, xj_1, xj_2, xj_same, xq_jo, xq_sa1, xq_same, xq_other, upd_s, oI_n, oI_s, xv_0, xv_1, xv_2, xv_3, xm_p1, xm_p2, xq_fp, xq_fn, List.filter_nil, Nat.reduceBEq, Bool.not_true, Bool.not_false, Bool.and_true, Bool.and_false, Bool.false_and, Bool.true_and, if_true, if_false, Bool.false_eq_true, reduceIte, xc_i, xc_j, xc_r, xc_n, List.nil_append, List.cons_append, Option.toList_some, Option.toList_none, h0]
  exact xm_go_wk (by simp [Value.category]) (key tl.length 0 h (by omega) hF Fr_rf (fun i hi => by omega))
end WK
