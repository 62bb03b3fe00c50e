/-! ===== jets of the class: perform; the machine works a JET ===== -/
def jpT : List (Nat × Nat) := [(39, 0), (39, 1), (39, 2), (39, 3), (39, 4), (39, 5), (39, 6), (39, 7), (39, 8), (39, 9)]
section JC
variable {sc : xm_Sc} {d num f to : Nat} {h : xm_H} {post : xm_Po}
theorem sp_perform (hbc : bcOK sc) (hF : XF h) (hnum : num < 168) (hf : f + jWs (jt_S (num / 4)) (8 * 2 ^ (num % 4)) ≤ 839680) (hto : to + jWt (jt_T (num / 4)) (8 * 2 ^ (num % 4)) ≤ 839680) (hff : f ≤ 839680)
    (hp : ∀ h', Fr [33] jpT h h' → mB h' = mc_wr (mB h) to (jtL num (mc_sh (mB h) f)) → post none h') : xm_T (XE sc) (d + 5) 62 [.ref 39, .int (nI num), .ref 32, .int (nI f), .int (nI to)] h post := by
  have hk : num / 4 < 42 := by omega
  have hw := jw_8 (num % 4) (by omega)
  have hsh := jsh_8 (num % 4) (by omega)
  have hS := js_tab _ hk
  have hT := jt_tab _ hk
  have hsi := jS_in _ hk
  have hti := jT_in _ hk
  have hjr := jT_r (num / 4)
  have hjt := jT_t (num / 4)
  have hjm := jT_m (num / 4)
  have h40 : 40 ≤ num / 4 → jt_S (num / 4) = 2 := by
    intro q
    rcases (by omega : num / 4 = 40 ∨ num / 4 = 41) with e | e <;> rw [e] <;> rfl
  have h10 : num / 4 ≤ 6 → jt_S (num / 4) ≠ 10 := by
    intro q
    rcases (by omega : num / 4 = 0 ∨ num / 4 = 1 ∨ num / 4 = 2 ∨ num / 4 = 3 ∨ num / 4 = 4 ∨ num / 4 = 5 ∨ num / 4 = 6) with e | e | e | e | e | e | e <;> rw [e] <;> decide
  have e78 : num / 4 = 7 ∨ num / 4 = 8 → jt_T (num / 4) = 4 := by
    intro q
    rcases q with e | e <;> rw [e] <;> rfl
  unfold jtL at hp
  generalize hkk : num / 4 = k at *
  generalize hww : 8 * 2 ^ (num % 4) = w at *
  have hle := jw_le hw
  have on := ones_w hw
  have esh : nI num >>> (nI 2 &&& 31) = nI k := by rw [xa_shr (by omega) (by decide), ← hkk]
  refine xq_in rfl ?_
  simp only [xq_a0, xq_aI, xq_aJ, xq_aR, Nat.reduceAdd]
  with_reducible refine xm_go_blk b_X2_perform_0 k_X2_perform_0 ?_
  refine by_iload_n rfl ?_
  refine by_iconst ci_2 ?_
  refine by_ishr ?_
  refine by_istore (by rw [ml_62]; decide) ?_
  refine by_aload_n rfl ?_
  refine by_bipush cb_8 ?_
  refine by_iload_n rfl ?_
  refine by_iconst ci_3 ?_
  refine by_iand ?_
  refine by_ishl ?_
  refine by_putf cn_62 fl_2_7 (by first | exact rfl | assumption) (by decide) nf_2_0 ft_2_0 (by first | rfl | assumption) (by first | rfl | assumption) ?_
  refine by_aload_n rfl ?_
  refine by_ldc2 cn_62 kl_2_13 rfl ?_
  refine by_bipush cb_64 ?_
  refine by_aload_n rfl ?_
  refine by_getf cn_62 fl_2_7 (by first | exact rfl | assumption) (by decide) ?_
  simp (disch := first | exact Nat.ne_of_beq_eq_false rfl | exact rfl | omega) only [nI_add, xa_sub, xa_mul, pk_div, nm_mod, xa_shr, xa_and7, xa_and1, xa_and255, xa_by_and, nI_m1, Nat.add_sub_cancel, Nat.reducePow, Nat.zero_add, Nat.add_zero, Nat.reduceAdd, Nat.reduceMul, Nat.reduceSub, xf_same, xq_ff, xq_fo, xf_1, xf_2, xs_1, xs_2, xs_same, xq_so, xj_1, xj_2, xj_same, xq_jo, xq_sa1, xq_same, xq_other, upd_s, oI_n, oI_s, esh, nm_3, hsh, on, hS]
  refine by_isub ?_
  refine by_lushr ?_
  refine by_putf cn_62 fl_2_15 (by first | exact rfl | assumption) (by decide) nf_2_1 ft_2_1 (by first | rfl | assumption) (by first | rfl | assumption) ?_
  refine by_aload_n rfl ?_
  refine by_gets cn_62 gs_2_19 ?_
  refine by_iload rfl ?_
  simp (disch := first | exact Nat.ne_of_beq_eq_false rfl | exact rfl | omega) only [nI_add, xa_sub, xa_mul, pk_div, nm_mod, xa_shr, xa_and7, xa_and1, xa_and255, xa_by_and, nI_m1, Nat.add_sub_cancel, Nat.reducePow, Nat.zero_add, Nat.add_zero, Nat.reduceAdd, Nat.reduceMul, Nat.reduceSub, xf_same, xq_ff, xq_fo, xf_1, xf_2, xs_1, xs_2, xs_same, xq_so, xj_1, xj_2, xj_same, xq_jo, xq_sa1, xq_same, xq_other, upd_s, oI_n, oI_s, esh, nm_3, hsh, on, hS]
  first | refine by_iald (by first | exact rfl | assumption | exact ps_1 hpp | exact ps_2 hpp | exact ps_3 hpp | exact ps_4 hpp | exact ps_5 hpp | exact ps_6 hpp | exact ps_7 hpp | exact ps_8 hpp | exact ps_9 hpp | exact ps_10 hpp | exact ps_11 hpp | exact ps_15 hpp | exact ps_16 hpp | exact ps_17 hpp | exact ps_18 hpp | exact ps_19 hpp | exact ps_21 hpp | exact ps_22 hpp | exact ps_23 hpp | exact ps_24 hpp) ⟨by omega, by omega⟩ ?_ | refine by_tald rfl rfl ⟨by omega, by omega⟩ ?_
  refine by_aload_n rfl ?_
  refine by_iload_n rfl ?_
  simp (disch := first | exact Nat.ne_of_beq_eq_false rfl | exact rfl | omega) only [nI_add, xa_sub, xa_mul, pk_div, nm_mod, xa_shr, xa_and7, xa_and1, xa_and255, xa_by_and, nI_m1, Nat.add_sub_cancel, Nat.reducePow, Nat.zero_add, Nat.add_zero, Nat.reduceAdd, Nat.reduceMul, Nat.reduceSub, xf_same, xq_ff, xq_fo, xf_1, xf_2, xs_1, xs_2, xs_same, xq_so, xj_1, xj_2, xj_same, xq_jo, xq_sa1, xq_same, xq_other, upd_s, oI_n, oI_s, xv_0, xv_1, xv_2, xv_3, xm_p1, xm_p2, xq_fp, xq_fn, List.filter_nil, Nat.reduceBEq, Bool.not_true, Bool.not_false, Bool.and_true, Bool.and_false, Bool.false_and, Bool.true_and, if_true, if_false, Bool.false_eq_true, reduceIte, xc_i, xc_j, xc_r, xc_n, List.nil_append, List.cons_append, Option.toList_some, Option.toList_none, esh, nm_3, hsh, on, hS]
  refine by_inv3 cn_62 lk_2_23 (by rw [xe_cnt]; decide) is_64 np_64 cn_64 (by first | exact rfl | assumption) (Nat.le_of_ble_eq_true rfl) ?_
  let g := xm_sf (xm_sf h 39 0 (.int (nI w))) 39 1 (.long (lN (2 ^ w - 1)))
  have fg : Fr [] jpT h g := Fr_sf (Fr_sf Fr_rf (by simp [jpT])) (by simp [jpT])
  have Fg : XF g := Fr_XF hF fg (by decide +kernel)
  have mg : mB g = mB h := rfl
  refine sp_readWords (w := w) Fg hw (by simp [g, xm_sf, updV]) hsi hf (fun h2 f2 r2 r3 r4 r5 r6 => ?_)
  rw [mg] at r2 r3 r4 r5 r6
  generalize hu : mc_sh (mB h) f = u at *
  have r0 : h2.2.2 39 0 = .int (nI w) := by rw [f2.2.2 _ _ (by simp [jrT])]; simp [g, xm_sf, updV]
  have r1 : h2.2.2 39 1 = .long (lN (2 ^ w - 1)) := by rw [f2.2.2 _ _ (by simp [jrT])]; simp [g, xm_sf, updV]
  let g3 := xm_sf (xm_sf (xm_sf h2 39 7 (.long (lN 0))) 39 8 (.long (lN 0))) 39 9 (.long (lN 0))
  have f3 : Fr [] [(39, 7), (39, 8), (39, 9)] h2 g3 := Fr_sf (Fr_sf (Fr_sf Fr_rf (by simp)) (by simp)) (by simp)
  have f03 : Fr [] jpT h g3 := Fr_tr (Fr_tr fg f2 (by simp) (by simp [jrT, jpT])) f3 (by simp) (by simp [jpT])
  have F3 : XF g3 := Fr_XF hF f03 (by decide +kernel)
  have m3 : mB g3 = mB h := mB_fr f03 (by simp)
  have st : jSt g3 w (jc u (jt_S k)) (jx u (jt_S k) w) (jy u (jt_S k) w) (jz u (jt_S k) w) (jv u (jt_S k) w) := ⟨by rw [f3.2.2 _ _ (by simp)]; exact r0, by rw [f3.2.2 _ _ (by simp)]; exact r1, by rw [f3.2.2 _ _ (by simp)]; exact r2, by rw [f3.2.2 _ _ (by simp)]; exact r3, by rw [f3.2.2 _ _ (by simp)]; exact r4, by rw [f3.2.2 _ _ (by simp)]; exact r5, by rw [f3.2.2 _ _ (by simp)]; exact r6⟩
  have s0 : jS0 g3 := ⟨by simp [g3, xm_sf, updV], by simp [g3, xm_sf, updV], by simp [g3, xm_sf, updV]⟩
  have fin : ∀ h4 B H L, jRs g3 h4 B H L → jGv (jt_T k) w B H L = jL k w (jc u (jt_S k)) (jx u (jt_S k) w) (jy u (jt_S k) w) (jz u (jt_S k) w) (jv u (jt_S k) w) → xm_go (XE sc) (xm_T (XE sc) (d + 4)) 62 post 157 [(5, .int (nI k)), (0, .ref 39), (2, .ref 32), (4, .int (nI to))] [] h4 := by
    intro h4 B H L hr hj
    obtain ⟨f4, e7, e8, e9, b7, b8, b9⟩ := hr
    have F4 := Fr_XF F3 f4 (by decide +kernel)
    have e0 : h4.2.2 39 0 = .int (nI w) := by rw [f4.2.2 _ _ (by simp)]; exact st.1
    with_reducible refine xm_go_blk b_X2_perform_157 k_X2_perform_157 ?_
    refine by_aload_n rfl ?_
    refine by_gets cn_62 gs_2_58 ?_
    refine by_iload rfl ?_
    first | refine by_iald (by first | exact rfl | assumption | exact ps_1 hpp | exact ps_2 hpp | exact ps_3 hpp | exact ps_4 hpp | exact ps_5 hpp | exact ps_6 hpp | exact ps_7 hpp | exact ps_8 hpp | exact ps_9 hpp | exact ps_10 hpp | exact ps_11 hpp | exact ps_15 hpp | exact ps_16 hpp | exact ps_17 hpp | exact ps_18 hpp | exact ps_19 hpp | exact ps_21 hpp | exact ps_22 hpp | exact ps_23 hpp | exact ps_24 hpp) ⟨by omega, by omega⟩ ?_ | refine by_tald rfl rfl ⟨by omega, by omega⟩ ?_
    refine by_aload_n rfl ?_
    refine by_iload rfl ?_
    simp (disch := first | exact Nat.ne_of_beq_eq_false rfl | exact rfl | omega) only [nI_add, xa_sub, xa_mul, pk_div, nm_mod, xa_shr, xa_and7, xa_and1, xa_and255, xa_by_and, nI_m1, Nat.add_sub_cancel, Nat.reducePow, Nat.zero_add, Nat.add_zero, Nat.reduceAdd, Nat.reduceMul, Nat.reduceSub, xf_same, xq_ff, xq_fo, xf_1, xf_2, xs_1, xs_2, xs_same, xq_so, xj_1, xj_2, xj_same, xq_jo, xq_sa1, xq_same, xq_other, upd_s, oI_n, oI_s, xv_0, xv_1, xv_2, xv_3, xm_p1, xm_p2, xq_fp, xq_fn, List.filter_nil, Nat.reduceBEq, Bool.not_true, Bool.not_false, Bool.and_true, Bool.and_false, Bool.false_and, Bool.true_and, if_true, if_false, Bool.false_eq_true, reduceIte, xc_i, xc_j, xc_r, xc_n, List.nil_append, List.cons_append, Option.toList_some, Option.toList_none, hT]
    refine by_inv3 cn_62 lk_2_61 (by rw [xe_cnt]; decide) is_56 np_56 cn_56 (by first | exact rfl | assumption) (Nat.le_of_ble_eq_true rfl) ?_
    refine sp_giveWords F4 hw e0 e7 e8 e9 b7 b8 b9 hti hto (fun h5 f5 b5 => ?_)
    with_reducible refine xm_go_blk b_X2_perform_170 k_X2_perform_170 ?_
    refine by_ret ry_62 ?_
    refine hp h5 (Fr_tr (Fr_mo (Fr_tr f03 f4 (fun _ z => z) (by simp [jpT])) (by simp) (fun _ z => z)) f5 (fun _ z => z) (by simp)) ?_
    rw [b5, hj, mB_fr f4 (by simp), m3]
  have hxl := jx_lt u (s := jt_S k) (w := w)
  have hyl := jy_lt u (s := jt_S k) (w := w)
  have hzl := jz_lt u (s := jt_S k) (w := w)
  have hvl := jv_lt u (s := jt_S k) (w := w)
  by_cases q7 : k < 7
  · have hc1 := jc_1 u (h10 (by omega))
    with_reducible refine xm_go_blk b_X2_perform_42 k_X2_perform_42 ?_
    refine by_aload_n rfl ?_
    refine by_lconst cl_0 ?_
    refine by_putf cn_62 fl_2_27 (by first | exact rfl | assumption) (by decide) nf_2_7 ft_2_7 (by first | rfl | assumption) (by first | rfl | assumption) ?_
    refine by_aload_n rfl ?_
    refine by_lconst cl_0 ?_
    refine by_putf cn_62 fl_2_30 (by first | exact rfl | assumption) (by decide) nf_2_8 ft_2_8 (by first | rfl | assumption) (by first | rfl | assumption) ?_
    refine by_aload_n rfl ?_
    refine by_lconst cl_0 ?_
    refine by_putf cn_62 fl_2_33 (by first | exact rfl | assumption) (by decide) nf_2_9 ft_2_9 (by first | rfl | assumption) (by first | rfl | assumption) ?_
    refine by_iload rfl ?_
    refine by_bipush cb_7 ?_
    refine by_ic_ge 73 rfl ?_
    simp (disch := first | exact Nat.ne_of_beq_eq_false rfl | exact rfl | omega) only [nI_add, xa_sub, xa_mul, pk_div, nm_mod, xa_shr, xa_and7, xa_and1, xa_and255, xa_by_and, nI_m1, Nat.add_sub_cancel, Nat.reducePow, Nat.zero_add, Nat.add_zero, Nat.reduceAdd, Nat.reduceMul, Nat.reduceSub, xf_same, xq_ff, xq_fo, xf_1, xf_2, xs_1, xs_2, xs_same, xq_so, xj_1, xj_2, xj_same, xq_jo, xq_sa1, xq_same, xq_other, upd_s, oI_n, oI_s, xv_0, xv_1, xv_2, xv_3, xm_p1, xm_p2, xq_fp, xq_fn, List.filter_nil, Nat.reduceBEq, Bool.not_true, Bool.not_false, Bool.and_true, Bool.and_false, Bool.false_and, Bool.true_and, if_true, if_false, Bool.false_eq_true, reduceIte, xc_i, xc_j, xc_r, xc_n, List.nil_append, List.cons_append, Option.toList_some, Option.toList_none, nI_ltJ, nI_leJ, nI_eqJ, nI_ltz, nI_gez, nI_gtz, nI_lez, nI_eqz, m1_ltz, m1_gez, true_imp_iff, false_imp_iff, true_and, and_true, ne_eq, not_false_eq_true, not_true_eq_false, Nat.reduceEqDiff, Nat.reduceLT, Nat.reduceLeDiff]
    refine ⟨fun c => absurd c (by omega), fun c42 => ?_⟩
    with_reducible refine xm_go_blk b_X2_perform_64 k_X2_perform_64 ?_
    refine by_aload_n rfl ?_
    refine by_iload rfl ?_
    refine by_inv1 cn_62 lk_2_36 (by rw [xe_cnt]; decide) is_65 np_65 cn_65 (by first | exact rfl | assumption) (Nat.le_of_ble_eq_true rfl) ?_
    refine sp_reckon (by omega) hw st s0 hxl hyl hc1 (fun h4 B H L hr hj => ?_)
    rw [← hjr (by omega)] at hj
    with_reducible refine xm_go_blk b_X2_perform_70 k_X2_perform_70 ?_
    refine by_goto 157 rfl ?_
    exact xm_go_wk (by simp [Value.category]) (fin h4 B H L hr hj)
  · by_cases q9 : k < 9
    · with_reducible refine xm_go_blk b_X2_perform_42 k_X2_perform_42 ?_
      refine by_aload_n rfl ?_
      refine by_lconst cl_0 ?_
      refine by_putf cn_62 fl_2_27 (by first | exact rfl | assumption) (by decide) nf_2_7 ft_2_7 (by first | rfl | assumption) (by first | rfl | assumption) ?_
      refine by_aload_n rfl ?_
      refine by_lconst cl_0 ?_
      refine by_putf cn_62 fl_2_30 (by first | exact rfl | assumption) (by decide) nf_2_8 ft_2_8 (by first | rfl | assumption) (by first | rfl | assumption) ?_
      refine by_aload_n rfl ?_
      refine by_lconst cl_0 ?_
      refine by_putf cn_62 fl_2_33 (by first | exact rfl | assumption) (by decide) nf_2_9 ft_2_9 (by first | rfl | assumption) (by first | rfl | assumption) ?_
      refine by_iload rfl ?_
      refine by_bipush cb_7 ?_
      refine by_ic_ge 73 rfl ?_
      simp (disch := first | exact Nat.ne_of_beq_eq_false rfl | exact rfl | omega) only [nI_add, xa_sub, xa_mul, pk_div, nm_mod, xa_shr, xa_and7, xa_and1, xa_and255, xa_by_and, nI_m1, Nat.add_sub_cancel, Nat.reducePow, Nat.zero_add, Nat.add_zero, Nat.reduceAdd, Nat.reduceMul, Nat.reduceSub, xf_same, xq_ff, xq_fo, xf_1, xf_2, xs_1, xs_2, xs_same, xq_so, xj_1, xj_2, xj_same, xq_jo, xq_sa1, xq_same, xq_other, upd_s, oI_n, oI_s, xv_0, xv_1, xv_2, xv_3, xm_p1, xm_p2, xq_fp, xq_fn, List.filter_nil, Nat.reduceBEq, Bool.not_true, Bool.not_false, Bool.and_true, Bool.and_false, Bool.false_and, Bool.true_and, if_true, if_false, Bool.false_eq_true, reduceIte, xc_i, xc_j, xc_r, xc_n, List.nil_append, List.cons_append, Option.toList_some, Option.toList_none, nI_ltJ, nI_leJ, nI_eqJ, nI_ltz, nI_gez, nI_gtz, nI_lez, nI_eqz, m1_ltz, m1_gez, true_imp_iff, false_imp_iff, true_and, and_true, ne_eq, not_false_eq_true, not_true_eq_false, Nat.reduceEqDiff, Nat.reduceLT, Nat.reduceLeDiff]
      refine ⟨fun c42 => ?_, fun c => absurd (by omega) c⟩
      with_reducible refine xm_go_blk b_X2_perform_73 k_X2_perform_73 ?_
      refine by_iload rfl ?_
      refine by_bipush cb_9 ?_
      refine by_ic_ge 87 rfl ?_
      simp (disch := first | exact Nat.ne_of_beq_eq_false rfl | exact rfl | omega) only [nI_add, xa_sub, xa_mul, pk_div, nm_mod, xa_shr, xa_and7, xa_and1, xa_and255, xa_by_and, nI_m1, Nat.add_sub_cancel, Nat.reducePow, Nat.zero_add, Nat.add_zero, Nat.reduceAdd, Nat.reduceMul, Nat.reduceSub, xf_same, xq_ff, xq_fo, xf_1, xf_2, xs_1, xs_2, xs_same, xq_so, xj_1, xj_2, xj_same, xq_jo, xq_sa1, xq_same, xq_other, upd_s, oI_n, oI_s, xv_0, xv_1, xv_2, xv_3, xm_p1, xm_p2, xq_fp, xq_fn, List.filter_nil, Nat.reduceBEq, Bool.not_true, Bool.not_false, Bool.and_true, Bool.and_false, Bool.false_and, Bool.true_and, if_true, if_false, Bool.false_eq_true, reduceIte, xc_i, xc_j, xc_r, xc_n, List.nil_append, List.cons_append, Option.toList_some, Option.toList_none, nI_ltJ, nI_leJ, nI_eqJ, nI_ltz, nI_gez, nI_gtz, nI_lez, nI_eqz, m1_ltz, m1_gez, true_imp_iff, false_imp_iff, true_and, and_true, ne_eq, not_false_eq_true, not_true_eq_false, Nat.reduceEqDiff, Nat.reduceLT, Nat.reduceLeDiff]
      refine ⟨fun c => absurd c (by omega), fun c73 => ?_⟩
      with_reducible refine xm_go_blk b_X2_perform_80 k_X2_perform_80 ?_
      refine by_aload_n rfl ?_
      refine by_inv0 cn_62 lk_2_40 (by rw [xe_cnt]; decide) is_61 np_61 cn_61 (by first | exact rfl | assumption) (Nat.le_of_ble_eq_true rfl) ?_
      refine sp_multiply (k := k) (by omega) hw st s0 hxl hyl hzl hvl (fun h4 B H L hr hj => ?_)
      rw [← e78 (by omega)] at hj
      with_reducible refine xm_go_blk b_X2_perform_84 k_X2_perform_84 ?_
      refine by_goto 157 rfl ?_
      exact xm_go_wk (by simp [Value.category]) (fin h4 B H L hr hj)
    · by_cases q12 : k < 12
      · with_reducible refine xm_go_blk b_X2_perform_42 k_X2_perform_42 ?_
        refine by_aload_n rfl ?_
        refine by_lconst cl_0 ?_
        refine by_putf cn_62 fl_2_27 (by first | exact rfl | assumption) (by decide) nf_2_7 ft_2_7 (by first | rfl | assumption) (by first | rfl | assumption) ?_
        refine by_aload_n rfl ?_
        refine by_lconst cl_0 ?_
        refine by_putf cn_62 fl_2_30 (by first | exact rfl | assumption) (by decide) nf_2_8 ft_2_8 (by first | rfl | assumption) (by first | rfl | assumption) ?_
        refine by_aload_n rfl ?_
        refine by_lconst cl_0 ?_
        refine by_putf cn_62 fl_2_33 (by first | exact rfl | assumption) (by decide) nf_2_9 ft_2_9 (by first | rfl | assumption) (by first | rfl | assumption) ?_
        refine by_iload rfl ?_
        refine by_bipush cb_7 ?_
        refine by_ic_ge 73 rfl ?_
        simp (disch := first | exact Nat.ne_of_beq_eq_false rfl | exact rfl | omega) only [nI_add, xa_sub, xa_mul, pk_div, nm_mod, xa_shr, xa_and7, xa_and1, xa_and255, xa_by_and, nI_m1, Nat.add_sub_cancel, Nat.reducePow, Nat.zero_add, Nat.add_zero, Nat.reduceAdd, Nat.reduceMul, Nat.reduceSub, xf_same, xq_ff, xq_fo, xf_1, xf_2, xs_1, xs_2, xs_same, xq_so, xj_1, xj_2, xj_same, xq_jo, xq_sa1, xq_same, xq_other, upd_s, oI_n, oI_s, xv_0, xv_1, xv_2, xv_3, xm_p1, xm_p2, xq_fp, xq_fn, List.filter_nil, Nat.reduceBEq, Bool.not_true, Bool.not_false, Bool.and_true, Bool.and_false, Bool.false_and, Bool.true_and, if_true, if_false, Bool.false_eq_true, reduceIte, xc_i, xc_j, xc_r, xc_n, List.nil_append, List.cons_append, Option.toList_some, Option.toList_none, nI_ltJ, nI_leJ, nI_eqJ, nI_ltz, nI_gez, nI_gtz, nI_lez, nI_eqz, m1_ltz, m1_gez, true_imp_iff, false_imp_iff, true_and, and_true, ne_eq, not_false_eq_true, not_true_eq_false, Nat.reduceEqDiff, Nat.reduceLT, Nat.reduceLeDiff]
        refine ⟨fun c42 => ?_, fun c => absurd (by omega) c⟩
        with_reducible refine xm_go_blk b_X2_perform_73 k_X2_perform_73 ?_
        refine by_iload rfl ?_
        refine by_bipush cb_9 ?_
        refine by_ic_ge 87 rfl ?_
        simp (disch := first | exact Nat.ne_of_beq_eq_false rfl | exact rfl | omega) only [nI_add, xa_sub, xa_mul, pk_div, nm_mod, xa_shr, xa_and7, xa_and1, xa_and255, xa_by_and, nI_m1, Nat.add_sub_cancel, Nat.reducePow, Nat.zero_add, Nat.add_zero, Nat.reduceAdd, Nat.reduceMul, Nat.reduceSub, xf_same, xq_ff, xq_fo, xf_1, xf_2, xs_1, xs_2, xs_same, xq_so, xj_1, xj_2, xj_same, xq_jo, xq_sa1, xq_same, xq_other, upd_s, oI_n, oI_s, xv_0, xv_1, xv_2, xv_3, xm_p1, xm_p2, xq_fp, xq_fn, List.filter_nil, Nat.reduceBEq, Bool.not_true, Bool.not_false, Bool.and_true, Bool.and_false, Bool.false_and, Bool.true_and, if_true, if_false, Bool.false_eq_true, reduceIte, xc_i, xc_j, xc_r, xc_n, List.nil_append, List.cons_append, Option.toList_some, Option.toList_none, nI_ltJ, nI_leJ, nI_eqJ, nI_ltz, nI_gez, nI_gtz, nI_lez, nI_eqz, m1_ltz, m1_gez, true_imp_iff, false_imp_iff, true_and, and_true, ne_eq, not_false_eq_true, not_true_eq_false, Nat.reduceEqDiff, Nat.reduceLT, Nat.reduceLeDiff]
        refine ⟨fun c73 => ?_, fun c => absurd (by omega) c⟩
        with_reducible refine xm_go_blk b_X2_perform_87 k_X2_perform_87 ?_
        refine by_iload rfl ?_
        refine by_bipush cb_12 ?_
        refine by_ic_ge 103 rfl ?_
        simp (disch := first | exact Nat.ne_of_beq_eq_false rfl | exact rfl | omega) only [nI_add, xa_sub, xa_mul, pk_div, nm_mod, xa_shr, xa_and7, xa_and1, xa_and255, xa_by_and, nI_m1, Nat.add_sub_cancel, Nat.reducePow, Nat.zero_add, Nat.add_zero, Nat.reduceAdd, Nat.reduceMul, Nat.reduceSub, xf_same, xq_ff, xq_fo, xf_1, xf_2, xs_1, xs_2, xs_same, xq_so, xj_1, xj_2, xj_same, xq_jo, xq_sa1, xq_same, xq_other, upd_s, oI_n, oI_s, xv_0, xv_1, xv_2, xv_3, xm_p1, xm_p2, xq_fp, xq_fn, List.filter_nil, Nat.reduceBEq, Bool.not_true, Bool.not_false, Bool.and_true, Bool.and_false, Bool.false_and, Bool.true_and, if_true, if_false, Bool.false_eq_true, reduceIte, xc_i, xc_j, xc_r, xc_n, List.nil_append, List.cons_append, Option.toList_some, Option.toList_none, nI_ltJ, nI_leJ, nI_eqJ, nI_ltz, nI_gez, nI_gtz, nI_lez, nI_eqz, m1_ltz, m1_gez, true_imp_iff, false_imp_iff, true_and, and_true, ne_eq, not_false_eq_true, not_true_eq_false, Nat.reduceEqDiff, Nat.reduceLT, Nat.reduceLeDiff]
        refine ⟨fun c => absurd c (by omega), fun c87 => ?_⟩
        with_reducible refine xm_go_blk b_X2_perform_94 k_X2_perform_94 ?_
        refine by_aload_n rfl ?_
        refine by_iload rfl ?_
        refine by_inv1 cn_62 lk_2_43 (by rw [xe_cnt]; decide) is_55 np_55 cn_55 (by first | exact rfl | assumption) (Nat.le_of_ble_eq_true rfl) ?_
        refine sp_divide (by omega) (by omega) hw st s0 hxl hyl (fun h4 B H L hr hj => ?_)
        with_reducible refine xm_go_blk b_X2_perform_100 k_X2_perform_100 ?_
        refine by_goto 157 rfl ?_
        exact xm_go_wk (by simp [Value.category]) (fin h4 B H L hr hj)
      · by_cases q19 : k < 19
        · with_reducible refine xm_go_blk b_X2_perform_42 k_X2_perform_42 ?_
          refine by_aload_n rfl ?_
          refine by_lconst cl_0 ?_
          refine by_putf cn_62 fl_2_27 (by first | exact rfl | assumption) (by decide) nf_2_7 ft_2_7 (by first | rfl | assumption) (by first | rfl | assumption) ?_
          refine by_aload_n rfl ?_
          refine by_lconst cl_0 ?_
          refine by_putf cn_62 fl_2_30 (by first | exact rfl | assumption) (by decide) nf_2_8 ft_2_8 (by first | rfl | assumption) (by first | rfl | assumption) ?_
          refine by_aload_n rfl ?_
          refine by_lconst cl_0 ?_
          refine by_putf cn_62 fl_2_33 (by first | exact rfl | assumption) (by decide) nf_2_9 ft_2_9 (by first | rfl | assumption) (by first | rfl | assumption) ?_
          refine by_iload rfl ?_
          refine by_bipush cb_7 ?_
          refine by_ic_ge 73 rfl ?_
          simp (disch := first | exact Nat.ne_of_beq_eq_false rfl | exact rfl | omega) only [nI_add, xa_sub, xa_mul, pk_div, nm_mod, xa_shr, xa_and7, xa_and1, xa_and255, xa_by_and, nI_m1, Nat.add_sub_cancel, Nat.reducePow, Nat.zero_add, Nat.add_zero, Nat.reduceAdd, Nat.reduceMul, Nat.reduceSub, xf_same, xq_ff, xq_fo, xf_1, xf_2, xs_1, xs_2, xs_same, xq_so, xj_1, xj_2, xj_same, xq_jo, xq_sa1, xq_same, xq_other, upd_s, oI_n, oI_s, xv_0, xv_1, xv_2, xv_3, xm_p1, xm_p2, xq_fp, xq_fn, List.filter_nil, Nat.reduceBEq, Bool.not_true, Bool.not_false, Bool.and_true, Bool.and_false, Bool.false_and, Bool.true_and, if_true, if_false, Bool.false_eq_true, reduceIte, xc_i, xc_j, xc_r, xc_n, List.nil_append, List.cons_append, Option.toList_some, Option.toList_none, nI_ltJ, nI_leJ, nI_eqJ, nI_ltz, nI_gez, nI_gtz, nI_lez, nI_eqz, m1_ltz, m1_gez, true_imp_iff, false_imp_iff, true_and, and_true, ne_eq, not_false_eq_true, not_true_eq_false, Nat.reduceEqDiff, Nat.reduceLT, Nat.reduceLeDiff]
          refine ⟨fun c42 => ?_, fun c => absurd (by omega) c⟩
          with_reducible refine xm_go_blk b_X2_perform_73 k_X2_perform_73 ?_
          refine by_iload rfl ?_
          refine by_bipush cb_9 ?_
          refine by_ic_ge 87 rfl ?_
          simp (disch := first | exact Nat.ne_of_beq_eq_false rfl | exact rfl | omega) only [nI_add, xa_sub, xa_mul, pk_div, nm_mod, xa_shr, xa_and7, xa_and1, xa_and255, xa_by_and, nI_m1, Nat.add_sub_cancel, Nat.reducePow, Nat.zero_add, Nat.add_zero, Nat.reduceAdd, Nat.reduceMul, Nat.reduceSub, xf_same, xq_ff, xq_fo, xf_1, xf_2, xs_1, xs_2, xs_same, xq_so, xj_1, xj_2, xj_same, xq_jo, xq_sa1, xq_same, xq_other, upd_s, oI_n, oI_s, xv_0, xv_1, xv_2, xv_3, xm_p1, xm_p2, xq_fp, xq_fn, List.filter_nil, Nat.reduceBEq, Bool.not_true, Bool.not_false, Bool.and_true, Bool.and_false, Bool.false_and, Bool.true_and, if_true, if_false, Bool.false_eq_true, reduceIte, xc_i, xc_j, xc_r, xc_n, List.nil_append, List.cons_append, Option.toList_some, Option.toList_none, nI_ltJ, nI_leJ, nI_eqJ, nI_ltz, nI_gez, nI_gtz, nI_lez, nI_eqz, m1_ltz, m1_gez, true_imp_iff, false_imp_iff, true_and, and_true, ne_eq, not_false_eq_true, not_true_eq_false, Nat.reduceEqDiff, Nat.reduceLT, Nat.reduceLeDiff]
          refine ⟨fun c73 => ?_, fun c => absurd (by omega) c⟩
          with_reducible refine xm_go_blk b_X2_perform_87 k_X2_perform_87 ?_
          refine by_iload rfl ?_
          refine by_bipush cb_12 ?_
          refine by_ic_ge 103 rfl ?_
          simp (disch := first | exact Nat.ne_of_beq_eq_false rfl | exact rfl | omega) only [nI_add, xa_sub, xa_mul, pk_div, nm_mod, xa_shr, xa_and7, xa_and1, xa_and255, xa_by_and, nI_m1, Nat.add_sub_cancel, Nat.reducePow, Nat.zero_add, Nat.add_zero, Nat.reduceAdd, Nat.reduceMul, Nat.reduceSub, xf_same, xq_ff, xq_fo, xf_1, xf_2, xs_1, xs_2, xs_same, xq_so, xj_1, xj_2, xj_same, xq_jo, xq_sa1, xq_same, xq_other, upd_s, oI_n, oI_s, xv_0, xv_1, xv_2, xv_3, xm_p1, xm_p2, xq_fp, xq_fn, List.filter_nil, Nat.reduceBEq, Bool.not_true, Bool.not_false, Bool.and_true, Bool.and_false, Bool.false_and, Bool.true_and, if_true, if_false, Bool.false_eq_true, reduceIte, xc_i, xc_j, xc_r, xc_n, List.nil_append, List.cons_append, Option.toList_some, Option.toList_none, nI_ltJ, nI_leJ, nI_eqJ, nI_ltz, nI_gez, nI_gtz, nI_lez, nI_eqz, m1_ltz, m1_gez, true_imp_iff, false_imp_iff, true_and, and_true, ne_eq, not_false_eq_true, not_true_eq_false, Nat.reduceEqDiff, Nat.reduceLT, Nat.reduceLeDiff]
          refine ⟨fun c87 => ?_, fun c => absurd (by omega) c⟩
          with_reducible refine xm_go_blk b_X2_perform_103 k_X2_perform_103 ?_
          refine by_iload rfl ?_
          refine by_bipush cb_19 ?_
          refine by_ic_ge 119 rfl ?_
          simp (disch := first | exact Nat.ne_of_beq_eq_false rfl | exact rfl | omega) only [nI_add, xa_sub, xa_mul, pk_div, nm_mod, xa_shr, xa_and7, xa_and1, xa_and255, xa_by_and, nI_m1, Nat.add_sub_cancel, Nat.reducePow, Nat.zero_add, Nat.add_zero, Nat.reduceAdd, Nat.reduceMul, Nat.reduceSub, xf_same, xq_ff, xq_fo, xf_1, xf_2, xs_1, xs_2, xs_same, xq_so, xj_1, xj_2, xj_same, xq_jo, xq_sa1, xq_same, xq_other, upd_s, oI_n, oI_s, xv_0, xv_1, xv_2, xv_3, xm_p1, xm_p2, xq_fp, xq_fn, List.filter_nil, Nat.reduceBEq, Bool.not_true, Bool.not_false, Bool.and_true, Bool.and_false, Bool.false_and, Bool.true_and, if_true, if_false, Bool.false_eq_true, reduceIte, xc_i, xc_j, xc_r, xc_n, List.nil_append, List.cons_append, Option.toList_some, Option.toList_none, nI_ltJ, nI_leJ, nI_eqJ, nI_ltz, nI_gez, nI_gtz, nI_lez, nI_eqz, m1_ltz, m1_gez, true_imp_iff, false_imp_iff, true_and, and_true, ne_eq, not_false_eq_true, not_true_eq_false, Nat.reduceEqDiff, Nat.reduceLT, Nat.reduceLeDiff]
          refine ⟨fun c => absurd c (by omega), fun c103 => ?_⟩
          with_reducible refine xm_go_blk b_X2_perform_110 k_X2_perform_110 ?_
          refine by_aload_n rfl ?_
          refine by_iload rfl ?_
          refine by_inv1 cn_62 lk_2_46 (by rw [xe_cnt]; decide) is_54 np_54 cn_54 (by first | exact rfl | assumption) (Nat.le_of_ble_eq_true rfl) ?_
          refine sp_compareWords (by omega) (by omega) hw st s0 hxl hyl hzl (fun h4 B H L hr hj => ?_)
          with_reducible refine xm_go_blk b_X2_perform_116 k_X2_perform_116 ?_
          refine by_goto 157 rfl ?_
          exact xm_go_wk (by simp [Value.category]) (fin h4 B H L hr hj)
        · by_cases q23 : k < 23
          · with_reducible refine xm_go_blk b_X2_perform_42 k_X2_perform_42 ?_
            refine by_aload_n rfl ?_
            refine by_lconst cl_0 ?_
            refine by_putf cn_62 fl_2_27 (by first | exact rfl | assumption) (by decide) nf_2_7 ft_2_7 (by first | rfl | assumption) (by first | rfl | assumption) ?_
            refine by_aload_n rfl ?_
            refine by_lconst cl_0 ?_
            refine by_putf cn_62 fl_2_30 (by first | exact rfl | assumption) (by decide) nf_2_8 ft_2_8 (by first | rfl | assumption) (by first | rfl | assumption) ?_
            refine by_aload_n rfl ?_
            refine by_lconst cl_0 ?_
            refine by_putf cn_62 fl_2_33 (by first | exact rfl | assumption) (by decide) nf_2_9 ft_2_9 (by first | rfl | assumption) (by first | rfl | assumption) ?_
            refine by_iload rfl ?_
            refine by_bipush cb_7 ?_
            refine by_ic_ge 73 rfl ?_
            simp (disch := first | exact Nat.ne_of_beq_eq_false rfl | exact rfl | omega) only [nI_add, xa_sub, xa_mul, pk_div, nm_mod, xa_shr, xa_and7, xa_and1, xa_and255, xa_by_and, nI_m1, Nat.add_sub_cancel, Nat.reducePow, Nat.zero_add, Nat.add_zero, Nat.reduceAdd, Nat.reduceMul, Nat.reduceSub, xf_same, xq_ff, xq_fo, xf_1, xf_2, xs_1, xs_2, xs_same, xq_so, xj_1, xj_2, xj_same, xq_jo, xq_sa1, xq_same, xq_other, upd_s, oI_n, oI_s, xv_0, xv_1, xv_2, xv_3, xm_p1, xm_p2, xq_fp, xq_fn, List.filter_nil, Nat.reduceBEq, Bool.not_true, Bool.not_false, Bool.and_true, Bool.and_false, Bool.false_and, Bool.true_and, if_true, if_false, Bool.false_eq_true, reduceIte, xc_i, xc_j, xc_r, xc_n, List.nil_append, List.cons_append, Option.toList_some, Option.toList_none, nI_ltJ, nI_leJ, nI_eqJ, nI_ltz, nI_gez, nI_gtz, nI_lez, nI_eqz, m1_ltz, m1_gez, true_imp_iff, false_imp_iff, true_and, and_true, ne_eq, not_false_eq_true, not_true_eq_false, Nat.reduceEqDiff, Nat.reduceLT, Nat.reduceLeDiff]
            refine ⟨fun c42 => ?_, fun c => absurd (by omega) c⟩
            with_reducible refine xm_go_blk b_X2_perform_73 k_X2_perform_73 ?_
            refine by_iload rfl ?_
            refine by_bipush cb_9 ?_
            refine by_ic_ge 87 rfl ?_
            simp (disch := first | exact Nat.ne_of_beq_eq_false rfl | exact rfl | omega) only [nI_add, xa_sub, xa_mul, pk_div, nm_mod, xa_shr, xa_and7, xa_and1, xa_and255, xa_by_and, nI_m1, Nat.add_sub_cancel, Nat.reducePow, Nat.zero_add, Nat.add_zero, Nat.reduceAdd, Nat.reduceMul, Nat.reduceSub, xf_same, xq_ff, xq_fo, xf_1, xf_2, xs_1, xs_2, xs_same, xq_so, xj_1, xj_2, xj_same, xq_jo, xq_sa1, xq_same, xq_other, upd_s, oI_n, oI_s, xv_0, xv_1, xv_2, xv_3, xm_p1, xm_p2, xq_fp, xq_fn, List.filter_nil, Nat.reduceBEq, Bool.not_true, Bool.not_false, Bool.and_true, Bool.and_false, Bool.false_and, Bool.true_and, if_true, if_false, Bool.false_eq_true, reduceIte, xc_i, xc_j, xc_r, xc_n, List.nil_append, List.cons_append, Option.toList_some, Option.toList_none, nI_ltJ, nI_leJ, nI_eqJ, nI_ltz, nI_gez, nI_gtz, nI_lez, nI_eqz, m1_ltz, m1_gez, true_imp_iff, false_imp_iff, true_and, and_true, ne_eq, not_false_eq_true, not_true_eq_false, Nat.reduceEqDiff, Nat.reduceLT, Nat.reduceLeDiff]
            refine ⟨fun c73 => ?_, fun c => absurd (by omega) c⟩
            with_reducible refine xm_go_blk b_X2_perform_87 k_X2_perform_87 ?_
            refine by_iload rfl ?_
            refine by_bipush cb_12 ?_
            refine by_ic_ge 103 rfl ?_
            simp (disch := first | exact Nat.ne_of_beq_eq_false rfl | exact rfl | omega) only [nI_add, xa_sub, xa_mul, pk_div, nm_mod, xa_shr, xa_and7, xa_and1, xa_and255, xa_by_and, nI_m1, Nat.add_sub_cancel, Nat.reducePow, Nat.zero_add, Nat.add_zero, Nat.reduceAdd, Nat.reduceMul, Nat.reduceSub, xf_same, xq_ff, xq_fo, xf_1, xf_2, xs_1, xs_2, xs_same, xq_so, xj_1, xj_2, xj_same, xq_jo, xq_sa1, xq_same, xq_other, upd_s, oI_n, oI_s, xv_0, xv_1, xv_2, xv_3, xm_p1, xm_p2, xq_fp, xq_fn, List.filter_nil, Nat.reduceBEq, Bool.not_true, Bool.not_false, Bool.and_true, Bool.and_false, Bool.false_and, Bool.true_and, if_true, if_false, Bool.false_eq_true, reduceIte, xc_i, xc_j, xc_r, xc_n, List.nil_append, List.cons_append, Option.toList_some, Option.toList_none, nI_ltJ, nI_leJ, nI_eqJ, nI_ltz, nI_gez, nI_gtz, nI_lez, nI_eqz, m1_ltz, m1_gez, true_imp_iff, false_imp_iff, true_and, and_true, ne_eq, not_false_eq_true, not_true_eq_false, Nat.reduceEqDiff, Nat.reduceLT, Nat.reduceLeDiff]
            refine ⟨fun c87 => ?_, fun c => absurd (by omega) c⟩
            with_reducible refine xm_go_blk b_X2_perform_103 k_X2_perform_103 ?_
            refine by_iload rfl ?_
            refine by_bipush cb_19 ?_
            refine by_ic_ge 119 rfl ?_
            simp (disch := first | exact Nat.ne_of_beq_eq_false rfl | exact rfl | omega) only [nI_add, xa_sub, xa_mul, pk_div, nm_mod, xa_shr, xa_and7, xa_and1, xa_and255, xa_by_and, nI_m1, Nat.add_sub_cancel, Nat.reducePow, Nat.zero_add, Nat.add_zero, Nat.reduceAdd, Nat.reduceMul, Nat.reduceSub, xf_same, xq_ff, xq_fo, xf_1, xf_2, xs_1, xs_2, xs_same, xq_so, xj_1, xj_2, xj_same, xq_jo, xq_sa1, xq_same, xq_other, upd_s, oI_n, oI_s, xv_0, xv_1, xv_2, xv_3, xm_p1, xm_p2, xq_fp, xq_fn, List.filter_nil, Nat.reduceBEq, Bool.not_true, Bool.not_false, Bool.and_true, Bool.and_false, Bool.false_and, Bool.true_and, if_true, if_false, Bool.false_eq_true, reduceIte, xc_i, xc_j, xc_r, xc_n, List.nil_append, List.cons_append, Option.toList_some, Option.toList_none, nI_ltJ, nI_leJ, nI_eqJ, nI_ltz, nI_gez, nI_gtz, nI_lez, nI_eqz, m1_ltz, m1_gez, true_imp_iff, false_imp_iff, true_and, and_true, ne_eq, not_false_eq_true, not_true_eq_false, Nat.reduceEqDiff, Nat.reduceLT, Nat.reduceLeDiff]
            refine ⟨fun c103 => ?_, fun c => absurd (by omega) c⟩
            with_reducible refine xm_go_blk b_X2_perform_119 k_X2_perform_119 ?_
            refine by_iload rfl ?_
            refine by_bipush cb_23 ?_
            refine by_ic_ge 135 rfl ?_
            simp (disch := first | exact Nat.ne_of_beq_eq_false rfl | exact rfl | omega) only [nI_add, xa_sub, xa_mul, pk_div, nm_mod, xa_shr, xa_and7, xa_and1, xa_and255, xa_by_and, nI_m1, Nat.add_sub_cancel, Nat.reducePow, Nat.zero_add, Nat.add_zero, Nat.reduceAdd, Nat.reduceMul, Nat.reduceSub, xf_same, xq_ff, xq_fo, xf_1, xf_2, xs_1, xs_2, xs_same, xq_so, xj_1, xj_2, xj_same, xq_jo, xq_sa1, xq_same, xq_other, upd_s, oI_n, oI_s, xv_0, xv_1, xv_2, xv_3, xm_p1, xm_p2, xq_fp, xq_fn, List.filter_nil, Nat.reduceBEq, Bool.not_true, Bool.not_false, Bool.and_true, Bool.and_false, Bool.false_and, Bool.true_and, if_true, if_false, Bool.false_eq_true, reduceIte, xc_i, xc_j, xc_r, xc_n, List.nil_append, List.cons_append, Option.toList_some, Option.toList_none, nI_ltJ, nI_leJ, nI_eqJ, nI_ltz, nI_gez, nI_gtz, nI_lez, nI_eqz, m1_ltz, m1_gez, true_imp_iff, false_imp_iff, true_and, and_true, ne_eq, not_false_eq_true, not_true_eq_false, Nat.reduceEqDiff, Nat.reduceLT, Nat.reduceLeDiff]
            refine ⟨fun c => absurd c (by omega), fun c119 => ?_⟩
            with_reducible refine xm_go_blk b_X2_perform_126 k_X2_perform_126 ?_
            refine by_aload_n rfl ?_
            refine by_iload rfl ?_
            refine by_inv1 cn_62 lk_2_49 (by rw [xe_cnt]; decide) is_67 np_67 cn_67 (by first | exact rfl | assumption) (Nat.le_of_ble_eq_true rfl) ?_
            refine sp_testWord (by omega) (by omega) hw st s0 hxl (fun h4 B H L hr hj => ?_)
            rw [← hjt (by omega) (by omega)] at hj
            with_reducible refine xm_go_blk b_X2_perform_132 k_X2_perform_132 ?_
            refine by_goto 157 rfl ?_
            exact xm_go_wk (by simp [Value.category]) (fin h4 B H L hr hj)
          · by_cases q32 : k < 32
            · with_reducible refine xm_go_blk b_X2_perform_42 k_X2_perform_42 ?_
              refine by_aload_n rfl ?_
              refine by_lconst cl_0 ?_
              refine by_putf cn_62 fl_2_27 (by first | exact rfl | assumption) (by decide) nf_2_7 ft_2_7 (by first | rfl | assumption) (by first | rfl | assumption) ?_
              refine by_aload_n rfl ?_
              refine by_lconst cl_0 ?_
              refine by_putf cn_62 fl_2_30 (by first | exact rfl | assumption) (by decide) nf_2_8 ft_2_8 (by first | rfl | assumption) (by first | rfl | assumption) ?_
              refine by_aload_n rfl ?_
              refine by_lconst cl_0 ?_
              refine by_putf cn_62 fl_2_33 (by first | exact rfl | assumption) (by decide) nf_2_9 ft_2_9 (by first | rfl | assumption) (by first | rfl | assumption) ?_
              refine by_iload rfl ?_
              refine by_bipush cb_7 ?_
              refine by_ic_ge 73 rfl ?_
              simp (disch := first | exact Nat.ne_of_beq_eq_false rfl | exact rfl | omega) only [nI_add, xa_sub, xa_mul, pk_div, nm_mod, xa_shr, xa_and7, xa_and1, xa_and255, xa_by_and, nI_m1, Nat.add_sub_cancel, Nat.reducePow, Nat.zero_add, Nat.add_zero, Nat.reduceAdd, Nat.reduceMul, Nat.reduceSub, xf_same, xq_ff, xq_fo, xf_1, xf_2, xs_1, xs_2, xs_same, xq_so, xj_1, xj_2, xj_same, xq_jo, xq_sa1, xq_same, xq_other, upd_s, oI_n, oI_s, xv_0, xv_1, xv_2, xv_3, xm_p1, xm_p2, xq_fp, xq_fn, List.filter_nil, Nat.reduceBEq, Bool.not_true, Bool.not_false, Bool.and_true, Bool.and_false, Bool.false_and, Bool.true_and, if_true, if_false, Bool.false_eq_true, reduceIte, xc_i, xc_j, xc_r, xc_n, List.nil_append, List.cons_append, Option.toList_some, Option.toList_none, nI_ltJ, nI_leJ, nI_eqJ, nI_ltz, nI_gez, nI_gtz, nI_lez, nI_eqz, m1_ltz, m1_gez, true_imp_iff, false_imp_iff, true_and, and_true, ne_eq, not_false_eq_true, not_true_eq_false, Nat.reduceEqDiff, Nat.reduceLT, Nat.reduceLeDiff]
              refine ⟨fun c42 => ?_, fun c => absurd (by omega) c⟩
              with_reducible refine xm_go_blk b_X2_perform_73 k_X2_perform_73 ?_
              refine by_iload rfl ?_
              refine by_bipush cb_9 ?_
              refine by_ic_ge 87 rfl ?_
              simp (disch := first | exact Nat.ne_of_beq_eq_false rfl | exact rfl | omega) only [nI_add, xa_sub, xa_mul, pk_div, nm_mod, xa_shr, xa_and7, xa_and1, xa_and255, xa_by_and, nI_m1, Nat.add_sub_cancel, Nat.reducePow, Nat.zero_add, Nat.add_zero, Nat.reduceAdd, Nat.reduceMul, Nat.reduceSub, xf_same, xq_ff, xq_fo, xf_1, xf_2, xs_1, xs_2, xs_same, xq_so, xj_1, xj_2, xj_same, xq_jo, xq_sa1, xq_same, xq_other, upd_s, oI_n, oI_s, xv_0, xv_1, xv_2, xv_3, xm_p1, xm_p2, xq_fp, xq_fn, List.filter_nil, Nat.reduceBEq, Bool.not_true, Bool.not_false, Bool.and_true, Bool.and_false, Bool.false_and, Bool.true_and, if_true, if_false, Bool.false_eq_true, reduceIte, xc_i, xc_j, xc_r, xc_n, List.nil_append, List.cons_append, Option.toList_some, Option.toList_none, nI_ltJ, nI_leJ, nI_eqJ, nI_ltz, nI_gez, nI_gtz, nI_lez, nI_eqz, m1_ltz, m1_gez, true_imp_iff, false_imp_iff, true_and, and_true, ne_eq, not_false_eq_true, not_true_eq_false, Nat.reduceEqDiff, Nat.reduceLT, Nat.reduceLeDiff]
              refine ⟨fun c73 => ?_, fun c => absurd (by omega) c⟩
              with_reducible refine xm_go_blk b_X2_perform_87 k_X2_perform_87 ?_
              refine by_iload rfl ?_
              refine by_bipush cb_12 ?_
              refine by_ic_ge 103 rfl ?_
              simp (disch := first | exact Nat.ne_of_beq_eq_false rfl | exact rfl | omega) only [nI_add, xa_sub, xa_mul, pk_div, nm_mod, xa_shr, xa_and7, xa_and1, xa_and255, xa_by_and, nI_m1, Nat.add_sub_cancel, Nat.reducePow, Nat.zero_add, Nat.add_zero, Nat.reduceAdd, Nat.reduceMul, Nat.reduceSub, xf_same, xq_ff, xq_fo, xf_1, xf_2, xs_1, xs_2, xs_same, xq_so, xj_1, xj_2, xj_same, xq_jo, xq_sa1, xq_same, xq_other, upd_s, oI_n, oI_s, xv_0, xv_1, xv_2, xv_3, xm_p1, xm_p2, xq_fp, xq_fn, List.filter_nil, Nat.reduceBEq, Bool.not_true, Bool.not_false, Bool.and_true, Bool.and_false, Bool.false_and, Bool.true_and, if_true, if_false, Bool.false_eq_true, reduceIte, xc_i, xc_j, xc_r, xc_n, List.nil_append, List.cons_append, Option.toList_some, Option.toList_none, nI_ltJ, nI_leJ, nI_eqJ, nI_ltz, nI_gez, nI_gtz, nI_lez, nI_eqz, m1_ltz, m1_gez, true_imp_iff, false_imp_iff, true_and, and_true, ne_eq, not_false_eq_true, not_true_eq_false, Nat.reduceEqDiff, Nat.reduceLT, Nat.reduceLeDiff]
              refine ⟨fun c87 => ?_, fun c => absurd (by omega) c⟩
              with_reducible refine xm_go_blk b_X2_perform_103 k_X2_perform_103 ?_
              refine by_iload rfl ?_
              refine by_bipush cb_19 ?_
              refine by_ic_ge 119 rfl ?_
              simp (disch := first | exact Nat.ne_of_beq_eq_false rfl | exact rfl | omega) only [nI_add, xa_sub, xa_mul, pk_div, nm_mod, xa_shr, xa_and7, xa_and1, xa_and255, xa_by_and, nI_m1, Nat.add_sub_cancel, Nat.reducePow, Nat.zero_add, Nat.add_zero, Nat.reduceAdd, Nat.reduceMul, Nat.reduceSub, xf_same, xq_ff, xq_fo, xf_1, xf_2, xs_1, xs_2, xs_same, xq_so, xj_1, xj_2, xj_same, xq_jo, xq_sa1, xq_same, xq_other, upd_s, oI_n, oI_s, xv_0, xv_1, xv_2, xv_3, xm_p1, xm_p2, xq_fp, xq_fn, List.filter_nil, Nat.reduceBEq, Bool.not_true, Bool.not_false, Bool.and_true, Bool.and_false, Bool.false_and, Bool.true_and, if_true, if_false, Bool.false_eq_true, reduceIte, xc_i, xc_j, xc_r, xc_n, List.nil_append, List.cons_append, Option.toList_some, Option.toList_none, nI_ltJ, nI_leJ, nI_eqJ, nI_ltz, nI_gez, nI_gtz, nI_lez, nI_eqz, m1_ltz, m1_gez, true_imp_iff, false_imp_iff, true_and, and_true, ne_eq, not_false_eq_true, not_true_eq_false, Nat.reduceEqDiff, Nat.reduceLT, Nat.reduceLeDiff]
              refine ⟨fun c103 => ?_, fun c => absurd (by omega) c⟩
              with_reducible refine xm_go_blk b_X2_perform_119 k_X2_perform_119 ?_
              refine by_iload rfl ?_
              refine by_bipush cb_23 ?_
              refine by_ic_ge 135 rfl ?_
              simp (disch := first | exact Nat.ne_of_beq_eq_false rfl | exact rfl | omega) only [nI_add, xa_sub, xa_mul, pk_div, nm_mod, xa_shr, xa_and7, xa_and1, xa_and255, xa_by_and, nI_m1, Nat.add_sub_cancel, Nat.reducePow, Nat.zero_add, Nat.add_zero, Nat.reduceAdd, Nat.reduceMul, Nat.reduceSub, xf_same, xq_ff, xq_fo, xf_1, xf_2, xs_1, xs_2, xs_same, xq_so, xj_1, xj_2, xj_same, xq_jo, xq_sa1, xq_same, xq_other, upd_s, oI_n, oI_s, xv_0, xv_1, xv_2, xv_3, xm_p1, xm_p2, xq_fp, xq_fn, List.filter_nil, Nat.reduceBEq, Bool.not_true, Bool.not_false, Bool.and_true, Bool.and_false, Bool.false_and, Bool.true_and, if_true, if_false, Bool.false_eq_true, reduceIte, xc_i, xc_j, xc_r, xc_n, List.nil_append, List.cons_append, Option.toList_some, Option.toList_none, nI_ltJ, nI_leJ, nI_eqJ, nI_ltz, nI_gez, nI_gtz, nI_lez, nI_eqz, m1_ltz, m1_gez, true_imp_iff, false_imp_iff, true_and, and_true, ne_eq, not_false_eq_true, not_true_eq_false, Nat.reduceEqDiff, Nat.reduceLT, Nat.reduceLeDiff]
              refine ⟨fun c119 => ?_, fun c => absurd (by omega) c⟩
              with_reducible refine xm_go_blk b_X2_perform_135 k_X2_perform_135 ?_
              refine by_iload rfl ?_
              refine by_bipush cb_32 ?_
              refine by_ic_ge 151 rfl ?_
              simp (disch := first | exact Nat.ne_of_beq_eq_false rfl | exact rfl | omega) only [nI_add, xa_sub, xa_mul, pk_div, nm_mod, xa_shr, xa_and7, xa_and1, xa_and255, xa_by_and, nI_m1, Nat.add_sub_cancel, Nat.reducePow, Nat.zero_add, Nat.add_zero, Nat.reduceAdd, Nat.reduceMul, Nat.reduceSub, xf_same, xq_ff, xq_fo, xf_1, xf_2, xs_1, xs_2, xs_same, xq_so, xj_1, xj_2, xj_same, xq_jo, xq_sa1, xq_same, xq_other, upd_s, oI_n, oI_s, xv_0, xv_1, xv_2, xv_3, xm_p1, xm_p2, xq_fp, xq_fn, List.filter_nil, Nat.reduceBEq, Bool.not_true, Bool.not_false, Bool.and_true, Bool.and_false, Bool.false_and, Bool.true_and, if_true, if_false, Bool.false_eq_true, reduceIte, xc_i, xc_j, xc_r, xc_n, List.nil_append, List.cons_append, Option.toList_some, Option.toList_none, nI_ltJ, nI_leJ, nI_eqJ, nI_ltz, nI_gez, nI_gtz, nI_lez, nI_eqz, m1_ltz, m1_gez, true_imp_iff, false_imp_iff, true_and, and_true, ne_eq, not_false_eq_true, not_true_eq_false, Nat.reduceEqDiff, Nat.reduceLT, Nat.reduceLeDiff]
              refine ⟨fun c => absurd c (by omega), fun c135 => ?_⟩
              with_reducible refine xm_go_blk b_X2_perform_142 k_X2_perform_142 ?_
              refine by_aload_n rfl ?_
              refine by_iload rfl ?_
              refine by_inv1 cn_62 lk_2_52 (by rw [xe_cnt]; decide) is_59 np_59 cn_59 (by first | exact rfl | assumption) (Nat.le_of_ble_eq_true rfl) ?_
              refine sp_mixBits (by omega) (by omega) hw st s0 hxl hyl hzl (fun h4 B H L hr hj => ?_)
              rw [← hjm (by omega) (by omega)] at hj
              with_reducible refine xm_go_blk b_X2_perform_148 k_X2_perform_148 ?_
              refine by_goto 157 rfl ?_
              exact xm_go_wk (by simp [Value.category]) (fin h4 B H L hr hj)
            · with_reducible refine xm_go_blk b_X2_perform_42 k_X2_perform_42 ?_
              refine by_aload_n rfl ?_
              refine by_lconst cl_0 ?_
              refine by_putf cn_62 fl_2_27 (by first | exact rfl | assumption) (by decide) nf_2_7 ft_2_7 (by first | rfl | assumption) (by first | rfl | assumption) ?_
              refine by_aload_n rfl ?_
              refine by_lconst cl_0 ?_
              refine by_putf cn_62 fl_2_30 (by first | exact rfl | assumption) (by decide) nf_2_8 ft_2_8 (by first | rfl | assumption) (by first | rfl | assumption) ?_
              refine by_aload_n rfl ?_
              refine by_lconst cl_0 ?_
              refine by_putf cn_62 fl_2_33 (by first | exact rfl | assumption) (by decide) nf_2_9 ft_2_9 (by first | rfl | assumption) (by first | rfl | assumption) ?_
              refine by_iload rfl ?_
              refine by_bipush cb_7 ?_
              refine by_ic_ge 73 rfl ?_
              simp (disch := first | exact Nat.ne_of_beq_eq_false rfl | exact rfl | omega) only [nI_add, xa_sub, xa_mul, pk_div, nm_mod, xa_shr, xa_and7, xa_and1, xa_and255, xa_by_and, nI_m1, Nat.add_sub_cancel, Nat.reducePow, Nat.zero_add, Nat.add_zero, Nat.reduceAdd, Nat.reduceMul, Nat.reduceSub, xf_same, xq_ff, xq_fo, xf_1, xf_2, xs_1, xs_2, xs_same, xq_so, xj_1, xj_2, xj_same, xq_jo, xq_sa1, xq_same, xq_other, upd_s, oI_n, oI_s, xv_0, xv_1, xv_2, xv_3, xm_p1, xm_p2, xq_fp, xq_fn, List.filter_nil, Nat.reduceBEq, Bool.not_true, Bool.not_false, Bool.and_true, Bool.and_false, Bool.false_and, Bool.true_and, if_true, if_false, Bool.false_eq_true, reduceIte, xc_i, xc_j, xc_r, xc_n, List.nil_append, List.cons_append, Option.toList_some, Option.toList_none, nI_ltJ, nI_leJ, nI_eqJ, nI_ltz, nI_gez, nI_gtz, nI_lez, nI_eqz, m1_ltz, m1_gez, true_imp_iff, false_imp_iff, true_and, and_true, ne_eq, not_false_eq_true, not_true_eq_false, Nat.reduceEqDiff, Nat.reduceLT, Nat.reduceLeDiff]
              refine ⟨fun c42 => ?_, fun c => absurd (by omega) c⟩
              with_reducible refine xm_go_blk b_X2_perform_73 k_X2_perform_73 ?_
              refine by_iload rfl ?_
              refine by_bipush cb_9 ?_
              refine by_ic_ge 87 rfl ?_
              simp (disch := first | exact Nat.ne_of_beq_eq_false rfl | exact rfl | omega) only [nI_add, xa_sub, xa_mul, pk_div, nm_mod, xa_shr, xa_and7, xa_and1, xa_and255, xa_by_and, nI_m1, Nat.add_sub_cancel, Nat.reducePow, Nat.zero_add, Nat.add_zero, Nat.reduceAdd, Nat.reduceMul, Nat.reduceSub, xf_same, xq_ff, xq_fo, xf_1, xf_2, xs_1, xs_2, xs_same, xq_so, xj_1, xj_2, xj_same, xq_jo, xq_sa1, xq_same, xq_other, upd_s, oI_n, oI_s, xv_0, xv_1, xv_2, xv_3, xm_p1, xm_p2, xq_fp, xq_fn, List.filter_nil, Nat.reduceBEq, Bool.not_true, Bool.not_false, Bool.and_true, Bool.and_false, Bool.false_and, Bool.true_and, if_true, if_false, Bool.false_eq_true, reduceIte, xc_i, xc_j, xc_r, xc_n, List.nil_append, List.cons_append, Option.toList_some, Option.toList_none, nI_ltJ, nI_leJ, nI_eqJ, nI_ltz, nI_gez, nI_gtz, nI_lez, nI_eqz, m1_ltz, m1_gez, true_imp_iff, false_imp_iff, true_and, and_true, ne_eq, not_false_eq_true, not_true_eq_false, Nat.reduceEqDiff, Nat.reduceLT, Nat.reduceLeDiff]
              refine ⟨fun c73 => ?_, fun c => absurd (by omega) c⟩
              with_reducible refine xm_go_blk b_X2_perform_87 k_X2_perform_87 ?_
              refine by_iload rfl ?_
              refine by_bipush cb_12 ?_
              refine by_ic_ge 103 rfl ?_
              simp (disch := first | exact Nat.ne_of_beq_eq_false rfl | exact rfl | omega) only [nI_add, xa_sub, xa_mul, pk_div, nm_mod, xa_shr, xa_and7, xa_and1, xa_and255, xa_by_and, nI_m1, Nat.add_sub_cancel, Nat.reducePow, Nat.zero_add, Nat.add_zero, Nat.reduceAdd, Nat.reduceMul, Nat.reduceSub, xf_same, xq_ff, xq_fo, xf_1, xf_2, xs_1, xs_2, xs_same, xq_so, xj_1, xj_2, xj_same, xq_jo, xq_sa1, xq_same, xq_other, upd_s, oI_n, oI_s, xv_0, xv_1, xv_2, xv_3, xm_p1, xm_p2, xq_fp, xq_fn, List.filter_nil, Nat.reduceBEq, Bool.not_true, Bool.not_false, Bool.and_true, Bool.and_false, Bool.false_and, Bool.true_and, if_true, if_false, Bool.false_eq_true, reduceIte, xc_i, xc_j, xc_r, xc_n, List.nil_append, List.cons_append, Option.toList_some, Option.toList_none, nI_ltJ, nI_leJ, nI_eqJ, nI_ltz, nI_gez, nI_gtz, nI_lez, nI_eqz, m1_ltz, m1_gez, true_imp_iff, false_imp_iff, true_and, and_true, ne_eq, not_false_eq_true, not_true_eq_false, Nat.reduceEqDiff, Nat.reduceLT, Nat.reduceLeDiff]
              refine ⟨fun c87 => ?_, fun c => absurd (by omega) c⟩
              with_reducible refine xm_go_blk b_X2_perform_103 k_X2_perform_103 ?_
              refine by_iload rfl ?_
              refine by_bipush cb_19 ?_
              refine by_ic_ge 119 rfl ?_
              simp (disch := first | exact Nat.ne_of_beq_eq_false rfl | exact rfl | omega) only [nI_add, xa_sub, xa_mul, pk_div, nm_mod, xa_shr, xa_and7, xa_and1, xa_and255, xa_by_and, nI_m1, Nat.add_sub_cancel, Nat.reducePow, Nat.zero_add, Nat.add_zero, Nat.reduceAdd, Nat.reduceMul, Nat.reduceSub, xf_same, xq_ff, xq_fo, xf_1, xf_2, xs_1, xs_2, xs_same, xq_so, xj_1, xj_2, xj_same, xq_jo, xq_sa1, xq_same, xq_other, upd_s, oI_n, oI_s, xv_0, xv_1, xv_2, xv_3, xm_p1, xm_p2, xq_fp, xq_fn, List.filter_nil, Nat.reduceBEq, Bool.not_true, Bool.not_false, Bool.and_true, Bool.and_false, Bool.false_and, Bool.true_and, if_true, if_false, Bool.false_eq_true, reduceIte, xc_i, xc_j, xc_r, xc_n, List.nil_append, List.cons_append, Option.toList_some, Option.toList_none, nI_ltJ, nI_leJ, nI_eqJ, nI_ltz, nI_gez, nI_gtz, nI_lez, nI_eqz, m1_ltz, m1_gez, true_imp_iff, false_imp_iff, true_and, and_true, ne_eq, not_false_eq_true, not_true_eq_false, Nat.reduceEqDiff, Nat.reduceLT, Nat.reduceLeDiff]
              refine ⟨fun c103 => ?_, fun c => absurd (by omega) c⟩
              with_reducible refine xm_go_blk b_X2_perform_119 k_X2_perform_119 ?_
              refine by_iload rfl ?_
              refine by_bipush cb_23 ?_
              refine by_ic_ge 135 rfl ?_
              simp (disch := first | exact Nat.ne_of_beq_eq_false rfl | exact rfl | omega) only [nI_add, xa_sub, xa_mul, pk_div, nm_mod, xa_shr, xa_and7, xa_and1, xa_and255, xa_by_and, nI_m1, Nat.add_sub_cancel, Nat.reducePow, Nat.zero_add, Nat.add_zero, Nat.reduceAdd, Nat.reduceMul, Nat.reduceSub, xf_same, xq_ff, xq_fo, xf_1, xf_2, xs_1, xs_2, xs_same, xq_so, xj_1, xj_2, xj_same, xq_jo, xq_sa1, xq_same, xq_other, upd_s, oI_n, oI_s, xv_0, xv_1, xv_2, xv_3, xm_p1, xm_p2, xq_fp, xq_fn, List.filter_nil, Nat.reduceBEq, Bool.not_true, Bool.not_false, Bool.and_true, Bool.and_false, Bool.false_and, Bool.true_and, if_true, if_false, Bool.false_eq_true, reduceIte, xc_i, xc_j, xc_r, xc_n, List.nil_append, List.cons_append, Option.toList_some, Option.toList_none, nI_ltJ, nI_leJ, nI_eqJ, nI_ltz, nI_gez, nI_gtz, nI_lez, nI_eqz, m1_ltz, m1_gez, true_imp_iff, false_imp_iff, true_and, and_true, ne_eq, not_false_eq_true, not_true_eq_false, Nat.reduceEqDiff, Nat.reduceLT, Nat.reduceLeDiff]
              refine ⟨fun c119 => ?_, fun c => absurd (by omega) c⟩
              with_reducible refine xm_go_blk b_X2_perform_135 k_X2_perform_135 ?_
              refine by_iload rfl ?_
              refine by_bipush cb_32 ?_
              refine by_ic_ge 151 rfl ?_
              simp (disch := first | exact Nat.ne_of_beq_eq_false rfl | exact rfl | omega) only [nI_add, xa_sub, xa_mul, pk_div, nm_mod, xa_shr, xa_and7, xa_and1, xa_and255, xa_by_and, nI_m1, Nat.add_sub_cancel, Nat.reducePow, Nat.zero_add, Nat.add_zero, Nat.reduceAdd, Nat.reduceMul, Nat.reduceSub, xf_same, xq_ff, xq_fo, xf_1, xf_2, xs_1, xs_2, xs_same, xq_so, xj_1, xj_2, xj_same, xq_jo, xq_sa1, xq_same, xq_other, upd_s, oI_n, oI_s, xv_0, xv_1, xv_2, xv_3, xm_p1, xm_p2, xq_fp, xq_fn, List.filter_nil, Nat.reduceBEq, Bool.not_true, Bool.not_false, Bool.and_true, Bool.and_false, Bool.false_and, Bool.true_and, if_true, if_false, Bool.false_eq_true, reduceIte, xc_i, xc_j, xc_r, xc_n, List.nil_append, List.cons_append, Option.toList_some, Option.toList_none, nI_ltJ, nI_leJ, nI_eqJ, nI_ltz, nI_gez, nI_gtz, nI_lez, nI_eqz, m1_ltz, m1_gez, true_imp_iff, false_imp_iff, true_and, and_true, ne_eq, not_false_eq_true, not_true_eq_false, Nat.reduceEqDiff, Nat.reduceLT, Nat.reduceLeDiff]
              refine ⟨fun c135 => ?_, fun c => absurd (by omega) c⟩
              with_reducible refine xm_go_blk b_X2_perform_151 k_X2_perform_151 ?_
              refine by_aload_n rfl ?_
              refine by_iload rfl ?_
              refine by_inv1 cn_62 lk_2_55 (by rw [xe_cnt]; decide) is_60 np_60 cn_60 (by first | exact rfl | assumption) (Nat.le_of_ble_eq_true rfl) ?_
              refine sp_moveBits hbc (by omega) (by omega) hw st s0 hxl (fun q => ?_) (jc_lt u _) (fun h4 B H L hr hj => ?_)
              · have e : jx u (jt_S k) w = mc_n u 0 (w / 2) := by rw [h40 q]; rfl
                rw [e]; exact mc_n_lt _ _ _
              · exact xm_go_wk (by simp [Value.category]) (fin h4 B H L hr hj)
end JC
