/-! ===== the machine works a node: CASE, leaves ===== -/
section BG
variable {sc : xm_Sc} {d pp df : Nat} {A : mc_A} {w : mc_W} {H0 : xm_H} {post : xm_Po}
theorem fw_fail {h : xm_H} {n f t b g k pc pf sp tn : Nat} {K : List mc_F} (hF : XF h) (hf : Fr mcR mcT H0 h) (hc : cdN H0 A n) (he : mc_op A n = 11) (hN : mNd h n f t b g) (hS : mSt h K pc pf sp) (hk : k < 8000) (hno : ∀ h', XF h' → Fr mcR mcT H0 h' → post (some (.int (nI 0))) h') : Fw sc d pp df post tn k h := by
  obtain ⟨v1, v2, v3, v4, v5, v6, v7, v8⟩ := cdN_fr hc hf
  obtain ⟨n1, n2, n3, n4, n5⟩ := hN
  have s5 := hS.2.2.2.2
  have f1 : Fr mcR mcT H0 (xm_sf h 32 16 (.long (lN (sp + 1)))) := Fr_sf hf (by simp [mcT])
  have F1 : XF (xm_sf h 32 16 (.long (lN (sp + 1)))) := Fr_XF hF (Fr_sf (Fr_rf (S := mcR) (T := mcT)) (by simp [mcT])) mcT_fin
  unfold Fw
  rw [he] at v2
  with_reducible refine xm_go_blk b_X4_follow_2 k_X4_follow_2 ?_
  refine by_iload_n rfl ?_
  refine by_sipush cs_8000 ?_
  refine by_ic_ge 466 rfl ?_
  simp (disch := first | exact Nat.ne_of_beq_eq_false rfl | exact rfl | omega) only [nI_add, xa_sub, xa_mul, pk_div, nm_mod, xa_shr, xa_and7, xa_and1, xa_and255, xa_by_and, nI_m1, Nat.add_sub_cancel, Nat.reducePow, Nat.zero_add, Nat.add_zero, Nat.reduceAdd, Nat.reduceMul, Nat.reduceSub, xf_same, xq_ff, xq_fo, xf_1, xf_2, xs_1, xs_2, xs_same, xq_so, xj_1, xj_2, xj_same, xq_jo, xq_sa1, xq_same, xq_other, upd_s, oI_n, oI_s, xv_0, xv_1, xv_2, xv_3, xm_p1, xm_p2, xq_fp, xq_fn, List.filter_nil, Nat.reduceBEq, Bool.not_true, Bool.not_false, Bool.and_true, Bool.and_false, Bool.false_and, Bool.true_and, if_true, if_false, Bool.false_eq_true, reduceIte, xc_i, xc_j, xc_r, xc_n, List.nil_append, List.cons_append, Option.toList_some, Option.toList_none, nI_ltJ, nI_leJ, nI_eqJ, nI_ltz, nI_gez, nI_gtz, nI_lez, nI_eqz, m1_ltz, m1_gez, true_imp_iff, false_imp_iff, true_and, and_true, ne_eq, not_false_eq_true, not_true_eq_false, Nat.reduceEqDiff, Nat.reduceLT, Nat.reduceLeDiff, xf_32_2 hF, xf_22_3 hF, n1, v3, s5, lN_pl, xf_22_0 hF, v2]
  refine ⟨fun c => absurd c (by omega), fun c2 => ?_⟩
  with_reducible refine xm_go_blk b_X4_follow_9 k_X4_follow_9 ?_
  refine by_aload_n rfl ?_
  refine by_getf cn_82 fl_4_38 (by first | exact rfl | assumption) (by decide) ?_
  simp (disch := first | exact Nat.ne_of_beq_eq_false rfl | exact rfl | omega) only [nI_add, xa_sub, xa_mul, pk_div, nm_mod, xa_shr, xa_and7, xa_and1, xa_and255, xa_by_and, nI_m1, Nat.add_sub_cancel, Nat.reducePow, Nat.zero_add, Nat.add_zero, Nat.reduceAdd, Nat.reduceMul, Nat.reduceSub, xf_same, xq_ff, xq_fo, xf_1, xf_2, xs_1, xs_2, xs_same, xq_so, xj_1, xj_2, xj_same, xq_jo, xq_sa1, xq_same, xq_other, upd_s, oI_n, oI_s, xf_32_2 hF, xf_22_3 hF, n1, v3, s5, lN_pl, xf_22_0 hF, v2]
  refine by_getf cn_82 fl_4_129 (by first | exact rfl | assumption) (by decide) ?_
  refine by_aload_n rfl ?_
  refine by_getf cn_82 fl_4_110 (by first | exact rfl | assumption) (by decide) ?_
  simp (disch := first | exact Nat.ne_of_beq_eq_false rfl | exact rfl | omega) only [nI_add, xa_sub, xa_mul, pk_div, nm_mod, xa_shr, xa_and7, xa_and1, xa_and255, xa_by_and, nI_m1, Nat.add_sub_cancel, Nat.reducePow, Nat.zero_add, Nat.add_zero, Nat.reduceAdd, Nat.reduceMul, Nat.reduceSub, xf_same, xq_ff, xq_fo, xf_1, xf_2, xs_1, xs_2, xs_same, xq_so, xj_1, xj_2, xj_same, xq_jo, xq_sa1, xq_same, xq_other, upd_s, oI_n, oI_s, xf_32_2 hF, xf_22_3 hF, n1, v3, s5, lN_pl, xf_22_0 hF, v2]
  first | refine by_iald (by first | exact rfl | assumption | exact ps_1 hpp | exact ps_2 hpp | exact ps_3 hpp | exact ps_4 hpp | exact ps_5 hpp | exact ps_6 hpp | exact ps_7 hpp | exact ps_8 hpp | exact ps_9 hpp | exact ps_10 hpp | exact ps_11 hpp | exact ps_15 hpp | exact ps_16 hpp | exact ps_17 hpp | exact ps_18 hpp | exact ps_19 hpp | exact ps_21 hpp | exact ps_22 hpp | exact ps_23 hpp | exact ps_24 hpp) ⟨by omega, by omega⟩ ?_ | refine by_tald rfl rfl ⟨by omega, by omega⟩ ?_
  refine by_istore (by rw [ml_82]; decide) ?_
  refine by_aload_n rfl ?_
  refine by_dup rfl ?_
  refine by_getf cn_82 fl_4_42 (by first | exact rfl | assumption) (by decide) ?_
  refine by_lconst cl_1 ?_
  simp (disch := first | exact Nat.ne_of_beq_eq_false rfl | exact rfl | omega) only [nI_add, xa_sub, xa_mul, pk_div, nm_mod, xa_shr, xa_and7, xa_and1, xa_and255, xa_by_and, nI_m1, Nat.add_sub_cancel, Nat.reducePow, Nat.zero_add, Nat.add_zero, Nat.reduceAdd, Nat.reduceMul, Nat.reduceSub, xf_same, xq_ff, xq_fo, xf_1, xf_2, xs_1, xs_2, xs_same, xq_so, xj_1, xj_2, xj_same, xq_jo, xq_sa1, xq_same, xq_other, upd_s, oI_n, oI_s, xf_32_2 hF, xf_22_3 hF, n1, v3, s5, lN_pl, xf_22_0 hF, v2]
  refine by_ladd ?_
  refine by_putf cn_82 fl_4_42 (by first | exact rfl | assumption) (by decide) nf_4_16 ft_4_16 (by first | rfl | assumption) (by first | rfl | assumption) ?_
  refine by_aload_n rfl ?_
  refine by_getf cn_82 fl_4_38 (by first | exact rfl | assumption) (by decide) ?_
  simp (disch := first | exact Nat.ne_of_beq_eq_false rfl | exact rfl | omega) only [nI_add, xa_sub, xa_mul, pk_div, nm_mod, xa_shr, xa_and7, xa_and1, xa_and255, xa_by_and, nI_m1, Nat.add_sub_cancel, Nat.reducePow, Nat.zero_add, Nat.add_zero, Nat.reduceAdd, Nat.reduceMul, Nat.reduceSub, xf_same, xq_ff, xq_fo, xf_1, xf_2, xs_1, xs_2, xs_same, xq_so, xj_1, xj_2, xj_same, xq_jo, xq_sa1, xq_same, xq_other, upd_s, oI_n, oI_s, xf_32_2 hF, xf_22_3 hF, n1, v3, s5, lN_pl, xf_22_0 hF, v2]
  refine by_getf cn_82 fl_4_132 (by first | exact rfl | assumption) (by decide) ?_
  refine by_aload_n rfl ?_
  refine by_getf cn_82 fl_4_110 (by first | exact rfl | assumption) (by decide) ?_
  simp (disch := first | exact Nat.ne_of_beq_eq_false rfl | exact rfl | omega) only [nI_add, xa_sub, xa_mul, pk_div, nm_mod, xa_shr, xa_and7, xa_and1, xa_and255, xa_by_and, nI_m1, Nat.add_sub_cancel, Nat.reducePow, Nat.zero_add, Nat.add_zero, Nat.reduceAdd, Nat.reduceMul, Nat.reduceSub, xf_same, xq_ff, xq_fo, xf_1, xf_2, xs_1, xs_2, xs_same, xq_so, xj_1, xj_2, xj_same, xq_jo, xq_sa1, xq_same, xq_other, upd_s, oI_n, oI_s, xf_32_2 hF, xf_22_3 hF, n1, v3, s5, lN_pl, xf_22_0 hF, v2]
  first | refine by_iald (by first | exact rfl | assumption | exact ps_1 hpp | exact ps_2 hpp | exact ps_3 hpp | exact ps_4 hpp | exact ps_5 hpp | exact ps_6 hpp | exact ps_7 hpp | exact ps_8 hpp | exact ps_9 hpp | exact ps_10 hpp | exact ps_11 hpp | exact ps_15 hpp | exact ps_16 hpp | exact ps_17 hpp | exact ps_18 hpp | exact ps_19 hpp | exact ps_21 hpp | exact ps_22 hpp | exact ps_23 hpp | exact ps_24 hpp) ⟨by omega, by omega⟩ ?_ | refine by_tald rfl rfl ⟨by omega, by omega⟩ ?_
  simp (disch := first | exact Nat.ne_of_beq_eq_false rfl | exact rfl | omega) only [nI_add, xa_sub, xa_mul, pk_div, nm_mod, xa_shr, xa_and7, xa_and1, xa_and255, xa_by_and, nI_m1, Nat.add_sub_cancel, Nat.reducePow, Nat.zero_add, Nat.add_zero, Nat.reduceAdd, Nat.reduceMul, Nat.reduceSub, xf_same, xq_ff, xq_fo, xf_1, xf_2, xs_1, xs_2, xs_same, xq_so, xj_1, xj_2, xj_same, xq_jo, xq_sa1, xq_same, xq_other, upd_s, oI_n, oI_s, xf_32_2 hF, xf_22_3 hF, n1, v3, s5, lN_pl, xf_22_0 hF, v2]
  refine by_sw ?_
  simp (disch := first | exact Nat.ne_of_beq_eq_false rfl | exact rfl | omega) only [nI_add, xa_sub, xa_mul, pk_div, nm_mod, xa_shr, xa_and7, xa_and1, xa_and255, xa_by_and, nI_m1, Nat.add_sub_cancel, Nat.reducePow, Nat.zero_add, Nat.add_zero, Nat.reduceAdd, Nat.reduceMul, Nat.reduceSub, xf_same, xq_ff, xq_fo, xf_1, xf_2, xs_1, xs_2, xs_same, xq_so, xj_1, xj_2, xj_same, xq_jo, xq_sa1, xq_same, xq_other, upd_s, oI_n, oI_s, xv_0, xv_1, xv_2, xv_3, xm_p1, xm_p2, xq_fp, xq_fn, List.filter_nil, Nat.reduceBEq, Bool.not_true, Bool.not_false, Bool.and_true, Bool.and_false, Bool.false_and, Bool.true_and, if_true, if_false, Bool.false_eq_true, reduceIte, xc_i, xc_j, xc_r, xc_n, List.nil_append, List.cons_append, Option.toList_some, Option.toList_none, xf_32_2 hF, xf_22_3 hF, n1, v3, s5, lN_pl, xf_22_0 hF, v2]
  refine xq_sw 452 (by decide) (by decide) ?_
  with_reducible refine xm_go_blk b_X4_follow_452 k_X4_follow_452 ?_
  refine by_aload_n rfl ?_
  refine by_aload_n rfl ?_
  refine by_iload rfl ?_
  refine by_inv2 cn_82 lk_4_159 (by rw [xe_cnt]; decide) is_81 np_81 cn_81 (by first | exact rfl | assumption) (Nat.le_of_ble_eq_true rfl) ?_
  refine xq_in rfl ?_
  simp only [xq_a0, xq_aI, xq_aJ, xq_aR, Nat.reduceAdd]
  with_reducible refine xm_go_blk b_X4_endAt_0 k_X4_endAt_0 ?_
  refine by_aload_n rfl ?_
  refine by_getf cn_81 fl_4_38 (by first | exact rfl | assumption) (by decide) ?_
  simp (disch := first | exact Nat.ne_of_beq_eq_false rfl | exact rfl | omega) only [nI_add, xa_sub, xa_mul, pk_div, nm_mod, xa_shr, xa_and7, xa_and1, xa_and255, xa_by_and, nI_m1, Nat.add_sub_cancel, Nat.reducePow, Nat.zero_add, Nat.add_zero, Nat.reduceAdd, Nat.reduceMul, Nat.reduceSub, xf_same, xq_ff, xq_fo, xf_1, xf_2, xs_1, xs_2, xs_same, xq_so, xj_1, xj_2, xj_same, xq_jo, xq_sa1, xq_same, xq_other, upd_s, oI_n, oI_s, xf_32_2 hF, xf_22_3 hF, n1, v3, s5, lN_pl, xf_22_0 hF, v2]
  refine by_getf cn_81 fl_4_132 (by first | exact rfl | assumption) (by decide) ?_
  refine by_aload_n rfl ?_
  refine by_getf cn_81 fl_4_110 (by first | exact rfl | assumption) (by decide) ?_
  simp (disch := first | exact Nat.ne_of_beq_eq_false rfl | exact rfl | omega) only [nI_add, xa_sub, xa_mul, pk_div, nm_mod, xa_shr, xa_and7, xa_and1, xa_and255, xa_by_and, nI_m1, Nat.add_sub_cancel, Nat.reducePow, Nat.zero_add, Nat.add_zero, Nat.reduceAdd, Nat.reduceMul, Nat.reduceSub, xf_same, xq_ff, xq_fo, xf_1, xf_2, xs_1, xs_2, xs_same, xq_so, xj_1, xj_2, xj_same, xq_jo, xq_sa1, xq_same, xq_other, upd_s, oI_n, oI_s, xf_32_2 hF, xf_22_3 hF, n1, v3, s5, lN_pl, xf_22_0 hF, v2]
  first | refine by_iald (by first | exact rfl | assumption | exact ps_1 hpp | exact ps_2 hpp | exact ps_3 hpp | exact ps_4 hpp | exact ps_5 hpp | exact ps_6 hpp | exact ps_7 hpp | exact ps_8 hpp | exact ps_9 hpp | exact ps_10 hpp | exact ps_11 hpp | exact ps_15 hpp | exact ps_16 hpp | exact ps_17 hpp | exact ps_18 hpp | exact ps_19 hpp | exact ps_21 hpp | exact ps_22 hpp | exact ps_23 hpp | exact ps_24 hpp) ⟨by omega, by omega⟩ ?_ | refine by_tald rfl rfl ⟨by omega, by omega⟩ ?_
  simp (disch := first | exact Nat.ne_of_beq_eq_false rfl | exact rfl | omega) only [nI_add, xa_sub, xa_mul, pk_div, nm_mod, xa_shr, xa_and7, xa_and1, xa_and255, xa_by_and, nI_m1, Nat.add_sub_cancel, Nat.reducePow, Nat.zero_add, Nat.add_zero, Nat.reduceAdd, Nat.reduceMul, Nat.reduceSub, xf_same, xq_ff, xq_fo, xf_1, xf_2, xs_1, xs_2, xs_same, xq_so, xj_1, xj_2, xj_same, xq_jo, xq_sa1, xq_same, xq_other, upd_s, oI_n, oI_s, xf_32_2 hF, xf_22_3 hF, n1, v3, s5, lN_pl, xf_22_0 hF, v2]
  refine by_sw ?_
  refine xq_sw 127 (by decide) (by decide) ?_
  with_reducible refine xm_go_blk b_X4_endAt_127 k_X4_endAt_127 ?_
  refine by_iconst ci_0 ?_
  refine by_iret ry_81 (by first | rfl | assumption) ?_
  with_reducible refine xm_go_blk b_X4_follow_459 k_X4_follow_459 ?_
  refine by_iret ry_82 (by first | rfl | assumption) ?_
  exact Wk_0 (hno _ F1 f1)
/-- a child of CASE: worked, or hidden -/
def csP (sc : xm_Sc) (d pp df : Nat) (A : mc_A) (w : mc_W) (H0 : xm_H) (post : xm_Po) (n x k : Nat) (rx : (Nat → Bool) → Option mc_V) : Prop :=
  (Bg sc d pp df w H0 post x rx ∧ Lr w x rx ∧ k + w_s w x ≤ w_s w n ∧ w_t w n = w_t w x ∧ 1 + w_b w x ≤ w_b w n ∧ w_d w x ≤ w_d w n ∧ w_c w x ≤ w_c w n ∧ w_f w x ≤ w_f w n ∧ w_r w x < w_r w n) ∨ (mc_op A x = 11 ∧ cdN H0 A x ∧ (∀ u, rx u = none) ∧ w_r w n ≥ 1)
theorem bg_case1 {h h1 : xm_H} {n x k kk f t b g pc pf sp tn : Nat} {K : List mc_F} {rx : (Nat → Bool) → Option mc_V} (hF : XF h) (hf : Fr mcR mcT H0 h) (f1 : Fr mcR mcT h h1) (m1 : mB h1 = mB h) (N1 : mNd h1 x (f + k) t b g) (S1 : mSt h1 K pc pf (sp + 1)) (hx : csP sc d pp df A w H0 post n x k rx) (q1 : f + w_s w n ≤ b) (q2 : t + w_t w n ≤ b) (q3 : f + w_s w n ≤ t ∨ t + w_t w n ≤ f) (q4 : b + w_c w n ≤ 839680) (q5 : b ≤ pc) (q6 : g ≤ pf) (q7 : pc ≤ 839680) (q8 : pf ≤ 100000) (q8b : g + w_f w n ≤ 100000) (q9 : K.length + w_d w n ≤ 1600) (q10 : kk + w_r w n < 8000) (q11 : tn + w_b w n ≤ 1099511627776)
    (hyes : ∀ a s c e, rx (mc_sh (mc_sh (mB h) f) k) = some (a, s, c, e) → ∀ h' tn', tn' ≤ tn + w_b w n → XF h' → Fr mcR mcT H0 h' → mSt h' K (max pc (b + c)) (max pf (g + e)) (sp + (1 + s)) → (∀ i, i < w_t w n → mB h' (t + i) = a.getD i false) → (∀ i, i < b → (i < t ∨ t + w_t w n ≤ i) → mB h' i = mB h i) → Wk sc d pp df post tn' h')
    (hno : rx (mc_sh (mc_sh (mB h) f) k) = none → ∀ h', XF h' → Fr mcR mcT H0 h' → post (some (.int (nI 0))) h') : Fw sc d pp df post tn (kk + 1) h1 := by
  rcases hx with ⟨hx, lx, a1, a2, a3, a4, a5, a6, a12⟩ | ⟨hx, hcx, hr, a12⟩
  · refine bg_one (h := h) (n := n) (f := f) (f' := f + k) (wr := []) (Fr_tr hf f1 (fun _ z => z) (fun _ z => z)) (Fr_XF hF f1 mcT_fin) N1 S1 (by rw [mc_wr_nil]; exact m1) hx lx (by omega) (by omega) (by simp; omega) a3 a4 a5 a6 (by omega) q1 q2 q3 q4 q5 q6 q7 q8 q8b q9 q11 (fun a s c e hr h' tn' ht F' f' S' b' o' => ?_) (fun hr h' F' f' => ?_)
    · rw [← mc_sh_sh] at hr
      exact hyes a s c e hr h' tn' ht F' f' S' b' o'
    · rw [← mc_sh_sh] at hr
      exact hno hr h' F' f'
  · exact fw_fail (Fr_XF hF f1 mcT_fin) (Fr_tr hf f1 (fun _ z => z) (fun _ z => z)) hcx hx N1 S1 (by omega) (hno (hr _))
theorem mcn_1 (B : Nat → Bool) (p : Nat) : mc_n B p 1 = (B p).toNat := by simp [mc_n, mc_rd, bnum]
theorem lc_1 : (lg_cmp (lN 1) (lN 0) = 0) = False := eq_false (by decide)
theorem lc_0 : (lg_cmp (lN 0) (lN 0) = 0) = True := eq_true (by decide)
theorem bg_case {n x y kx ky : Nat} {rx ry : (Nat → Bool) → Option mc_V} (hc : cdN H0 A n) (he : mc_op A n = 1) (ex : mc_on A n = x) (ey : mc_tw A n = y) (ekx : mc_sk A n = kx) (eky : mc_ot A n = ky) (hx : csP sc d pp df A w H0 post n x kx rx) (hy : csP sc d pp df A w H0 post n y ky ry) (hs : 1 ≤ w_s w n) :
    Bg sc d pp df w H0 post n (fun u => match (if u 0 = false then rx (mc_sh u kx) else ry (mc_sh u ky)) with
      | some (a, s1, c1, g1) => some (a, 1 + s1, c1, g1)
      | none => none) := by
  intro h f t b g K pc pf sp tn kk hF hf hN hS q1 q2 q3 q4 q5 q6 q7 q8 q8b q9 q10 q11 hyes hno
  obtain ⟨v1, v2, v3, v4, v5, v6, v7, v8⟩ := cdN_fr hc hf
  have v5' := v5 (by omega)
  have v6' := v6 (by omega)
  rw [ex] at v5'
  rw [ey] at v6'
  rw [ekx] at v3 v7
  rw [eky] at v4 v8
  rw [he] at v2
  obtain ⟨n1, n2, n3, n4, n5⟩ := hN
  have s5 := hS.2.2.2.2
  obtain ⟨s1, s2, s3, s4, _⟩ := hS
  have f1 : Fr mcR mcT h (xm_sf h 32 16 (.long (lN (sp + 1)))) := Fr_sf Fr_rf (by simp [mcT])
  have F1 : XF (xm_sf h 32 16 (.long (lN (sp + 1)))) := Fr_XF hF f1 mcT_fin
  have eb : mB (xm_sf h 32 16 (.long (lN (sp + 1)))) = mB h := rfl
  unfold Fw
  with_reducible refine xm_go_blk b_X4_follow_2 k_X4_follow_2 ?_
  refine by_iload_n rfl ?_
  refine by_sipush cs_8000 ?_
  refine by_ic_ge 466 rfl ?_
  simp (disch := first | exact Nat.ne_of_beq_eq_false rfl | exact rfl | omega) only [nI_add, xa_sub, xa_mul, pk_div, nm_mod, xa_shr, xa_and7, xa_and1, xa_and255, xa_by_and, nI_m1, Nat.add_sub_cancel, Nat.reducePow, Nat.zero_add, Nat.add_zero, Nat.reduceAdd, Nat.reduceMul, Nat.reduceSub, xf_same, xq_ff, xq_fo, xf_1, xf_2, xs_1, xs_2, xs_same, xq_so, xj_1, xj_2, xj_same, xq_jo, xq_sa1, xq_same, xq_other, upd_s, oI_n, oI_s, xv_0, xv_1, xv_2, xv_3, xm_p1, xm_p2, xq_fp, xq_fn, List.filter_nil, Nat.reduceBEq, Bool.not_true, Bool.not_false, Bool.and_true, Bool.and_false, Bool.false_and, Bool.true_and, if_true, if_false, Bool.false_eq_true, reduceIte, xc_i, xc_j, xc_r, xc_n, List.nil_append, List.cons_append, Option.toList_some, Option.toList_none, nI_ltJ, nI_leJ, nI_eqJ, nI_ltz, nI_gez, nI_gtz, nI_lez, nI_eqz, m1_ltz, m1_gez, true_imp_iff, false_imp_iff, true_and, and_true, ne_eq, not_false_eq_true, not_true_eq_false, Nat.reduceEqDiff, Nat.reduceLT, Nat.reduceLeDiff, xf_32_2 hF, xf_22_3 hF, n1, v3, s5, lN_pl, xf_22_0 hF, v2, n2]
  refine ⟨fun c => absurd c (by omega), fun c2 => ?_⟩
  with_reducible refine xm_go_blk b_X4_follow_9 k_X4_follow_9 ?_
  refine by_aload_n rfl ?_
  refine by_getf cn_82 fl_4_38 (by first | exact rfl | assumption) (by decide) ?_
  simp (disch := first | exact Nat.ne_of_beq_eq_false rfl | exact rfl | omega) only [nI_add, xa_sub, xa_mul, pk_div, nm_mod, xa_shr, xa_and7, xa_and1, xa_and255, xa_by_and, nI_m1, Nat.add_sub_cancel, Nat.reducePow, Nat.zero_add, Nat.add_zero, Nat.reduceAdd, Nat.reduceMul, Nat.reduceSub, xf_same, xq_ff, xq_fo, xf_1, xf_2, xs_1, xs_2, xs_same, xq_so, xj_1, xj_2, xj_same, xq_jo, xq_sa1, xq_same, xq_other, upd_s, oI_n, oI_s, xf_32_2 hF, xf_22_3 hF, n1, v3, s5, lN_pl, xf_22_0 hF, v2, n2]
  refine by_getf cn_82 fl_4_129 (by first | exact rfl | assumption) (by decide) ?_
  refine by_aload_n rfl ?_
  refine by_getf cn_82 fl_4_110 (by first | exact rfl | assumption) (by decide) ?_
  simp (disch := first | exact Nat.ne_of_beq_eq_false rfl | exact rfl | omega) only [nI_add, xa_sub, xa_mul, pk_div, nm_mod, xa_shr, xa_and7, xa_and1, xa_and255, xa_by_and, nI_m1, Nat.add_sub_cancel, Nat.reducePow, Nat.zero_add, Nat.add_zero, Nat.reduceAdd, Nat.reduceMul, Nat.reduceSub, xf_same, xq_ff, xq_fo, xf_1, xf_2, xs_1, xs_2, xs_same, xq_so, xj_1, xj_2, xj_same, xq_jo, xq_sa1, xq_same, xq_other, upd_s, oI_n, oI_s, xf_32_2 hF, xf_22_3 hF, n1, v3, s5, lN_pl, xf_22_0 hF, v2, n2]
  first | refine by_iald (by first | exact rfl | assumption | exact ps_1 hpp | exact ps_2 hpp | exact ps_3 hpp | exact ps_4 hpp | exact ps_5 hpp | exact ps_6 hpp | exact ps_7 hpp | exact ps_8 hpp | exact ps_9 hpp | exact ps_10 hpp | exact ps_11 hpp | exact ps_15 hpp | exact ps_16 hpp | exact ps_17 hpp | exact ps_18 hpp | exact ps_19 hpp | exact ps_21 hpp | exact ps_22 hpp | exact ps_23 hpp | exact ps_24 hpp) ⟨by omega, by omega⟩ ?_ | refine by_tald rfl rfl ⟨by omega, by omega⟩ ?_
  refine by_istore (by rw [ml_82]; decide) ?_
  refine by_aload_n rfl ?_
  refine by_dup rfl ?_
  refine by_getf cn_82 fl_4_42 (by first | exact rfl | assumption) (by decide) ?_
  refine by_lconst cl_1 ?_
  simp (disch := first | exact Nat.ne_of_beq_eq_false rfl | exact rfl | omega) only [nI_add, xa_sub, xa_mul, pk_div, nm_mod, xa_shr, xa_and7, xa_and1, xa_and255, xa_by_and, nI_m1, Nat.add_sub_cancel, Nat.reducePow, Nat.zero_add, Nat.add_zero, Nat.reduceAdd, Nat.reduceMul, Nat.reduceSub, xf_same, xq_ff, xq_fo, xf_1, xf_2, xs_1, xs_2, xs_same, xq_so, xj_1, xj_2, xj_same, xq_jo, xq_sa1, xq_same, xq_other, upd_s, oI_n, oI_s, xf_32_2 hF, xf_22_3 hF, n1, v3, s5, lN_pl, xf_22_0 hF, v2, n2]
  refine by_ladd ?_
  refine by_putf cn_82 fl_4_42 (by first | exact rfl | assumption) (by decide) nf_4_16 ft_4_16 (by first | rfl | assumption) (by first | rfl | assumption) ?_
  refine by_aload_n rfl ?_
  refine by_getf cn_82 fl_4_38 (by first | exact rfl | assumption) (by decide) ?_
  simp (disch := first | exact Nat.ne_of_beq_eq_false rfl | exact rfl | omega) only [nI_add, xa_sub, xa_mul, pk_div, nm_mod, xa_shr, xa_and7, xa_and1, xa_and255, xa_by_and, nI_m1, Nat.add_sub_cancel, Nat.reducePow, Nat.zero_add, Nat.add_zero, Nat.reduceAdd, Nat.reduceMul, Nat.reduceSub, xf_same, xq_ff, xq_fo, xf_1, xf_2, xs_1, xs_2, xs_same, xq_so, xj_1, xj_2, xj_same, xq_jo, xq_sa1, xq_same, xq_other, upd_s, oI_n, oI_s, xf_32_2 hF, xf_22_3 hF, n1, v3, s5, lN_pl, xf_22_0 hF, v2, n2]
  refine by_getf cn_82 fl_4_132 (by first | exact rfl | assumption) (by decide) ?_
  refine by_aload_n rfl ?_
  refine by_getf cn_82 fl_4_110 (by first | exact rfl | assumption) (by decide) ?_
  simp (disch := first | exact Nat.ne_of_beq_eq_false rfl | exact rfl | omega) only [nI_add, xa_sub, xa_mul, pk_div, nm_mod, xa_shr, xa_and7, xa_and1, xa_and255, xa_by_and, nI_m1, Nat.add_sub_cancel, Nat.reducePow, Nat.zero_add, Nat.add_zero, Nat.reduceAdd, Nat.reduceMul, Nat.reduceSub, xf_same, xq_ff, xq_fo, xf_1, xf_2, xs_1, xs_2, xs_same, xq_so, xj_1, xj_2, xj_same, xq_jo, xq_sa1, xq_same, xq_other, upd_s, oI_n, oI_s, xf_32_2 hF, xf_22_3 hF, n1, v3, s5, lN_pl, xf_22_0 hF, v2, n2]
  first | refine by_iald (by first | exact rfl | assumption | exact ps_1 hpp | exact ps_2 hpp | exact ps_3 hpp | exact ps_4 hpp | exact ps_5 hpp | exact ps_6 hpp | exact ps_7 hpp | exact ps_8 hpp | exact ps_9 hpp | exact ps_10 hpp | exact ps_11 hpp | exact ps_15 hpp | exact ps_16 hpp | exact ps_17 hpp | exact ps_18 hpp | exact ps_19 hpp | exact ps_21 hpp | exact ps_22 hpp | exact ps_23 hpp | exact ps_24 hpp) ⟨by omega, by omega⟩ ?_ | refine by_tald rfl rfl ⟨by omega, by omega⟩ ?_
  simp (disch := first | exact Nat.ne_of_beq_eq_false rfl | exact rfl | omega) only [nI_add, xa_sub, xa_mul, pk_div, nm_mod, xa_shr, xa_and7, xa_and1, xa_and255, xa_by_and, nI_m1, Nat.add_sub_cancel, Nat.reducePow, Nat.zero_add, Nat.add_zero, Nat.reduceAdd, Nat.reduceMul, Nat.reduceSub, xf_same, xq_ff, xq_fo, xf_1, xf_2, xs_1, xs_2, xs_same, xq_so, xj_1, xj_2, xj_same, xq_jo, xq_sa1, xq_same, xq_other, upd_s, oI_n, oI_s, xf_32_2 hF, xf_22_3 hF, n1, v3, s5, lN_pl, xf_22_0 hF, v2, n2]
  refine by_sw ?_
  simp (disch := first | exact Nat.ne_of_beq_eq_false rfl | exact rfl | omega) only [nI_add, xa_sub, xa_mul, pk_div, nm_mod, xa_shr, xa_and7, xa_and1, xa_and255, xa_by_and, nI_m1, Nat.add_sub_cancel, Nat.reducePow, Nat.zero_add, Nat.add_zero, Nat.reduceAdd, Nat.reduceMul, Nat.reduceSub, xf_same, xq_ff, xq_fo, xf_1, xf_2, xs_1, xs_2, xs_same, xq_so, xj_1, xj_2, xj_same, xq_jo, xq_sa1, xq_same, xq_other, upd_s, oI_n, oI_s, xv_0, xv_1, xv_2, xv_3, xm_p1, xm_p2, xq_fp, xq_fn, List.filter_nil, Nat.reduceBEq, Bool.not_true, Bool.not_false, Bool.and_true, Bool.and_false, Bool.false_and, Bool.true_and, if_true, if_false, Bool.false_eq_true, reduceIte, xc_i, xc_j, xc_r, xc_n, List.nil_append, List.cons_append, Option.toList_some, Option.toList_none, xf_32_2 hF, xf_22_3 hF, n1, v3, s5, lN_pl, xf_22_0 hF, v2, n2]
  refine xq_sw 121 (by decide) (by decide) ?_
  with_reducible refine xm_go_blk b_X4_follow_121 k_X4_follow_121 ?_
  refine by_aload_n rfl ?_
  refine by_aload_n rfl ?_
  refine by_getf cn_82 fl_4_59 (by first | exact rfl | assumption) (by decide) ?_
  refine by_iconst ci_1 ?_
  simp (disch := first | exact Nat.ne_of_beq_eq_false rfl | exact rfl | omega) only [nI_add, xa_sub, xa_mul, pk_div, nm_mod, xa_shr, xa_and7, xa_and1, xa_and255, xa_by_and, nI_m1, Nat.add_sub_cancel, Nat.reducePow, Nat.zero_add, Nat.add_zero, Nat.reduceAdd, Nat.reduceMul, Nat.reduceSub, xf_same, xq_ff, xq_fo, xf_1, xf_2, xs_1, xs_2, xs_same, xq_so, xj_1, xj_2, xj_same, xq_jo, xq_sa1, xq_same, xq_other, upd_s, oI_n, oI_s, xv_0, xv_1, xv_2, xv_3, xm_p1, xm_p2, xq_fp, xq_fn, List.filter_nil, Nat.reduceBEq, Bool.not_true, Bool.not_false, Bool.and_true, Bool.and_false, Bool.false_and, Bool.true_and, if_true, if_false, Bool.false_eq_true, reduceIte, xc_i, xc_j, xc_r, xc_n, List.nil_append, List.cons_append, Option.toList_some, Option.toList_none, xf_32_2 hF, xf_22_3 hF, n1, v3, s5, lN_pl, xf_22_0 hF, v2, n2]
  refine by_inv2 cn_82 lk_4_62 (by rw [xe_cnt]; decide) is_83 np_83 cn_83 (by first | exact rfl | assumption) (Nat.le_of_ble_eq_true rfl) ?_
  refine sp_get F1 (by decide) (by decide) (by omega) ?_
  rw [mcn_1, eb]
  cases hb : mB h f with
  | false =>
    have eu : mc_sh (mB h) f 0 = false := hb
    rw [Bool.toNat_false]
    with_reducible refine xm_go_blk b_X4_follow_130 k_X4_follow_130 ?_
    refine by_lconst cl_0 ?_
    refine by_lcmp ?_
    refine by_if_ne 139 rfl ?_
    simp (disch := first | exact Nat.ne_of_beq_eq_false rfl | exact rfl | omega) only [nI_add, xa_sub, xa_mul, pk_div, nm_mod, xa_shr, xa_and7, xa_and1, xa_and255, xa_by_and, nI_m1, Nat.add_sub_cancel, Nat.reducePow, Nat.zero_add, Nat.add_zero, Nat.reduceAdd, Nat.reduceMul, Nat.reduceSub, xf_same, xq_ff, xq_fo, xf_1, xf_2, xs_1, xs_2, xs_same, xq_so, xj_1, xj_2, xj_same, xq_jo, xq_sa1, xq_same, xq_other, upd_s, oI_n, oI_s, xv_0, xv_1, xv_2, xv_3, xm_p1, xm_p2, xq_fp, xq_fn, List.filter_nil, Nat.reduceBEq, Bool.not_true, Bool.not_false, Bool.and_true, Bool.and_false, Bool.false_and, Bool.true_and, if_true, if_false, Bool.false_eq_true, reduceIte, xc_i, xc_j, xc_r, xc_n, List.nil_append, List.cons_append, Option.toList_some, Option.toList_none, nI_ltJ, nI_leJ, nI_eqJ, nI_ltz, nI_gez, nI_gtz, nI_lez, nI_eqz, m1_ltz, m1_gez, true_imp_iff, false_imp_iff, true_and, and_true, ne_eq, not_false_eq_true, not_true_eq_false, Nat.reduceEqDiff, Nat.reduceLT, Nat.reduceLeDiff, lc_0, n2, xf_32_2 hF, xf_22_1 hF, n1, v5']
    with_reducible refine xm_go_blk b_X4_follow_135 k_X4_follow_135 ?_
    refine by_iconst ci_1 ?_
    refine by_goto 140 rfl ?_
    with_reducible refine xm_go_blk b_X4_follow_140 k_X4_follow_140 ?_
    refine by_istore (by rw [ml_82]; decide) ?_
    refine by_aload_n rfl ?_
    refine by_dup rfl ?_
    refine by_getf cn_82 fl_4_59 (by first | exact rfl | assumption) (by decide) ?_
    refine by_iload rfl ?_
    refine by_if_eq 157 rfl ?_
    simp (disch := first | exact Nat.ne_of_beq_eq_false rfl | exact rfl | omega) only [nI_add, xa_sub, xa_mul, pk_div, nm_mod, xa_shr, xa_and7, xa_and1, xa_and255, xa_by_and, nI_m1, Nat.add_sub_cancel, Nat.reducePow, Nat.zero_add, Nat.add_zero, Nat.reduceAdd, Nat.reduceMul, Nat.reduceSub, xf_same, xq_ff, xq_fo, xf_1, xf_2, xs_1, xs_2, xs_same, xq_so, xj_1, xj_2, xj_same, xq_jo, xq_sa1, xq_same, xq_other, upd_s, oI_n, oI_s, xv_0, xv_1, xv_2, xv_3, xm_p1, xm_p2, xq_fp, xq_fn, List.filter_nil, Nat.reduceBEq, Bool.not_true, Bool.not_false, Bool.and_true, Bool.and_false, Bool.false_and, Bool.true_and, if_true, if_false, Bool.false_eq_true, reduceIte, xc_i, xc_j, xc_r, xc_n, List.nil_append, List.cons_append, Option.toList_some, Option.toList_none, nI_ltJ, nI_leJ, nI_eqJ, nI_ltz, nI_gez, nI_gtz, nI_lez, nI_eqz, m1_ltz, m1_gez, true_imp_iff, false_imp_iff, true_and, and_true, ne_eq, not_false_eq_true, not_true_eq_false, Nat.reduceEqDiff, Nat.reduceLT, Nat.reduceLeDiff, lc_0, n2, xf_32_2 hF, xf_22_1 hF, n1, v5']
    with_reducible refine xm_go_blk b_X4_follow_152 k_X4_follow_152 ?_
    refine by_iload rfl ?_
    refine by_goto 169 rfl ?_
    with_reducible refine xm_go_blk b_X4_follow_169 k_X4_follow_169 ?_
    refine by_iadd ?_
    refine by_putf cn_82 fl_4_59 (by first | exact rfl | assumption) (by decide) nf_4_12 ft_4_12 (by first | rfl | assumption) (by first | rfl | assumption) ?_
    refine by_aload_n rfl ?_
    refine by_iload rfl ?_
    refine by_if_eq 194 rfl ?_
    simp (disch := first | exact Nat.ne_of_beq_eq_false rfl | exact rfl | omega) only [nI_add, xa_sub, xa_mul, pk_div, nm_mod, xa_shr, xa_and7, xa_and1, xa_and255, xa_by_and, nI_m1, Nat.add_sub_cancel, Nat.reducePow, Nat.zero_add, Nat.add_zero, Nat.reduceAdd, Nat.reduceMul, Nat.reduceSub, xf_same, xq_ff, xq_fo, xf_1, xf_2, xs_1, xs_2, xs_same, xq_so, xj_1, xj_2, xj_same, xq_jo, xq_sa1, xq_same, xq_other, upd_s, oI_n, oI_s, xv_0, xv_1, xv_2, xv_3, xm_p1, xm_p2, xq_fp, xq_fn, List.filter_nil, Nat.reduceBEq, Bool.not_true, Bool.not_false, Bool.and_true, Bool.and_false, Bool.false_and, Bool.true_and, if_true, if_false, Bool.false_eq_true, reduceIte, xc_i, xc_j, xc_r, xc_n, List.nil_append, List.cons_append, Option.toList_some, Option.toList_none, nI_ltJ, nI_leJ, nI_eqJ, nI_ltz, nI_gez, nI_gtz, nI_lez, nI_eqz, m1_ltz, m1_gez, true_imp_iff, false_imp_iff, true_and, and_true, ne_eq, not_false_eq_true, not_true_eq_false, Nat.reduceEqDiff, Nat.reduceLT, Nat.reduceLeDiff, lc_0, n2, xf_32_2 hF, xf_22_1 hF, n1, v5']
    with_reducible refine xm_go_blk b_X4_follow_179 k_X4_follow_179 ?_
    refine by_aload_n rfl ?_
    refine by_getf cn_82 fl_4_38 (by first | exact rfl | assumption) (by decide) ?_
    simp (disch := first | exact Nat.ne_of_beq_eq_false rfl | exact rfl | omega) only [nI_add, xa_sub, xa_mul, pk_div, nm_mod, xa_shr, xa_and7, xa_and1, xa_and255, xa_by_and, nI_m1, Nat.add_sub_cancel, Nat.reducePow, Nat.zero_add, Nat.add_zero, Nat.reduceAdd, Nat.reduceMul, Nat.reduceSub, xf_same, xq_ff, xq_fo, xf_1, xf_2, xs_1, xs_2, xs_same, xq_so, xj_1, xj_2, xj_same, xq_jo, xq_sa1, xq_same, xq_other, upd_s, oI_n, oI_s, lc_0, n2, xf_32_2 hF, xf_22_1 hF, n1, v5']
    refine by_getf cn_82 fl_4_142 (by first | exact rfl | assumption) (by decide) ?_
    refine by_aload_n rfl ?_
    refine by_getf cn_82 fl_4_110 (by first | exact rfl | assumption) (by decide) ?_
    simp (disch := first | exact Nat.ne_of_beq_eq_false rfl | exact rfl | omega) only [nI_add, xa_sub, xa_mul, pk_div, nm_mod, xa_shr, xa_and7, xa_and1, xa_and255, xa_by_and, nI_m1, Nat.add_sub_cancel, Nat.reducePow, Nat.zero_add, Nat.add_zero, Nat.reduceAdd, Nat.reduceMul, Nat.reduceSub, xf_same, xq_ff, xq_fo, xf_1, xf_2, xs_1, xs_2, xs_same, xq_so, xj_1, xj_2, xj_same, xq_jo, xq_sa1, xq_same, xq_other, upd_s, oI_n, oI_s, lc_0, n2, xf_32_2 hF, xf_22_1 hF, n1, v5']
    first | refine by_iald (by first | exact rfl | assumption | exact ps_1 hpp | exact ps_2 hpp | exact ps_3 hpp | exact ps_4 hpp | exact ps_5 hpp | exact ps_6 hpp | exact ps_7 hpp | exact ps_8 hpp | exact ps_9 hpp | exact ps_10 hpp | exact ps_11 hpp | exact ps_15 hpp | exact ps_16 hpp | exact ps_17 hpp | exact ps_18 hpp | exact ps_19 hpp | exact ps_21 hpp | exact ps_22 hpp | exact ps_23 hpp | exact ps_24 hpp) ⟨by omega, by omega⟩ ?_ | refine by_tald rfl rfl ⟨by omega, by omega⟩ ?_
    refine by_goto 206 rfl ?_
    try simp (disch := first | exact Nat.ne_of_beq_eq_false rfl | exact rfl | omega) only [nI_add, xa_sub, xa_mul, pk_div, nm_mod, xa_shr, xa_and7, xa_and1, xa_and255, xa_by_and, nI_m1, Nat.add_sub_cancel, Nat.reducePow, Nat.zero_add, Nat.add_zero, Nat.reduceAdd, Nat.reduceMul, Nat.reduceSub, xf_same, xq_ff, xq_fo, xf_1, xf_2, xs_1, xs_2, xs_same, xq_so, xj_1, xj_2, xj_same, xq_jo, xq_sa1, xq_same, xq_other, upd_s, oI_n, oI_s, xv_0, xv_1, xv_2, xv_3, xm_p1, xm_p2, xq_fp, xq_fn, List.filter_nil, Nat.reduceBEq, Bool.not_true, Bool.not_false, Bool.and_true, Bool.and_false, Bool.false_and, Bool.true_and, if_true, if_false, Bool.false_eq_true, reduceIte, xc_i, xc_j, xc_r, xc_n, List.nil_append, List.cons_append, Option.toList_some, Option.toList_none, lc_0, n2, xf_32_2 hF, xf_22_1 hF, n1, v5']
    with_reducible refine xm_go_blk b_X4_follow_206 k_X4_follow_206 ?_
    refine by_putf cn_82 fl_4_110 (by first | exact rfl | assumption) (by decide) nf_4_11 ft_4_11 (by first | rfl | assumption) (by first | rfl | assumption) ?_
    refine by_goto 460 rfl ?_
    with_reducible refine xm_go_blk b_X4_follow_460 k_X4_follow_460 ?_
    refine by_iinc (by rw [ml_82]; decide) rfl ci_1 ?_
    refine by_goto 2 rfl ?_
    try simp (disch := first | exact Nat.ne_of_beq_eq_false rfl | exact rfl | omega) only [nI_add, xa_sub, xa_mul, pk_div, nm_mod, xa_shr, xa_and7, xa_and1, xa_and255, xa_by_and, nI_m1, Nat.add_sub_cancel, Nat.reducePow, Nat.zero_add, Nat.add_zero, Nat.reduceAdd, Nat.reduceMul, Nat.reduceSub, xf_same, xq_ff, xq_fo, xf_1, xf_2, xs_1, xs_2, xs_same, xq_so, xj_1, xj_2, xj_same, xq_jo, xq_sa1, xq_same, xq_other, upd_s, oI_n, oI_s, xv_0, xv_1, xv_2, xv_3, xm_p1, xm_p2, xq_fp, xq_fn, List.filter_nil, Nat.reduceBEq, Bool.not_true, Bool.not_false, Bool.and_true, Bool.and_false, Bool.false_and, Bool.true_and, if_true, if_false, Bool.false_eq_true, reduceIte, xc_i, xc_j, xc_r, xc_n, List.nil_append, List.cons_append, Option.toList_some, Option.toList_none, lc_0, n2, xf_32_2 hF, xf_22_1 hF, n1, v5']
    refine xm_go_wk (by simp [Value.category]) (bg_case1 (h := h) (n := n) (x := x) (k := kx) (f := f) (sp := sp) hF hf (Fr_sf (Fr_sf (Fr_sf Fr_rf (by simp [mcT])) (by simp [mcT])) (by simp [mcT])) rfl ⟨by simp [xm_sf, updV], by simp [xm_sf, updV], by rw [← n3]; simp [xm_sf, updV], by rw [← n4]; simp [xm_sf, updV], by rw [← n5]; simp [xm_sf, updV]⟩ ⟨by rw [← s1]; simp [xm_sf, updV], wtS_o s2 (fun _ _ => ⟨rfl, rfl, rfl, rfl, rfl⟩), by rw [← s3]; simp [xm_sf, updV], by rw [← s4]; simp [xm_sf, updV], by simp [xm_sf, updV]⟩ hx q1 q2 q3 q4 q5 q6 q7 q8 q8b q9 q10 q11 (fun a s c e hr h' tn' ht F' f' S' b' o' => ?_) (fun hr h' F' f' => ?_))
    · exact hyes a (1 + s) c e (by simp only [eu, if_true, hr]) h' tn' ht F' f' S' b' o'
    · exact hno (by simp only [eu, if_true, hr]) h' F' f'
  | true =>
    have eu : ¬ mc_sh (mB h) f 0 = false := by show ¬ mB h (f + 0) = false; rw [Nat.add_zero, hb]; decide
    rw [Bool.toNat_true]
    with_reducible refine xm_go_blk b_X4_follow_130 k_X4_follow_130 ?_
    refine by_lconst cl_0 ?_
    refine by_lcmp ?_
    refine by_if_ne 139 rfl ?_
    simp (disch := first | exact Nat.ne_of_beq_eq_false rfl | exact rfl | omega) only [nI_add, xa_sub, xa_mul, pk_div, nm_mod, xa_shr, xa_and7, xa_and1, xa_and255, xa_by_and, nI_m1, Nat.add_sub_cancel, Nat.reducePow, Nat.zero_add, Nat.add_zero, Nat.reduceAdd, Nat.reduceMul, Nat.reduceSub, xf_same, xq_ff, xq_fo, xf_1, xf_2, xs_1, xs_2, xs_same, xq_so, xj_1, xj_2, xj_same, xq_jo, xq_sa1, xq_same, xq_other, upd_s, oI_n, oI_s, xv_0, xv_1, xv_2, xv_3, xm_p1, xm_p2, xq_fp, xq_fn, List.filter_nil, Nat.reduceBEq, Bool.not_true, Bool.not_false, Bool.and_true, Bool.and_false, Bool.false_and, Bool.true_and, if_true, if_false, Bool.false_eq_true, reduceIte, xc_i, xc_j, xc_r, xc_n, List.nil_append, List.cons_append, Option.toList_some, Option.toList_none, nI_ltJ, nI_leJ, nI_eqJ, nI_ltz, nI_gez, nI_gtz, nI_lez, nI_eqz, m1_ltz, m1_gez, true_imp_iff, false_imp_iff, true_and, and_true, ne_eq, not_false_eq_true, not_true_eq_false, Nat.reduceEqDiff, Nat.reduceLT, Nat.reduceLeDiff, lc_1, n2, xf_32_2 hF, xf_22_4 hF, n1, v4, xf_22_2 hF, v6']
    with_reducible refine xm_go_blk b_X4_follow_139 k_X4_follow_139 ?_
    refine by_iconst ci_0 ?_
    refine by_nil ?_
    with_reducible refine xm_go_blk b_X4_follow_140 k_X4_follow_140 ?_
    refine by_istore (by rw [ml_82]; decide) ?_
    refine by_aload_n rfl ?_
    refine by_dup rfl ?_
    refine by_getf cn_82 fl_4_59 (by first | exact rfl | assumption) (by decide) ?_
    refine by_iload rfl ?_
    refine by_if_eq 157 rfl ?_
    simp (disch := first | exact Nat.ne_of_beq_eq_false rfl | exact rfl | omega) only [nI_add, xa_sub, xa_mul, pk_div, nm_mod, xa_shr, xa_and7, xa_and1, xa_and255, xa_by_and, nI_m1, Nat.add_sub_cancel, Nat.reducePow, Nat.zero_add, Nat.add_zero, Nat.reduceAdd, Nat.reduceMul, Nat.reduceSub, xf_same, xq_ff, xq_fo, xf_1, xf_2, xs_1, xs_2, xs_same, xq_so, xj_1, xj_2, xj_same, xq_jo, xq_sa1, xq_same, xq_other, upd_s, oI_n, oI_s, xv_0, xv_1, xv_2, xv_3, xm_p1, xm_p2, xq_fp, xq_fn, List.filter_nil, Nat.reduceBEq, Bool.not_true, Bool.not_false, Bool.and_true, Bool.and_false, Bool.false_and, Bool.true_and, if_true, if_false, Bool.false_eq_true, reduceIte, xc_i, xc_j, xc_r, xc_n, List.nil_append, List.cons_append, Option.toList_some, Option.toList_none, nI_ltJ, nI_leJ, nI_eqJ, nI_ltz, nI_gez, nI_gtz, nI_lez, nI_eqz, m1_ltz, m1_gez, true_imp_iff, false_imp_iff, true_and, and_true, ne_eq, not_false_eq_true, not_true_eq_false, Nat.reduceEqDiff, Nat.reduceLT, Nat.reduceLeDiff, lc_1, n2, xf_32_2 hF, xf_22_4 hF, n1, v4, xf_22_2 hF, v6']
    with_reducible refine xm_go_blk b_X4_follow_157 k_X4_follow_157 ?_
    refine by_aload_n rfl ?_
    refine by_getf cn_82 fl_4_38 (by first | exact rfl | assumption) (by decide) ?_
    simp (disch := first | exact Nat.ne_of_beq_eq_false rfl | exact rfl | omega) only [nI_add, xa_sub, xa_mul, pk_div, nm_mod, xa_shr, xa_and7, xa_and1, xa_and255, xa_by_and, nI_m1, Nat.add_sub_cancel, Nat.reducePow, Nat.zero_add, Nat.add_zero, Nat.reduceAdd, Nat.reduceMul, Nat.reduceSub, xf_same, xq_ff, xq_fo, xf_1, xf_2, xs_1, xs_2, xs_same, xq_so, xj_1, xj_2, xj_same, xq_jo, xq_sa1, xq_same, xq_other, upd_s, oI_n, oI_s, lc_1, n2, xf_32_2 hF, xf_22_4 hF, n1, v4, xf_22_2 hF, v6']
    refine by_getf cn_82 fl_4_139 (by first | exact rfl | assumption) (by decide) ?_
    refine by_aload_n rfl ?_
    refine by_getf cn_82 fl_4_110 (by first | exact rfl | assumption) (by decide) ?_
    simp (disch := first | exact Nat.ne_of_beq_eq_false rfl | exact rfl | omega) only [nI_add, xa_sub, xa_mul, pk_div, nm_mod, xa_shr, xa_and7, xa_and1, xa_and255, xa_by_and, nI_m1, Nat.add_sub_cancel, Nat.reducePow, Nat.zero_add, Nat.add_zero, Nat.reduceAdd, Nat.reduceMul, Nat.reduceSub, xf_same, xq_ff, xq_fo, xf_1, xf_2, xs_1, xs_2, xs_same, xq_so, xj_1, xj_2, xj_same, xq_jo, xq_sa1, xq_same, xq_other, upd_s, oI_n, oI_s, lc_1, n2, xf_32_2 hF, xf_22_4 hF, n1, v4, xf_22_2 hF, v6']
    first | refine by_iald (by first | exact rfl | assumption | exact ps_1 hpp | exact ps_2 hpp | exact ps_3 hpp | exact ps_4 hpp | exact ps_5 hpp | exact ps_6 hpp | exact ps_7 hpp | exact ps_8 hpp | exact ps_9 hpp | exact ps_10 hpp | exact ps_11 hpp | exact ps_15 hpp | exact ps_16 hpp | exact ps_17 hpp | exact ps_18 hpp | exact ps_19 hpp | exact ps_21 hpp | exact ps_22 hpp | exact ps_23 hpp | exact ps_24 hpp) ⟨by omega, by omega⟩ ?_ | refine by_tald rfl rfl ⟨by omega, by omega⟩ ?_
    refine by_nil ?_
    try simp (disch := first | exact Nat.ne_of_beq_eq_false rfl | exact rfl | omega) only [nI_add, xa_sub, xa_mul, pk_div, nm_mod, xa_shr, xa_and7, xa_and1, xa_and255, xa_by_and, nI_m1, Nat.add_sub_cancel, Nat.reducePow, Nat.zero_add, Nat.add_zero, Nat.reduceAdd, Nat.reduceMul, Nat.reduceSub, xf_same, xq_ff, xq_fo, xf_1, xf_2, xs_1, xs_2, xs_same, xq_so, xj_1, xj_2, xj_same, xq_jo, xq_sa1, xq_same, xq_other, upd_s, oI_n, oI_s, xv_0, xv_1, xv_2, xv_3, xm_p1, xm_p2, xq_fp, xq_fn, List.filter_nil, Nat.reduceBEq, Bool.not_true, Bool.not_false, Bool.and_true, Bool.and_false, Bool.false_and, Bool.true_and, if_true, if_false, Bool.false_eq_true, reduceIte, xc_i, xc_j, xc_r, xc_n, List.nil_append, List.cons_append, Option.toList_some, Option.toList_none, lc_1, n2, xf_32_2 hF, xf_22_4 hF, n1, v4, xf_22_2 hF, v6']
    with_reducible refine xm_go_blk b_X4_follow_169 k_X4_follow_169 ?_
    refine by_iadd ?_
    refine by_putf cn_82 fl_4_59 (by first | exact rfl | assumption) (by decide) nf_4_12 ft_4_12 (by first | rfl | assumption) (by first | rfl | assumption) ?_
    refine by_aload_n rfl ?_
    refine by_iload rfl ?_
    refine by_if_eq 194 rfl ?_
    simp (disch := first | exact Nat.ne_of_beq_eq_false rfl | exact rfl | omega) only [nI_add, xa_sub, xa_mul, pk_div, nm_mod, xa_shr, xa_and7, xa_and1, xa_and255, xa_by_and, nI_m1, Nat.add_sub_cancel, Nat.reducePow, Nat.zero_add, Nat.add_zero, Nat.reduceAdd, Nat.reduceMul, Nat.reduceSub, xf_same, xq_ff, xq_fo, xf_1, xf_2, xs_1, xs_2, xs_same, xq_so, xj_1, xj_2, xj_same, xq_jo, xq_sa1, xq_same, xq_other, upd_s, oI_n, oI_s, xv_0, xv_1, xv_2, xv_3, xm_p1, xm_p2, xq_fp, xq_fn, List.filter_nil, Nat.reduceBEq, Bool.not_true, Bool.not_false, Bool.and_true, Bool.and_false, Bool.false_and, Bool.true_and, if_true, if_false, Bool.false_eq_true, reduceIte, xc_i, xc_j, xc_r, xc_n, List.nil_append, List.cons_append, Option.toList_some, Option.toList_none, nI_ltJ, nI_leJ, nI_eqJ, nI_ltz, nI_gez, nI_gtz, nI_lez, nI_eqz, m1_ltz, m1_gez, true_imp_iff, false_imp_iff, true_and, and_true, ne_eq, not_false_eq_true, not_true_eq_false, Nat.reduceEqDiff, Nat.reduceLT, Nat.reduceLeDiff, lc_1, n2, xf_32_2 hF, xf_22_4 hF, n1, v4, xf_22_2 hF, v6']
    with_reducible refine xm_go_blk b_X4_follow_194 k_X4_follow_194 ?_
    refine by_aload_n rfl ?_
    refine by_getf cn_82 fl_4_38 (by first | exact rfl | assumption) (by decide) ?_
    simp (disch := first | exact Nat.ne_of_beq_eq_false rfl | exact rfl | omega) only [nI_add, xa_sub, xa_mul, pk_div, nm_mod, xa_shr, xa_and7, xa_and1, xa_and255, xa_by_and, nI_m1, Nat.add_sub_cancel, Nat.reducePow, Nat.zero_add, Nat.add_zero, Nat.reduceAdd, Nat.reduceMul, Nat.reduceSub, xf_same, xq_ff, xq_fo, xf_1, xf_2, xs_1, xs_2, xs_same, xq_so, xj_1, xj_2, xj_same, xq_jo, xq_sa1, xq_same, xq_other, upd_s, oI_n, oI_s, lc_1, n2, xf_32_2 hF, xf_22_4 hF, n1, v4, xf_22_2 hF, v6']
    refine by_getf cn_82 fl_4_145 (by first | exact rfl | assumption) (by decide) ?_
    refine by_aload_n rfl ?_
    refine by_getf cn_82 fl_4_110 (by first | exact rfl | assumption) (by decide) ?_
    simp (disch := first | exact Nat.ne_of_beq_eq_false rfl | exact rfl | omega) only [nI_add, xa_sub, xa_mul, pk_div, nm_mod, xa_shr, xa_and7, xa_and1, xa_and255, xa_by_and, nI_m1, Nat.add_sub_cancel, Nat.reducePow, Nat.zero_add, Nat.add_zero, Nat.reduceAdd, Nat.reduceMul, Nat.reduceSub, xf_same, xq_ff, xq_fo, xf_1, xf_2, xs_1, xs_2, xs_same, xq_so, xj_1, xj_2, xj_same, xq_jo, xq_sa1, xq_same, xq_other, upd_s, oI_n, oI_s, lc_1, n2, xf_32_2 hF, xf_22_4 hF, n1, v4, xf_22_2 hF, v6']
    first | refine by_iald (by first | exact rfl | assumption | exact ps_1 hpp | exact ps_2 hpp | exact ps_3 hpp | exact ps_4 hpp | exact ps_5 hpp | exact ps_6 hpp | exact ps_7 hpp | exact ps_8 hpp | exact ps_9 hpp | exact ps_10 hpp | exact ps_11 hpp | exact ps_15 hpp | exact ps_16 hpp | exact ps_17 hpp | exact ps_18 hpp | exact ps_19 hpp | exact ps_21 hpp | exact ps_22 hpp | exact ps_23 hpp | exact ps_24 hpp) ⟨by omega, by omega⟩ ?_ | refine by_tald rfl rfl ⟨by omega, by omega⟩ ?_
    refine by_nil ?_
    try simp (disch := first | exact Nat.ne_of_beq_eq_false rfl | exact rfl | omega) only [nI_add, xa_sub, xa_mul, pk_div, nm_mod, xa_shr, xa_and7, xa_and1, xa_and255, xa_by_and, nI_m1, Nat.add_sub_cancel, Nat.reducePow, Nat.zero_add, Nat.add_zero, Nat.reduceAdd, Nat.reduceMul, Nat.reduceSub, xf_same, xq_ff, xq_fo, xf_1, xf_2, xs_1, xs_2, xs_same, xq_so, xj_1, xj_2, xj_same, xq_jo, xq_sa1, xq_same, xq_other, upd_s, oI_n, oI_s, xv_0, xv_1, xv_2, xv_3, xm_p1, xm_p2, xq_fp, xq_fn, List.filter_nil, Nat.reduceBEq, Bool.not_true, Bool.not_false, Bool.and_true, Bool.and_false, Bool.false_and, Bool.true_and, if_true, if_false, Bool.false_eq_true, reduceIte, xc_i, xc_j, xc_r, xc_n, List.nil_append, List.cons_append, Option.toList_some, Option.toList_none, lc_1, n2, xf_32_2 hF, xf_22_4 hF, n1, v4, xf_22_2 hF, v6']
    with_reducible refine xm_go_blk b_X4_follow_206 k_X4_follow_206 ?_
    refine by_putf cn_82 fl_4_110 (by first | exact rfl | assumption) (by decide) nf_4_11 ft_4_11 (by first | rfl | assumption) (by first | rfl | assumption) ?_
    refine by_goto 460 rfl ?_
    with_reducible refine xm_go_blk b_X4_follow_460 k_X4_follow_460 ?_
    refine by_iinc (by rw [ml_82]; decide) rfl ci_1 ?_
    refine by_goto 2 rfl ?_
    try simp (disch := first | exact Nat.ne_of_beq_eq_false rfl | exact rfl | omega) only [nI_add, xa_sub, xa_mul, pk_div, nm_mod, xa_shr, xa_and7, xa_and1, xa_and255, xa_by_and, nI_m1, Nat.add_sub_cancel, Nat.reducePow, Nat.zero_add, Nat.add_zero, Nat.reduceAdd, Nat.reduceMul, Nat.reduceSub, xf_same, xq_ff, xq_fo, xf_1, xf_2, xs_1, xs_2, xs_same, xq_so, xj_1, xj_2, xj_same, xq_jo, xq_sa1, xq_same, xq_other, upd_s, oI_n, oI_s, xv_0, xv_1, xv_2, xv_3, xm_p1, xm_p2, xq_fp, xq_fn, List.filter_nil, Nat.reduceBEq, Bool.not_true, Bool.not_false, Bool.and_true, Bool.and_false, Bool.false_and, Bool.true_and, if_true, if_false, Bool.false_eq_true, reduceIte, xc_i, xc_j, xc_r, xc_n, List.nil_append, List.cons_append, Option.toList_some, Option.toList_none, lc_1, n2, xf_32_2 hF, xf_22_4 hF, n1, v4, xf_22_2 hF, v6']
    refine xm_go_wk (by simp [Value.category]) (bg_case1 (h := h) (n := n) (x := y) (k := ky) (f := f) (sp := sp) hF hf (Fr_sf (Fr_sf (Fr_sf Fr_rf (by simp [mcT])) (by simp [mcT])) (by simp [mcT])) rfl ⟨by simp [xm_sf, updV], by simp [xm_sf, updV], by rw [← n3]; simp [xm_sf, updV], by rw [← n4]; simp [xm_sf, updV], by rw [← n5]; simp [xm_sf, updV]⟩ ⟨by rw [← s1]; simp [xm_sf, updV], wtS_o s2 (fun _ _ => ⟨rfl, rfl, rfl, rfl, rfl⟩), by rw [← s3]; simp [xm_sf, updV], by rw [← s4]; simp [xm_sf, updV], by simp [xm_sf, updV]⟩ hy q1 q2 q3 q4 q5 q6 q7 q8 q8b q9 q10 q11 (fun a s c e hr h' tn' ht F' f' S' b' o' => ?_) (fun hr h' F' f' => ?_))
    · exact hyes a (1 + s) c e (by simp only [if_neg eu, hr]) h' tn' ht F' f' S' b' o'
    · exact hno (by simp only [if_neg eu, hr]) h' F' f'
/-- the end of a leaf: what is written, and steps -/
theorem bg_leaf {h h1 : xm_H} {n t b g pc pf sp tn s : Nat} {K : List mc_F} {a : List Bool} (hf : Fr mcR mcT H0 h1) (F1 : XF h1) (S1 : mSt h1 K pc pf (sp + s)) (hm : mB h1 = mc_wr (mB h) t a) (hl : a.length = w_t w n) (hb : 1 ≤ w_b w n) (q5 : b ≤ pc) (q6 : g ≤ pf)
    (hyes : ∀ h' tn', tn' ≤ tn + w_b w n → XF h' → Fr mcR mcT H0 h' → mSt h' K (max pc (b + 0)) (max pf (g + 0)) (sp + s) → (∀ i, i < w_t w n → mB h' (t + i) = a.getD i false) → (∀ i, i < b → (i < t ∨ t + w_t w n ≤ i) → mB h' i = mB h i) → Wk sc d pp df post tn' h') : PoW sc d pp df post tn (some (.int (nI 1))) h1 := by
  refine Wk_1 (hyes h1 (tn + 1) (by omega) F1 hf (by rw [Nat.max_eq_left (by omega), Nat.max_eq_left (by omega)]; exact S1) (fun i hi => ?_) (fun i hi hi2 => ?_))
  · rw [hm, mc_wr_in (by omega)]
  · rw [hm, mc_wr_out (by omega)]
theorem bg_unit {n : Nat} (hc : cdN H0 A n) (he : mc_op A n = 8) (ht : w_t w n = 0) (hb : 1 ≤ w_b w n) : Bg sc d pp df w H0 post n (fun _ => some ([], 1, 0, 0)) := by
  intro h f t b g K pc pf sp tn kk hF hf hN hS q1 q2 q3 q4 q5 q6 q7 q8 q8b q9 q10 q11 hyes hno
  obtain ⟨v1, v2, v3, v4, v5, v6, v7, v8⟩ := cdN_fr hc hf
  rw [he] at v2
  obtain ⟨n1, n2, n3, n4, n5⟩ := hN
  have s5 := hS.2.2.2.2
  have f1 : Fr mcR mcT H0 (xm_sf h 32 16 (.long (lN (sp + 1)))) := Fr_sf hf (by simp [mcT])
  have F1 : XF (xm_sf h 32 16 (.long (lN (sp + 1)))) := Fr_XF hF (Fr_sf (Fr_rf (S := mcR) (T := mcT)) (by simp [mcT])) mcT_fin
  unfold Fw
  with_reducible refine xm_go_blk b_X4_follow_2 k_X4_follow_2 ?_
  refine by_iload_n rfl ?_
  refine by_sipush cs_8000 ?_
  refine by_ic_ge 466 rfl ?_
  simp (disch := first | exact Nat.ne_of_beq_eq_false rfl | exact rfl | omega) only [nI_add, xa_sub, xa_mul, pk_div, nm_mod, xa_shr, xa_and7, xa_and1, xa_and255, xa_by_and, nI_m1, Nat.add_sub_cancel, Nat.reducePow, Nat.zero_add, Nat.add_zero, Nat.reduceAdd, Nat.reduceMul, Nat.reduceSub, xf_same, xq_ff, xq_fo, xf_1, xf_2, xs_1, xs_2, xs_same, xq_so, xj_1, xj_2, xj_same, xq_jo, xq_sa1, xq_same, xq_other, upd_s, oI_n, oI_s, xv_0, xv_1, xv_2, xv_3, xm_p1, xm_p2, xq_fp, xq_fn, List.filter_nil, Nat.reduceBEq, Bool.not_true, Bool.not_false, Bool.and_true, Bool.and_false, Bool.false_and, Bool.true_and, if_true, if_false, Bool.false_eq_true, reduceIte, xc_i, xc_j, xc_r, xc_n, List.nil_append, List.cons_append, Option.toList_some, Option.toList_none, nI_ltJ, nI_leJ, nI_eqJ, nI_ltz, nI_gez, nI_gtz, nI_lez, nI_eqz, m1_ltz, m1_gez, true_imp_iff, false_imp_iff, true_and, and_true, ne_eq, not_false_eq_true, not_true_eq_false, Nat.reduceEqDiff, Nat.reduceLT, Nat.reduceLeDiff, xf_32_2 hF, xf_22_3 hF, n1, v3, s5, lN_pl, xf_22_0 hF, v2]
  refine ⟨fun c => absurd c (by omega), fun c2 => ?_⟩
  with_reducible refine xm_go_blk b_X4_follow_9 k_X4_follow_9 ?_
  refine by_aload_n rfl ?_
  refine by_getf cn_82 fl_4_38 (by first | exact rfl | assumption) (by decide) ?_
  simp (disch := first | exact Nat.ne_of_beq_eq_false rfl | exact rfl | omega) only [nI_add, xa_sub, xa_mul, pk_div, nm_mod, xa_shr, xa_and7, xa_and1, xa_and255, xa_by_and, nI_m1, Nat.add_sub_cancel, Nat.reducePow, Nat.zero_add, Nat.add_zero, Nat.reduceAdd, Nat.reduceMul, Nat.reduceSub, xf_same, xq_ff, xq_fo, xf_1, xf_2, xs_1, xs_2, xs_same, xq_so, xj_1, xj_2, xj_same, xq_jo, xq_sa1, xq_same, xq_other, upd_s, oI_n, oI_s, xf_32_2 hF, xf_22_3 hF, n1, v3, s5, lN_pl, xf_22_0 hF, v2]
  refine by_getf cn_82 fl_4_129 (by first | exact rfl | assumption) (by decide) ?_
  refine by_aload_n rfl ?_
  refine by_getf cn_82 fl_4_110 (by first | exact rfl | assumption) (by decide) ?_
  simp (disch := first | exact Nat.ne_of_beq_eq_false rfl | exact rfl | omega) only [nI_add, xa_sub, xa_mul, pk_div, nm_mod, xa_shr, xa_and7, xa_and1, xa_and255, xa_by_and, nI_m1, Nat.add_sub_cancel, Nat.reducePow, Nat.zero_add, Nat.add_zero, Nat.reduceAdd, Nat.reduceMul, Nat.reduceSub, xf_same, xq_ff, xq_fo, xf_1, xf_2, xs_1, xs_2, xs_same, xq_so, xj_1, xj_2, xj_same, xq_jo, xq_sa1, xq_same, xq_other, upd_s, oI_n, oI_s, xf_32_2 hF, xf_22_3 hF, n1, v3, s5, lN_pl, xf_22_0 hF, v2]
  first | refine by_iald (by first | exact rfl | assumption | exact ps_1 hpp | exact ps_2 hpp | exact ps_3 hpp | exact ps_4 hpp | exact ps_5 hpp | exact ps_6 hpp | exact ps_7 hpp | exact ps_8 hpp | exact ps_9 hpp | exact ps_10 hpp | exact ps_11 hpp | exact ps_15 hpp | exact ps_16 hpp | exact ps_17 hpp | exact ps_18 hpp | exact ps_19 hpp | exact ps_21 hpp | exact ps_22 hpp | exact ps_23 hpp | exact ps_24 hpp) ⟨by omega, by omega⟩ ?_ | refine by_tald rfl rfl ⟨by omega, by omega⟩ ?_
  refine by_istore (by rw [ml_82]; decide) ?_
  refine by_aload_n rfl ?_
  refine by_dup rfl ?_
  refine by_getf cn_82 fl_4_42 (by first | exact rfl | assumption) (by decide) ?_
  refine by_lconst cl_1 ?_
  simp (disch := first | exact Nat.ne_of_beq_eq_false rfl | exact rfl | omega) only [nI_add, xa_sub, xa_mul, pk_div, nm_mod, xa_shr, xa_and7, xa_and1, xa_and255, xa_by_and, nI_m1, Nat.add_sub_cancel, Nat.reducePow, Nat.zero_add, Nat.add_zero, Nat.reduceAdd, Nat.reduceMul, Nat.reduceSub, xf_same, xq_ff, xq_fo, xf_1, xf_2, xs_1, xs_2, xs_same, xq_so, xj_1, xj_2, xj_same, xq_jo, xq_sa1, xq_same, xq_other, upd_s, oI_n, oI_s, xf_32_2 hF, xf_22_3 hF, n1, v3, s5, lN_pl, xf_22_0 hF, v2]
  refine by_ladd ?_
  refine by_putf cn_82 fl_4_42 (by first | exact rfl | assumption) (by decide) nf_4_16 ft_4_16 (by first | rfl | assumption) (by first | rfl | assumption) ?_
  refine by_aload_n rfl ?_
  refine by_getf cn_82 fl_4_38 (by first | exact rfl | assumption) (by decide) ?_
  simp (disch := first | exact Nat.ne_of_beq_eq_false rfl | exact rfl | omega) only [nI_add, xa_sub, xa_mul, pk_div, nm_mod, xa_shr, xa_and7, xa_and1, xa_and255, xa_by_and, nI_m1, Nat.add_sub_cancel, Nat.reducePow, Nat.zero_add, Nat.add_zero, Nat.reduceAdd, Nat.reduceMul, Nat.reduceSub, xf_same, xq_ff, xq_fo, xf_1, xf_2, xs_1, xs_2, xs_same, xq_so, xj_1, xj_2, xj_same, xq_jo, xq_sa1, xq_same, xq_other, upd_s, oI_n, oI_s, xf_32_2 hF, xf_22_3 hF, n1, v3, s5, lN_pl, xf_22_0 hF, v2]
  refine by_getf cn_82 fl_4_132 (by first | exact rfl | assumption) (by decide) ?_
  refine by_aload_n rfl ?_
  refine by_getf cn_82 fl_4_110 (by first | exact rfl | assumption) (by decide) ?_
  simp (disch := first | exact Nat.ne_of_beq_eq_false rfl | exact rfl | omega) only [nI_add, xa_sub, xa_mul, pk_div, nm_mod, xa_shr, xa_and7, xa_and1, xa_and255, xa_by_and, nI_m1, Nat.add_sub_cancel, Nat.reducePow, Nat.zero_add, Nat.add_zero, Nat.reduceAdd, Nat.reduceMul, Nat.reduceSub, xf_same, xq_ff, xq_fo, xf_1, xf_2, xs_1, xs_2, xs_same, xq_so, xj_1, xj_2, xj_same, xq_jo, xq_sa1, xq_same, xq_other, upd_s, oI_n, oI_s, xf_32_2 hF, xf_22_3 hF, n1, v3, s5, lN_pl, xf_22_0 hF, v2]
  first | refine by_iald (by first | exact rfl | assumption | exact ps_1 hpp | exact ps_2 hpp | exact ps_3 hpp | exact ps_4 hpp | exact ps_5 hpp | exact ps_6 hpp | exact ps_7 hpp | exact ps_8 hpp | exact ps_9 hpp | exact ps_10 hpp | exact ps_11 hpp | exact ps_15 hpp | exact ps_16 hpp | exact ps_17 hpp | exact ps_18 hpp | exact ps_19 hpp | exact ps_21 hpp | exact ps_22 hpp | exact ps_23 hpp | exact ps_24 hpp) ⟨by omega, by omega⟩ ?_ | refine by_tald rfl rfl ⟨by omega, by omega⟩ ?_
  simp (disch := first | exact Nat.ne_of_beq_eq_false rfl | exact rfl | omega) only [nI_add, xa_sub, xa_mul, pk_div, nm_mod, xa_shr, xa_and7, xa_and1, xa_and255, xa_by_and, nI_m1, Nat.add_sub_cancel, Nat.reducePow, Nat.zero_add, Nat.add_zero, Nat.reduceAdd, Nat.reduceMul, Nat.reduceSub, xf_same, xq_ff, xq_fo, xf_1, xf_2, xs_1, xs_2, xs_same, xq_so, xj_1, xj_2, xj_same, xq_jo, xq_sa1, xq_same, xq_other, upd_s, oI_n, oI_s, xf_32_2 hF, xf_22_3 hF, n1, v3, s5, lN_pl, xf_22_0 hF, v2]
  refine by_sw ?_
  simp (disch := first | exact Nat.ne_of_beq_eq_false rfl | exact rfl | omega) only [nI_add, xa_sub, xa_mul, pk_div, nm_mod, xa_shr, xa_and7, xa_and1, xa_and255, xa_by_and, nI_m1, Nat.add_sub_cancel, Nat.reducePow, Nat.zero_add, Nat.add_zero, Nat.reduceAdd, Nat.reduceMul, Nat.reduceSub, xf_same, xq_ff, xq_fo, xf_1, xf_2, xs_1, xs_2, xs_same, xq_so, xj_1, xj_2, xj_same, xq_jo, xq_sa1, xq_same, xq_other, upd_s, oI_n, oI_s, xv_0, xv_1, xv_2, xv_3, xm_p1, xm_p2, xq_fp, xq_fn, List.filter_nil, Nat.reduceBEq, Bool.not_true, Bool.not_false, Bool.and_true, Bool.and_false, Bool.false_and, Bool.true_and, if_true, if_false, Bool.false_eq_true, reduceIte, xc_i, xc_j, xc_r, xc_n, List.nil_append, List.cons_append, Option.toList_some, Option.toList_none, xf_32_2 hF, xf_22_3 hF, n1, v3, s5, lN_pl, xf_22_0 hF, v2]
  refine xq_sw 452 (by decide) (by decide) ?_
  with_reducible refine xm_go_blk b_X4_follow_452 k_X4_follow_452 ?_
  refine by_aload_n rfl ?_
  refine by_aload_n rfl ?_
  refine by_iload rfl ?_
  refine by_inv2 cn_82 lk_4_159 (by rw [xe_cnt]; decide) is_81 np_81 cn_81 (by first | exact rfl | assumption) (Nat.le_of_ble_eq_true rfl) ?_
  refine xq_in rfl ?_
  simp only [xq_a0, xq_aI, xq_aJ, xq_aR, Nat.reduceAdd]
  with_reducible refine xm_go_blk b_X4_endAt_0 k_X4_endAt_0 ?_
  refine by_aload_n rfl ?_
  refine by_getf cn_81 fl_4_38 (by first | exact rfl | assumption) (by decide) ?_
  simp (disch := first | exact Nat.ne_of_beq_eq_false rfl | exact rfl | omega) only [nI_add, xa_sub, xa_mul, pk_div, nm_mod, xa_shr, xa_and7, xa_and1, xa_and255, xa_by_and, nI_m1, Nat.add_sub_cancel, Nat.reducePow, Nat.zero_add, Nat.add_zero, Nat.reduceAdd, Nat.reduceMul, Nat.reduceSub, xf_same, xq_ff, xq_fo, xf_1, xf_2, xs_1, xs_2, xs_same, xq_so, xj_1, xj_2, xj_same, xq_jo, xq_sa1, xq_same, xq_other, upd_s, oI_n, oI_s, xf_32_2 hF, xf_22_3 hF, n1, v3, s5, lN_pl, xf_22_0 hF, v2]
  refine by_getf cn_81 fl_4_132 (by first | exact rfl | assumption) (by decide) ?_
  refine by_aload_n rfl ?_
  refine by_getf cn_81 fl_4_110 (by first | exact rfl | assumption) (by decide) ?_
  simp (disch := first | exact Nat.ne_of_beq_eq_false rfl | exact rfl | omega) only [nI_add, xa_sub, xa_mul, pk_div, nm_mod, xa_shr, xa_and7, xa_and1, xa_and255, xa_by_and, nI_m1, Nat.add_sub_cancel, Nat.reducePow, Nat.zero_add, Nat.add_zero, Nat.reduceAdd, Nat.reduceMul, Nat.reduceSub, xf_same, xq_ff, xq_fo, xf_1, xf_2, xs_1, xs_2, xs_same, xq_so, xj_1, xj_2, xj_same, xq_jo, xq_sa1, xq_same, xq_other, upd_s, oI_n, oI_s, xf_32_2 hF, xf_22_3 hF, n1, v3, s5, lN_pl, xf_22_0 hF, v2]
  first | refine by_iald (by first | exact rfl | assumption | exact ps_1 hpp | exact ps_2 hpp | exact ps_3 hpp | exact ps_4 hpp | exact ps_5 hpp | exact ps_6 hpp | exact ps_7 hpp | exact ps_8 hpp | exact ps_9 hpp | exact ps_10 hpp | exact ps_11 hpp | exact ps_15 hpp | exact ps_16 hpp | exact ps_17 hpp | exact ps_18 hpp | exact ps_19 hpp | exact ps_21 hpp | exact ps_22 hpp | exact ps_23 hpp | exact ps_24 hpp) ⟨by omega, by omega⟩ ?_ | refine by_tald rfl rfl ⟨by omega, by omega⟩ ?_
  simp (disch := first | exact Nat.ne_of_beq_eq_false rfl | exact rfl | omega) only [nI_add, xa_sub, xa_mul, pk_div, nm_mod, xa_shr, xa_and7, xa_and1, xa_and255, xa_by_and, nI_m1, Nat.add_sub_cancel, Nat.reducePow, Nat.zero_add, Nat.add_zero, Nat.reduceAdd, Nat.reduceMul, Nat.reduceSub, xf_same, xq_ff, xq_fo, xf_1, xf_2, xs_1, xs_2, xs_same, xq_so, xj_1, xj_2, xj_same, xq_jo, xq_sa1, xq_same, xq_other, upd_s, oI_n, oI_s, xf_32_2 hF, xf_22_3 hF, n1, v3, s5, lN_pl, xf_22_0 hF, v2]
  refine by_sw ?_
  refine xq_sw 125 (by decide) (by decide) ?_
  with_reducible refine xm_go_blk b_X4_endAt_125 k_X4_endAt_125 ?_
  refine by_iconst ci_1 ?_
  refine by_iret ry_81 (by first | rfl | assumption) ?_
  with_reducible refine xm_go_blk b_X4_follow_459 k_X4_follow_459 ?_
  refine by_iret ry_82 (by first | rfl | assumption) ?_
  exact bg_leaf (h := h) (n := n) (t := t) (b := b) (g := g) (a := []) f1 F1 (mS_1 hS) (by rw [mc_wr_nil]; rfl) ht.symm hb q5 q6 (fun h' tn' ht' F' f' S' b' o' => hyes [] 1 0 0 rfl h' tn' ht' F' f' S' b' o')
theorem bg_iden {n k o : Nat} (hc : cdN H0 A n) (he : mc_op A n = 7) (ek : mc_sk A n = k) (eo : mc_ot A n = o) (hs : o + k ≤ w_s w n) (ht : w_t w n = k) (hb : 1 ≤ w_b w n) : Bg sc d pp df w H0 post n (fun u => some (mc_rd u o k, 1 + k, 0, 0)) := by
  intro h f t b g K pc pf sp tn kk hF hf hN hS q1 q2 q3 q4 q5 q6 q7 q8 q8b q9 q10 q11 hyes hno
  obtain ⟨v1, v2, v3, v4, v5, v6, v7, v8⟩ := cdN_fr hc hf
  rw [he] at v2
  rw [ek] at v3 v7
  rw [eo] at v4 v8
  obtain ⟨n1, n2, n3, n4, n5⟩ := hN
  have s5 := hS.2.2.2.2
  obtain ⟨s1, s2, s3, s4, _⟩ := hS
  unfold Fw
  with_reducible refine xm_go_blk b_X4_follow_2 k_X4_follow_2 ?_
  refine by_iload_n rfl ?_
  refine by_sipush cs_8000 ?_
  refine by_ic_ge 466 rfl ?_
  simp (disch := first | exact Nat.ne_of_beq_eq_false rfl | exact rfl | omega) only [nI_add, xa_sub, xa_mul, pk_div, nm_mod, xa_shr, xa_and7, xa_and1, xa_and255, xa_by_and, nI_m1, Nat.add_sub_cancel, Nat.reducePow, Nat.zero_add, Nat.add_zero, Nat.reduceAdd, Nat.reduceMul, Nat.reduceSub, xf_same, xq_ff, xq_fo, xf_1, xf_2, xs_1, xs_2, xs_same, xq_so, xj_1, xj_2, xj_same, xq_jo, xq_sa1, xq_same, xq_other, upd_s, oI_n, oI_s, xv_0, xv_1, xv_2, xv_3, xm_p1, xm_p2, xq_fp, xq_fn, List.filter_nil, Nat.reduceBEq, Bool.not_true, Bool.not_false, Bool.and_true, Bool.and_false, Bool.false_and, Bool.true_and, if_true, if_false, Bool.false_eq_true, reduceIte, xc_i, xc_j, xc_r, xc_n, List.nil_append, List.cons_append, Option.toList_some, Option.toList_none, nI_ltJ, nI_leJ, nI_eqJ, nI_ltz, nI_gez, nI_gtz, nI_lez, nI_eqz, m1_ltz, m1_gez, true_imp_iff, false_imp_iff, true_and, and_true, ne_eq, not_false_eq_true, not_true_eq_false, Nat.reduceEqDiff, Nat.reduceLT, Nat.reduceLeDiff, xf_32_2 hF, xf_22_3 hF, n1, v3, s5, lN_pl, xf_22_0 hF, v2, i2l_n, n2, xf_22_4 hF, v4]
  refine ⟨fun c => absurd c (by omega), fun c2 => ?_⟩
  with_reducible refine xm_go_blk b_X4_follow_9 k_X4_follow_9 ?_
  refine by_aload_n rfl ?_
  refine by_getf cn_82 fl_4_38 (by first | exact rfl | assumption) (by decide) ?_
  simp (disch := first | exact Nat.ne_of_beq_eq_false rfl | exact rfl | omega) only [nI_add, xa_sub, xa_mul, pk_div, nm_mod, xa_shr, xa_and7, xa_and1, xa_and255, xa_by_and, nI_m1, Nat.add_sub_cancel, Nat.reducePow, Nat.zero_add, Nat.add_zero, Nat.reduceAdd, Nat.reduceMul, Nat.reduceSub, xf_same, xq_ff, xq_fo, xf_1, xf_2, xs_1, xs_2, xs_same, xq_so, xj_1, xj_2, xj_same, xq_jo, xq_sa1, xq_same, xq_other, upd_s, oI_n, oI_s, xf_32_2 hF, xf_22_3 hF, n1, v3, s5, lN_pl, xf_22_0 hF, v2, i2l_n, n2, xf_22_4 hF, v4]
  refine by_getf cn_82 fl_4_129 (by first | exact rfl | assumption) (by decide) ?_
  refine by_aload_n rfl ?_
  refine by_getf cn_82 fl_4_110 (by first | exact rfl | assumption) (by decide) ?_
  simp (disch := first | exact Nat.ne_of_beq_eq_false rfl | exact rfl | omega) only [nI_add, xa_sub, xa_mul, pk_div, nm_mod, xa_shr, xa_and7, xa_and1, xa_and255, xa_by_and, nI_m1, Nat.add_sub_cancel, Nat.reducePow, Nat.zero_add, Nat.add_zero, Nat.reduceAdd, Nat.reduceMul, Nat.reduceSub, xf_same, xq_ff, xq_fo, xf_1, xf_2, xs_1, xs_2, xs_same, xq_so, xj_1, xj_2, xj_same, xq_jo, xq_sa1, xq_same, xq_other, upd_s, oI_n, oI_s, xf_32_2 hF, xf_22_3 hF, n1, v3, s5, lN_pl, xf_22_0 hF, v2, i2l_n, n2, xf_22_4 hF, v4]
  first | refine by_iald (by first | exact rfl | assumption | exact ps_1 hpp | exact ps_2 hpp | exact ps_3 hpp | exact ps_4 hpp | exact ps_5 hpp | exact ps_6 hpp | exact ps_7 hpp | exact ps_8 hpp | exact ps_9 hpp | exact ps_10 hpp | exact ps_11 hpp | exact ps_15 hpp | exact ps_16 hpp | exact ps_17 hpp | exact ps_18 hpp | exact ps_19 hpp | exact ps_21 hpp | exact ps_22 hpp | exact ps_23 hpp | exact ps_24 hpp) ⟨by omega, by omega⟩ ?_ | refine by_tald rfl rfl ⟨by omega, by omega⟩ ?_
  refine by_istore (by rw [ml_82]; decide) ?_
  refine by_aload_n rfl ?_
  refine by_dup rfl ?_
  refine by_getf cn_82 fl_4_42 (by first | exact rfl | assumption) (by decide) ?_
  refine by_lconst cl_1 ?_
  simp (disch := first | exact Nat.ne_of_beq_eq_false rfl | exact rfl | omega) only [nI_add, xa_sub, xa_mul, pk_div, nm_mod, xa_shr, xa_and7, xa_and1, xa_and255, xa_by_and, nI_m1, Nat.add_sub_cancel, Nat.reducePow, Nat.zero_add, Nat.add_zero, Nat.reduceAdd, Nat.reduceMul, Nat.reduceSub, xf_same, xq_ff, xq_fo, xf_1, xf_2, xs_1, xs_2, xs_same, xq_so, xj_1, xj_2, xj_same, xq_jo, xq_sa1, xq_same, xq_other, upd_s, oI_n, oI_s, xf_32_2 hF, xf_22_3 hF, n1, v3, s5, lN_pl, xf_22_0 hF, v2, i2l_n, n2, xf_22_4 hF, v4]
  refine by_ladd ?_
  refine by_putf cn_82 fl_4_42 (by first | exact rfl | assumption) (by decide) nf_4_16 ft_4_16 (by first | rfl | assumption) (by first | rfl | assumption) ?_
  refine by_aload_n rfl ?_
  refine by_getf cn_82 fl_4_38 (by first | exact rfl | assumption) (by decide) ?_
  simp (disch := first | exact Nat.ne_of_beq_eq_false rfl | exact rfl | omega) only [nI_add, xa_sub, xa_mul, pk_div, nm_mod, xa_shr, xa_and7, xa_and1, xa_and255, xa_by_and, nI_m1, Nat.add_sub_cancel, Nat.reducePow, Nat.zero_add, Nat.add_zero, Nat.reduceAdd, Nat.reduceMul, Nat.reduceSub, xf_same, xq_ff, xq_fo, xf_1, xf_2, xs_1, xs_2, xs_same, xq_so, xj_1, xj_2, xj_same, xq_jo, xq_sa1, xq_same, xq_other, upd_s, oI_n, oI_s, xf_32_2 hF, xf_22_3 hF, n1, v3, s5, lN_pl, xf_22_0 hF, v2, i2l_n, n2, xf_22_4 hF, v4]
  refine by_getf cn_82 fl_4_132 (by first | exact rfl | assumption) (by decide) ?_
  refine by_aload_n rfl ?_
  refine by_getf cn_82 fl_4_110 (by first | exact rfl | assumption) (by decide) ?_
  simp (disch := first | exact Nat.ne_of_beq_eq_false rfl | exact rfl | omega) only [nI_add, xa_sub, xa_mul, pk_div, nm_mod, xa_shr, xa_and7, xa_and1, xa_and255, xa_by_and, nI_m1, Nat.add_sub_cancel, Nat.reducePow, Nat.zero_add, Nat.add_zero, Nat.reduceAdd, Nat.reduceMul, Nat.reduceSub, xf_same, xq_ff, xq_fo, xf_1, xf_2, xs_1, xs_2, xs_same, xq_so, xj_1, xj_2, xj_same, xq_jo, xq_sa1, xq_same, xq_other, upd_s, oI_n, oI_s, xf_32_2 hF, xf_22_3 hF, n1, v3, s5, lN_pl, xf_22_0 hF, v2, i2l_n, n2, xf_22_4 hF, v4]
  first | refine by_iald (by first | exact rfl | assumption | exact ps_1 hpp | exact ps_2 hpp | exact ps_3 hpp | exact ps_4 hpp | exact ps_5 hpp | exact ps_6 hpp | exact ps_7 hpp | exact ps_8 hpp | exact ps_9 hpp | exact ps_10 hpp | exact ps_11 hpp | exact ps_15 hpp | exact ps_16 hpp | exact ps_17 hpp | exact ps_18 hpp | exact ps_19 hpp | exact ps_21 hpp | exact ps_22 hpp | exact ps_23 hpp | exact ps_24 hpp) ⟨by omega, by omega⟩ ?_ | refine by_tald rfl rfl ⟨by omega, by omega⟩ ?_
  simp (disch := first | exact Nat.ne_of_beq_eq_false rfl | exact rfl | omega) only [nI_add, xa_sub, xa_mul, pk_div, nm_mod, xa_shr, xa_and7, xa_and1, xa_and255, xa_by_and, nI_m1, Nat.add_sub_cancel, Nat.reducePow, Nat.zero_add, Nat.add_zero, Nat.reduceAdd, Nat.reduceMul, Nat.reduceSub, xf_same, xq_ff, xq_fo, xf_1, xf_2, xs_1, xs_2, xs_same, xq_so, xj_1, xj_2, xj_same, xq_jo, xq_sa1, xq_same, xq_other, upd_s, oI_n, oI_s, xf_32_2 hF, xf_22_3 hF, n1, v3, s5, lN_pl, xf_22_0 hF, v2, i2l_n, n2, xf_22_4 hF, v4]
  refine by_sw ?_
  simp (disch := first | exact Nat.ne_of_beq_eq_false rfl | exact rfl | omega) only [nI_add, xa_sub, xa_mul, pk_div, nm_mod, xa_shr, xa_and7, xa_and1, xa_and255, xa_by_and, nI_m1, Nat.add_sub_cancel, Nat.reducePow, Nat.zero_add, Nat.add_zero, Nat.reduceAdd, Nat.reduceMul, Nat.reduceSub, xf_same, xq_ff, xq_fo, xf_1, xf_2, xs_1, xs_2, xs_same, xq_so, xj_1, xj_2, xj_same, xq_jo, xq_sa1, xq_same, xq_other, upd_s, oI_n, oI_s, xv_0, xv_1, xv_2, xv_3, xm_p1, xm_p2, xq_fp, xq_fn, List.filter_nil, Nat.reduceBEq, Bool.not_true, Bool.not_false, Bool.and_true, Bool.and_false, Bool.false_and, Bool.true_and, if_true, if_false, Bool.false_eq_true, reduceIte, xc_i, xc_j, xc_r, xc_n, List.nil_append, List.cons_append, Option.toList_some, Option.toList_none, xf_32_2 hF, xf_22_3 hF, n1, v3, s5, lN_pl, xf_22_0 hF, v2, i2l_n, n2, xf_22_4 hF, v4]
  refine xq_sw 452 (by decide) (by decide) ?_
  with_reducible refine xm_go_blk b_X4_follow_452 k_X4_follow_452 ?_
  refine by_aload_n rfl ?_
  refine by_aload_n rfl ?_
  refine by_iload rfl ?_
  refine by_inv2 cn_82 lk_4_159 (by rw [xe_cnt]; decide) is_81 np_81 cn_81 (by first | exact rfl | assumption) (Nat.le_of_ble_eq_true rfl) ?_
  refine xq_in rfl ?_
  simp only [xq_a0, xq_aI, xq_aJ, xq_aR, Nat.reduceAdd]
  with_reducible refine xm_go_blk b_X4_endAt_0 k_X4_endAt_0 ?_
  refine by_aload_n rfl ?_
  refine by_getf cn_81 fl_4_38 (by first | exact rfl | assumption) (by decide) ?_
  simp (disch := first | exact Nat.ne_of_beq_eq_false rfl | exact rfl | omega) only [nI_add, xa_sub, xa_mul, pk_div, nm_mod, xa_shr, xa_and7, xa_and1, xa_and255, xa_by_and, nI_m1, Nat.add_sub_cancel, Nat.reducePow, Nat.zero_add, Nat.add_zero, Nat.reduceAdd, Nat.reduceMul, Nat.reduceSub, xf_same, xq_ff, xq_fo, xf_1, xf_2, xs_1, xs_2, xs_same, xq_so, xj_1, xj_2, xj_same, xq_jo, xq_sa1, xq_same, xq_other, upd_s, oI_n, oI_s, xf_32_2 hF, xf_22_3 hF, n1, v3, s5, lN_pl, xf_22_0 hF, v2, i2l_n, n2, xf_22_4 hF, v4]
  refine by_getf cn_81 fl_4_132 (by first | exact rfl | assumption) (by decide) ?_
  refine by_aload_n rfl ?_
  refine by_getf cn_81 fl_4_110 (by first | exact rfl | assumption) (by decide) ?_
  simp (disch := first | exact Nat.ne_of_beq_eq_false rfl | exact rfl | omega) only [nI_add, xa_sub, xa_mul, pk_div, nm_mod, xa_shr, xa_and7, xa_and1, xa_and255, xa_by_and, nI_m1, Nat.add_sub_cancel, Nat.reducePow, Nat.zero_add, Nat.add_zero, Nat.reduceAdd, Nat.reduceMul, Nat.reduceSub, xf_same, xq_ff, xq_fo, xf_1, xf_2, xs_1, xs_2, xs_same, xq_so, xj_1, xj_2, xj_same, xq_jo, xq_sa1, xq_same, xq_other, upd_s, oI_n, oI_s, xf_32_2 hF, xf_22_3 hF, n1, v3, s5, lN_pl, xf_22_0 hF, v2, i2l_n, n2, xf_22_4 hF, v4]
  first | refine by_iald (by first | exact rfl | assumption | exact ps_1 hpp | exact ps_2 hpp | exact ps_3 hpp | exact ps_4 hpp | exact ps_5 hpp | exact ps_6 hpp | exact ps_7 hpp | exact ps_8 hpp | exact ps_9 hpp | exact ps_10 hpp | exact ps_11 hpp | exact ps_15 hpp | exact ps_16 hpp | exact ps_17 hpp | exact ps_18 hpp | exact ps_19 hpp | exact ps_21 hpp | exact ps_22 hpp | exact ps_23 hpp | exact ps_24 hpp) ⟨by omega, by omega⟩ ?_ | refine by_tald rfl rfl ⟨by omega, by omega⟩ ?_
  simp (disch := first | exact Nat.ne_of_beq_eq_false rfl | exact rfl | omega) only [nI_add, xa_sub, xa_mul, pk_div, nm_mod, xa_shr, xa_and7, xa_and1, xa_and255, xa_by_and, nI_m1, Nat.add_sub_cancel, Nat.reducePow, Nat.zero_add, Nat.add_zero, Nat.reduceAdd, Nat.reduceMul, Nat.reduceSub, xf_same, xq_ff, xq_fo, xf_1, xf_2, xs_1, xs_2, xs_same, xq_so, xj_1, xj_2, xj_same, xq_jo, xq_sa1, xq_same, xq_other, upd_s, oI_n, oI_s, xf_32_2 hF, xf_22_3 hF, n1, v3, s5, lN_pl, xf_22_0 hF, v2, i2l_n, n2, xf_22_4 hF, v4]
  refine by_sw ?_
  refine xq_sw 44 (by decide) (by decide) ?_
  with_reducible refine xm_go_blk b_X4_endAt_44 k_X4_endAt_44 ?_
  refine by_aload_n rfl ?_
  refine by_dup rfl ?_
  refine by_getf cn_81 fl_4_42 (by first | exact rfl | assumption) (by decide) ?_
  refine by_iload_n rfl ?_
  refine by_i2l ?_
  simp (disch := first | exact Nat.ne_of_beq_eq_false rfl | exact rfl | omega) only [nI_add, xa_sub, xa_mul, pk_div, nm_mod, xa_shr, xa_and7, xa_and1, xa_and255, xa_by_and, nI_m1, Nat.add_sub_cancel, Nat.reducePow, Nat.zero_add, Nat.add_zero, Nat.reduceAdd, Nat.reduceMul, Nat.reduceSub, xf_same, xq_ff, xq_fo, xf_1, xf_2, xs_1, xs_2, xs_same, xq_so, xj_1, xj_2, xj_same, xq_jo, xq_sa1, xq_same, xq_other, upd_s, oI_n, oI_s, xf_32_2 hF, xf_22_3 hF, n1, v3, s5, lN_pl, xf_22_0 hF, v2, i2l_n, n2, xf_22_4 hF, v4]
  refine by_ladd ?_
  refine by_putf cn_81 fl_4_42 (by first | exact rfl | assumption) (by decide) nf_4_16 ft_4_16 (by first | rfl | assumption) (by first | rfl | assumption) ?_
  refine by_aload_n rfl ?_
  refine by_dup rfl ?_
  refine by_getf cn_81 fl_4_59 (by first | exact rfl | assumption) (by decide) ?_
  refine by_aload_n rfl ?_
  refine by_getf cn_81 fl_4_38 (by first | exact rfl | assumption) (by decide) ?_
  simp (disch := first | exact Nat.ne_of_beq_eq_false rfl | exact rfl | omega) only [nI_add, xa_sub, xa_mul, pk_div, nm_mod, xa_shr, xa_and7, xa_and1, xa_and255, xa_by_and, nI_m1, Nat.add_sub_cancel, Nat.reducePow, Nat.zero_add, Nat.add_zero, Nat.reduceAdd, Nat.reduceMul, Nat.reduceSub, xf_same, xq_ff, xq_fo, xf_1, xf_2, xs_1, xs_2, xs_same, xq_so, xj_1, xj_2, xj_same, xq_jo, xq_sa1, xq_same, xq_other, upd_s, oI_n, oI_s, xf_32_2 hF, xf_22_3 hF, n1, v3, s5, lN_pl, xf_22_0 hF, v2, i2l_n, n2, xf_22_4 hF, v4]
  refine by_getf cn_81 fl_4_139 (by first | exact rfl | assumption) (by decide) ?_
  refine by_aload_n rfl ?_
  refine by_getf cn_81 fl_4_110 (by first | exact rfl | assumption) (by decide) ?_
  simp (disch := first | exact Nat.ne_of_beq_eq_false rfl | exact rfl | omega) only [nI_add, xa_sub, xa_mul, pk_div, nm_mod, xa_shr, xa_and7, xa_and1, xa_and255, xa_by_and, nI_m1, Nat.add_sub_cancel, Nat.reducePow, Nat.zero_add, Nat.add_zero, Nat.reduceAdd, Nat.reduceMul, Nat.reduceSub, xf_same, xq_ff, xq_fo, xf_1, xf_2, xs_1, xs_2, xs_same, xq_so, xj_1, xj_2, xj_same, xq_jo, xq_sa1, xq_same, xq_other, upd_s, oI_n, oI_s, xf_32_2 hF, xf_22_3 hF, n1, v3, s5, lN_pl, xf_22_0 hF, v2, i2l_n, n2, xf_22_4 hF, v4]
  first | refine by_iald (by first | exact rfl | assumption | exact ps_1 hpp | exact ps_2 hpp | exact ps_3 hpp | exact ps_4 hpp | exact ps_5 hpp | exact ps_6 hpp | exact ps_7 hpp | exact ps_8 hpp | exact ps_9 hpp | exact ps_10 hpp | exact ps_11 hpp | exact ps_15 hpp | exact ps_16 hpp | exact ps_17 hpp | exact ps_18 hpp | exact ps_19 hpp | exact ps_21 hpp | exact ps_22 hpp | exact ps_23 hpp | exact ps_24 hpp) ⟨by omega, by omega⟩ ?_ | refine by_tald rfl rfl ⟨by omega, by omega⟩ ?_
  refine by_iadd ?_
  refine by_putf cn_81 fl_4_59 (by first | exact rfl | assumption) (by decide) nf_4_12 ft_4_12 (by first | rfl | assumption) (by first | rfl | assumption) ?_
  refine by_aload_n rfl ?_
  refine by_iload_n rfl ?_
  simp (disch := first | exact Nat.ne_of_beq_eq_false rfl | exact rfl | omega) only [nI_add, xa_sub, xa_mul, pk_div, nm_mod, xa_shr, xa_and7, xa_and1, xa_and255, xa_by_and, nI_m1, Nat.add_sub_cancel, Nat.reducePow, Nat.zero_add, Nat.add_zero, Nat.reduceAdd, Nat.reduceMul, Nat.reduceSub, xf_same, xq_ff, xq_fo, xf_1, xf_2, xs_1, xs_2, xs_same, xq_so, xj_1, xj_2, xj_same, xq_jo, xq_sa1, xq_same, xq_other, upd_s, oI_n, oI_s, xv_0, xv_1, xv_2, xv_3, xm_p1, xm_p2, xq_fp, xq_fn, List.filter_nil, Nat.reduceBEq, Bool.not_true, Bool.not_false, Bool.and_true, Bool.and_false, Bool.false_and, Bool.true_and, if_true, if_false, Bool.false_eq_true, reduceIte, xc_i, xc_j, xc_r, xc_n, List.nil_append, List.cons_append, Option.toList_some, Option.toList_none, xf_32_2 hF, xf_22_3 hF, n1, v3, s5, lN_pl, xf_22_0 hF, v2, i2l_n, n2, xf_22_4 hF, v4]
  refine by_inv1 cn_81 lk_4_169 (by rw [xe_cnt]; decide) is_79 np_79 cn_79 (by first | exact rfl | assumption) (Nat.le_of_ble_eq_true rfl) ?_
  have f1 : Fr mcR mcT h (xm_sf (xm_sf (xm_sf h 32 16 (.long (lN (sp + 1)))) 32 16 (.long (lN (sp + 1 + k)))) 32 12 (.int (nI (f + o)))) := Fr_sf (Fr_sf (Fr_sf Fr_rf (by simp [mcT])) (by simp [mcT])) (by simp [mcT])
  have F1 := Fr_XF hF f1 mcT_fin
  refine sp_copyCells (f := f + o) (t := t) F1 (by simp [xm_sf, updV]) (by rw [← n3]; simp [xm_sf, updV]) (by omega) (by omega) (by omega) (fun h2 f2 b2 => ?_)
  with_reducible refine xm_go_blk b_X4_endAt_81 k_X4_endAt_81 ?_
  refine by_iconst ci_1 ?_
  refine by_iret ry_81 (by first | rfl | assumption) ?_
  with_reducible refine xm_go_blk b_X4_follow_459 k_X4_follow_459 ?_
  refine by_iret ry_82 (by first | rfl | assumption) ?_
  have b2' : mB h2 = mc_wr (mB h) t (mc_rd (mc_sh (mB h) f) o k) := by rw [mc_rd_sh]; exact b2
  refine bg_leaf (h := h) (n := n) (t := t) (b := b) (g := g) (s := 1 + k) (sp := sp) (Fr_tr (Fr_tr hf f1 (fun _ z => z) (fun _ z => z)) f2 (by simp [mcR]) (by simp)) (Fr_XF F1 f2 (by decide +kernel)) (mSt_fr (h := xm_sf (xm_sf (xm_sf h 32 16 (.long (lN (sp + 1)))) 32 16 (.long (lN (sp + 1 + k)))) 32 12 (.int (nI (f + o)))) ⟨by rw [← s1]; simp [xm_sf, updV], wtS_o s2 (fun _ _ => ⟨rfl, rfl, rfl, rfl, rfl⟩), by rw [← s3]; simp [xm_sf, updV], by rw [← s4]; simp [xm_sf, updV], by rw [show sp + (1 + k) = sp + 1 + k by omega]; simp [xm_sf, updV]⟩ f2 (by simp) (by simp) (by simp) (by simp) (by simp) (by simp) (by simp) (by simp) (by simp)) b2' (by rw [mc_rd_len, ht]) hb q5 q6 (fun h' tn' ht' F' f' S' b' o' => hyes _ _ 0 0 rfl h' tn' ht' F' f' S' b' o')
theorem bg_wit {n k o : Nat} {l : List Nat} (hpp : pp = 52 ∨ pp = 77) (hc : cdN H0 A n) (he : mc_op A n = 10) (ek : mc_sk A n = k) (eo : mc_ot A n = o) (hl : rowIs H0 (pp + 12) (pp + 13) l) (hko : k + o ≤ 70000) (ht : w_t w n = o) (hb : 1 ≤ w_b w n) : Bg sc d pp df w H0 post n (fun _ => some (mc_rd (byB l) k o, 1 + o, 0, 0)) := by
  intro h f t b g K pc pf sp tn kk hF hf hN hS q1 q2 q3 q4 q5 q6 q7 q8 q8b q9 q10 q11 hyes hno
  obtain ⟨v1, v2, v3, v4, v5, v6, v7, v8⟩ := cdN_fr hc hf
  rw [he] at v2
  rw [ek] at v3 v7
  rw [eo] at v4 v8
  obtain ⟨n1, n2, n3, n4, n5⟩ := hN
  have s5 := hS.2.2.2.2
  obtain ⟨s1, s2, s3, s4, _⟩ := hS
  unfold Fw
  with_reducible refine xm_go_blk b_X4_follow_2 k_X4_follow_2 ?_
  refine by_iload_n rfl ?_
  refine by_sipush cs_8000 ?_
  refine by_ic_ge 466 rfl ?_
  simp (disch := first | exact Nat.ne_of_beq_eq_false rfl | exact rfl | omega) only [nI_add, xa_sub, xa_mul, pk_div, nm_mod, xa_shr, xa_and7, xa_and1, xa_and255, xa_by_and, nI_m1, Nat.add_sub_cancel, Nat.reducePow, Nat.zero_add, Nat.add_zero, Nat.reduceAdd, Nat.reduceMul, Nat.reduceSub, xf_same, xq_ff, xq_fo, xf_1, xf_2, xs_1, xs_2, xs_same, xq_so, xj_1, xj_2, xj_same, xq_jo, xq_sa1, xq_same, xq_other, upd_s, oI_n, oI_s, xv_0, xv_1, xv_2, xv_3, xm_p1, xm_p2, xq_fp, xq_fn, List.filter_nil, Nat.reduceBEq, Bool.not_true, Bool.not_false, Bool.and_true, Bool.and_false, Bool.false_and, Bool.true_and, if_true, if_false, Bool.false_eq_true, reduceIte, xc_i, xc_j, xc_r, xc_n, List.nil_append, List.cons_append, Option.toList_some, Option.toList_none, nI_ltJ, nI_leJ, nI_eqJ, nI_ltz, nI_gez, nI_gtz, nI_lez, nI_eqz, m1_ltz, m1_gez, true_imp_iff, false_imp_iff, true_and, and_true, ne_eq, not_false_eq_true, not_true_eq_false, Nat.reduceEqDiff, Nat.reduceLT, Nat.reduceLeDiff, xf_32_2 hF, xf_22_3 hF, n1, v3, s5, lN_pl, xf_22_0 hF, v2, i2l_n, xf_22_4 hF, v4]
  refine ⟨fun c => absurd c (by omega), fun c2 => ?_⟩
  with_reducible refine xm_go_blk b_X4_follow_9 k_X4_follow_9 ?_
  refine by_aload_n rfl ?_
  refine by_getf cn_82 fl_4_38 (by first | exact rfl | assumption) (by decide) ?_
  simp (disch := first | exact Nat.ne_of_beq_eq_false rfl | exact rfl | omega) only [nI_add, xa_sub, xa_mul, pk_div, nm_mod, xa_shr, xa_and7, xa_and1, xa_and255, xa_by_and, nI_m1, Nat.add_sub_cancel, Nat.reducePow, Nat.zero_add, Nat.add_zero, Nat.reduceAdd, Nat.reduceMul, Nat.reduceSub, xf_same, xq_ff, xq_fo, xf_1, xf_2, xs_1, xs_2, xs_same, xq_so, xj_1, xj_2, xj_same, xq_jo, xq_sa1, xq_same, xq_other, upd_s, oI_n, oI_s, xf_32_2 hF, xf_22_3 hF, n1, v3, s5, lN_pl, xf_22_0 hF, v2, i2l_n, xf_22_4 hF, v4]
  refine by_getf cn_82 fl_4_129 (by first | exact rfl | assumption) (by decide) ?_
  refine by_aload_n rfl ?_
  refine by_getf cn_82 fl_4_110 (by first | exact rfl | assumption) (by decide) ?_
  simp (disch := first | exact Nat.ne_of_beq_eq_false rfl | exact rfl | omega) only [nI_add, xa_sub, xa_mul, pk_div, nm_mod, xa_shr, xa_and7, xa_and1, xa_and255, xa_by_and, nI_m1, Nat.add_sub_cancel, Nat.reducePow, Nat.zero_add, Nat.add_zero, Nat.reduceAdd, Nat.reduceMul, Nat.reduceSub, xf_same, xq_ff, xq_fo, xf_1, xf_2, xs_1, xs_2, xs_same, xq_so, xj_1, xj_2, xj_same, xq_jo, xq_sa1, xq_same, xq_other, upd_s, oI_n, oI_s, xf_32_2 hF, xf_22_3 hF, n1, v3, s5, lN_pl, xf_22_0 hF, v2, i2l_n, xf_22_4 hF, v4]
  first | refine by_iald (by first | exact rfl | assumption | exact ps_1 hpp | exact ps_2 hpp | exact ps_3 hpp | exact ps_4 hpp | exact ps_5 hpp | exact ps_6 hpp | exact ps_7 hpp | exact ps_8 hpp | exact ps_9 hpp | exact ps_10 hpp | exact ps_11 hpp | exact ps_15 hpp | exact ps_16 hpp | exact ps_17 hpp | exact ps_18 hpp | exact ps_19 hpp | exact ps_21 hpp | exact ps_22 hpp | exact ps_23 hpp | exact ps_24 hpp) ⟨by omega, by omega⟩ ?_ | refine by_tald rfl rfl ⟨by omega, by omega⟩ ?_
  refine by_istore (by rw [ml_82]; decide) ?_
  refine by_aload_n rfl ?_
  refine by_dup rfl ?_
  refine by_getf cn_82 fl_4_42 (by first | exact rfl | assumption) (by decide) ?_
  refine by_lconst cl_1 ?_
  simp (disch := first | exact Nat.ne_of_beq_eq_false rfl | exact rfl | omega) only [nI_add, xa_sub, xa_mul, pk_div, nm_mod, xa_shr, xa_and7, xa_and1, xa_and255, xa_by_and, nI_m1, Nat.add_sub_cancel, Nat.reducePow, Nat.zero_add, Nat.add_zero, Nat.reduceAdd, Nat.reduceMul, Nat.reduceSub, xf_same, xq_ff, xq_fo, xf_1, xf_2, xs_1, xs_2, xs_same, xq_so, xj_1, xj_2, xj_same, xq_jo, xq_sa1, xq_same, xq_other, upd_s, oI_n, oI_s, xf_32_2 hF, xf_22_3 hF, n1, v3, s5, lN_pl, xf_22_0 hF, v2, i2l_n, xf_22_4 hF, v4]
  refine by_ladd ?_
  refine by_putf cn_82 fl_4_42 (by first | exact rfl | assumption) (by decide) nf_4_16 ft_4_16 (by first | rfl | assumption) (by first | rfl | assumption) ?_
  refine by_aload_n rfl ?_
  refine by_getf cn_82 fl_4_38 (by first | exact rfl | assumption) (by decide) ?_
  simp (disch := first | exact Nat.ne_of_beq_eq_false rfl | exact rfl | omega) only [nI_add, xa_sub, xa_mul, pk_div, nm_mod, xa_shr, xa_and7, xa_and1, xa_and255, xa_by_and, nI_m1, Nat.add_sub_cancel, Nat.reducePow, Nat.zero_add, Nat.add_zero, Nat.reduceAdd, Nat.reduceMul, Nat.reduceSub, xf_same, xq_ff, xq_fo, xf_1, xf_2, xs_1, xs_2, xs_same, xq_so, xj_1, xj_2, xj_same, xq_jo, xq_sa1, xq_same, xq_other, upd_s, oI_n, oI_s, xf_32_2 hF, xf_22_3 hF, n1, v3, s5, lN_pl, xf_22_0 hF, v2, i2l_n, xf_22_4 hF, v4]
  refine by_getf cn_82 fl_4_132 (by first | exact rfl | assumption) (by decide) ?_
  refine by_aload_n rfl ?_
  refine by_getf cn_82 fl_4_110 (by first | exact rfl | assumption) (by decide) ?_
  simp (disch := first | exact Nat.ne_of_beq_eq_false rfl | exact rfl | omega) only [nI_add, xa_sub, xa_mul, pk_div, nm_mod, xa_shr, xa_and7, xa_and1, xa_and255, xa_by_and, nI_m1, Nat.add_sub_cancel, Nat.reducePow, Nat.zero_add, Nat.add_zero, Nat.reduceAdd, Nat.reduceMul, Nat.reduceSub, xf_same, xq_ff, xq_fo, xf_1, xf_2, xs_1, xs_2, xs_same, xq_so, xj_1, xj_2, xj_same, xq_jo, xq_sa1, xq_same, xq_other, upd_s, oI_n, oI_s, xf_32_2 hF, xf_22_3 hF, n1, v3, s5, lN_pl, xf_22_0 hF, v2, i2l_n, xf_22_4 hF, v4]
  first | refine by_iald (by first | exact rfl | assumption | exact ps_1 hpp | exact ps_2 hpp | exact ps_3 hpp | exact ps_4 hpp | exact ps_5 hpp | exact ps_6 hpp | exact ps_7 hpp | exact ps_8 hpp | exact ps_9 hpp | exact ps_10 hpp | exact ps_11 hpp | exact ps_15 hpp | exact ps_16 hpp | exact ps_17 hpp | exact ps_18 hpp | exact ps_19 hpp | exact ps_21 hpp | exact ps_22 hpp | exact ps_23 hpp | exact ps_24 hpp) ⟨by omega, by omega⟩ ?_ | refine by_tald rfl rfl ⟨by omega, by omega⟩ ?_
  simp (disch := first | exact Nat.ne_of_beq_eq_false rfl | exact rfl | omega) only [nI_add, xa_sub, xa_mul, pk_div, nm_mod, xa_shr, xa_and7, xa_and1, xa_and255, xa_by_and, nI_m1, Nat.add_sub_cancel, Nat.reducePow, Nat.zero_add, Nat.add_zero, Nat.reduceAdd, Nat.reduceMul, Nat.reduceSub, xf_same, xq_ff, xq_fo, xf_1, xf_2, xs_1, xs_2, xs_same, xq_so, xj_1, xj_2, xj_same, xq_jo, xq_sa1, xq_same, xq_other, upd_s, oI_n, oI_s, xf_32_2 hF, xf_22_3 hF, n1, v3, s5, lN_pl, xf_22_0 hF, v2, i2l_n, xf_22_4 hF, v4]
  refine by_sw ?_
  simp (disch := first | exact Nat.ne_of_beq_eq_false rfl | exact rfl | omega) only [nI_add, xa_sub, xa_mul, pk_div, nm_mod, xa_shr, xa_and7, xa_and1, xa_and255, xa_by_and, nI_m1, Nat.add_sub_cancel, Nat.reducePow, Nat.zero_add, Nat.add_zero, Nat.reduceAdd, Nat.reduceMul, Nat.reduceSub, xf_same, xq_ff, xq_fo, xf_1, xf_2, xs_1, xs_2, xs_same, xq_so, xj_1, xj_2, xj_same, xq_jo, xq_sa1, xq_same, xq_other, upd_s, oI_n, oI_s, xv_0, xv_1, xv_2, xv_3, xm_p1, xm_p2, xq_fp, xq_fn, List.filter_nil, Nat.reduceBEq, Bool.not_true, Bool.not_false, Bool.and_true, Bool.and_false, Bool.false_and, Bool.true_and, if_true, if_false, Bool.false_eq_true, reduceIte, xc_i, xc_j, xc_r, xc_n, List.nil_append, List.cons_append, Option.toList_some, Option.toList_none, xf_32_2 hF, xf_22_3 hF, n1, v3, s5, lN_pl, xf_22_0 hF, v2, i2l_n, xf_22_4 hF, v4]
  refine xq_sw 452 (by decide) (by decide) ?_
  with_reducible refine xm_go_blk b_X4_follow_452 k_X4_follow_452 ?_
  refine by_aload_n rfl ?_
  refine by_aload_n rfl ?_
  refine by_iload rfl ?_
  refine by_inv2 cn_82 lk_4_159 (by rw [xe_cnt]; decide) is_81 np_81 cn_81 (by first | exact rfl | assumption) (Nat.le_of_ble_eq_true rfl) ?_
  refine xq_in rfl ?_
  simp only [xq_a0, xq_aI, xq_aJ, xq_aR, Nat.reduceAdd]
  with_reducible refine xm_go_blk b_X4_endAt_0 k_X4_endAt_0 ?_
  refine by_aload_n rfl ?_
  refine by_getf cn_81 fl_4_38 (by first | exact rfl | assumption) (by decide) ?_
  simp (disch := first | exact Nat.ne_of_beq_eq_false rfl | exact rfl | omega) only [nI_add, xa_sub, xa_mul, pk_div, nm_mod, xa_shr, xa_and7, xa_and1, xa_and255, xa_by_and, nI_m1, Nat.add_sub_cancel, Nat.reducePow, Nat.zero_add, Nat.add_zero, Nat.reduceAdd, Nat.reduceMul, Nat.reduceSub, xf_same, xq_ff, xq_fo, xf_1, xf_2, xs_1, xs_2, xs_same, xq_so, xj_1, xj_2, xj_same, xq_jo, xq_sa1, xq_same, xq_other, upd_s, oI_n, oI_s, xf_32_2 hF, xf_22_3 hF, n1, v3, s5, lN_pl, xf_22_0 hF, v2, i2l_n, xf_22_4 hF, v4]
  refine by_getf cn_81 fl_4_132 (by first | exact rfl | assumption) (by decide) ?_
  refine by_aload_n rfl ?_
  refine by_getf cn_81 fl_4_110 (by first | exact rfl | assumption) (by decide) ?_
  simp (disch := first | exact Nat.ne_of_beq_eq_false rfl | exact rfl | omega) only [nI_add, xa_sub, xa_mul, pk_div, nm_mod, xa_shr, xa_and7, xa_and1, xa_and255, xa_by_and, nI_m1, Nat.add_sub_cancel, Nat.reducePow, Nat.zero_add, Nat.add_zero, Nat.reduceAdd, Nat.reduceMul, Nat.reduceSub, xf_same, xq_ff, xq_fo, xf_1, xf_2, xs_1, xs_2, xs_same, xq_so, xj_1, xj_2, xj_same, xq_jo, xq_sa1, xq_same, xq_other, upd_s, oI_n, oI_s, xf_32_2 hF, xf_22_3 hF, n1, v3, s5, lN_pl, xf_22_0 hF, v2, i2l_n, xf_22_4 hF, v4]
  first | refine by_iald (by first | exact rfl | assumption | exact ps_1 hpp | exact ps_2 hpp | exact ps_3 hpp | exact ps_4 hpp | exact ps_5 hpp | exact ps_6 hpp | exact ps_7 hpp | exact ps_8 hpp | exact ps_9 hpp | exact ps_10 hpp | exact ps_11 hpp | exact ps_15 hpp | exact ps_16 hpp | exact ps_17 hpp | exact ps_18 hpp | exact ps_19 hpp | exact ps_21 hpp | exact ps_22 hpp | exact ps_23 hpp | exact ps_24 hpp) ⟨by omega, by omega⟩ ?_ | refine by_tald rfl rfl ⟨by omega, by omega⟩ ?_
  simp (disch := first | exact Nat.ne_of_beq_eq_false rfl | exact rfl | omega) only [nI_add, xa_sub, xa_mul, pk_div, nm_mod, xa_shr, xa_and7, xa_and1, xa_and255, xa_by_and, nI_m1, Nat.add_sub_cancel, Nat.reducePow, Nat.zero_add, Nat.add_zero, Nat.reduceAdd, Nat.reduceMul, Nat.reduceSub, xf_same, xq_ff, xq_fo, xf_1, xf_2, xs_1, xs_2, xs_same, xq_so, xj_1, xj_2, xj_same, xq_jo, xq_sa1, xq_same, xq_other, upd_s, oI_n, oI_s, xf_32_2 hF, xf_22_3 hF, n1, v3, s5, lN_pl, xf_22_0 hF, v2, i2l_n, xf_22_4 hF, v4]
  refine by_sw ?_
  refine xq_sw 83 (by decide) (by decide) ?_
  with_reducible refine xm_go_blk b_X4_endAt_83 k_X4_endAt_83 ?_
  refine by_aload_n rfl ?_
  refine by_dup rfl ?_
  refine by_getf cn_81 fl_4_42 (by first | exact rfl | assumption) (by decide) ?_
  refine by_aload_n rfl ?_
  refine by_getf cn_81 fl_4_38 (by first | exact rfl | assumption) (by decide) ?_
  simp (disch := first | exact Nat.ne_of_beq_eq_false rfl | exact rfl | omega) only [nI_add, xa_sub, xa_mul, pk_div, nm_mod, xa_shr, xa_and7, xa_and1, xa_and255, xa_by_and, nI_m1, Nat.add_sub_cancel, Nat.reducePow, Nat.zero_add, Nat.add_zero, Nat.reduceAdd, Nat.reduceMul, Nat.reduceSub, xf_same, xq_ff, xq_fo, xf_1, xf_2, xs_1, xs_2, xs_same, xq_so, xj_1, xj_2, xj_same, xq_jo, xq_sa1, xq_same, xq_other, upd_s, oI_n, oI_s, xf_32_2 hF, xf_22_3 hF, n1, v3, s5, lN_pl, xf_22_0 hF, v2, i2l_n, xf_22_4 hF, v4]
  refine by_getf cn_81 fl_4_139 (by first | exact rfl | assumption) (by decide) ?_
  refine by_aload_n rfl ?_
  refine by_getf cn_81 fl_4_110 (by first | exact rfl | assumption) (by decide) ?_
  simp (disch := first | exact Nat.ne_of_beq_eq_false rfl | exact rfl | omega) only [nI_add, xa_sub, xa_mul, pk_div, nm_mod, xa_shr, xa_and7, xa_and1, xa_and255, xa_by_and, nI_m1, Nat.add_sub_cancel, Nat.reducePow, Nat.zero_add, Nat.add_zero, Nat.reduceAdd, Nat.reduceMul, Nat.reduceSub, xf_same, xq_ff, xq_fo, xf_1, xf_2, xs_1, xs_2, xs_same, xq_so, xj_1, xj_2, xj_same, xq_jo, xq_sa1, xq_same, xq_other, upd_s, oI_n, oI_s, xf_32_2 hF, xf_22_3 hF, n1, v3, s5, lN_pl, xf_22_0 hF, v2, i2l_n, xf_22_4 hF, v4]
  first | refine by_iald (by first | exact rfl | assumption | exact ps_1 hpp | exact ps_2 hpp | exact ps_3 hpp | exact ps_4 hpp | exact ps_5 hpp | exact ps_6 hpp | exact ps_7 hpp | exact ps_8 hpp | exact ps_9 hpp | exact ps_10 hpp | exact ps_11 hpp | exact ps_15 hpp | exact ps_16 hpp | exact ps_17 hpp | exact ps_18 hpp | exact ps_19 hpp | exact ps_21 hpp | exact ps_22 hpp | exact ps_23 hpp | exact ps_24 hpp) ⟨by omega, by omega⟩ ?_ | refine by_tald rfl rfl ⟨by omega, by omega⟩ ?_
  refine by_i2l ?_
  refine by_ladd ?_
  refine by_putf cn_81 fl_4_42 (by first | exact rfl | assumption) (by decide) nf_4_16 ft_4_16 (by first | rfl | assumption) (by first | rfl | assumption) ?_
  refine by_aload_n rfl ?_
  refine by_aload_n rfl ?_
  refine by_iload_n rfl ?_
  refine by_aload_n rfl ?_
  refine by_getf cn_81 fl_4_38 (by first | exact rfl | assumption) (by decide) ?_
  simp (disch := first | exact Nat.ne_of_beq_eq_false rfl | exact rfl | omega) only [nI_add, xa_sub, xa_mul, pk_div, nm_mod, xa_shr, xa_and7, xa_and1, xa_and255, xa_by_and, nI_m1, Nat.add_sub_cancel, Nat.reducePow, Nat.zero_add, Nat.add_zero, Nat.reduceAdd, Nat.reduceMul, Nat.reduceSub, xf_same, xq_ff, xq_fo, xf_1, xf_2, xs_1, xs_2, xs_same, xq_so, xj_1, xj_2, xj_same, xq_jo, xq_sa1, xq_same, xq_other, upd_s, oI_n, oI_s, xf_32_2 hF, xf_22_3 hF, n1, v3, s5, lN_pl, xf_22_0 hF, v2, i2l_n, xf_22_4 hF, v4]
  refine by_getf cn_81 fl_4_139 (by first | exact rfl | assumption) (by decide) ?_
  refine by_aload_n rfl ?_
  refine by_getf cn_81 fl_4_110 (by first | exact rfl | assumption) (by decide) ?_
  simp (disch := first | exact Nat.ne_of_beq_eq_false rfl | exact rfl | omega) only [nI_add, xa_sub, xa_mul, pk_div, nm_mod, xa_shr, xa_and7, xa_and1, xa_and255, xa_by_and, nI_m1, Nat.add_sub_cancel, Nat.reducePow, Nat.zero_add, Nat.add_zero, Nat.reduceAdd, Nat.reduceMul, Nat.reduceSub, xf_same, xq_ff, xq_fo, xf_1, xf_2, xs_1, xs_2, xs_same, xq_so, xj_1, xj_2, xj_same, xq_jo, xq_sa1, xq_same, xq_other, upd_s, oI_n, oI_s, xf_32_2 hF, xf_22_3 hF, n1, v3, s5, lN_pl, xf_22_0 hF, v2, i2l_n, xf_22_4 hF, v4]
  first | refine by_iald (by first | exact rfl | assumption | exact ps_1 hpp | exact ps_2 hpp | exact ps_3 hpp | exact ps_4 hpp | exact ps_5 hpp | exact ps_6 hpp | exact ps_7 hpp | exact ps_8 hpp | exact ps_9 hpp | exact ps_10 hpp | exact ps_11 hpp | exact ps_15 hpp | exact ps_16 hpp | exact ps_17 hpp | exact ps_18 hpp | exact ps_19 hpp | exact ps_21 hpp | exact ps_22 hpp | exact ps_23 hpp | exact ps_24 hpp) ⟨by omega, by omega⟩ ?_ | refine by_tald rfl rfl ⟨by omega, by omega⟩ ?_
  simp (disch := first | exact Nat.ne_of_beq_eq_false rfl | exact rfl | omega) only [nI_add, xa_sub, xa_mul, pk_div, nm_mod, xa_shr, xa_and7, xa_and1, xa_and255, xa_by_and, nI_m1, Nat.add_sub_cancel, Nat.reducePow, Nat.zero_add, Nat.add_zero, Nat.reduceAdd, Nat.reduceMul, Nat.reduceSub, xf_same, xq_ff, xq_fo, xf_1, xf_2, xs_1, xs_2, xs_same, xq_so, xj_1, xj_2, xj_same, xq_jo, xq_sa1, xq_same, xq_other, upd_s, oI_n, oI_s, xv_0, xv_1, xv_2, xv_3, xm_p1, xm_p2, xq_fp, xq_fn, List.filter_nil, Nat.reduceBEq, Bool.not_true, Bool.not_false, Bool.and_true, Bool.and_false, Bool.false_and, Bool.true_and, if_true, if_false, Bool.false_eq_true, reduceIte, xc_i, xc_j, xc_r, xc_n, List.nil_append, List.cons_append, Option.toList_some, Option.toList_none, xf_32_2 hF, xf_22_3 hF, n1, v3, s5, lN_pl, xf_22_0 hF, v2, i2l_n, xf_22_4 hF, v4]
  refine by_inv3 cn_81 lk_4_172 (by rw [xe_cnt]; decide) is_80 np_80 cn_80 (by first | exact rfl | assumption) (Nat.le_of_ble_eq_true rfl) ?_
  have f1 : Fr mcR mcT h (xm_sf (xm_sf h 32 16 (.long (lN (sp + 1)))) 32 16 (.long (lN (sp + 1 + o)))) := Fr_sf (Fr_sf Fr_rf (by simp [mcT])) (by simp [mcT])
  have F1 := Fr_XF hF f1 mcT_fin
  have f01 := Fr_tr hf f1 (fun _ z => z) (fun _ z => z)
  have l1 := rowIs_fr hl f01 (by simp [mcR] <;> omega) (by simp [mcT] <;> omega) (by simp [mcT] <;> omega)
  refine sp_copyWitness (d := d + 2) (t := t) F1 (ps_12 hpp) (ps_13 hpp) l1 (by omega) (by omega) (by rw [← n3]; simp [xm_sf, updV]) hko (by omega) (fun h2 f2 b2 => ?_)
  with_reducible refine xm_go_blk b_X4_endAt_123 k_X4_endAt_123 ?_
  refine by_iconst ci_1 ?_
  refine by_iret ry_81 (by first | rfl | assumption) ?_
  with_reducible refine xm_go_blk b_X4_follow_459 k_X4_follow_459 ?_
  refine by_iret ry_82 (by first | rfl | assumption) ?_
  refine bg_leaf (h := h) (n := n) (t := t) (b := b) (g := g) (s := 1 + o) (sp := sp) (Fr_tr f01 f2 (by simp [mcR]) (by simp)) (Fr_XF F1 f2 (by decide +kernel)) (mSt_fr (h := xm_sf (xm_sf h 32 16 (.long (lN (sp + 1)))) 32 16 (.long (lN (sp + 1 + o)))) ⟨by rw [← s1]; simp [xm_sf, updV], wtS_o s2 (fun _ _ => ⟨rfl, rfl, rfl, rfl, rfl⟩), by rw [← s3]; simp [xm_sf, updV], by rw [← s4]; simp [xm_sf, updV], by rw [show sp + (1 + o) = sp + 1 + o by omega]; simp [xm_sf, updV]⟩ f2 (by simp) (by simp) (by simp) (by simp) (by simp) (by simp) (by simp) (by simp) (by simp)) b2 (by rw [mc_rd_len, ht]) hb q5 q6 (fun h' tn' ht' F' f' S' b' o' => hyes _ _ 0 0 rfl h' tn' ht' F' f' S' b' o')
end BG
