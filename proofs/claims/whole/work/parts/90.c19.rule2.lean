/-! ===== Finder: rules of nodes, one by one ===== -/
theorem gr_set {h1 : xm_H} {pp n c : Nat} {s t : Int32} {k l r rt : Nat → Nat} {es : List (Nat × Nat)} (hpp : pp = 52 ∨ pp = 77) (hg : gr h1 c k l r rt es) : gr (xm_si (xm_si h1 (pp + 6) n s) (pp + 7) n t) c k l r rt es :=
  gr_fr hg (Fr_si (Fr_si (Fr_rf (S := [pp + 6, pp + 7]) (T := [])) (by simp)) (by simp)) (by simp) (by simp <;> omega) (by simp <;> omega) (by simp <;> omega) (by simp <;> omega) (by simp <;> omega)
theorem Fr_gr {pp : Nat} {h h1 : xm_H} (hf : Fr grR grT h h1) : Fr (rlR pp) grT h h1 := Fr_mo hf (by simp [grR, rlR]) (fun _ q => q)
theorem Fr_set {h h1 : xm_H} {pp n : Nat} {s t : Int32} (hf : Fr (rlR pp) grT h h1) : Fr (rlR pp) grT h (xm_si (xm_si h1 (pp + 6) n s) (pp + 7) n t) := Fr_si (Fr_si hf (by simp [rlR])) (by simp [rlR])
theorem Fr_g2 {h h1 h2 : xm_H} (a : Fr grR grT h h1) (b : Fr grR grT h1 h2) : Fr grR grT h h2 := Fr_tr a b (fun _ q => q) (fun _ q => q)
theorem gr_pp {h h1 : xm_H} {pp : Nat} (hpp : pp = 52 ∨ pp = 77) (hf : Fr grR grT h h1) : h1.1 (pp + 6) = h.1 (pp + 6) ∧ h1.1 (pp + 7) = h.1 (pp + 7) := ⟨hf.1 _ (by simp [grR] <;> omega), hf.1 _ (by simp [grR] <;> omega)⟩
section RUL
variable {sc : xm_Sc} {d pp N n : Nat} {cd fi se nu : Nat → Nat} {L : List Nat} {c : Nat} {k l r rt : Nat → Nat} {es : List (Nat × Nat)} {src tgt : Nat → Nat} {h : xm_H} {post : xm_Po}
theorem rl_7 (hI : tsI h pp N cd fi se nu L c k l r rt es src tgt) (hn : n < N) (hnL : n ∉ L) (hl : L.length < 2000) (hch : ∀ m ∈ L, (cd m ≤ 6 → fi m ≠ n) ∧ (cd m ≤ 2 → se m ≠ n)) (hc : cd n = 7) (hP : rlP pp N n cd fi se nu L h post) : xm_T (XE sc) (d + 4) 46 [.ref 15, .ref pp, .int (nI n)] h post := by
  have hI0 := hI
  obtain ⟨i1, hpp, i3, i4, i5, i6, i7, i8, i9, i10, i11⟩ := hI0
  obtain ⟨a1, a2, a3, a4, a5, a6, a7⟩ := i3 n hn
  have hs5 := i5
  have b2 := a4 (by omega)
  have b3 := a6 (by omega)
  refine xq_in rfl ?_
  simp only [xq_a0, xq_aI, xq_aJ, xq_aR, Nat.reduceAdd]
  rw [hc] at a1
  with_reducible refine xm_go_blk b_X1_rule_0 k_X1_rule_0 ?_
  refine by_aload_n rfl ?_
  refine by_getf cn_46 fl_1_70 (by first | exact rfl | assumption | exact ps_0 hpp) (by decide) ?_
  refine by_iload_n rfl ?_
  simp (disch := first | exact Nat.ne_of_beq_eq_false rfl | omega) only [nI_add, xa_sub, xa_mul, pk_div, nm_mod, xa_shr, xa_and7, xa_and1, xa_and255, xa_by_and, nI_m1, Nat.add_sub_cancel, Nat.reducePow, Nat.zero_add, Nat.add_zero, Nat.reduceAdd, Nat.reduceMul, Nat.reduceSub, xf_same, xq_ff, xq_fo, xf_1, xf_2, xs_1, xs_2, xs_same, xq_so, xj_1, xj_2, xj_same, xq_jo, xq_sa1, xq_same, xq_other, upd_s, oI_n, oI_s, pf_1 i1 hpp, pf_2 i1 hpp, pf_3 i1 hpp, a1, b2, b3]
  first | refine by_iald (by first | exact rfl | assumption | exact ps_1 hpp | exact ps_2 hpp | exact ps_3 hpp | exact ps_4 hpp | exact ps_5 hpp | exact ps_6 hpp | exact ps_7 hpp | exact ps_8 hpp | exact ps_9 hpp | exact ps_10 hpp | exact ps_11 hpp | exact ps_15 hpp | exact ps_16 hpp | exact ps_17 hpp | exact ps_18 hpp | exact ps_19 hpp | exact ps_21 hpp | exact ps_22 hpp | exact ps_23 hpp | exact ps_24 hpp) ⟨by omega, by omega⟩ ?_ | refine by_tald rfl rfl ⟨by omega, by omega⟩ ?_
  refine by_istore_n (by rw [ml_46]; decide) ?_
  refine by_aload_n rfl ?_
  refine by_getf cn_46 fl_1_73 (by first | exact rfl | assumption | exact ps_0 hpp) (by decide) ?_
  refine by_iload_n rfl ?_
  simp (disch := first | exact Nat.ne_of_beq_eq_false rfl | omega) only [nI_add, xa_sub, xa_mul, pk_div, nm_mod, xa_shr, xa_and7, xa_and1, xa_and255, xa_by_and, nI_m1, Nat.add_sub_cancel, Nat.reducePow, Nat.zero_add, Nat.add_zero, Nat.reduceAdd, Nat.reduceMul, Nat.reduceSub, xf_same, xq_ff, xq_fo, xf_1, xf_2, xs_1, xs_2, xs_same, xq_so, xj_1, xj_2, xj_same, xq_jo, xq_sa1, xq_same, xq_other, upd_s, oI_n, oI_s, pf_1 i1 hpp, pf_2 i1 hpp, pf_3 i1 hpp, a1, b2, b3]
  first | refine by_iald (by first | exact rfl | assumption | exact ps_1 hpp | exact ps_2 hpp | exact ps_3 hpp | exact ps_4 hpp | exact ps_5 hpp | exact ps_6 hpp | exact ps_7 hpp | exact ps_8 hpp | exact ps_9 hpp | exact ps_10 hpp | exact ps_11 hpp | exact ps_15 hpp | exact ps_16 hpp | exact ps_17 hpp | exact ps_18 hpp | exact ps_19 hpp | exact ps_21 hpp | exact ps_22 hpp | exact ps_23 hpp | exact ps_24 hpp) ⟨by omega, by omega⟩ ?_ | refine by_tald rfl rfl ⟨by omega, by omega⟩ ?_
  refine by_istore (by rw [ml_46]; decide) ?_
  refine by_aload_n rfl ?_
  refine by_getf cn_46 fl_1_53 (by first | exact rfl | assumption | exact ps_0 hpp) (by decide) ?_
  refine by_iload_n rfl ?_
  simp (disch := first | exact Nat.ne_of_beq_eq_false rfl | omega) only [nI_add, xa_sub, xa_mul, pk_div, nm_mod, xa_shr, xa_and7, xa_and1, xa_and255, xa_by_and, nI_m1, Nat.add_sub_cancel, Nat.reducePow, Nat.zero_add, Nat.add_zero, Nat.reduceAdd, Nat.reduceMul, Nat.reduceSub, xf_same, xq_ff, xq_fo, xf_1, xf_2, xs_1, xs_2, xs_same, xq_so, xj_1, xj_2, xj_same, xq_jo, xq_sa1, xq_same, xq_other, upd_s, oI_n, oI_s, pf_1 i1 hpp, pf_2 i1 hpp, pf_3 i1 hpp, a1, b2, b3]
  first | refine by_iald (by first | exact rfl | assumption | exact ps_1 hpp | exact ps_2 hpp | exact ps_3 hpp | exact ps_4 hpp | exact ps_5 hpp | exact ps_6 hpp | exact ps_7 hpp | exact ps_8 hpp | exact ps_9 hpp | exact ps_10 hpp | exact ps_11 hpp | exact ps_15 hpp | exact ps_16 hpp | exact ps_17 hpp | exact ps_18 hpp | exact ps_19 hpp | exact ps_21 hpp | exact ps_22 hpp | exact ps_23 hpp | exact ps_24 hpp) ⟨by omega, by omega⟩ ?_ | refine by_tald rfl rfl ⟨by omega, by omega⟩ ?_
  simp (disch := first | exact Nat.ne_of_beq_eq_false rfl | omega) only [nI_add, xa_sub, xa_mul, pk_div, nm_mod, xa_shr, xa_and7, xa_and1, xa_and255, xa_by_and, nI_m1, Nat.add_sub_cancel, Nat.reducePow, Nat.zero_add, Nat.add_zero, Nat.reduceAdd, Nat.reduceMul, Nat.reduceSub, xf_same, xq_ff, xq_fo, xf_1, xf_2, xs_1, xs_2, xs_same, xq_so, xj_1, xj_2, xj_same, xq_jo, xq_sa1, xq_same, xq_other, upd_s, oI_n, oI_s, pf_1 i1 hpp, pf_2 i1 hpp, pf_3 i1 hpp, a1, b2, b3]
  refine by_sw ?_
  simp (disch := first | exact Nat.ne_of_beq_eq_false rfl | omega) only [nI_add, xa_sub, xa_mul, pk_div, nm_mod, xa_shr, xa_and7, xa_and1, xa_and255, xa_by_and, nI_m1, Nat.add_sub_cancel, Nat.reducePow, Nat.zero_add, Nat.add_zero, Nat.reduceAdd, Nat.reduceMul, Nat.reduceSub, xf_same, xq_ff, xq_fo, xf_1, xf_2, xs_1, xs_2, xs_same, xq_so, xj_1, xj_2, xj_same, xq_jo, xq_sa1, xq_same, xq_other, upd_s, oI_n, oI_s, xv_0, xv_1, xv_2, xv_3, xm_p1, xm_p2, List.filter_cons, List.filter_nil, Nat.reduceBEq, Bool.not_true, Bool.not_false, Bool.and_true, Bool.and_false, Bool.false_and, Bool.true_and, if_true, if_false, Bool.false_eq_true, reduceIte, xc_i, xc_j, xc_r, xc_n, List.nil_append, List.cons_append, Option.toList_some, Option.toList_none, pf_1 i1 hpp, pf_2 i1 hpp, pf_3 i1 hpp, a1, b2, b3]
  refine xq_sw 293 (by decide) (by decide) ?_
  with_reducible refine xm_go_blk b_X1_rule_293 k_X1_rule_293 ?_
  refine by_aload_n rfl ?_
  refine by_inv0 cn_46 lk_1_92 (by rw [xe_cnt]; decide) is_43 np_43 cn_43 (by first | exact rfl | assumption) (Nat.le_of_ble_eq_true rfl) ?_
  refine sp_open i1 i4 (by omega) (fun h1 g1 g2 => ?_)
  have j1 : XF h1 := Fr_XF i1 g1 rl_fin
  with_reducible refine xm_go_blk b_X1_rule_297 k_X1_rule_297 ?_
  refine by_istore (by rw [ml_46]; decide) ?_
  refine by_aload_n rfl ?_
  refine by_iload_n rfl ?_
  refine by_iload rfl ?_
  refine by_iload rfl ?_
  simp (disch := first | exact Nat.ne_of_beq_eq_false rfl | omega) only [nI_add, xa_sub, xa_mul, pk_div, nm_mod, xa_shr, xa_and7, xa_and1, xa_and255, xa_by_and, nI_m1, Nat.add_sub_cancel, Nat.reducePow, Nat.zero_add, Nat.add_zero, Nat.reduceAdd, Nat.reduceMul, Nat.reduceSub, xf_same, xq_ff, xq_fo, xf_1, xf_2, xs_1, xs_2, xs_same, xq_so, xj_1, xj_2, xj_same, xq_jo, xq_sa1, xq_same, xq_other, upd_s, oI_n, oI_s, xv_0, xv_1, xv_2, xv_3, xm_p1, xm_p2, List.filter_cons, List.filter_nil, Nat.reduceBEq, Bool.not_true, Bool.not_false, Bool.and_true, Bool.and_false, Bool.false_and, Bool.true_and, if_true, if_false, Bool.false_eq_true, reduceIte, xc_i, xc_j, xc_r, xc_n, List.nil_append, List.cons_append, Option.toList_some, Option.toList_none]
  refine by_ins4 cn_46 lk_1_76 (by rw [xe_cnt]; decide) is_47 np_47 (Nat.le_of_ble_eq_true rfl) ?_
  refine rl_set hpp j1 (by omega) ?_
  with_reducible refine xm_go_blk b_X1_rule_308 k_X1_rule_308 ?_
  refine by_iconst ci_1 ?_
  refine by_iret ry_46 (by first | rfl | assumption) ?_
  refine hP.1 _ _ _ _ _ _ _ _ _ (Fr_set (Fr_gr g1)) (tsI_new (s := c) (t := c) hI hn hnL hl (Fr_set (Fr_gr g1)) (gr_set hpp g2) ?_ updN_tx (by omega) (fun _ => rl_sn) (fun m hm => by rw [(rl_ss hm).1, (rl_ss hm).2, (gr_pp hpp g1).1, (gr_pp hpp g1).2]; exact ⟨rfl, rfl⟩))
  refine tyS_add i5 updN_tx (fun t h1 h2 => ?_) (fun q hq => Or.inl hq) (fun q hq => hq) hnL hch (fun _ => ⟨by omega, by omega⟩) (fun f hf => ?_) (fun S T V hs ht hr v1 v2 v3 v4 => ⟨tvx V c [S n], tvx_ok v1 (by simp only [List.mem_singleton]; rintro a rfl; exact hs n), fun t ht => tvx_o ht, fun t h1 h2 => ?_, tx_pd i5.2.1 v3 (fun t ht => tvx_o ht), fun _ => ?_⟩)
  · have : t = c := by omega
    subst this
    rw [updN_s]; exact ⟨by decide, fun q => absurd q (by decide)⟩
  · refine ⟨fun e => ?_, fun e => ?_, fun e => ?_, fun e => ?_, fun e => ?_, fun e => ?_, fun e => ?_, fun e => ?_, fun e => ?_, fun e => ?_⟩ <;> first | (exfalso; omega) | skip
    rw [updN_s, updN_s]
  · have : t = c := by omega
    subst this
    rw [updN_s]; exact ⟨nofun, nofun, nofun⟩
  · have e := tvx_n (V := V) (c := c) (i := 0) (g := [S n])
    rw [Nat.add_zero] at e
    rw [e]
    exact ⟨rfl, (hr.2.2.2.2.2.2.2.1 hc).symm⟩
theorem rl_8 (hI : tsI h pp N cd fi se nu L c k l r rt es src tgt) (hn : n < N) (hnL : n ∉ L) (hl : L.length < 2000) (hch : ∀ m ∈ L, (cd m ≤ 6 → fi m ≠ n) ∧ (cd m ≤ 2 → se m ≠ n)) (hc : cd n = 8) (hP : rlP pp N n cd fi se nu L h post) : xm_T (XE sc) (d + 4) 46 [.ref 15, .ref pp, .int (nI n)] h post := by
  have hI0 := hI
  obtain ⟨i1, hpp, i3, i4, i5, i6, i7, i8, i9, i10, i11⟩ := hI0
  obtain ⟨a1, a2, a3, a4, a5, a6, a7⟩ := i3 n hn
  have hs5 := i5
  have b2 := a4 (by omega)
  have b3 := a6 (by omega)
  refine xq_in rfl ?_
  simp only [xq_a0, xq_aI, xq_aJ, xq_aR, Nat.reduceAdd]
  rw [hc] at a1
  have z1 := i10 0 0 (by decide) (by decide)
  with_reducible refine xm_go_blk b_X1_rule_0 k_X1_rule_0 ?_
  refine by_aload_n rfl ?_
  refine by_getf cn_46 fl_1_70 (by first | exact rfl | assumption | exact ps_0 hpp) (by decide) ?_
  refine by_iload_n rfl ?_
  simp (disch := first | exact Nat.ne_of_beq_eq_false rfl | omega) only [nI_add, xa_sub, xa_mul, pk_div, nm_mod, xa_shr, xa_and7, xa_and1, xa_and255, xa_by_and, nI_m1, Nat.add_sub_cancel, Nat.reducePow, Nat.zero_add, Nat.add_zero, Nat.reduceAdd, Nat.reduceMul, Nat.reduceSub, xf_same, xq_ff, xq_fo, xf_1, xf_2, xs_1, xs_2, xs_same, xq_so, xj_1, xj_2, xj_same, xq_jo, xq_sa1, xq_same, xq_other, upd_s, oI_n, oI_s, pf_1 i1 hpp, pf_2 i1 hpp, pf_3 i1 hpp, a1, b2, b3]
  first | refine by_iald (by first | exact rfl | assumption | exact ps_1 hpp | exact ps_2 hpp | exact ps_3 hpp | exact ps_4 hpp | exact ps_5 hpp | exact ps_6 hpp | exact ps_7 hpp | exact ps_8 hpp | exact ps_9 hpp | exact ps_10 hpp | exact ps_11 hpp | exact ps_15 hpp | exact ps_16 hpp | exact ps_17 hpp | exact ps_18 hpp | exact ps_19 hpp | exact ps_21 hpp | exact ps_22 hpp | exact ps_23 hpp | exact ps_24 hpp) ⟨by omega, by omega⟩ ?_ | refine by_tald rfl rfl ⟨by omega, by omega⟩ ?_
  refine by_istore_n (by rw [ml_46]; decide) ?_
  refine by_aload_n rfl ?_
  refine by_getf cn_46 fl_1_73 (by first | exact rfl | assumption | exact ps_0 hpp) (by decide) ?_
  refine by_iload_n rfl ?_
  simp (disch := first | exact Nat.ne_of_beq_eq_false rfl | omega) only [nI_add, xa_sub, xa_mul, pk_div, nm_mod, xa_shr, xa_and7, xa_and1, xa_and255, xa_by_and, nI_m1, Nat.add_sub_cancel, Nat.reducePow, Nat.zero_add, Nat.add_zero, Nat.reduceAdd, Nat.reduceMul, Nat.reduceSub, xf_same, xq_ff, xq_fo, xf_1, xf_2, xs_1, xs_2, xs_same, xq_so, xj_1, xj_2, xj_same, xq_jo, xq_sa1, xq_same, xq_other, upd_s, oI_n, oI_s, pf_1 i1 hpp, pf_2 i1 hpp, pf_3 i1 hpp, a1, b2, b3]
  first | refine by_iald (by first | exact rfl | assumption | exact ps_1 hpp | exact ps_2 hpp | exact ps_3 hpp | exact ps_4 hpp | exact ps_5 hpp | exact ps_6 hpp | exact ps_7 hpp | exact ps_8 hpp | exact ps_9 hpp | exact ps_10 hpp | exact ps_11 hpp | exact ps_15 hpp | exact ps_16 hpp | exact ps_17 hpp | exact ps_18 hpp | exact ps_19 hpp | exact ps_21 hpp | exact ps_22 hpp | exact ps_23 hpp | exact ps_24 hpp) ⟨by omega, by omega⟩ ?_ | refine by_tald rfl rfl ⟨by omega, by omega⟩ ?_
  refine by_istore (by rw [ml_46]; decide) ?_
  refine by_aload_n rfl ?_
  refine by_getf cn_46 fl_1_53 (by first | exact rfl | assumption | exact ps_0 hpp) (by decide) ?_
  refine by_iload_n rfl ?_
  simp (disch := first | exact Nat.ne_of_beq_eq_false rfl | omega) only [nI_add, xa_sub, xa_mul, pk_div, nm_mod, xa_shr, xa_and7, xa_and1, xa_and255, xa_by_and, nI_m1, Nat.add_sub_cancel, Nat.reducePow, Nat.zero_add, Nat.add_zero, Nat.reduceAdd, Nat.reduceMul, Nat.reduceSub, xf_same, xq_ff, xq_fo, xf_1, xf_2, xs_1, xs_2, xs_same, xq_so, xj_1, xj_2, xj_same, xq_jo, xq_sa1, xq_same, xq_other, upd_s, oI_n, oI_s, pf_1 i1 hpp, pf_2 i1 hpp, pf_3 i1 hpp, a1, b2, b3]
  first | refine by_iald (by first | exact rfl | assumption | exact ps_1 hpp | exact ps_2 hpp | exact ps_3 hpp | exact ps_4 hpp | exact ps_5 hpp | exact ps_6 hpp | exact ps_7 hpp | exact ps_8 hpp | exact ps_9 hpp | exact ps_10 hpp | exact ps_11 hpp | exact ps_15 hpp | exact ps_16 hpp | exact ps_17 hpp | exact ps_18 hpp | exact ps_19 hpp | exact ps_21 hpp | exact ps_22 hpp | exact ps_23 hpp | exact ps_24 hpp) ⟨by omega, by omega⟩ ?_ | refine by_tald rfl rfl ⟨by omega, by omega⟩ ?_
  simp (disch := first | exact Nat.ne_of_beq_eq_false rfl | omega) only [nI_add, xa_sub, xa_mul, pk_div, nm_mod, xa_shr, xa_and7, xa_and1, xa_and255, xa_by_and, nI_m1, Nat.add_sub_cancel, Nat.reducePow, Nat.zero_add, Nat.add_zero, Nat.reduceAdd, Nat.reduceMul, Nat.reduceSub, xf_same, xq_ff, xq_fo, xf_1, xf_2, xs_1, xs_2, xs_same, xq_so, xj_1, xj_2, xj_same, xq_jo, xq_sa1, xq_same, xq_other, upd_s, oI_n, oI_s, pf_1 i1 hpp, pf_2 i1 hpp, pf_3 i1 hpp, a1, b2, b3]
  refine by_sw ?_
  simp (disch := first | exact Nat.ne_of_beq_eq_false rfl | omega) only [nI_add, xa_sub, xa_mul, pk_div, nm_mod, xa_shr, xa_and7, xa_and1, xa_and255, xa_by_and, nI_m1, Nat.add_sub_cancel, Nat.reducePow, Nat.zero_add, Nat.add_zero, Nat.reduceAdd, Nat.reduceMul, Nat.reduceSub, xf_same, xq_ff, xq_fo, xf_1, xf_2, xs_1, xs_2, xs_same, xq_so, xj_1, xj_2, xj_same, xq_jo, xq_sa1, xq_same, xq_other, upd_s, oI_n, oI_s, xv_0, xv_1, xv_2, xv_3, xm_p1, xm_p2, List.filter_cons, List.filter_nil, Nat.reduceBEq, Bool.not_true, Bool.not_false, Bool.and_true, Bool.and_false, Bool.false_and, Bool.true_and, if_true, if_false, Bool.false_eq_true, reduceIte, xc_i, xc_j, xc_r, xc_n, List.nil_append, List.cons_append, Option.toList_some, Option.toList_none, pf_1 i1 hpp, pf_2 i1 hpp, pf_3 i1 hpp, a1, b2, b3]
  refine xq_sw 310 (by decide) (by decide) ?_
  with_reducible refine xm_go_blk b_X1_rule_310 k_X1_rule_310 ?_
  refine by_aload_n rfl ?_
  refine by_iload_n rfl ?_
  refine by_aload_n rfl ?_
  refine by_inv0 cn_46 lk_1_92 (by rw [xe_cnt]; decide) is_43 np_43 cn_43 (by first | exact rfl | assumption) (Nat.le_of_ble_eq_true rfl) ?_
  refine sp_open i1 i4 (by omega) (fun h1 g1 g2 => ?_)
  have j1 : XF h1 := Fr_XF i1 g1 rl_fin
  with_reducible refine xm_go_blk b_X1_rule_316 k_X1_rule_316 ?_
  refine by_iconst ci_0 ?_
  refine by_ins4 cn_46 lk_1_76 (by rw [xe_cnt]; decide) is_47 np_47 (Nat.le_of_ble_eq_true rfl) ?_
  refine rl_set hpp j1 (by omega) ?_
  with_reducible refine xm_go_blk b_X1_rule_320 k_X1_rule_320 ?_
  refine by_iconst ci_1 ?_
  refine by_iret ry_46 (by first | rfl | assumption) ?_
  refine hP.1 _ _ _ _ _ _ _ _ _ (Fr_set (Fr_gr g1)) (tsI_new (s := c) (t := 0) hI hn hnL hl (Fr_set (Fr_gr g1)) (gr_set hpp g2) ?_ updN_tx (by omega) (fun _ => rl_sn) (fun m hm => by rw [(rl_ss hm).1, (rl_ss hm).2, (gr_pp hpp g1).1, (gr_pp hpp g1).2]; exact ⟨rfl, rfl⟩))
  refine tyS_add i5 updN_tx (fun t h1 h2 => ?_) (fun q hq => Or.inl hq) (fun q hq => hq) hnL hch (fun _ => ⟨by omega, by omega⟩) (fun f hf => ?_) (fun S T V hs ht hr v1 v2 v3 v4 => ⟨tvx V c [S n], tvx_ok v1 (by simp only [List.mem_singleton]; rintro a rfl; exact hs n), fun t ht => tvx_o ht, fun t h1 h2 => ?_, tx_pd i5.2.1 v3 (fun t ht => tvx_o ht), fun _ => ?_⟩)
  · have : t = c := by omega
    subst this
    rw [updN_s]; exact ⟨by decide, fun q => absurd q (by decide)⟩
  · refine ⟨fun e => ?_, fun e => ?_, fun e => ?_, fun e => ?_, fun e => ?_, fun e => ?_, fun e => ?_, fun e => ?_, fun e => ?_, fun e => ?_⟩ <;> first | (exfalso; omega) | skip
    rw [updN_s, updN_o (by omega)]
    exact ⟨by omega, z1.2⟩
  · have : t = c := by omega
    subst this
    rw [updN_s]; exact ⟨nofun, nofun, nofun⟩
  · have e := tvx_n (V := V) (c := c) (i := 0) (g := [S n])
    rw [Nat.add_zero] at e
    rw [e, tvx_o (by omega), (v2 0 (by omega)).1 z1.2]
    exact ⟨rfl, (hr.2.2.2.2.2.2.2.2.1 hc).symm⟩
theorem rl_9 (hI : tsI h pp N cd fi se nu L c k l r rt es src tgt) (hn : n < N) (hnL : n ∉ L) (hl : L.length < 2000) (hch : ∀ m ∈ L, (cd m ≤ 6 → fi m ≠ n) ∧ (cd m ≤ 2 → se m ≠ n)) (hc : cd n = 9) (hP : rlP pp N n cd fi se nu L h post) : xm_T (XE sc) (d + 4) 46 [.ref 15, .ref pp, .int (nI n)] h post := by
  have hI0 := hI
  obtain ⟨i1, hpp, i3, i4, i5, i6, i7, i8, i9, i10, i11⟩ := hI0
  obtain ⟨a1, a2, a3, a4, a5, a6, a7⟩ := i3 n hn
  have hs5 := i5
  have b2 := a4 (by omega)
  have b3 := a6 (by omega)
  refine xq_in rfl ?_
  simp only [xq_a0, xq_aI, xq_aJ, xq_aR, Nat.reduceAdd]
  rw [hc] at a1
  with_reducible refine xm_go_blk b_X1_rule_0 k_X1_rule_0 ?_
  refine by_aload_n rfl ?_
  refine by_getf cn_46 fl_1_70 (by first | exact rfl | assumption | exact ps_0 hpp) (by decide) ?_
  refine by_iload_n rfl ?_
  simp (disch := first | exact Nat.ne_of_beq_eq_false rfl | omega) only [nI_add, xa_sub, xa_mul, pk_div, nm_mod, xa_shr, xa_and7, xa_and1, xa_and255, xa_by_and, nI_m1, Nat.add_sub_cancel, Nat.reducePow, Nat.zero_add, Nat.add_zero, Nat.reduceAdd, Nat.reduceMul, Nat.reduceSub, xf_same, xq_ff, xq_fo, xf_1, xf_2, xs_1, xs_2, xs_same, xq_so, xj_1, xj_2, xj_same, xq_jo, xq_sa1, xq_same, xq_other, upd_s, oI_n, oI_s, pf_1 i1 hpp, pf_2 i1 hpp, pf_3 i1 hpp, a1, b2, b3]
  first | refine by_iald (by first | exact rfl | assumption | exact ps_1 hpp | exact ps_2 hpp | exact ps_3 hpp | exact ps_4 hpp | exact ps_5 hpp | exact ps_6 hpp | exact ps_7 hpp | exact ps_8 hpp | exact ps_9 hpp | exact ps_10 hpp | exact ps_11 hpp | exact ps_15 hpp | exact ps_16 hpp | exact ps_17 hpp | exact ps_18 hpp | exact ps_19 hpp | exact ps_21 hpp | exact ps_22 hpp | exact ps_23 hpp | exact ps_24 hpp) ⟨by omega, by omega⟩ ?_ | refine by_tald rfl rfl ⟨by omega, by omega⟩ ?_
  refine by_istore_n (by rw [ml_46]; decide) ?_
  refine by_aload_n rfl ?_
  refine by_getf cn_46 fl_1_73 (by first | exact rfl | assumption | exact ps_0 hpp) (by decide) ?_
  refine by_iload_n rfl ?_
  simp (disch := first | exact Nat.ne_of_beq_eq_false rfl | omega) only [nI_add, xa_sub, xa_mul, pk_div, nm_mod, xa_shr, xa_and7, xa_and1, xa_and255, xa_by_and, nI_m1, Nat.add_sub_cancel, Nat.reducePow, Nat.zero_add, Nat.add_zero, Nat.reduceAdd, Nat.reduceMul, Nat.reduceSub, xf_same, xq_ff, xq_fo, xf_1, xf_2, xs_1, xs_2, xs_same, xq_so, xj_1, xj_2, xj_same, xq_jo, xq_sa1, xq_same, xq_other, upd_s, oI_n, oI_s, pf_1 i1 hpp, pf_2 i1 hpp, pf_3 i1 hpp, a1, b2, b3]
  first | refine by_iald (by first | exact rfl | assumption | exact ps_1 hpp | exact ps_2 hpp | exact ps_3 hpp | exact ps_4 hpp | exact ps_5 hpp | exact ps_6 hpp | exact ps_7 hpp | exact ps_8 hpp | exact ps_9 hpp | exact ps_10 hpp | exact ps_11 hpp | exact ps_15 hpp | exact ps_16 hpp | exact ps_17 hpp | exact ps_18 hpp | exact ps_19 hpp | exact ps_21 hpp | exact ps_22 hpp | exact ps_23 hpp | exact ps_24 hpp) ⟨by omega, by omega⟩ ?_ | refine by_tald rfl rfl ⟨by omega, by omega⟩ ?_
  refine by_istore (by rw [ml_46]; decide) ?_
  refine by_aload_n rfl ?_
  refine by_getf cn_46 fl_1_53 (by first | exact rfl | assumption | exact ps_0 hpp) (by decide) ?_
  refine by_iload_n rfl ?_
  simp (disch := first | exact Nat.ne_of_beq_eq_false rfl | omega) only [nI_add, xa_sub, xa_mul, pk_div, nm_mod, xa_shr, xa_and7, xa_and1, xa_and255, xa_by_and, nI_m1, Nat.add_sub_cancel, Nat.reducePow, Nat.zero_add, Nat.add_zero, Nat.reduceAdd, Nat.reduceMul, Nat.reduceSub, xf_same, xq_ff, xq_fo, xf_1, xf_2, xs_1, xs_2, xs_same, xq_so, xj_1, xj_2, xj_same, xq_jo, xq_sa1, xq_same, xq_other, upd_s, oI_n, oI_s, pf_1 i1 hpp, pf_2 i1 hpp, pf_3 i1 hpp, a1, b2, b3]
  first | refine by_iald (by first | exact rfl | assumption | exact ps_1 hpp | exact ps_2 hpp | exact ps_3 hpp | exact ps_4 hpp | exact ps_5 hpp | exact ps_6 hpp | exact ps_7 hpp | exact ps_8 hpp | exact ps_9 hpp | exact ps_10 hpp | exact ps_11 hpp | exact ps_15 hpp | exact ps_16 hpp | exact ps_17 hpp | exact ps_18 hpp | exact ps_19 hpp | exact ps_21 hpp | exact ps_22 hpp | exact ps_23 hpp | exact ps_24 hpp) ⟨by omega, by omega⟩ ?_ | refine by_tald rfl rfl ⟨by omega, by omega⟩ ?_
  simp (disch := first | exact Nat.ne_of_beq_eq_false rfl | omega) only [nI_add, xa_sub, xa_mul, pk_div, nm_mod, xa_shr, xa_and7, xa_and1, xa_and255, xa_by_and, nI_m1, Nat.add_sub_cancel, Nat.reducePow, Nat.zero_add, Nat.add_zero, Nat.reduceAdd, Nat.reduceMul, Nat.reduceSub, xf_same, xq_ff, xq_fo, xf_1, xf_2, xs_1, xs_2, xs_same, xq_so, xj_1, xj_2, xj_same, xq_jo, xq_sa1, xq_same, xq_other, upd_s, oI_n, oI_s, pf_1 i1 hpp, pf_2 i1 hpp, pf_3 i1 hpp, a1, b2, b3]
  refine by_sw ?_
  simp (disch := first | exact Nat.ne_of_beq_eq_false rfl | omega) only [nI_add, xa_sub, xa_mul, pk_div, nm_mod, xa_shr, xa_and7, xa_and1, xa_and255, xa_by_and, nI_m1, Nat.add_sub_cancel, Nat.reducePow, Nat.zero_add, Nat.add_zero, Nat.reduceAdd, Nat.reduceMul, Nat.reduceSub, xf_same, xq_ff, xq_fo, xf_1, xf_2, xs_1, xs_2, xs_same, xq_so, xj_1, xj_2, xj_same, xq_jo, xq_sa1, xq_same, xq_other, upd_s, oI_n, oI_s, xv_0, xv_1, xv_2, xv_3, xm_p1, xm_p2, List.filter_cons, List.filter_nil, Nat.reduceBEq, Bool.not_true, Bool.not_false, Bool.and_true, Bool.and_false, Bool.false_and, Bool.true_and, if_true, if_false, Bool.false_eq_true, reduceIte, xc_i, xc_j, xc_r, xc_n, List.nil_append, List.cons_append, Option.toList_some, Option.toList_none, pf_1 i1 hpp, pf_2 i1 hpp, pf_3 i1 hpp, a1, b2, b3]
  refine xq_sw 380 (by decide) (by decide) ?_
  with_reducible refine xm_go_blk b_X1_rule_380 k_X1_rule_380 ?_
  refine by_aload_n rfl ?_
  refine by_iload_n rfl ?_
  refine by_aload_n rfl ?_
  refine by_inv0 cn_46 lk_1_92 (by rw [xe_cnt]; decide) is_43 np_43 cn_43 (by first | exact rfl | assumption) (Nat.le_of_ble_eq_true rfl) ?_
  refine sp_open i1 i4 (by omega) (fun h1 g1 g2 => ?_)
  have j1 : XF h1 := Fr_XF i1 g1 rl_fin
  with_reducible refine xm_go_blk b_X1_rule_386 k_X1_rule_386 ?_
  refine by_aload_n rfl ?_
  refine by_inv0 cn_46 lk_1_92 (by rw [xe_cnt]; decide) is_43 np_43 cn_43 (by first | exact rfl | assumption) (Nat.le_of_ble_eq_true rfl) ?_
  refine sp_open j1 g2 (by omega) (fun h2 g3 g4 => ?_)
  have j2 : XF h2 := Fr_XF j1 g3 rl_fin
  have g5 := Fr_g2 g1 g3
  with_reducible refine xm_go_blk b_X1_rule_390 k_X1_rule_390 ?_
  refine by_ins4 cn_46 lk_1_76 (by rw [xe_cnt]; decide) is_47 np_47 (Nat.le_of_ble_eq_true rfl) ?_
  refine rl_set hpp j2 (by omega) ?_
  with_reducible refine xm_go_blk b_X1_rule_393 k_X1_rule_393 ?_
  refine by_iconst ci_1 ?_
  refine by_iret ry_46 (by first | rfl | assumption) ?_
  refine hP.1 _ _ _ _ _ _ _ _ _ (Fr_set (Fr_gr g5)) (tsI_new (s := c) (t := c + 1) hI hn hnL hl (Fr_set (Fr_gr g5)) (gr_set hpp g4) ?_ (tx_tr updN_tx updN_tx) (by omega) (fun _ => rl_sn) (fun m hm => by rw [(rl_ss hm).1, (rl_ss hm).2, (gr_pp hpp g5).1, (gr_pp hpp g5).2]; exact ⟨rfl, rfl⟩))
  refine tyS_add i5 (tx_tr updN_tx updN_tx) (fun t h1 h2 => ?_) (fun q hq => Or.inl hq) (fun q hq => hq) hnL hch (fun _ => ⟨by omega, by omega⟩) (fun f hf => ?_) (fun S T V hs ht hr v1 v2 v3 v4 => ⟨tvx V c [S n, T n], tvx_ok v1 (by intro a ha; simp only [List.mem_cons, List.not_mem_nil, or_false] at ha; rcases ha with rfl | rfl; exact hs n; exact ht n), fun t ht => tvx_o ht, fun t h1 h2 => ?_, tx_pd i5.2.1 v3 (fun t ht => tvx_o ht), fun _ => ?_⟩)
  · rcases (by omega : t = c ∨ t = c + 1) with rfl | rfl
    · rw [updN_o (by omega), updN_s]; exact ⟨by decide, fun q => absurd q (by decide)⟩
    · rw [updN_s]; exact ⟨by decide, fun q => absurd q (by decide)⟩
  · refine ⟨fun e => ?_, fun e => ?_, fun e => ?_, fun e => ?_, fun e => ?_, fun e => ?_, fun e => ?_, fun e => ?_, fun e => ?_, fun e => ?_⟩ <;> first | (exfalso; omega) | skip
  · rcases (by omega : t = c ∨ t = c + 1) with rfl | rfl
    · rw [updN_o (by omega), updN_s]; exact ⟨nofun, nofun, nofun⟩
    · rw [updN_s]; exact ⟨nofun, nofun, nofun⟩
  · have e := tvx_n (V := V) (c := c) (i := 0) (g := [S n, T n])
    have e2 := tvx_n (V := V) (c := c) (i := 1) (g := [S n, T n])
    rw [Nat.add_zero] at e
    rw [e, e2]
    exact ⟨rfl, rfl⟩
theorem rl_10 (hI : tsI h pp N cd fi se nu L c k l r rt es src tgt) (hn : n < N) (hnL : n ∉ L) (hl : L.length < 2000) (hch : ∀ m ∈ L, (cd m ≤ 6 → fi m ≠ n) ∧ (cd m ≤ 2 → se m ≠ n)) (hc : cd n = 10) (hP : rlP pp N n cd fi se nu L h post) : xm_T (XE sc) (d + 4) 46 [.ref 15, .ref pp, .int (nI n)] h post := by
  have hI0 := hI
  obtain ⟨i1, hpp, i3, i4, i5, i6, i7, i8, i9, i10, i11⟩ := hI0
  obtain ⟨a1, a2, a3, a4, a5, a6, a7⟩ := i3 n hn
  have hs5 := i5
  have b2 := a4 (by omega)
  have b3 := a6 (by omega)
  refine xq_in rfl ?_
  simp only [xq_a0, xq_aI, xq_aJ, xq_aR, Nat.reduceAdd]
  rw [hc] at a1
  with_reducible refine xm_go_blk b_X1_rule_0 k_X1_rule_0 ?_
  refine by_aload_n rfl ?_
  refine by_getf cn_46 fl_1_70 (by first | exact rfl | assumption | exact ps_0 hpp) (by decide) ?_
  refine by_iload_n rfl ?_
  simp (disch := first | exact Nat.ne_of_beq_eq_false rfl | omega) only [nI_add, xa_sub, xa_mul, pk_div, nm_mod, xa_shr, xa_and7, xa_and1, xa_and255, xa_by_and, nI_m1, Nat.add_sub_cancel, Nat.reducePow, Nat.zero_add, Nat.add_zero, Nat.reduceAdd, Nat.reduceMul, Nat.reduceSub, xf_same, xq_ff, xq_fo, xf_1, xf_2, xs_1, xs_2, xs_same, xq_so, xj_1, xj_2, xj_same, xq_jo, xq_sa1, xq_same, xq_other, upd_s, oI_n, oI_s, pf_1 i1 hpp, pf_2 i1 hpp, pf_3 i1 hpp, a1, b2, b3]
  first | refine by_iald (by first | exact rfl | assumption | exact ps_1 hpp | exact ps_2 hpp | exact ps_3 hpp | exact ps_4 hpp | exact ps_5 hpp | exact ps_6 hpp | exact ps_7 hpp | exact ps_8 hpp | exact ps_9 hpp | exact ps_10 hpp | exact ps_11 hpp | exact ps_15 hpp | exact ps_16 hpp | exact ps_17 hpp | exact ps_18 hpp | exact ps_19 hpp | exact ps_21 hpp | exact ps_22 hpp | exact ps_23 hpp | exact ps_24 hpp) ⟨by omega, by omega⟩ ?_ | refine by_tald rfl rfl ⟨by omega, by omega⟩ ?_
  refine by_istore_n (by rw [ml_46]; decide) ?_
  refine by_aload_n rfl ?_
  refine by_getf cn_46 fl_1_73 (by first | exact rfl | assumption | exact ps_0 hpp) (by decide) ?_
  refine by_iload_n rfl ?_
  simp (disch := first | exact Nat.ne_of_beq_eq_false rfl | omega) only [nI_add, xa_sub, xa_mul, pk_div, nm_mod, xa_shr, xa_and7, xa_and1, xa_and255, xa_by_and, nI_m1, Nat.add_sub_cancel, Nat.reducePow, Nat.zero_add, Nat.add_zero, Nat.reduceAdd, Nat.reduceMul, Nat.reduceSub, xf_same, xq_ff, xq_fo, xf_1, xf_2, xs_1, xs_2, xs_same, xq_so, xj_1, xj_2, xj_same, xq_jo, xq_sa1, xq_same, xq_other, upd_s, oI_n, oI_s, pf_1 i1 hpp, pf_2 i1 hpp, pf_3 i1 hpp, a1, b2, b3]
  first | refine by_iald (by first | exact rfl | assumption | exact ps_1 hpp | exact ps_2 hpp | exact ps_3 hpp | exact ps_4 hpp | exact ps_5 hpp | exact ps_6 hpp | exact ps_7 hpp | exact ps_8 hpp | exact ps_9 hpp | exact ps_10 hpp | exact ps_11 hpp | exact ps_15 hpp | exact ps_16 hpp | exact ps_17 hpp | exact ps_18 hpp | exact ps_19 hpp | exact ps_21 hpp | exact ps_22 hpp | exact ps_23 hpp | exact ps_24 hpp) ⟨by omega, by omega⟩ ?_ | refine by_tald rfl rfl ⟨by omega, by omega⟩ ?_
  refine by_istore (by rw [ml_46]; decide) ?_
  refine by_aload_n rfl ?_
  refine by_getf cn_46 fl_1_53 (by first | exact rfl | assumption | exact ps_0 hpp) (by decide) ?_
  refine by_iload_n rfl ?_
  simp (disch := first | exact Nat.ne_of_beq_eq_false rfl | omega) only [nI_add, xa_sub, xa_mul, pk_div, nm_mod, xa_shr, xa_and7, xa_and1, xa_and255, xa_by_and, nI_m1, Nat.add_sub_cancel, Nat.reducePow, Nat.zero_add, Nat.add_zero, Nat.reduceAdd, Nat.reduceMul, Nat.reduceSub, xf_same, xq_ff, xq_fo, xf_1, xf_2, xs_1, xs_2, xs_same, xq_so, xj_1, xj_2, xj_same, xq_jo, xq_sa1, xq_same, xq_other, upd_s, oI_n, oI_s, pf_1 i1 hpp, pf_2 i1 hpp, pf_3 i1 hpp, a1, b2, b3]
  first | refine by_iald (by first | exact rfl | assumption | exact ps_1 hpp | exact ps_2 hpp | exact ps_3 hpp | exact ps_4 hpp | exact ps_5 hpp | exact ps_6 hpp | exact ps_7 hpp | exact ps_8 hpp | exact ps_9 hpp | exact ps_10 hpp | exact ps_11 hpp | exact ps_15 hpp | exact ps_16 hpp | exact ps_17 hpp | exact ps_18 hpp | exact ps_19 hpp | exact ps_21 hpp | exact ps_22 hpp | exact ps_23 hpp | exact ps_24 hpp) ⟨by omega, by omega⟩ ?_ | refine by_tald rfl rfl ⟨by omega, by omega⟩ ?_
  simp (disch := first | exact Nat.ne_of_beq_eq_false rfl | omega) only [nI_add, xa_sub, xa_mul, pk_div, nm_mod, xa_shr, xa_and7, xa_and1, xa_and255, xa_by_and, nI_m1, Nat.add_sub_cancel, Nat.reducePow, Nat.zero_add, Nat.add_zero, Nat.reduceAdd, Nat.reduceMul, Nat.reduceSub, xf_same, xq_ff, xq_fo, xf_1, xf_2, xs_1, xs_2, xs_same, xq_so, xj_1, xj_2, xj_same, xq_jo, xq_sa1, xq_same, xq_other, upd_s, oI_n, oI_s, pf_1 i1 hpp, pf_2 i1 hpp, pf_3 i1 hpp, a1, b2, b3]
  refine by_sw ?_
  simp (disch := first | exact Nat.ne_of_beq_eq_false rfl | omega) only [nI_add, xa_sub, xa_mul, pk_div, nm_mod, xa_shr, xa_and7, xa_and1, xa_and255, xa_by_and, nI_m1, Nat.add_sub_cancel, Nat.reducePow, Nat.zero_add, Nat.add_zero, Nat.reduceAdd, Nat.reduceMul, Nat.reduceSub, xf_same, xq_ff, xq_fo, xf_1, xf_2, xs_1, xs_2, xs_same, xq_so, xj_1, xj_2, xj_same, xq_jo, xq_sa1, xq_same, xq_other, upd_s, oI_n, oI_s, xv_0, xv_1, xv_2, xv_3, xm_p1, xm_p2, List.filter_cons, List.filter_nil, Nat.reduceBEq, Bool.not_true, Bool.not_false, Bool.and_true, Bool.and_false, Bool.false_and, Bool.true_and, if_true, if_false, Bool.false_eq_true, reduceIte, xc_i, xc_j, xc_r, xc_n, List.nil_append, List.cons_append, Option.toList_some, Option.toList_none, pf_1 i1 hpp, pf_2 i1 hpp, pf_3 i1 hpp, a1, b2, b3]
  refine xq_sw 380 (by decide) (by decide) ?_
  with_reducible refine xm_go_blk b_X1_rule_380 k_X1_rule_380 ?_
  refine by_aload_n rfl ?_
  refine by_iload_n rfl ?_
  refine by_aload_n rfl ?_
  refine by_inv0 cn_46 lk_1_92 (by rw [xe_cnt]; decide) is_43 np_43 cn_43 (by first | exact rfl | assumption) (Nat.le_of_ble_eq_true rfl) ?_
  refine sp_open i1 i4 (by omega) (fun h1 g1 g2 => ?_)
  have j1 : XF h1 := Fr_XF i1 g1 rl_fin
  with_reducible refine xm_go_blk b_X1_rule_386 k_X1_rule_386 ?_
  refine by_aload_n rfl ?_
  refine by_inv0 cn_46 lk_1_92 (by rw [xe_cnt]; decide) is_43 np_43 cn_43 (by first | exact rfl | assumption) (Nat.le_of_ble_eq_true rfl) ?_
  refine sp_open j1 g2 (by omega) (fun h2 g3 g4 => ?_)
  have j2 : XF h2 := Fr_XF j1 g3 rl_fin
  have g5 := Fr_g2 g1 g3
  with_reducible refine xm_go_blk b_X1_rule_390 k_X1_rule_390 ?_
  refine by_ins4 cn_46 lk_1_76 (by rw [xe_cnt]; decide) is_47 np_47 (Nat.le_of_ble_eq_true rfl) ?_
  refine rl_set hpp j2 (by omega) ?_
  with_reducible refine xm_go_blk b_X1_rule_393 k_X1_rule_393 ?_
  refine by_iconst ci_1 ?_
  refine by_iret ry_46 (by first | rfl | assumption) ?_
  refine hP.1 _ _ _ _ _ _ _ _ _ (Fr_set (Fr_gr g5)) (tsI_new (s := c) (t := c + 1) hI hn hnL hl (Fr_set (Fr_gr g5)) (gr_set hpp g4) ?_ (tx_tr updN_tx updN_tx) (by omega) (fun _ => rl_sn) (fun m hm => by rw [(rl_ss hm).1, (rl_ss hm).2, (gr_pp hpp g5).1, (gr_pp hpp g5).2]; exact ⟨rfl, rfl⟩))
  refine tyS_add i5 (tx_tr updN_tx updN_tx) (fun t h1 h2 => ?_) (fun q hq => Or.inl hq) (fun q hq => hq) hnL hch (fun _ => ⟨by omega, by omega⟩) (fun f hf => ?_) (fun S T V hs ht hr v1 v2 v3 v4 => ⟨tvx V c [S n, T n], tvx_ok v1 (by intro a ha; simp only [List.mem_cons, List.not_mem_nil, or_false] at ha; rcases ha with rfl | rfl; exact hs n; exact ht n), fun t ht => tvx_o ht, fun t h1 h2 => ?_, tx_pd i5.2.1 v3 (fun t ht => tvx_o ht), fun _ => ?_⟩)
  · rcases (by omega : t = c ∨ t = c + 1) with rfl | rfl
    · rw [updN_o (by omega), updN_s]; exact ⟨by decide, fun q => absurd q (by decide)⟩
    · rw [updN_s]; exact ⟨by decide, fun q => absurd q (by decide)⟩
  · refine ⟨fun e => ?_, fun e => ?_, fun e => ?_, fun e => ?_, fun e => ?_, fun e => ?_, fun e => ?_, fun e => ?_, fun e => ?_, fun e => ?_⟩ <;> first | (exfalso; omega) | skip
  · rcases (by omega : t = c ∨ t = c + 1) with rfl | rfl
    · rw [updN_o (by omega), updN_s]; exact ⟨nofun, nofun, nofun⟩
    · rw [updN_s]; exact ⟨nofun, nofun, nofun⟩
  · have e := tvx_n (V := V) (c := c) (i := 0) (g := [S n, T n])
    have e2 := tvx_n (V := V) (c := c) (i := 1) (g := [S n, T n])
    rw [Nat.add_zero] at e
    rw [e, e2]
    exact ⟨rfl, rfl⟩
end RUL
