/-! ===== Finder: rules of nodes with children ===== -/
section RUL
variable {sc : xm_Sc} {d pp N n : Nat} {cd fi se nu : Nat → Nat} {L : List Nat} {c : Nat} {k l r rt : Nat → Nat} {es : List (Nat × Nat)} {src tgt : Nat → Nat} {h : xm_H} {post : xm_Po}
theorem rl_3 (hI : tsI h pp N cd fi se nu L c k l r rt es src tgt) (hn : n < N) (hnL : n ∉ L) (hl : L.length < 2000) (hch : ∀ m ∈ L, (cd m ≤ 6 → fi m ≠ n) ∧ (cd m ≤ 2 → se m ≠ n)) (hfi : fi n ∈ L) (hfv : cd (fi n) ≠ 11) (hc : cd n = 3) (hP : rlP pp N n cd fi se nu L h post) : xm_T (XE sc) (d + 4) 46 [.ref 15, .ref pp, .int (nI n)] h post := by
  have hI0 := hI
  obtain ⟨i1, hpp, i3, i4, i5, i6, i7, i8, i9, i10, i11⟩ := hI0
  obtain ⟨a1, a2, a3, a4, a5, a6, a7⟩ := i3 n hn
  obtain ⟨b2, b2'⟩ := a3 (by omega)
  obtain ⟨f1, f2⟩ := i6 (fi n) hfi
  obtain ⟨f6, f7⟩ := f2 hfv
  obtain ⟨f8, f9⟩ := i5.2.2.1 (fi n) hfi hfv
  have hne : fi n ≠ n := fun z => hnL (by rw [← z]; exact hfi)
  have b3 := a6 (by omega)
  refine xq_in rfl ?_
  simp only [xq_a0, xq_aI, xq_aJ, xq_aR, Nat.reduceAdd]
  rw [hc] at a1
  with_reducible refine xm_go_blk b_X1_rule_0 k_X1_rule_0 ?_
  refine by_aload_n rfl ?_
  refine by_getf cn_46 fl_1_70 (by first | exact rfl | assumption | exact ps_0 hpp) (by decide) ?_
  refine by_iload_n rfl ?_
  simp (disch := first | exact Nat.ne_of_beq_eq_false rfl | omega) only [nI_add, xa_sub, xa_mul, pk_div, nm_mod, xa_shr, xa_and7, xa_and1, xa_and255, xa_by_and, nI_m1, Nat.add_sub_cancel, Nat.reducePow, Nat.zero_add, Nat.add_zero, Nat.reduceAdd, Nat.reduceMul, Nat.reduceSub, xf_same, xq_ff, xq_fo, xf_1, xf_2, xs_1, xs_2, xs_same, xq_so, xj_1, xj_2, xj_same, xq_jo, xq_sa1, xq_same, xq_other, upd_s, oI_n, oI_s, pf_1 i1 hpp, pf_2 i1 hpp, pf_3 i1 hpp, a1, b2, b3, pf_6 i1 hpp, pf_7 i1 hpp, f6, f7]
  first | refine by_iald (by first | exact rfl | assumption | exact ps_1 hpp | exact ps_2 hpp | exact ps_3 hpp | exact ps_4 hpp | exact ps_5 hpp | exact ps_6 hpp | exact ps_7 hpp | exact ps_8 hpp | exact ps_9 hpp | exact ps_10 hpp | exact ps_11 hpp | exact ps_15 hpp | exact ps_16 hpp | exact ps_17 hpp | exact ps_18 hpp | exact ps_19 hpp | exact ps_21 hpp | exact ps_22 hpp | exact ps_23 hpp | exact ps_24 hpp) ⟨by omega, by omega⟩ ?_ | refine by_tald rfl rfl ⟨by omega, by omega⟩ ?_
  refine by_istore_n (by rw [ml_46]; decide) ?_
  refine by_aload_n rfl ?_
  refine by_getf cn_46 fl_1_73 (by first | exact rfl | assumption | exact ps_0 hpp) (by decide) ?_
  refine by_iload_n rfl ?_
  simp (disch := first | exact Nat.ne_of_beq_eq_false rfl | omega) only [nI_add, xa_sub, xa_mul, pk_div, nm_mod, xa_shr, xa_and7, xa_and1, xa_and255, xa_by_and, nI_m1, Nat.add_sub_cancel, Nat.reducePow, Nat.zero_add, Nat.add_zero, Nat.reduceAdd, Nat.reduceMul, Nat.reduceSub, xf_same, xq_ff, xq_fo, xf_1, xf_2, xs_1, xs_2, xs_same, xq_so, xj_1, xj_2, xj_same, xq_jo, xq_sa1, xq_same, xq_other, upd_s, oI_n, oI_s, pf_1 i1 hpp, pf_2 i1 hpp, pf_3 i1 hpp, a1, b2, b3, pf_6 i1 hpp, pf_7 i1 hpp, f6, f7]
  first | refine by_iald (by first | exact rfl | assumption | exact ps_1 hpp | exact ps_2 hpp | exact ps_3 hpp | exact ps_4 hpp | exact ps_5 hpp | exact ps_6 hpp | exact ps_7 hpp | exact ps_8 hpp | exact ps_9 hpp | exact ps_10 hpp | exact ps_11 hpp | exact ps_15 hpp | exact ps_16 hpp | exact ps_17 hpp | exact ps_18 hpp | exact ps_19 hpp | exact ps_21 hpp | exact ps_22 hpp | exact ps_23 hpp | exact ps_24 hpp) ⟨by omega, by omega⟩ ?_ | refine by_tald rfl rfl ⟨by omega, by omega⟩ ?_
  refine by_istore (by rw [ml_46]; decide) ?_
  refine by_aload_n rfl ?_
  refine by_getf cn_46 fl_1_53 (by first | exact rfl | assumption | exact ps_0 hpp) (by decide) ?_
  refine by_iload_n rfl ?_
  simp (disch := first | exact Nat.ne_of_beq_eq_false rfl | omega) only [nI_add, xa_sub, xa_mul, pk_div, nm_mod, xa_shr, xa_and7, xa_and1, xa_and255, xa_by_and, nI_m1, Nat.add_sub_cancel, Nat.reducePow, Nat.zero_add, Nat.add_zero, Nat.reduceAdd, Nat.reduceMul, Nat.reduceSub, xf_same, xq_ff, xq_fo, xf_1, xf_2, xs_1, xs_2, xs_same, xq_so, xj_1, xj_2, xj_same, xq_jo, xq_sa1, xq_same, xq_other, upd_s, oI_n, oI_s, pf_1 i1 hpp, pf_2 i1 hpp, pf_3 i1 hpp, a1, b2, b3, pf_6 i1 hpp, pf_7 i1 hpp, f6, f7]
  first | refine by_iald (by first | exact rfl | assumption | exact ps_1 hpp | exact ps_2 hpp | exact ps_3 hpp | exact ps_4 hpp | exact ps_5 hpp | exact ps_6 hpp | exact ps_7 hpp | exact ps_8 hpp | exact ps_9 hpp | exact ps_10 hpp | exact ps_11 hpp | exact ps_15 hpp | exact ps_16 hpp | exact ps_17 hpp | exact ps_18 hpp | exact ps_19 hpp | exact ps_21 hpp | exact ps_22 hpp | exact ps_23 hpp | exact ps_24 hpp) ⟨by omega, by omega⟩ ?_ | refine by_tald rfl rfl ⟨by omega, by omega⟩ ?_
  simp (disch := first | exact Nat.ne_of_beq_eq_false rfl | omega) only [nI_add, xa_sub, xa_mul, pk_div, nm_mod, xa_shr, xa_and7, xa_and1, xa_and255, xa_by_and, nI_m1, Nat.add_sub_cancel, Nat.reducePow, Nat.zero_add, Nat.add_zero, Nat.reduceAdd, Nat.reduceMul, Nat.reduceSub, xf_same, xq_ff, xq_fo, xf_1, xf_2, xs_1, xs_2, xs_same, xq_so, xj_1, xj_2, xj_same, xq_jo, xq_sa1, xq_same, xq_other, upd_s, oI_n, oI_s, pf_1 i1 hpp, pf_2 i1 hpp, pf_3 i1 hpp, a1, b2, b3, pf_6 i1 hpp, pf_7 i1 hpp, f6, f7]
  refine by_sw ?_
  simp (disch := first | exact Nat.ne_of_beq_eq_false rfl | omega) only [nI_add, xa_sub, xa_mul, pk_div, nm_mod, xa_shr, xa_and7, xa_and1, xa_and255, xa_by_and, nI_m1, Nat.add_sub_cancel, Nat.reducePow, Nat.zero_add, Nat.add_zero, Nat.reduceAdd, Nat.reduceMul, Nat.reduceSub, xf_same, xq_ff, xq_fo, xf_1, xf_2, xs_1, xs_2, xs_same, xq_so, xj_1, xj_2, xj_same, xq_jo, xq_sa1, xq_same, xq_other, upd_s, oI_n, oI_s, xv_0, xv_1, xv_2, xv_3, xm_p1, xm_p2, List.filter_cons, List.filter_nil, Nat.reduceBEq, Bool.not_true, Bool.not_false, Bool.and_true, Bool.and_false, Bool.false_and, Bool.true_and, if_true, if_false, Bool.false_eq_true, reduceIte, xc_i, xc_j, xc_r, xc_n, List.nil_append, List.cons_append, Option.toList_some, Option.toList_none, pf_1 i1 hpp, pf_2 i1 hpp, pf_3 i1 hpp, a1, b2, b3, pf_6 i1 hpp, pf_7 i1 hpp, f6, f7]
  refine xq_sw 181 (by decide) (by decide) ?_
  with_reducible refine xm_go_blk b_X1_rule_181 k_X1_rule_181 ?_
  refine by_aload_n rfl ?_
  refine by_iload_n rfl ?_
  refine by_aload_n rfl ?_
  refine by_getf cn_46 fl_1_56 (by first | exact rfl | assumption | exact ps_0 hpp) (by decide) ?_
  refine by_iload_n rfl ?_
  simp (disch := first | exact Nat.ne_of_beq_eq_false rfl | omega) only [nI_add, xa_sub, xa_mul, pk_div, nm_mod, xa_shr, xa_and7, xa_and1, xa_and255, xa_by_and, nI_m1, Nat.add_sub_cancel, Nat.reducePow, Nat.zero_add, Nat.add_zero, Nat.reduceAdd, Nat.reduceMul, Nat.reduceSub, xf_same, xq_ff, xq_fo, xf_1, xf_2, xs_1, xs_2, xs_same, xq_so, xj_1, xj_2, xj_same, xq_jo, xq_sa1, xq_same, xq_other, upd_s, oI_n, oI_s, pf_1 i1 hpp, pf_2 i1 hpp, pf_3 i1 hpp, a1, b2, b3, pf_6 i1 hpp, pf_7 i1 hpp, f6, f7]
  first | refine by_iald (by first | exact rfl | assumption | exact ps_1 hpp | exact ps_2 hpp | exact ps_3 hpp | exact ps_4 hpp | exact ps_5 hpp | exact ps_6 hpp | exact ps_7 hpp | exact ps_8 hpp | exact ps_9 hpp | exact ps_10 hpp | exact ps_11 hpp | exact ps_15 hpp | exact ps_16 hpp | exact ps_17 hpp | exact ps_18 hpp | exact ps_19 hpp | exact ps_21 hpp | exact ps_22 hpp | exact ps_23 hpp | exact ps_24 hpp) ⟨by omega, by omega⟩ ?_ | refine by_tald rfl rfl ⟨by omega, by omega⟩ ?_
  refine by_aload_n rfl ?_
  refine by_iconst ci_1 ?_
  refine by_aload_n rfl ?_
  refine by_getf cn_46 fl_1_63 (by first | exact rfl | assumption | exact ps_0 hpp) (by decide) ?_
  refine by_iload_n rfl ?_
  simp (disch := first | exact Nat.ne_of_beq_eq_false rfl | omega) only [nI_add, xa_sub, xa_mul, pk_div, nm_mod, xa_shr, xa_and7, xa_and1, xa_and255, xa_by_and, nI_m1, Nat.add_sub_cancel, Nat.reducePow, Nat.zero_add, Nat.add_zero, Nat.reduceAdd, Nat.reduceMul, Nat.reduceSub, xf_same, xq_ff, xq_fo, xf_1, xf_2, xs_1, xs_2, xs_same, xq_so, xj_1, xj_2, xj_same, xq_jo, xq_sa1, xq_same, xq_other, upd_s, oI_n, oI_s, pf_1 i1 hpp, pf_2 i1 hpp, pf_3 i1 hpp, a1, b2, b3, pf_6 i1 hpp, pf_7 i1 hpp, f6, f7]
  first | refine by_iald (by first | exact rfl | assumption | exact ps_1 hpp | exact ps_2 hpp | exact ps_3 hpp | exact ps_4 hpp | exact ps_5 hpp | exact ps_6 hpp | exact ps_7 hpp | exact ps_8 hpp | exact ps_9 hpp | exact ps_10 hpp | exact ps_11 hpp | exact ps_15 hpp | exact ps_16 hpp | exact ps_17 hpp | exact ps_18 hpp | exact ps_19 hpp | exact ps_21 hpp | exact ps_22 hpp | exact ps_23 hpp | exact ps_24 hpp) ⟨by omega, by omega⟩ ?_ | refine by_tald rfl rfl ⟨by omega, by omega⟩ ?_
  refine by_aload_n rfl ?_
  simp (disch := first | exact Nat.ne_of_beq_eq_false rfl | omega) only [nI_add, xa_sub, xa_mul, pk_div, nm_mod, xa_shr, xa_and7, xa_and1, xa_and255, xa_by_and, nI_m1, Nat.add_sub_cancel, Nat.reducePow, Nat.zero_add, Nat.add_zero, Nat.reduceAdd, Nat.reduceMul, Nat.reduceSub, xf_same, xq_ff, xq_fo, xf_1, xf_2, xs_1, xs_2, xs_same, xq_so, xj_1, xj_2, xj_same, xq_jo, xq_sa1, xq_same, xq_other, upd_s, oI_n, oI_s, xv_0, xv_1, xv_2, xv_3, xm_p1, xm_p2, List.filter_cons, List.filter_nil, Nat.reduceBEq, Bool.not_true, Bool.not_false, Bool.and_true, Bool.and_false, Bool.false_and, Bool.true_and, if_true, if_false, Bool.false_eq_true, reduceIte, xc_i, xc_j, xc_r, xc_n, List.nil_append, List.cons_append, Option.toList_some, Option.toList_none, pf_1 i1 hpp, pf_2 i1 hpp, pf_3 i1 hpp, a1, b2, b3, pf_6 i1 hpp, pf_7 i1 hpp, f6, f7]
  refine by_inv0 cn_46 lk_1_92 (by rw [xe_cnt]; decide) is_43 np_43 cn_43 (by first | exact rfl | assumption) (Nat.le_of_ble_eq_true rfl) ?_
  refine sp_open i1 i4 (by omega) (fun h1 g1 g2 => ?_)
  have j1 : XF h1 := Fr_XF i1 g1 rl_fin
  have m6 := (gr_pp hpp g1).1
  have m7 := (gr_pp hpp g1).2
  with_reducible refine xm_go_blk b_X1_rule_201 k_X1_rule_201 ?_
  refine by_inv3 cn_46 lk_1_88 (by rw [xe_cnt]; decide) is_50 np_50 cn_50 (by first | exact rfl | assumption) (Nat.le_of_ble_eq_true rfl) ?_
  refine sp_term (kk := 2) (ll := tgt (fi n)) (rr := c) j1 g2 (by omega) (by decide) rfl (fun _ => ⟨by omega, by omega⟩) ⟨by omega, by omega⟩ (fun h2 g3 g4 => ?_)
  have j2 : XF h2 := Fr_XF j1 g3 rl_fin
  have g5 := Fr_g2 g1 g3
  have q6 := (gr_pp hpp g5).1
  have q7 := (gr_pp hpp g5).2
  with_reducible refine xm_go_blk b_X1_rule_204 k_X1_rule_204 ?_
  refine by_ins4 cn_46 lk_1_76 (by rw [xe_cnt]; decide) is_47 np_47 (Nat.le_of_ble_eq_true rfl) ?_
  refine rl_set hpp j2 (by omega) ?_
  with_reducible refine xm_go_blk b_X1_rule_207 k_X1_rule_207 ?_
  refine by_iconst ci_1 ?_
  refine by_iret ry_46 (by first | rfl | assumption) ?_
  refine hP.1 _ _ _ _ _ _ _ _ _ (Fr_set (Fr_gr g5)) (tsI_new (s := src (fi n)) (t := c + 1) hI hn hnL hl (Fr_set (Fr_gr g5)) (gr_set hpp g4) ?_ (tx_tr updN_tx updN_tx) (by omega) (fun _ => rl_sn) (fun m hm => by rw [(rl_ss hm).1, (rl_ss hm).2, q6, q7]; exact ⟨rfl, rfl⟩))
  refine tyS_add i5 (tx_tr updN_tx updN_tx) (fun t h1 h2 => ?_) (fun q hq => Or.inl hq) (fun q hq => hq) hnL hch (fun _ => ⟨by omega, by omega⟩) (fun f hf => ?_) (fun S T V hs ht hr v1 v2 v3 v4 => ?_)
  · rcases (by omega : t = c ∨ t = c + 1) with rfl | rfl
    · rw [updN_o (by omega), updN_s]; exact ⟨by decide, fun q => absurd q (by decide)⟩
    · rw [updN_s, updN_s, updN_s]; exact ⟨by decide, fun q => ⟨by omega, by omega⟩⟩
  · refine ⟨fun e => ?_, fun e => ?_, fun e => ?_, fun e => ?_, fun e => ?_, fun e => ?_, fun e => ?_, fun e => ?_, fun e => ?_, fun e => ?_⟩ <;> first | (exfalso; omega) | skip
    simp only [updN_s, updN_o hne]
    exact ⟨trivial, by omega, trivial, trivial⟩
  · obtain ⟨r1, x, r2⟩ := hr.2.2.2.1 hc
    obtain ⟨w1, w2⟩ := v4 (fi n) hfi hfv
    have hok : ty_ok x := by
      have := ht n
      rw [r2] at this
      exact this.2
    have e := tvx_n (V := V) (c := c) (i := 0) (g := [x, T n])
    have e2 := tvx_n (V := V) (c := c) (i := 1) (g := [x, T n])
    rw [Nat.add_zero] at e
    refine ⟨tvx V c [x, T n], tvx_ok v1 (by intro a ha; simp only [List.mem_cons, List.not_mem_nil, or_false] at ha; rcases ha with rfl | rfl; exact hok; exact ht n), fun t ht => tvx_o ht, fun t h1 h2 => ?_, tx_pd i5.2.1 v3 (fun t ht => tvx_o ht), fun _ => ?_⟩
    · rcases (by omega : t = c ∨ t = c + 1) with rfl | rfl
      · rw [updN_o (by omega), updN_s]; exact ⟨nofun, nofun, nofun⟩
      · rw [updN_s, updN_s, updN_s]
        refine ⟨nofun, fun _ => ?_, nofun⟩
        rw [e2, e, tvx_o f9, w2]
        exact r2
    · rw [e2, tvx_o f8, w1]
      exact ⟨r1, rfl⟩
theorem rl_4 (hI : tsI h pp N cd fi se nu L c k l r rt es src tgt) (hn : n < N) (hnL : n ∉ L) (hl : L.length < 2000) (hch : ∀ m ∈ L, (cd m ≤ 6 → fi m ≠ n) ∧ (cd m ≤ 2 → se m ≠ n)) (hfi : fi n ∈ L) (hfv : cd (fi n) ≠ 11) (hc : cd n = 4) (hP : rlP pp N n cd fi se nu L h post) : xm_T (XE sc) (d + 4) 46 [.ref 15, .ref pp, .int (nI n)] h post := by
  have hI0 := hI
  obtain ⟨i1, hpp, i3, i4, i5, i6, i7, i8, i9, i10, i11⟩ := hI0
  obtain ⟨a1, a2, a3, a4, a5, a6, a7⟩ := i3 n hn
  obtain ⟨b2, b2'⟩ := a3 (by omega)
  obtain ⟨f1, f2⟩ := i6 (fi n) hfi
  obtain ⟨f6, f7⟩ := f2 hfv
  obtain ⟨f8, f9⟩ := i5.2.2.1 (fi n) hfi hfv
  have hne : fi n ≠ n := fun z => hnL (by rw [← z]; exact hfi)
  have b3 := a6 (by omega)
  refine xq_in rfl ?_
  simp only [xq_a0, xq_aI, xq_aJ, xq_aR, Nat.reduceAdd]
  rw [hc] at a1
  with_reducible refine xm_go_blk b_X1_rule_0 k_X1_rule_0 ?_
  refine by_aload_n rfl ?_
  refine by_getf cn_46 fl_1_70 (by first | exact rfl | assumption | exact ps_0 hpp) (by decide) ?_
  refine by_iload_n rfl ?_
  simp (disch := first | exact Nat.ne_of_beq_eq_false rfl | omega) only [nI_add, xa_sub, xa_mul, pk_div, nm_mod, xa_shr, xa_and7, xa_and1, xa_and255, xa_by_and, nI_m1, Nat.add_sub_cancel, Nat.reducePow, Nat.zero_add, Nat.add_zero, Nat.reduceAdd, Nat.reduceMul, Nat.reduceSub, xf_same, xq_ff, xq_fo, xf_1, xf_2, xs_1, xs_2, xs_same, xq_so, xj_1, xj_2, xj_same, xq_jo, xq_sa1, xq_same, xq_other, upd_s, oI_n, oI_s, pf_1 i1 hpp, pf_2 i1 hpp, pf_3 i1 hpp, a1, b2, b3, pf_6 i1 hpp, pf_7 i1 hpp, f6, f7]
  first | refine by_iald (by first | exact rfl | assumption | exact ps_1 hpp | exact ps_2 hpp | exact ps_3 hpp | exact ps_4 hpp | exact ps_5 hpp | exact ps_6 hpp | exact ps_7 hpp | exact ps_8 hpp | exact ps_9 hpp | exact ps_10 hpp | exact ps_11 hpp | exact ps_15 hpp | exact ps_16 hpp | exact ps_17 hpp | exact ps_18 hpp | exact ps_19 hpp | exact ps_21 hpp | exact ps_22 hpp | exact ps_23 hpp | exact ps_24 hpp) ⟨by omega, by omega⟩ ?_ | refine by_tald rfl rfl ⟨by omega, by omega⟩ ?_
  refine by_istore_n (by rw [ml_46]; decide) ?_
  refine by_aload_n rfl ?_
  refine by_getf cn_46 fl_1_73 (by first | exact rfl | assumption | exact ps_0 hpp) (by decide) ?_
  refine by_iload_n rfl ?_
  simp (disch := first | exact Nat.ne_of_beq_eq_false rfl | omega) only [nI_add, xa_sub, xa_mul, pk_div, nm_mod, xa_shr, xa_and7, xa_and1, xa_and255, xa_by_and, nI_m1, Nat.add_sub_cancel, Nat.reducePow, Nat.zero_add, Nat.add_zero, Nat.reduceAdd, Nat.reduceMul, Nat.reduceSub, xf_same, xq_ff, xq_fo, xf_1, xf_2, xs_1, xs_2, xs_same, xq_so, xj_1, xj_2, xj_same, xq_jo, xq_sa1, xq_same, xq_other, upd_s, oI_n, oI_s, pf_1 i1 hpp, pf_2 i1 hpp, pf_3 i1 hpp, a1, b2, b3, pf_6 i1 hpp, pf_7 i1 hpp, f6, f7]
  first | refine by_iald (by first | exact rfl | assumption | exact ps_1 hpp | exact ps_2 hpp | exact ps_3 hpp | exact ps_4 hpp | exact ps_5 hpp | exact ps_6 hpp | exact ps_7 hpp | exact ps_8 hpp | exact ps_9 hpp | exact ps_10 hpp | exact ps_11 hpp | exact ps_15 hpp | exact ps_16 hpp | exact ps_17 hpp | exact ps_18 hpp | exact ps_19 hpp | exact ps_21 hpp | exact ps_22 hpp | exact ps_23 hpp | exact ps_24 hpp) ⟨by omega, by omega⟩ ?_ | refine by_tald rfl rfl ⟨by omega, by omega⟩ ?_
  refine by_istore (by rw [ml_46]; decide) ?_
  refine by_aload_n rfl ?_
  refine by_getf cn_46 fl_1_53 (by first | exact rfl | assumption | exact ps_0 hpp) (by decide) ?_
  refine by_iload_n rfl ?_
  simp (disch := first | exact Nat.ne_of_beq_eq_false rfl | omega) only [nI_add, xa_sub, xa_mul, pk_div, nm_mod, xa_shr, xa_and7, xa_and1, xa_and255, xa_by_and, nI_m1, Nat.add_sub_cancel, Nat.reducePow, Nat.zero_add, Nat.add_zero, Nat.reduceAdd, Nat.reduceMul, Nat.reduceSub, xf_same, xq_ff, xq_fo, xf_1, xf_2, xs_1, xs_2, xs_same, xq_so, xj_1, xj_2, xj_same, xq_jo, xq_sa1, xq_same, xq_other, upd_s, oI_n, oI_s, pf_1 i1 hpp, pf_2 i1 hpp, pf_3 i1 hpp, a1, b2, b3, pf_6 i1 hpp, pf_7 i1 hpp, f6, f7]
  first | refine by_iald (by first | exact rfl | assumption | exact ps_1 hpp | exact ps_2 hpp | exact ps_3 hpp | exact ps_4 hpp | exact ps_5 hpp | exact ps_6 hpp | exact ps_7 hpp | exact ps_8 hpp | exact ps_9 hpp | exact ps_10 hpp | exact ps_11 hpp | exact ps_15 hpp | exact ps_16 hpp | exact ps_17 hpp | exact ps_18 hpp | exact ps_19 hpp | exact ps_21 hpp | exact ps_22 hpp | exact ps_23 hpp | exact ps_24 hpp) ⟨by omega, by omega⟩ ?_ | refine by_tald rfl rfl ⟨by omega, by omega⟩ ?_
  simp (disch := first | exact Nat.ne_of_beq_eq_false rfl | omega) only [nI_add, xa_sub, xa_mul, pk_div, nm_mod, xa_shr, xa_and7, xa_and1, xa_and255, xa_by_and, nI_m1, Nat.add_sub_cancel, Nat.reducePow, Nat.zero_add, Nat.add_zero, Nat.reduceAdd, Nat.reduceMul, Nat.reduceSub, xf_same, xq_ff, xq_fo, xf_1, xf_2, xs_1, xs_2, xs_same, xq_so, xj_1, xj_2, xj_same, xq_jo, xq_sa1, xq_same, xq_other, upd_s, oI_n, oI_s, pf_1 i1 hpp, pf_2 i1 hpp, pf_3 i1 hpp, a1, b2, b3, pf_6 i1 hpp, pf_7 i1 hpp, f6, f7]
  refine by_sw ?_
  simp (disch := first | exact Nat.ne_of_beq_eq_false rfl | omega) only [nI_add, xa_sub, xa_mul, pk_div, nm_mod, xa_shr, xa_and7, xa_and1, xa_and255, xa_by_and, nI_m1, Nat.add_sub_cancel, Nat.reducePow, Nat.zero_add, Nat.add_zero, Nat.reduceAdd, Nat.reduceMul, Nat.reduceSub, xf_same, xq_ff, xq_fo, xf_1, xf_2, xs_1, xs_2, xs_same, xq_so, xj_1, xj_2, xj_same, xq_jo, xq_sa1, xq_same, xq_other, upd_s, oI_n, oI_s, xv_0, xv_1, xv_2, xv_3, xm_p1, xm_p2, List.filter_cons, List.filter_nil, Nat.reduceBEq, Bool.not_true, Bool.not_false, Bool.and_true, Bool.and_false, Bool.false_and, Bool.true_and, if_true, if_false, Bool.false_eq_true, reduceIte, xc_i, xc_j, xc_r, xc_n, List.nil_append, List.cons_append, Option.toList_some, Option.toList_none, pf_1 i1 hpp, pf_2 i1 hpp, pf_3 i1 hpp, a1, b2, b3, pf_6 i1 hpp, pf_7 i1 hpp, f6, f7]
  refine xq_sw 209 (by decide) (by decide) ?_
  with_reducible refine xm_go_blk b_X1_rule_209 k_X1_rule_209 ?_
  refine by_aload_n rfl ?_
  refine by_iload_n rfl ?_
  refine by_aload_n rfl ?_
  refine by_getf cn_46 fl_1_56 (by first | exact rfl | assumption | exact ps_0 hpp) (by decide) ?_
  refine by_iload_n rfl ?_
  simp (disch := first | exact Nat.ne_of_beq_eq_false rfl | omega) only [nI_add, xa_sub, xa_mul, pk_div, nm_mod, xa_shr, xa_and7, xa_and1, xa_and255, xa_by_and, nI_m1, Nat.add_sub_cancel, Nat.reducePow, Nat.zero_add, Nat.add_zero, Nat.reduceAdd, Nat.reduceMul, Nat.reduceSub, xf_same, xq_ff, xq_fo, xf_1, xf_2, xs_1, xs_2, xs_same, xq_so, xj_1, xj_2, xj_same, xq_jo, xq_sa1, xq_same, xq_other, upd_s, oI_n, oI_s, pf_1 i1 hpp, pf_2 i1 hpp, pf_3 i1 hpp, a1, b2, b3, pf_6 i1 hpp, pf_7 i1 hpp, f6, f7]
  first | refine by_iald (by first | exact rfl | assumption | exact ps_1 hpp | exact ps_2 hpp | exact ps_3 hpp | exact ps_4 hpp | exact ps_5 hpp | exact ps_6 hpp | exact ps_7 hpp | exact ps_8 hpp | exact ps_9 hpp | exact ps_10 hpp | exact ps_11 hpp | exact ps_15 hpp | exact ps_16 hpp | exact ps_17 hpp | exact ps_18 hpp | exact ps_19 hpp | exact ps_21 hpp | exact ps_22 hpp | exact ps_23 hpp | exact ps_24 hpp) ⟨by omega, by omega⟩ ?_ | refine by_tald rfl rfl ⟨by omega, by omega⟩ ?_
  refine by_aload_n rfl ?_
  refine by_iconst ci_1 ?_
  refine by_aload_n rfl ?_
  simp (disch := first | exact Nat.ne_of_beq_eq_false rfl | omega) only [nI_add, xa_sub, xa_mul, pk_div, nm_mod, xa_shr, xa_and7, xa_and1, xa_and255, xa_by_and, nI_m1, Nat.add_sub_cancel, Nat.reducePow, Nat.zero_add, Nat.add_zero, Nat.reduceAdd, Nat.reduceMul, Nat.reduceSub, xf_same, xq_ff, xq_fo, xf_1, xf_2, xs_1, xs_2, xs_same, xq_so, xj_1, xj_2, xj_same, xq_jo, xq_sa1, xq_same, xq_other, upd_s, oI_n, oI_s, xv_0, xv_1, xv_2, xv_3, xm_p1, xm_p2, List.filter_cons, List.filter_nil, Nat.reduceBEq, Bool.not_true, Bool.not_false, Bool.and_true, Bool.and_false, Bool.false_and, Bool.true_and, if_true, if_false, Bool.false_eq_true, reduceIte, xc_i, xc_j, xc_r, xc_n, List.nil_append, List.cons_append, Option.toList_some, Option.toList_none, pf_1 i1 hpp, pf_2 i1 hpp, pf_3 i1 hpp, a1, b2, b3, pf_6 i1 hpp, pf_7 i1 hpp, f6, f7]
  refine by_inv0 cn_46 lk_1_92 (by rw [xe_cnt]; decide) is_43 np_43 cn_43 (by first | exact rfl | assumption) (Nat.le_of_ble_eq_true rfl) ?_
  refine sp_open i1 i4 (by omega) (fun h1 g1 g2 => ?_)
  have j1 : XF h1 := Fr_XF i1 g1 rl_fin
  have m6 := (gr_pp hpp g1).1
  have m7 := (gr_pp hpp g1).2
  with_reducible refine xm_go_blk b_X1_rule_223 k_X1_rule_223 ?_
  refine by_aload_n rfl ?_
  refine by_getf cn_46 fl_1_63 (by first | exact rfl | assumption | exact ps_0 hpp) (by decide) ?_
  refine by_iload_n rfl ?_
  simp (disch := first | exact Nat.ne_of_beq_eq_false rfl | omega) only [nI_add, xa_sub, xa_mul, pk_div, nm_mod, xa_shr, xa_and7, xa_and1, xa_and255, xa_by_and, nI_m1, Nat.add_sub_cancel, Nat.reducePow, Nat.zero_add, Nat.add_zero, Nat.reduceAdd, Nat.reduceMul, Nat.reduceSub, xf_same, xq_ff, xq_fo, xf_1, xf_2, xs_1, xs_2, xs_same, xq_so, xj_1, xj_2, xj_same, xq_jo, xq_sa1, xq_same, xq_other, upd_s, oI_n, oI_s, pf_6 j1 hpp, pf_7 j1 hpp, m6, m7, f6, f7]
  first | refine by_iald (by first | exact rfl | assumption | exact ps_1 hpp | exact ps_2 hpp | exact ps_3 hpp | exact ps_4 hpp | exact ps_5 hpp | exact ps_6 hpp | exact ps_7 hpp | exact ps_8 hpp | exact ps_9 hpp | exact ps_10 hpp | exact ps_11 hpp | exact ps_15 hpp | exact ps_16 hpp | exact ps_17 hpp | exact ps_18 hpp | exact ps_19 hpp | exact ps_21 hpp | exact ps_22 hpp | exact ps_23 hpp | exact ps_24 hpp) ⟨by omega, by omega⟩ ?_ | refine by_tald rfl rfl ⟨by omega, by omega⟩ ?_
  simp (disch := first | exact Nat.ne_of_beq_eq_false rfl | omega) only [nI_add, xa_sub, xa_mul, pk_div, nm_mod, xa_shr, xa_and7, xa_and1, xa_and255, xa_by_and, nI_m1, Nat.add_sub_cancel, Nat.reducePow, Nat.zero_add, Nat.add_zero, Nat.reduceAdd, Nat.reduceMul, Nat.reduceSub, xf_same, xq_ff, xq_fo, xf_1, xf_2, xs_1, xs_2, xs_same, xq_so, xj_1, xj_2, xj_same, xq_jo, xq_sa1, xq_same, xq_other, upd_s, oI_n, oI_s, xv_0, xv_1, xv_2, xv_3, xm_p1, xm_p2, List.filter_cons, List.filter_nil, Nat.reduceBEq, Bool.not_true, Bool.not_false, Bool.and_true, Bool.and_false, Bool.false_and, Bool.true_and, if_true, if_false, Bool.false_eq_true, reduceIte, xc_i, xc_j, xc_r, xc_n, List.nil_append, List.cons_append, Option.toList_some, Option.toList_none, pf_6 j1 hpp, pf_7 j1 hpp, m6, m7, f6, f7]
  refine by_inv3 cn_46 lk_1_88 (by rw [xe_cnt]; decide) is_50 np_50 cn_50 (by first | exact rfl | assumption) (Nat.le_of_ble_eq_true rfl) ?_
  refine sp_term (kk := 2) (ll := c) (rr := tgt (fi n)) j1 g2 (by omega) (by decide) rfl (fun _ => ⟨by omega, by omega⟩) ⟨by omega, by omega⟩ (fun h2 g3 g4 => ?_)
  have j2 : XF h2 := Fr_XF j1 g3 rl_fin
  have g5 := Fr_g2 g1 g3
  have q6 := (gr_pp hpp g5).1
  have q7 := (gr_pp hpp g5).2
  with_reducible refine xm_go_blk b_X1_rule_232 k_X1_rule_232 ?_
  refine by_ins4 cn_46 lk_1_76 (by rw [xe_cnt]; decide) is_47 np_47 (Nat.le_of_ble_eq_true rfl) ?_
  refine rl_set hpp j2 (by omega) ?_
  with_reducible refine xm_go_blk b_X1_rule_235 k_X1_rule_235 ?_
  refine by_iconst ci_1 ?_
  refine by_iret ry_46 (by first | rfl | assumption) ?_
  refine hP.1 _ _ _ _ _ _ _ _ _ (Fr_set (Fr_gr g5)) (tsI_new (s := src (fi n)) (t := c + 1) hI hn hnL hl (Fr_set (Fr_gr g5)) (gr_set hpp g4) ?_ (tx_tr updN_tx updN_tx) (by omega) (fun _ => rl_sn) (fun m hm => by rw [(rl_ss hm).1, (rl_ss hm).2, q6, q7]; exact ⟨rfl, rfl⟩))
  refine tyS_add i5 (tx_tr updN_tx updN_tx) (fun t h1 h2 => ?_) (fun q hq => Or.inl hq) (fun q hq => hq) hnL hch (fun _ => ⟨by omega, by omega⟩) (fun f hf => ?_) (fun S T V hs ht hr v1 v2 v3 v4 => ?_)
  · rcases (by omega : t = c ∨ t = c + 1) with rfl | rfl
    · rw [updN_o (by omega), updN_s]; exact ⟨by decide, fun q => absurd q (by decide)⟩
    · rw [updN_s, updN_s, updN_s]; exact ⟨by decide, fun q => ⟨by omega, by omega⟩⟩
  · refine ⟨fun e => ?_, fun e => ?_, fun e => ?_, fun e => ?_, fun e => ?_, fun e => ?_, fun e => ?_, fun e => ?_, fun e => ?_, fun e => ?_⟩ <;> first | (exfalso; omega) | skip
    simp only [updN_s, updN_o hne]
    exact ⟨trivial, by omega, trivial, trivial⟩
  · obtain ⟨r1, x, r2⟩ := hr.2.2.2.2.1 hc
    obtain ⟨w1, w2⟩ := v4 (fi n) hfi hfv
    have hok : ty_ok x := by
      have := ht n
      rw [r2] at this
      exact this.1
    have e := tvx_n (V := V) (c := c) (i := 0) (g := [x, T n])
    have e2 := tvx_n (V := V) (c := c) (i := 1) (g := [x, T n])
    rw [Nat.add_zero] at e
    refine ⟨tvx V c [x, T n], tvx_ok v1 (by intro a ha; simp only [List.mem_cons, List.not_mem_nil, or_false] at ha; rcases ha with rfl | rfl; exact hok; exact ht n), fun t ht => tvx_o ht, fun t h1 h2 => ?_, tx_pd i5.2.1 v3 (fun t ht => tvx_o ht), fun _ => ?_⟩
    · rcases (by omega : t = c ∨ t = c + 1) with rfl | rfl
      · rw [updN_o (by omega), updN_s]; exact ⟨nofun, nofun, nofun⟩
      · rw [updN_s, updN_s, updN_s]
        refine ⟨nofun, fun _ => ?_, nofun⟩
        rw [e2, e, tvx_o f9, w2]
        exact r2
    · rw [e2, tvx_o f8, w1]
      exact ⟨r1, rfl⟩
theorem rl_5 (hI : tsI h pp N cd fi se nu L c k l r rt es src tgt) (hn : n < N) (hnL : n ∉ L) (hl : L.length < 2000) (hch : ∀ m ∈ L, (cd m ≤ 6 → fi m ≠ n) ∧ (cd m ≤ 2 → se m ≠ n)) (hfi : fi n ∈ L) (hfv : cd (fi n) ≠ 11) (hc : cd n = 5) (hP : rlP pp N n cd fi se nu L h post) : xm_T (XE sc) (d + 4) 46 [.ref 15, .ref pp, .int (nI n)] h post := by
  have hI0 := hI
  obtain ⟨i1, hpp, i3, i4, i5, i6, i7, i8, i9, i10, i11⟩ := hI0
  obtain ⟨a1, a2, a3, a4, a5, a6, a7⟩ := i3 n hn
  obtain ⟨b2, b2'⟩ := a3 (by omega)
  obtain ⟨f1, f2⟩ := i6 (fi n) hfi
  obtain ⟨f6, f7⟩ := f2 hfv
  obtain ⟨f8, f9⟩ := i5.2.2.1 (fi n) hfi hfv
  have hne : fi n ≠ n := fun z => hnL (by rw [← z]; exact hfi)
  have b3 := a6 (by omega)
  refine xq_in rfl ?_
  simp only [xq_a0, xq_aI, xq_aJ, xq_aR, Nat.reduceAdd]
  rw [hc] at a1
  with_reducible refine xm_go_blk b_X1_rule_0 k_X1_rule_0 ?_
  refine by_aload_n rfl ?_
  refine by_getf cn_46 fl_1_70 (by first | exact rfl | assumption | exact ps_0 hpp) (by decide) ?_
  refine by_iload_n rfl ?_
  simp (disch := first | exact Nat.ne_of_beq_eq_false rfl | omega) only [nI_add, xa_sub, xa_mul, pk_div, nm_mod, xa_shr, xa_and7, xa_and1, xa_and255, xa_by_and, nI_m1, Nat.add_sub_cancel, Nat.reducePow, Nat.zero_add, Nat.add_zero, Nat.reduceAdd, Nat.reduceMul, Nat.reduceSub, xf_same, xq_ff, xq_fo, xf_1, xf_2, xs_1, xs_2, xs_same, xq_so, xj_1, xj_2, xj_same, xq_jo, xq_sa1, xq_same, xq_other, upd_s, oI_n, oI_s, pf_1 i1 hpp, pf_2 i1 hpp, pf_3 i1 hpp, a1, b2, b3, pf_6 i1 hpp, pf_7 i1 hpp, f6, f7]
  first | refine by_iald (by first | exact rfl | assumption | exact ps_1 hpp | exact ps_2 hpp | exact ps_3 hpp | exact ps_4 hpp | exact ps_5 hpp | exact ps_6 hpp | exact ps_7 hpp | exact ps_8 hpp | exact ps_9 hpp | exact ps_10 hpp | exact ps_11 hpp | exact ps_15 hpp | exact ps_16 hpp | exact ps_17 hpp | exact ps_18 hpp | exact ps_19 hpp | exact ps_21 hpp | exact ps_22 hpp | exact ps_23 hpp | exact ps_24 hpp) ⟨by omega, by omega⟩ ?_ | refine by_tald rfl rfl ⟨by omega, by omega⟩ ?_
  refine by_istore_n (by rw [ml_46]; decide) ?_
  refine by_aload_n rfl ?_
  refine by_getf cn_46 fl_1_73 (by first | exact rfl | assumption | exact ps_0 hpp) (by decide) ?_
  refine by_iload_n rfl ?_
  simp (disch := first | exact Nat.ne_of_beq_eq_false rfl | omega) only [nI_add, xa_sub, xa_mul, pk_div, nm_mod, xa_shr, xa_and7, xa_and1, xa_and255, xa_by_and, nI_m1, Nat.add_sub_cancel, Nat.reducePow, Nat.zero_add, Nat.add_zero, Nat.reduceAdd, Nat.reduceMul, Nat.reduceSub, xf_same, xq_ff, xq_fo, xf_1, xf_2, xs_1, xs_2, xs_same, xq_so, xj_1, xj_2, xj_same, xq_jo, xq_sa1, xq_same, xq_other, upd_s, oI_n, oI_s, pf_1 i1 hpp, pf_2 i1 hpp, pf_3 i1 hpp, a1, b2, b3, pf_6 i1 hpp, pf_7 i1 hpp, f6, f7]
  first | refine by_iald (by first | exact rfl | assumption | exact ps_1 hpp | exact ps_2 hpp | exact ps_3 hpp | exact ps_4 hpp | exact ps_5 hpp | exact ps_6 hpp | exact ps_7 hpp | exact ps_8 hpp | exact ps_9 hpp | exact ps_10 hpp | exact ps_11 hpp | exact ps_15 hpp | exact ps_16 hpp | exact ps_17 hpp | exact ps_18 hpp | exact ps_19 hpp | exact ps_21 hpp | exact ps_22 hpp | exact ps_23 hpp | exact ps_24 hpp) ⟨by omega, by omega⟩ ?_ | refine by_tald rfl rfl ⟨by omega, by omega⟩ ?_
  refine by_istore (by rw [ml_46]; decide) ?_
  refine by_aload_n rfl ?_
  refine by_getf cn_46 fl_1_53 (by first | exact rfl | assumption | exact ps_0 hpp) (by decide) ?_
  refine by_iload_n rfl ?_
  simp (disch := first | exact Nat.ne_of_beq_eq_false rfl | omega) only [nI_add, xa_sub, xa_mul, pk_div, nm_mod, xa_shr, xa_and7, xa_and1, xa_and255, xa_by_and, nI_m1, Nat.add_sub_cancel, Nat.reducePow, Nat.zero_add, Nat.add_zero, Nat.reduceAdd, Nat.reduceMul, Nat.reduceSub, xf_same, xq_ff, xq_fo, xf_1, xf_2, xs_1, xs_2, xs_same, xq_so, xj_1, xj_2, xj_same, xq_jo, xq_sa1, xq_same, xq_other, upd_s, oI_n, oI_s, pf_1 i1 hpp, pf_2 i1 hpp, pf_3 i1 hpp, a1, b2, b3, pf_6 i1 hpp, pf_7 i1 hpp, f6, f7]
  first | refine by_iald (by first | exact rfl | assumption | exact ps_1 hpp | exact ps_2 hpp | exact ps_3 hpp | exact ps_4 hpp | exact ps_5 hpp | exact ps_6 hpp | exact ps_7 hpp | exact ps_8 hpp | exact ps_9 hpp | exact ps_10 hpp | exact ps_11 hpp | exact ps_15 hpp | exact ps_16 hpp | exact ps_17 hpp | exact ps_18 hpp | exact ps_19 hpp | exact ps_21 hpp | exact ps_22 hpp | exact ps_23 hpp | exact ps_24 hpp) ⟨by omega, by omega⟩ ?_ | refine by_tald rfl rfl ⟨by omega, by omega⟩ ?_
  simp (disch := first | exact Nat.ne_of_beq_eq_false rfl | omega) only [nI_add, xa_sub, xa_mul, pk_div, nm_mod, xa_shr, xa_and7, xa_and1, xa_and255, xa_by_and, nI_m1, Nat.add_sub_cancel, Nat.reducePow, Nat.zero_add, Nat.add_zero, Nat.reduceAdd, Nat.reduceMul, Nat.reduceSub, xf_same, xq_ff, xq_fo, xf_1, xf_2, xs_1, xs_2, xs_same, xq_so, xj_1, xj_2, xj_same, xq_jo, xq_sa1, xq_same, xq_other, upd_s, oI_n, oI_s, pf_1 i1 hpp, pf_2 i1 hpp, pf_3 i1 hpp, a1, b2, b3, pf_6 i1 hpp, pf_7 i1 hpp, f6, f7]
  refine by_sw ?_
  simp (disch := first | exact Nat.ne_of_beq_eq_false rfl | omega) only [nI_add, xa_sub, xa_mul, pk_div, nm_mod, xa_shr, xa_and7, xa_and1, xa_and255, xa_by_and, nI_m1, Nat.add_sub_cancel, Nat.reducePow, Nat.zero_add, Nat.add_zero, Nat.reduceAdd, Nat.reduceMul, Nat.reduceSub, xf_same, xq_ff, xq_fo, xf_1, xf_2, xs_1, xs_2, xs_same, xq_so, xj_1, xj_2, xj_same, xq_jo, xq_sa1, xq_same, xq_other, upd_s, oI_n, oI_s, xv_0, xv_1, xv_2, xv_3, xm_p1, xm_p2, List.filter_cons, List.filter_nil, Nat.reduceBEq, Bool.not_true, Bool.not_false, Bool.and_true, Bool.and_false, Bool.false_and, Bool.true_and, if_true, if_false, Bool.false_eq_true, reduceIte, xc_i, xc_j, xc_r, xc_n, List.nil_append, List.cons_append, Option.toList_some, Option.toList_none, pf_1 i1 hpp, pf_2 i1 hpp, pf_3 i1 hpp, a1, b2, b3, pf_6 i1 hpp, pf_7 i1 hpp, f6, f7]
  refine xq_sw 237 (by decide) (by decide) ?_
  with_reducible refine xm_go_blk b_X1_rule_237 k_X1_rule_237 ?_
  refine by_aload_n rfl ?_
  refine by_iload_n rfl ?_
  refine by_aload_n rfl ?_
  refine by_iconst ci_2 ?_
  refine by_aload_n rfl ?_
  refine by_getf cn_46 fl_1_56 (by first | exact rfl | assumption | exact ps_0 hpp) (by decide) ?_
  refine by_iload_n rfl ?_
  simp (disch := first | exact Nat.ne_of_beq_eq_false rfl | omega) only [nI_add, xa_sub, xa_mul, pk_div, nm_mod, xa_shr, xa_and7, xa_and1, xa_and255, xa_by_and, nI_m1, Nat.add_sub_cancel, Nat.reducePow, Nat.zero_add, Nat.add_zero, Nat.reduceAdd, Nat.reduceMul, Nat.reduceSub, xf_same, xq_ff, xq_fo, xf_1, xf_2, xs_1, xs_2, xs_same, xq_so, xj_1, xj_2, xj_same, xq_jo, xq_sa1, xq_same, xq_other, upd_s, oI_n, oI_s, pf_1 i1 hpp, pf_2 i1 hpp, pf_3 i1 hpp, a1, b2, b3, pf_6 i1 hpp, pf_7 i1 hpp, f6, f7]
  first | refine by_iald (by first | exact rfl | assumption | exact ps_1 hpp | exact ps_2 hpp | exact ps_3 hpp | exact ps_4 hpp | exact ps_5 hpp | exact ps_6 hpp | exact ps_7 hpp | exact ps_8 hpp | exact ps_9 hpp | exact ps_10 hpp | exact ps_11 hpp | exact ps_15 hpp | exact ps_16 hpp | exact ps_17 hpp | exact ps_18 hpp | exact ps_19 hpp | exact ps_21 hpp | exact ps_22 hpp | exact ps_23 hpp | exact ps_24 hpp) ⟨by omega, by omega⟩ ?_ | refine by_tald rfl rfl ⟨by omega, by omega⟩ ?_
  refine by_aload_n rfl ?_
  simp (disch := first | exact Nat.ne_of_beq_eq_false rfl | omega) only [nI_add, xa_sub, xa_mul, pk_div, nm_mod, xa_shr, xa_and7, xa_and1, xa_and255, xa_by_and, nI_m1, Nat.add_sub_cancel, Nat.reducePow, Nat.zero_add, Nat.add_zero, Nat.reduceAdd, Nat.reduceMul, Nat.reduceSub, xf_same, xq_ff, xq_fo, xf_1, xf_2, xs_1, xs_2, xs_same, xq_so, xj_1, xj_2, xj_same, xq_jo, xq_sa1, xq_same, xq_other, upd_s, oI_n, oI_s, xv_0, xv_1, xv_2, xv_3, xm_p1, xm_p2, List.filter_cons, List.filter_nil, Nat.reduceBEq, Bool.not_true, Bool.not_false, Bool.and_true, Bool.and_false, Bool.false_and, Bool.true_and, if_true, if_false, Bool.false_eq_true, reduceIte, xc_i, xc_j, xc_r, xc_n, List.nil_append, List.cons_append, Option.toList_some, Option.toList_none, pf_1 i1 hpp, pf_2 i1 hpp, pf_3 i1 hpp, a1, b2, b3, pf_6 i1 hpp, pf_7 i1 hpp, f6, f7]
  refine by_inv0 cn_46 lk_1_92 (by rw [xe_cnt]; decide) is_43 np_43 cn_43 (by first | exact rfl | assumption) (Nat.le_of_ble_eq_true rfl) ?_
  refine sp_open i1 i4 (by omega) (fun h1 g1 g2 => ?_)
  have j1 : XF h1 := Fr_XF i1 g1 rl_fin
  have m6 := (gr_pp hpp g1).1
  have m7 := (gr_pp hpp g1).2
  with_reducible refine xm_go_blk b_X1_rule_251 k_X1_rule_251 ?_
  refine by_inv3 cn_46 lk_1_88 (by rw [xe_cnt]; decide) is_50 np_50 cn_50 (by first | exact rfl | assumption) (Nat.le_of_ble_eq_true rfl) ?_
  refine sp_term (kk := 3) (ll := src (fi n)) (rr := c) j1 g2 (by omega) (by decide) rfl (fun _ => ⟨by omega, by omega⟩) ⟨by omega, by omega⟩ (fun h2 g3 g4 => ?_)
  have j2 : XF h2 := Fr_XF j1 g3 rl_fin
  have g5 := Fr_g2 g1 g3
  have q6 := (gr_pp hpp g5).1
  have q7 := (gr_pp hpp g5).2
  with_reducible refine xm_go_blk b_X1_rule_254 k_X1_rule_254 ?_
  refine by_aload_n rfl ?_
  refine by_getf cn_46 fl_1_63 (by first | exact rfl | assumption | exact ps_0 hpp) (by decide) ?_
  refine by_iload_n rfl ?_
  simp (disch := first | exact Nat.ne_of_beq_eq_false rfl | omega) only [nI_add, xa_sub, xa_mul, pk_div, nm_mod, xa_shr, xa_and7, xa_and1, xa_and255, xa_by_and, nI_m1, Nat.add_sub_cancel, Nat.reducePow, Nat.zero_add, Nat.add_zero, Nat.reduceAdd, Nat.reduceMul, Nat.reduceSub, xf_same, xq_ff, xq_fo, xf_1, xf_2, xs_1, xs_2, xs_same, xq_so, xj_1, xj_2, xj_same, xq_jo, xq_sa1, xq_same, xq_other, upd_s, oI_n, oI_s, pf_6 j2 hpp, pf_7 j2 hpp, q6, q7, f6, f7]
  first | refine by_iald (by first | exact rfl | assumption | exact ps_1 hpp | exact ps_2 hpp | exact ps_3 hpp | exact ps_4 hpp | exact ps_5 hpp | exact ps_6 hpp | exact ps_7 hpp | exact ps_8 hpp | exact ps_9 hpp | exact ps_10 hpp | exact ps_11 hpp | exact ps_15 hpp | exact ps_16 hpp | exact ps_17 hpp | exact ps_18 hpp | exact ps_19 hpp | exact ps_21 hpp | exact ps_22 hpp | exact ps_23 hpp | exact ps_24 hpp) ⟨by omega, by omega⟩ ?_ | refine by_tald rfl rfl ⟨by omega, by omega⟩ ?_
  simp (disch := first | exact Nat.ne_of_beq_eq_false rfl | omega) only [nI_add, xa_sub, xa_mul, pk_div, nm_mod, xa_shr, xa_and7, xa_and1, xa_and255, xa_by_and, nI_m1, Nat.add_sub_cancel, Nat.reducePow, Nat.zero_add, Nat.add_zero, Nat.reduceAdd, Nat.reduceMul, Nat.reduceSub, xf_same, xq_ff, xq_fo, xf_1, xf_2, xs_1, xs_2, xs_same, xq_so, xj_1, xj_2, xj_same, xq_jo, xq_sa1, xq_same, xq_other, upd_s, oI_n, oI_s, xv_0, xv_1, xv_2, xv_3, xm_p1, xm_p2, List.filter_cons, List.filter_nil, Nat.reduceBEq, Bool.not_true, Bool.not_false, Bool.and_true, Bool.and_false, Bool.false_and, Bool.true_and, if_true, if_false, Bool.false_eq_true, reduceIte, xc_i, xc_j, xc_r, xc_n, List.nil_append, List.cons_append, Option.toList_some, Option.toList_none, pf_6 j2 hpp, pf_7 j2 hpp, q6, q7, f6, f7]
  refine by_ins4 cn_46 lk_1_76 (by rw [xe_cnt]; decide) is_47 np_47 (Nat.le_of_ble_eq_true rfl) ?_
  refine rl_set hpp j2 (by omega) ?_
  with_reducible refine xm_go_blk b_X1_rule_263 k_X1_rule_263 ?_
  refine by_iconst ci_1 ?_
  refine by_iret ry_46 (by first | rfl | assumption) ?_
  refine hP.1 _ _ _ _ _ _ _ _ _ (Fr_set (Fr_gr g5)) (tsI_new (s := c + 1) (t := tgt (fi n)) hI hn hnL hl (Fr_set (Fr_gr g5)) (gr_set hpp g4) ?_ (tx_tr updN_tx updN_tx) (by omega) (fun _ => rl_sn) (fun m hm => by rw [(rl_ss hm).1, (rl_ss hm).2, q6, q7]; exact ⟨rfl, rfl⟩))
  refine tyS_add i5 (tx_tr updN_tx updN_tx) (fun t h1 h2 => ?_) (fun q hq => Or.inl hq) (fun q hq => hq) hnL hch (fun _ => ⟨by omega, by omega⟩) (fun f hf => ?_) (fun S T V hs ht hr v1 v2 v3 v4 => ?_)
  · rcases (by omega : t = c ∨ t = c + 1) with rfl | rfl
    · rw [updN_o (by omega), updN_s]; exact ⟨by decide, fun q => absurd q (by decide)⟩
    · rw [updN_s, updN_s, updN_s]; exact ⟨by decide, fun q => ⟨by omega, by omega⟩⟩
  · refine ⟨fun e => ?_, fun e => ?_, fun e => ?_, fun e => ?_, fun e => ?_, fun e => ?_, fun e => ?_, fun e => ?_, fun e => ?_, fun e => ?_⟩ <;> first | (exfalso; omega) | skip
    simp only [updN_s, updN_o hne]
    exact ⟨trivial, by omega, trivial, trivial⟩
  · obtain ⟨r1, x, r2⟩ := hr.2.2.2.2.2.1 hc
    obtain ⟨w1, w2⟩ := v4 (fi n) hfi hfv
    have hok : ty_ok x := by
      have := hs n
      rw [r2] at this
      exact this.2
    have e := tvx_n (V := V) (c := c) (i := 0) (g := [x, S n])
    have e2 := tvx_n (V := V) (c := c) (i := 1) (g := [x, S n])
    rw [Nat.add_zero] at e
    refine ⟨tvx V c [x, S n], tvx_ok v1 (by intro a ha; simp only [List.mem_cons, List.not_mem_nil, or_false] at ha; rcases ha with rfl | rfl; exact hok; exact hs n), fun t ht => tvx_o ht, fun t h1 h2 => ?_, tx_pd i5.2.1 v3 (fun t ht => tvx_o ht), fun _ => ?_⟩
    · rcases (by omega : t = c ∨ t = c + 1) with rfl | rfl
      · rw [updN_o (by omega), updN_s]; exact ⟨nofun, nofun, nofun⟩
      · rw [updN_s, updN_s, updN_s]
        refine ⟨nofun, nofun, fun _ => ?_⟩
        rw [e2, e, tvx_o f8, w1]
        exact r2
    · rw [e2, tvx_o f9, w2]
      exact ⟨rfl, r1⟩
theorem rl_6 (hI : tsI h pp N cd fi se nu L c k l r rt es src tgt) (hn : n < N) (hnL : n ∉ L) (hl : L.length < 2000) (hch : ∀ m ∈ L, (cd m ≤ 6 → fi m ≠ n) ∧ (cd m ≤ 2 → se m ≠ n)) (hfi : fi n ∈ L) (hfv : cd (fi n) ≠ 11) (hc : cd n = 6) (hP : rlP pp N n cd fi se nu L h post) : xm_T (XE sc) (d + 4) 46 [.ref 15, .ref pp, .int (nI n)] h post := by
  have hI0 := hI
  obtain ⟨i1, hpp, i3, i4, i5, i6, i7, i8, i9, i10, i11⟩ := hI0
  obtain ⟨a1, a2, a3, a4, a5, a6, a7⟩ := i3 n hn
  obtain ⟨b2, b2'⟩ := a3 (by omega)
  obtain ⟨f1, f2⟩ := i6 (fi n) hfi
  obtain ⟨f6, f7⟩ := f2 hfv
  obtain ⟨f8, f9⟩ := i5.2.2.1 (fi n) hfi hfv
  have hne : fi n ≠ n := fun z => hnL (by rw [← z]; exact hfi)
  have b3 := a6 (by omega)
  refine xq_in rfl ?_
  simp only [xq_a0, xq_aI, xq_aJ, xq_aR, Nat.reduceAdd]
  rw [hc] at a1
  with_reducible refine xm_go_blk b_X1_rule_0 k_X1_rule_0 ?_
  refine by_aload_n rfl ?_
  refine by_getf cn_46 fl_1_70 (by first | exact rfl | assumption | exact ps_0 hpp) (by decide) ?_
  refine by_iload_n rfl ?_
  simp (disch := first | exact Nat.ne_of_beq_eq_false rfl | omega) only [nI_add, xa_sub, xa_mul, pk_div, nm_mod, xa_shr, xa_and7, xa_and1, xa_and255, xa_by_and, nI_m1, Nat.add_sub_cancel, Nat.reducePow, Nat.zero_add, Nat.add_zero, Nat.reduceAdd, Nat.reduceMul, Nat.reduceSub, xf_same, xq_ff, xq_fo, xf_1, xf_2, xs_1, xs_2, xs_same, xq_so, xj_1, xj_2, xj_same, xq_jo, xq_sa1, xq_same, xq_other, upd_s, oI_n, oI_s, pf_1 i1 hpp, pf_2 i1 hpp, pf_3 i1 hpp, a1, b2, b3, pf_6 i1 hpp, pf_7 i1 hpp, f6, f7]
  first | refine by_iald (by first | exact rfl | assumption | exact ps_1 hpp | exact ps_2 hpp | exact ps_3 hpp | exact ps_4 hpp | exact ps_5 hpp | exact ps_6 hpp | exact ps_7 hpp | exact ps_8 hpp | exact ps_9 hpp | exact ps_10 hpp | exact ps_11 hpp | exact ps_15 hpp | exact ps_16 hpp | exact ps_17 hpp | exact ps_18 hpp | exact ps_19 hpp | exact ps_21 hpp | exact ps_22 hpp | exact ps_23 hpp | exact ps_24 hpp) ⟨by omega, by omega⟩ ?_ | refine by_tald rfl rfl ⟨by omega, by omega⟩ ?_
  refine by_istore_n (by rw [ml_46]; decide) ?_
  refine by_aload_n rfl ?_
  refine by_getf cn_46 fl_1_73 (by first | exact rfl | assumption | exact ps_0 hpp) (by decide) ?_
  refine by_iload_n rfl ?_
  simp (disch := first | exact Nat.ne_of_beq_eq_false rfl | omega) only [nI_add, xa_sub, xa_mul, pk_div, nm_mod, xa_shr, xa_and7, xa_and1, xa_and255, xa_by_and, nI_m1, Nat.add_sub_cancel, Nat.reducePow, Nat.zero_add, Nat.add_zero, Nat.reduceAdd, Nat.reduceMul, Nat.reduceSub, xf_same, xq_ff, xq_fo, xf_1, xf_2, xs_1, xs_2, xs_same, xq_so, xj_1, xj_2, xj_same, xq_jo, xq_sa1, xq_same, xq_other, upd_s, oI_n, oI_s, pf_1 i1 hpp, pf_2 i1 hpp, pf_3 i1 hpp, a1, b2, b3, pf_6 i1 hpp, pf_7 i1 hpp, f6, f7]
  first | refine by_iald (by first | exact rfl | assumption | exact ps_1 hpp | exact ps_2 hpp | exact ps_3 hpp | exact ps_4 hpp | exact ps_5 hpp | exact ps_6 hpp | exact ps_7 hpp | exact ps_8 hpp | exact ps_9 hpp | exact ps_10 hpp | exact ps_11 hpp | exact ps_15 hpp | exact ps_16 hpp | exact ps_17 hpp | exact ps_18 hpp | exact ps_19 hpp | exact ps_21 hpp | exact ps_22 hpp | exact ps_23 hpp | exact ps_24 hpp) ⟨by omega, by omega⟩ ?_ | refine by_tald rfl rfl ⟨by omega, by omega⟩ ?_
  refine by_istore (by rw [ml_46]; decide) ?_
  refine by_aload_n rfl ?_
  refine by_getf cn_46 fl_1_53 (by first | exact rfl | assumption | exact ps_0 hpp) (by decide) ?_
  refine by_iload_n rfl ?_
  simp (disch := first | exact Nat.ne_of_beq_eq_false rfl | omega) only [nI_add, xa_sub, xa_mul, pk_div, nm_mod, xa_shr, xa_and7, xa_and1, xa_and255, xa_by_and, nI_m1, Nat.add_sub_cancel, Nat.reducePow, Nat.zero_add, Nat.add_zero, Nat.reduceAdd, Nat.reduceMul, Nat.reduceSub, xf_same, xq_ff, xq_fo, xf_1, xf_2, xs_1, xs_2, xs_same, xq_so, xj_1, xj_2, xj_same, xq_jo, xq_sa1, xq_same, xq_other, upd_s, oI_n, oI_s, pf_1 i1 hpp, pf_2 i1 hpp, pf_3 i1 hpp, a1, b2, b3, pf_6 i1 hpp, pf_7 i1 hpp, f6, f7]
  first | refine by_iald (by first | exact rfl | assumption | exact ps_1 hpp | exact ps_2 hpp | exact ps_3 hpp | exact ps_4 hpp | exact ps_5 hpp | exact ps_6 hpp | exact ps_7 hpp | exact ps_8 hpp | exact ps_9 hpp | exact ps_10 hpp | exact ps_11 hpp | exact ps_15 hpp | exact ps_16 hpp | exact ps_17 hpp | exact ps_18 hpp | exact ps_19 hpp | exact ps_21 hpp | exact ps_22 hpp | exact ps_23 hpp | exact ps_24 hpp) ⟨by omega, by omega⟩ ?_ | refine by_tald rfl rfl ⟨by omega, by omega⟩ ?_
  simp (disch := first | exact Nat.ne_of_beq_eq_false rfl | omega) only [nI_add, xa_sub, xa_mul, pk_div, nm_mod, xa_shr, xa_and7, xa_and1, xa_and255, xa_by_and, nI_m1, Nat.add_sub_cancel, Nat.reducePow, Nat.zero_add, Nat.add_zero, Nat.reduceAdd, Nat.reduceMul, Nat.reduceSub, xf_same, xq_ff, xq_fo, xf_1, xf_2, xs_1, xs_2, xs_same, xq_so, xj_1, xj_2, xj_same, xq_jo, xq_sa1, xq_same, xq_other, upd_s, oI_n, oI_s, pf_1 i1 hpp, pf_2 i1 hpp, pf_3 i1 hpp, a1, b2, b3, pf_6 i1 hpp, pf_7 i1 hpp, f6, f7]
  refine by_sw ?_
  simp (disch := first | exact Nat.ne_of_beq_eq_false rfl | omega) only [nI_add, xa_sub, xa_mul, pk_div, nm_mod, xa_shr, xa_and7, xa_and1, xa_and255, xa_by_and, nI_m1, Nat.add_sub_cancel, Nat.reducePow, Nat.zero_add, Nat.add_zero, Nat.reduceAdd, Nat.reduceMul, Nat.reduceSub, xf_same, xq_ff, xq_fo, xf_1, xf_2, xs_1, xs_2, xs_same, xq_so, xj_1, xj_2, xj_same, xq_jo, xq_sa1, xq_same, xq_other, upd_s, oI_n, oI_s, xv_0, xv_1, xv_2, xv_3, xm_p1, xm_p2, List.filter_cons, List.filter_nil, Nat.reduceBEq, Bool.not_true, Bool.not_false, Bool.and_true, Bool.and_false, Bool.false_and, Bool.true_and, if_true, if_false, Bool.false_eq_true, reduceIte, xc_i, xc_j, xc_r, xc_n, List.nil_append, List.cons_append, Option.toList_some, Option.toList_none, pf_1 i1 hpp, pf_2 i1 hpp, pf_3 i1 hpp, a1, b2, b3, pf_6 i1 hpp, pf_7 i1 hpp, f6, f7]
  refine xq_sw 265 (by decide) (by decide) ?_
  with_reducible refine xm_go_blk b_X1_rule_265 k_X1_rule_265 ?_
  refine by_aload_n rfl ?_
  refine by_iload_n rfl ?_
  refine by_aload_n rfl ?_
  refine by_iconst ci_2 ?_
  refine by_aload_n rfl ?_
  refine by_inv0 cn_46 lk_1_92 (by rw [xe_cnt]; decide) is_43 np_43 cn_43 (by first | exact rfl | assumption) (Nat.le_of_ble_eq_true rfl) ?_
  refine sp_open i1 i4 (by omega) (fun h1 g1 g2 => ?_)
  have j1 : XF h1 := Fr_XF i1 g1 rl_fin
  have m6 := (gr_pp hpp g1).1
  have m7 := (gr_pp hpp g1).2
  with_reducible refine xm_go_blk b_X1_rule_273 k_X1_rule_273 ?_
  refine by_aload_n rfl ?_
  refine by_getf cn_46 fl_1_56 (by first | exact rfl | assumption | exact ps_0 hpp) (by decide) ?_
  refine by_iload_n rfl ?_
  simp (disch := first | exact Nat.ne_of_beq_eq_false rfl | omega) only [nI_add, xa_sub, xa_mul, pk_div, nm_mod, xa_shr, xa_and7, xa_and1, xa_and255, xa_by_and, nI_m1, Nat.add_sub_cancel, Nat.reducePow, Nat.zero_add, Nat.add_zero, Nat.reduceAdd, Nat.reduceMul, Nat.reduceSub, xf_same, xq_ff, xq_fo, xf_1, xf_2, xs_1, xs_2, xs_same, xq_so, xj_1, xj_2, xj_same, xq_jo, xq_sa1, xq_same, xq_other, upd_s, oI_n, oI_s, pf_6 j1 hpp, pf_7 j1 hpp, m6, m7, f6, f7]
  first | refine by_iald (by first | exact rfl | assumption | exact ps_1 hpp | exact ps_2 hpp | exact ps_3 hpp | exact ps_4 hpp | exact ps_5 hpp | exact ps_6 hpp | exact ps_7 hpp | exact ps_8 hpp | exact ps_9 hpp | exact ps_10 hpp | exact ps_11 hpp | exact ps_15 hpp | exact ps_16 hpp | exact ps_17 hpp | exact ps_18 hpp | exact ps_19 hpp | exact ps_21 hpp | exact ps_22 hpp | exact ps_23 hpp | exact ps_24 hpp) ⟨by omega, by omega⟩ ?_ | refine by_tald rfl rfl ⟨by omega, by omega⟩ ?_
  simp (disch := first | exact Nat.ne_of_beq_eq_false rfl | omega) only [nI_add, xa_sub, xa_mul, pk_div, nm_mod, xa_shr, xa_and7, xa_and1, xa_and255, xa_by_and, nI_m1, Nat.add_sub_cancel, Nat.reducePow, Nat.zero_add, Nat.add_zero, Nat.reduceAdd, Nat.reduceMul, Nat.reduceSub, xf_same, xq_ff, xq_fo, xf_1, xf_2, xs_1, xs_2, xs_same, xq_so, xj_1, xj_2, xj_same, xq_jo, xq_sa1, xq_same, xq_other, upd_s, oI_n, oI_s, xv_0, xv_1, xv_2, xv_3, xm_p1, xm_p2, List.filter_cons, List.filter_nil, Nat.reduceBEq, Bool.not_true, Bool.not_false, Bool.and_true, Bool.and_false, Bool.false_and, Bool.true_and, if_true, if_false, Bool.false_eq_true, reduceIte, xc_i, xc_j, xc_r, xc_n, List.nil_append, List.cons_append, Option.toList_some, Option.toList_none, pf_6 j1 hpp, pf_7 j1 hpp, m6, m7, f6, f7]
  refine by_inv3 cn_46 lk_1_88 (by rw [xe_cnt]; decide) is_50 np_50 cn_50 (by first | exact rfl | assumption) (Nat.le_of_ble_eq_true rfl) ?_
  refine sp_term (kk := 3) (ll := c) (rr := src (fi n)) j1 g2 (by omega) (by decide) rfl (fun _ => ⟨by omega, by omega⟩) ⟨by omega, by omega⟩ (fun h2 g3 g4 => ?_)
  have j2 : XF h2 := Fr_XF j1 g3 rl_fin
  have g5 := Fr_g2 g1 g3
  have q6 := (gr_pp hpp g5).1
  have q7 := (gr_pp hpp g5).2
  with_reducible refine xm_go_blk b_X1_rule_282 k_X1_rule_282 ?_
  refine by_aload_n rfl ?_
  refine by_getf cn_46 fl_1_63 (by first | exact rfl | assumption | exact ps_0 hpp) (by decide) ?_
  refine by_iload_n rfl ?_
  simp (disch := first | exact Nat.ne_of_beq_eq_false rfl | omega) only [nI_add, xa_sub, xa_mul, pk_div, nm_mod, xa_shr, xa_and7, xa_and1, xa_and255, xa_by_and, nI_m1, Nat.add_sub_cancel, Nat.reducePow, Nat.zero_add, Nat.add_zero, Nat.reduceAdd, Nat.reduceMul, Nat.reduceSub, xf_same, xq_ff, xq_fo, xf_1, xf_2, xs_1, xs_2, xs_same, xq_so, xj_1, xj_2, xj_same, xq_jo, xq_sa1, xq_same, xq_other, upd_s, oI_n, oI_s, pf_6 j2 hpp, pf_7 j2 hpp, q6, q7, f6, f7]
  first | refine by_iald (by first | exact rfl | assumption | exact ps_1 hpp | exact ps_2 hpp | exact ps_3 hpp | exact ps_4 hpp | exact ps_5 hpp | exact ps_6 hpp | exact ps_7 hpp | exact ps_8 hpp | exact ps_9 hpp | exact ps_10 hpp | exact ps_11 hpp | exact ps_15 hpp | exact ps_16 hpp | exact ps_17 hpp | exact ps_18 hpp | exact ps_19 hpp | exact ps_21 hpp | exact ps_22 hpp | exact ps_23 hpp | exact ps_24 hpp) ⟨by omega, by omega⟩ ?_ | refine by_tald rfl rfl ⟨by omega, by omega⟩ ?_
  simp (disch := first | exact Nat.ne_of_beq_eq_false rfl | omega) only [nI_add, xa_sub, xa_mul, pk_div, nm_mod, xa_shr, xa_and7, xa_and1, xa_and255, xa_by_and, nI_m1, Nat.add_sub_cancel, Nat.reducePow, Nat.zero_add, Nat.add_zero, Nat.reduceAdd, Nat.reduceMul, Nat.reduceSub, xf_same, xq_ff, xq_fo, xf_1, xf_2, xs_1, xs_2, xs_same, xq_so, xj_1, xj_2, xj_same, xq_jo, xq_sa1, xq_same, xq_other, upd_s, oI_n, oI_s, xv_0, xv_1, xv_2, xv_3, xm_p1, xm_p2, List.filter_cons, List.filter_nil, Nat.reduceBEq, Bool.not_true, Bool.not_false, Bool.and_true, Bool.and_false, Bool.false_and, Bool.true_and, if_true, if_false, Bool.false_eq_true, reduceIte, xc_i, xc_j, xc_r, xc_n, List.nil_append, List.cons_append, Option.toList_some, Option.toList_none, pf_6 j2 hpp, pf_7 j2 hpp, q6, q7, f6, f7]
  refine by_ins4 cn_46 lk_1_76 (by rw [xe_cnt]; decide) is_47 np_47 (Nat.le_of_ble_eq_true rfl) ?_
  refine rl_set hpp j2 (by omega) ?_
  with_reducible refine xm_go_blk b_X1_rule_291 k_X1_rule_291 ?_
  refine by_iconst ci_1 ?_
  refine by_iret ry_46 (by first | rfl | assumption) ?_
  refine hP.1 _ _ _ _ _ _ _ _ _ (Fr_set (Fr_gr g5)) (tsI_new (s := c + 1) (t := tgt (fi n)) hI hn hnL hl (Fr_set (Fr_gr g5)) (gr_set hpp g4) ?_ (tx_tr updN_tx updN_tx) (by omega) (fun _ => rl_sn) (fun m hm => by rw [(rl_ss hm).1, (rl_ss hm).2, q6, q7]; exact ⟨rfl, rfl⟩))
  refine tyS_add i5 (tx_tr updN_tx updN_tx) (fun t h1 h2 => ?_) (fun q hq => Or.inl hq) (fun q hq => hq) hnL hch (fun _ => ⟨by omega, by omega⟩) (fun f hf => ?_) (fun S T V hs ht hr v1 v2 v3 v4 => ?_)
  · rcases (by omega : t = c ∨ t = c + 1) with rfl | rfl
    · rw [updN_o (by omega), updN_s]; exact ⟨by decide, fun q => absurd q (by decide)⟩
    · rw [updN_s, updN_s, updN_s]; exact ⟨by decide, fun q => ⟨by omega, by omega⟩⟩
  · refine ⟨fun e => ?_, fun e => ?_, fun e => ?_, fun e => ?_, fun e => ?_, fun e => ?_, fun e => ?_, fun e => ?_, fun e => ?_, fun e => ?_⟩ <;> first | (exfalso; omega) | skip
    simp only [updN_s, updN_o hne]
    exact ⟨trivial, by omega, trivial, trivial⟩
  · obtain ⟨r1, x, r2⟩ := hr.2.2.2.2.2.2.1 hc
    obtain ⟨w1, w2⟩ := v4 (fi n) hfi hfv
    have hok : ty_ok x := by
      have := hs n
      rw [r2] at this
      exact this.1
    have e := tvx_n (V := V) (c := c) (i := 0) (g := [x, S n])
    have e2 := tvx_n (V := V) (c := c) (i := 1) (g := [x, S n])
    rw [Nat.add_zero] at e
    refine ⟨tvx V c [x, S n], tvx_ok v1 (by intro a ha; simp only [List.mem_cons, List.not_mem_nil, or_false] at ha; rcases ha with rfl | rfl; exact hok; exact hs n), fun t ht => tvx_o ht, fun t h1 h2 => ?_, tx_pd i5.2.1 v3 (fun t ht => tvx_o ht), fun _ => ?_⟩
    · rcases (by omega : t = c ∨ t = c + 1) with rfl | rfl
      · rw [updN_o (by omega), updN_s]; exact ⟨nofun, nofun, nofun⟩
      · rw [updN_s, updN_s, updN_s]
        refine ⟨nofun, nofun, fun _ => ?_⟩
        rw [e2, e, tvx_o f8, w1]
        exact r2
    · rw [e2, tvx_o f9, w2]
      exact ⟨rfl, r1⟩
theorem rl_0 (hI : tsI h pp N cd fi se nu L c k l r rt es src tgt) (hn : n < N) (hnL : n ∉ L) (hl : L.length < 2000) (hch : ∀ m ∈ L, (cd m ≤ 6 → fi m ≠ n) ∧ (cd m ≤ 2 → se m ≠ n)) (hfi : fi n ∈ L) (hfv : cd (fi n) ≠ 11) (hse : se n ∈ L) (hsv : cd (se n) ≠ 11) (hc : cd n = 0) (hP : rlP pp N n cd fi se nu L h post) : xm_T (XE sc) (d + 4) 46 [.ref 15, .ref pp, .int (nI n)] h post := by
  have hI0 := hI
  obtain ⟨i1, hpp, i3, i4, i5, i6, i7, i8, i9, i10, i11⟩ := hI0
  obtain ⟨a1, a2, a3, a4, a5, a6, a7⟩ := i3 n hn
  obtain ⟨b2, b2'⟩ := a3 (by omega)
  obtain ⟨f1, f2⟩ := i6 (fi n) hfi
  obtain ⟨f6, f7⟩ := f2 hfv
  obtain ⟨f8, f9⟩ := i5.2.2.1 (fi n) hfi hfv
  have hne : fi n ≠ n := fun z => hnL (by rw [← z]; exact hfi)
  obtain ⟨b3, b3'⟩ := a5 (by omega)
  obtain ⟨p1, p2⟩ := i6 (se n) hse
  obtain ⟨p6, p7⟩ := p2 hsv
  obtain ⟨p8, p9⟩ := i5.2.2.1 (se n) hse hsv
  have hne2 : se n ≠ n := fun z => hnL (by rw [← z]; exact hse)
  refine xq_in rfl ?_
  simp only [xq_a0, xq_aI, xq_aJ, xq_aR, Nat.reduceAdd]
  rw [hc] at a1
  have hsol : ∀ S T V, ty_vok S → ty_vok T → ty_rule cd fi se nu S T n → ty_vok V → ty_all c k l r V → ty_pd es V → (∀ m ∈ L, cd m ≠ 11 → V (src m) = S m ∧ V (tgt m) = T m) → ∃ V', ty_vok V' ∧ (∀ t, t < c → V' t = V t) ∧ (∀ t, c ≤ t → t < c → ty_st V' (k t) (l t) (r t) t) ∧ ty_pd ((tgt (fi n), src (se n)) :: es) V' ∧ (cd n ≠ 11 → V' (src (fi n)) = S n ∧ V' (tgt (se n)) = T n) := by
    intro S T V hs ht hr v1 v2 v3 v4
    obtain ⟨r1, r2, r3⟩ := hr.1 hc
    obtain ⟨w1, w2⟩ := v4 (fi n) hfi hfv
    obtain ⟨w3, w4⟩ := v4 (se n) hse hsv
    exact ⟨V, v1, fun _ _ => rfl, fun t h1 h2 => absurd h1 (by omega), ty_pd_cons.mpr ⟨by rw [w2, w3, r3], v3⟩, fun _ => ⟨by rw [w1, r1], by rw [w4, r2]⟩⟩
  with_reducible refine xm_go_blk b_X1_rule_0 k_X1_rule_0 ?_
  refine by_aload_n rfl ?_
  refine by_getf cn_46 fl_1_70 (by first | exact rfl | assumption | exact ps_0 hpp) (by decide) ?_
  refine by_iload_n rfl ?_
  simp (disch := first | exact Nat.ne_of_beq_eq_false rfl | omega) only [nI_add, xa_sub, xa_mul, pk_div, nm_mod, xa_shr, xa_and7, xa_and1, xa_and255, xa_by_and, nI_m1, Nat.add_sub_cancel, Nat.reducePow, Nat.zero_add, Nat.add_zero, Nat.reduceAdd, Nat.reduceMul, Nat.reduceSub, xf_same, xq_ff, xq_fo, xf_1, xf_2, xs_1, xs_2, xs_same, xq_so, xj_1, xj_2, xj_same, xq_jo, xq_sa1, xq_same, xq_other, upd_s, oI_n, oI_s, pf_1 i1 hpp, pf_2 i1 hpp, pf_3 i1 hpp, a1, b2, b3, pf_6 i1 hpp, pf_7 i1 hpp, f6, f7, p6, p7]
  first | refine by_iald (by first | exact rfl | assumption | exact ps_1 hpp | exact ps_2 hpp | exact ps_3 hpp | exact ps_4 hpp | exact ps_5 hpp | exact ps_6 hpp | exact ps_7 hpp | exact ps_8 hpp | exact ps_9 hpp | exact ps_10 hpp | exact ps_11 hpp | exact ps_15 hpp | exact ps_16 hpp | exact ps_17 hpp | exact ps_18 hpp | exact ps_19 hpp | exact ps_21 hpp | exact ps_22 hpp | exact ps_23 hpp | exact ps_24 hpp) ⟨by omega, by omega⟩ ?_ | refine by_tald rfl rfl ⟨by omega, by omega⟩ ?_
  refine by_istore_n (by rw [ml_46]; decide) ?_
  refine by_aload_n rfl ?_
  refine by_getf cn_46 fl_1_73 (by first | exact rfl | assumption | exact ps_0 hpp) (by decide) ?_
  refine by_iload_n rfl ?_
  simp (disch := first | exact Nat.ne_of_beq_eq_false rfl | omega) only [nI_add, xa_sub, xa_mul, pk_div, nm_mod, xa_shr, xa_and7, xa_and1, xa_and255, xa_by_and, nI_m1, Nat.add_sub_cancel, Nat.reducePow, Nat.zero_add, Nat.add_zero, Nat.reduceAdd, Nat.reduceMul, Nat.reduceSub, xf_same, xq_ff, xq_fo, xf_1, xf_2, xs_1, xs_2, xs_same, xq_so, xj_1, xj_2, xj_same, xq_jo, xq_sa1, xq_same, xq_other, upd_s, oI_n, oI_s, pf_1 i1 hpp, pf_2 i1 hpp, pf_3 i1 hpp, a1, b2, b3, pf_6 i1 hpp, pf_7 i1 hpp, f6, f7, p6, p7]
  first | refine by_iald (by first | exact rfl | assumption | exact ps_1 hpp | exact ps_2 hpp | exact ps_3 hpp | exact ps_4 hpp | exact ps_5 hpp | exact ps_6 hpp | exact ps_7 hpp | exact ps_8 hpp | exact ps_9 hpp | exact ps_10 hpp | exact ps_11 hpp | exact ps_15 hpp | exact ps_16 hpp | exact ps_17 hpp | exact ps_18 hpp | exact ps_19 hpp | exact ps_21 hpp | exact ps_22 hpp | exact ps_23 hpp | exact ps_24 hpp) ⟨by omega, by omega⟩ ?_ | refine by_tald rfl rfl ⟨by omega, by omega⟩ ?_
  refine by_istore (by rw [ml_46]; decide) ?_
  refine by_aload_n rfl ?_
  refine by_getf cn_46 fl_1_53 (by first | exact rfl | assumption | exact ps_0 hpp) (by decide) ?_
  refine by_iload_n rfl ?_
  simp (disch := first | exact Nat.ne_of_beq_eq_false rfl | omega) only [nI_add, xa_sub, xa_mul, pk_div, nm_mod, xa_shr, xa_and7, xa_and1, xa_and255, xa_by_and, nI_m1, Nat.add_sub_cancel, Nat.reducePow, Nat.zero_add, Nat.add_zero, Nat.reduceAdd, Nat.reduceMul, Nat.reduceSub, xf_same, xq_ff, xq_fo, xf_1, xf_2, xs_1, xs_2, xs_same, xq_so, xj_1, xj_2, xj_same, xq_jo, xq_sa1, xq_same, xq_other, upd_s, oI_n, oI_s, pf_1 i1 hpp, pf_2 i1 hpp, pf_3 i1 hpp, a1, b2, b3, pf_6 i1 hpp, pf_7 i1 hpp, f6, f7, p6, p7]
  first | refine by_iald (by first | exact rfl | assumption | exact ps_1 hpp | exact ps_2 hpp | exact ps_3 hpp | exact ps_4 hpp | exact ps_5 hpp | exact ps_6 hpp | exact ps_7 hpp | exact ps_8 hpp | exact ps_9 hpp | exact ps_10 hpp | exact ps_11 hpp | exact ps_15 hpp | exact ps_16 hpp | exact ps_17 hpp | exact ps_18 hpp | exact ps_19 hpp | exact ps_21 hpp | exact ps_22 hpp | exact ps_23 hpp | exact ps_24 hpp) ⟨by omega, by omega⟩ ?_ | refine by_tald rfl rfl ⟨by omega, by omega⟩ ?_
  simp (disch := first | exact Nat.ne_of_beq_eq_false rfl | omega) only [nI_add, xa_sub, xa_mul, pk_div, nm_mod, xa_shr, xa_and7, xa_and1, xa_and255, xa_by_and, nI_m1, Nat.add_sub_cancel, Nat.reducePow, Nat.zero_add, Nat.add_zero, Nat.reduceAdd, Nat.reduceMul, Nat.reduceSub, xf_same, xq_ff, xq_fo, xf_1, xf_2, xs_1, xs_2, xs_same, xq_so, xj_1, xj_2, xj_same, xq_jo, xq_sa1, xq_same, xq_other, upd_s, oI_n, oI_s, pf_1 i1 hpp, pf_2 i1 hpp, pf_3 i1 hpp, a1, b2, b3, pf_6 i1 hpp, pf_7 i1 hpp, f6, f7, p6, p7]
  refine by_sw ?_
  simp (disch := first | exact Nat.ne_of_beq_eq_false rfl | omega) only [nI_add, xa_sub, xa_mul, pk_div, nm_mod, xa_shr, xa_and7, xa_and1, xa_and255, xa_by_and, nI_m1, Nat.add_sub_cancel, Nat.reducePow, Nat.zero_add, Nat.add_zero, Nat.reduceAdd, Nat.reduceMul, Nat.reduceSub, xf_same, xq_ff, xq_fo, xf_1, xf_2, xs_1, xs_2, xs_same, xq_so, xj_1, xj_2, xj_same, xq_jo, xq_sa1, xq_same, xq_other, upd_s, oI_n, oI_s, xv_0, xv_1, xv_2, xv_3, xm_p1, xm_p2, List.filter_cons, List.filter_nil, Nat.reduceBEq, Bool.not_true, Bool.not_false, Bool.and_true, Bool.and_false, Bool.false_and, Bool.true_and, if_true, if_false, Bool.false_eq_true, reduceIte, xc_i, xc_j, xc_r, xc_n, List.nil_append, List.cons_append, Option.toList_some, Option.toList_none, pf_1 i1 hpp, pf_2 i1 hpp, pf_3 i1 hpp, a1, b2, b3, pf_6 i1 hpp, pf_7 i1 hpp, f6, f7, p6, p7]
  refine xq_sw 88 (by decide) (by decide) ?_
  with_reducible refine xm_go_blk b_X1_rule_88 k_X1_rule_88 ?_
  refine by_aload_n rfl ?_
  refine by_iload_n rfl ?_
  refine by_aload_n rfl ?_
  refine by_getf cn_46 fl_1_56 (by first | exact rfl | assumption | exact ps_0 hpp) (by decide) ?_
  refine by_iload_n rfl ?_
  simp (disch := first | exact Nat.ne_of_beq_eq_false rfl | omega) only [nI_add, xa_sub, xa_mul, pk_div, nm_mod, xa_shr, xa_and7, xa_and1, xa_and255, xa_by_and, nI_m1, Nat.add_sub_cancel, Nat.reducePow, Nat.zero_add, Nat.add_zero, Nat.reduceAdd, Nat.reduceMul, Nat.reduceSub, xf_same, xq_ff, xq_fo, xf_1, xf_2, xs_1, xs_2, xs_same, xq_so, xj_1, xj_2, xj_same, xq_jo, xq_sa1, xq_same, xq_other, upd_s, oI_n, oI_s, pf_1 i1 hpp, pf_2 i1 hpp, pf_3 i1 hpp, a1, b2, b3, pf_6 i1 hpp, pf_7 i1 hpp, f6, f7, p6, p7]
  first | refine by_iald (by first | exact rfl | assumption | exact ps_1 hpp | exact ps_2 hpp | exact ps_3 hpp | exact ps_4 hpp | exact ps_5 hpp | exact ps_6 hpp | exact ps_7 hpp | exact ps_8 hpp | exact ps_9 hpp | exact ps_10 hpp | exact ps_11 hpp | exact ps_15 hpp | exact ps_16 hpp | exact ps_17 hpp | exact ps_18 hpp | exact ps_19 hpp | exact ps_21 hpp | exact ps_22 hpp | exact ps_23 hpp | exact ps_24 hpp) ⟨by omega, by omega⟩ ?_ | refine by_tald rfl rfl ⟨by omega, by omega⟩ ?_
  refine by_aload_n rfl ?_
  refine by_getf cn_46 fl_1_63 (by first | exact rfl | assumption | exact ps_0 hpp) (by decide) ?_
  refine by_iload rfl ?_
  simp (disch := first | exact Nat.ne_of_beq_eq_false rfl | omega) only [nI_add, xa_sub, xa_mul, pk_div, nm_mod, xa_shr, xa_and7, xa_and1, xa_and255, xa_by_and, nI_m1, Nat.add_sub_cancel, Nat.reducePow, Nat.zero_add, Nat.add_zero, Nat.reduceAdd, Nat.reduceMul, Nat.reduceSub, xf_same, xq_ff, xq_fo, xf_1, xf_2, xs_1, xs_2, xs_same, xq_so, xj_1, xj_2, xj_same, xq_jo, xq_sa1, xq_same, xq_other, upd_s, oI_n, oI_s, pf_1 i1 hpp, pf_2 i1 hpp, pf_3 i1 hpp, a1, b2, b3, pf_6 i1 hpp, pf_7 i1 hpp, f6, f7, p6, p7]
  first | refine by_iald (by first | exact rfl | assumption | exact ps_1 hpp | exact ps_2 hpp | exact ps_3 hpp | exact ps_4 hpp | exact ps_5 hpp | exact ps_6 hpp | exact ps_7 hpp | exact ps_8 hpp | exact ps_9 hpp | exact ps_10 hpp | exact ps_11 hpp | exact ps_15 hpp | exact ps_16 hpp | exact ps_17 hpp | exact ps_18 hpp | exact ps_19 hpp | exact ps_21 hpp | exact ps_22 hpp | exact ps_23 hpp | exact ps_24 hpp) ⟨by omega, by omega⟩ ?_ | refine by_tald rfl rfl ⟨by omega, by omega⟩ ?_
  simp (disch := first | exact Nat.ne_of_beq_eq_false rfl | omega) only [nI_add, xa_sub, xa_mul, pk_div, nm_mod, xa_shr, xa_and7, xa_and1, xa_and255, xa_by_and, nI_m1, Nat.add_sub_cancel, Nat.reducePow, Nat.zero_add, Nat.add_zero, Nat.reduceAdd, Nat.reduceMul, Nat.reduceSub, xf_same, xq_ff, xq_fo, xf_1, xf_2, xs_1, xs_2, xs_same, xq_so, xj_1, xj_2, xj_same, xq_jo, xq_sa1, xq_same, xq_other, upd_s, oI_n, oI_s, xv_0, xv_1, xv_2, xv_3, xm_p1, xm_p2, List.filter_cons, List.filter_nil, Nat.reduceBEq, Bool.not_true, Bool.not_false, Bool.and_true, Bool.and_false, Bool.false_and, Bool.true_and, if_true, if_false, Bool.false_eq_true, reduceIte, xc_i, xc_j, xc_r, xc_n, List.nil_append, List.cons_append, Option.toList_some, Option.toList_none, pf_1 i1 hpp, pf_2 i1 hpp, pf_3 i1 hpp, a1, b2, b3, pf_6 i1 hpp, pf_7 i1 hpp, f6, f7, p6, p7]
  refine by_ins4 cn_46 lk_1_76 (by rw [xe_cnt]; decide) is_47 np_47 (Nat.le_of_ble_eq_true rfl) ?_
  refine rl_set hpp i1 (by omega) ?_
  have hg := gr_set (n := n) (s := nI (src (fi n))) (t := nI (tgt (se n))) hpp i4
  have hf := Fr_set (n := n) (s := nI (src (fi n))) (t := nI (tgt (se n))) (Fr_rf (S := rlR pp) (T := grT) (h := h))
  have j1 : XF (xm_si (xm_si h (pp + 6) n (nI (src (fi n)))) (pp + 7) n (nI (tgt (se n)))) := Fr_XF i1 hf rl_fin
  have t1 : (xm_si (xm_si h (pp + 6) n (nI (src (fi n)))) (pp + 7) n (nI (tgt (se n)))).1 (pp + 7) (fi n) = nI (tgt (fi n)) := by rw [(rl_ss hne).2, f7]
  have t2 : (xm_si (xm_si h (pp + 6) n (nI (src (fi n)))) (pp + 7) n (nI (tgt (se n)))).1 (pp + 6) (se n) = nI (src (se n)) := by rw [(rl_ss hne2).1, p6]
  generalize hgen : xm_si (xm_si h (pp + 6) n (nI (src (fi n)))) (pp + 7) n (nI (tgt (se n))) = h1 at *
  have n6 : h1.1 (pp + 6) n = nI (src (fi n)) ∧ h1.1 (pp + 7) n = nI (tgt (se n)) := by rw [← hgen]; exact rl_sn
  have o6 : ∀ m, m ≠ n → h1.1 (pp + 6) m = h.1 (pp + 6) m ∧ h1.1 (pp + 7) m = h.1 (pp + 7) m := by rw [← hgen]; exact fun m hm => rl_ss hm
  with_reducible refine xm_go_blk b_X1_rule_106 k_X1_rule_106 ?_
  refine by_aload_n rfl ?_
  refine by_aload_n rfl ?_
  refine by_getf cn_46 fl_1_63 (by first | exact rfl | assumption | exact ps_0 hpp) (by decide) ?_
  refine by_iload_n rfl ?_
  simp (disch := first | exact Nat.ne_of_beq_eq_false rfl | omega) only [nI_add, xa_sub, xa_mul, pk_div, nm_mod, xa_shr, xa_and7, xa_and1, xa_and255, xa_by_and, nI_m1, Nat.add_sub_cancel, Nat.reducePow, Nat.zero_add, Nat.add_zero, Nat.reduceAdd, Nat.reduceMul, Nat.reduceSub, xf_same, xq_ff, xq_fo, xf_1, xf_2, xs_1, xs_2, xs_same, xq_so, xj_1, xj_2, xj_same, xq_jo, xq_sa1, xq_same, xq_other, upd_s, oI_n, oI_s, pf_6 j1 hpp, pf_7 j1 hpp, t1, t2]
  first | refine by_iald (by first | exact rfl | assumption | exact ps_1 hpp | exact ps_2 hpp | exact ps_3 hpp | exact ps_4 hpp | exact ps_5 hpp | exact ps_6 hpp | exact ps_7 hpp | exact ps_8 hpp | exact ps_9 hpp | exact ps_10 hpp | exact ps_11 hpp | exact ps_15 hpp | exact ps_16 hpp | exact ps_17 hpp | exact ps_18 hpp | exact ps_19 hpp | exact ps_21 hpp | exact ps_22 hpp | exact ps_23 hpp | exact ps_24 hpp) ⟨by omega, by omega⟩ ?_ | refine by_tald rfl rfl ⟨by omega, by omega⟩ ?_
  refine by_aload_n rfl ?_
  refine by_getf cn_46 fl_1_56 (by first | exact rfl | assumption | exact ps_0 hpp) (by decide) ?_
  refine by_iload rfl ?_
  simp (disch := first | exact Nat.ne_of_beq_eq_false rfl | omega) only [nI_add, xa_sub, xa_mul, pk_div, nm_mod, xa_shr, xa_and7, xa_and1, xa_and255, xa_by_and, nI_m1, Nat.add_sub_cancel, Nat.reducePow, Nat.zero_add, Nat.add_zero, Nat.reduceAdd, Nat.reduceMul, Nat.reduceSub, xf_same, xq_ff, xq_fo, xf_1, xf_2, xs_1, xs_2, xs_same, xq_so, xj_1, xj_2, xj_same, xq_jo, xq_sa1, xq_same, xq_other, upd_s, oI_n, oI_s, pf_6 j1 hpp, pf_7 j1 hpp, t1, t2]
  first | refine by_iald (by first | exact rfl | assumption | exact ps_1 hpp | exact ps_2 hpp | exact ps_3 hpp | exact ps_4 hpp | exact ps_5 hpp | exact ps_6 hpp | exact ps_7 hpp | exact ps_8 hpp | exact ps_9 hpp | exact ps_10 hpp | exact ps_11 hpp | exact ps_15 hpp | exact ps_16 hpp | exact ps_17 hpp | exact ps_18 hpp | exact ps_19 hpp | exact ps_21 hpp | exact ps_22 hpp | exact ps_23 hpp | exact ps_24 hpp) ⟨by omega, by omega⟩ ?_ | refine by_tald rfl rfl ⟨by omega, by omega⟩ ?_
  simp (disch := first | exact Nat.ne_of_beq_eq_false rfl | omega) only [nI_add, xa_sub, xa_mul, pk_div, nm_mod, xa_shr, xa_and7, xa_and1, xa_and255, xa_by_and, nI_m1, Nat.add_sub_cancel, Nat.reducePow, Nat.zero_add, Nat.add_zero, Nat.reduceAdd, Nat.reduceMul, Nat.reduceSub, xf_same, xq_ff, xq_fo, xf_1, xf_2, xs_1, xs_2, xs_same, xq_so, xj_1, xj_2, xj_same, xq_jo, xq_sa1, xq_same, xq_other, upd_s, oI_n, oI_s, xv_0, xv_1, xv_2, xv_3, xm_p1, xm_p2, List.filter_cons, List.filter_nil, Nat.reduceBEq, Bool.not_true, Bool.not_false, Bool.and_true, Bool.and_false, Bool.false_and, Bool.true_and, if_true, if_false, Bool.false_eq_true, reduceIte, xc_i, xc_j, xc_r, xc_n, List.nil_append, List.cons_append, Option.toList_some, Option.toList_none, pf_6 j1 hpp, pf_7 j1 hpp, t1, t2]
  refine by_inv2 cn_46 lk_1_80 (by rw [xe_cnt]; decide) is_51 np_51 cn_51 (by first | exact rfl | assumption) (Nat.le_of_ble_eq_true rfl) ?_
  refine sp_uniG j1 hg (by omega) f9 p8 (fun h2 rt' g1 g2 => ?_) (fun h2 g1 hbad => ?_)
  · with_reducible refine xm_go_blk b_X1_rule_123 k_X1_rule_123 ?_
    refine by_iret ry_46 (by first | rfl | assumption) ?_
    have q6 : h2.1 (pp + 6) = h1.1 (pp + 6) := g1.1 _ (by simp <;> omega)
    have q7 : h2.1 (pp + 7) = h1.1 (pp + 7) := g1.1 _ (by simp <;> omega)
    have hf2 : Fr (rlR pp) grT h h2 := Fr_tr hf g1 (by simp [rlR]) (by simp [grT])
    refine hP.1 _ _ _ _ _ _ _ _ _ hf2 (tsI_new (s := src (fi n)) (t := tgt (se n)) hI hn hnL hl hf2 g2 ?_ tx_rf (by omega) (fun _ => by rw [q6, q7]; exact n6) (fun m hm => by rw [q6, q7]; exact o6 m hm))
    refine tyS_add i5 tx_rf (fun t h1 h2 => absurd h1 (by omega)) (fun q hq => ?_) (fun q hq => List.mem_cons_of_mem _ hq) hnL hch (fun _ => ⟨by omega, by omega⟩) (fun f hf => ?_) hsol
    · rcases List.mem_cons.mp hq with rfl | hq
      · exact Or.inr ⟨f9, p8⟩
      · exact Or.inl hq
    · refine ⟨fun e => ?_, fun e => ?_, fun e => ?_, fun e => ?_, fun e => ?_, fun e => ?_, fun e => ?_, fun e => ?_, fun e => ?_, fun e => ?_⟩ <;> first | (exfalso; omega) | skip
      simp only [updN_s, updN_o hne, updN_o hne2]
      exact ⟨trivial, trivial, (ty_pd_cons.mp hf).1⟩
  · with_reducible refine xm_go_blk b_X1_rule_123 k_X1_rule_123 ?_
    refine by_iret ry_46 (by first | rfl | assumption) ?_
    refine hP.2 _ (Fr_tr hf g1 (by simp [rlR]) (by simp [grT])) (fx_fn (fnA_fr hg.2.1 g1 (by simp) (by simp) (by simp)) i11.2) (fun S T hso => ?_)
    obtain ⟨V, v1, v2, v3, v4⟩ := i5.2.2.2.2 S T ⟨hso.1, hso.2.1, fun m hm => hso.2.2 m (List.mem_append_left _ hm)⟩
    obtain ⟨V', w1, w2, w3, w4, w5⟩ := hsol S T V hso.1 hso.2.1 (hso.2.2 n (List.mem_append_right _ (by simp))) v1 v2 v3 v4
    exact hbad V' w1 (tx_all tx_rf i5.1 v2 w2 w3) w4
end RUL
