/-! ===== the reference: types of nodes with two children ===== -/
section RUL
variable {sc : xm_Sc} {d N n : Nat} {cd fi se nu : Nat → Nat} {L : List Nat} {c : Nat} {k l r rt : Nat → Nat} {es : List (Nat × Nat)} {src tgt : Nat → Nat} {h : xm_H} {post : xm_Po}
theorem mty_0 (hI : msI h N cd fi se nu L c k l r rt es src tgt) (hn : n < N) (hnL : n ∉ L) (hl : L.length < 2000) (hch : ∀ m ∈ L, (cd m ≤ 6 → fi m ≠ n) ∧ (cd m ≤ 2 → se m ≠ n)) (hfi : fi n ∈ L) (hfv : cd (fi n) ≠ 11) (hse : se n ∈ L) (hsv : cd (se n) ≠ 11) (hc : cd n = 0) (hP : mlP N n cd fi se nu L h post) : xm_T (XE sc) (d + 4) 316 [.ref 102, .int (nI n)] h post := by
  have hI0 := hI
  obtain ⟨i1, i3, i4, i5, i6, i7, i8, i9, i10, i11, i12⟩ := hI0
  obtain ⟨a1, a2, a3, a5, a7⟩ := i3 n hn
  obtain ⟨b2, b2'⟩ := a3 (by omega)
  obtain ⟨f1, f2⟩ := i6 (fi n) hfi
  obtain ⟨f6, f7⟩ := f2 hfv
  obtain ⟨f8, f9⟩ := i5.2.2.1 (fi n) hfi hfv
  have hne : fi n ≠ n := fun z => hnL (by rw [← z]; exact hfi)
  rw [hc] at a1
  obtain ⟨b3, b3'⟩ := a5 (by omega)
  obtain ⟨p1, p2⟩ := i6 (se n) hse
  obtain ⟨p6, p7⟩ := p2 hsv
  obtain ⟨p8, p9⟩ := i5.2.2.1 (se n) hse hsv
  have hne2 : se n ≠ n := fun z => hnL (by rw [← z]; exact hse)
  refine xq_in rfl ?_
  simp only [xq_a0, xq_aI, xq_aJ, xq_aR, Nat.reduceAdd]
  have hsol : ∀ S T V, ty_vok S → ty_vok T → ty_rule cd fi se nu S T n → ty_vok V → ty_all c k l r V → ty_pd es V → (∀ m ∈ L, cd m ≠ 11 → V (src m) = S m ∧ V (tgt m) = T m) → ∃ V', ty_vok V' ∧ (∀ t, t < c → V' t = V t) ∧ (∀ t, c ≤ t → t < c → ty_st V' (k t) (l t) (r t) t) ∧ ty_pd ((tgt (fi n), src (se n)) :: es) V' ∧ (cd n ≠ 11 → V' (src (fi n)) = S n ∧ V' (tgt (se n)) = T n) := by
    intro S T V hs ht hr v1 v2 v3 v4
    obtain ⟨r1, r2, r3⟩ := hr.1 hc
    obtain ⟨w1, w2⟩ := v4 (fi n) hfi hfv
    obtain ⟨w3, w4⟩ := v4 (se n) hse hsv
    exact ⟨V, v1, fun _ _ => rfl, fun t h1 h2 => absurd h1 (by omega), ty_pd_cons.mpr ⟨by rw [w2, w3, r3], v3⟩, fun _ => ⟨by rw [w1, r1], by rw [w4, r2]⟩⟩
  with_reducible refine xm_go_blk b_X12_typesOf_0 k_X12_typesOf_0 ?_
  refine by_aload_n rfl ?_
  refine by_getf cn_316 fl_12_19 (by first | exact rfl | assumption) (by decide) ?_
  refine by_iload_n rfl ?_
  simp (disch := first | exact Nat.ne_of_beq_eq_false rfl | exact rfl | omega) only [nI_add, xa_sub, xa_mul, pk_div, nm_mod, xa_shr, xa_and7, xa_and1, xa_and255, xa_by_and, nI_m1, Nat.add_sub_cancel, Nat.reducePow, Nat.zero_add, Nat.add_zero, Nat.reduceAdd, Nat.reduceMul, Nat.reduceSub, xf_same, xq_ff, xq_fo, xf_1, xf_2, xs_1, xs_2, xs_same, xq_so, xj_1, xj_2, xj_same, xq_jo, xq_sa1, xq_same, xq_other, upd_s, oI_n, oI_s, xf_102_6 i1, xf_102_7 i1, xf_102_8 i1, xf_102_12 i1, xf_102_13 i1, a1, b2, f6, f7, b3, p6, p7]
  first | refine by_iald (by first | exact rfl | assumption | exact ps_1 hpp | exact ps_2 hpp | exact ps_3 hpp | exact ps_4 hpp | exact ps_5 hpp | exact ps_6 hpp | exact ps_7 hpp | exact ps_8 hpp | exact ps_9 hpp | exact ps_10 hpp | exact ps_11 hpp | exact ps_15 hpp | exact ps_16 hpp | exact ps_17 hpp | exact ps_18 hpp | exact ps_19 hpp | exact ps_21 hpp | exact ps_22 hpp | exact ps_23 hpp | exact ps_24 hpp) ⟨by omega, by omega⟩ ?_ | refine by_tald rfl rfl ⟨by omega, by omega⟩ ?_
  refine by_istore_n (by rw [ml_316]; decide) ?_
  refine by_aload_n rfl ?_
  refine by_getf cn_316 fl_12_22 (by first | exact rfl | assumption) (by decide) ?_
  refine by_iload_n rfl ?_
  simp (disch := first | exact Nat.ne_of_beq_eq_false rfl | exact rfl | omega) only [nI_add, xa_sub, xa_mul, pk_div, nm_mod, xa_shr, xa_and7, xa_and1, xa_and255, xa_by_and, nI_m1, Nat.add_sub_cancel, Nat.reducePow, Nat.zero_add, Nat.add_zero, Nat.reduceAdd, Nat.reduceMul, Nat.reduceSub, xf_same, xq_ff, xq_fo, xf_1, xf_2, xs_1, xs_2, xs_same, xq_so, xj_1, xj_2, xj_same, xq_jo, xq_sa1, xq_same, xq_other, upd_s, oI_n, oI_s, xf_102_6 i1, xf_102_7 i1, xf_102_8 i1, xf_102_12 i1, xf_102_13 i1, a1, b2, f6, f7, b3, p6, p7]
  first | refine by_iald (by first | exact rfl | assumption | exact ps_1 hpp | exact ps_2 hpp | exact ps_3 hpp | exact ps_4 hpp | exact ps_5 hpp | exact ps_6 hpp | exact ps_7 hpp | exact ps_8 hpp | exact ps_9 hpp | exact ps_10 hpp | exact ps_11 hpp | exact ps_15 hpp | exact ps_16 hpp | exact ps_17 hpp | exact ps_18 hpp | exact ps_19 hpp | exact ps_21 hpp | exact ps_22 hpp | exact ps_23 hpp | exact ps_24 hpp) ⟨by omega, by omega⟩ ?_ | refine by_tald rfl rfl ⟨by omega, by omega⟩ ?_
  refine by_istore_n (by rw [ml_316]; decide) ?_
  refine by_aload_n rfl ?_
  refine by_getf cn_316 fl_12_16 (by first | exact rfl | assumption) (by decide) ?_
  refine by_iload_n rfl ?_
  simp (disch := first | exact Nat.ne_of_beq_eq_false rfl | exact rfl | omega) only [nI_add, xa_sub, xa_mul, pk_div, nm_mod, xa_shr, xa_and7, xa_and1, xa_and255, xa_by_and, nI_m1, Nat.add_sub_cancel, Nat.reducePow, Nat.zero_add, Nat.add_zero, Nat.reduceAdd, Nat.reduceMul, Nat.reduceSub, xf_same, xq_ff, xq_fo, xf_1, xf_2, xs_1, xs_2, xs_same, xq_so, xj_1, xj_2, xj_same, xq_jo, xq_sa1, xq_same, xq_other, upd_s, oI_n, oI_s, xf_102_6 i1, xf_102_7 i1, xf_102_8 i1, xf_102_12 i1, xf_102_13 i1, a1, b2, f6, f7, b3, p6, p7]
  first | refine by_iald (by first | exact rfl | assumption | exact ps_1 hpp | exact ps_2 hpp | exact ps_3 hpp | exact ps_4 hpp | exact ps_5 hpp | exact ps_6 hpp | exact ps_7 hpp | exact ps_8 hpp | exact ps_9 hpp | exact ps_10 hpp | exact ps_11 hpp | exact ps_15 hpp | exact ps_16 hpp | exact ps_17 hpp | exact ps_18 hpp | exact ps_19 hpp | exact ps_21 hpp | exact ps_22 hpp | exact ps_23 hpp | exact ps_24 hpp) ⟨by omega, by omega⟩ ?_ | refine by_tald rfl rfl ⟨by omega, by omega⟩ ?_
  simp (disch := first | exact Nat.ne_of_beq_eq_false rfl | exact rfl | omega) only [nI_add, xa_sub, xa_mul, pk_div, nm_mod, xa_shr, xa_and7, xa_and1, xa_and255, xa_by_and, nI_m1, Nat.add_sub_cancel, Nat.reducePow, Nat.zero_add, Nat.add_zero, Nat.reduceAdd, Nat.reduceMul, Nat.reduceSub, xf_same, xq_ff, xq_fo, xf_1, xf_2, xs_1, xs_2, xs_same, xq_so, xj_1, xj_2, xj_same, xq_jo, xq_sa1, xq_same, xq_other, upd_s, oI_n, oI_s, xf_102_6 i1, xf_102_7 i1, xf_102_8 i1, xf_102_12 i1, xf_102_13 i1, a1, b2, f6, f7, b3, p6, p7]
  refine by_sw ?_
  simp (disch := first | exact Nat.ne_of_beq_eq_false rfl | exact rfl | omega) only [nI_add, xa_sub, xa_mul, pk_div, nm_mod, xa_shr, xa_and7, xa_and1, xa_and255, xa_by_and, nI_m1, Nat.add_sub_cancel, Nat.reducePow, Nat.zero_add, Nat.add_zero, Nat.reduceAdd, Nat.reduceMul, Nat.reduceSub, xf_same, xq_ff, xq_fo, xf_1, xf_2, xs_1, xs_2, xs_same, xq_so, xj_1, xj_2, xj_same, xq_jo, xq_sa1, xq_same, xq_other, upd_s, oI_n, oI_s, xv_0, xv_1, xv_2, xv_3, xm_p1, xm_p2, xq_fp, xq_fn, List.filter_nil, Nat.reduceBEq, Bool.not_true, Bool.not_false, Bool.and_true, Bool.and_false, Bool.false_and, Bool.true_and, if_true, if_false, Bool.false_eq_true, reduceIte, xc_i, xc_j, xc_r, xc_n, List.nil_append, List.cons_append, Option.toList_some, Option.toList_none, xf_102_6 i1, xf_102_7 i1, xf_102_8 i1, xf_102_12 i1, xf_102_13 i1, a1, b2, f6, f7, b3, p6, p7]
  refine xq_sw 88 (by decide) (by decide) ?_
  with_reducible refine xm_go_blk b_X12_typesOf_88 k_X12_typesOf_88 ?_
  refine by_aload_n rfl ?_
  refine by_getf cn_316 fl_12_34 (by first | exact rfl | assumption) (by decide) ?_
  refine by_iload_n rfl ?_
  refine by_aload_n rfl ?_
  refine by_getf cn_316 fl_12_34 (by first | exact rfl | assumption) (by decide) ?_
  refine by_iload_n rfl ?_
  simp (disch := first | exact Nat.ne_of_beq_eq_false rfl | exact rfl | omega) only [nI_add, xa_sub, xa_mul, pk_div, nm_mod, xa_shr, xa_and7, xa_and1, xa_and255, xa_by_and, nI_m1, Nat.add_sub_cancel, Nat.reducePow, Nat.zero_add, Nat.add_zero, Nat.reduceAdd, Nat.reduceMul, Nat.reduceSub, xf_same, xq_ff, xq_fo, xf_1, xf_2, xs_1, xs_2, xs_same, xq_so, xj_1, xj_2, xj_same, xq_jo, xq_sa1, xq_same, xq_other, upd_s, oI_n, oI_s, xf_102_6 i1, xf_102_7 i1, xf_102_8 i1, xf_102_12 i1, xf_102_13 i1, a1, b2, f6, f7, b3, p6, p7]
  first | refine by_iald (by first | exact rfl | assumption | exact ps_1 hpp | exact ps_2 hpp | exact ps_3 hpp | exact ps_4 hpp | exact ps_5 hpp | exact ps_6 hpp | exact ps_7 hpp | exact ps_8 hpp | exact ps_9 hpp | exact ps_10 hpp | exact ps_11 hpp | exact ps_15 hpp | exact ps_16 hpp | exact ps_17 hpp | exact ps_18 hpp | exact ps_19 hpp | exact ps_21 hpp | exact ps_22 hpp | exact ps_23 hpp | exact ps_24 hpp) ⟨by omega, by omega⟩ ?_ | refine by_tald rfl rfl ⟨by omega, by omega⟩ ?_
  refine by_iast (by first | exact rfl | assumption | exact ps_1 hpp | exact ps_2 hpp | exact ps_3 hpp | exact ps_4 hpp | exact ps_5 hpp | exact ps_6 hpp | exact ps_7 hpp | exact ps_8 hpp | exact ps_9 hpp | exact ps_10 hpp | exact ps_11 hpp | exact ps_15 hpp | exact ps_16 hpp | exact ps_17 hpp | exact ps_18 hpp | exact ps_19 hpp | exact ps_21 hpp | exact ps_22 hpp | exact ps_23 hpp | exact ps_24 hpp) ⟨by omega, by omega⟩ ?_
  refine by_aload_n rfl ?_
  refine by_getf cn_316 fl_12_37 (by first | exact rfl | assumption) (by decide) ?_
  refine by_iload_n rfl ?_
  refine by_aload_n rfl ?_
  refine by_getf cn_316 fl_12_37 (by first | exact rfl | assumption) (by decide) ?_
  refine by_iload_n rfl ?_
  simp (disch := first | exact Nat.ne_of_beq_eq_false rfl | exact rfl | omega) only [nI_add, xa_sub, xa_mul, pk_div, nm_mod, xa_shr, xa_and7, xa_and1, xa_and255, xa_by_and, nI_m1, Nat.add_sub_cancel, Nat.reducePow, Nat.zero_add, Nat.add_zero, Nat.reduceAdd, Nat.reduceMul, Nat.reduceSub, xf_same, xq_ff, xq_fo, xf_1, xf_2, xs_1, xs_2, xs_same, xq_so, xj_1, xj_2, xj_same, xq_jo, xq_sa1, xq_same, xq_other, upd_s, oI_n, oI_s, xf_102_6 i1, xf_102_7 i1, xf_102_8 i1, xf_102_12 i1, xf_102_13 i1, a1, b2, f6, f7, b3, p6, p7]
  first | refine by_iald (by first | exact rfl | assumption | exact ps_1 hpp | exact ps_2 hpp | exact ps_3 hpp | exact ps_4 hpp | exact ps_5 hpp | exact ps_6 hpp | exact ps_7 hpp | exact ps_8 hpp | exact ps_9 hpp | exact ps_10 hpp | exact ps_11 hpp | exact ps_15 hpp | exact ps_16 hpp | exact ps_17 hpp | exact ps_18 hpp | exact ps_19 hpp | exact ps_21 hpp | exact ps_22 hpp | exact ps_23 hpp | exact ps_24 hpp) ⟨by omega, by omega⟩ ?_ | refine by_tald rfl rfl ⟨by omega, by omega⟩ ?_
  refine by_iast (by first | exact rfl | assumption | exact ps_1 hpp | exact ps_2 hpp | exact ps_3 hpp | exact ps_4 hpp | exact ps_5 hpp | exact ps_6 hpp | exact ps_7 hpp | exact ps_8 hpp | exact ps_9 hpp | exact ps_10 hpp | exact ps_11 hpp | exact ps_15 hpp | exact ps_16 hpp | exact ps_17 hpp | exact ps_18 hpp | exact ps_19 hpp | exact ps_21 hpp | exact ps_22 hpp | exact ps_23 hpp | exact ps_24 hpp) ⟨by omega, by omega⟩ ?_
  refine by_aload_n rfl ?_
  refine by_aload_n rfl ?_
  refine by_getf cn_316 fl_12_37 (by first | exact rfl | assumption) (by decide) ?_
  refine by_iload_n rfl ?_
  simp (disch := first | exact Nat.ne_of_beq_eq_false rfl | exact rfl | omega) only [nI_add, xa_sub, xa_mul, pk_div, nm_mod, xa_shr, xa_and7, xa_and1, xa_and255, xa_by_and, nI_m1, Nat.add_sub_cancel, Nat.reducePow, Nat.zero_add, Nat.add_zero, Nat.reduceAdd, Nat.reduceMul, Nat.reduceSub, xf_same, xq_ff, xq_fo, xf_1, xf_2, xs_1, xs_2, xs_same, xq_so, xj_1, xj_2, xj_same, xq_jo, xq_sa1, xq_same, xq_other, upd_s, oI_n, oI_s, xf_102_6 i1, xf_102_7 i1, xf_102_8 i1, xf_102_12 i1, xf_102_13 i1, a1, b2, f6, f7, b3, p6, p7]
  first | refine by_iald (by first | exact rfl | assumption | exact ps_1 hpp | exact ps_2 hpp | exact ps_3 hpp | exact ps_4 hpp | exact ps_5 hpp | exact ps_6 hpp | exact ps_7 hpp | exact ps_8 hpp | exact ps_9 hpp | exact ps_10 hpp | exact ps_11 hpp | exact ps_15 hpp | exact ps_16 hpp | exact ps_17 hpp | exact ps_18 hpp | exact ps_19 hpp | exact ps_21 hpp | exact ps_22 hpp | exact ps_23 hpp | exact ps_24 hpp) ⟨by omega, by omega⟩ ?_ | refine by_tald rfl rfl ⟨by omega, by omega⟩ ?_
  refine by_aload_n rfl ?_
  refine by_getf cn_316 fl_12_34 (by first | exact rfl | assumption) (by decide) ?_
  refine by_iload_n rfl ?_
  simp (disch := first | exact Nat.ne_of_beq_eq_false rfl | exact rfl | omega) only [nI_add, xa_sub, xa_mul, pk_div, nm_mod, xa_shr, xa_and7, xa_and1, xa_and255, xa_by_and, nI_m1, Nat.add_sub_cancel, Nat.reducePow, Nat.zero_add, Nat.add_zero, Nat.reduceAdd, Nat.reduceMul, Nat.reduceSub, xf_same, xq_ff, xq_fo, xf_1, xf_2, xs_1, xs_2, xs_same, xq_so, xj_1, xj_2, xj_same, xq_jo, xq_sa1, xq_same, xq_other, upd_s, oI_n, oI_s, xf_102_6 i1, xf_102_7 i1, xf_102_8 i1, xf_102_12 i1, xf_102_13 i1, a1, b2, f6, f7, b3, p6, p7]
  first | refine by_iald (by first | exact rfl | assumption | exact ps_1 hpp | exact ps_2 hpp | exact ps_3 hpp | exact ps_4 hpp | exact ps_5 hpp | exact ps_6 hpp | exact ps_7 hpp | exact ps_8 hpp | exact ps_9 hpp | exact ps_10 hpp | exact ps_11 hpp | exact ps_15 hpp | exact ps_16 hpp | exact ps_17 hpp | exact ps_18 hpp | exact ps_19 hpp | exact ps_21 hpp | exact ps_22 hpp | exact ps_23 hpp | exact ps_24 hpp) ⟨by omega, by omega⟩ ?_ | refine by_tald rfl rfl ⟨by omega, by omega⟩ ?_
  simp (disch := first | exact Nat.ne_of_beq_eq_false rfl | exact rfl | omega) only [nI_add, xa_sub, xa_mul, pk_div, nm_mod, xa_shr, xa_and7, xa_and1, xa_and255, xa_by_and, nI_m1, Nat.add_sub_cancel, Nat.reducePow, Nat.zero_add, Nat.add_zero, Nat.reduceAdd, Nat.reduceMul, Nat.reduceSub, xf_same, xq_ff, xq_fo, xf_1, xf_2, xs_1, xs_2, xs_same, xq_so, xj_1, xj_2, xj_same, xq_jo, xq_sa1, xq_same, xq_other, upd_s, oI_n, oI_s, xv_0, xv_1, xv_2, xv_3, xm_p1, xm_p2, xq_fp, xq_fn, List.filter_nil, Nat.reduceBEq, Bool.not_true, Bool.not_false, Bool.and_true, Bool.and_false, Bool.false_and, Bool.true_and, if_true, if_false, Bool.false_eq_true, reduceIte, xc_i, xc_j, xc_r, xc_n, List.nil_append, List.cons_append, Option.toList_some, Option.toList_none, xf_102_6 i1, xf_102_7 i1, xf_102_8 i1, xf_102_12 i1, xf_102_13 i1, a1, b2, f6, f7, b3, p6, p7]
  refine by_inv2 cn_316 lk_12_250 (by rw [xe_cnt]; decide) is_242 np_242 cn_242 (by first | exact rfl | assumption) (Nat.le_of_ble_eq_true rfl) ?_
  have hf := Fr_ms (n := n) (s := nI (src (fi n))) (t := nI (tgt (se n))) (Fr_rf (S := mlR) (T := mgT) (h := h))
  have j1 : XF (xm_si (xm_si h 111 n (nI (src (fi n)))) 112 n (nI (tgt (se n)))) := Fr_XF i1 hf mg_fin
  rw [upd_o hne, upd_o hne2, f7, p6]
  refine sp_mjoinG j1 (mgr_si (Or.inr rfl) (mgr_si (Or.inl rfl) i4)) (by omega) f9 p8 (fun h2 rt' g1 g2 => ?_) (fun h2 g1 hbad => ?_)
  · with_reducible refine xm_go_blk b_X12_typesOf_128 k_X12_typesOf_128 ?_
    refine by_iret ry_316 (by first | rfl | assumption) ?_
    have hf2 : Fr mlR mgT h h2 := Fr_tr hf g1 (by simp [mlR]) (by simp)
    refine hP.1 _ _ _ _ _ _ _ _ _ hf2 (msI_new (s := src (fi n)) (t := tgt (se n)) hI hn hnL hl hf2 g2 ?_ tx_rf (by omega) (fun _ => by rw [g1.1 111 (by decide), g1.1 112 (by decide)]; exact ml_sn) (fun m hm => by rw [g1.1 111 (by decide), g1.1 112 (by decide)]; exact ml_ss hm))
    refine tyS_add i5 tx_rf (fun t h1 h2 => absurd h1 (by omega)) (fun q hq => ?_) (fun q hq => List.mem_cons_of_mem _ hq) hnL hch (fun _ => ⟨by omega, by omega⟩) (fun f hf => ?_) hsol
    · rcases List.mem_cons.mp hq with rfl | hq
      · exact Or.inr ⟨f9, p8⟩
      · exact Or.inl hq
    · refine ⟨fun e => ?_, fun e => ?_, fun e => ?_, fun e => ?_, fun e => ?_, fun e => ?_, fun e => ?_, fun e => ?_, fun e => ?_, fun e => ?_⟩ <;> first | (exfalso; omega) | skip
      simp only [updN_s, updN_o hne, updN_o hne2]
      exact ⟨trivial, trivial, (ty_pd_cons.mp hf).1⟩
  · with_reducible refine xm_go_blk b_X12_typesOf_128 k_X12_typesOf_128 ?_
    refine by_iret ry_316 (by first | rfl | assumption) ?_
    refine hP.2 _ (Fr_tr hf g1 (by simp [mlR]) (by simp)) (fun S T hso => ?_)
    obtain ⟨V, v1, v2, v3, v4⟩ := i5.2.2.2.2 S T ⟨hso.1, hso.2.1, fun m hm => hso.2.2 m (List.mem_append_left _ hm)⟩
    obtain ⟨V', w1, w2, w3, w4, w5⟩ := hsol S T V hso.1 hso.2.1 (hso.2.2 n (List.mem_append_right _ (by simp))) v1 v2 v3 v4
    exact hbad V' w1 (tx_all tx_rf i5.1 v2 w2 w3) w4
theorem mty_2 (hI : msI h N cd fi se nu L c k l r rt es src tgt) (hn : n < N) (hnL : n ∉ L) (hl : L.length < 2000) (hch : ∀ m ∈ L, (cd m ≤ 6 → fi m ≠ n) ∧ (cd m ≤ 2 → se m ≠ n)) (hfi : fi n ∈ L) (hfv : cd (fi n) ≠ 11) (hse : se n ∈ L) (hsv : cd (se n) ≠ 11) (hc : cd n = 2) (hP : mlP N n cd fi se nu L h post) : xm_T (XE sc) (d + 4) 316 [.ref 102, .int (nI n)] h post := by
  have hI0 := hI
  obtain ⟨i1, i3, i4, i5, i6, i7, i8, i9, i10, i11, i12⟩ := hI0
  obtain ⟨a1, a2, a3, a5, a7⟩ := i3 n hn
  obtain ⟨b2, b2'⟩ := a3 (by omega)
  obtain ⟨f1, f2⟩ := i6 (fi n) hfi
  obtain ⟨f6, f7⟩ := f2 hfv
  obtain ⟨f8, f9⟩ := i5.2.2.1 (fi n) hfi hfv
  have hne : fi n ≠ n := fun z => hnL (by rw [← z]; exact hfi)
  rw [hc] at a1
  obtain ⟨b3, b3'⟩ := a5 (by omega)
  obtain ⟨p1, p2⟩ := i6 (se n) hse
  obtain ⟨p6, p7⟩ := p2 hsv
  obtain ⟨p8, p9⟩ := i5.2.2.1 (se n) hse hsv
  have hne2 : se n ≠ n := fun z => hnL (by rw [← z]; exact hse)
  refine xq_in rfl ?_
  simp only [xq_a0, xq_aI, xq_aJ, xq_aR, Nat.reduceAdd]
  have hsol : ∀ S T V, ty_vok S → ty_vok T → ty_rule cd fi se nu S T n → ty_vok V → ty_all c k l r V → ty_pd es V → (∀ m ∈ L, cd m ≠ 11 → V (src m) = S m ∧ V (tgt m) = T m) → ∃ V', ty_vok V' ∧ (∀ t, t < c → V' t = V t) ∧ (∀ t, c ≤ t → t < c + 1 → ty_st V' (updN k c 3 t) (updN l c (tgt (fi n)) t) (updN r c (tgt (se n)) t) t) ∧ ty_pd ((src (fi n), src (se n)) :: es) V' ∧ (cd n ≠ 11 → V' (src (fi n)) = S n ∧ V' c = T n) := by
    intro S T V hs ht hr v1 v2 v3 v4
    obtain ⟨r1, r2, r3⟩ := hr.2.2.1 hc
    obtain ⟨w1, w2⟩ := v4 (fi n) hfi hfv
    obtain ⟨w3, w4⟩ := v4 (se n) hse hsv
    have e := tvx_n (V := V) (c := c) (i := 0) (g := [T n])
    rw [Nat.add_zero] at e
    refine ⟨tvx V c [T n], tvx_ok v1 (by simp only [List.mem_singleton]; rintro a rfl; exact ht n), fun t ht => tvx_o ht, fun t h1 h2 => ?_, ty_pd_cons.mpr ⟨?_, tx_pd i5.2.1 v3 (fun t ht => tvx_o ht)⟩, fun _ => ⟨by rw [tvx_o f8, w1, r1], e⟩⟩
    · have : t = c := by omega
      subst this
      rw [updN_s, updN_s, updN_s]
      refine ⟨nofun, nofun, fun _ => ?_⟩
      rw [e, tvx_o f9, tvx_o p9, w2, w4]
      exact r3
    · rw [tvx_o f8, tvx_o p8, w1, w3, r1, r2]
  with_reducible refine xm_go_blk b_X12_typesOf_0 k_X12_typesOf_0 ?_
  refine by_aload_n rfl ?_
  refine by_getf cn_316 fl_12_19 (by first | exact rfl | assumption) (by decide) ?_
  refine by_iload_n rfl ?_
  simp (disch := first | exact Nat.ne_of_beq_eq_false rfl | exact rfl | omega) only [nI_add, xa_sub, xa_mul, pk_div, nm_mod, xa_shr, xa_and7, xa_and1, xa_and255, xa_by_and, nI_m1, Nat.add_sub_cancel, Nat.reducePow, Nat.zero_add, Nat.add_zero, Nat.reduceAdd, Nat.reduceMul, Nat.reduceSub, xf_same, xq_ff, xq_fo, xf_1, xf_2, xs_1, xs_2, xs_same, xq_so, xj_1, xj_2, xj_same, xq_jo, xq_sa1, xq_same, xq_other, upd_s, oI_n, oI_s, xf_102_6 i1, xf_102_7 i1, xf_102_8 i1, xf_102_12 i1, xf_102_13 i1, a1, b2, f6, f7, b3, p6, p7]
  first | refine by_iald (by first | exact rfl | assumption | exact ps_1 hpp | exact ps_2 hpp | exact ps_3 hpp | exact ps_4 hpp | exact ps_5 hpp | exact ps_6 hpp | exact ps_7 hpp | exact ps_8 hpp | exact ps_9 hpp | exact ps_10 hpp | exact ps_11 hpp | exact ps_15 hpp | exact ps_16 hpp | exact ps_17 hpp | exact ps_18 hpp | exact ps_19 hpp | exact ps_21 hpp | exact ps_22 hpp | exact ps_23 hpp | exact ps_24 hpp) ⟨by omega, by omega⟩ ?_ | refine by_tald rfl rfl ⟨by omega, by omega⟩ ?_
  refine by_istore_n (by rw [ml_316]; decide) ?_
  refine by_aload_n rfl ?_
  refine by_getf cn_316 fl_12_22 (by first | exact rfl | assumption) (by decide) ?_
  refine by_iload_n rfl ?_
  simp (disch := first | exact Nat.ne_of_beq_eq_false rfl | exact rfl | omega) only [nI_add, xa_sub, xa_mul, pk_div, nm_mod, xa_shr, xa_and7, xa_and1, xa_and255, xa_by_and, nI_m1, Nat.add_sub_cancel, Nat.reducePow, Nat.zero_add, Nat.add_zero, Nat.reduceAdd, Nat.reduceMul, Nat.reduceSub, xf_same, xq_ff, xq_fo, xf_1, xf_2, xs_1, xs_2, xs_same, xq_so, xj_1, xj_2, xj_same, xq_jo, xq_sa1, xq_same, xq_other, upd_s, oI_n, oI_s, xf_102_6 i1, xf_102_7 i1, xf_102_8 i1, xf_102_12 i1, xf_102_13 i1, a1, b2, f6, f7, b3, p6, p7]
  first | refine by_iald (by first | exact rfl | assumption | exact ps_1 hpp | exact ps_2 hpp | exact ps_3 hpp | exact ps_4 hpp | exact ps_5 hpp | exact ps_6 hpp | exact ps_7 hpp | exact ps_8 hpp | exact ps_9 hpp | exact ps_10 hpp | exact ps_11 hpp | exact ps_15 hpp | exact ps_16 hpp | exact ps_17 hpp | exact ps_18 hpp | exact ps_19 hpp | exact ps_21 hpp | exact ps_22 hpp | exact ps_23 hpp | exact ps_24 hpp) ⟨by omega, by omega⟩ ?_ | refine by_tald rfl rfl ⟨by omega, by omega⟩ ?_
  refine by_istore_n (by rw [ml_316]; decide) ?_
  refine by_aload_n rfl ?_
  refine by_getf cn_316 fl_12_16 (by first | exact rfl | assumption) (by decide) ?_
  refine by_iload_n rfl ?_
  simp (disch := first | exact Nat.ne_of_beq_eq_false rfl | exact rfl | omega) only [nI_add, xa_sub, xa_mul, pk_div, nm_mod, xa_shr, xa_and7, xa_and1, xa_and255, xa_by_and, nI_m1, Nat.add_sub_cancel, Nat.reducePow, Nat.zero_add, Nat.add_zero, Nat.reduceAdd, Nat.reduceMul, Nat.reduceSub, xf_same, xq_ff, xq_fo, xf_1, xf_2, xs_1, xs_2, xs_same, xq_so, xj_1, xj_2, xj_same, xq_jo, xq_sa1, xq_same, xq_other, upd_s, oI_n, oI_s, xf_102_6 i1, xf_102_7 i1, xf_102_8 i1, xf_102_12 i1, xf_102_13 i1, a1, b2, f6, f7, b3, p6, p7]
  first | refine by_iald (by first | exact rfl | assumption | exact ps_1 hpp | exact ps_2 hpp | exact ps_3 hpp | exact ps_4 hpp | exact ps_5 hpp | exact ps_6 hpp | exact ps_7 hpp | exact ps_8 hpp | exact ps_9 hpp | exact ps_10 hpp | exact ps_11 hpp | exact ps_15 hpp | exact ps_16 hpp | exact ps_17 hpp | exact ps_18 hpp | exact ps_19 hpp | exact ps_21 hpp | exact ps_22 hpp | exact ps_23 hpp | exact ps_24 hpp) ⟨by omega, by omega⟩ ?_ | refine by_tald rfl rfl ⟨by omega, by omega⟩ ?_
  simp (disch := first | exact Nat.ne_of_beq_eq_false rfl | exact rfl | omega) only [nI_add, xa_sub, xa_mul, pk_div, nm_mod, xa_shr, xa_and7, xa_and1, xa_and255, xa_by_and, nI_m1, Nat.add_sub_cancel, Nat.reducePow, Nat.zero_add, Nat.add_zero, Nat.reduceAdd, Nat.reduceMul, Nat.reduceSub, xf_same, xq_ff, xq_fo, xf_1, xf_2, xs_1, xs_2, xs_same, xq_so, xj_1, xj_2, xj_same, xq_jo, xq_sa1, xq_same, xq_other, upd_s, oI_n, oI_s, xf_102_6 i1, xf_102_7 i1, xf_102_8 i1, xf_102_12 i1, xf_102_13 i1, a1, b2, f6, f7, b3, p6, p7]
  refine by_sw ?_
  simp (disch := first | exact Nat.ne_of_beq_eq_false rfl | exact rfl | omega) only [nI_add, xa_sub, xa_mul, pk_div, nm_mod, xa_shr, xa_and7, xa_and1, xa_and255, xa_by_and, nI_m1, Nat.add_sub_cancel, Nat.reducePow, Nat.zero_add, Nat.add_zero, Nat.reduceAdd, Nat.reduceMul, Nat.reduceSub, xf_same, xq_ff, xq_fo, xf_1, xf_2, xs_1, xs_2, xs_same, xq_so, xj_1, xj_2, xj_same, xq_jo, xq_sa1, xq_same, xq_other, upd_s, oI_n, oI_s, xv_0, xv_1, xv_2, xv_3, xm_p1, xm_p2, xq_fp, xq_fn, List.filter_nil, Nat.reduceBEq, Bool.not_true, Bool.not_false, Bool.and_true, Bool.and_false, Bool.false_and, Bool.true_and, if_true, if_false, Bool.false_eq_true, reduceIte, xc_i, xc_j, xc_r, xc_n, List.nil_append, List.cons_append, Option.toList_some, Option.toList_none, xf_102_6 i1, xf_102_7 i1, xf_102_8 i1, xf_102_12 i1, xf_102_13 i1, a1, b2, f6, f7, b3, p6, p7]
  refine xq_sw 135 (by decide) (by decide) ?_
  with_reducible refine xm_go_blk b_X12_typesOf_135 k_X12_typesOf_135 ?_
  refine by_aload_n rfl ?_
  refine by_getf cn_316 fl_12_34 (by first | exact rfl | assumption) (by decide) ?_
  refine by_iload_n rfl ?_
  refine by_aload_n rfl ?_
  refine by_getf cn_316 fl_12_34 (by first | exact rfl | assumption) (by decide) ?_
  refine by_iload_n rfl ?_
  simp (disch := first | exact Nat.ne_of_beq_eq_false rfl | exact rfl | omega) only [nI_add, xa_sub, xa_mul, pk_div, nm_mod, xa_shr, xa_and7, xa_and1, xa_and255, xa_by_and, nI_m1, Nat.add_sub_cancel, Nat.reducePow, Nat.zero_add, Nat.add_zero, Nat.reduceAdd, Nat.reduceMul, Nat.reduceSub, xf_same, xq_ff, xq_fo, xf_1, xf_2, xs_1, xs_2, xs_same, xq_so, xj_1, xj_2, xj_same, xq_jo, xq_sa1, xq_same, xq_other, upd_s, oI_n, oI_s, xf_102_6 i1, xf_102_7 i1, xf_102_8 i1, xf_102_12 i1, xf_102_13 i1, a1, b2, f6, f7, b3, p6, p7]
  first | refine by_iald (by first | exact rfl | assumption | exact ps_1 hpp | exact ps_2 hpp | exact ps_3 hpp | exact ps_4 hpp | exact ps_5 hpp | exact ps_6 hpp | exact ps_7 hpp | exact ps_8 hpp | exact ps_9 hpp | exact ps_10 hpp | exact ps_11 hpp | exact ps_15 hpp | exact ps_16 hpp | exact ps_17 hpp | exact ps_18 hpp | exact ps_19 hpp | exact ps_21 hpp | exact ps_22 hpp | exact ps_23 hpp | exact ps_24 hpp) ⟨by omega, by omega⟩ ?_ | refine by_tald rfl rfl ⟨by omega, by omega⟩ ?_
  refine by_iast (by first | exact rfl | assumption | exact ps_1 hpp | exact ps_2 hpp | exact ps_3 hpp | exact ps_4 hpp | exact ps_5 hpp | exact ps_6 hpp | exact ps_7 hpp | exact ps_8 hpp | exact ps_9 hpp | exact ps_10 hpp | exact ps_11 hpp | exact ps_15 hpp | exact ps_16 hpp | exact ps_17 hpp | exact ps_18 hpp | exact ps_19 hpp | exact ps_21 hpp | exact ps_22 hpp | exact ps_23 hpp | exact ps_24 hpp) ⟨by omega, by omega⟩ ?_
  refine by_aload_n rfl ?_
  refine by_getf cn_316 fl_12_37 (by first | exact rfl | assumption) (by decide) ?_
  refine by_iload_n rfl ?_
  refine by_aload_n rfl ?_
  refine by_iconst ci_3 ?_
  refine by_aload_n rfl ?_
  refine by_getf cn_316 fl_12_37 (by first | exact rfl | assumption) (by decide) ?_
  refine by_iload_n rfl ?_
  simp (disch := first | exact Nat.ne_of_beq_eq_false rfl | exact rfl | omega) only [nI_add, xa_sub, xa_mul, pk_div, nm_mod, xa_shr, xa_and7, xa_and1, xa_and255, xa_by_and, nI_m1, Nat.add_sub_cancel, Nat.reducePow, Nat.zero_add, Nat.add_zero, Nat.reduceAdd, Nat.reduceMul, Nat.reduceSub, xf_same, xq_ff, xq_fo, xf_1, xf_2, xs_1, xs_2, xs_same, xq_so, xj_1, xj_2, xj_same, xq_jo, xq_sa1, xq_same, xq_other, upd_s, oI_n, oI_s, xf_102_6 i1, xf_102_7 i1, xf_102_8 i1, xf_102_12 i1, xf_102_13 i1, a1, b2, f6, f7, b3, p6, p7]
  first | refine by_iald (by first | exact rfl | assumption | exact ps_1 hpp | exact ps_2 hpp | exact ps_3 hpp | exact ps_4 hpp | exact ps_5 hpp | exact ps_6 hpp | exact ps_7 hpp | exact ps_8 hpp | exact ps_9 hpp | exact ps_10 hpp | exact ps_11 hpp | exact ps_15 hpp | exact ps_16 hpp | exact ps_17 hpp | exact ps_18 hpp | exact ps_19 hpp | exact ps_21 hpp | exact ps_22 hpp | exact ps_23 hpp | exact ps_24 hpp) ⟨by omega, by omega⟩ ?_ | refine by_tald rfl rfl ⟨by omega, by omega⟩ ?_
  refine by_aload_n rfl ?_
  refine by_getf cn_316 fl_12_37 (by first | exact rfl | assumption) (by decide) ?_
  refine by_iload_n rfl ?_
  simp (disch := first | exact Nat.ne_of_beq_eq_false rfl | exact rfl | omega) only [nI_add, xa_sub, xa_mul, pk_div, nm_mod, xa_shr, xa_and7, xa_and1, xa_and255, xa_by_and, nI_m1, Nat.add_sub_cancel, Nat.reducePow, Nat.zero_add, Nat.add_zero, Nat.reduceAdd, Nat.reduceMul, Nat.reduceSub, xf_same, xq_ff, xq_fo, xf_1, xf_2, xs_1, xs_2, xs_same, xq_so, xj_1, xj_2, xj_same, xq_jo, xq_sa1, xq_same, xq_other, upd_s, oI_n, oI_s, xf_102_6 i1, xf_102_7 i1, xf_102_8 i1, xf_102_12 i1, xf_102_13 i1, a1, b2, f6, f7, b3, p6, p7]
  first | refine by_iald (by first | exact rfl | assumption | exact ps_1 hpp | exact ps_2 hpp | exact ps_3 hpp | exact ps_4 hpp | exact ps_5 hpp | exact ps_6 hpp | exact ps_7 hpp | exact ps_8 hpp | exact ps_9 hpp | exact ps_10 hpp | exact ps_11 hpp | exact ps_15 hpp | exact ps_16 hpp | exact ps_17 hpp | exact ps_18 hpp | exact ps_19 hpp | exact ps_21 hpp | exact ps_22 hpp | exact ps_23 hpp | exact ps_24 hpp) ⟨by omega, by omega⟩ ?_ | refine by_tald rfl rfl ⟨by omega, by omega⟩ ?_
  simp (disch := first | exact Nat.ne_of_beq_eq_false rfl | exact rfl | omega) only [nI_add, xa_sub, xa_mul, pk_div, nm_mod, xa_shr, xa_and7, xa_and1, xa_and255, xa_by_and, nI_m1, Nat.add_sub_cancel, Nat.reducePow, Nat.zero_add, Nat.add_zero, Nat.reduceAdd, Nat.reduceMul, Nat.reduceSub, xf_same, xq_ff, xq_fo, xf_1, xf_2, xs_1, xs_2, xs_same, xq_so, xj_1, xj_2, xj_same, xq_jo, xq_sa1, xq_same, xq_other, upd_s, oI_n, oI_s, xv_0, xv_1, xv_2, xv_3, xm_p1, xm_p2, xq_fp, xq_fn, List.filter_nil, Nat.reduceBEq, Bool.not_true, Bool.not_false, Bool.and_true, Bool.and_false, Bool.false_and, Bool.true_and, if_true, if_false, Bool.false_eq_true, reduceIte, xc_i, xc_j, xc_r, xc_n, List.nil_append, List.cons_append, Option.toList_some, Option.toList_none, xf_102_6 i1, xf_102_7 i1, xf_102_8 i1, xf_102_12 i1, xf_102_13 i1, a1, b2, f6, f7, b3, p6, p7]
  refine by_inv3 cn_316 lk_12_236 (by rw [xe_cnt]; decide) is_213 np_213 cn_213 (by first | exact rfl | assumption) (Nat.le_of_ble_eq_true rfl) ?_
  have F0 : Fr mlR mgT h (xm_si h 111 n (nI (src (fi n)))) := Fr_si Fr_rf (by decide)
  have J0 : XF (xm_si h 111 n (nI (src (fi n)))) := Fr_XF i1 F0 mg_fin
  refine sp_mcell (kk := 3) (ll := tgt (fi n)) (rr := tgt (se n)) J0 (mgr_si (Or.inl rfl) i4) (by omega) (by decide) (fun _ => ⟨rfl, rfl, by omega, by omega⟩) (fun h0 g3 g4 => ?_)
  obtain ⟨F3, N3, O3⟩ := ml_fin (t := nI c) g3
  have j0 : XF h0 := Fr_XF J0 g3 mg_fin
  have t1 : h0.1 111 (fi n) = nI (src (fi n)) := by rw [g3.1 111 (by decide), xs_same, upd_o hne, f6]
  have t2 : h0.1 111 (se n) = nI (src (se n)) := by rw [g3.1 111 (by decide), xs_same, upd_o hne2, p6]
  with_reducible refine xm_go_blk b_X12_typesOf_169 k_X12_typesOf_169 ?_
  refine by_iast (by first | exact rfl | assumption | exact ps_1 hpp | exact ps_2 hpp | exact ps_3 hpp | exact ps_4 hpp | exact ps_5 hpp | exact ps_6 hpp | exact ps_7 hpp | exact ps_8 hpp | exact ps_9 hpp | exact ps_10 hpp | exact ps_11 hpp | exact ps_15 hpp | exact ps_16 hpp | exact ps_17 hpp | exact ps_18 hpp | exact ps_19 hpp | exact ps_21 hpp | exact ps_22 hpp | exact ps_23 hpp | exact ps_24 hpp) ⟨by omega, by omega⟩ ?_
  refine by_aload_n rfl ?_
  refine by_aload_n rfl ?_
  refine by_getf cn_316 fl_12_34 (by first | exact rfl | assumption) (by decide) ?_
  refine by_iload_n rfl ?_
  simp (disch := first | exact Nat.ne_of_beq_eq_false rfl | exact rfl | omega) only [nI_add, xa_sub, xa_mul, pk_div, nm_mod, xa_shr, xa_and7, xa_and1, xa_and255, xa_by_and, nI_m1, Nat.add_sub_cancel, Nat.reducePow, Nat.zero_add, Nat.add_zero, Nat.reduceAdd, Nat.reduceMul, Nat.reduceSub, xf_same, xq_ff, xq_fo, xf_1, xf_2, xs_1, xs_2, xs_same, xq_so, xj_1, xj_2, xj_same, xq_jo, xq_sa1, xq_same, xq_other, upd_s, oI_n, oI_s, xf_102_12 j0, t1, t2]
  first | refine by_iald (by first | exact rfl | assumption | exact ps_1 hpp | exact ps_2 hpp | exact ps_3 hpp | exact ps_4 hpp | exact ps_5 hpp | exact ps_6 hpp | exact ps_7 hpp | exact ps_8 hpp | exact ps_9 hpp | exact ps_10 hpp | exact ps_11 hpp | exact ps_15 hpp | exact ps_16 hpp | exact ps_17 hpp | exact ps_18 hpp | exact ps_19 hpp | exact ps_21 hpp | exact ps_22 hpp | exact ps_23 hpp | exact ps_24 hpp) ⟨by omega, by omega⟩ ?_ | refine by_tald rfl rfl ⟨by omega, by omega⟩ ?_
  refine by_aload_n rfl ?_
  refine by_getf cn_316 fl_12_34 (by first | exact rfl | assumption) (by decide) ?_
  refine by_iload_n rfl ?_
  simp (disch := first | exact Nat.ne_of_beq_eq_false rfl | exact rfl | omega) only [nI_add, xa_sub, xa_mul, pk_div, nm_mod, xa_shr, xa_and7, xa_and1, xa_and255, xa_by_and, nI_m1, Nat.add_sub_cancel, Nat.reducePow, Nat.zero_add, Nat.add_zero, Nat.reduceAdd, Nat.reduceMul, Nat.reduceSub, xf_same, xq_ff, xq_fo, xf_1, xf_2, xs_1, xs_2, xs_same, xq_so, xj_1, xj_2, xj_same, xq_jo, xq_sa1, xq_same, xq_other, upd_s, oI_n, oI_s, xf_102_12 j0, t1, t2]
  first | refine by_iald (by first | exact rfl | assumption | exact ps_1 hpp | exact ps_2 hpp | exact ps_3 hpp | exact ps_4 hpp | exact ps_5 hpp | exact ps_6 hpp | exact ps_7 hpp | exact ps_8 hpp | exact ps_9 hpp | exact ps_10 hpp | exact ps_11 hpp | exact ps_15 hpp | exact ps_16 hpp | exact ps_17 hpp | exact ps_18 hpp | exact ps_19 hpp | exact ps_21 hpp | exact ps_22 hpp | exact ps_23 hpp | exact ps_24 hpp) ⟨by omega, by omega⟩ ?_ | refine by_tald rfl rfl ⟨by omega, by omega⟩ ?_
  simp (disch := first | exact Nat.ne_of_beq_eq_false rfl | exact rfl | omega) only [nI_add, xa_sub, xa_mul, pk_div, nm_mod, xa_shr, xa_and7, xa_and1, xa_and255, xa_by_and, nI_m1, Nat.add_sub_cancel, Nat.reducePow, Nat.zero_add, Nat.add_zero, Nat.reduceAdd, Nat.reduceMul, Nat.reduceSub, xf_same, xq_ff, xq_fo, xf_1, xf_2, xs_1, xs_2, xs_same, xq_so, xj_1, xj_2, xj_same, xq_jo, xq_sa1, xq_same, xq_other, upd_s, oI_n, oI_s, xv_0, xv_1, xv_2, xv_3, xm_p1, xm_p2, xq_fp, xq_fn, List.filter_nil, Nat.reduceBEq, Bool.not_true, Bool.not_false, Bool.and_true, Bool.and_false, Bool.false_and, Bool.true_and, if_true, if_false, Bool.false_eq_true, reduceIte, xc_i, xc_j, xc_r, xc_n, List.nil_append, List.cons_append, Option.toList_some, Option.toList_none, xf_102_12 j0, t1, t2]
  refine by_inv2 cn_316 lk_12_250 (by rw [xe_cnt]; decide) is_242 np_242 cn_242 (by first | exact rfl | assumption) (Nat.le_of_ble_eq_true rfl) ?_
  refine sp_mjoinG (Fr_XF i1 F3 mg_fin) (mgr_si (Or.inr rfl) g4) (by omega) (by omega) (by omega) (fun h2 rt' g1 g2 => ?_) (fun h2 g1 hbad => ?_)
  · with_reducible refine xm_go_blk b_X12_typesOf_186 k_X12_typesOf_186 ?_
    refine by_iret ry_316 (by first | rfl | assumption) ?_
    have hf2 : Fr mlR mgT h h2 := Fr_tr F3 g1 (by simp [mlR]) (by simp)
    refine hP.1 _ _ _ _ _ _ _ _ _ hf2 (msI_new (s := src (fi n)) (t := c) hI hn hnL hl hf2 g2 ?_ updN_tx (by omega) (fun _ => by rw [g1.1 111 (by decide), g1.1 112 (by decide)]; exact N3) (fun m hm => by rw [g1.1 111 (by decide), g1.1 112 (by decide)]; exact O3 m hm))
    refine tyS_add i5 updN_tx (fun t h1 h2 => ?_) (fun q hq => ?_) (fun q hq => List.mem_cons_of_mem _ hq) hnL hch (fun _ => ⟨by omega, by omega⟩) (fun f hf => ?_) hsol
    · have : t = c := by omega
      subst this
      rw [updN_s, updN_s, updN_s]; exact ⟨by decide, fun _ => ⟨by omega, by omega⟩⟩
    · rcases List.mem_cons.mp hq with rfl | hq
      · exact Or.inr ⟨by show src (fi n) < c + 1; omega, by show src (se n) < c + 1; omega⟩
      · exact Or.inl hq
    · refine ⟨fun e => ?_, fun e => ?_, fun e => ?_, fun e => ?_, fun e => ?_, fun e => ?_, fun e => ?_, fun e => ?_, fun e => ?_, fun e => ?_⟩ <;> first | (exfalso; omega) | skip
      simp only [updN_s, updN_o hne, updN_o hne2]
      exact ⟨trivial, by omega, trivial, trivial, trivial, (ty_pd_cons.mp hf).1⟩
  · with_reducible refine xm_go_blk b_X12_typesOf_186 k_X12_typesOf_186 ?_
    refine by_iret ry_316 (by first | rfl | assumption) ?_
    refine hP.2 _ (Fr_tr F3 g1 (by simp [mlR]) (by simp)) (fun S T hso => ?_)
    obtain ⟨V, v1, v2, v3, v4⟩ := i5.2.2.2.2 S T ⟨hso.1, hso.2.1, fun m hm => hso.2.2 m (List.mem_append_left _ hm)⟩
    obtain ⟨V', w1, w2, w3, w4, w5⟩ := hsol S T V hso.1 hso.2.1 (hso.2.2 n (List.mem_append_right _ (by simp))) v1 v2 v3 v4
    exact hbad V' w1 (tx_all updN_tx i5.1 v2 w2 w3) w4
end RUL
