/-! ===== Finder: PAIR, JET ===== -/
theorem and3 (a : Nat) : nI a &&& nI 3 = nI (a % 4) := by
  rw [nx_and]
  exact congrArg nI (Nat.and_two_pow_sub_one_eq_mod a 2)
theorem jS_tab : ∀ k, k < 42 → xt_X2_SOURCE k = nI (jt_S k) ∧ jt_S k ≤ 10 := by decide
theorem jT_tab : ∀ k, k < 42 → xt_X2_TARGET k = nI (jt_T k) ∧ jt_T k ≤ 10 := by decide
theorem sh_cs : ∀ {k : Nat}, k < 11 → k = 0 ∨ k = 1 ∨ k = 2 ∨ k = 3 ∨ k = 4 ∨ k = 5 ∨ k = 6 ∨ k = 7 ∨ k = 8 ∨ k = 9 ∨ k = 10 := by decide
theorem sp_shape {sc : xm_Sc} {d s m : Nat} {h : xm_H} {post : xm_Po} (hs : s ≤ 10) (hm : m < 4) (hp : post (some (.int (nI (shT s m)))) h) : xm_T (XE sc) (d + 1) 48 [.int (nI s), .int (nI m)] h post := by
  refine xq_in rfl ?_
  simp only [xq_a0, xq_aI, xq_aJ, xq_aR, Nat.reduceAdd]
  rcases sh_cs (Nat.lt_succ_of_le hs) with rfl | rfl | rfl | rfl | rfl | rfl | rfl | rfl | rfl | rfl | rfl
  · with_reducible refine xm_go_blk b_X1_shapeTerm_0 k_X1_shapeTerm_0 ?_
    refine by_iload_n rfl ?_
    refine by_sw ?_
    refine xq_sw 97 (by decide) (by decide) ?_
    with_reducible refine xm_go_blk b_X1_shapeTerm_97 k_X1_shapeTerm_97 ?_
    refine by_iconst ci_0 ?_
    refine by_iret ry_48 (by first | rfl | assumption) ?_
    exact hp
  · with_reducible refine xm_go_blk b_X1_shapeTerm_0 k_X1_shapeTerm_0 ?_
    refine by_iload_n rfl ?_
    refine by_sw ?_
    refine xq_sw 56 (by decide) (by decide) ?_
    with_reducible refine xm_go_blk b_X1_shapeTerm_56 k_X1_shapeTerm_56 ?_
    refine by_iconst ci_1 ?_
    refine by_iret ry_48 (by first | rfl | assumption) ?_
    exact hp
  · with_reducible refine xm_go_blk b_X1_shapeTerm_0 k_X1_shapeTerm_0 ?_
    refine by_iload_n rfl ?_
    refine by_sw ?_
    refine xq_sw 58 (by decide) (by decide) ?_
    with_reducible refine xm_go_blk b_X1_shapeTerm_58 k_X1_shapeTerm_58 ?_
    refine by_iconst ci_3 ?_
    refine by_iload_n rfl ?_
    refine by_iadd ?_
    simp (disch := first | exact Nat.ne_of_beq_eq_false rfl | omega) only [nI_add, xa_sub, xa_mul, pk_div, nm_mod, xa_shr, xa_and7, xa_and1, xa_and255, xa_by_and, nI_m1, Nat.add_sub_cancel, Nat.reducePow, Nat.zero_add, Nat.add_zero, Nat.reduceAdd, Nat.reduceMul, Nat.reduceSub, xf_same, xq_ff, xq_fo, xf_1, xf_2, xs_1, xs_2, xs_same, xq_so, xj_1, xj_2, xj_same, xq_jo, xq_sa1, xq_same, xq_other, upd_s, oI_n, oI_s]
    refine by_iret ry_48 (by first | rfl | assumption) ?_
    exact hp
  · with_reducible refine xm_go_blk b_X1_shapeTerm_0 k_X1_shapeTerm_0 ?_
    refine by_iload_n rfl ?_
    refine by_sw ?_
    refine xq_sw 62 (by decide) (by decide) ?_
    with_reducible refine xm_go_blk b_X1_shapeTerm_62 k_X1_shapeTerm_62 ?_
    refine by_iconst ci_4 ?_
    refine by_iload_n rfl ?_
    refine by_iadd ?_
    simp (disch := first | exact Nat.ne_of_beq_eq_false rfl | omega) only [nI_add, xa_sub, xa_mul, pk_div, nm_mod, xa_shr, xa_and7, xa_and1, xa_and255, xa_by_and, nI_m1, Nat.add_sub_cancel, Nat.reducePow, Nat.zero_add, Nat.add_zero, Nat.reduceAdd, Nat.reduceMul, Nat.reduceSub, xf_same, xq_ff, xq_fo, xf_1, xf_2, xs_1, xs_2, xs_same, xq_so, xj_1, xj_2, xj_same, xq_jo, xq_sa1, xq_same, xq_other, upd_s, oI_n, oI_s]
    refine by_iret ry_48 (by first | rfl | assumption) ?_
    exact hp
  · with_reducible refine xm_go_blk b_X1_shapeTerm_0 k_X1_shapeTerm_0 ?_
    refine by_iload_n rfl ?_
    refine by_sw ?_
    refine xq_sw 66 (by decide) (by decide) ?_
    with_reducible refine xm_go_blk b_X1_shapeTerm_66 k_X1_shapeTerm_66 ?_
    refine by_iconst ci_5 ?_
    refine by_iload_n rfl ?_
    refine by_iadd ?_
    simp (disch := first | exact Nat.ne_of_beq_eq_false rfl | omega) only [nI_add, xa_sub, xa_mul, pk_div, nm_mod, xa_shr, xa_and7, xa_and1, xa_and255, xa_by_and, nI_m1, Nat.add_sub_cancel, Nat.reducePow, Nat.zero_add, Nat.add_zero, Nat.reduceAdd, Nat.reduceMul, Nat.reduceSub, xf_same, xq_ff, xq_fo, xf_1, xf_2, xs_1, xs_2, xs_same, xq_so, xj_1, xj_2, xj_same, xq_jo, xq_sa1, xq_same, xq_other, upd_s, oI_n, oI_s]
    refine by_iret ry_48 (by first | rfl | assumption) ?_
    exact hp
  · with_reducible refine xm_go_blk b_X1_shapeTerm_0 k_X1_shapeTerm_0 ?_
    refine by_iload_n rfl ?_
    refine by_sw ?_
    refine xq_sw 70 (by decide) (by decide) ?_
    with_reducible refine xm_go_blk b_X1_shapeTerm_70 k_X1_shapeTerm_70 ?_
    refine by_bipush cb_6 ?_
    refine by_iload_n rfl ?_
    refine by_iadd ?_
    simp (disch := first | exact Nat.ne_of_beq_eq_false rfl | omega) only [nI_add, xa_sub, xa_mul, pk_div, nm_mod, xa_shr, xa_and7, xa_and1, xa_and255, xa_by_and, nI_m1, Nat.add_sub_cancel, Nat.reducePow, Nat.zero_add, Nat.add_zero, Nat.reduceAdd, Nat.reduceMul, Nat.reduceSub, xf_same, xq_ff, xq_fo, xf_1, xf_2, xs_1, xs_2, xs_same, xq_so, xj_1, xj_2, xj_same, xq_jo, xq_sa1, xq_same, xq_other, upd_s, oI_n, oI_s]
    refine by_iret ry_48 (by first | rfl | assumption) ?_
    exact hp
  · with_reducible refine xm_go_blk b_X1_shapeTerm_0 k_X1_shapeTerm_0 ?_
    refine by_iload_n rfl ?_
    refine by_sw ?_
    refine xq_sw 75 (by decide) (by decide) ?_
    with_reducible refine xm_go_blk b_X1_shapeTerm_75 k_X1_shapeTerm_75 ?_
    refine by_iconst ci_4 ?_
    refine by_iret ry_48 (by first | rfl | assumption) ?_
    exact hp
  · with_reducible refine xm_go_blk b_X1_shapeTerm_0 k_X1_shapeTerm_0 ?_
    refine by_iload_n rfl ?_
    refine by_sw ?_
    refine xq_sw 77 (by decide) (by decide) ?_
    with_reducible refine xm_go_blk b_X1_shapeTerm_77 k_X1_shapeTerm_77 ?_
    refine by_bipush cb_10 ?_
    refine by_iload_n rfl ?_
    refine by_iadd ?_
    simp (disch := first | exact Nat.ne_of_beq_eq_false rfl | omega) only [nI_add, xa_sub, xa_mul, pk_div, nm_mod, xa_shr, xa_and7, xa_and1, xa_and255, xa_by_and, nI_m1, Nat.add_sub_cancel, Nat.reducePow, Nat.zero_add, Nat.add_zero, Nat.reduceAdd, Nat.reduceMul, Nat.reduceSub, xf_same, xq_ff, xq_fo, xf_1, xf_2, xs_1, xs_2, xs_same, xq_so, xj_1, xj_2, xj_same, xq_jo, xq_sa1, xq_same, xq_other, upd_s, oI_n, oI_s]
    refine by_iret ry_48 (by first | rfl | assumption) ?_
    exact hp
  · with_reducible refine xm_go_blk b_X1_shapeTerm_0 k_X1_shapeTerm_0 ?_
    refine by_iload_n rfl ?_
    refine by_sw ?_
    refine xq_sw 82 (by decide) (by decide) ?_
    with_reducible refine xm_go_blk b_X1_shapeTerm_82 k_X1_shapeTerm_82 ?_
    refine by_bipush cb_14 ?_
    refine by_iload_n rfl ?_
    refine by_iadd ?_
    simp (disch := first | exact Nat.ne_of_beq_eq_false rfl | omega) only [nI_add, xa_sub, xa_mul, pk_div, nm_mod, xa_shr, xa_and7, xa_and1, xa_and255, xa_by_and, nI_m1, Nat.add_sub_cancel, Nat.reducePow, Nat.zero_add, Nat.add_zero, Nat.reduceAdd, Nat.reduceMul, Nat.reduceSub, xf_same, xq_ff, xq_fo, xf_1, xf_2, xs_1, xs_2, xs_same, xq_so, xj_1, xj_2, xj_same, xq_jo, xq_sa1, xq_same, xq_other, upd_s, oI_n, oI_s]
    refine by_iret ry_48 (by first | rfl | assumption) ?_
    exact hp
  · with_reducible refine xm_go_blk b_X1_shapeTerm_0 k_X1_shapeTerm_0 ?_
    refine by_iload_n rfl ?_
    refine by_sw ?_
    refine xq_sw 87 (by decide) (by decide) ?_
    with_reducible refine xm_go_blk b_X1_shapeTerm_87 k_X1_shapeTerm_87 ?_
    refine by_bipush cb_18 ?_
    refine by_iload_n rfl ?_
    refine by_iadd ?_
    simp (disch := first | exact Nat.ne_of_beq_eq_false rfl | omega) only [nI_add, xa_sub, xa_mul, pk_div, nm_mod, xa_shr, xa_and7, xa_and1, xa_and255, xa_by_and, nI_m1, Nat.add_sub_cancel, Nat.reducePow, Nat.zero_add, Nat.add_zero, Nat.reduceAdd, Nat.reduceMul, Nat.reduceSub, xf_same, xq_ff, xq_fo, xf_1, xf_2, xs_1, xs_2, xs_same, xq_so, xj_1, xj_2, xj_same, xq_jo, xq_sa1, xq_same, xq_other, upd_s, oI_n, oI_s]
    refine by_iret ry_48 (by first | rfl | assumption) ?_
    exact hp
  · with_reducible refine xm_go_blk b_X1_shapeTerm_0 k_X1_shapeTerm_0 ?_
    refine by_iload_n rfl ?_
    refine by_sw ?_
    refine xq_sw 92 (by decide) (by decide) ?_
    with_reducible refine xm_go_blk b_X1_shapeTerm_92 k_X1_shapeTerm_92 ?_
    refine by_bipush cb_22 ?_
    refine by_iload_n rfl ?_
    refine by_iadd ?_
    simp (disch := first | exact Nat.ne_of_beq_eq_false rfl | omega) only [nI_add, xa_sub, xa_mul, pk_div, nm_mod, xa_shr, xa_and7, xa_and1, xa_and255, xa_by_and, nI_m1, Nat.add_sub_cancel, Nat.reducePow, Nat.zero_add, Nat.add_zero, Nat.reduceAdd, Nat.reduceMul, Nat.reduceSub, xf_same, xq_ff, xq_fo, xf_1, xf_2, xs_1, xs_2, xs_same, xq_so, xj_1, xj_2, xj_same, xq_jo, xq_sa1, xq_same, xq_other, upd_s, oI_n, oI_s]
    refine by_iret ry_48 (by first | rfl | assumption) ?_
    exact hp
theorem shT_lt {s m : Nat} (hs : s ≤ 10) (hm : m < 4) : shT s m < 26 := by
  rcases sh_cs (Nat.lt_succ_of_le hs) with rfl | rfl | rfl | rfl | rfl | rfl | rfl | rfl | rfl | rfl | rfl <;> simp only [shT] <;> omega
section RUL
variable {sc : xm_Sc} {d pp N n : Nat} {cd fi se nu : Nat → Nat} {L : List Nat} {c : Nat} {k l r rt : Nat → Nat} {es : List (Nat × Nat)} {src tgt : Nat → Nat} {h : xm_H} {post : xm_Po}
theorem rl_2 (hI : tsI h pp N cd fi se nu L c k l r rt es src tgt) (hn : n < N) (hnL : n ∉ L) (hl : L.length < 2000) (hch : ∀ m ∈ L, (cd m ≤ 6 → fi m ≠ n) ∧ (cd m ≤ 2 → se m ≠ n)) (hfi : fi n ∈ L) (hfv : cd (fi n) ≠ 11) (hse : se n ∈ L) (hsv : cd (se n) ≠ 11) (hc : cd n = 2) (hP : rlP pp N n cd fi se nu L h post) : xm_T (XE sc) (d + 4) 46 [.ref 15, .ref pp, .int (nI n)] h post := by
  have hI0 := hI
  obtain ⟨i1, hpp, i3, i4, i5, i6, i7, i8, i9, i10, i11⟩ := hI0
  obtain ⟨a1, a2, a3, a4, a5, a6, a7⟩ := i3 n hn
  obtain ⟨b2, b2'⟩ := a3 (by omega)
  obtain ⟨f1, f2⟩ := i6 (fi n) hfi
  obtain ⟨f6, f7⟩ := f2 hfv
  obtain ⟨f8, f9⟩ := i5.2.2.1 (fi n) hfi hfv
  have hne : fi n ≠ n := fun z => hnL (by rw [← z]; exact hfi)
  obtain ⟨b3, b3'⟩ := a5 (by omega)
  obtain ⟨p1, p2⟩ := i6 (se n) hse
  obtain ⟨p6, p7⟩ := p2 hsv
  obtain ⟨p8, p9⟩ := i5.2.2.1 (se n) hse hsv
  have hne2 : se n ≠ n := fun z => hnL (by rw [← z]; exact hse)
  refine xq_in rfl ?_
  simp only [xq_a0, xq_aI, xq_aJ, xq_aR, Nat.reduceAdd]
  rw [hc] at a1
  have hsol : ∀ S T V, ty_vok S → ty_vok T → ty_rule cd fi se nu S T n → ty_vok V → ty_all c k l r V → ty_pd es V → (∀ m ∈ L, cd m ≠ 11 → V (src m) = S m ∧ V (tgt m) = T m) → ∃ V', ty_vok V' ∧ (∀ t, t < c → V' t = V t) ∧ (∀ t, c ≤ t → t < c + 1 → ty_st V' (updN k c 3 t) (updN l c (tgt (fi n)) t) (updN r c (tgt (se n)) t) t) ∧ ty_pd ((src (fi n), src (se n)) :: es) V' ∧ (cd n ≠ 11 → V' (src (fi n)) = S n ∧ V' c = T n) := by
    intro S T V hs ht hr v1 v2 v3 v4
    obtain ⟨r1, r2, r3⟩ := hr.2.2.1 hc
    obtain ⟨w1, w2⟩ := v4 (fi n) hfi hfv
    obtain ⟨w3, w4⟩ := v4 (se n) hse hsv
    have e := tvx_n (V := V) (c := c) (i := 0) (g := [T n])
    rw [Nat.add_zero] at e
    refine ⟨tvx V c [T n], tvx_ok v1 (by simp only [List.mem_singleton]; rintro a rfl; exact ht n), fun t ht => tvx_o ht, fun t h1 h2 => ?_, ty_pd_cons.mpr ⟨?_, tx_pd i5.2.1 v3 (fun t ht => tvx_o ht)⟩, fun _ => ⟨by rw [tvx_o f8, w1, r1], e⟩⟩
    · have : t = c := by omega
      subst this
      rw [updN_s, updN_s, updN_s]
      refine ⟨nofun, nofun, fun _ => ?_⟩
      rw [e, tvx_o f9, tvx_o p9, w2, w4]
      exact r3
    · rw [tvx_o f8, tvx_o p8, w1, w3, r1, r2]
  with_reducible refine xm_go_blk b_X1_rule_0 k_X1_rule_0 ?_
  refine by_aload_n rfl ?_
  refine by_getf cn_46 fl_1_70 (by first | exact rfl | assumption | exact ps_0 hpp) (by decide) ?_
  refine by_iload_n rfl ?_
  simp (disch := first | exact Nat.ne_of_beq_eq_false rfl | omega) only [nI_add, xa_sub, xa_mul, pk_div, nm_mod, xa_shr, xa_and7, xa_and1, xa_and255, xa_by_and, nI_m1, Nat.add_sub_cancel, Nat.reducePow, Nat.zero_add, Nat.add_zero, Nat.reduceAdd, Nat.reduceMul, Nat.reduceSub, xf_same, xq_ff, xq_fo, xf_1, xf_2, xs_1, xs_2, xs_same, xq_so, xj_1, xj_2, xj_same, xq_jo, xq_sa1, xq_same, xq_other, upd_s, oI_n, oI_s, pf_1 i1 hpp, pf_2 i1 hpp, pf_3 i1 hpp, a1, b2, b3, pf_6 i1 hpp, pf_7 i1 hpp, f6, f7, p6, p7]
  first | refine by_iald (by first | exact rfl | assumption | exact ps_1 hpp | exact ps_2 hpp | exact ps_3 hpp | exact ps_4 hpp | exact ps_5 hpp | exact ps_6 hpp | exact ps_7 hpp | exact ps_8 hpp | exact ps_9 hpp | exact ps_10 hpp | exact ps_11 hpp | exact ps_15 hpp | exact ps_16 hpp | exact ps_17 hpp | exact ps_18 hpp | exact ps_19 hpp | exact ps_21 hpp | exact ps_22 hpp | exact ps_23 hpp | exact ps_24 hpp) ⟨by omega, by omega⟩ ?_ | refine by_tald rfl rfl ⟨by omega, by omega⟩ ?_
  refine by_istore_n (by rw [ml_46]; decide) ?_
  refine by_aload_n rfl ?_
  refine by_getf cn_46 fl_1_73 (by first | exact rfl | assumption | exact ps_0 hpp) (by decide) ?_
  refine by_iload_n rfl ?_
  simp (disch := first | exact Nat.ne_of_beq_eq_false rfl | omega) only [nI_add, xa_sub, xa_mul, pk_div, nm_mod, xa_shr, xa_and7, xa_and1, xa_and255, xa_by_and, nI_m1, Nat.add_sub_cancel, Nat.reducePow, Nat.zero_add, Nat.add_zero, Nat.reduceAdd, Nat.reduceMul, Nat.reduceSub, xf_same, xq_ff, xq_fo, xf_1, xf_2, xs_1, xs_2, xs_same, xq_so, xj_1, xj_2, xj_same, xq_jo, xq_sa1, xq_same, xq_other, upd_s, oI_n, oI_s, pf_1 i1 hpp, pf_2 i1 hpp, pf_3 i1 hpp, a1, b2, b3, pf_6 i1 hpp, pf_7 i1 hpp, f6, f7, p6, p7]
  first | refine by_iald (by first | exact rfl | assumption | exact ps_1 hpp | exact ps_2 hpp | exact ps_3 hpp | exact ps_4 hpp | exact ps_5 hpp | exact ps_6 hpp | exact ps_7 hpp | exact ps_8 hpp | exact ps_9 hpp | exact ps_10 hpp | exact ps_11 hpp | exact ps_15 hpp | exact ps_16 hpp | exact ps_17 hpp | exact ps_18 hpp | exact ps_19 hpp | exact ps_21 hpp | exact ps_22 hpp | exact ps_23 hpp | exact ps_24 hpp) ⟨by omega, by omega⟩ ?_ | refine by_tald rfl rfl ⟨by omega, by omega⟩ ?_
  refine by_istore (by rw [ml_46]; decide) ?_
  refine by_aload_n rfl ?_
  refine by_getf cn_46 fl_1_53 (by first | exact rfl | assumption | exact ps_0 hpp) (by decide) ?_
  refine by_iload_n rfl ?_
  simp (disch := first | exact Nat.ne_of_beq_eq_false rfl | omega) only [nI_add, xa_sub, xa_mul, pk_div, nm_mod, xa_shr, xa_and7, xa_and1, xa_and255, xa_by_and, nI_m1, Nat.add_sub_cancel, Nat.reducePow, Nat.zero_add, Nat.add_zero, Nat.reduceAdd, Nat.reduceMul, Nat.reduceSub, xf_same, xq_ff, xq_fo, xf_1, xf_2, xs_1, xs_2, xs_same, xq_so, xj_1, xj_2, xj_same, xq_jo, xq_sa1, xq_same, xq_other, upd_s, oI_n, oI_s, pf_1 i1 hpp, pf_2 i1 hpp, pf_3 i1 hpp, a1, b2, b3, pf_6 i1 hpp, pf_7 i1 hpp, f6, f7, p6, p7]
  first | refine by_iald (by first | exact rfl | assumption | exact ps_1 hpp | exact ps_2 hpp | exact ps_3 hpp | exact ps_4 hpp | exact ps_5 hpp | exact ps_6 hpp | exact ps_7 hpp | exact ps_8 hpp | exact ps_9 hpp | exact ps_10 hpp | exact ps_11 hpp | exact ps_15 hpp | exact ps_16 hpp | exact ps_17 hpp | exact ps_18 hpp | exact ps_19 hpp | exact ps_21 hpp | exact ps_22 hpp | exact ps_23 hpp | exact ps_24 hpp) ⟨by omega, by omega⟩ ?_ | refine by_tald rfl rfl ⟨by omega, by omega⟩ ?_
  simp (disch := first | exact Nat.ne_of_beq_eq_false rfl | omega) only [nI_add, xa_sub, xa_mul, pk_div, nm_mod, xa_shr, xa_and7, xa_and1, xa_and255, xa_by_and, nI_m1, Nat.add_sub_cancel, Nat.reducePow, Nat.zero_add, Nat.add_zero, Nat.reduceAdd, Nat.reduceMul, Nat.reduceSub, xf_same, xq_ff, xq_fo, xf_1, xf_2, xs_1, xs_2, xs_same, xq_so, xj_1, xj_2, xj_same, xq_jo, xq_sa1, xq_same, xq_other, upd_s, oI_n, oI_s, pf_1 i1 hpp, pf_2 i1 hpp, pf_3 i1 hpp, a1, b2, b3, pf_6 i1 hpp, pf_7 i1 hpp, f6, f7, p6, p7]
  refine by_sw ?_
  simp (disch := first | exact Nat.ne_of_beq_eq_false rfl | omega) only [nI_add, xa_sub, xa_mul, pk_div, nm_mod, xa_shr, xa_and7, xa_and1, xa_and255, xa_by_and, nI_m1, Nat.add_sub_cancel, Nat.reducePow, Nat.zero_add, Nat.add_zero, Nat.reduceAdd, Nat.reduceMul, Nat.reduceSub, xf_same, xq_ff, xq_fo, xf_1, xf_2, xs_1, xs_2, xs_same, xq_so, xj_1, xj_2, xj_same, xq_jo, xq_sa1, xq_same, xq_other, upd_s, oI_n, oI_s, xv_0, xv_1, xv_2, xv_3, xm_p1, xm_p2, List.filter_cons, List.filter_nil, Nat.reduceBEq, Bool.not_true, Bool.not_false, Bool.and_true, Bool.and_false, Bool.false_and, Bool.true_and, if_true, if_false, Bool.false_eq_true, reduceIte, xc_i, xc_j, xc_r, xc_n, List.nil_append, List.cons_append, Option.toList_some, Option.toList_none, pf_1 i1 hpp, pf_2 i1 hpp, pf_3 i1 hpp, a1, b2, b3, pf_6 i1 hpp, pf_7 i1 hpp, f6, f7, p6, p7]
  refine xq_sw 134 (by decide) (by decide) ?_
  with_reducible refine xm_go_blk b_X1_rule_134 k_X1_rule_134 ?_
  refine by_aload_n rfl ?_
  refine by_iload_n rfl ?_
  refine by_aload_n rfl ?_
  refine by_getf cn_46 fl_1_56 (by first | exact rfl | assumption | exact ps_0 hpp) (by decide) ?_
  refine by_iload_n rfl ?_
  simp (disch := first | exact Nat.ne_of_beq_eq_false rfl | omega) only [nI_add, xa_sub, xa_mul, pk_div, nm_mod, xa_shr, xa_and7, xa_and1, xa_and255, xa_by_and, nI_m1, Nat.add_sub_cancel, Nat.reducePow, Nat.zero_add, Nat.add_zero, Nat.reduceAdd, Nat.reduceMul, Nat.reduceSub, xf_same, xq_ff, xq_fo, xf_1, xf_2, xs_1, xs_2, xs_same, xq_so, xj_1, xj_2, xj_same, xq_jo, xq_sa1, xq_same, xq_other, upd_s, oI_n, oI_s, pf_1 i1 hpp, pf_2 i1 hpp, pf_3 i1 hpp, a1, b2, b3, pf_6 i1 hpp, pf_7 i1 hpp, f6, f7, p6, p7]
  first | refine by_iald (by first | exact rfl | assumption | exact ps_1 hpp | exact ps_2 hpp | exact ps_3 hpp | exact ps_4 hpp | exact ps_5 hpp | exact ps_6 hpp | exact ps_7 hpp | exact ps_8 hpp | exact ps_9 hpp | exact ps_10 hpp | exact ps_11 hpp | exact ps_15 hpp | exact ps_16 hpp | exact ps_17 hpp | exact ps_18 hpp | exact ps_19 hpp | exact ps_21 hpp | exact ps_22 hpp | exact ps_23 hpp | exact ps_24 hpp) ⟨by omega, by omega⟩ ?_ | refine by_tald rfl rfl ⟨by omega, by omega⟩ ?_
  refine by_aload_n rfl ?_
  refine by_iconst ci_2 ?_
  refine by_aload_n rfl ?_
  refine by_getf cn_46 fl_1_63 (by first | exact rfl | assumption | exact ps_0 hpp) (by decide) ?_
  refine by_iload_n rfl ?_
  simp (disch := first | exact Nat.ne_of_beq_eq_false rfl | omega) only [nI_add, xa_sub, xa_mul, pk_div, nm_mod, xa_shr, xa_and7, xa_and1, xa_and255, xa_by_and, nI_m1, Nat.add_sub_cancel, Nat.reducePow, Nat.zero_add, Nat.add_zero, Nat.reduceAdd, Nat.reduceMul, Nat.reduceSub, xf_same, xq_ff, xq_fo, xf_1, xf_2, xs_1, xs_2, xs_same, xq_so, xj_1, xj_2, xj_same, xq_jo, xq_sa1, xq_same, xq_other, upd_s, oI_n, oI_s, pf_1 i1 hpp, pf_2 i1 hpp, pf_3 i1 hpp, a1, b2, b3, pf_6 i1 hpp, pf_7 i1 hpp, f6, f7, p6, p7]
  first | refine by_iald (by first | exact rfl | assumption | exact ps_1 hpp | exact ps_2 hpp | exact ps_3 hpp | exact ps_4 hpp | exact ps_5 hpp | exact ps_6 hpp | exact ps_7 hpp | exact ps_8 hpp | exact ps_9 hpp | exact ps_10 hpp | exact ps_11 hpp | exact ps_15 hpp | exact ps_16 hpp | exact ps_17 hpp | exact ps_18 hpp | exact ps_19 hpp | exact ps_21 hpp | exact ps_22 hpp | exact ps_23 hpp | exact ps_24 hpp) ⟨by omega, by omega⟩ ?_ | refine by_tald rfl rfl ⟨by omega, by omega⟩ ?_
  refine by_aload_n rfl ?_
  refine by_getf cn_46 fl_1_63 (by first | exact rfl | assumption | exact ps_0 hpp) (by decide) ?_
  refine by_iload rfl ?_
  simp (disch := first | exact Nat.ne_of_beq_eq_false rfl | omega) only [nI_add, xa_sub, xa_mul, pk_div, nm_mod, xa_shr, xa_and7, xa_and1, xa_and255, xa_by_and, nI_m1, Nat.add_sub_cancel, Nat.reducePow, Nat.zero_add, Nat.add_zero, Nat.reduceAdd, Nat.reduceMul, Nat.reduceSub, xf_same, xq_ff, xq_fo, xf_1, xf_2, xs_1, xs_2, xs_same, xq_so, xj_1, xj_2, xj_same, xq_jo, xq_sa1, xq_same, xq_other, upd_s, oI_n, oI_s, pf_1 i1 hpp, pf_2 i1 hpp, pf_3 i1 hpp, a1, b2, b3, pf_6 i1 hpp, pf_7 i1 hpp, f6, f7, p6, p7]
  first | refine by_iald (by first | exact rfl | assumption | exact ps_1 hpp | exact ps_2 hpp | exact ps_3 hpp | exact ps_4 hpp | exact ps_5 hpp | exact ps_6 hpp | exact ps_7 hpp | exact ps_8 hpp | exact ps_9 hpp | exact ps_10 hpp | exact ps_11 hpp | exact ps_15 hpp | exact ps_16 hpp | exact ps_17 hpp | exact ps_18 hpp | exact ps_19 hpp | exact ps_21 hpp | exact ps_22 hpp | exact ps_23 hpp | exact ps_24 hpp) ⟨by omega, by omega⟩ ?_ | refine by_tald rfl rfl ⟨by omega, by omega⟩ ?_
  simp (disch := first | exact Nat.ne_of_beq_eq_false rfl | omega) only [nI_add, xa_sub, xa_mul, pk_div, nm_mod, xa_shr, xa_and7, xa_and1, xa_and255, xa_by_and, nI_m1, Nat.add_sub_cancel, Nat.reducePow, Nat.zero_add, Nat.add_zero, Nat.reduceAdd, Nat.reduceMul, Nat.reduceSub, xf_same, xq_ff, xq_fo, xf_1, xf_2, xs_1, xs_2, xs_same, xq_so, xj_1, xj_2, xj_same, xq_jo, xq_sa1, xq_same, xq_other, upd_s, oI_n, oI_s, xv_0, xv_1, xv_2, xv_3, xm_p1, xm_p2, List.filter_cons, List.filter_nil, Nat.reduceBEq, Bool.not_true, Bool.not_false, Bool.and_true, Bool.and_false, Bool.false_and, Bool.true_and, if_true, if_false, Bool.false_eq_true, reduceIte, xc_i, xc_j, xc_r, xc_n, List.nil_append, List.cons_append, Option.toList_some, Option.toList_none, pf_1 i1 hpp, pf_2 i1 hpp, pf_3 i1 hpp, a1, b2, b3, pf_6 i1 hpp, pf_7 i1 hpp, f6, f7, p6, p7]
  refine by_inv3 cn_46 lk_1_88 (by rw [xe_cnt]; decide) is_50 np_50 cn_50 (by first | exact rfl | assumption) (Nat.le_of_ble_eq_true rfl) ?_
  refine sp_term (kk := 3) (ll := tgt (fi n)) (rr := tgt (se n)) i1 i4 (by omega) (by decide) rfl (fun _ => ⟨by omega, by omega⟩) ⟨by omega, by omega⟩ (fun h0 g3 g4 => ?_)
  have j0 : XF h0 := Fr_XF i1 g3 rl_fin
  with_reducible refine xm_go_blk b_X1_rule_160 k_X1_rule_160 ?_
  refine by_ins4 cn_46 lk_1_76 (by rw [xe_cnt]; decide) is_47 np_47 (Nat.le_of_ble_eq_true rfl) ?_
  refine rl_set hpp j0 (by omega) ?_
  have hg := gr_set (n := n) (s := nI (src (fi n))) (t := nI c) hpp g4
  have hf := Fr_set (n := n) (s := nI (src (fi n))) (t := nI c) (Fr_gr (pp := pp) g3)
  have j1 : XF (xm_si (xm_si h0 (pp + 6) n (nI (src (fi n)))) (pp + 7) n (nI c)) := Fr_XF i1 hf rl_fin
  have t1 : (xm_si (xm_si h0 (pp + 6) n (nI (src (fi n)))) (pp + 7) n (nI c)).1 (pp + 6) (fi n) = nI (src (fi n)) := by rw [(rl_ss hne).1, (gr_pp hpp g3).1, f6]
  have t2 : (xm_si (xm_si h0 (pp + 6) n (nI (src (fi n)))) (pp + 7) n (nI c)).1 (pp + 6) (se n) = nI (src (se n)) := by rw [(rl_ss hne2).1, (gr_pp hpp g3).1, p6]
  generalize hgen : xm_si (xm_si h0 (pp + 6) n (nI (src (fi n)))) (pp + 7) n (nI c) = h1 at *
  have n6 : h1.1 (pp + 6) n = nI (src (fi n)) ∧ h1.1 (pp + 7) n = nI c := by rw [← hgen]; exact rl_sn
  have o6 : ∀ m, m ≠ n → h1.1 (pp + 6) m = h.1 (pp + 6) m ∧ h1.1 (pp + 7) m = h.1 (pp + 7) m := by rw [← hgen]; exact fun m hm => by rw [(rl_ss hm).1, (rl_ss hm).2, (gr_pp hpp g3).1, (gr_pp hpp g3).2]; exact ⟨rfl, rfl⟩
  with_reducible refine xm_go_blk b_X1_rule_163 k_X1_rule_163 ?_
  refine by_aload_n rfl ?_
  refine by_aload_n rfl ?_
  refine by_getf cn_46 fl_1_56 (by first | exact rfl | assumption | exact ps_0 hpp) (by decide) ?_
  refine by_iload_n rfl ?_
  simp (disch := first | exact Nat.ne_of_beq_eq_false rfl | omega) only [nI_add, xa_sub, xa_mul, pk_div, nm_mod, xa_shr, xa_and7, xa_and1, xa_and255, xa_by_and, nI_m1, Nat.add_sub_cancel, Nat.reducePow, Nat.zero_add, Nat.add_zero, Nat.reduceAdd, Nat.reduceMul, Nat.reduceSub, xf_same, xq_ff, xq_fo, xf_1, xf_2, xs_1, xs_2, xs_same, xq_so, xj_1, xj_2, xj_same, xq_jo, xq_sa1, xq_same, xq_other, upd_s, oI_n, oI_s, pf_6 j1 hpp, pf_7 j1 hpp, t1, t2]
  first | refine by_iald (by first | exact rfl | assumption | exact ps_1 hpp | exact ps_2 hpp | exact ps_3 hpp | exact ps_4 hpp | exact ps_5 hpp | exact ps_6 hpp | exact ps_7 hpp | exact ps_8 hpp | exact ps_9 hpp | exact ps_10 hpp | exact ps_11 hpp | exact ps_15 hpp | exact ps_16 hpp | exact ps_17 hpp | exact ps_18 hpp | exact ps_19 hpp | exact ps_21 hpp | exact ps_22 hpp | exact ps_23 hpp | exact ps_24 hpp) ⟨by omega, by omega⟩ ?_ | refine by_tald rfl rfl ⟨by omega, by omega⟩ ?_
  refine by_aload_n rfl ?_
  refine by_getf cn_46 fl_1_56 (by first | exact rfl | assumption | exact ps_0 hpp) (by decide) ?_
  refine by_iload rfl ?_
  simp (disch := first | exact Nat.ne_of_beq_eq_false rfl | omega) only [nI_add, xa_sub, xa_mul, pk_div, nm_mod, xa_shr, xa_and7, xa_and1, xa_and255, xa_by_and, nI_m1, Nat.add_sub_cancel, Nat.reducePow, Nat.zero_add, Nat.add_zero, Nat.reduceAdd, Nat.reduceMul, Nat.reduceSub, xf_same, xq_ff, xq_fo, xf_1, xf_2, xs_1, xs_2, xs_same, xq_so, xj_1, xj_2, xj_same, xq_jo, xq_sa1, xq_same, xq_other, upd_s, oI_n, oI_s, pf_6 j1 hpp, pf_7 j1 hpp, t1, t2]
  first | refine by_iald (by first | exact rfl | assumption | exact ps_1 hpp | exact ps_2 hpp | exact ps_3 hpp | exact ps_4 hpp | exact ps_5 hpp | exact ps_6 hpp | exact ps_7 hpp | exact ps_8 hpp | exact ps_9 hpp | exact ps_10 hpp | exact ps_11 hpp | exact ps_15 hpp | exact ps_16 hpp | exact ps_17 hpp | exact ps_18 hpp | exact ps_19 hpp | exact ps_21 hpp | exact ps_22 hpp | exact ps_23 hpp | exact ps_24 hpp) ⟨by omega, by omega⟩ ?_ | refine by_tald rfl rfl ⟨by omega, by omega⟩ ?_
  simp (disch := first | exact Nat.ne_of_beq_eq_false rfl | omega) only [nI_add, xa_sub, xa_mul, pk_div, nm_mod, xa_shr, xa_and7, xa_and1, xa_and255, xa_by_and, nI_m1, Nat.add_sub_cancel, Nat.reducePow, Nat.zero_add, Nat.add_zero, Nat.reduceAdd, Nat.reduceMul, Nat.reduceSub, xf_same, xq_ff, xq_fo, xf_1, xf_2, xs_1, xs_2, xs_same, xq_so, xj_1, xj_2, xj_same, xq_jo, xq_sa1, xq_same, xq_other, upd_s, oI_n, oI_s, xv_0, xv_1, xv_2, xv_3, xm_p1, xm_p2, List.filter_cons, List.filter_nil, Nat.reduceBEq, Bool.not_true, Bool.not_false, Bool.and_true, Bool.and_false, Bool.false_and, Bool.true_and, if_true, if_false, Bool.false_eq_true, reduceIte, xc_i, xc_j, xc_r, xc_n, List.nil_append, List.cons_append, Option.toList_some, Option.toList_none, pf_6 j1 hpp, pf_7 j1 hpp, t1, t2]
  refine by_inv2 cn_46 lk_1_80 (by rw [xe_cnt]; decide) is_51 np_51 cn_51 (by first | exact rfl | assumption) (Nat.le_of_ble_eq_true rfl) ?_
  refine sp_uniG j1 hg (by omega) (by omega) (by omega) (fun h2 rt' g1 g2 => ?_) (fun h2 g1 hbad => ?_)
  · with_reducible refine xm_go_blk b_X1_rule_180 k_X1_rule_180 ?_
    refine by_iret ry_46 (by first | rfl | assumption) ?_
    have q6 : h2.1 (pp + 6) = h1.1 (pp + 6) := g1.1 _ (by simp <;> omega)
    have q7 : h2.1 (pp + 7) = h1.1 (pp + 7) := g1.1 _ (by simp <;> omega)
    have hf2 : Fr (rlR pp) grT h h2 := Fr_tr hf g1 (by simp [rlR]) (by simp [grT])
    refine hP.1 _ _ _ _ _ _ _ _ _ hf2 (tsI_new (s := src (fi n)) (t := c) hI hn hnL hl hf2 g2 ?_ updN_tx (by omega) (fun _ => by rw [q6, q7]; exact n6) (fun m hm => by rw [q6, q7]; exact o6 m hm))
    refine tyS_add i5 updN_tx (fun t h1 h2 => ?_) (fun q hq => ?_) (fun q hq => List.mem_cons_of_mem _ hq) hnL hch (fun _ => ⟨by omega, by omega⟩) (fun f hf => ?_) hsol
    · have : t = c := by omega
      subst this
      rw [updN_s, updN_s, updN_s]; exact ⟨by decide, fun _ => ⟨by omega, by omega⟩⟩
    · rcases List.mem_cons.mp hq with rfl | hq
      · exact Or.inr ⟨by show src (fi n) < c + 1; omega, by show src (se n) < c + 1; omega⟩
      · exact Or.inl hq
    · refine ⟨fun e => ?_, fun e => ?_, fun e => ?_, fun e => ?_, fun e => ?_, fun e => ?_, fun e => ?_, fun e => ?_, fun e => ?_, fun e => ?_⟩ <;> first | (exfalso; omega) | skip
      simp only [updN_s, updN_o hne, updN_o hne2]
      exact ⟨trivial, by omega, trivial, trivial, trivial, (ty_pd_cons.mp hf).1⟩
  · with_reducible refine xm_go_blk b_X1_rule_180 k_X1_rule_180 ?_
    refine by_iret ry_46 (by first | rfl | assumption) ?_
    refine hP.2 _ (Fr_tr hf g1 (by simp [rlR]) (by simp [grT])) (fx_fn (fnA_fr hg.2.1 g1 (by simp) (by simp) (by simp)) (tx_tr i11.2 updN_tx)) (fun S T hso => ?_)
    obtain ⟨V, v1, v2, v3, v4⟩ := i5.2.2.2.2 S T ⟨hso.1, hso.2.1, fun m hm => hso.2.2 m (List.mem_append_left _ hm)⟩
    obtain ⟨V', w1, w2, w3, w4, w5⟩ := hsol S T V hso.1 hso.2.1 (hso.2.2 n (List.mem_append_right _ (by simp))) v1 v2 v3 v4
    exact hbad V' w1 (tx_all updN_tx i5.1 v2 w2 w3) w4
theorem rl_12 (hI : tsI h pp N cd fi se nu L c k l r rt es src tgt) (hn : n < N) (hnL : n ∉ L) (hl : L.length < 2000) (hch : ∀ m ∈ L, (cd m ≤ 6 → fi m ≠ n) ∧ (cd m ≤ 2 → se m ≠ n)) (hc : cd n = 12) (hP : rlP pp N n cd fi se nu L h post) : xm_T (XE sc) (d + 4) 46 [.ref 15, .ref pp, .int (nI n)] h post := by
  have hI0 := hI
  obtain ⟨i1, hpp, i3, i4, i5, i6, i7, i8, i9, i10, i11⟩ := hI0
  obtain ⟨a1, a2, a3, a4, a5, a6, a7⟩ := i3 n hn
  have b2 := a4 (by omega)
  have b3 := a6 (by omega)
  obtain ⟨b4, b5⟩ := a7 hc
  have hk : nu n / 4 < 42 := by omega
  have hm : nu n % 4 < 4 := Nat.mod_lt _ (by decide)
  obtain ⟨c1, c2⟩ := jS_tab _ hk
  obtain ⟨c3, c4⟩ := jT_tab _ hk
  have d1 := i10 _ _ c2 hm
  have d2 := i10 _ _ c4 hm
  have l1 := shT_lt c2 hm
  have l2 := shT_lt c4 hm
  refine xq_in rfl ?_
  simp only [xq_a0, xq_aI, xq_aJ, xq_aR, Nat.reduceAdd]
  rw [hc] at a1
  with_reducible refine xm_go_blk b_X1_rule_0 k_X1_rule_0 ?_
  refine by_aload_n rfl ?_
  refine by_getf cn_46 fl_1_70 (by first | exact rfl | assumption | exact ps_0 hpp) (by decide) ?_
  refine by_iload_n rfl ?_
  simp (disch := first | exact Nat.ne_of_beq_eq_false rfl | omega) only [nI_add, xa_sub, xa_mul, pk_div, nm_mod, xa_shr, xa_and7, xa_and1, xa_and255, xa_by_and, nI_m1, Nat.add_sub_cancel, Nat.reducePow, Nat.zero_add, Nat.add_zero, Nat.reduceAdd, Nat.reduceMul, Nat.reduceSub, xf_same, xq_ff, xq_fo, xf_1, xf_2, xs_1, xs_2, xs_same, xq_so, xj_1, xj_2, xj_same, xq_jo, xq_sa1, xq_same, xq_other, upd_s, oI_n, oI_s, pf_1 i1 hpp, pf_2 i1 hpp, pf_3 i1 hpp, pf_4 i1 hpp, a1, b2, b3, b4, and3, c1]
  first | refine by_iald (by first | exact rfl | assumption | exact ps_1 hpp | exact ps_2 hpp | exact ps_3 hpp | exact ps_4 hpp | exact ps_5 hpp | exact ps_6 hpp | exact ps_7 hpp | exact ps_8 hpp | exact ps_9 hpp | exact ps_10 hpp | exact ps_11 hpp | exact ps_15 hpp | exact ps_16 hpp | exact ps_17 hpp | exact ps_18 hpp | exact ps_19 hpp | exact ps_21 hpp | exact ps_22 hpp | exact ps_23 hpp | exact ps_24 hpp) ⟨by omega, by omega⟩ ?_ | refine by_tald rfl rfl ⟨by omega, by omega⟩ ?_
  refine by_istore_n (by rw [ml_46]; decide) ?_
  refine by_aload_n rfl ?_
  refine by_getf cn_46 fl_1_73 (by first | exact rfl | assumption | exact ps_0 hpp) (by decide) ?_
  refine by_iload_n rfl ?_
  simp (disch := first | exact Nat.ne_of_beq_eq_false rfl | omega) only [nI_add, xa_sub, xa_mul, pk_div, nm_mod, xa_shr, xa_and7, xa_and1, xa_and255, xa_by_and, nI_m1, Nat.add_sub_cancel, Nat.reducePow, Nat.zero_add, Nat.add_zero, Nat.reduceAdd, Nat.reduceMul, Nat.reduceSub, xf_same, xq_ff, xq_fo, xf_1, xf_2, xs_1, xs_2, xs_same, xq_so, xj_1, xj_2, xj_same, xq_jo, xq_sa1, xq_same, xq_other, upd_s, oI_n, oI_s, pf_1 i1 hpp, pf_2 i1 hpp, pf_3 i1 hpp, pf_4 i1 hpp, a1, b2, b3, b4, and3, c1]
  first | refine by_iald (by first | exact rfl | assumption | exact ps_1 hpp | exact ps_2 hpp | exact ps_3 hpp | exact ps_4 hpp | exact ps_5 hpp | exact ps_6 hpp | exact ps_7 hpp | exact ps_8 hpp | exact ps_9 hpp | exact ps_10 hpp | exact ps_11 hpp | exact ps_15 hpp | exact ps_16 hpp | exact ps_17 hpp | exact ps_18 hpp | exact ps_19 hpp | exact ps_21 hpp | exact ps_22 hpp | exact ps_23 hpp | exact ps_24 hpp) ⟨by omega, by omega⟩ ?_ | refine by_tald rfl rfl ⟨by omega, by omega⟩ ?_
  refine by_istore (by rw [ml_46]; decide) ?_
  refine by_aload_n rfl ?_
  refine by_getf cn_46 fl_1_53 (by first | exact rfl | assumption | exact ps_0 hpp) (by decide) ?_
  refine by_iload_n rfl ?_
  simp (disch := first | exact Nat.ne_of_beq_eq_false rfl | omega) only [nI_add, xa_sub, xa_mul, pk_div, nm_mod, xa_shr, xa_and7, xa_and1, xa_and255, xa_by_and, nI_m1, Nat.add_sub_cancel, Nat.reducePow, Nat.zero_add, Nat.add_zero, Nat.reduceAdd, Nat.reduceMul, Nat.reduceSub, xf_same, xq_ff, xq_fo, xf_1, xf_2, xs_1, xs_2, xs_same, xq_so, xj_1, xj_2, xj_same, xq_jo, xq_sa1, xq_same, xq_other, upd_s, oI_n, oI_s, pf_1 i1 hpp, pf_2 i1 hpp, pf_3 i1 hpp, pf_4 i1 hpp, a1, b2, b3, b4, and3, c1]
  first | refine by_iald (by first | exact rfl | assumption | exact ps_1 hpp | exact ps_2 hpp | exact ps_3 hpp | exact ps_4 hpp | exact ps_5 hpp | exact ps_6 hpp | exact ps_7 hpp | exact ps_8 hpp | exact ps_9 hpp | exact ps_10 hpp | exact ps_11 hpp | exact ps_15 hpp | exact ps_16 hpp | exact ps_17 hpp | exact ps_18 hpp | exact ps_19 hpp | exact ps_21 hpp | exact ps_22 hpp | exact ps_23 hpp | exact ps_24 hpp) ⟨by omega, by omega⟩ ?_ | refine by_tald rfl rfl ⟨by omega, by omega⟩ ?_
  simp (disch := first | exact Nat.ne_of_beq_eq_false rfl | omega) only [nI_add, xa_sub, xa_mul, pk_div, nm_mod, xa_shr, xa_and7, xa_and1, xa_and255, xa_by_and, nI_m1, Nat.add_sub_cancel, Nat.reducePow, Nat.zero_add, Nat.add_zero, Nat.reduceAdd, Nat.reduceMul, Nat.reduceSub, xf_same, xq_ff, xq_fo, xf_1, xf_2, xs_1, xs_2, xs_same, xq_so, xj_1, xj_2, xj_same, xq_jo, xq_sa1, xq_same, xq_other, upd_s, oI_n, oI_s, pf_1 i1 hpp, pf_2 i1 hpp, pf_3 i1 hpp, pf_4 i1 hpp, a1, b2, b3, b4, and3, c1]
  refine by_sw ?_
  simp (disch := first | exact Nat.ne_of_beq_eq_false rfl | omega) only [nI_add, xa_sub, xa_mul, pk_div, nm_mod, xa_shr, xa_and7, xa_and1, xa_and255, xa_by_and, nI_m1, Nat.add_sub_cancel, Nat.reducePow, Nat.zero_add, Nat.add_zero, Nat.reduceAdd, Nat.reduceMul, Nat.reduceSub, xf_same, xq_ff, xq_fo, xf_1, xf_2, xs_1, xs_2, xs_same, xq_so, xj_1, xj_2, xj_same, xq_jo, xq_sa1, xq_same, xq_other, upd_s, oI_n, oI_s, xv_0, xv_1, xv_2, xv_3, xm_p1, xm_p2, List.filter_cons, List.filter_nil, Nat.reduceBEq, Bool.not_true, Bool.not_false, Bool.and_true, Bool.and_false, Bool.false_and, Bool.true_and, if_true, if_false, Bool.false_eq_true, reduceIte, xc_i, xc_j, xc_r, xc_n, List.nil_append, List.cons_append, Option.toList_some, Option.toList_none, pf_1 i1 hpp, pf_2 i1 hpp, pf_3 i1 hpp, pf_4 i1 hpp, a1, b2, b3, b4, and3, c1]
  refine xq_sw 322 (by decide) (by decide) ?_
  with_reducible refine xm_go_blk b_X1_rule_322 k_X1_rule_322 ?_
  refine by_aload_n rfl ?_
  refine by_getf cn_46 fl_1_96 (by first | exact rfl | assumption | exact ps_0 hpp) (by decide) ?_
  refine by_iload_n rfl ?_
  simp (disch := first | exact Nat.ne_of_beq_eq_false rfl | omega) only [nI_add, xa_sub, xa_mul, pk_div, nm_mod, xa_shr, xa_and7, xa_and1, xa_and255, xa_by_and, nI_m1, Nat.add_sub_cancel, Nat.reducePow, Nat.zero_add, Nat.add_zero, Nat.reduceAdd, Nat.reduceMul, Nat.reduceSub, xf_same, xq_ff, xq_fo, xf_1, xf_2, xs_1, xs_2, xs_same, xq_so, xj_1, xj_2, xj_same, xq_jo, xq_sa1, xq_same, xq_other, upd_s, oI_n, oI_s, pf_1 i1 hpp, pf_2 i1 hpp, pf_3 i1 hpp, pf_4 i1 hpp, a1, b2, b3, b4, and3, c1]
  first | refine by_iald (by first | exact rfl | assumption | exact ps_1 hpp | exact ps_2 hpp | exact ps_3 hpp | exact ps_4 hpp | exact ps_5 hpp | exact ps_6 hpp | exact ps_7 hpp | exact ps_8 hpp | exact ps_9 hpp | exact ps_10 hpp | exact ps_11 hpp | exact ps_15 hpp | exact ps_16 hpp | exact ps_17 hpp | exact ps_18 hpp | exact ps_19 hpp | exact ps_21 hpp | exact ps_22 hpp | exact ps_23 hpp | exact ps_24 hpp) ⟨by omega, by omega⟩ ?_ | refine by_tald rfl rfl ⟨by omega, by omega⟩ ?_
  refine by_iconst ci_2 ?_
  refine by_ishr ?_
  refine by_istore (by rw [ml_46]; decide) ?_
  refine by_aload_n rfl ?_
  refine by_getf cn_46 fl_1_96 (by first | exact rfl | assumption | exact ps_0 hpp) (by decide) ?_
  refine by_iload_n rfl ?_
  simp (disch := first | exact Nat.ne_of_beq_eq_false rfl | omega) only [nI_add, xa_sub, xa_mul, pk_div, nm_mod, xa_shr, xa_and7, xa_and1, xa_and255, xa_by_and, nI_m1, Nat.add_sub_cancel, Nat.reducePow, Nat.zero_add, Nat.add_zero, Nat.reduceAdd, Nat.reduceMul, Nat.reduceSub, xf_same, xq_ff, xq_fo, xf_1, xf_2, xs_1, xs_2, xs_same, xq_so, xj_1, xj_2, xj_same, xq_jo, xq_sa1, xq_same, xq_other, upd_s, oI_n, oI_s, pf_1 i1 hpp, pf_2 i1 hpp, pf_3 i1 hpp, pf_4 i1 hpp, a1, b2, b3, b4, and3, c1]
  first | refine by_iald (by first | exact rfl | assumption | exact ps_1 hpp | exact ps_2 hpp | exact ps_3 hpp | exact ps_4 hpp | exact ps_5 hpp | exact ps_6 hpp | exact ps_7 hpp | exact ps_8 hpp | exact ps_9 hpp | exact ps_10 hpp | exact ps_11 hpp | exact ps_15 hpp | exact ps_16 hpp | exact ps_17 hpp | exact ps_18 hpp | exact ps_19 hpp | exact ps_21 hpp | exact ps_22 hpp | exact ps_23 hpp | exact ps_24 hpp) ⟨by omega, by omega⟩ ?_ | refine by_tald rfl rfl ⟨by omega, by omega⟩ ?_
  refine by_iconst ci_3 ?_
  refine by_iand ?_
  refine by_istore (by rw [ml_46]; decide) ?_
  refine by_aload_n rfl ?_
  refine by_iload_n rfl ?_
  refine by_gets cn_46 gs_1_99 ?_
  refine by_iload rfl ?_
  simp (disch := first | exact Nat.ne_of_beq_eq_false rfl | omega) only [nI_add, xa_sub, xa_mul, pk_div, nm_mod, xa_shr, xa_and7, xa_and1, xa_and255, xa_by_and, nI_m1, Nat.add_sub_cancel, Nat.reducePow, Nat.zero_add, Nat.add_zero, Nat.reduceAdd, Nat.reduceMul, Nat.reduceSub, xf_same, xq_ff, xq_fo, xf_1, xf_2, xs_1, xs_2, xs_same, xq_so, xj_1, xj_2, xj_same, xq_jo, xq_sa1, xq_same, xq_other, upd_s, oI_n, oI_s, pf_1 i1 hpp, pf_2 i1 hpp, pf_3 i1 hpp, pf_4 i1 hpp, a1, b2, b3, b4, and3, c1]
  first | refine by_iald (by first | exact rfl | assumption | exact ps_1 hpp | exact ps_2 hpp | exact ps_3 hpp | exact ps_4 hpp | exact ps_5 hpp | exact ps_6 hpp | exact ps_7 hpp | exact ps_8 hpp | exact ps_9 hpp | exact ps_10 hpp | exact ps_11 hpp | exact ps_15 hpp | exact ps_16 hpp | exact ps_17 hpp | exact ps_18 hpp | exact ps_19 hpp | exact ps_21 hpp | exact ps_22 hpp | exact ps_23 hpp | exact ps_24 hpp) ⟨by omega, by omega⟩ ?_ | refine by_tald rfl rfl ⟨by omega, by omega⟩ ?_
  refine by_iload rfl ?_
  simp (disch := first | exact Nat.ne_of_beq_eq_false rfl | omega) only [nI_add, xa_sub, xa_mul, pk_div, nm_mod, xa_shr, xa_and7, xa_and1, xa_and255, xa_by_and, nI_m1, Nat.add_sub_cancel, Nat.reducePow, Nat.zero_add, Nat.add_zero, Nat.reduceAdd, Nat.reduceMul, Nat.reduceSub, xf_same, xq_ff, xq_fo, xf_1, xf_2, xs_1, xs_2, xs_same, xq_so, xj_1, xj_2, xj_same, xq_jo, xq_sa1, xq_same, xq_other, upd_s, oI_n, oI_s, xv_0, xv_1, xv_2, xv_3, xm_p1, xm_p2, List.filter_cons, List.filter_nil, Nat.reduceBEq, Bool.not_true, Bool.not_false, Bool.and_true, Bool.and_false, Bool.false_and, Bool.true_and, if_true, if_false, Bool.false_eq_true, reduceIte, xc_i, xc_j, xc_r, xc_n, List.nil_append, List.cons_append, Option.toList_some, Option.toList_none, pf_1 i1 hpp, pf_2 i1 hpp, pf_3 i1 hpp, pf_4 i1 hpp, a1, b2, b3, b4, and3, c1]
  refine by_ins2 cn_46 lk_1_104 (by rw [xe_cnt]; decide) is_48 np_48 (Nat.le_of_ble_eq_true rfl) ?_
  refine sp_shape c2 hm ?_
  with_reducible refine xm_go_blk b_X1_rule_355 k_X1_rule_355 ?_
  refine by_gets cn_46 gs_1_108 ?_
  refine by_iload rfl ?_
  first | refine by_iald (by first | exact rfl | assumption | exact ps_1 hpp | exact ps_2 hpp | exact ps_3 hpp | exact ps_4 hpp | exact ps_5 hpp | exact ps_6 hpp | exact ps_7 hpp | exact ps_8 hpp | exact ps_9 hpp | exact ps_10 hpp | exact ps_11 hpp | exact ps_15 hpp | exact ps_16 hpp | exact ps_17 hpp | exact ps_18 hpp | exact ps_19 hpp | exact ps_21 hpp | exact ps_22 hpp | exact ps_23 hpp | exact ps_24 hpp) ⟨by omega, by omega⟩ ?_ | refine by_tald rfl rfl ⟨by omega, by omega⟩ ?_
  refine by_iload rfl ?_
  simp (disch := first | exact Nat.ne_of_beq_eq_false rfl | omega) only [nI_add, xa_sub, xa_mul, pk_div, nm_mod, xa_shr, xa_and7, xa_and1, xa_and255, xa_by_and, nI_m1, Nat.add_sub_cancel, Nat.reducePow, Nat.zero_add, Nat.add_zero, Nat.reduceAdd, Nat.reduceMul, Nat.reduceSub, xf_same, xq_ff, xq_fo, xf_1, xf_2, xs_1, xs_2, xs_same, xq_so, xj_1, xj_2, xj_same, xq_jo, xq_sa1, xq_same, xq_other, upd_s, oI_n, oI_s, xv_0, xv_1, xv_2, xv_3, xm_p1, xm_p2, List.filter_cons, List.filter_nil, Nat.reduceBEq, Bool.not_true, Bool.not_false, Bool.and_true, Bool.and_false, Bool.false_and, Bool.true_and, if_true, if_false, Bool.false_eq_true, reduceIte, xc_i, xc_j, xc_r, xc_n, List.nil_append, List.cons_append, Option.toList_some, Option.toList_none, c3]
  refine by_ins2 cn_46 lk_1_104 (by rw [xe_cnt]; decide) is_48 np_48 (Nat.le_of_ble_eq_true rfl) ?_
  refine sp_shape c4 hm ?_
  with_reducible refine xm_go_blk b_X1_rule_366 k_X1_rule_366 ?_
  refine by_ins4 cn_46 lk_1_76 (by rw [xe_cnt]; decide) is_47 np_47 (Nat.le_of_ble_eq_true rfl) ?_
  refine rl_set hpp i1 (by omega) ?_
  with_reducible refine xm_go_blk b_X1_rule_369 k_X1_rule_369 ?_
  refine by_iconst ci_1 ?_
  refine by_iret ry_46 (by first | rfl | assumption) ?_
  have hf := Fr_set (n := n) (s := nI (shT (jt_S (nu n / 4)) (nu n % 4))) (t := nI (shT (jt_T (nu n / 4)) (nu n % 4))) (Fr_rf (S := rlR pp) (T := grT) (h := h))
  refine hP.1 _ _ _ _ _ _ _ _ _ hf (tsI_new (s := shT (jt_S (nu n / 4)) (nu n % 4)) (t := shT (jt_T (nu n / 4)) (nu n % 4)) hI hn hnL hl hf (gr_set hpp i4) ?_ tx_rf (by omega) (fun _ => rl_sn) (fun m hm => rl_ss hm))
  refine tyS_add i5 tx_rf (fun t h1 h2 => absurd h1 (by omega)) (fun q hq => Or.inl hq) (fun q hq => hq) hnL hch (fun _ => ⟨by omega, by omega⟩) (fun f hf => ?_) (fun S T V hs ht hr v1 v2 v3 v4 => ⟨V, v1, fun _ _ => rfl, fun t h1 h2 => absurd h1 (by omega), v3, fun _ => ?_⟩)
  · refine ⟨fun e => ?_, fun e => ?_, fun e => ?_, fun e => ?_, fun e => ?_, fun e => ?_, fun e => ?_, fun e => ?_, fun e => ?_, fun e => ?_⟩ <;> first | (exfalso; omega) | skip
    rw [updN_s, updN_s]
    exact ⟨d1, d2⟩
  · obtain ⟨r1, r2⟩ := hr.2.2.2.2.2.2.2.2.2 hc
    rw [r1, r2]
    exact ⟨ty_den_V v2 _ _ (ty_shp_ok _ _) d1, ty_den_V v2 _ _ (ty_shp_ok _ _) d2⟩
end RUL
