/-! ===== say: the reference's speech ===== -/
abbrev ssR : List Nat := [105, 106, 107, 108, 109, 110, 111, 112, 113, 114, 115, 116, 129, 130, 131, 132, 133, 134, 135, 136, 138, 139, 140, 141, 142, 143, 144, 145, 147, 157, 158, 159, 160, 161, 162]
abbrev ssT : List (Nat × Nat) := [(102, 5), (102, 14), (102, 36), (102, 40), (102, 50), (102, 81), (102, 82), (102, 83), (102, 84), (102, 85), (102, 88), (102, 92)]
section SY
variable {sc : xm_Sc} {d cn n : Nat} {t w L L2 bl : List Nat} {NL : List (List Nat × Nat)} {G : sG} {S T tr : Nat → Ty} {K Lf R : Nat → Nat} {h h' : xm_H} {post : xm_Po}
theorem mG0_f2 {S : List Nat} {T : List (Nat × Nat)} (hg : mG0 h G) (hf : Fr S T h h') (q : [105, 106, 107, 108, 109, 110].all (fun c => !(S.contains c)) = true) : mG0 h' G := by
  have r : ∀ c, c ∈ [105, 106, 107, 108, 109, 110] → c ∉ S := fun c hc z => by
    have := List.all_eq_true.mp q c hc
    simp [z] at this
  intro m hm
  rw [hf.1 _ (r 105 (by simp)), hf.1 _ (r 106 (by simp)), hf.1 _ (r 107 (by simp)), hf.1 _ (r 108 (by simp)), hf.1 _ (r 109 (by simp)), hf.1 _ (r 110 (by simp))]
  exact hg m hm
theorem mG0_ch (hI : sInv t (NL ++ [(w, n)]) G []) (hM : mG0 h G) : chM h (sCt G) (sCd G) (sC1 G) (sC2 G) := by
  obtain ⟨_, _, _, _, i5, i6, _⟩ := sI_all hI
  intro m hm
  obtain ⟨a1, a2, a3, _⟩ := hM m hm
  obtain ⟨o1, o2⟩ := i5 m hm
  refine ⟨a1, (i6 m hm).1.1, fun _ => a2, fun z => ?_, fun _ => a3, fun z => ?_⟩
  · cases e : sC1 G m with
    | none => rfl
    | some x => exact absurd (o1.mpr (by rw [e]; rfl)) (by omega)
  · cases e : sC2 G m with
    | none => rfl
    | some x => exact absurd (o2.mpr (by rw [e]; rfl)) (by omega)
theorem mG0_R (hI : sInv t (NL ++ [(w, n)]) G []) (hM : mG0 h G) : ndR h (sCt G) (sCd G) (fiO (sC1 G)) (fiO (sC2 G)) (sNu G) := by
  obtain ⟨_, _, i3, _, i5, i6, _⟩ := sI_all hI
  intro m hm
  obtain ⟨a1, a2, a3, a4, _⟩ := hM m hm
  obtain ⟨o1, o2⟩ := i5 m hm
  refine ⟨a1, (i6 m hm).1.1, fun z => ?_, fun z => ?_, fun e => ⟨a4, (i6 m hm).1.2.1 e⟩⟩
  · obtain ⟨x, hx⟩ := Option.isSome_iff_exists.mp (o1.mp z)
    unfold fiO
    rw [a2, hx]
    exact ⟨rfl, i3 m hm x (Or.inl hx)⟩
  · obtain ⟨x, hx⟩ := Option.isSome_iff_exists.mp (o2.mp z)
    unfold fiO
    rw [a3, hx]
    exact ⟨rfl, i3 m hm x (Or.inr hx)⟩
theorem msG_G (hI : sInv t (NL ++ [(w, n)]) G []) (hM : mG0 h G) (hT : mtT h cn tr K Lf R) (hcn : cn ≤ 17211) (hY : tyM h (sCd G) L S T cn tr) (hL : ∀ x ∈ L, x < sCt G) {tw : Nat → Nat} {a b : Nat} (ha : a ∈ L) (hb : b ∈ L) : msG h (sCd G) (sC1 G) (sC2 G) tw a b ↔ smG G S T tw a b := by
  obtain ⟨_, _, _, _, _, i6, _⟩ := sI_all hI
  obtain ⟨x1, x2, x3, x4, x5, x11⟩ := hM a (hL a ha)
  obtain ⟨y1, y2, y3, y4, y5, y11⟩ := hM b (hL b hb)
  obtain ⟨_, ua, za⟩ := i6 a (hL a ha)
  obtain ⟨_, ub, zb⟩ := i6 b (hL b hb)
  have inj : ∀ {i j : Nat}, 3200 ≤ i → i < cn → 3200 ≤ j → j < cn → (nI i = nI j ↔ tr i = tr j) := fun {i j} h1 hi h2 hj => ⟨fun z => by rw [(nI_eq (by omega) (by omega)).mp z], fun z => by rw [hT.2.2.2.1 i j h1 hi h2 hj z]⟩
  unfold msG smG
  constructor
  · rintro ⟨h1, h2, h3, h4⟩
    refine ⟨h1, h2, fun e k hk => ?_, fun e => ?_⟩
    · have := h3 e k hk
      rw [x11 e k hk, y11 (h1.symm.trans e) k hk] at this
      exact this
    · obtain ⟨m1, m2, m3, m4, m5⟩ := h4 e
      obtain ⟨i, j, i0, i1, i0', i2, i3, i4, i5, i6⟩ := hY a ha e
      obtain ⟨i', j', j0, j1, j0', j2, j3, j4, j5, j6⟩ := hY b hb (fun z => e (h1.trans z))
      rw [i3, j3, inj i0 i1 j0 j1, i4, j4] at m4
      rw [i5, j5, inj i0' i2 j0' j2, i6, j6] at m5
      refine ⟨m1, m2, ?_, m4, m5⟩
      have ua := ua h2
      have ub := ub (fun z => h2 (h1.trans z))
      by_cases q : sCd G a = 12
      · have := m3 q
        rw [x4, y4] at this
        exact (nI_eq (by omega) (by omega)).mp this
      · rw [za h2 q, zb (fun z => h2 (h1.trans z)) (fun z => q (h1.trans z))]
  · rintro ⟨h1, h2, h3, h4⟩
    refine ⟨h1, h2, fun e k hk => ?_, fun e => ?_⟩
    · rw [x11 e k hk, y11 (h1.symm.trans e) k hk]
      exact h3 e k hk
    · obtain ⟨m1, m2, m3, m4, m5⟩ := h4 e
      obtain ⟨i, j, i0, i1, i0', i2, i3, i4, i5, i6⟩ := hY a ha e
      obtain ⟨i', j', j0, j1, j0', j2, j3, j4, j5, j6⟩ := hY b hb (fun z => e (h1.trans z))
      rw [x4, y4, i3, j3, i5, j5, m3, inj i0 i1 j0 j1, inj i0' i2 j0' j2, i4, j4, i6, j6]
      exact ⟨m1, m2, fun _ => rfl, m4, m5⟩
/-- behind the second walk -/
theorem ss_63 {c1 c2 : Nat → Option Nat} {N : Nat} (hX : mW h t G L2 T cn tr K Lf R) (hc : chM h N (sCd G) c1 c2) (hN : N ≤ 2000) (hLN : ∀ m ∈ L2, m < N) (hnd : L2.Nodup) (hcl : df_cl c1 c2 L2) (hcn : cn ≤ 17211) (hl1 : 1 ≤ L2.length) (hl2 : L2.length ≤ 2000) (hG : ∀ n ∈ L2, sNo t G n)
    (hp : ∀ h' a bl, SyW t G c1 c2 T L2 a bl → Fr [115, 116, 145, 147, 161, 162] [(102, 92)] h h' → (a = 0 → mkB h' bl ∧ bl.length ≤ 65536) → a ≤ 11 → post (some (.int (nI a))) h') :
    xm_go (XE sc) (xm_T (XE sc) (d + 5)) 297 post 63 [(0, .ref 102)] [] h := by
  have y3 := hX.2.2.1
  by_cases e4 : 400 < L2.length
  · with_reducible refine xm_go_blk b_X12_speech_63 k_X12_speech_63 ?_
    refine by_aload_n rfl ?_
    refine by_getf cn_297 fl_12_226 (by first | exact rfl | assumption) (by decide) ?_
    refine by_sipush cs_400 ?_
    simp (disch := first | exact Nat.ne_of_beq_eq_false rfl | exact rfl | omega) only [nI_add, xa_sub, xa_mul, pk_div, nm_mod, xa_shr, xa_and7, xa_and1, xa_and255, xa_by_and, nI_m1, Nat.add_sub_cancel, Nat.reducePow, Nat.zero_add, Nat.add_zero, Nat.reduceAdd, Nat.reduceMul, Nat.reduceSub, xf_same, xq_ff, xq_fo, xf_1, xf_2, xs_1, xs_2, xs_same, xq_so, xj_1, xj_2, xj_same, xq_jo, xq_sa1, xq_same, xq_other, upd_s, oI_n, oI_s, y3]
    refine by_ic_le 75 rfl ?_
    simp (disch := first | exact Nat.ne_of_beq_eq_false rfl | exact rfl | omega) only [nI_add, xa_sub, xa_mul, pk_div, nm_mod, xa_shr, xa_and7, xa_and1, xa_and255, xa_by_and, nI_m1, Nat.add_sub_cancel, Nat.reducePow, Nat.zero_add, Nat.add_zero, Nat.reduceAdd, Nat.reduceMul, Nat.reduceSub, xf_same, xq_ff, xq_fo, xf_1, xf_2, xs_1, xs_2, xs_same, xq_so, xj_1, xj_2, xj_same, xq_jo, xq_sa1, xq_same, xq_other, upd_s, oI_n, oI_s, xv_0, xv_1, xv_2, xv_3, xm_p1, xm_p2, xq_fp, xq_fn, List.filter_nil, Nat.reduceBEq, Bool.not_true, Bool.not_false, Bool.and_true, Bool.and_false, Bool.false_and, Bool.true_and, if_true, if_false, Bool.false_eq_true, reduceIte, xc_i, xc_j, xc_r, xc_n, List.nil_append, List.cons_append, Option.toList_some, Option.toList_none, nI_ltJ, nI_leJ, nI_eqJ, nI_ltz, nI_gez, nI_gtz, nI_lez, nI_eqz, m1_ltz, m1_gez, true_imp_iff, false_imp_iff, true_and, and_true, ne_eq, not_false_eq_true, not_true_eq_false, Nat.reduceEqDiff, Nat.reduceLT, Nat.reduceLeDiff, y3]
    refine ⟨fun c => absurd c (by omega), fun c63 => ?_⟩
    with_reducible refine xm_go_blk b_X12_speech_73 k_X12_speech_73 ?_
    refine by_iconst ci_4 ?_
    refine by_iret ry_297 (by first | rfl | assumption) ?_
    exact hp h 4 [] (Or.inl ⟨e4, rfl⟩) Fr_rf (fun z => by omega) (by decide)
  · with_reducible refine xm_go_blk b_X12_speech_63 k_X12_speech_63 ?_
    refine by_aload_n rfl ?_
    refine by_getf cn_297 fl_12_226 (by first | exact rfl | assumption) (by decide) ?_
    refine by_sipush cs_400 ?_
    simp (disch := first | exact Nat.ne_of_beq_eq_false rfl | exact rfl | omega) only [nI_add, xa_sub, xa_mul, pk_div, nm_mod, xa_shr, xa_and7, xa_and1, xa_and255, xa_by_and, nI_m1, Nat.add_sub_cancel, Nat.reducePow, Nat.zero_add, Nat.add_zero, Nat.reduceAdd, Nat.reduceMul, Nat.reduceSub, xf_same, xq_ff, xq_fo, xf_1, xf_2, xs_1, xs_2, xs_same, xq_so, xj_1, xj_2, xj_same, xq_jo, xq_sa1, xq_same, xq_other, upd_s, oI_n, oI_s, y3]
    refine by_ic_le 75 rfl ?_
    simp (disch := first | exact Nat.ne_of_beq_eq_false rfl | exact rfl | omega) only [nI_add, xa_sub, xa_mul, pk_div, nm_mod, xa_shr, xa_and7, xa_and1, xa_and255, xa_by_and, nI_m1, Nat.add_sub_cancel, Nat.reducePow, Nat.zero_add, Nat.add_zero, Nat.reduceAdd, Nat.reduceMul, Nat.reduceSub, xf_same, xq_ff, xq_fo, xf_1, xf_2, xs_1, xs_2, xs_same, xq_so, xj_1, xj_2, xj_same, xq_jo, xq_sa1, xq_same, xq_other, upd_s, oI_n, oI_s, xv_0, xv_1, xv_2, xv_3, xm_p1, xm_p2, xq_fp, xq_fn, List.filter_nil, Nat.reduceBEq, Bool.not_true, Bool.not_false, Bool.and_true, Bool.and_false, Bool.false_and, Bool.true_and, if_true, if_false, Bool.false_eq_true, reduceIte, xc_i, xc_j, xc_r, xc_n, List.nil_append, List.cons_append, Option.toList_some, Option.toList_none, nI_ltJ, nI_leJ, nI_eqJ, nI_ltz, nI_gez, nI_gtz, nI_lez, nI_eqz, m1_ltz, m1_gez, true_imp_iff, false_imp_iff, true_and, and_true, ne_eq, not_false_eq_true, not_true_eq_false, Nat.reduceEqDiff, Nat.reduceLT, Nat.reduceLeDiff, y3]
    refine ⟨fun c63 => ?_, fun c => absurd (by omega) c⟩
    with_reducible refine xm_go_blk b_X12_speech_75 k_X12_speech_75 ?_
    refine by_aload_n rfl ?_
    refine by_inv0 cn_297 lk_12_682 (by rw [xe_cnt]; decide) is_320 np_320 cn_320 (by first | exact rfl | assumption) (Nat.le_of_ble_eq_true rfl) ?_
    refine sp_witnessFault (d := d + 3) hX hG hcn (by omega) (fun z => ?_) (fun h2 z1 z2 f2 => ?_) (fun h2 z1 z2 f2 => ?_)
    · with_reducible refine xm_go_blk b_X12_speech_79 k_X12_speech_79 ?_
      refine by_istore_n (by rw [ml_297]; decide) ?_
      refine by_iload_n rfl ?_
      refine by_if_le 86 rfl ?_
      simp (disch := first | exact Nat.ne_of_beq_eq_false rfl | exact rfl | omega) only [nI_add, xa_sub, xa_mul, pk_div, nm_mod, xa_shr, xa_and7, xa_and1, xa_and255, xa_by_and, nI_m1, Nat.add_sub_cancel, Nat.reducePow, Nat.zero_add, Nat.add_zero, Nat.reduceAdd, Nat.reduceMul, Nat.reduceSub, xf_same, xq_ff, xq_fo, xf_1, xf_2, xs_1, xs_2, xs_same, xq_so, xj_1, xj_2, xj_same, xq_jo, xq_sa1, xq_same, xq_other, upd_s, oI_n, oI_s, xv_0, xv_1, xv_2, xv_3, xm_p1, xm_p2, xq_fp, xq_fn, List.filter_nil, Nat.reduceBEq, Bool.not_true, Bool.not_false, Bool.and_true, Bool.and_false, Bool.false_and, Bool.true_and, if_true, if_false, Bool.false_eq_true, reduceIte, xc_i, xc_j, xc_r, xc_n, List.nil_append, List.cons_append, Option.toList_some, Option.toList_none, nI_ltJ, nI_leJ, nI_eqJ, nI_ltz, nI_gez, nI_gtz, nI_lez, nI_eqz, m1_ltz, m1_gez, true_imp_iff, false_imp_iff, true_and, and_true, ne_eq, not_false_eq_true, not_true_eq_false, Nat.reduceEqDiff, Nat.reduceLT, Nat.reduceLeDiff]
      with_reducible refine xm_go_blk b_X12_speech_84 k_X12_speech_84 ?_
      refine by_iload_n rfl ?_
      refine by_iret ry_297 (by first | rfl | assumption) ?_
      exact hp h 10 [] (Or.inr ⟨by omega, Or.inl ⟨z, rfl⟩⟩) Fr_rf (fun z => by omega) (by decide)
    · with_reducible refine xm_go_blk b_X12_speech_79 k_X12_speech_79 ?_
      refine by_istore_n (by rw [ml_297]; decide) ?_
      refine by_iload_n rfl ?_
      refine by_if_le 86 rfl ?_
      simp (disch := first | exact Nat.ne_of_beq_eq_false rfl | exact rfl | omega) only [nI_add, xa_sub, xa_mul, pk_div, nm_mod, xa_shr, xa_and7, xa_and1, xa_and255, xa_by_and, nI_m1, Nat.add_sub_cancel, Nat.reducePow, Nat.zero_add, Nat.add_zero, Nat.reduceAdd, Nat.reduceMul, Nat.reduceSub, xf_same, xq_ff, xq_fo, xf_1, xf_2, xs_1, xs_2, xs_same, xq_so, xj_1, xj_2, xj_same, xq_jo, xq_sa1, xq_same, xq_other, upd_s, oI_n, oI_s, xv_0, xv_1, xv_2, xv_3, xm_p1, xm_p2, xq_fp, xq_fn, List.filter_nil, Nat.reduceBEq, Bool.not_true, Bool.not_false, Bool.and_true, Bool.and_false, Bool.false_and, Bool.true_and, if_true, if_false, Bool.false_eq_true, reduceIte, xc_i, xc_j, xc_r, xc_n, List.nil_append, List.cons_append, Option.toList_some, Option.toList_none, nI_ltJ, nI_leJ, nI_eqJ, nI_ltz, nI_gez, nI_gtz, nI_lez, nI_eqz, m1_ltz, m1_gez, true_imp_iff, false_imp_iff, true_and, and_true, ne_eq, not_false_eq_true, not_true_eq_false, Nat.reduceEqDiff, Nat.reduceLT, Nat.reduceLeDiff]
      with_reducible refine xm_go_blk b_X12_speech_84 k_X12_speech_84 ?_
      refine by_iload_n rfl ?_
      refine by_iret ry_297 (by first | rfl | assumption) ?_
      exact hp h2 11 [] (Or.inr ⟨by omega, Or.inr ⟨z1, Or.inl ⟨z2, rfl⟩⟩⟩) (Fr_mo f2 (by simp) (by simp)) (fun z => by omega) (by decide)
    · with_reducible refine xm_go_blk b_X12_speech_79 k_X12_speech_79 ?_
      refine by_istore_n (by rw [ml_297]; decide) ?_
      refine by_iload_n rfl ?_
      refine by_if_le 86 rfl ?_
      simp (disch := first | exact Nat.ne_of_beq_eq_false rfl | exact rfl | omega) only [nI_add, xa_sub, xa_mul, pk_div, nm_mod, xa_shr, xa_and7, xa_and1, xa_and255, xa_by_and, nI_m1, Nat.add_sub_cancel, Nat.reducePow, Nat.zero_add, Nat.add_zero, Nat.reduceAdd, Nat.reduceMul, Nat.reduceSub, xf_same, xq_ff, xq_fo, xf_1, xf_2, xs_1, xs_2, xs_same, xq_so, xj_1, xj_2, xj_same, xq_jo, xq_sa1, xq_same, xq_other, upd_s, oI_n, oI_s, xv_0, xv_1, xv_2, xv_3, xm_p1, xm_p2, xq_fp, xq_fn, List.filter_nil, Nat.reduceBEq, Bool.not_true, Bool.not_false, Bool.and_true, Bool.and_false, Bool.false_and, Bool.true_and, if_true, if_false, Bool.false_eq_true, reduceIte, xc_i, xc_j, xc_r, xc_n, List.nil_append, List.cons_append, Option.toList_some, Option.toList_none, nI_ltJ, nI_leJ, nI_eqJ, nI_ltz, nI_gez, nI_gtz, nI_lez, nI_eqz, m1_ltz, m1_gez, true_imp_iff, false_imp_iff, true_and, and_true, ne_eq, not_false_eq_true, not_true_eq_false, Nat.reduceEqDiff, Nat.reduceLT, Nat.reduceLeDiff]
      with_reducible refine xm_go_blk b_X12_speech_86 k_X12_speech_86 ?_
      refine by_aload_n rfl ?_
      refine by_inv0 cn_297 lk_12_685 (by rw [xe_cnt]; decide) is_327 np_327 cn_327 (by first | exact rfl | assumption) (Nat.le_of_ble_eq_true rfl) ?_
      refine sp_mwriteProgram (d := d) (mW_wf hX f2) (chM_f2 hc f2 (by simp) (by simp) (by simp)) hN hLN hnd hcl hl1 (by omega) hG (fun h3 f3 b3 => ?_)
      have fz : Fr [115, 116, 145, 147, 161, 162] [(102, 92)] h h3 := Fr_tr (Fr_mo f2 (by simp) (by simp)) f3 (by simp) (by simp)
      obtain ⟨b31, b32, b33, b34⟩ := b3
      have b3' : mkB h3 (sBits t G c1 c2 L2) := ⟨b31, b32, b33, b34⟩
      generalize hbx : sBits t G c1 c2 L2 = bx at *
      by_cases e : 65536 < bx.length
      · with_reducible refine xm_go_blk b_X12_speech_90 k_X12_speech_90 ?_
        refine by_aload_n rfl ?_
        refine by_getf cn_297 fl_12_656 (by first | exact rfl | assumption) (by decide) ?_
        refine by_ldc_w (x := nI 65536) cn_297 ki_12_659 (by decide) ?_
        simp (disch := first | exact Nat.ne_of_beq_eq_false rfl | exact rfl | omega) only [nI_add, xa_sub, xa_mul, pk_div, nm_mod, xa_shr, xa_and7, xa_and1, xa_and255, xa_by_and, nI_m1, Nat.add_sub_cancel, Nat.reducePow, Nat.zero_add, Nat.add_zero, Nat.reduceAdd, Nat.reduceMul, Nat.reduceSub, xf_same, xq_ff, xq_fo, xf_1, xf_2, xs_1, xs_2, xs_same, xq_so, xj_1, xj_2, xj_same, xq_jo, xq_sa1, xq_same, xq_other, upd_s, oI_n, oI_s, b33]
        refine by_ic_le 104 rfl ?_
        simp (disch := first | exact Nat.ne_of_beq_eq_false rfl | exact rfl | omega) only [nI_add, xa_sub, xa_mul, pk_div, nm_mod, xa_shr, xa_and7, xa_and1, xa_and255, xa_by_and, nI_m1, Nat.add_sub_cancel, Nat.reducePow, Nat.zero_add, Nat.add_zero, Nat.reduceAdd, Nat.reduceMul, Nat.reduceSub, xf_same, xq_ff, xq_fo, xf_1, xf_2, xs_1, xs_2, xs_same, xq_so, xj_1, xj_2, xj_same, xq_jo, xq_sa1, xq_same, xq_other, upd_s, oI_n, oI_s, xv_0, xv_1, xv_2, xv_3, xm_p1, xm_p2, xq_fp, xq_fn, List.filter_nil, Nat.reduceBEq, Bool.not_true, Bool.not_false, Bool.and_true, Bool.and_false, Bool.false_and, Bool.true_and, if_true, if_false, Bool.false_eq_true, reduceIte, xc_i, xc_j, xc_r, xc_n, List.nil_append, List.cons_append, Option.toList_some, Option.toList_none, nI_ltJ, nI_leJ, nI_eqJ, nI_ltz, nI_gez, nI_gtz, nI_lez, nI_eqz, m1_ltz, m1_gez, true_imp_iff, false_imp_iff, true_and, and_true, ne_eq, not_false_eq_true, not_true_eq_false, Nat.reduceEqDiff, Nat.reduceLT, Nat.reduceLeDiff, b33]
        refine ⟨fun c => absurd c (by omega), fun c90 => ?_⟩
        with_reducible refine xm_go_blk b_X12_speech_100 k_X12_speech_100 ?_
        refine by_iconst ci_4 ?_
        refine by_goto 105 rfl ?_
        with_reducible refine xm_go_blk b_X12_speech_105 k_X12_speech_105 ?_
        refine by_iret ry_297 (by first | rfl | assumption) ?_
        exact hp h3 4 [] (Or.inr ⟨by omega, Or.inr ⟨z1, Or.inr ⟨z2, Or.inl ⟨by rw [hbx]; exact e, rfl⟩⟩⟩⟩) fz (fun z => by omega) (by decide)
      · with_reducible refine xm_go_blk b_X12_speech_90 k_X12_speech_90 ?_
        refine by_aload_n rfl ?_
        refine by_getf cn_297 fl_12_656 (by first | exact rfl | assumption) (by decide) ?_
        refine by_ldc_w (x := nI 65536) cn_297 ki_12_659 (by decide) ?_
        simp (disch := first | exact Nat.ne_of_beq_eq_false rfl | exact rfl | omega) only [nI_add, xa_sub, xa_mul, pk_div, nm_mod, xa_shr, xa_and7, xa_and1, xa_and255, xa_by_and, nI_m1, Nat.add_sub_cancel, Nat.reducePow, Nat.zero_add, Nat.add_zero, Nat.reduceAdd, Nat.reduceMul, Nat.reduceSub, xf_same, xq_ff, xq_fo, xf_1, xf_2, xs_1, xs_2, xs_same, xq_so, xj_1, xj_2, xj_same, xq_jo, xq_sa1, xq_same, xq_other, upd_s, oI_n, oI_s, b33]
        refine by_ic_le 104 rfl ?_
        simp (disch := first | exact Nat.ne_of_beq_eq_false rfl | exact rfl | omega) only [nI_add, xa_sub, xa_mul, pk_div, nm_mod, xa_shr, xa_and7, xa_and1, xa_and255, xa_by_and, nI_m1, Nat.add_sub_cancel, Nat.reducePow, Nat.zero_add, Nat.add_zero, Nat.reduceAdd, Nat.reduceMul, Nat.reduceSub, xf_same, xq_ff, xq_fo, xf_1, xf_2, xs_1, xs_2, xs_same, xq_so, xj_1, xj_2, xj_same, xq_jo, xq_sa1, xq_same, xq_other, upd_s, oI_n, oI_s, xv_0, xv_1, xv_2, xv_3, xm_p1, xm_p2, xq_fp, xq_fn, List.filter_nil, Nat.reduceBEq, Bool.not_true, Bool.not_false, Bool.and_true, Bool.and_false, Bool.false_and, Bool.true_and, if_true, if_false, Bool.false_eq_true, reduceIte, xc_i, xc_j, xc_r, xc_n, List.nil_append, List.cons_append, Option.toList_some, Option.toList_none, nI_ltJ, nI_leJ, nI_eqJ, nI_ltz, nI_gez, nI_gtz, nI_lez, nI_eqz, m1_ltz, m1_gez, true_imp_iff, false_imp_iff, true_and, and_true, ne_eq, not_false_eq_true, not_true_eq_false, Nat.reduceEqDiff, Nat.reduceLT, Nat.reduceLeDiff, b33]
        refine ⟨fun c90 => ?_, fun c => absurd (by omega) c⟩
        with_reducible refine xm_go_blk b_X12_speech_104 k_X12_speech_104 ?_
        refine by_iconst ci_0 ?_
        refine by_nil ?_
        with_reducible refine xm_go_blk b_X12_speech_105 k_X12_speech_105 ?_
        refine by_iret ry_297 (by first | rfl | assumption) ?_
        exact hp h3 0 bx (Or.inr ⟨by omega, Or.inr ⟨z1, Or.inr ⟨z2, Or.inr ⟨by rw [hbx]; omega, rfl, hbx.symm⟩⟩⟩⟩) fz (fun _ => ⟨b3', by omega⟩) (by decide)
end SY
