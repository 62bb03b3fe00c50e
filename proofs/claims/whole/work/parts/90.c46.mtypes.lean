/-! ===== the reference: jetTypes whole; typesOf of any node ===== -/
section JET
variable {sc : xm_Sc} {d n K m c : Nat} {k l r rt : Nat → Nat} {es : List (Nat × Nat)} {h : xm_H} {post : xm_Po}
theorem mj_all (hF : XF h) (hg : mgr h c k l r rt es) (hc : c < 14190) (h10 : 10 ≤ c) (hn : n < 2000) (ho : ty_den c k l r tO 0) (hu : h.1 108 n = nI (4 * K + m)) (hK : K < 42) (hm : m < 4) (hw : ∀ j, j < 9 → h.1 144 j = nI (j + 1) ∧ ty_den c k l r (ty_wd j) (j + 1)) (hp : mjC n c (4 * K + m) k l r es h post) : xm_T (XE sc) (d + 3) 241 [.ref 102, .int (nI n)] h post := by
  refine mj_in hF hn hu hK hm (fun j hj => (hw j hj).1) ?_
  by_cases q4 : K < 4
  · rw [if_pos q4]
    rcases (by omega : K = 0 ∨ K = 1 ∨ K = 2 ∨ K = 3) with e | e | e | e
    · exact mj_0 hF hg hc h10 hn ho e hm hw hp
    · exact mj_1 hF hg hc h10 hn ho e hm hw hp
    · exact mj_2 hF hg hc h10 hn ho e hm hw hp
    · exact mj_3 hF hg hc h10 hn ho e hm hw hp
  rw [if_neg q4]
  by_cases q8 : K < 8
  · rcases (by omega : K = 4 ∨ K = 5 ∨ K = 6 ∨ K = 7) with e | e | e | e
    · exact mj_4 hF hg hc h10 hn (by omega) (by omega) hm hw hp
    · exact mj_4 hF hg hc h10 hn (by omega) (by omega) hm hw hp
    · exact mj_4 hF hg hc h10 hn (by omega) (by omega) hm hw hp
    · exact mj_7 hF hg hn e hm hw hp
  by_cases q12 : K < 12
  · rcases (by omega : K = 8 ∨ K = 9 ∨ K = 10 ∨ K = 11) with e | e | e | e
    · exact mj_8 hF hg hn e hm hw hp
    · exact mj_9 hF hg hn e hm hw hp
    · exact mj_10 hF hg hn e hm hw hp
    · exact mj_11 hF hg hn e hm hw hp
  by_cases q16 : K < 16
  · rcases (by omega : K = 12 ∨ K = 13 ∨ K = 14 ∨ K = 15) with e | e | e | e
    · exact mj_12 hF hg hn e hm hw hp
    · exact mj_13 hF hg hn e hm hw hp
    · exact mj_14 hF hg hn e hm hw hp
    · exact mj_15 hF hg hn e hm hw hp
  by_cases q20 : K < 20
  · rcases (by omega : K = 16 ∨ K = 17 ∨ K = 18 ∨ K = 19) with e | e | e | e
    · exact mj_16 hF hg hn e hm hw hp
    · exact mj_17 hF hg hn e hm hw hp
    · exact mj_18 hF hg hc h10 hn ho e hm hw hp
    · exact mj_19 hF hg hn e hm hw hp
  by_cases q24 : K < 24
  · rcases (by omega : K = 20 ∨ K = 21 ∨ K = 22 ∨ K = 23) with e | e | e | e
    · exact mj_20 hF hg hn e hm hw hp
    · exact mj_21 hF hg hn e hm hw hp
    · exact mj_22 hF hg hn e hm hw hp
    · exact mj_23 hF hg hn ho e hm hw hp
  by_cases q28 : K < 28
  · rcases (by omega : K = 24 ∨ K = 25 ∨ K = 26 ∨ K = 27) with e | e | e | e
    · exact mj_24 hF hg hn e hm hw hp
    · exact mj_25 hF hg hn e hm hw hp
    · exact mj_26 hF hg hn e hm hw hp
    · exact mj_27 hF hg hc h10 hn ho e hm hw hp
  by_cases q32 : K < 32
  · rcases (by omega : K = 28 ∨ K = 29 ∨ K = 30 ∨ K = 31) with e | e | e | e
    · exact mj_28 hF hg hc h10 hn ho e hm hw hp
    · exact mj_29 hF hg hc h10 hn ho e hm hw hp
    · exact mj_30 hF hg hn ho e hm hw hp
    · exact mj_31 hF hg hn ho e hm hw hp
  by_cases q36 : K < 36
  · rcases (by omega : K = 32 ∨ K = 33 ∨ K = 34 ∨ K = 35) with e | e | e | e
    · exact mj_32 hF hg hc h10 hn ho e hm hw hp
    · exact mj_33 hF hg hc h10 hn ho e hm hw hp
    · exact mj_34 hF hg hc h10 hn ho e hm hw hp
    · exact mj_35 hF hg hc h10 hn ho e hm hw hp
  by_cases q40 : K < 40
  · rcases (by omega : K = 36 ∨ K = 37 ∨ K = 38 ∨ K = 39) with e | e | e | e
    · exact mj_36 hF hg hn ho e hm hw hp
    · exact mj_37 hF hg hn ho e hm hw hp
    · exact mj_38 hF hg hc h10 hn ho e hm hw hp
    · exact mj_39 hF hg hc h10 hn ho e hm hw hp
  rcases (by omega : K = 40 ∨ K = 41) with e | e
  · exact mj_40 hF hg hc h10 hn ho e hm hw hp
  · exact mj_41 hF hg hc h10 hn ho e hm hw hp
end JET
section RUL
variable {sc : xm_Sc} {d N n : Nat} {cd fi se nu : Nat → Nat} {L : List Nat} {c : Nat} {k l r rt : Nat → Nat} {es : List (Nat × Nat)} {src tgt : Nat → Nat} {h : xm_H} {post : xm_Po}
theorem mty_12 (hI : msI h N cd fi se nu L c k l r rt es src tgt) (hn : n < N) (hnL : n ∉ L) (hl : L.length < 2000) (hch : ∀ m ∈ L, (cd m ≤ 6 → fi m ≠ n) ∧ (cd m ≤ 2 → se m ≠ n)) (hc : cd n = 12) (hP : mlP N n cd fi se nu L h post) : xm_T (XE sc) (d + 4) 316 [.ref 102, .int (nI n)] h post := by
  have hI0 := hI
  obtain ⟨i1, i3, i4, i5, i6, i7, i8, i9, i10, i11, i12⟩ := hI0
  obtain ⟨a1, a2, a3, a5, a7⟩ := i3 n hn
  obtain ⟨b4, b5⟩ := a7 hc
  rw [hc] at a1
  have e4 : 4 * (nu n / 4) + nu n % 4 = nu n := Nat.div_add_mod _ _
  refine xq_in rfl ?_
  simp only [xq_a0, xq_aI, xq_aJ, xq_aR, Nat.reduceAdd]
  with_reducible refine xm_go_blk b_X12_typesOf_0 k_X12_typesOf_0 ?_
  refine by_aload_n rfl ?_
  refine by_getf cn_316 fl_12_19 (by first | exact rfl | assumption) (by decide) ?_
  refine by_iload_n rfl ?_
  simp (disch := first | exact Nat.ne_of_beq_eq_false rfl | exact rfl | omega) only [nI_add, xa_sub, xa_mul, pk_div, nm_mod, xa_shr, xa_and7, xa_and1, xa_and255, xa_by_and, nI_m1, Nat.add_sub_cancel, Nat.reducePow, Nat.zero_add, Nat.add_zero, Nat.reduceAdd, Nat.reduceMul, Nat.reduceSub, xf_same, xq_ff, xq_fo, xf_1, xf_2, xs_1, xs_2, xs_same, xq_so, xj_1, xj_2, xj_same, xq_jo, xq_sa1, xq_same, xq_other, upd_s, oI_n, oI_s, xf_102_6 i1, xf_102_7 i1, xf_102_8 i1, a1]
  first | refine by_iald (by first | exact rfl | assumption | exact ps_1 hpp | exact ps_2 hpp | exact ps_3 hpp | exact ps_4 hpp | exact ps_5 hpp | exact ps_6 hpp | exact ps_7 hpp | exact ps_8 hpp | exact ps_9 hpp | exact ps_10 hpp | exact ps_11 hpp | exact ps_15 hpp | exact ps_16 hpp | exact ps_17 hpp | exact ps_18 hpp | exact ps_19 hpp | exact ps_21 hpp | exact ps_22 hpp | exact ps_23 hpp | exact ps_24 hpp) ⟨by omega, by omega⟩ ?_ | refine by_tald rfl rfl ⟨by omega, by omega⟩ ?_
  refine by_istore_n (by rw [ml_316]; decide) ?_
  refine by_aload_n rfl ?_
  refine by_getf cn_316 fl_12_22 (by first | exact rfl | assumption) (by decide) ?_
  refine by_iload_n rfl ?_
  simp (disch := first | exact Nat.ne_of_beq_eq_false rfl | exact rfl | omega) only [nI_add, xa_sub, xa_mul, pk_div, nm_mod, xa_shr, xa_and7, xa_and1, xa_and255, xa_by_and, nI_m1, Nat.add_sub_cancel, Nat.reducePow, Nat.zero_add, Nat.add_zero, Nat.reduceAdd, Nat.reduceMul, Nat.reduceSub, xf_same, xq_ff, xq_fo, xf_1, xf_2, xs_1, xs_2, xs_same, xq_so, xj_1, xj_2, xj_same, xq_jo, xq_sa1, xq_same, xq_other, upd_s, oI_n, oI_s, xf_102_6 i1, xf_102_7 i1, xf_102_8 i1, a1]
  first | refine by_iald (by first | exact rfl | assumption | exact ps_1 hpp | exact ps_2 hpp | exact ps_3 hpp | exact ps_4 hpp | exact ps_5 hpp | exact ps_6 hpp | exact ps_7 hpp | exact ps_8 hpp | exact ps_9 hpp | exact ps_10 hpp | exact ps_11 hpp | exact ps_15 hpp | exact ps_16 hpp | exact ps_17 hpp | exact ps_18 hpp | exact ps_19 hpp | exact ps_21 hpp | exact ps_22 hpp | exact ps_23 hpp | exact ps_24 hpp) ⟨by omega, by omega⟩ ?_ | refine by_tald rfl rfl ⟨by omega, by omega⟩ ?_
  refine by_istore_n (by rw [ml_316]; decide) ?_
  refine by_aload_n rfl ?_
  refine by_getf cn_316 fl_12_16 (by first | exact rfl | assumption) (by decide) ?_
  refine by_iload_n rfl ?_
  simp (disch := first | exact Nat.ne_of_beq_eq_false rfl | exact rfl | omega) only [nI_add, xa_sub, xa_mul, pk_div, nm_mod, xa_shr, xa_and7, xa_and1, xa_and255, xa_by_and, nI_m1, Nat.add_sub_cancel, Nat.reducePow, Nat.zero_add, Nat.add_zero, Nat.reduceAdd, Nat.reduceMul, Nat.reduceSub, xf_same, xq_ff, xq_fo, xf_1, xf_2, xs_1, xs_2, xs_same, xq_so, xj_1, xj_2, xj_same, xq_jo, xq_sa1, xq_same, xq_other, upd_s, oI_n, oI_s, xf_102_6 i1, xf_102_7 i1, xf_102_8 i1, a1]
  first | refine by_iald (by first | exact rfl | assumption | exact ps_1 hpp | exact ps_2 hpp | exact ps_3 hpp | exact ps_4 hpp | exact ps_5 hpp | exact ps_6 hpp | exact ps_7 hpp | exact ps_8 hpp | exact ps_9 hpp | exact ps_10 hpp | exact ps_11 hpp | exact ps_15 hpp | exact ps_16 hpp | exact ps_17 hpp | exact ps_18 hpp | exact ps_19 hpp | exact ps_21 hpp | exact ps_22 hpp | exact ps_23 hpp | exact ps_24 hpp) ⟨by omega, by omega⟩ ?_ | refine by_tald rfl rfl ⟨by omega, by omega⟩ ?_
  simp (disch := first | exact Nat.ne_of_beq_eq_false rfl | exact rfl | omega) only [nI_add, xa_sub, xa_mul, pk_div, nm_mod, xa_shr, xa_and7, xa_and1, xa_and255, xa_by_and, nI_m1, Nat.add_sub_cancel, Nat.reducePow, Nat.zero_add, Nat.add_zero, Nat.reduceAdd, Nat.reduceMul, Nat.reduceSub, xf_same, xq_ff, xq_fo, xf_1, xf_2, xs_1, xs_2, xs_same, xq_so, xj_1, xj_2, xj_same, xq_jo, xq_sa1, xq_same, xq_other, upd_s, oI_n, oI_s, xf_102_6 i1, xf_102_7 i1, xf_102_8 i1, a1]
  refine by_sw ?_
  simp (disch := first | exact Nat.ne_of_beq_eq_false rfl | exact rfl | omega) only [nI_add, xa_sub, xa_mul, pk_div, nm_mod, xa_shr, xa_and7, xa_and1, xa_and255, xa_by_and, nI_m1, Nat.add_sub_cancel, Nat.reducePow, Nat.zero_add, Nat.add_zero, Nat.reduceAdd, Nat.reduceMul, Nat.reduceSub, xf_same, xq_ff, xq_fo, xf_1, xf_2, xs_1, xs_2, xs_same, xq_so, xj_1, xj_2, xj_same, xq_jo, xq_sa1, xq_same, xq_other, upd_s, oI_n, oI_s, xv_0, xv_1, xv_2, xv_3, xm_p1, xm_p2, xq_fp, xq_fn, List.filter_nil, Nat.reduceBEq, Bool.not_true, Bool.not_false, Bool.and_true, Bool.and_false, Bool.false_and, Bool.true_and, if_true, if_false, Bool.false_eq_true, reduceIte, xc_i, xc_j, xc_r, xc_n, List.nil_append, List.cons_append, Option.toList_some, Option.toList_none, xf_102_6 i1, xf_102_7 i1, xf_102_8 i1, a1]
  refine xq_sw 378 (by decide) (by decide) ?_
  with_reducible refine xm_go_blk b_X12_typesOf_378 k_X12_typesOf_378 ?_
  refine by_aload_n rfl ?_
  refine by_iload_n rfl ?_
  refine by_inv1 cn_316 lk_12_258 (by rw [xe_cnt]; decide) is_241 np_241 cn_241 (by first | exact rfl | assumption) (Nat.le_of_ble_eq_true rfl) ?_
  refine mj_all (K := nu n / 4) (m := nu n % 4) i1 i4 (by omega) i11 (by omega) i12 (by rw [e4]; exact b4) (by omega) (by omega) i10 (fun h1 c' k' l' r' rt' s t g1 g2 hx hN hcc hs ht => ?_)
  rw [e4] at hs ht
  with_reducible refine xm_go_blk b_X12_typesOf_383 k_X12_typesOf_383 ?_
  refine by_iconst ci_1 ?_
  refine by_iret ry_316 (by first | rfl | assumption) ?_
  exact hP.1 _ _ _ _ _ _ _ _ _ (Fr_ms (Fr_mg g1)) (msI_new (s := s) (t := t) hI hn hnL hl (Fr_ms (Fr_mg g1)) (mgr_si (Or.inr rfl) (mgr_si (Or.inl rfl) g2)) (mj_fin i5 hx hN hnL hch hc hs ht) hx (by omega) (fun _ => ml_sn) (fun m hm => by rw [(ml_ss hm).1, (ml_ss hm).2, g1.1 111 (by decide), g1.1 112 (by decide)]; exact ⟨rfl, rfl⟩))
/-- typesOf of a node whose children are among those before -/
theorem sp_typesOf (hI : msI h N cd fi se nu L c k l r rt es src tgt) (hn : n < N) (hnL : n ∉ L) (hl : L.length < 2000) (hch : ∀ m ∈ L, (cd m ≤ 6 → fi m ≠ n) ∧ (cd m ≤ 2 → se m ≠ n)) (hk1 : cd n ≤ 6 → fi n ∈ L) (hk2 : cd n ≤ 2 → se n ∈ L) (hv1 : cd n ≤ 6 → cd n ≠ 1 → cd (fi n) ≠ 11) (hv2 : cd n ≤ 2 → cd n ≠ 1 → cd (se n) ≠ 11) (hvv : cd n = 1 → cd (fi n) ≠ 11 ∨ cd (se n) ≠ 11) (hP : mlP N n cd fi se nu L h post) : xm_T (XE sc) (d + 4) 316 [.ref 102, .int (nI n)] h post := by
  have h12 := (hI.2.1 n hn).2.1
  rcases op_cs (Nat.lt_succ_of_le h12) with e | e | e | e | e | e | e | e | e | e | e | e | e
  · exact mty_0 hI hn hnL hl hch (hk1 (by omega)) (hv1 (by omega) (by omega)) (hk2 (by omega)) (hv2 (by omega) (by omega)) e hP
  · exact mty_1 hI hn hnL hl hch (hk1 (by omega)) (hk2 (by omega)) e (hvv e) hP
  · exact mty_2 hI hn hnL hl hch (hk1 (by omega)) (hv1 (by omega) (by omega)) (hk2 (by omega)) (hv2 (by omega) (by omega)) e hP
  · exact mty_3 hI hn hnL hl hch (hk1 (by omega)) (hv1 (by omega) (by omega)) e hP
  · exact mty_4 hI hn hnL hl hch (hk1 (by omega)) (hv1 (by omega) (by omega)) e hP
  · exact mty_5 hI hn hnL hl hch (hk1 (by omega)) (hv1 (by omega) (by omega)) e hP
  · exact mty_6 hI hn hnL hl hch (hk1 (by omega)) (hv1 (by omega) (by omega)) e hP
  · exact mty_7 hI hn hnL hl hch e hP
  · exact mty_8 hI hn hnL hl hch e hP
  · exact mty_10 hI hn hnL hl hch e hP
  · exact mty_12 hI hn hnL hl hch e hP
  · exact mty_9 hI hn hnL hl hch e hP
  · exact mty_11 hI hn hnL hl hch e hP
end RUL
