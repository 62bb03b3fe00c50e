/-! ===== the reference: CASE whole ===== -/
section MC
variable {sc : xm_Sc} {d N n : Nat} {cd fi se nu : Nat → Nat} {L : List Nat} {c : Nat} {k l r rt : Nat → Nat} {es : List (Nat × Nat)} {src tgt : Nat → Nat} {h : xm_H} {post : xm_Po}
theorem mc_all (hI : msI h N cd fi se nu L c k l r rt es src tgt) (hn : n < N) (hnL : n ∉ L) (hl : L.length < 2000) (hch : ∀ m ∈ L, (cd m ≤ 6 → fi m ≠ n) ∧ (cd m ≤ 2 → se m ≠ n)) (hfi : fi n ∈ L) (hse : se n ∈ L) (hc : cd n = 1) (hvv : cd (fi n) ≠ 11 ∨ cd (se n) ≠ 11) (hP : mlP N n cd fi se nu L h post) : xm_T (XE sc) (d + 3) 212 [.ref 102, .int (nI n)] h post := by
  refine mc_pre hI hn hl hc (fun h5 rt5 hS hg => ?_)
  have hI0 := hI
  obtain ⟨i1, i3, i4, i5, i6, i7, i8, i9, i10, i11, i12⟩ := hI0
  obtain ⟨f1, f2⟩ := i6 (fi n) hfi
  obtain ⟨p1, p2⟩ := i6 (se n) hse
  have hne : fi n ≠ n := fun z => hnL (by rw [← z]; exact hfi)
  have hne2 : se n ≠ n := fun z => hnL (by rw [← z]; exact hse)
  by_cases hfv : cd (fi n) = 11
  · have hsv : cd (se n) ≠ 11 := by
      rcases hvv with z | z
      · exact absurd hfv z
      · exact z
    rw [if_pos hfv]
    obtain ⟨p6, p7⟩ := p2 hsv
    obtain ⟨p8, p9⟩ := i5.2.2.1 _ hse hsv
    refine mc_88v hS i3 p1 i9 (by omega) (by omega) hsv p6 (by omega) hne2 hg (fun h9 rt' hS9 e9 => ?_) (fun h9 hS9 hbad => ?_)
    · refine mc_134h (by decide) hS9 i3 f1 p1 i9 hn hfv p7 ?_
      obtain ⟨F3, N3, O3⟩ := mcS_fin (t := tgt (se n)) hS9
      refine hP.1 _ _ _ _ _ _ _ _ _ F3 (msI_new (s := c + 4) (t := tgt (se n)) hI hn hnL hl F3 (mgr_si (Or.inr rfl) e9) (tyS_es (cr_3t i5 hnL hch hfi hse hc hfv hsv) (fun q hq => ?_) (fun q hq => ?_)) (tx_tr cr_tx updN_tx) (by omega) (fun _ => N3) O3)
      · rcases List.mem_cons.mp hq with rfl | hq
        · exact Or.inr (List.mem_cons_of_mem _ (List.mem_cons_self ..))
        · exact Or.inl (List.mem_cons_of_mem _ (List.mem_cons_of_mem _ hq))
      · rcases List.mem_cons.mp hq with rfl | hq
        · exact Or.inr (Or.inr rfl)
        · rcases List.mem_cons.mp hq with rfl | hq
          · exact Or.inr (Or.inl (List.mem_cons_self ..))
          · exact Or.inl (List.mem_cons_of_mem _ hq)
    · refine mc_134h (by decide) hS9 i3 f1 p1 i9 hn hfv p7 ?_
      obtain ⟨F3, N3, O3⟩ := mcS_fin (t := tgt (se n)) hS9
      refine hP.2 _ F3 (cr_no i5 (tx_tr cr_tx updN_tx) (cr_3s i5 hfi hse hc hsv) (fun V q1 q2 q3 => hbad V q1 q2 ?_))
      obtain ⟨_, q3⟩ := ty_pd_cons.mp q3
      obtain ⟨q4, q5⟩ := ty_pd_cons.mp q3
      exact ty_pd_cons.mpr ⟨q4.symm, q5⟩
  · rw [if_neg hfv]
    obtain ⟨f6, f7⟩ := f2 hfv
    obtain ⟨f8, f9⟩ := i5.2.2.1 _ hfi hfv
    refine mc_67 hS f1 i9 (by omega) f6 f8 hne hg (fun h7 rt' hS7 e7 => ?_) (fun h7 hS7 hbad => ?_)
    · by_cases hsv : cd (se n) = 11
      · refine mc_88h hS7 i3 f1 p1 i9 hn hfv hsv f7 ?_
        obtain ⟨F3, N3, O3⟩ := mcS_fin (t := tgt (fi n)) hS7
        refine hP.1 _ _ _ _ _ _ _ _ _ F3 (msI_new (s := c + 4) (t := tgt (fi n)) hI hn hnL hl F3 (mgr_si (Or.inr rfl) e7) (tyS_es (cr_1t i5 hnL hch hfi hse hc hfv hsv) (fun q hq => ?_) (fun q hq => ?_)) (tx_tr cr_tx updN_tx) (by omega) (fun _ => N3) O3)
        · rcases List.mem_cons.mp hq with rfl | hq
          · exact Or.inr (List.mem_cons_self ..)
          · exact Or.inl (List.mem_cons_of_mem _ hq)
        · rcases List.mem_cons.mp hq with rfl | hq
          · exact Or.inr (Or.inl (List.mem_cons_self ..))
          · exact Or.inl (List.mem_cons_of_mem _ hq)
      · obtain ⟨p6, p7⟩ := p2 hsv
        obtain ⟨p8, p9⟩ := i5.2.2.1 _ hse hsv
        refine mc_88v hS7 i3 p1 i9 (by omega) (by omega) hsv p6 (by omega) hne2 e7 (fun h9 rt' hS9 e9 => ?_) (fun h9 hS9 hbad => ?_)
        · refine mc_134v hS9 i3 f1 p1 i9 hn (by omega) hfv hsv f7 p7 (by omega) (by omega) e9 (fun h10 rt2 hS10 e10 => ?_) (fun h10 hS10 hbad => ?_)
          · obtain ⟨F3, N3, O3⟩ := mcS_fin (t := tgt (fi n)) hS10
            refine hP.1 _ _ _ _ _ _ _ _ _ F3 (msI_new (s := c + 4) (t := tgt (fi n)) hI hn hnL hl F3 (mgr_si (Or.inr rfl) e10) (tyS_es (cr_2t i5 hnL hch hfi hse hc hfv hsv) (fun q hq => ?_) (fun q hq => ?_)) (tx_tr (tx_tr cr_tx updN_tx) updN_tx) (by omega) (fun _ => N3) O3)
            · rcases List.mem_cons.mp hq with rfl | hq
              · exact Or.inl (List.mem_cons_self ..)
              · rcases List.mem_cons.mp hq with rfl | hq
                · exact Or.inr (List.mem_cons_of_mem _ (List.mem_cons_self ..))
                · rcases List.mem_cons.mp hq with rfl | hq
                  · exact Or.inr (List.mem_cons_of_mem _ (List.mem_cons_of_mem _ (List.mem_cons_self ..)))
                  · exact Or.inl (List.mem_cons_of_mem _ (List.mem_cons_of_mem _ (List.mem_cons_of_mem _ hq)))
            · rcases List.mem_cons.mp hq with rfl | hq
              · exact Or.inl (List.mem_cons_self ..)
              · rcases List.mem_cons.mp hq with rfl | hq
                · exact Or.inr (Or.inl (List.mem_cons_of_mem _ (List.mem_cons_self ..)))
                · rcases List.mem_cons.mp hq with rfl | hq
                  · exact Or.inr (Or.inl (List.mem_cons_of_mem _ (List.mem_cons_of_mem _ (List.mem_cons_self ..))))
                  · exact Or.inl (List.mem_cons_of_mem _ (List.mem_cons_of_mem _ (List.mem_cons_of_mem _ hq)))
          · obtain ⟨F3, N3, O3⟩ := mcS_fin (t := tgt (fi n)) hS10
            refine hP.2 _ F3 (cr_no i5 (tx_tr (tx_tr cr_tx updN_tx) updN_tx) (cr_2s i5 hfi hse hc hfv hsv) (fun V q1 q2 q3 => hbad V q1 q2 ?_))
            obtain ⟨b1, q3⟩ := ty_pd_cons.mp q3
            obtain ⟨b2, q3⟩ := ty_pd_cons.mp q3
            obtain ⟨b3, q3⟩ := ty_pd_cons.mp q3
            exact ty_pd_cons.mpr ⟨b1, ty_pd_cons.mpr ⟨b2.symm, ty_pd_cons.mpr ⟨b3.symm, q3⟩⟩⟩
        · refine mc_134f hS9 i3 f1 p1 i9 hn hfv hsv f7 ?_
          obtain ⟨F3, N3, O3⟩ := mcS_fin (t := tgt (fi n)) hS9
          refine hP.2 _ F3 (cr_no i5 (tx_tr (tx_tr cr_tx updN_tx) updN_tx) (cr_2s i5 hfi hse hc hfv hsv) (fun V q1 q2 q3 => hbad V q1 q2 ?_))
          obtain ⟨b1, q3⟩ := ty_pd_cons.mp q3
          obtain ⟨b2, q3⟩ := ty_pd_cons.mp q3
          obtain ⟨b3, q3⟩ := ty_pd_cons.mp q3
          exact ty_pd_cons.mpr ⟨b2.symm, ty_pd_cons.mpr ⟨b3.symm, q3⟩⟩
    · refine mc_88f hS7 i3 f1 p1 i9 hn hfv f7 ?_
      obtain ⟨F3, N3, O3⟩ := mcS_fin (t := tgt (fi n)) hS7
      refine hP.2 _ F3 (cr_no i5 (tx_tr cr_tx updN_tx) (cr_1s i5 hfi hse hc hfv) (fun V q1 q2 q3 => hbad V q1 q2 ?_))
      obtain ⟨b1, q3⟩ := ty_pd_cons.mp q3
      exact ty_pd_cons.mpr ⟨b1.symm, q3⟩
theorem mty_1 (hI : msI h N cd fi se nu L c k l r rt es src tgt) (hn : n < N) (hnL : n ∉ L) (hl : L.length < 2000) (hch : ∀ m ∈ L, (cd m ≤ 6 → fi m ≠ n) ∧ (cd m ≤ 2 → se m ≠ n)) (hfi : fi n ∈ L) (hse : se n ∈ L) (hc : cd n = 1) (hvv : cd (fi n) ≠ 11 ∨ cd (se n) ≠ 11) (hP : mlP N n cd fi se nu L h post) : xm_T (XE sc) (d + 4) 316 [.ref 102, .int (nI n)] h post := by
  have hI0 := hI
  obtain ⟨i1, i3, i4, i5, i6, i7, i8, i9, i10, i11, i12⟩ := hI0
  obtain ⟨a1, a2, a3, a5, a7⟩ := i3 n hn
  obtain ⟨b2, b2'⟩ := a3 (by omega)
  obtain ⟨b3, b3'⟩ := a5 (by omega)
  rw [hc] at a1
  refine xq_in rfl ?_
  simp only [xq_a0, xq_aI, xq_aJ, xq_aR, Nat.reduceAdd]
  with_reducible refine xm_go_blk b_X12_typesOf_0 k_X12_typesOf_0 ?_
  refine by_aload_n rfl ?_
  refine by_getf cn_316 fl_12_19 (by first | exact rfl | assumption) (by decide) ?_
  refine by_iload_n rfl ?_
  simp (disch := first | exact Nat.ne_of_beq_eq_false rfl | exact rfl | omega) only [nI_add, xa_sub, xa_mul, pk_div, nm_mod, xa_shr, xa_and7, xa_and1, xa_and255, xa_by_and, nI_m1, Nat.add_sub_cancel, Nat.reducePow, Nat.zero_add, Nat.add_zero, Nat.reduceAdd, Nat.reduceMul, Nat.reduceSub, xf_same, xq_ff, xq_fo, xf_1, xf_2, xs_1, xs_2, xs_same, xq_so, xj_1, xj_2, xj_same, xq_jo, xq_sa1, xq_same, xq_other, upd_s, oI_n, oI_s, xf_102_6 i1, xf_102_7 i1, xf_102_8 i1, a1, b2, b3]
  first | refine by_iald (by first | exact rfl | assumption | exact ps_1 hpp | exact ps_2 hpp | exact ps_3 hpp | exact ps_4 hpp | exact ps_5 hpp | exact ps_6 hpp | exact ps_7 hpp | exact ps_8 hpp | exact ps_9 hpp | exact ps_10 hpp | exact ps_11 hpp | exact ps_15 hpp | exact ps_16 hpp | exact ps_17 hpp | exact ps_18 hpp | exact ps_19 hpp | exact ps_21 hpp | exact ps_22 hpp | exact ps_23 hpp | exact ps_24 hpp) ⟨by omega, by omega⟩ ?_ | refine by_tald rfl rfl ⟨by omega, by omega⟩ ?_
  refine by_istore_n (by rw [ml_316]; decide) ?_
  refine by_aload_n rfl ?_
  refine by_getf cn_316 fl_12_22 (by first | exact rfl | assumption) (by decide) ?_
  refine by_iload_n rfl ?_
  simp (disch := first | exact Nat.ne_of_beq_eq_false rfl | exact rfl | omega) only [nI_add, xa_sub, xa_mul, pk_div, nm_mod, xa_shr, xa_and7, xa_and1, xa_and255, xa_by_and, nI_m1, Nat.add_sub_cancel, Nat.reducePow, Nat.zero_add, Nat.add_zero, Nat.reduceAdd, Nat.reduceMul, Nat.reduceSub, xf_same, xq_ff, xq_fo, xf_1, xf_2, xs_1, xs_2, xs_same, xq_so, xj_1, xj_2, xj_same, xq_jo, xq_sa1, xq_same, xq_other, upd_s, oI_n, oI_s, xf_102_6 i1, xf_102_7 i1, xf_102_8 i1, a1, b2, b3]
  first | refine by_iald (by first | exact rfl | assumption | exact ps_1 hpp | exact ps_2 hpp | exact ps_3 hpp | exact ps_4 hpp | exact ps_5 hpp | exact ps_6 hpp | exact ps_7 hpp | exact ps_8 hpp | exact ps_9 hpp | exact ps_10 hpp | exact ps_11 hpp | exact ps_15 hpp | exact ps_16 hpp | exact ps_17 hpp | exact ps_18 hpp | exact ps_19 hpp | exact ps_21 hpp | exact ps_22 hpp | exact ps_23 hpp | exact ps_24 hpp) ⟨by omega, by omega⟩ ?_ | refine by_tald rfl rfl ⟨by omega, by omega⟩ ?_
  refine by_istore_n (by rw [ml_316]; decide) ?_
  refine by_aload_n rfl ?_
  refine by_getf cn_316 fl_12_16 (by first | exact rfl | assumption) (by decide) ?_
  refine by_iload_n rfl ?_
  simp (disch := first | exact Nat.ne_of_beq_eq_false rfl | exact rfl | omega) only [nI_add, xa_sub, xa_mul, pk_div, nm_mod, xa_shr, xa_and7, xa_and1, xa_and255, xa_by_and, nI_m1, Nat.add_sub_cancel, Nat.reducePow, Nat.zero_add, Nat.add_zero, Nat.reduceAdd, Nat.reduceMul, Nat.reduceSub, xf_same, xq_ff, xq_fo, xf_1, xf_2, xs_1, xs_2, xs_same, xq_so, xj_1, xj_2, xj_same, xq_jo, xq_sa1, xq_same, xq_other, upd_s, oI_n, oI_s, xf_102_6 i1, xf_102_7 i1, xf_102_8 i1, a1, b2, b3]
  first | refine by_iald (by first | exact rfl | assumption | exact ps_1 hpp | exact ps_2 hpp | exact ps_3 hpp | exact ps_4 hpp | exact ps_5 hpp | exact ps_6 hpp | exact ps_7 hpp | exact ps_8 hpp | exact ps_9 hpp | exact ps_10 hpp | exact ps_11 hpp | exact ps_15 hpp | exact ps_16 hpp | exact ps_17 hpp | exact ps_18 hpp | exact ps_19 hpp | exact ps_21 hpp | exact ps_22 hpp | exact ps_23 hpp | exact ps_24 hpp) ⟨by omega, by omega⟩ ?_ | refine by_tald rfl rfl ⟨by omega, by omega⟩ ?_
  simp (disch := first | exact Nat.ne_of_beq_eq_false rfl | exact rfl | omega) only [nI_add, xa_sub, xa_mul, pk_div, nm_mod, xa_shr, xa_and7, xa_and1, xa_and255, xa_by_and, nI_m1, Nat.add_sub_cancel, Nat.reducePow, Nat.zero_add, Nat.add_zero, Nat.reduceAdd, Nat.reduceMul, Nat.reduceSub, xf_same, xq_ff, xq_fo, xf_1, xf_2, xs_1, xs_2, xs_same, xq_so, xj_1, xj_2, xj_same, xq_jo, xq_sa1, xq_same, xq_other, upd_s, oI_n, oI_s, xf_102_6 i1, xf_102_7 i1, xf_102_8 i1, a1, b2, b3]
  refine by_sw ?_
  simp (disch := first | exact Nat.ne_of_beq_eq_false rfl | exact rfl | omega) only [nI_add, xa_sub, xa_mul, pk_div, nm_mod, xa_shr, xa_and7, xa_and1, xa_and255, xa_by_and, nI_m1, Nat.add_sub_cancel, Nat.reducePow, Nat.zero_add, Nat.add_zero, Nat.reduceAdd, Nat.reduceMul, Nat.reduceSub, xf_same, xq_ff, xq_fo, xf_1, xf_2, xs_1, xs_2, xs_same, xq_so, xj_1, xj_2, xj_same, xq_jo, xq_sa1, xq_same, xq_other, upd_s, oI_n, oI_s, xv_0, xv_1, xv_2, xv_3, xm_p1, xm_p2, xq_fp, xq_fn, List.filter_nil, Nat.reduceBEq, Bool.not_true, Bool.not_false, Bool.and_true, Bool.and_false, Bool.false_and, Bool.true_and, if_true, if_false, Bool.false_eq_true, reduceIte, xc_i, xc_j, xc_r, xc_n, List.nil_append, List.cons_append, Option.toList_some, Option.toList_none, xf_102_6 i1, xf_102_7 i1, xf_102_8 i1, a1, b2, b3]
  refine xq_sw 129 (by decide) (by decide) ?_
  with_reducible refine xm_go_blk b_X12_typesOf_129 k_X12_typesOf_129 ?_
  refine by_aload_n rfl ?_
  refine by_iload_n rfl ?_
  refine by_inv1 cn_316 lk_12_254 (by rw [xe_cnt]; decide) is_212 np_212 cn_212 (by first | exact rfl | assumption) (Nat.le_of_ble_eq_true rfl) ?_
  refine mc_all hI hn hnL hl hch hfi hse hc hvv ⟨fun h' c' k' l' r' rt' es' src' tgt' hf hI' => ?_, fun h' hf hno => ?_⟩
  · with_reducible refine xm_go_blk b_X12_typesOf_134 k_X12_typesOf_134 ?_
    refine by_iret ry_316 (by first | rfl | assumption) ?_
    exact hP.1 _ _ _ _ _ _ _ _ _ hf hI'
  · with_reducible refine xm_go_blk b_X12_typesOf_134 k_X12_typesOf_134 ?_
    refine by_iret ry_316 (by first | rfl | assumption) ?_
    exact hP.2 _ hf hno
end MC
