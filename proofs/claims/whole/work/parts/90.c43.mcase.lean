/-! ===== the reference: CASE ===== -/
theorem tyS_es {cd fi se nu : Nat → Nat} {L : List Nat} {c : Nat} {k l r : Nat → Nat} {es es' : List (Nat × Nat)} {src tgt : Nat → Nat} (hS : tyS cd fi se nu L c k l r es src tgt) (h1 : ∀ q ∈ es', q ∈ es ∨ (q.2, q.1) ∈ es) (h2 : ∀ q ∈ es, q ∈ es' ∨ (q.2, q.1) ∈ es' ∨ q.1 = q.2) : tyS cd fi se nu L c k l r es' src tgt := by
  obtain ⟨a1, a2, a3, a4, a5⟩ := hS
  refine ⟨a1, fun q hq => ?_, a3, fun f hf => a4 f (fun q hq => ?_), fun S T hs => ?_⟩
  · rcases h1 q hq with e | e
    · exact a2 q e
    · have := a2 _ e
      exact ⟨this.2, this.1⟩
  · rcases h2 q hq with e | e | e
    · exact hf q e
    · exact (hf _ e).symm
    · rw [e]
  · obtain ⟨V, v1, v2, v3, v4⟩ := a5 S T hs
    refine ⟨V, v1, v2, fun q hq => ?_, v4⟩
    rcases h1 q hq with e | e
    · exact v3 q e
    · exact (v3 _ e).symm
section MC
variable {sc : xm_Sc} {d N n : Nat} {cd fi se nu : Nat → Nat} {L : List Nat} {c : Nat} {k l r rt : Nat → Nat} {es : List (Nat × Nat)} {src tgt : Nat → Nat} {h h7 : xm_H} {post : xm_Po} {g : Nat}
def mcL (n s t c g : Nat) : xm_L := [(0, .ref 102), (1, .int (nI n)), (2, .int (nI c)), (3, .int (nI (c + 1))), (4, .int (nI (c + 2))), (5, .int (nI s)), (6, .int (nI t)), (7, .int (nI g))]
def mcS (h h7 : xm_H) (n c : Nat) : Prop := Fr mlR mgT h h7 ∧ XF h7 ∧ h7.1 111 n = nI (c + 4) ∧ (∀ m, m ≠ n → h7.1 111 m = h.1 111 m) ∧ h7.1 112 = h.1 112
theorem mcS_st {h8 : xm_H} (hS : mcS h h7 n c) (hf : Fr mgR mgT h7 h8) : mcS h h8 n c := by
  obtain ⟨s1, s2, s3, s4, s5⟩ := hS
  exact ⟨Fr_tr s1 (Fr_mg hf) (fun _ q => q) (fun _ q => q), Fr_XF s2 hf mg_fin, by rw [hf.1 111 (by decide), s3], fun m hm => by rw [hf.1 111 (by decide), s4 m hm], by rw [hf.1 112 (by decide), s5]⟩
theorem mcS_j {h8 : xm_H} (hS : mcS h h7 n c) (hf : Fr [141, 143] [] h7 h8) : mcS h h8 n c := mcS_st hS (Fr_mo hf (by simp [mgR]) (by simp))
theorem mcS_fin {t : Nat} (hS : mcS h h7 n c) : Fr mlR mgT h (xm_si h7 112 n (nI t)) ∧ ((xm_si h7 112 n (nI t)).1 111 n = nI (c + 4) ∧ (xm_si h7 112 n (nI t)).1 112 n = nI t) ∧ ∀ m, m ≠ n → (xm_si h7 112 n (nI t)).1 111 m = h.1 111 m ∧ (xm_si h7 112 n (nI t)).1 112 m = h.1 112 m := by
  obtain ⟨s1, s2, s3, s4, s5⟩ := hS
  refine ⟨Fr_si s1 (by decide), ⟨by rw [xq_so (by omega), s3], by rw [xs_same, upd_s]⟩, fun m hm => ⟨by rw [xq_so (by omega), s4 m hm], by rw [xs_same, upd_o hm, s5]⟩⟩
theorem mc_191v (hg1 : g ≤ 1) (hS : mcS h h7 n c) (i3 : ndR h N cd fi se nu) (f1 : fi n < N) (hN : N ≤ 2000) (hn : n < N) (hfv : cd (fi n) ≠ 11) (f7 : h.1 112 (fi n) = nI (tgt (fi n))) (hp : post (some (.int (nI g))) (xm_si h7 112 n (nI (tgt (fi n))))) : xm_go (XE sc) (xm_T (XE sc) (d + 2)) 212 post 191 (mcL n (fi n) (se n) c g) [] h7 := by
  obtain ⟨s1, s2, s3, s4, s5⟩ := hS
  obtain ⟨x1, x2, _⟩ := i3 (fi n) f1
  have m1 : h7.1 105 (fi n) = nI (cd (fi n)) := by rw [s1.1 105 (by decide)]; exact x1
  have m7 : h7.1 112 (fi n) = nI (tgt (fi n)) := by rw [s5]; exact f7
  have e0 : (cd (fi n) = 11) = False := eq_false hfv
  unfold mcL
  have hnar : narrow FieldType.boolean (Value.int (nI g)) = Value.int (nI g) := by rcases (by omega : g = 0 ∨ g = 1) with rfl | rfl <;> rfl
  with_reducible refine xm_go_blk b_X12_caseTypes_191 k_X12_caseTypes_191 ?_
  refine by_aload_n rfl ?_
  refine by_getf cn_212 fl_12_37 (by first | exact rfl | assumption) (by decide) ?_
  refine by_iload_n rfl ?_
  refine by_aload_n rfl ?_
  refine by_getf cn_212 fl_12_16 (by first | exact rfl | assumption) (by decide) ?_
  refine by_iload rfl ?_
  simp (disch := first | exact Nat.ne_of_beq_eq_false rfl | exact rfl | omega) only [nI_add, xa_sub, xa_mul, pk_div, nm_mod, xa_shr, xa_and7, xa_and1, xa_and255, xa_by_and, nI_m1, Nat.add_sub_cancel, Nat.reducePow, Nat.zero_add, Nat.add_zero, Nat.reduceAdd, Nat.reduceMul, Nat.reduceSub, xf_same, xq_ff, xq_fo, xf_1, xf_2, xs_1, xs_2, xs_same, xq_so, xj_1, xj_2, xj_same, xq_jo, xq_sa1, xq_same, xq_other, upd_s, oI_n, oI_s, xf_102_6 s2, xf_102_13 s2, m1, e0, m7]
  first | refine by_iald (by first | exact rfl | assumption | exact ps_1 hpp | exact ps_2 hpp | exact ps_3 hpp | exact ps_4 hpp | exact ps_5 hpp | exact ps_6 hpp | exact ps_7 hpp | exact ps_8 hpp | exact ps_9 hpp | exact ps_10 hpp | exact ps_11 hpp | exact ps_15 hpp | exact ps_16 hpp | exact ps_17 hpp | exact ps_18 hpp | exact ps_19 hpp | exact ps_21 hpp | exact ps_22 hpp | exact ps_23 hpp | exact ps_24 hpp) ⟨by omega, by omega⟩ ?_ | refine by_tald rfl rfl ⟨by omega, by omega⟩ ?_
  refine by_bipush cb_11 ?_
  refine by_ic_eq 218 rfl ?_
  simp (disch := first | exact Nat.ne_of_beq_eq_false rfl | exact rfl | omega) only [nI_add, xa_sub, xa_mul, pk_div, nm_mod, xa_shr, xa_and7, xa_and1, xa_and255, xa_by_and, nI_m1, Nat.add_sub_cancel, Nat.reducePow, Nat.zero_add, Nat.add_zero, Nat.reduceAdd, Nat.reduceMul, Nat.reduceSub, xf_same, xq_ff, xq_fo, xf_1, xf_2, xs_1, xs_2, xs_same, xq_so, xj_1, xj_2, xj_same, xq_jo, xq_sa1, xq_same, xq_other, upd_s, oI_n, oI_s, xv_0, xv_1, xv_2, xv_3, xm_p1, xm_p2, xq_fp, xq_fn, List.filter_nil, Nat.reduceBEq, Bool.not_true, Bool.not_false, Bool.and_true, Bool.and_false, Bool.false_and, Bool.true_and, if_true, if_false, Bool.false_eq_true, reduceIte, xc_i, xc_j, xc_r, xc_n, List.nil_append, List.cons_append, Option.toList_some, Option.toList_none, nI_ltJ, nI_leJ, nI_eqJ, nI_ltz, nI_gez, nI_gtz, nI_lez, nI_eqz, m1_ltz, m1_gez, true_imp_iff, false_imp_iff, true_and, and_true, ne_eq, not_false_eq_true, not_true_eq_false, Nat.reduceEqDiff, Nat.reduceLT, Nat.reduceLeDiff, xf_102_6 s2, xf_102_13 s2, m1, e0, m7]
  with_reducible refine xm_go_blk b_X12_caseTypes_208 k_X12_caseTypes_208 ?_
  refine by_aload_n rfl ?_
  refine by_getf cn_212 fl_12_37 (by first | exact rfl | assumption) (by decide) ?_
  refine by_iload rfl ?_
  simp (disch := first | exact Nat.ne_of_beq_eq_false rfl | exact rfl | omega) only [nI_add, xa_sub, xa_mul, pk_div, nm_mod, xa_shr, xa_and7, xa_and1, xa_and255, xa_by_and, nI_m1, Nat.add_sub_cancel, Nat.reducePow, Nat.zero_add, Nat.add_zero, Nat.reduceAdd, Nat.reduceMul, Nat.reduceSub, xf_same, xq_ff, xq_fo, xf_1, xf_2, xs_1, xs_2, xs_same, xq_so, xj_1, xj_2, xj_same, xq_jo, xq_sa1, xq_same, xq_other, upd_s, oI_n, oI_s, xf_102_6 s2, xf_102_13 s2, m1, e0, m7]
  first | refine by_iald (by first | exact rfl | assumption | exact ps_1 hpp | exact ps_2 hpp | exact ps_3 hpp | exact ps_4 hpp | exact ps_5 hpp | exact ps_6 hpp | exact ps_7 hpp | exact ps_8 hpp | exact ps_9 hpp | exact ps_10 hpp | exact ps_11 hpp | exact ps_15 hpp | exact ps_16 hpp | exact ps_17 hpp | exact ps_18 hpp | exact ps_19 hpp | exact ps_21 hpp | exact ps_22 hpp | exact ps_23 hpp | exact ps_24 hpp) ⟨by omega, by omega⟩ ?_ | refine by_tald rfl rfl ⟨by omega, by omega⟩ ?_
  refine by_goto 225 rfl ?_
  simp (disch := first | exact Nat.ne_of_beq_eq_false rfl | exact rfl | omega) only [nI_add, xa_sub, xa_mul, pk_div, nm_mod, xa_shr, xa_and7, xa_and1, xa_and255, xa_by_and, nI_m1, Nat.add_sub_cancel, Nat.reducePow, Nat.zero_add, Nat.add_zero, Nat.reduceAdd, Nat.reduceMul, Nat.reduceSub, xf_same, xq_ff, xq_fo, xf_1, xf_2, xs_1, xs_2, xs_same, xq_so, xj_1, xj_2, xj_same, xq_jo, xq_sa1, xq_same, xq_other, upd_s, oI_n, oI_s, xv_0, xv_1, xv_2, xv_3, xm_p1, xm_p2, xq_fp, xq_fn, List.filter_nil, Nat.reduceBEq, Bool.not_true, Bool.not_false, Bool.and_true, Bool.and_false, Bool.false_and, Bool.true_and, if_true, if_false, Bool.false_eq_true, reduceIte, xc_i, xc_j, xc_r, xc_n, List.nil_append, List.cons_append, Option.toList_some, Option.toList_none, xf_102_6 s2, xf_102_13 s2, m1, e0, m7]
  with_reducible refine xm_go_blk b_X12_caseTypes_225 k_X12_caseTypes_225 ?_
  refine by_iast (by first | exact rfl | assumption | exact ps_1 hpp | exact ps_2 hpp | exact ps_3 hpp | exact ps_4 hpp | exact ps_5 hpp | exact ps_6 hpp | exact ps_7 hpp | exact ps_8 hpp | exact ps_9 hpp | exact ps_10 hpp | exact ps_11 hpp | exact ps_15 hpp | exact ps_16 hpp | exact ps_17 hpp | exact ps_18 hpp | exact ps_19 hpp | exact ps_21 hpp | exact ps_22 hpp | exact ps_23 hpp | exact ps_24 hpp) ⟨by omega, by omega⟩ ?_
  refine by_iload rfl ?_
  refine by_iret ry_212 (by first | rfl | assumption) ?_
  exact hp
theorem mc_191h (hg1 : g ≤ 1) (hS : mcS h h7 n c) (i3 : ndR h N cd fi se nu) (f1 : fi n < N) (p1 : se n < N) (hN : N ≤ 2000) (hn : n < N) (hfv : cd (fi n) = 11) (p7 : h.1 112 (se n) = nI (tgt (se n))) (hp : post (some (.int (nI g))) (xm_si h7 112 n (nI (tgt (se n))))) : xm_go (XE sc) (xm_T (XE sc) (d + 2)) 212 post 191 (mcL n (fi n) (se n) c g) [] h7 := by
  obtain ⟨s1, s2, s3, s4, s5⟩ := hS
  obtain ⟨x1, x2, _⟩ := i3 (fi n) f1
  rw [hfv] at x1
  have m1 : h7.1 105 (fi n) = nI 11 := by rw [s1.1 105 (by decide)]; exact x1
  have m7 : h7.1 112 (se n) = nI (tgt (se n)) := by rw [s5]; exact p7
  unfold mcL
  have hnar : narrow FieldType.boolean (Value.int (nI g)) = Value.int (nI g) := by rcases (by omega : g = 0 ∨ g = 1) with rfl | rfl <;> rfl
  with_reducible refine xm_go_blk b_X12_caseTypes_191 k_X12_caseTypes_191 ?_
  refine by_aload_n rfl ?_
  refine by_getf cn_212 fl_12_37 (by first | exact rfl | assumption) (by decide) ?_
  refine by_iload_n rfl ?_
  refine by_aload_n rfl ?_
  refine by_getf cn_212 fl_12_16 (by first | exact rfl | assumption) (by decide) ?_
  refine by_iload rfl ?_
  simp (disch := first | exact Nat.ne_of_beq_eq_false rfl | exact rfl | omega) only [nI_add, xa_sub, xa_mul, pk_div, nm_mod, xa_shr, xa_and7, xa_and1, xa_and255, xa_by_and, nI_m1, Nat.add_sub_cancel, Nat.reducePow, Nat.zero_add, Nat.add_zero, Nat.reduceAdd, Nat.reduceMul, Nat.reduceSub, xf_same, xq_ff, xq_fo, xf_1, xf_2, xs_1, xs_2, xs_same, xq_so, xj_1, xj_2, xj_same, xq_jo, xq_sa1, xq_same, xq_other, upd_s, oI_n, oI_s, xf_102_6 s2, xf_102_13 s2, m1, m7]
  first | refine by_iald (by first | exact rfl | assumption | exact ps_1 hpp | exact ps_2 hpp | exact ps_3 hpp | exact ps_4 hpp | exact ps_5 hpp | exact ps_6 hpp | exact ps_7 hpp | exact ps_8 hpp | exact ps_9 hpp | exact ps_10 hpp | exact ps_11 hpp | exact ps_15 hpp | exact ps_16 hpp | exact ps_17 hpp | exact ps_18 hpp | exact ps_19 hpp | exact ps_21 hpp | exact ps_22 hpp | exact ps_23 hpp | exact ps_24 hpp) ⟨by omega, by omega⟩ ?_ | refine by_tald rfl rfl ⟨by omega, by omega⟩ ?_
  refine by_bipush cb_11 ?_
  refine by_ic_eq 218 rfl ?_
  simp (disch := first | exact Nat.ne_of_beq_eq_false rfl | exact rfl | omega) only [nI_add, xa_sub, xa_mul, pk_div, nm_mod, xa_shr, xa_and7, xa_and1, xa_and255, xa_by_and, nI_m1, Nat.add_sub_cancel, Nat.reducePow, Nat.zero_add, Nat.add_zero, Nat.reduceAdd, Nat.reduceMul, Nat.reduceSub, xf_same, xq_ff, xq_fo, xf_1, xf_2, xs_1, xs_2, xs_same, xq_so, xj_1, xj_2, xj_same, xq_jo, xq_sa1, xq_same, xq_other, upd_s, oI_n, oI_s, xv_0, xv_1, xv_2, xv_3, xm_p1, xm_p2, xq_fp, xq_fn, List.filter_nil, Nat.reduceBEq, Bool.not_true, Bool.not_false, Bool.and_true, Bool.and_false, Bool.false_and, Bool.true_and, if_true, if_false, Bool.false_eq_true, reduceIte, xc_i, xc_j, xc_r, xc_n, List.nil_append, List.cons_append, Option.toList_some, Option.toList_none, nI_ltJ, nI_leJ, nI_eqJ, nI_ltz, nI_gez, nI_gtz, nI_lez, nI_eqz, m1_ltz, m1_gez, true_imp_iff, false_imp_iff, true_and, and_true, ne_eq, not_false_eq_true, not_true_eq_false, Nat.reduceEqDiff, Nat.reduceLT, Nat.reduceLeDiff, xf_102_6 s2, xf_102_13 s2, m1, m7]
  with_reducible refine xm_go_blk b_X12_caseTypes_218 k_X12_caseTypes_218 ?_
  refine by_aload_n rfl ?_
  refine by_getf cn_212 fl_12_37 (by first | exact rfl | assumption) (by decide) ?_
  refine by_iload rfl ?_
  simp (disch := first | exact Nat.ne_of_beq_eq_false rfl | exact rfl | omega) only [nI_add, xa_sub, xa_mul, pk_div, nm_mod, xa_shr, xa_and7, xa_and1, xa_and255, xa_by_and, nI_m1, Nat.add_sub_cancel, Nat.reducePow, Nat.zero_add, Nat.add_zero, Nat.reduceAdd, Nat.reduceMul, Nat.reduceSub, xf_same, xq_ff, xq_fo, xf_1, xf_2, xs_1, xs_2, xs_same, xq_so, xj_1, xj_2, xj_same, xq_jo, xq_sa1, xq_same, xq_other, upd_s, oI_n, oI_s, xf_102_6 s2, xf_102_13 s2, m1, m7]
  first | refine by_iald (by first | exact rfl | assumption | exact ps_1 hpp | exact ps_2 hpp | exact ps_3 hpp | exact ps_4 hpp | exact ps_5 hpp | exact ps_6 hpp | exact ps_7 hpp | exact ps_8 hpp | exact ps_9 hpp | exact ps_10 hpp | exact ps_11 hpp | exact ps_15 hpp | exact ps_16 hpp | exact ps_17 hpp | exact ps_18 hpp | exact ps_19 hpp | exact ps_21 hpp | exact ps_22 hpp | exact ps_23 hpp | exact ps_24 hpp) ⟨by omega, by omega⟩ ?_ | refine by_tald rfl rfl ⟨by omega, by omega⟩ ?_
  refine by_nil ?_
  simp (disch := first | exact Nat.ne_of_beq_eq_false rfl | exact rfl | omega) only [nI_add, xa_sub, xa_mul, pk_div, nm_mod, xa_shr, xa_and7, xa_and1, xa_and255, xa_by_and, nI_m1, Nat.add_sub_cancel, Nat.reducePow, Nat.zero_add, Nat.add_zero, Nat.reduceAdd, Nat.reduceMul, Nat.reduceSub, xf_same, xq_ff, xq_fo, xf_1, xf_2, xs_1, xs_2, xs_same, xq_so, xj_1, xj_2, xj_same, xq_jo, xq_sa1, xq_same, xq_other, upd_s, oI_n, oI_s, xv_0, xv_1, xv_2, xv_3, xm_p1, xm_p2, xq_fp, xq_fn, List.filter_nil, Nat.reduceBEq, Bool.not_true, Bool.not_false, Bool.and_true, Bool.and_false, Bool.false_and, Bool.true_and, if_true, if_false, Bool.false_eq_true, reduceIte, xc_i, xc_j, xc_r, xc_n, List.nil_append, List.cons_append, Option.toList_some, Option.toList_none, xf_102_6 s2, xf_102_13 s2, m1, m7]
  with_reducible refine xm_go_blk b_X12_caseTypes_225 k_X12_caseTypes_225 ?_
  refine by_iast (by first | exact rfl | assumption | exact ps_1 hpp | exact ps_2 hpp | exact ps_3 hpp | exact ps_4 hpp | exact ps_5 hpp | exact ps_6 hpp | exact ps_7 hpp | exact ps_8 hpp | exact ps_9 hpp | exact ps_10 hpp | exact ps_11 hpp | exact ps_15 hpp | exact ps_16 hpp | exact ps_17 hpp | exact ps_18 hpp | exact ps_19 hpp | exact ps_21 hpp | exact ps_22 hpp | exact ps_23 hpp | exact ps_24 hpp) ⟨by omega, by omega⟩ ?_
  refine by_iload rfl ?_
  refine by_iret ry_212 (by first | rfl | assumption) ?_
  exact hp
theorem mc_pre (hI : msI h N cd fi se nu L c k l r rt es src tgt) (hn : n < N) (hl : L.length < 2000) (hc : cd n = 1)
    (hgo : ∀ h5 rt5, mcS h h5 n c → mgr h5 (c + 5) (cK k c) (cL l c) (cR r c) rt5 es → xm_go (XE sc) (xm_T (XE sc) (d + 2)) 212 post (if cd (fi n) = 11 then 88 else 67) (mcL n (fi n) (se n) c 1) [] h5) : xm_T (XE sc) (d + 3) 212 [.ref 102, .int (nI n)] h post := by
  obtain ⟨i1, i3, i4, i5, i6, i7, i8, i9, i10, i11, i12⟩ := hI
  obtain ⟨a1, a2, a3, a5, a7⟩ := i3 n hn
  obtain ⟨b2, b2'⟩ := a3 (by omega)
  obtain ⟨b3, b3'⟩ := a5 (by omega)
  obtain ⟨x1, x2, _⟩ := i3 (fi n) b2'
  refine xq_in rfl ?_
  simp only [xq_a0, xq_aI, xq_aJ, xq_aR, Nat.reduceAdd]
  with_reducible refine xm_go_blk b_X12_caseTypes_0 k_X12_caseTypes_0 ?_
  refine by_aload_n rfl ?_
  refine by_inv0 cn_212 lk_12_246 (by rw [xe_cnt]; decide) is_273 np_273 cn_273 (by first | exact rfl | assumption) (Nat.le_of_ble_eq_true rfl) ?_
  refine sp_mopen i1 i4 (by omega) (fun h1 g1 e1 => ?_)
  have j1 : XF h1 := Fr_XF i1 g1 mg_fin
  with_reducible refine xm_go_blk b_X12_caseTypes_4 k_X12_caseTypes_4 ?_
  refine by_istore_n (by rw [ml_212]; decide) ?_
  refine by_aload_n rfl ?_
  simp (disch := first | exact Nat.ne_of_beq_eq_false rfl | exact rfl | omega) only [nI_add, xa_sub, xa_mul, pk_div, nm_mod, xa_shr, xa_and7, xa_and1, xa_and255, xa_by_and, nI_m1, Nat.add_sub_cancel, Nat.reducePow, Nat.zero_add, Nat.add_zero, Nat.reduceAdd, Nat.reduceMul, Nat.reduceSub, xf_same, xq_ff, xq_fo, xf_1, xf_2, xs_1, xs_2, xs_same, xq_so, xj_1, xj_2, xj_same, xq_jo, xq_sa1, xq_same, xq_other, upd_s, oI_n, oI_s, xv_0, xv_1, xv_2, xv_3, xm_p1, xm_p2, xq_fp, xq_fn, List.filter_nil, Nat.reduceBEq, Bool.not_true, Bool.not_false, Bool.and_true, Bool.and_false, Bool.false_and, Bool.true_and, if_true, if_false, Bool.false_eq_true, reduceIte, xc_i, xc_j, xc_r, xc_n, List.nil_append, List.cons_append, Option.toList_some, Option.toList_none]
  refine by_inv0 cn_212 lk_12_246 (by rw [xe_cnt]; decide) is_273 np_273 cn_273 (by first | exact rfl | assumption) (Nat.le_of_ble_eq_true rfl) ?_
  refine sp_mopen j1 e1 (by omega) (fun h2 g2 e2 => ?_)
  have j2 : XF h2 := Fr_XF j1 g2 mg_fin
  with_reducible refine xm_go_blk b_X12_caseTypes_9 k_X12_caseTypes_9 ?_
  refine by_istore_n (by rw [ml_212]; decide) ?_
  refine by_aload_n rfl ?_
  simp (disch := first | exact Nat.ne_of_beq_eq_false rfl | exact rfl | omega) only [nI_add, xa_sub, xa_mul, pk_div, nm_mod, xa_shr, xa_and7, xa_and1, xa_and255, xa_by_and, nI_m1, Nat.add_sub_cancel, Nat.reducePow, Nat.zero_add, Nat.add_zero, Nat.reduceAdd, Nat.reduceMul, Nat.reduceSub, xf_same, xq_ff, xq_fo, xf_1, xf_2, xs_1, xs_2, xs_same, xq_so, xj_1, xj_2, xj_same, xq_jo, xq_sa1, xq_same, xq_other, upd_s, oI_n, oI_s, xv_0, xv_1, xv_2, xv_3, xm_p1, xm_p2, xq_fp, xq_fn, List.filter_nil, Nat.reduceBEq, Bool.not_true, Bool.not_false, Bool.and_true, Bool.and_false, Bool.false_and, Bool.true_and, if_true, if_false, Bool.false_eq_true, reduceIte, xc_i, xc_j, xc_r, xc_n, List.nil_append, List.cons_append, Option.toList_some, Option.toList_none]
  refine by_inv0 cn_212 lk_12_246 (by rw [xe_cnt]; decide) is_273 np_273 cn_273 (by first | exact rfl | assumption) (Nat.le_of_ble_eq_true rfl) ?_
  refine sp_mopen j2 e2 (by omega) (fun h3 g3 e3 => ?_)
  have j3 : XF h3 := Fr_XF j2 g3 mg_fin
  have g03 := Fr_m2 (Fr_m2 g1 g2) g3
  have m6 : h3.1 106 n = nI (fi n) := by rw [g03.1 106 (by decide)]; exact b2
  have m7 : h3.1 107 n = nI (se n) := by rw [g03.1 107 (by decide)]; exact b3
  with_reducible refine xm_go_blk b_X12_caseTypes_14 k_X12_caseTypes_14 ?_
  refine by_istore (by rw [ml_212]; decide) ?_
  refine by_aload_n rfl ?_
  refine by_getf cn_212 fl_12_19 (by first | exact rfl | assumption) (by decide) ?_
  refine by_iload_n rfl ?_
  simp (disch := first | exact Nat.ne_of_beq_eq_false rfl | exact rfl | omega) only [nI_add, xa_sub, xa_mul, pk_div, nm_mod, xa_shr, xa_and7, xa_and1, xa_and255, xa_by_and, nI_m1, Nat.add_sub_cancel, Nat.reducePow, Nat.zero_add, Nat.add_zero, Nat.reduceAdd, Nat.reduceMul, Nat.reduceSub, xf_same, xq_ff, xq_fo, xf_1, xf_2, xs_1, xs_2, xs_same, xq_so, xj_1, xj_2, xj_same, xq_jo, xq_sa1, xq_same, xq_other, upd_s, oI_n, oI_s, xf_102_7 j3, xf_102_8 j3, xf_102_12 j3, m6, m7]
  first | refine by_iald (by first | exact rfl | assumption | exact ps_1 hpp | exact ps_2 hpp | exact ps_3 hpp | exact ps_4 hpp | exact ps_5 hpp | exact ps_6 hpp | exact ps_7 hpp | exact ps_8 hpp | exact ps_9 hpp | exact ps_10 hpp | exact ps_11 hpp | exact ps_15 hpp | exact ps_16 hpp | exact ps_17 hpp | exact ps_18 hpp | exact ps_19 hpp | exact ps_21 hpp | exact ps_22 hpp | exact ps_23 hpp | exact ps_24 hpp) ⟨by omega, by omega⟩ ?_ | refine by_tald rfl rfl ⟨by omega, by omega⟩ ?_
  refine by_istore (by rw [ml_212]; decide) ?_
  refine by_aload_n rfl ?_
  refine by_getf cn_212 fl_12_22 (by first | exact rfl | assumption) (by decide) ?_
  refine by_iload_n rfl ?_
  simp (disch := first | exact Nat.ne_of_beq_eq_false rfl | exact rfl | omega) only [nI_add, xa_sub, xa_mul, pk_div, nm_mod, xa_shr, xa_and7, xa_and1, xa_and255, xa_by_and, nI_m1, Nat.add_sub_cancel, Nat.reducePow, Nat.zero_add, Nat.add_zero, Nat.reduceAdd, Nat.reduceMul, Nat.reduceSub, xf_same, xq_ff, xq_fo, xf_1, xf_2, xs_1, xs_2, xs_same, xq_so, xj_1, xj_2, xj_same, xq_jo, xq_sa1, xq_same, xq_other, upd_s, oI_n, oI_s, xf_102_7 j3, xf_102_8 j3, xf_102_12 j3, m6, m7]
  first | refine by_iald (by first | exact rfl | assumption | exact ps_1 hpp | exact ps_2 hpp | exact ps_3 hpp | exact ps_4 hpp | exact ps_5 hpp | exact ps_6 hpp | exact ps_7 hpp | exact ps_8 hpp | exact ps_9 hpp | exact ps_10 hpp | exact ps_11 hpp | exact ps_15 hpp | exact ps_16 hpp | exact ps_17 hpp | exact ps_18 hpp | exact ps_19 hpp | exact ps_21 hpp | exact ps_22 hpp | exact ps_23 hpp | exact ps_24 hpp) ⟨by omega, by omega⟩ ?_ | refine by_tald rfl rfl ⟨by omega, by omega⟩ ?_
  refine by_istore (by rw [ml_212]; decide) ?_
  refine by_aload_n rfl ?_
  refine by_getf cn_212 fl_12_34 (by first | exact rfl | assumption) (by decide) ?_
  refine by_iload_n rfl ?_
  refine by_aload_n rfl ?_
  refine by_iconst ci_3 ?_
  refine by_aload_n rfl ?_
  refine by_iconst ci_2 ?_
  refine by_iload_n rfl ?_
  refine by_iload_n rfl ?_
  simp (disch := first | exact Nat.ne_of_beq_eq_false rfl | exact rfl | omega) only [nI_add, xa_sub, xa_mul, pk_div, nm_mod, xa_shr, xa_and7, xa_and1, xa_and255, xa_by_and, nI_m1, Nat.add_sub_cancel, Nat.reducePow, Nat.zero_add, Nat.add_zero, Nat.reduceAdd, Nat.reduceMul, Nat.reduceSub, xf_same, xq_ff, xq_fo, xf_1, xf_2, xs_1, xs_2, xs_same, xq_so, xj_1, xj_2, xj_same, xq_jo, xq_sa1, xq_same, xq_other, upd_s, oI_n, oI_s, xv_0, xv_1, xv_2, xv_3, xm_p1, xm_p2, xq_fp, xq_fn, List.filter_nil, Nat.reduceBEq, Bool.not_true, Bool.not_false, Bool.and_true, Bool.and_false, Bool.false_and, Bool.true_and, if_true, if_false, Bool.false_eq_true, reduceIte, xc_i, xc_j, xc_r, xc_n, List.nil_append, List.cons_append, Option.toList_some, Option.toList_none, xf_102_7 j3, xf_102_8 j3, xf_102_12 j3, m6, m7]
  refine by_inv3 cn_212 lk_12_236 (by rw [xe_cnt]; decide) is_213 np_213 cn_213 (by first | exact rfl | assumption) (Nat.le_of_ble_eq_true rfl) ?_
  refine sp_mcell (kk := 2) (ll := c) (rr := c + 1) j3 e3 (by omega) (by decide) (fun _ => ⟨rfl, rfl, by omega, by omega⟩) (fun h4 g4 e4 => ?_)
  have j4 : XF h4 := Fr_XF j3 g4 mg_fin
  with_reducible refine xm_go_blk b_X12_caseTypes_46 k_X12_caseTypes_46 ?_
  refine by_iload rfl ?_
  refine by_inv3 cn_212 lk_12_236 (by rw [xe_cnt]; decide) is_213 np_213 cn_213 (by first | exact rfl | assumption) (Nat.le_of_ble_eq_true rfl) ?_
  refine sp_mcell (kk := 3) (ll := c + 3) (rr := c + 2) j4 e4 (by omega) (by decide) (fun _ => ⟨rfl, rfl, by omega, by omega⟩) (fun h5 g5 e5 => ?_)
  have j5 : XF h5 := Fr_XF j4 g5 mg_fin
  have g05 := Fr_m2 (Fr_m2 g03 g4) g5
  have m5 : h5.1 105 (fi n) = nI (cd (fi n)) := by rw [g05.1 105 (by decide)]; exact x1
  have hS : mcS h (xm_si h5 111 n (nI (c + 4))) n c := ⟨Fr_si (Fr_mg g05) (by decide), Fr_XF j5 (Fr_si (Fr_rf (S := mlR) (T := mgT)) (by decide)) mg_fin, by rw [xs_same, upd_s], fun m hm => by rw [xs_same, upd_o hm, g05.1 111 (by decide)], by rw [xq_so (by omega), g05.1 112 (by decide)]⟩
  have hg := hgo _ _ hS (mgr_si (Or.inl rfl) e5)
  by_cases hv : cd (fi n) = 11
  · rw [if_pos hv] at hg
    rw [hv] at m5
    with_reducible refine xm_go_blk b_X12_caseTypes_51 k_X12_caseTypes_51 ?_
    refine by_iast (by first | exact rfl | assumption | exact ps_1 hpp | exact ps_2 hpp | exact ps_3 hpp | exact ps_4 hpp | exact ps_5 hpp | exact ps_6 hpp | exact ps_7 hpp | exact ps_8 hpp | exact ps_9 hpp | exact ps_10 hpp | exact ps_11 hpp | exact ps_15 hpp | exact ps_16 hpp | exact ps_17 hpp | exact ps_18 hpp | exact ps_19 hpp | exact ps_21 hpp | exact ps_22 hpp | exact ps_23 hpp | exact ps_24 hpp) ⟨by omega, by omega⟩ ?_
    refine by_iconst ci_1 ?_
    refine by_istore (by rw [ml_212]; decide) ?_
    refine by_aload_n rfl ?_
    refine by_getf cn_212 fl_12_16 (by first | exact rfl | assumption) (by decide) ?_
    refine by_iload rfl ?_
    simp (disch := first | exact Nat.ne_of_beq_eq_false rfl | exact rfl | omega) only [nI_add, xa_sub, xa_mul, pk_div, nm_mod, xa_shr, xa_and7, xa_and1, xa_and255, xa_by_and, nI_m1, Nat.add_sub_cancel, Nat.reducePow, Nat.zero_add, Nat.add_zero, Nat.reduceAdd, Nat.reduceMul, Nat.reduceSub, xf_same, xq_ff, xq_fo, xf_1, xf_2, xs_1, xs_2, xs_same, xq_so, xj_1, xj_2, xj_same, xq_jo, xq_sa1, xq_same, xq_other, upd_s, oI_n, oI_s, xf_102_6 j5, m5]
    first | refine by_iald (by first | exact rfl | assumption | exact ps_1 hpp | exact ps_2 hpp | exact ps_3 hpp | exact ps_4 hpp | exact ps_5 hpp | exact ps_6 hpp | exact ps_7 hpp | exact ps_8 hpp | exact ps_9 hpp | exact ps_10 hpp | exact ps_11 hpp | exact ps_15 hpp | exact ps_16 hpp | exact ps_17 hpp | exact ps_18 hpp | exact ps_19 hpp | exact ps_21 hpp | exact ps_22 hpp | exact ps_23 hpp | exact ps_24 hpp) ⟨by omega, by omega⟩ ?_ | refine by_tald rfl rfl ⟨by omega, by omega⟩ ?_
    refine by_bipush cb_11 ?_
    refine by_ic_eq 88 rfl ?_
    simp (disch := first | exact Nat.ne_of_beq_eq_false rfl | exact rfl | omega) only [nI_add, xa_sub, xa_mul, pk_div, nm_mod, xa_shr, xa_and7, xa_and1, xa_and255, xa_by_and, nI_m1, Nat.add_sub_cancel, Nat.reducePow, Nat.zero_add, Nat.add_zero, Nat.reduceAdd, Nat.reduceMul, Nat.reduceSub, xf_same, xq_ff, xq_fo, xf_1, xf_2, xs_1, xs_2, xs_same, xq_so, xj_1, xj_2, xj_same, xq_jo, xq_sa1, xq_same, xq_other, upd_s, oI_n, oI_s, xv_0, xv_1, xv_2, xv_3, xm_p1, xm_p2, xq_fp, xq_fn, List.filter_nil, Nat.reduceBEq, Bool.not_true, Bool.not_false, Bool.and_true, Bool.and_false, Bool.false_and, Bool.true_and, if_true, if_false, Bool.false_eq_true, reduceIte, xc_i, xc_j, xc_r, xc_n, List.nil_append, List.cons_append, Option.toList_some, Option.toList_none, nI_ltJ, nI_leJ, nI_eqJ, nI_ltz, nI_gez, nI_gtz, nI_lez, nI_eqz, m1_ltz, m1_gez, true_imp_iff, false_imp_iff, true_and, and_true, ne_eq, not_false_eq_true, not_true_eq_false, Nat.reduceEqDiff, Nat.reduceLT, Nat.reduceLeDiff, xf_102_6 j5, m5]
    unfold mcL at hg
    exact xm_go_wk (by simp [Value.category]) hg
  · rw [if_neg hv] at hg
    have e0 : (cd (fi n) = 11) = False := eq_false hv
    with_reducible refine xm_go_blk b_X12_caseTypes_51 k_X12_caseTypes_51 ?_
    refine by_iast (by first | exact rfl | assumption | exact ps_1 hpp | exact ps_2 hpp | exact ps_3 hpp | exact ps_4 hpp | exact ps_5 hpp | exact ps_6 hpp | exact ps_7 hpp | exact ps_8 hpp | exact ps_9 hpp | exact ps_10 hpp | exact ps_11 hpp | exact ps_15 hpp | exact ps_16 hpp | exact ps_17 hpp | exact ps_18 hpp | exact ps_19 hpp | exact ps_21 hpp | exact ps_22 hpp | exact ps_23 hpp | exact ps_24 hpp) ⟨by omega, by omega⟩ ?_
    refine by_iconst ci_1 ?_
    refine by_istore (by rw [ml_212]; decide) ?_
    refine by_aload_n rfl ?_
    refine by_getf cn_212 fl_12_16 (by first | exact rfl | assumption) (by decide) ?_
    refine by_iload rfl ?_
    simp (disch := first | exact Nat.ne_of_beq_eq_false rfl | exact rfl | omega) only [nI_add, xa_sub, xa_mul, pk_div, nm_mod, xa_shr, xa_and7, xa_and1, xa_and255, xa_by_and, nI_m1, Nat.add_sub_cancel, Nat.reducePow, Nat.zero_add, Nat.add_zero, Nat.reduceAdd, Nat.reduceMul, Nat.reduceSub, xf_same, xq_ff, xq_fo, xf_1, xf_2, xs_1, xs_2, xs_same, xq_so, xj_1, xj_2, xj_same, xq_jo, xq_sa1, xq_same, xq_other, upd_s, oI_n, oI_s, xf_102_6 j5, m5, e0]
    first | refine by_iald (by first | exact rfl | assumption | exact ps_1 hpp | exact ps_2 hpp | exact ps_3 hpp | exact ps_4 hpp | exact ps_5 hpp | exact ps_6 hpp | exact ps_7 hpp | exact ps_8 hpp | exact ps_9 hpp | exact ps_10 hpp | exact ps_11 hpp | exact ps_15 hpp | exact ps_16 hpp | exact ps_17 hpp | exact ps_18 hpp | exact ps_19 hpp | exact ps_21 hpp | exact ps_22 hpp | exact ps_23 hpp | exact ps_24 hpp) ⟨by omega, by omega⟩ ?_ | refine by_tald rfl rfl ⟨by omega, by omega⟩ ?_
    refine by_bipush cb_11 ?_
    refine by_ic_eq 88 rfl ?_
    simp (disch := first | exact Nat.ne_of_beq_eq_false rfl | exact rfl | omega) only [nI_add, xa_sub, xa_mul, pk_div, nm_mod, xa_shr, xa_and7, xa_and1, xa_and255, xa_by_and, nI_m1, Nat.add_sub_cancel, Nat.reducePow, Nat.zero_add, Nat.add_zero, Nat.reduceAdd, Nat.reduceMul, Nat.reduceSub, xf_same, xq_ff, xq_fo, xf_1, xf_2, xs_1, xs_2, xs_same, xq_so, xj_1, xj_2, xj_same, xq_jo, xq_sa1, xq_same, xq_other, upd_s, oI_n, oI_s, xv_0, xv_1, xv_2, xv_3, xm_p1, xm_p2, xq_fp, xq_fn, List.filter_nil, Nat.reduceBEq, Bool.not_true, Bool.not_false, Bool.and_true, Bool.and_false, Bool.false_and, Bool.true_and, if_true, if_false, Bool.false_eq_true, reduceIte, xc_i, xc_j, xc_r, xc_n, List.nil_append, List.cons_append, Option.toList_some, Option.toList_none, nI_ltJ, nI_leJ, nI_eqJ, nI_ltz, nI_gez, nI_gtz, nI_lez, nI_eqz, m1_ltz, m1_gez, true_imp_iff, false_imp_iff, true_and, and_true, ne_eq, not_false_eq_true, not_true_eq_false, Nat.reduceEqDiff, Nat.reduceLT, Nat.reduceLeDiff, xf_102_6 j5, m5, e0]
    unfold mcL at hg
    exact xm_go_wk (by simp [Value.category]) hg
theorem mc_67 {rt5 : Nat → Nat} (hS : mcS h h7 n c) (f1 : fi n < N) (hN : N ≤ 2000) (hcc : c ≤ 14020) (f6 : h.1 111 (fi n) = nI (src (fi n))) (f8 : src (fi n) < c) (hne : fi n ≠ n) (hg : mgr h7 (c + 5) (cK k c) (cL l c) (cR r c) rt5 es)
    (hT : ∀ h9 rt', mcS h h9 n c → mgr h9 (c + 5 + 1) (updN (cK k c) (c + 5) 3) (updN (cL l c) (c + 5) c) (updN (cR r c) (c + 5) (c + 2)) rt' ((src (fi n), c + 5) :: es) → xm_go (XE sc) (xm_T (XE sc) (d + 2)) 212 post 88 (mcL n (fi n) (se n) c 1) [] h9)
    (hB : ∀ h9, mcS h h9 n c → (∀ V, ty_vok V → ty_all (c + 5 + 1) (updN (cK k c) (c + 5) 3) (updN (cL l c) (c + 5) c) (updN (cR r c) (c + 5) (c + 2)) V → ty_pd ((src (fi n), c + 5) :: es) V → False) → xm_go (XE sc) (xm_T (XE sc) (d + 2)) 212 post 88 (mcL n (fi n) (se n) c 0) [] h9) :
    xm_go (XE sc) (xm_T (XE sc) (d + 2)) 212 post 67 (mcL n (fi n) (se n) c 1) [] h7 := by
  have hS0 := hS
  obtain ⟨s1, s2, s3, s4, s5⟩ := hS0
  have m6 : h7.1 111 (fi n) = nI (src (fi n)) := by rw [s4 _ hne]; exact f6
  unfold mcL at hT hB ⊢
  with_reducible refine xm_go_blk b_X12_caseTypes_67 k_X12_caseTypes_67 ?_
  refine by_aload_n rfl ?_
  refine by_aload_n rfl ?_
  refine by_getf cn_212 fl_12_34 (by first | exact rfl | assumption) (by decide) ?_
  refine by_iload rfl ?_
  simp (disch := first | exact Nat.ne_of_beq_eq_false rfl | exact rfl | omega) only [nI_add, xa_sub, xa_mul, pk_div, nm_mod, xa_shr, xa_and7, xa_and1, xa_and255, xa_by_and, nI_m1, Nat.add_sub_cancel, Nat.reducePow, Nat.zero_add, Nat.add_zero, Nat.reduceAdd, Nat.reduceMul, Nat.reduceSub, xf_same, xq_ff, xq_fo, xf_1, xf_2, xs_1, xs_2, xs_same, xq_so, xj_1, xj_2, xj_same, xq_jo, xq_sa1, xq_same, xq_other, upd_s, oI_n, oI_s, xf_102_12 s2, m6]
  first | refine by_iald (by first | exact rfl | assumption | exact ps_1 hpp | exact ps_2 hpp | exact ps_3 hpp | exact ps_4 hpp | exact ps_5 hpp | exact ps_6 hpp | exact ps_7 hpp | exact ps_8 hpp | exact ps_9 hpp | exact ps_10 hpp | exact ps_11 hpp | exact ps_15 hpp | exact ps_16 hpp | exact ps_17 hpp | exact ps_18 hpp | exact ps_19 hpp | exact ps_21 hpp | exact ps_22 hpp | exact ps_23 hpp | exact ps_24 hpp) ⟨by omega, by omega⟩ ?_ | refine by_tald rfl rfl ⟨by omega, by omega⟩ ?_
  refine by_aload_n rfl ?_
  refine by_iconst ci_3 ?_
  refine by_iload_n rfl ?_
  refine by_iload rfl ?_
  simp (disch := first | exact Nat.ne_of_beq_eq_false rfl | exact rfl | omega) only [nI_add, xa_sub, xa_mul, pk_div, nm_mod, xa_shr, xa_and7, xa_and1, xa_and255, xa_by_and, nI_m1, Nat.add_sub_cancel, Nat.reducePow, Nat.zero_add, Nat.add_zero, Nat.reduceAdd, Nat.reduceMul, Nat.reduceSub, xf_same, xq_ff, xq_fo, xf_1, xf_2, xs_1, xs_2, xs_same, xq_so, xj_1, xj_2, xj_same, xq_jo, xq_sa1, xq_same, xq_other, upd_s, oI_n, oI_s, xv_0, xv_1, xv_2, xv_3, xm_p1, xm_p2, xq_fp, xq_fn, List.filter_nil, Nat.reduceBEq, Bool.not_true, Bool.not_false, Bool.and_true, Bool.and_false, Bool.false_and, Bool.true_and, if_true, if_false, Bool.false_eq_true, reduceIte, xc_i, xc_j, xc_r, xc_n, List.nil_append, List.cons_append, Option.toList_some, Option.toList_none, xf_102_12 s2, m6]
  refine by_inv3 cn_212 lk_12_236 (by rw [xe_cnt]; decide) is_213 np_213 cn_213 (by first | exact rfl | assumption) (Nat.le_of_ble_eq_true rfl) ?_
  refine sp_mcell (kk := 3) (ll := c) (rr := c + 2) s2 hg (by omega) (by decide) (fun _ => ⟨rfl, rfl, by omega, by omega⟩) (fun h8 g8 e8 => ?_)
  have hS8 := mcS_st hS g8
  with_reducible refine xm_go_blk b_X12_caseTypes_83 k_X12_caseTypes_83 ?_
  refine by_inv2 cn_212 lk_12_250 (by rw [xe_cnt]; decide) is_242 np_242 cn_242 (by first | exact rfl | assumption) (Nat.le_of_ble_eq_true rfl) ?_
  refine sp_mjoinG hS8.2.1 e8 (by omega) (by omega) (by omega) (fun h9 rt' g9 e9 => ?_) (fun h9 g9 hbad => ?_)
  · with_reducible refine xm_go_blk b_X12_caseTypes_86 k_X12_caseTypes_86 ?_
    refine by_istore (by rw [ml_212]; decide) ?_
    refine by_nil ?_
    simp (disch := first | exact Nat.ne_of_beq_eq_false rfl | exact rfl | omega) only [nI_add, xa_sub, xa_mul, pk_div, nm_mod, xa_shr, xa_and7, xa_and1, xa_and255, xa_by_and, nI_m1, Nat.add_sub_cancel, Nat.reducePow, Nat.zero_add, Nat.add_zero, Nat.reduceAdd, Nat.reduceMul, Nat.reduceSub, xf_same, xq_ff, xq_fo, xf_1, xf_2, xs_1, xs_2, xs_same, xq_so, xj_1, xj_2, xj_same, xq_jo, xq_sa1, xq_same, xq_other, upd_s, oI_n, oI_s, xv_0, xv_1, xv_2, xv_3, xm_p1, xm_p2, xq_fp, xq_fn, List.filter_nil, Nat.reduceBEq, Bool.not_true, Bool.not_false, Bool.and_true, Bool.and_false, Bool.false_and, Bool.true_and, if_true, if_false, Bool.false_eq_true, reduceIte, xc_i, xc_j, xc_r, xc_n, List.nil_append, List.cons_append, Option.toList_some, Option.toList_none]
    exact xm_go_wk (by simp [Value.category]) (hT h9 rt' (mcS_j hS8 g9) e9)
  · with_reducible refine xm_go_blk b_X12_caseTypes_86 k_X12_caseTypes_86 ?_
    refine by_istore (by rw [ml_212]; decide) ?_
    refine by_nil ?_
    simp (disch := first | exact Nat.ne_of_beq_eq_false rfl | exact rfl | omega) only [nI_add, xa_sub, xa_mul, pk_div, nm_mod, xa_shr, xa_and7, xa_and1, xa_and255, xa_by_and, nI_m1, Nat.add_sub_cancel, Nat.reducePow, Nat.zero_add, Nat.add_zero, Nat.reduceAdd, Nat.reduceMul, Nat.reduceSub, xf_same, xq_ff, xq_fo, xf_1, xf_2, xs_1, xs_2, xs_same, xq_so, xj_1, xj_2, xj_same, xq_jo, xq_sa1, xq_same, xq_other, upd_s, oI_n, oI_s, xv_0, xv_1, xv_2, xv_3, xm_p1, xm_p2, xq_fp, xq_fn, List.filter_nil, Nat.reduceBEq, Bool.not_true, Bool.not_false, Bool.and_true, Bool.and_false, Bool.false_and, Bool.true_and, if_true, if_false, Bool.false_eq_true, reduceIte, xc_i, xc_j, xc_r, xc_n, List.nil_append, List.cons_append, Option.toList_some, Option.toList_none]
    exact xm_go_wk (by simp [Value.category]) (hB h9 (mcS_j hS8 g9) hbad)
end MC
