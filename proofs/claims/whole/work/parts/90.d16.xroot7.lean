/-! ===== a program or none; root and typeRoot of both ===== -/
abbrev PgD := List Nat × List pr_D × Nat × (Nat → Ty) × (Nat → Ty)
def pgN : Option PgD → Nat
  | none => 0
  | some q => q.2.1.length
theorem tyT_uniq {h : xm_H} {pp cn cn2 : Nat} {tr tr2 : Nat → Ty} {K L R K2 L2 R2 : Nat → Nat} (q : tyT h pp cn tr K L R) (q2 : tyT h pp cn2 tr2 K2 L2 R2) (hc : cn ≤ 14026) (hc2 : cn2 ≤ 14026) : cn = cn2 ∧ ∀ i, i < cn → tr i = tr2 i := by
  have e : cn = cn2 := by
    have := q.1.symm.trans q2.1
    exact (nI_eq (by omega) (by omega)).mp (by injection this)
  refine ⟨e, fun i => ?_⟩
  induction i using Nat.strongRecOn with
  | ind i ih =>
    intro hi
    obtain ⟨⟨s1, s2, s3⟩, a1, _, b1, b2, b3, _⟩ := q.2.1 i hi
    obtain ⟨⟨t1, t2, t3⟩, c1, _, d1, d2, d3, _⟩ := q2.2.1 i (by omega)
    have eK : K i = K2 i := (nI_eq (by omega) (by omega)).mp (b1.symm.trans d1)
    rcases (by omega : K i = 0 ∨ K i = 1 ∨ K i = 2) with z | z | z
    · rw [a1, c1, ← eK, z]; rfl
    · have l1 := s3 (by omega)
      have l2 := t3 (by omega)
      have eL : L i = L2 i := (nI_eq (by omega) (by omega)).mp (b2.symm.trans d2)
      have eR : R i = R2 i := (nI_eq (by omega) (by omega)).mp (b3.symm.trans d3)
      rw [a1, c1, ← eK, z, ← eL, ← eR]
      show Lean.Grind.CommRing.Expr.add _ _ = Lean.Grind.CommRing.Expr.add _ _
      rw [ih _ l1.1 (by omega), ih _ l1.2 (by omega)]
    · have l1 := s3 (by omega)
      have l2 := t3 (by omega)
      have eL : L i = L2 i := (nI_eq (by omega) (by omega)).mp (b2.symm.trans d2)
      have eR : R i = R2 i := (nI_eq (by omega) (by omega)).mp (b3.symm.trans d3)
      rw [a1, c1, ← eK, z, ← eL, ← eR]
      show Lean.Grind.CommRing.Expr.mul _ _ = Lean.Grind.CommRing.Expr.mul _ _
      rw [ih _ l1.1 (by omega), ih _ l1.2 (by omega)]
/-- the roots of types of the program pp, if they are known -/
def twA (h : xm_H) (pp : Nat) : Prop := h.2.2 40 6 = .int (nI 0) ∨ (h.2.2 40 6 = .int (nI 1) ∧ ∀ cn tr K L R, cn ≤ 2826 → tyT h pp cn tr K L R → twQ h tr cn)
/-- the class's program: none, or a loaded one with its roots -/
def xPg (h : xm_H) (pp : Nat) : Option PgD → Prop
  | none => h.2.2 pp 0 = .int (nI 0)
  | some (l, ps, a, S, T) => PG h pp l ps a S T ∧ nwI h ps ∧ twA h pp
/-- the reference's program -/
def mPg (h : xm_H) : Option PgD → Prop
  | none => h.2.2 102 19 = .int (nI 0) ∧ h.2.2 102 33 = .int (nI 0)
  | some (l, ps, a, S, T) => PK h l ps a S T
theorem xPg_c {h : xm_H} {pp : Nat} : ∀ {o : Option PgD}, xPg h pp o → h.2.2 pp 0 = .int (nI (pgN o)) ∧ pgN o ≤ 400
  | none, e => ⟨e, Nat.zero_le _⟩
  | some (l, ps, a, S, T), e => ⟨e.1.1.2.2.2.1, e.1.1.2.2.1⟩
theorem mPg_c {h : xm_H} : ∀ {o : Option PgD}, mPg h o → h.2.2 102 19 = .int (nI (pgN o)) ∧ pgN o ≤ 400
  | none, e => ⟨e.1, Nat.zero_le _⟩
  | some (l, ps, a, S, T), e => ⟨e.2.2.2.2.2.1, e.2.2.1⟩
/-- a call's node and word -/
def ndW (o : Option PgD) (i w : Int32) (n k : Nat) : Prop := i = nI n ∧ n < pgN o ∧ w = nI k ∧ k < 8
theorem PF_nw {h : xm_H} {pp a : Nat} {l : List Nat} {ps : List pr_D} {S T : Nat → Ty} (hP : PF h pp l ps a S T) : ∃ hx, nwP h pp ps hx := by
  obtain ⟨a1, a2, a3, a4, _, _, ⟨hx, nh, b1, b2, b3⟩, _⟩ := hP
  exact ⟨hx, a1, a3, a4, fun n hn => ⟨(b3 n hn).1, (b3 n hn).2.1, (b3 n hn).2.2.1, (b3 n hn).2.2.2.1, fun e => ⟨((b3 n hn).2.2.2.2 e).1, by have := ((b3 n hn).2.2.2.2 e).2.1; omega, ((b3 n hn).2.2.2.2 e).2.2⟩⟩⟩
section RX
variable {sc : xm_Sc} {d pp : Nat} {o : Option PgD} {h : xm_H} {post : xm_Po} {px : String → xm_H → Prop} {i w : Int32}
theorem sp_xroot (hF : XF h) (hpp : pp = 52 ∨ pp = 77) (h9 : h.2.2 0 9 = .ref pp) (hl : lvI h) (hP : xPg h pp o)
    (hA : (∀ n k, ¬ ndW o i w n k) → px "java/util/NoSuchElementException" h)
    (hC : ∀ n k l ps a S T h' Q, o = some (l, ps, a, S, T) → ndW o i w n k → Fr [41, 43, 44] [(40, 4), (40, 5)] h h' → lvI h' → nwI h' ps → rtA ps Q ps.length → post (some (.long (lwd (Q n k)))) h') :
    xm_goX (XE sc) (xm_T (XE sc) (d + 5)) 187 post tw_X11_root px 0 [(0, .ref 0), (1, .int i), (2, .int w)] [] h := by
  obtain ⟨hc, hc4⟩ := xPg_c hP
  with_reducible refine xx_blk b_X11_root_0 k_X11_root_0 ?_
  refine by_aload_n rfl ?_
  refine by_iload_n rfl ?_
  refine by_inv1 cn_187 lk_11_201 (by rw [xe_cnt]; decide) is_180 np_180 cn_180 (by first | exact rfl | assumption) (Nat.le_of_ble_eq_true rfl) ?_
  refine sp_xisNode hpp h9 hc (by omega) ⟨fun n hn hlt => ?_, fun hno => ?_⟩
  · subst hn
    with_reducible refine xx_blk b_X11_root_5 k_X11_root_5 ?_
    refine by_if_eq 18 rfl ?_
    simp (disch := first | exact Nat.ne_of_beq_eq_false rfl | exact rfl | omega) only [nI_add, xa_sub, xa_mul, pk_div, nm_mod, xa_shr, xa_and7, xa_and1, xa_and255, xa_by_and, nI_m1, Nat.add_sub_cancel, Nat.reducePow, Nat.zero_add, Nat.add_zero, Nat.reduceAdd, Nat.reduceMul, Nat.reduceSub, xf_same, xq_ff, xq_fo, xf_1, xf_2, xs_1, xs_2, xs_same, xq_so, xj_1, xj_2, xj_same, xq_jo, xq_sa1, xq_same, xq_other, upd_s, oI_n, oI_s, xv_0, xv_1, xv_2, xv_3, xm_p1, xm_p2, xq_fp, xq_fn, List.filter_nil, Nat.reduceBEq, Bool.not_true, Bool.not_false, Bool.and_true, Bool.and_false, Bool.false_and, Bool.true_and, if_true, if_false, Bool.false_eq_true, reduceIte, xc_i, xc_j, xc_r, xc_n, List.nil_append, List.cons_append, Option.toList_some, Option.toList_none, nI_ltJ, nI_leJ, nI_eqJ, nI_ltz, nI_gez, nI_gtz, nI_lez, nI_eqz, m1_ltz, m1_gez, true_imp_iff, false_imp_iff, true_and, and_true, ne_eq, not_false_eq_true, not_true_eq_false, Nat.reduceEqDiff, Nat.reduceLT, Nat.reduceLeDiff]
    with_reducible refine xx_blk b_X11_root_8 k_X11_root_8 ?_
    refine by_iload_n rfl ?_
    refine by_if_lt 18 rfl ?_
    simp (disch := first | exact Nat.ne_of_beq_eq_false rfl | exact rfl | omega) only [nI_add, xa_sub, xa_mul, pk_div, nm_mod, xa_shr, xa_and7, xa_and1, xa_and255, xa_by_and, nI_m1, Nat.add_sub_cancel, Nat.reducePow, Nat.zero_add, Nat.add_zero, Nat.reduceAdd, Nat.reduceMul, Nat.reduceSub, xf_same, xq_ff, xq_fo, xf_1, xf_2, xs_1, xs_2, xs_same, xq_so, xj_1, xj_2, xj_same, xq_jo, xq_sa1, xq_same, xq_other, upd_s, oI_n, oI_s, xv_0, xv_1, xv_2, xv_3, xm_p1, xm_p2, xq_fp, xq_fn, List.filter_nil, Nat.reduceBEq, Bool.not_true, Bool.not_false, Bool.and_true, Bool.and_false, Bool.false_and, Bool.true_and, if_true, if_false, Bool.false_eq_true, reduceIte, xc_i, xc_j, xc_r, xc_n, List.nil_append, List.cons_append, Option.toList_some, Option.toList_none, nI_ltJ, nI_leJ, nI_eqJ, nI_ltz, nI_gez, nI_gtz, nI_lez, nI_eqz, m1_ltz, m1_gez, true_imp_iff, false_imp_iff, true_and, and_true, ne_eq, not_false_eq_true, not_true_eq_false, Nat.reduceEqDiff, Nat.reduceLT, Nat.reduceLeDiff]
    refine ⟨fun q => xx_thr rfl (hA (fun n2 k z => ?_)), fun q => ?_⟩
    · rw [z.2.2.1] at q; exact nI_pos (by have := z.2.2.2; omega) q
    obtain ⟨k, hk, rfl⟩ := nI_of q
    with_reducible refine xx_blk b_X11_root_12 k_X11_root_12 ?_
    refine by_iload_n rfl ?_
    refine by_bipush cb_7 ?_
    refine by_ic_le 28 rfl ?_
    simp (disch := first | exact Nat.ne_of_beq_eq_false rfl | exact rfl | omega) only [nI_add, xa_sub, xa_mul, pk_div, nm_mod, xa_shr, xa_and7, xa_and1, xa_and255, xa_by_and, nI_m1, Nat.add_sub_cancel, Nat.reducePow, Nat.zero_add, Nat.add_zero, Nat.reduceAdd, Nat.reduceMul, Nat.reduceSub, xf_same, xq_ff, xq_fo, xf_1, xf_2, xs_1, xs_2, xs_same, xq_so, xj_1, xj_2, xj_same, xq_jo, xq_sa1, xq_same, xq_other, upd_s, oI_n, oI_s, xv_0, xv_1, xv_2, xv_3, xm_p1, xm_p2, xq_fp, xq_fn, List.filter_nil, Nat.reduceBEq, Bool.not_true, Bool.not_false, Bool.and_true, Bool.and_false, Bool.false_and, Bool.true_and, if_true, if_false, Bool.false_eq_true, reduceIte, xc_i, xc_j, xc_r, xc_n, List.nil_append, List.cons_append, Option.toList_some, Option.toList_none, nI_ltJ, nI_leJ, nI_eqJ, nI_ltz, nI_gez, nI_gtz, nI_lez, nI_eqz, m1_ltz, m1_gez, true_imp_iff, false_imp_iff, true_and, and_true, ne_eq, not_false_eq_true, not_true_eq_false, Nat.reduceEqDiff, Nat.reduceLT, Nat.reduceLeDiff]
    refine ⟨fun q2 => ?_, fun q2 => xx_thr rfl (hA (fun n2 k2 z => ?_))⟩
    · obtain _ | ⟨l, ps, a, S, T⟩ := o
      · exact absurd hlt (Nat.not_lt_zero _)
      obtain ⟨hx, hnw⟩ := PF_nw hP.1.1
      refine xx_go ?_
      with_reducible refine xm_go_blk b_X11_root_28 k_X11_root_28 ?_
      refine by_aload_n rfl ?_
      refine by_getf cn_187 fl_11_48 (by first | exact rfl | assumption) (by decide) ?_
      refine by_aload_n rfl ?_
      refine by_getf cn_187 fl_11_71 (by first | exact rfl | assumption) (by decide) ?_
      refine by_iload_n rfl ?_
      refine by_iload_n rfl ?_
      simp (disch := first | exact Nat.ne_of_beq_eq_false rfl | exact rfl | omega) only [nI_add, xa_sub, xa_mul, pk_div, nm_mod, xa_shr, xa_and7, xa_and1, xa_and255, xa_by_and, nI_m1, Nat.add_sub_cancel, Nat.reducePow, Nat.zero_add, Nat.add_zero, Nat.reduceAdd, Nat.reduceMul, Nat.reduceSub, xf_same, xq_ff, xq_fo, xf_1, xf_2, xs_1, xs_2, xs_same, xq_so, xj_1, xj_2, xj_same, xq_jo, xq_sa1, xq_same, xq_other, upd_s, oI_n, oI_s, xv_0, xv_1, xv_2, xv_3, xm_p1, xm_p2, xq_fp, xq_fn, List.filter_nil, Nat.reduceBEq, Bool.not_true, Bool.not_false, Bool.and_true, Bool.and_false, Bool.false_and, Bool.true_and, if_true, if_false, Bool.false_eq_true, reduceIte, xc_i, xc_j, xc_r, xc_n, List.nil_append, List.cons_append, Option.toList_some, Option.toList_none, xf_0_6 hF, h9]
      refine by_inv3 cn_187 lk_11_227 (by rw [xe_cnt]; decide) is_123 np_123 cn_123 (by first | exact rfl | assumption) (Nat.le_of_ble_eq_true rfl) ?_
      refine sp_nodeWord (d := d) hF hpp hnw hl hP.2.1 hlt (by omega) (fun h' Q f l1 n1 r1 => ?_)
      with_reducible refine xm_go_blk b_X11_root_41 k_X11_root_41 ?_
      refine by_lret ry_187 ?_
      exact hC n k l ps a S T h' Q rfl ⟨rfl, hlt, rfl, by omega⟩ f l1 n1 r1
    · have := (nI_eq hk (by have := z.2.2.2; omega)).mp z.2.2.1
      have := z.2.2.2; omega
  · with_reducible refine xx_blk b_X11_root_5 k_X11_root_5 ?_
    refine by_if_eq 18 rfl ?_
    simp (disch := first | exact Nat.ne_of_beq_eq_false rfl | exact rfl | omega) only [nI_add, xa_sub, xa_mul, pk_div, nm_mod, xa_shr, xa_and7, xa_and1, xa_and255, xa_by_and, nI_m1, Nat.add_sub_cancel, Nat.reducePow, Nat.zero_add, Nat.add_zero, Nat.reduceAdd, Nat.reduceMul, Nat.reduceSub, xf_same, xq_ff, xq_fo, xf_1, xf_2, xs_1, xs_2, xs_same, xq_so, xj_1, xj_2, xj_same, xq_jo, xq_sa1, xq_same, xq_other, upd_s, oI_n, oI_s, xv_0, xv_1, xv_2, xv_3, xm_p1, xm_p2, xq_fp, xq_fn, List.filter_nil, Nat.reduceBEq, Bool.not_true, Bool.not_false, Bool.and_true, Bool.and_false, Bool.false_and, Bool.true_and, if_true, if_false, Bool.false_eq_true, reduceIte, xc_i, xc_j, xc_r, xc_n, List.nil_append, List.cons_append, Option.toList_some, Option.toList_none, nI_ltJ, nI_leJ, nI_eqJ, nI_ltz, nI_gez, nI_gtz, nI_lez, nI_eqz, m1_ltz, m1_gez, true_imp_iff, false_imp_iff, true_and, and_true, ne_eq, not_false_eq_true, not_true_eq_false, Nat.reduceEqDiff, Nat.reduceLT, Nat.reduceLeDiff]
    exact xx_thr rfl (hA (fun n k z => hno n z.2.1 z.1))
theorem sp_mroot (hF : XF h) (hP : mPg h o)
    (hA : (∀ n k, ¬ ndW o i w n k) → post (some (.long (lN 0))) (xm_sf h 102 0 (.int (nI 1))))
    (hC : ∀ n k l ps a S T Q, o = some (l, ps, a, S, T) → ndW o i w n k → rtA ps Q ps.length → post (some (.long (lwd (Q n k)))) (xm_sf h 102 0 (.int (nI 0)))) :
    xm_T (XE sc) (d + 2) 287 [.ref 102, .int i, .int w] h post := by
  obtain ⟨hc, hc4⟩ := mPg_c hP
  refine xq_in rfl ?_
  simp only [xq_a0, xq_aI, xq_aJ, xq_aR, Nat.reduceAdd]
  with_reducible refine xm_go_blk b_X12_root_0 k_X12_root_0 ?_
  refine by_aload_n rfl ?_
  refine by_aload_n rfl ?_
  refine by_iload_n rfl ?_
  refine by_inv1 cn_287 lk_12_561 (by rw [xe_cnt]; decide) is_232 np_232 cn_232 (by first | exact rfl | assumption) (Nat.le_of_ble_eq_true rfl) ?_
  refine sp_misNode hc (by omega) ⟨fun n hn hlt => ?_, fun hno => ?_⟩
  · subst hn
    with_reducible refine xm_go_blk b_X12_root_6 k_X12_root_6 ?_
    refine by_if_eq 23 rfl ?_
    simp (disch := first | exact Nat.ne_of_beq_eq_false rfl | exact rfl | omega) only [nI_add, xa_sub, xa_mul, pk_div, nm_mod, xa_shr, xa_and7, xa_and1, xa_and255, xa_by_and, nI_m1, Nat.add_sub_cancel, Nat.reducePow, Nat.zero_add, Nat.add_zero, Nat.reduceAdd, Nat.reduceMul, Nat.reduceSub, xf_same, xq_ff, xq_fo, xf_1, xf_2, xs_1, xs_2, xs_same, xq_so, xj_1, xj_2, xj_same, xq_jo, xq_sa1, xq_same, xq_other, upd_s, oI_n, oI_s, xv_0, xv_1, xv_2, xv_3, xm_p1, xm_p2, xq_fp, xq_fn, List.filter_nil, Nat.reduceBEq, Bool.not_true, Bool.not_false, Bool.and_true, Bool.and_false, Bool.false_and, Bool.true_and, if_true, if_false, Bool.false_eq_true, reduceIte, xc_i, xc_j, xc_r, xc_n, List.nil_append, List.cons_append, Option.toList_some, Option.toList_none, nI_ltJ, nI_leJ, nI_eqJ, nI_ltz, nI_gez, nI_gtz, nI_lez, nI_eqz, m1_ltz, m1_gez, true_imp_iff, false_imp_iff, true_and, and_true, ne_eq, not_false_eq_true, not_true_eq_false, Nat.reduceEqDiff, Nat.reduceLT, Nat.reduceLeDiff]
    with_reducible refine xm_go_blk b_X12_root_9 k_X12_root_9 ?_
    refine by_iload_n rfl ?_
    refine by_iconst ci_0 ?_
    refine by_bipush cb_7 ?_
    refine by_ins3 cn_287 lk_12_211 (by rw [xe_cnt]; decide) is_319 np_319 (Nat.le_of_ble_eq_true rfl) ?_
    refine sp_within ?_
    by_cases hw : nI 0 ≤ w ∧ w ≤ nI 7
    · rw [if_pos hw]
      obtain ⟨k, hk, rfl⟩ := nI_of (Int32.not_lt.mpr hw.1)
      have hk8 : k < 8 := by have := (nI_leI hk (by omega)).mp hw.2; omega
      obtain _ | ⟨l, ps, a, S, T⟩ := o
      · exact absurd hlt (Nat.not_lt_zero _)
      have hlt' : n < ps.length := hlt
      have hps : ps.length ≤ 400 := hP.2.2.1
      obtain ⟨k0, b, _, _, cn, tr, K, L, R, _, _, _, ⟨Q, r1, r2⟩, _⟩ := hP.2.2.2.2.2.2.2.2
      with_reducible refine xm_go_blk b_X12_root_16 k_X12_root_16 ?_
      refine by_if_eq 23 rfl ?_
      simp (disch := first | exact Nat.ne_of_beq_eq_false rfl | exact rfl | omega) only [nI_add, xa_sub, xa_mul, pk_div, nm_mod, xa_shr, xa_and7, xa_and1, xa_and255, xa_by_and, nI_m1, Nat.add_sub_cancel, Nat.reducePow, Nat.zero_add, Nat.add_zero, Nat.reduceAdd, Nat.reduceMul, Nat.reduceSub, xf_same, xq_ff, xq_fo, xf_1, xf_2, xs_1, xs_2, xs_same, xq_so, xj_1, xj_2, xj_same, xq_jo, xq_sa1, xq_same, xq_other, upd_s, oI_n, oI_s, xv_0, xv_1, xv_2, xv_3, xm_p1, xm_p2, xq_fp, xq_fn, List.filter_nil, Nat.reduceBEq, Bool.not_true, Bool.not_false, Bool.and_true, Bool.and_false, Bool.false_and, Bool.true_and, if_true, if_false, Bool.false_eq_true, reduceIte, xc_i, xc_j, xc_r, xc_n, List.nil_append, List.cons_append, Option.toList_some, Option.toList_none, nI_ltJ, nI_leJ, nI_eqJ, nI_ltz, nI_gez, nI_gtz, nI_lez, nI_eqz, m1_ltz, m1_gez, true_imp_iff, false_imp_iff, true_and, and_true, ne_eq, not_false_eq_true, not_true_eq_false, Nat.reduceEqDiff, Nat.reduceLT, Nat.reduceLeDiff, xf_102_27 hF, r2 n hlt' k hk8]
      with_reducible refine xm_go_blk b_X12_root_19 k_X12_root_19 ?_
      refine by_iconst ci_0 ?_
      refine by_goto 24 rfl ?_
      with_reducible refine xm_go_blk b_X12_root_24 k_X12_root_24 ?_
      refine by_putf cn_287 fl_12_205 (by first | exact rfl | assumption) (by decide) nf_12_0 ft_12_0 (by first | rfl | assumption) (by first | rfl | assumption) ?_
      refine by_aload_n rfl ?_
      refine by_getf cn_287 fl_12_205 (by first | exact rfl | assumption) (by decide) ?_
      simp (disch := first | exact Nat.ne_of_beq_eq_false rfl | exact rfl | omega) only [nI_add, xa_sub, xa_mul, pk_div, nm_mod, xa_shr, xa_and7, xa_and1, xa_and255, xa_by_and, nI_m1, Nat.add_sub_cancel, Nat.reducePow, Nat.zero_add, Nat.add_zero, Nat.reduceAdd, Nat.reduceMul, Nat.reduceSub, xf_same, xq_ff, xq_fo, xf_1, xf_2, xs_1, xs_2, xs_same, xq_so, xj_1, xj_2, xj_same, xq_jo, xq_sa1, xq_same, xq_other, upd_s, oI_n, oI_s, xf_102_27 hF, r2 n hlt' k hk8]
      refine by_if_le 38 rfl ?_
      simp (disch := first | exact Nat.ne_of_beq_eq_false rfl | exact rfl | omega) only [nI_add, xa_sub, xa_mul, pk_div, nm_mod, xa_shr, xa_and7, xa_and1, xa_and255, xa_by_and, nI_m1, Nat.add_sub_cancel, Nat.reducePow, Nat.zero_add, Nat.add_zero, Nat.reduceAdd, Nat.reduceMul, Nat.reduceSub, xf_same, xq_ff, xq_fo, xf_1, xf_2, xs_1, xs_2, xs_same, xq_so, xj_1, xj_2, xj_same, xq_jo, xq_sa1, xq_same, xq_other, upd_s, oI_n, oI_s, xv_0, xv_1, xv_2, xv_3, xm_p1, xm_p2, xq_fp, xq_fn, List.filter_nil, Nat.reduceBEq, Bool.not_true, Bool.not_false, Bool.and_true, Bool.and_false, Bool.false_and, Bool.true_and, if_true, if_false, Bool.false_eq_true, reduceIte, xc_i, xc_j, xc_r, xc_n, List.nil_append, List.cons_append, Option.toList_some, Option.toList_none, nI_ltJ, nI_leJ, nI_eqJ, nI_ltz, nI_gez, nI_gtz, nI_lez, nI_eqz, m1_ltz, m1_gez, true_imp_iff, false_imp_iff, true_and, and_true, ne_eq, not_false_eq_true, not_true_eq_false, Nat.reduceEqDiff, Nat.reduceLT, Nat.reduceLeDiff, xf_102_27 hF, r2 n hlt' k hk8]
      with_reducible refine xm_go_blk b_X12_root_38 k_X12_root_38 ?_
      refine by_aload_n rfl ?_
      refine by_getf cn_287 fl_12_75 (by first | exact rfl | assumption) (by decide) ?_
      refine by_bipush cb_8 ?_
      refine by_iload_n rfl ?_
      refine by_imul ?_
      refine by_iload_n rfl ?_
      refine by_iadd ?_
      simp (disch := first | exact Nat.ne_of_beq_eq_false rfl | exact rfl | omega) only [nI_add, xa_sub, xa_mul, pk_div, nm_mod, xa_shr, xa_and7, xa_and1, xa_and255, xa_by_and, nI_m1, Nat.add_sub_cancel, Nat.reducePow, Nat.zero_add, Nat.add_zero, Nat.reduceAdd, Nat.reduceMul, Nat.reduceSub, xf_same, xq_ff, xq_fo, xf_1, xf_2, xs_1, xs_2, xs_same, xq_so, xj_1, xj_2, xj_same, xq_jo, xq_sa1, xq_same, xq_other, upd_s, oI_n, oI_s, xf_102_27 hF, r2 n hlt' k hk8]
      first | refine by_iald (by first | exact rfl | assumption | exact ps_1 hpp | exact ps_2 hpp | exact ps_3 hpp | exact ps_4 hpp | exact ps_5 hpp | exact ps_6 hpp | exact ps_7 hpp | exact ps_8 hpp | exact ps_9 hpp | exact ps_10 hpp | exact ps_11 hpp | exact ps_15 hpp | exact ps_16 hpp | exact ps_17 hpp | exact ps_18 hpp | exact ps_19 hpp | exact ps_21 hpp | exact ps_22 hpp | exact ps_23 hpp | exact ps_24 hpp) ⟨by omega, by omega⟩ ?_ | refine by_tald rfl rfl ⟨by omega, by omega⟩ ?_
      refine by_i2l ?_
      refine by_ldc2 (x := lN 4294967295) cn_287 kl_12_430 (by decide) ?_
      refine by_land ?_
      refine by_nil ?_
      simp (disch := first | exact Nat.ne_of_beq_eq_false rfl | exact rfl | omega) only [nI_add, xa_sub, xa_mul, pk_div, nm_mod, xa_shr, xa_and7, xa_and1, xa_and255, xa_by_and, nI_m1, Nat.add_sub_cancel, Nat.reducePow, Nat.zero_add, Nat.add_zero, Nat.reduceAdd, Nat.reduceMul, Nat.reduceSub, xf_same, xq_ff, xq_fo, xf_1, xf_2, xs_1, xs_2, xs_same, xq_so, xj_1, xj_2, xj_same, xq_jo, xq_sa1, xq_same, xq_other, upd_s, oI_n, oI_s, xv_0, xv_1, xv_2, xv_3, xm_p1, xm_p2, xq_fp, xq_fn, List.filter_nil, Nat.reduceBEq, Bool.not_true, Bool.not_false, Bool.and_true, Bool.and_false, Bool.false_and, Bool.true_and, if_true, if_false, Bool.false_eq_true, reduceIte, xc_i, xc_j, xc_r, xc_n, List.nil_append, List.cons_append, Option.toList_some, Option.toList_none, xf_102_27 hF, r2 n hlt' k hk8]
      with_reducible refine xm_go_blk b_X12_root_54 k_X12_root_54 ?_
      refine by_lret ry_287 ?_
      exact hC n k l ps a S T Q rfl ⟨rfl, hlt, rfl, hk8⟩ r1
    · rw [if_neg hw]
      with_reducible refine xm_go_blk b_X12_root_16 k_X12_root_16 ?_
      refine by_if_eq 23 rfl ?_
      simp (disch := first | exact Nat.ne_of_beq_eq_false rfl | exact rfl | omega) only [nI_add, xa_sub, xa_mul, pk_div, nm_mod, xa_shr, xa_and7, xa_and1, xa_and255, xa_by_and, nI_m1, Nat.add_sub_cancel, Nat.reducePow, Nat.zero_add, Nat.add_zero, Nat.reduceAdd, Nat.reduceMul, Nat.reduceSub, xf_same, xq_ff, xq_fo, xf_1, xf_2, xs_1, xs_2, xs_same, xq_so, xj_1, xj_2, xj_same, xq_jo, xq_sa1, xq_same, xq_other, upd_s, oI_n, oI_s, xv_0, xv_1, xv_2, xv_3, xm_p1, xm_p2, xq_fp, xq_fn, List.filter_nil, Nat.reduceBEq, Bool.not_true, Bool.not_false, Bool.and_true, Bool.and_false, Bool.false_and, Bool.true_and, if_true, if_false, Bool.false_eq_true, reduceIte, xc_i, xc_j, xc_r, xc_n, List.nil_append, List.cons_append, Option.toList_some, Option.toList_none, nI_ltJ, nI_leJ, nI_eqJ, nI_ltz, nI_gez, nI_gtz, nI_lez, nI_eqz, m1_ltz, m1_gez, true_imp_iff, false_imp_iff, true_and, and_true, ne_eq, not_false_eq_true, not_true_eq_false, Nat.reduceEqDiff, Nat.reduceLT, Nat.reduceLeDiff]
      with_reducible refine xm_go_blk b_X12_root_23 k_X12_root_23 ?_
      refine by_iconst ci_1 ?_
      refine by_nil ?_
      with_reducible refine xm_go_blk b_X12_root_24 k_X12_root_24 ?_
      refine by_putf cn_287 fl_12_205 (by first | exact rfl | assumption) (by decide) nf_12_0 ft_12_0 (by first | rfl | assumption) (by first | rfl | assumption) ?_
      refine by_aload_n rfl ?_
      refine by_getf cn_287 fl_12_205 (by first | exact rfl | assumption) (by decide) ?_
      simp (disch := first | exact Nat.ne_of_beq_eq_false rfl | exact rfl | omega) only [nI_add, xa_sub, xa_mul, pk_div, nm_mod, xa_shr, xa_and7, xa_and1, xa_and255, xa_by_and, nI_m1, Nat.add_sub_cancel, Nat.reducePow, Nat.zero_add, Nat.add_zero, Nat.reduceAdd, Nat.reduceMul, Nat.reduceSub, xf_same, xq_ff, xq_fo, xf_1, xf_2, xs_1, xs_2, xs_same, xq_so, xj_1, xj_2, xj_same, xq_jo, xq_sa1, xq_same, xq_other, upd_s, oI_n, oI_s]
      refine by_if_le 38 rfl ?_
      simp (disch := first | exact Nat.ne_of_beq_eq_false rfl | exact rfl | omega) only [nI_add, xa_sub, xa_mul, pk_div, nm_mod, xa_shr, xa_and7, xa_and1, xa_and255, xa_by_and, nI_m1, Nat.add_sub_cancel, Nat.reducePow, Nat.zero_add, Nat.add_zero, Nat.reduceAdd, Nat.reduceMul, Nat.reduceSub, xf_same, xq_ff, xq_fo, xf_1, xf_2, xs_1, xs_2, xs_same, xq_so, xj_1, xj_2, xj_same, xq_jo, xq_sa1, xq_same, xq_other, upd_s, oI_n, oI_s, xv_0, xv_1, xv_2, xv_3, xm_p1, xm_p2, xq_fp, xq_fn, List.filter_nil, Nat.reduceBEq, Bool.not_true, Bool.not_false, Bool.and_true, Bool.and_false, Bool.false_and, Bool.true_and, if_true, if_false, Bool.false_eq_true, reduceIte, xc_i, xc_j, xc_r, xc_n, List.nil_append, List.cons_append, Option.toList_some, Option.toList_none, nI_ltJ, nI_leJ, nI_eqJ, nI_ltz, nI_gez, nI_gtz, nI_lez, nI_eqz, m1_ltz, m1_gez, true_imp_iff, false_imp_iff, true_and, and_true, ne_eq, not_false_eq_true, not_true_eq_false, Nat.reduceEqDiff, Nat.reduceLT, Nat.reduceLeDiff]
      with_reducible refine xm_go_blk b_X12_root_34 k_X12_root_34 ?_
      refine by_lconst cl_0 ?_
      refine by_goto 54 rfl ?_
      with_reducible refine xm_go_blk b_X12_root_54 k_X12_root_54 ?_
      refine by_lret ry_287 ?_
      exact hA (fun n2 k z => hw ⟨by rw [z.2.2.1]; exact nI_pos' (by have := z.2.2.2; omega), by rw [z.2.2.1]; exact (nI_leI (by have := z.2.2.2; omega) (by omega)).mpr (by have := z.2.2.2; omega)⟩)
  · with_reducible refine xm_go_blk b_X12_root_6 k_X12_root_6 ?_
    refine by_if_eq 23 rfl ?_
    simp (disch := first | exact Nat.ne_of_beq_eq_false rfl | exact rfl | omega) only [nI_add, xa_sub, xa_mul, pk_div, nm_mod, xa_shr, xa_and7, xa_and1, xa_and255, xa_by_and, nI_m1, Nat.add_sub_cancel, Nat.reducePow, Nat.zero_add, Nat.add_zero, Nat.reduceAdd, Nat.reduceMul, Nat.reduceSub, xf_same, xq_ff, xq_fo, xf_1, xf_2, xs_1, xs_2, xs_same, xq_so, xj_1, xj_2, xj_same, xq_jo, xq_sa1, xq_same, xq_other, upd_s, oI_n, oI_s, xv_0, xv_1, xv_2, xv_3, xm_p1, xm_p2, xq_fp, xq_fn, List.filter_nil, Nat.reduceBEq, Bool.not_true, Bool.not_false, Bool.and_true, Bool.and_false, Bool.false_and, Bool.true_and, if_true, if_false, Bool.false_eq_true, reduceIte, xc_i, xc_j, xc_r, xc_n, List.nil_append, List.cons_append, Option.toList_some, Option.toList_none, nI_ltJ, nI_leJ, nI_eqJ, nI_ltz, nI_gez, nI_gtz, nI_lez, nI_eqz, m1_ltz, m1_gez, true_imp_iff, false_imp_iff, true_and, and_true, ne_eq, not_false_eq_true, not_true_eq_false, Nat.reduceEqDiff, Nat.reduceLT, Nat.reduceLeDiff]
    with_reducible refine xm_go_blk b_X12_root_23 k_X12_root_23 ?_
    refine by_iconst ci_1 ?_
    refine by_nil ?_
    with_reducible refine xm_go_blk b_X12_root_24 k_X12_root_24 ?_
    refine by_putf cn_287 fl_12_205 (by first | exact rfl | assumption) (by decide) nf_12_0 ft_12_0 (by first | rfl | assumption) (by first | rfl | assumption) ?_
    refine by_aload_n rfl ?_
    refine by_getf cn_287 fl_12_205 (by first | exact rfl | assumption) (by decide) ?_
    simp (disch := first | exact Nat.ne_of_beq_eq_false rfl | exact rfl | omega) only [nI_add, xa_sub, xa_mul, pk_div, nm_mod, xa_shr, xa_and7, xa_and1, xa_and255, xa_by_and, nI_m1, Nat.add_sub_cancel, Nat.reducePow, Nat.zero_add, Nat.add_zero, Nat.reduceAdd, Nat.reduceMul, Nat.reduceSub, xf_same, xq_ff, xq_fo, xf_1, xf_2, xs_1, xs_2, xs_same, xq_so, xj_1, xj_2, xj_same, xq_jo, xq_sa1, xq_same, xq_other, upd_s, oI_n, oI_s]
    refine by_if_le 38 rfl ?_
    simp (disch := first | exact Nat.ne_of_beq_eq_false rfl | exact rfl | omega) only [nI_add, xa_sub, xa_mul, pk_div, nm_mod, xa_shr, xa_and7, xa_and1, xa_and255, xa_by_and, nI_m1, Nat.add_sub_cancel, Nat.reducePow, Nat.zero_add, Nat.add_zero, Nat.reduceAdd, Nat.reduceMul, Nat.reduceSub, xf_same, xq_ff, xq_fo, xf_1, xf_2, xs_1, xs_2, xs_same, xq_so, xj_1, xj_2, xj_same, xq_jo, xq_sa1, xq_same, xq_other, upd_s, oI_n, oI_s, xv_0, xv_1, xv_2, xv_3, xm_p1, xm_p2, xq_fp, xq_fn, List.filter_nil, Nat.reduceBEq, Bool.not_true, Bool.not_false, Bool.and_true, Bool.and_false, Bool.false_and, Bool.true_and, if_true, if_false, Bool.false_eq_true, reduceIte, xc_i, xc_j, xc_r, xc_n, List.nil_append, List.cons_append, Option.toList_some, Option.toList_none, nI_ltJ, nI_leJ, nI_eqJ, nI_ltz, nI_gez, nI_gtz, nI_lez, nI_eqz, m1_ltz, m1_gez, true_imp_iff, false_imp_iff, true_and, and_true, ne_eq, not_false_eq_true, not_true_eq_false, Nat.reduceEqDiff, Nat.reduceLT, Nat.reduceLeDiff]
    with_reducible refine xm_go_blk b_X12_root_34 k_X12_root_34 ?_
    refine by_lconst cl_0 ?_
    refine by_goto 54 rfl ?_
    with_reducible refine xm_go_blk b_X12_root_54 k_X12_root_54 ?_
    refine by_lret ry_287 ?_
    exact hA (fun n k z => hno n z.2.1 z.1)
end RX
