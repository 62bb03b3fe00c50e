/-! ===== Finder.solve: its second loop ===== -/
def svR (pp : Nat) : List Nat := [19, 20, 21, pp + 6, pp + 7, pp + 15, pp + 16, pp + 17, pp + 18, pp + 19, pp + 20, pp + 21, pp + 22, pp + 23]
theorem Fr_sv {pp : Nat} {h h' : xm_H} (hf : Fr (rvR pp) (rvT pp) h h') : Fr (svR pp) (rvT pp) h h' := Fr_mo hf (by simp [rvR, svR]) (fun _ z => z)
section SV
variable {sc : xm_Sc} {d pp N c : Nat} {cd fi se nu k l r rt src tgt : Nat → Nat} {es : List (Nat × Nat)} {h : xm_H} {post : xm_Po}
def svJ (h : xm_H) (pp c : Nat) (cd k l r rt src tgt : Nat → Nat) (A B : List Nat) (fd : Nat → Option Ty) (cn : Nat) (tr : Nat → Ty) (K Lf R : Nat → Nat) : Prop :=
  XF h ∧ rvI h pp c k l r rt fd [] cn tr K Lf R ∧ (∀ n ∈ A, cd n ≠ 11 → ∃ i j, i < cn ∧ j < cn ∧ h.1 (pp + 6) n = nI i ∧ fd (rt (src n)) = some (tr i) ∧ h.1 (pp + 7) n = nI j ∧ fd (rt (tgt n)) = some (tr j)) ∧ ∀ n ∈ B, cd n ≠ 11 → h.1 (pp + 6) n = nI (src n) ∧ h.1 (pp + 7) n = nI (tgt n)
/-- the types of one node -/
theorem sv_1 {n i : Nat} {A B : List Nat} {fd : Nat → Option Ty} {cn : Nat} {tr : Nat → Ty} {K Lf R : Nat → Nat} {sz : Int32} (hpp : pp = 52 ∨ pp = 77) (hc : c ≤ 14026) (hJ : svJ h pp c cd k l r rt src tgt A (n :: B) fd cn tr K Lf R) (hn2 : n < 2000) (hnA : n ∉ A) (hnB : n ∉ B) (hv : cd n ≠ 11) (hsc : src n < c) (htc : tgt n < c)
    (hgo : ∀ h' fd' cn' tr' K' L' R', Fr (svR pp) (rvT pp) h h' → svJ h' pp c cd k l r rt src tgt (A ++ [n]) B fd' cn' tr' K' L' R' → (∀ q, q ≠ n → h'.1 (pp + 6) q = h.1 (pp + 6) q ∧ h'.1 (pp + 7) q = h.1 (pp + 7) q) → xm_go (XE sc) (xm_T (XE sc) (d + 3)) 49 post 186 [(0, .ref 15), (1, .ref pp), (2, .ref 8), (3, .int sz), (4, .int (nI i))] [] h')
    (hB : ∀ h', Fr (svR pp) (rvT pp) h h' → (∀ V, ty_all c k l r V → ty_lnk c rt V → False) → post (some (.int (nI 0))) h') :
    xm_go (XE sc) (xm_T (XE sc) (d + 3)) 49 post 102 [(5, .int (nI n)), (0, .ref 15), (1, .ref pp), (2, .ref 8), (3, .int sz), (4, .int (nI i))] [] h := by
  obtain ⟨s1, s2, s3, s4⟩ := hJ
  obtain ⟨b1, b2⟩ := s4 n (List.mem_cons_self ..) hv
  with_reducible refine xm_go_blk b_X1_solve_102 k_X1_solve_102 ?_
  refine by_aload_n rfl ?_
  refine by_aload_n rfl ?_
  refine by_getf cn_49 fl_1_56 (by first | exact rfl | assumption | exact ps_0 hpp) (by decide) ?_
  refine by_iload rfl ?_
  simp (disch := first | exact Nat.ne_of_beq_eq_false rfl | exact rfl | omega) only [nI_add, xa_sub, xa_mul, pk_div, nm_mod, xa_shr, xa_and7, xa_and1, xa_and255, xa_by_and, nI_m1, Nat.add_sub_cancel, Nat.reducePow, Nat.zero_add, Nat.add_zero, Nat.reduceAdd, Nat.reduceMul, Nat.reduceSub, xf_same, xq_ff, xq_fo, xf_1, xf_2, xs_1, xs_2, xs_same, xq_so, xj_1, xj_2, xj_same, xq_jo, xq_sa1, xq_same, xq_other, upd_s, oI_n, oI_s, pf_6 s1 hpp, pf_13 s1 hpp, b1]
  first | refine by_iald (by first | exact rfl | assumption | exact ps_1 hpp | exact ps_2 hpp | exact ps_3 hpp | exact ps_4 hpp | exact ps_5 hpp | exact ps_6 hpp | exact ps_7 hpp | exact ps_8 hpp | exact ps_9 hpp | exact ps_10 hpp | exact ps_11 hpp | exact ps_15 hpp | exact ps_16 hpp | exact ps_17 hpp | exact ps_18 hpp | exact ps_19 hpp | exact ps_21 hpp | exact ps_22 hpp | exact ps_23 hpp | exact ps_24 hpp) ⟨by omega, by omega⟩ ?_ | refine by_tald rfl rfl ⟨by omega, by omega⟩ ?_
  refine by_aload_n rfl ?_
  refine by_getf cn_49 fl_1_44 (by first | exact rfl | assumption | exact ps_0 hpp) (by decide) ?_
  simp (disch := first | exact Nat.ne_of_beq_eq_false rfl | exact rfl | omega) only [nI_add, xa_sub, xa_mul, pk_div, nm_mod, xa_shr, xa_and7, xa_and1, xa_and255, xa_by_and, nI_m1, Nat.add_sub_cancel, Nat.reducePow, Nat.zero_add, Nat.add_zero, Nat.reduceAdd, Nat.reduceMul, Nat.reduceSub, xf_same, xq_ff, xq_fo, xf_1, xf_2, xs_1, xs_2, xs_same, xq_so, xj_1, xj_2, xj_same, xq_jo, xq_sa1, xq_same, xq_other, upd_s, oI_n, oI_s, xv_0, xv_1, xv_2, xv_3, xm_p1, xm_p2, xq_fp, xq_fn, List.filter_nil, Nat.reduceBEq, Bool.not_true, Bool.not_false, Bool.and_true, Bool.and_false, Bool.false_and, Bool.true_and, if_true, if_false, Bool.false_eq_true, reduceIte, xc_i, xc_j, xc_r, xc_n, List.nil_append, List.cons_append, Option.toList_some, Option.toList_none, pf_6 s1 hpp, pf_13 s1 hpp, b1]
  refine by_inv2 cn_49 lk_1_59 (by rw [xe_cnt]; decide) is_45 np_45 cn_45 (by first | exact rfl | assumption) (Nat.le_of_ble_eq_true rfl) ?_
  refine sp_resolve hpp hc s1 s2 hsc (fun h1 fd1 cn1 tr1 K1 L1 R1 g1 j1 x1 y1 => ?_) (fun h1 g1 hb => ?_)
  · have F1 : XF h1 := Fr_XF s1 g1 (rv_fin hpp)
    have b2' : h1.1 (pp + 7) n = nI (tgt n) := by rw [g1.1 (pp + 7) (by simp [rvR] <;> omega)]; exact b2
    with_reducible refine xm_go_blk b_X1_solve_117 k_X1_solve_117 ?_
    refine by_if_eq 138 rfl ?_
    simp (disch := first | exact Nat.ne_of_beq_eq_false rfl | exact rfl | omega) only [nI_add, xa_sub, xa_mul, pk_div, nm_mod, xa_shr, xa_and7, xa_and1, xa_and255, xa_by_and, nI_m1, Nat.add_sub_cancel, Nat.reducePow, Nat.zero_add, Nat.add_zero, Nat.reduceAdd, Nat.reduceMul, Nat.reduceSub, xf_same, xq_ff, xq_fo, xf_1, xf_2, xs_1, xs_2, xs_same, xq_so, xj_1, xj_2, xj_same, xq_jo, xq_sa1, xq_same, xq_other, upd_s, oI_n, oI_s, xv_0, xv_1, xv_2, xv_3, xm_p1, xm_p2, xq_fp, xq_fn, List.filter_nil, Nat.reduceBEq, Bool.not_true, Bool.not_false, Bool.and_true, Bool.and_false, Bool.false_and, Bool.true_and, if_true, if_false, Bool.false_eq_true, reduceIte, xc_i, xc_j, xc_r, xc_n, List.nil_append, List.cons_append, Option.toList_some, Option.toList_none, nI_ltJ, nI_leJ, nI_eqJ, nI_ltz, nI_gez, nI_gtz, nI_lez, nI_eqz, m1_ltz, m1_gez, true_imp_iff, false_imp_iff, true_and, and_true, ne_eq, not_false_eq_true, not_true_eq_false, Nat.reduceEqDiff, Nat.reduceLT, Nat.reduceLeDiff, pf_7 F1 hpp, pf_13 F1 hpp, b2']
    with_reducible refine xm_go_blk b_X1_solve_120 k_X1_solve_120 ?_
    refine by_aload_n rfl ?_
    refine by_aload_n rfl ?_
    refine by_getf cn_49 fl_1_63 (by first | exact rfl | assumption | exact ps_0 hpp) (by decide) ?_
    refine by_iload rfl ?_
    simp (disch := first | exact Nat.ne_of_beq_eq_false rfl | exact rfl | omega) only [nI_add, xa_sub, xa_mul, pk_div, nm_mod, xa_shr, xa_and7, xa_and1, xa_and255, xa_by_and, nI_m1, Nat.add_sub_cancel, Nat.reducePow, Nat.zero_add, Nat.add_zero, Nat.reduceAdd, Nat.reduceMul, Nat.reduceSub, xf_same, xq_ff, xq_fo, xf_1, xf_2, xs_1, xs_2, xs_same, xq_so, xj_1, xj_2, xj_same, xq_jo, xq_sa1, xq_same, xq_other, upd_s, oI_n, oI_s, pf_7 F1 hpp, pf_13 F1 hpp, b2']
    first | refine by_iald (by first | exact rfl | assumption | exact ps_1 hpp | exact ps_2 hpp | exact ps_3 hpp | exact ps_4 hpp | exact ps_5 hpp | exact ps_6 hpp | exact ps_7 hpp | exact ps_8 hpp | exact ps_9 hpp | exact ps_10 hpp | exact ps_11 hpp | exact ps_15 hpp | exact ps_16 hpp | exact ps_17 hpp | exact ps_18 hpp | exact ps_19 hpp | exact ps_21 hpp | exact ps_22 hpp | exact ps_23 hpp | exact ps_24 hpp) ⟨by omega, by omega⟩ ?_ | refine by_tald rfl rfl ⟨by omega, by omega⟩ ?_
    refine by_aload_n rfl ?_
    refine by_getf cn_49 fl_1_44 (by first | exact rfl | assumption | exact ps_0 hpp) (by decide) ?_
    simp (disch := first | exact Nat.ne_of_beq_eq_false rfl | exact rfl | omega) only [nI_add, xa_sub, xa_mul, pk_div, nm_mod, xa_shr, xa_and7, xa_and1, xa_and255, xa_by_and, nI_m1, Nat.add_sub_cancel, Nat.reducePow, Nat.zero_add, Nat.add_zero, Nat.reduceAdd, Nat.reduceMul, Nat.reduceSub, xf_same, xq_ff, xq_fo, xf_1, xf_2, xs_1, xs_2, xs_same, xq_so, xj_1, xj_2, xj_same, xq_jo, xq_sa1, xq_same, xq_other, upd_s, oI_n, oI_s, xv_0, xv_1, xv_2, xv_3, xm_p1, xm_p2, xq_fp, xq_fn, List.filter_nil, Nat.reduceBEq, Bool.not_true, Bool.not_false, Bool.and_true, Bool.and_false, Bool.false_and, Bool.true_and, if_true, if_false, Bool.false_eq_true, reduceIte, xc_i, xc_j, xc_r, xc_n, List.nil_append, List.cons_append, Option.toList_some, Option.toList_none, pf_7 F1 hpp, pf_13 F1 hpp, b2']
    refine by_inv2 cn_49 lk_1_59 (by rw [xe_cnt]; decide) is_45 np_45 cn_45 (by first | exact rfl | assumption) (Nat.le_of_ble_eq_true rfl) ?_
    refine sp_resolve hpp hc F1 j1 htc (fun h2 fd2 cn2 tr2 K2 L2 R2 g2 j2 x2 y2 => ?_) (fun h2 g2 hb => ?_)
    · have F2 : XF h2 := Fr_XF F1 g2 (rv_fin hpp)
      have g12 : Fr (rvR pp) (rvT pp) h h2 := Fr_tr g1 g2 (fun _ z => z) (fun _ z => z)
      have b1'' : h2.1 (pp + 6) n = nI (src n) := by rw [g12.1 (pp + 6) (by simp [rvR] <;> omega)]; exact b1
      have b2'' : h2.1 (pp + 7) n = nI (tgt n) := by rw [g12.1 (pp + 7) (by simp [rvR] <;> omega)]; exact b2
      obtain ⟨⟨u, dd, m, u1, u2, u3⟩, i2, i3, i4, i5, i6, i7⟩ := j2
      have hG := uf_G (k := k) (l := l) (r := r) u2 (fun t ht => ⟨(i2 t ht).2.1, fun e => ((i2 t ht).2.2 e).2.2⟩)
      have rs1 := (hG.1 _ hsc).1
      have rs2 := (hG.1 _ htc).1
      obtain ⟨a1, ha1⟩ := rs_some y1
      have ha1' := x2.2.2 _ _ ha1
      obtain ⟨a2, ha2⟩ := rs_some y2
      obtain ⟨p, _, p2, p3, p4⟩ := (i7 _ (hG.1 _ hsc).1).1 a1 ha1'
      obtain ⟨w, _, w2, w3, w4⟩ := (i7 _ (hG.1 _ htc).1).1 a2 ha2
      with_reducible refine xm_go_blk b_X1_solve_135 k_X1_solve_135 ?_
      refine by_if_ne 140 rfl ?_
      simp (disch := first | exact Nat.ne_of_beq_eq_false rfl | exact rfl | omega) only [nI_add, xa_sub, xa_mul, pk_div, nm_mod, xa_shr, xa_and7, xa_and1, xa_and255, xa_by_and, nI_m1, Nat.add_sub_cancel, Nat.reducePow, Nat.zero_add, Nat.add_zero, Nat.reduceAdd, Nat.reduceMul, Nat.reduceSub, xf_same, xq_ff, xq_fo, xf_1, xf_2, xs_1, xs_2, xs_same, xq_so, xj_1, xj_2, xj_same, xq_jo, xq_sa1, xq_same, xq_other, upd_s, oI_n, oI_s, xv_0, xv_1, xv_2, xv_3, xm_p1, xm_p2, xq_fp, xq_fn, List.filter_nil, Nat.reduceBEq, Bool.not_true, Bool.not_false, Bool.and_true, Bool.and_false, Bool.false_and, Bool.true_and, if_true, if_false, Bool.false_eq_true, reduceIte, xc_i, xc_j, xc_r, xc_n, List.nil_append, List.cons_append, Option.toList_some, Option.toList_none, nI_ltJ, nI_leJ, nI_eqJ, nI_ltz, nI_gez, nI_gtz, nI_lez, nI_eqz, m1_ltz, m1_gez, true_imp_iff, false_imp_iff, true_and, and_true, ne_eq, not_false_eq_true, not_true_eq_false, Nat.reduceEqDiff, Nat.reduceLT, Nat.reduceLeDiff, pf_6 F2 hpp, xf_15_4 F2, b1'']
      with_reducible refine xm_go_blk b_X1_solve_140 k_X1_solve_140 ?_
      refine by_aload_n rfl ?_
      refine by_getf cn_49 fl_1_56 (by first | exact rfl | assumption | exact ps_0 hpp) (by decide) ?_
      refine by_iload rfl ?_
      refine by_aload_n rfl ?_
      refine by_getf cn_49 fl_1_26 (by first | exact rfl | assumption) (by decide) ?_
      refine by_aload_n rfl ?_
      refine by_aload_n rfl ?_
      refine by_getf cn_49 fl_1_56 (by first | exact rfl | assumption | exact ps_0 hpp) (by decide) ?_
      refine by_iload rfl ?_
      simp (disch := first | exact Nat.ne_of_beq_eq_false rfl | exact rfl | omega) only [nI_add, xa_sub, xa_mul, pk_div, nm_mod, xa_shr, xa_and7, xa_and1, xa_and255, xa_by_and, nI_m1, Nat.add_sub_cancel, Nat.reducePow, Nat.zero_add, Nat.add_zero, Nat.reduceAdd, Nat.reduceMul, Nat.reduceSub, xf_same, xq_ff, xq_fo, xf_1, xf_2, xs_1, xs_2, xs_same, xq_so, xj_1, xj_2, xj_same, xq_jo, xq_sa1, xq_same, xq_other, upd_s, oI_n, oI_s, pf_6 F2 hpp, xf_15_4 F2, b1'']
      first | refine by_iald (by first | exact rfl | assumption | exact ps_1 hpp | exact ps_2 hpp | exact ps_3 hpp | exact ps_4 hpp | exact ps_5 hpp | exact ps_6 hpp | exact ps_7 hpp | exact ps_8 hpp | exact ps_9 hpp | exact ps_10 hpp | exact ps_11 hpp | exact ps_15 hpp | exact ps_16 hpp | exact ps_17 hpp | exact ps_18 hpp | exact ps_19 hpp | exact ps_21 hpp | exact ps_22 hpp | exact ps_23 hpp | exact ps_24 hpp) ⟨by omega, by omega⟩ ?_ | refine by_tald rfl rfl ⟨by omega, by omega⟩ ?_
      simp (disch := first | exact Nat.ne_of_beq_eq_false rfl | exact rfl | omega) only [nI_add, xa_sub, xa_mul, pk_div, nm_mod, xa_shr, xa_and7, xa_and1, xa_and255, xa_by_and, nI_m1, Nat.add_sub_cancel, Nat.reducePow, Nat.zero_add, Nat.add_zero, Nat.reduceAdd, Nat.reduceMul, Nat.reduceSub, xf_same, xq_ff, xq_fo, xf_1, xf_2, xs_1, xs_2, xs_same, xq_so, xj_1, xj_2, xj_same, xq_jo, xq_sa1, xq_same, xq_other, upd_s, oI_n, oI_s, xv_0, xv_1, xv_2, xv_3, xm_p1, xm_p2, xq_fp, xq_fn, List.filter_nil, Nat.reduceBEq, Bool.not_true, Bool.not_false, Bool.and_true, Bool.and_false, Bool.false_and, Bool.true_and, if_true, if_false, Bool.false_eq_true, reduceIte, xc_i, xc_j, xc_r, xc_n, List.nil_append, List.cons_append, Option.toList_some, Option.toList_none, pf_6 F2 hpp, xf_15_4 F2, b1'']
      refine by_inv1 cn_49 lk_1_66 (by rw [xe_cnt]; decide) is_41 np_41 cn_41 (by first | exact rfl | assumption) (Nat.le_of_ble_eq_true rfl) ?_
      refine sp_xfind F2 (by omega) u3 hsc u1 u2 (fun h3 u' g3 v1 v2 => ?_)
      have F3 : XF h3 := Fr_XF F2 g3 (by decide +kernel)
      have p3' : h3.1 20 (rt (src n)) = nI p := by rw [g3.1 20 (by simp)]; exact p3
      have b2''' : h3.1 (pp + 7) n = nI (tgt n) := by rw [g3.1 (pp + 7) (by simp <;> omega)]; exact b2''
      with_reducible refine xm_go_blk b_X1_solve_161 k_X1_solve_161 ?_
      first | refine by_iald (by first | exact rfl | assumption | exact ps_1 hpp | exact ps_2 hpp | exact ps_3 hpp | exact ps_4 hpp | exact ps_5 hpp | exact ps_6 hpp | exact ps_7 hpp | exact ps_8 hpp | exact ps_9 hpp | exact ps_10 hpp | exact ps_11 hpp | exact ps_15 hpp | exact ps_16 hpp | exact ps_17 hpp | exact ps_18 hpp | exact ps_19 hpp | exact ps_21 hpp | exact ps_22 hpp | exact ps_23 hpp | exact ps_24 hpp) ⟨by omega, by omega⟩ ?_ | refine by_tald rfl rfl ⟨by omega, by omega⟩ ?_
      refine by_iast (by first | exact rfl | assumption | exact ps_1 hpp | exact ps_2 hpp | exact ps_3 hpp | exact ps_4 hpp | exact ps_5 hpp | exact ps_6 hpp | exact ps_7 hpp | exact ps_8 hpp | exact ps_9 hpp | exact ps_10 hpp | exact ps_11 hpp | exact ps_15 hpp | exact ps_16 hpp | exact ps_17 hpp | exact ps_18 hpp | exact ps_19 hpp | exact ps_21 hpp | exact ps_22 hpp | exact ps_23 hpp | exact ps_24 hpp) ⟨by omega, by omega⟩ ?_
      refine by_aload_n rfl ?_
      refine by_getf cn_49 fl_1_63 (by first | exact rfl | assumption | exact ps_0 hpp) (by decide) ?_
      refine by_iload rfl ?_
      refine by_aload_n rfl ?_
      refine by_getf cn_49 fl_1_26 (by first | exact rfl | assumption) (by decide) ?_
      refine by_aload_n rfl ?_
      refine by_aload_n rfl ?_
      refine by_getf cn_49 fl_1_63 (by first | exact rfl | assumption | exact ps_0 hpp) (by decide) ?_
      refine by_iload rfl ?_
      simp (disch := first | exact Nat.ne_of_beq_eq_false rfl | exact rfl | omega) only [nI_add, xa_sub, xa_mul, pk_div, nm_mod, xa_shr, xa_and7, xa_and1, xa_and255, xa_by_and, nI_m1, Nat.add_sub_cancel, Nat.reducePow, Nat.zero_add, Nat.add_zero, Nat.reduceAdd, Nat.reduceMul, Nat.reduceSub, xf_same, xq_ff, xq_fo, xf_1, xf_2, xs_1, xs_2, xs_same, xq_so, xj_1, xj_2, xj_same, xq_jo, xq_sa1, xq_same, xq_other, upd_s, oI_n, oI_s, pf_7 F3 hpp, xf_15_4 F3, p3', b2''']
      first | refine by_iald (by first | exact rfl | assumption | exact ps_1 hpp | exact ps_2 hpp | exact ps_3 hpp | exact ps_4 hpp | exact ps_5 hpp | exact ps_6 hpp | exact ps_7 hpp | exact ps_8 hpp | exact ps_9 hpp | exact ps_10 hpp | exact ps_11 hpp | exact ps_15 hpp | exact ps_16 hpp | exact ps_17 hpp | exact ps_18 hpp | exact ps_19 hpp | exact ps_21 hpp | exact ps_22 hpp | exact ps_23 hpp | exact ps_24 hpp) ⟨by omega, by omega⟩ ?_ | refine by_tald rfl rfl ⟨by omega, by omega⟩ ?_
      simp (disch := first | exact Nat.ne_of_beq_eq_false rfl | exact rfl | omega) only [nI_add, xa_sub, xa_mul, pk_div, nm_mod, xa_shr, xa_and7, xa_and1, xa_and255, xa_by_and, nI_m1, Nat.add_sub_cancel, Nat.reducePow, Nat.zero_add, Nat.add_zero, Nat.reduceAdd, Nat.reduceMul, Nat.reduceSub, xf_same, xq_ff, xq_fo, xf_1, xf_2, xs_1, xs_2, xs_same, xq_so, xj_1, xj_2, xj_same, xq_jo, xq_sa1, xq_same, xq_other, upd_s, oI_n, oI_s, xv_0, xv_1, xv_2, xv_3, xm_p1, xm_p2, xq_fp, xq_fn, List.filter_nil, Nat.reduceBEq, Bool.not_true, Bool.not_false, Bool.and_true, Bool.and_false, Bool.false_and, Bool.true_and, if_true, if_false, Bool.false_eq_true, reduceIte, xc_i, xc_j, xc_r, xc_n, List.nil_append, List.cons_append, Option.toList_some, Option.toList_none, pf_7 F3 hpp, xf_15_4 F3, p3', b2''']
      refine by_inv1 cn_49 lk_1_66 (by rw [xe_cnt]; decide) is_41 np_41 cn_41 (by first | exact rfl | assumption) (Nat.le_of_ble_eq_true rfl) ?_
      have f4 : Fr [pp + 6] [] h3 (xm_si h3 (pp + 6) n (nI p)) := Fr_si Fr_rf (by simp)
      have F4 := Fr_XF F3 f4 (by decide +kernel)
      refine sp_xfind F4 (by omega) u3 htc (upA_fr v1 f4 (by simp <;> omega)) v2 (fun h5 u'' g5 z1 z2 => ?_)
      have F5 : XF h5 := Fr_XF F4 g5 (by decide +kernel)
      have w3' : h5.1 20 (rt (tgt n)) = nI w := by rw [g5.1 20 (by simp), f4.1 20 (by simp <;> omega), g3.1 20 (by simp)]; exact w3
      with_reducible refine xm_go_blk b_X1_solve_184 k_X1_solve_184 ?_
      first | refine by_iald (by first | exact rfl | assumption | exact ps_1 hpp | exact ps_2 hpp | exact ps_3 hpp | exact ps_4 hpp | exact ps_5 hpp | exact ps_6 hpp | exact ps_7 hpp | exact ps_8 hpp | exact ps_9 hpp | exact ps_10 hpp | exact ps_11 hpp | exact ps_15 hpp | exact ps_16 hpp | exact ps_17 hpp | exact ps_18 hpp | exact ps_19 hpp | exact ps_21 hpp | exact ps_22 hpp | exact ps_23 hpp | exact ps_24 hpp) ⟨by omega, by omega⟩ ?_ | refine by_tald rfl rfl ⟨by omega, by omega⟩ ?_
      refine by_iast (by first | exact rfl | assumption | exact ps_1 hpp | exact ps_2 hpp | exact ps_3 hpp | exact ps_4 hpp | exact ps_5 hpp | exact ps_6 hpp | exact ps_7 hpp | exact ps_8 hpp | exact ps_9 hpp | exact ps_10 hpp | exact ps_11 hpp | exact ps_15 hpp | exact ps_16 hpp | exact ps_17 hpp | exact ps_18 hpp | exact ps_19 hpp | exact ps_21 hpp | exact ps_22 hpp | exact ps_23 hpp | exact ps_24 hpp) ⟨by omega, by omega⟩ ?_
      refine by_nil ?_
      simp (disch := first | exact Nat.ne_of_beq_eq_false rfl | exact rfl | omega) only [nI_add, xa_sub, xa_mul, pk_div, nm_mod, xa_shr, xa_and7, xa_and1, xa_and255, xa_by_and, nI_m1, Nat.add_sub_cancel, Nat.reducePow, Nat.zero_add, Nat.add_zero, Nat.reduceAdd, Nat.reduceMul, Nat.reduceSub, xf_same, xq_ff, xq_fo, xf_1, xf_2, xs_1, xs_2, xs_same, xq_so, xj_1, xj_2, xj_same, xq_jo, xq_sa1, xq_same, xq_other, upd_s, oI_n, oI_s, xv_0, xv_1, xv_2, xv_3, xm_p1, xm_p2, xq_fp, xq_fn, List.filter_nil, Nat.reduceBEq, Bool.not_true, Bool.not_false, Bool.and_true, Bool.and_false, Bool.false_and, Bool.true_and, if_true, if_false, Bool.false_eq_true, reduceIte, xc_i, xc_j, xc_r, xc_n, List.nil_append, List.cons_append, Option.toList_some, Option.toList_none, xf_15_4 F5, w3']
      have fA : Fr [19, pp + 6, pp + 7] [] h2 (xm_si h5 (pp + 7) n (nI w)) := Fr_si (Fr_tr (Fr_tr (Fr_mo g3 (by simp) (by simp)) f4 (by simp) (by simp)) g5 (by simp) (by simp)) (by simp)
      have fB : Fr [pp + 7] [] h5 (xm_si h5 (pp + 7) n (nI w)) := Fr_si Fr_rf (by simp)
      have hfin : Fr (svR pp) (rvT pp) h (xm_si h5 (pp + 7) n (nI w)) := Fr_tr (Fr_sv g12) fA (by simp [svR]) (by simp)
      have o6 : ∀ q, q ≠ n → (xm_si h5 (pp + 7) n (nI w)).1 (pp + 6) q = h.1 (pp + 6) q := fun q hq => by rw [xq_so (by omega), g5.1 (pp + 6) (by simp <;> omega), xs_same, upd_o hq, g3.1 (pp + 6) (by simp <;> omega), g12.1 (pp + 6) (by simp [rvR] <;> omega)]
      have o7 : ∀ q, q ≠ n → (xm_si h5 (pp + 7) n (nI w)).1 (pp + 7) q = h.1 (pp + 7) q := fun q hq => by rw [xs_same, upd_o hq, g5.1 (pp + 7) (by simp <;> omega), xq_so (by omega), g3.1 (pp + 7) (by simp <;> omega), g12.1 (pp + 7) (by simp [rvR] <;> omega)]
      have n6 : (xm_si h5 (pp + 7) n (nI w)).1 (pp + 6) n = nI p := by rw [xq_so (by omega), g5.1 (pp + 6) (by simp <;> omega), xs_same, upd_s]
      have n7 : (xm_si h5 (pp + 7) n (nI w)).1 (pp + 7) n = nI w := by rw [xs_same, upd_s]
      refine xm_go_wk (by simp [Value.category]) (hgo _ fd2 cn2 tr2 K2 L2 R2 hfin ⟨Fr_XF F5 fB (by decide +kernel), ⟨⟨u'', dd, m, upA_fr z1 fB (by simp <;> omega), z2, u3⟩, fnA_fr i2 fA (by simp <;> omega) (by simp <;> omega) (by simp <;> omega), tyT_fr i3 fA (by simp) (by simp [taR] <;> omega), i4, i5, i6, by rw [fA.1 20 (by simp <;> omega)]; exact i7⟩, fun q hq hqv => ?_, fun q hq hqv => ?_⟩ (fun q hq => ⟨o6 q hq, o7 q hq⟩))
      · rcases List.mem_append.mp hq with hq | hq
        · have hqn : q ≠ n := fun z => hnA (by rw [← z]; exact hq)
          obtain ⟨i', j', e1, e2, e3, e4, e5, e6⟩ := s3 q hq hqv
          have X := rvX_tr x1 x2
          have := X.1
          refine ⟨i', j', by omega, by omega, by rw [o6 q hqn]; exact e3, ?_, by rw [o7 q hqn]; exact e5, ?_⟩
          · rw [X.2.2 _ _ e4, X.2.1 _ e1]
          · rw [X.2.2 _ _ e6, X.2.1 _ e2]
        · rw [List.mem_singleton.mp hq]
          exact ⟨p, w, p2, w2, n6, by rw [ha1', p4], n7, by rw [ha2, w4]⟩
      · have hqn : q ≠ n := fun z => hnB (by rw [← z]; exact hq)
        rw [o6 q hqn, o7 q hqn]
        exact s4 q (List.mem_cons_of_mem _ hq) hqv
    · with_reducible refine xm_go_blk b_X1_solve_135 k_X1_solve_135 ?_
      refine by_if_ne 140 rfl ?_
      simp (disch := first | exact Nat.ne_of_beq_eq_false rfl | exact rfl | omega) only [nI_add, xa_sub, xa_mul, pk_div, nm_mod, xa_shr, xa_and7, xa_and1, xa_and255, xa_by_and, nI_m1, Nat.add_sub_cancel, Nat.reducePow, Nat.zero_add, Nat.add_zero, Nat.reduceAdd, Nat.reduceMul, Nat.reduceSub, xf_same, xq_ff, xq_fo, xf_1, xf_2, xs_1, xs_2, xs_same, xq_so, xj_1, xj_2, xj_same, xq_jo, xq_sa1, xq_same, xq_other, upd_s, oI_n, oI_s, xv_0, xv_1, xv_2, xv_3, xm_p1, xm_p2, xq_fp, xq_fn, List.filter_nil, Nat.reduceBEq, Bool.not_true, Bool.not_false, Bool.and_true, Bool.and_false, Bool.false_and, Bool.true_and, if_true, if_false, Bool.false_eq_true, reduceIte, xc_i, xc_j, xc_r, xc_n, List.nil_append, List.cons_append, Option.toList_some, Option.toList_none, nI_ltJ, nI_leJ, nI_eqJ, nI_ltz, nI_gez, nI_gtz, nI_lez, nI_eqz, m1_ltz, m1_gez, true_imp_iff, false_imp_iff, true_and, and_true, ne_eq, not_false_eq_true, not_true_eq_false, Nat.reduceEqDiff, Nat.reduceLT, Nat.reduceLeDiff]
      with_reducible refine xm_go_blk b_X1_solve_138 k_X1_solve_138 ?_
      refine by_iconst ci_0 ?_
      refine by_iret ry_49 (by first | rfl | assumption) ?_
      exact hB h2 (Fr_sv (Fr_tr g1 g2 (fun _ z => z) (fun _ z => z))) hb
  · with_reducible refine xm_go_blk b_X1_solve_117 k_X1_solve_117 ?_
    refine by_if_eq 138 rfl ?_
    simp (disch := first | exact Nat.ne_of_beq_eq_false rfl | exact rfl | omega) only [nI_add, xa_sub, xa_mul, pk_div, nm_mod, xa_shr, xa_and7, xa_and1, xa_and255, xa_by_and, nI_m1, Nat.add_sub_cancel, Nat.reducePow, Nat.zero_add, Nat.add_zero, Nat.reduceAdd, Nat.reduceMul, Nat.reduceSub, xf_same, xq_ff, xq_fo, xf_1, xf_2, xs_1, xs_2, xs_same, xq_so, xj_1, xj_2, xj_same, xq_jo, xq_sa1, xq_same, xq_other, upd_s, oI_n, oI_s, xv_0, xv_1, xv_2, xv_3, xm_p1, xm_p2, xq_fp, xq_fn, List.filter_nil, Nat.reduceBEq, Bool.not_true, Bool.not_false, Bool.and_true, Bool.and_false, Bool.false_and, Bool.true_and, if_true, if_false, Bool.false_eq_true, reduceIte, xc_i, xc_j, xc_r, xc_n, List.nil_append, List.cons_append, Option.toList_some, Option.toList_none, nI_ltJ, nI_leJ, nI_eqJ, nI_ltz, nI_gez, nI_gtz, nI_lez, nI_eqz, m1_ltz, m1_gez, true_imp_iff, false_imp_iff, true_and, and_true, ne_eq, not_false_eq_true, not_true_eq_false, Nat.reduceEqDiff, Nat.reduceLT, Nat.reduceLeDiff]
    with_reducible refine xm_go_blk b_X1_solve_138 k_X1_solve_138 ?_
    refine by_iconst ci_0 ?_
    refine by_iret ry_49 (by first | rfl | assumption) ?_
    exact hB h1 (Fr_sv g1) hb
theorem sv_78 {L : List Nat} (hpp : pp = 52 ∨ pp = 77) (hc : c ≤ 14026) (hN : N ≤ 2000) (hnd : L.Nodup) (hLN : ∀ n ∈ L, n < N) (hcode : ∀ n, n < N → h.1 (pp + 1) n = nI (cd n) ∧ cd n ≤ 12) (hL8 : ∀ i, i < L.length → h.1 8 i = nI (L.getD i 0)) (hsrc : ∀ n ∈ L, cd n ≠ 11 → src n < c ∧ tgt n < c)
    (hT : ∀ h' fd' cn' tr' K' L' R', Fr (svR pp) (rvT pp) h h' → svJ h' pp c cd k l r rt src tgt L [] fd' cn' tr' K' L' R' → (∀ q, cd q = 11 → h'.1 (pp + 6) q = h.1 (pp + 6) q ∧ h'.1 (pp + 7) q = h.1 (pp + 7) q) → post (some (.int (nI 1))) h')
    (hB : ∀ h', Fr (svR pp) (rvT pp) h h' → (∀ V, ty_all c k l r V → ty_lnk c rt V → False) → post (some (.int (nI 0))) h') :
    ∀ (B A : List Nat) (h' : xm_H) (fd : Nat → Option Ty) (cn : Nat) (tr : Nat → Ty) (K Lf R : Nat → Nat), L = A ++ B → Fr (svR pp) (rvT pp) h h' → svJ h' pp c cd k l r rt src tgt A B fd cn tr K Lf R → (∀ q, cd q = 11 → h'.1 (pp + 6) q = h.1 (pp + 6) q ∧ h'.1 (pp + 7) q = h.1 (pp + 7) q) → xm_go (XE sc) (xm_T (XE sc) (d + 3)) 49 post 78 [(0, .ref 15), (1, .ref pp), (2, .ref 8), (3, .int (nI L.length)), (4, .int (nI A.length))] [] h' := by
  have hlen : L.length ≤ 2000 := Nat.le_trans (nd_len N L hnd hLN) hN
  intro B
  induction B with
  | nil =>
    intro A h' fd cn tr K Lf R hAB hf hJ hH
    rw [List.append_nil] at hAB
    subst hAB
    with_reducible refine xm_go_blk b_X1_solve_78 k_X1_solve_78 ?_
    refine by_iload rfl ?_
    refine by_iload_n rfl ?_
    refine by_ic_ge 192 rfl ?_
    simp (disch := first | exact Nat.ne_of_beq_eq_false rfl | exact rfl | omega) only [nI_add, xa_sub, xa_mul, pk_div, nm_mod, xa_shr, xa_and7, xa_and1, xa_and255, xa_by_and, nI_m1, Nat.add_sub_cancel, Nat.reducePow, Nat.zero_add, Nat.add_zero, Nat.reduceAdd, Nat.reduceMul, Nat.reduceSub, xf_same, xq_ff, xq_fo, xf_1, xf_2, xs_1, xs_2, xs_same, xq_so, xj_1, xj_2, xj_same, xq_jo, xq_sa1, xq_same, xq_other, upd_s, oI_n, oI_s, xv_0, xv_1, xv_2, xv_3, xm_p1, xm_p2, xq_fp, xq_fn, List.filter_nil, Nat.reduceBEq, Bool.not_true, Bool.not_false, Bool.and_true, Bool.and_false, Bool.false_and, Bool.true_and, if_true, if_false, Bool.false_eq_true, reduceIte, xc_i, xc_j, xc_r, xc_n, List.nil_append, List.cons_append, Option.toList_some, Option.toList_none, nI_ltJ, nI_leJ, nI_eqJ, nI_ltz, nI_gez, nI_gtz, nI_lez, nI_eqz, m1_ltz, m1_gez, true_imp_iff, false_imp_iff, true_and, and_true, ne_eq, not_false_eq_true, not_true_eq_false, Nat.reduceEqDiff, Nat.reduceLT, Nat.reduceLeDiff]
    refine ⟨fun c78 => ?_, fun c => absurd (by omega) c⟩
    with_reducible refine xm_go_blk b_X1_solve_192 k_X1_solve_192 ?_
    refine by_iconst ci_1 ?_
    refine by_iret ry_49 (by first | rfl | assumption) ?_
    exact hT h' fd cn tr K Lf R hf hJ hH
  | cons n B ih =>
    intro A h' fd cn tr K Lf R hAB hf hJ hH
    have hmem : n ∈ L := by rw [hAB]; simp
    have hA : A.length < L.length := by rw [hAB]; simp
    have hget : L.getD A.length 0 = n := by rw [hAB]; simp [List.getD]
    have e8 : h'.1 8 A.length = nI n := by rw [hf.1 8 (by simp [svR] <;> omega), hL8 _ hA, hget]
    have hnN := hLN n hmem
    have e1 : h'.1 (pp + 1) n = nI (cd n) := by rw [hf.1 (pp + 1) (by simp [svR] <;> omega)]; exact (hcode n hnN).1
    have hc12 := (hcode n hnN).2
    have hF := hJ.1
    rw [hAB] at hnd
    have hnd' := List.nodup_append.mp hnd
    have hnB : n ∉ B := (List.nodup_cons.mp hnd'.2.1).1
    have hnA : n ∉ A := fun z => hnd'.2.2 n z n (List.mem_cons_self ..) rfl
    have nxt : ∀ h2 fd2 cn2 tr2 K2 L2 R2, Fr (svR pp) (rvT pp) h h2 → svJ h2 pp c cd k l r rt src tgt (A ++ [n]) B fd2 cn2 tr2 K2 L2 R2 → (∀ q, cd q = 11 → h2.1 (pp + 6) q = h.1 (pp + 6) q ∧ h2.1 (pp + 7) q = h.1 (pp + 7) q) → xm_go (XE sc) (xm_T (XE sc) (d + 3)) 49 post 186 [(0, .ref 15), (1, .ref pp), (2, .ref 8), (3, .int (nI L.length)), (4, .int (nI A.length))] [] h2 := by
      intro h2 fd2 cn2 tr2 K2 L2 R2 hf2 hJ2 hH2
      have := ih (A ++ [n]) h2 fd2 cn2 tr2 K2 L2 R2 (by rw [hAB]; simp) hf2 hJ2 hH2
      rw [List.length_append] at this
      with_reducible refine xm_go_blk b_X1_solve_186 k_X1_solve_186 ?_
      refine by_iinc (by rw [ml_49]; decide) rfl ci_1 ?_
      refine by_goto 78 rfl ?_
      simp (disch := first | exact Nat.ne_of_beq_eq_false rfl | exact rfl | omega) only [nI_add, xa_sub, xa_mul, pk_div, nm_mod, xa_shr, xa_and7, xa_and1, xa_and255, xa_by_and, nI_m1, Nat.add_sub_cancel, Nat.reducePow, Nat.zero_add, Nat.add_zero, Nat.reduceAdd, Nat.reduceMul, Nat.reduceSub, xf_same, xq_ff, xq_fo, xf_1, xf_2, xs_1, xs_2, xs_same, xq_so, xj_1, xj_2, xj_same, xq_jo, xq_sa1, xq_same, xq_other, upd_s, oI_n, oI_s, xv_0, xv_1, xv_2, xv_3, xm_p1, xm_p2, xq_fp, xq_fn, List.filter_nil, Nat.reduceBEq, Bool.not_true, Bool.not_false, Bool.and_true, Bool.and_false, Bool.false_and, Bool.true_and, if_true, if_false, Bool.false_eq_true, reduceIte, xc_i, xc_j, xc_r, xc_n, List.nil_append, List.cons_append, Option.toList_some, Option.toList_none]
      exact xm_go_wk (by simp [Value.category]) this
    by_cases hv : cd n = 11
    · rw [hv] at e1
      with_reducible refine xm_go_blk b_X1_solve_78 k_X1_solve_78 ?_
      refine by_iload rfl ?_
      refine by_iload_n rfl ?_
      refine by_ic_ge 192 rfl ?_
      simp (disch := first | exact Nat.ne_of_beq_eq_false rfl | exact rfl | omega) only [nI_add, xa_sub, xa_mul, pk_div, nm_mod, xa_shr, xa_and7, xa_and1, xa_and255, xa_by_and, nI_m1, Nat.add_sub_cancel, Nat.reducePow, Nat.zero_add, Nat.add_zero, Nat.reduceAdd, Nat.reduceMul, Nat.reduceSub, xf_same, xq_ff, xq_fo, xf_1, xf_2, xs_1, xs_2, xs_same, xq_so, xj_1, xj_2, xj_same, xq_jo, xq_sa1, xq_same, xq_other, upd_s, oI_n, oI_s, xv_0, xv_1, xv_2, xv_3, xm_p1, xm_p2, xq_fp, xq_fn, List.filter_nil, Nat.reduceBEq, Bool.not_true, Bool.not_false, Bool.and_true, Bool.and_false, Bool.false_and, Bool.true_and, if_true, if_false, Bool.false_eq_true, reduceIte, xc_i, xc_j, xc_r, xc_n, List.nil_append, List.cons_append, Option.toList_some, Option.toList_none, nI_ltJ, nI_leJ, nI_eqJ, nI_ltz, nI_gez, nI_gtz, nI_lez, nI_eqz, m1_ltz, m1_gez, true_imp_iff, false_imp_iff, true_and, and_true, ne_eq, not_false_eq_true, not_true_eq_false, Nat.reduceEqDiff, Nat.reduceLT, Nat.reduceLeDiff, pf_1 hF hpp, e8, e1]
      refine ⟨fun c => absurd c (by omega), fun c78 => ?_⟩
      with_reducible refine xm_go_blk b_X1_solve_84 k_X1_solve_84 ?_
      refine by_aload_n rfl ?_
      refine by_iload rfl ?_
      first | refine by_iald (by first | exact rfl | assumption | exact ps_1 hpp | exact ps_2 hpp | exact ps_3 hpp | exact ps_4 hpp | exact ps_5 hpp | exact ps_6 hpp | exact ps_7 hpp | exact ps_8 hpp | exact ps_9 hpp | exact ps_10 hpp | exact ps_11 hpp | exact ps_15 hpp | exact ps_16 hpp | exact ps_17 hpp | exact ps_18 hpp | exact ps_19 hpp | exact ps_21 hpp | exact ps_22 hpp | exact ps_23 hpp | exact ps_24 hpp) ⟨by omega, by omega⟩ ?_ | refine by_tald rfl rfl ⟨by omega, by omega⟩ ?_
      refine by_istore (by rw [ml_49]; decide) ?_
      refine by_aload_n rfl ?_
      refine by_getf cn_49 fl_1_53 (by first | exact rfl | assumption | exact ps_0 hpp) (by decide) ?_
      refine by_iload rfl ?_
      simp (disch := first | exact Nat.ne_of_beq_eq_false rfl | exact rfl | omega) only [nI_add, xa_sub, xa_mul, pk_div, nm_mod, xa_shr, xa_and7, xa_and1, xa_and255, xa_by_and, nI_m1, Nat.add_sub_cancel, Nat.reducePow, Nat.zero_add, Nat.add_zero, Nat.reduceAdd, Nat.reduceMul, Nat.reduceSub, xf_same, xq_ff, xq_fo, xf_1, xf_2, xs_1, xs_2, xs_same, xq_so, xj_1, xj_2, xj_same, xq_jo, xq_sa1, xq_same, xq_other, upd_s, oI_n, oI_s, pf_1 hF hpp, e8, e1]
      first | refine by_iald (by first | exact rfl | assumption | exact ps_1 hpp | exact ps_2 hpp | exact ps_3 hpp | exact ps_4 hpp | exact ps_5 hpp | exact ps_6 hpp | exact ps_7 hpp | exact ps_8 hpp | exact ps_9 hpp | exact ps_10 hpp | exact ps_11 hpp | exact ps_15 hpp | exact ps_16 hpp | exact ps_17 hpp | exact ps_18 hpp | exact ps_19 hpp | exact ps_21 hpp | exact ps_22 hpp | exact ps_23 hpp | exact ps_24 hpp) ⟨by omega, by omega⟩ ?_ | refine by_tald rfl rfl ⟨by omega, by omega⟩ ?_
      refine by_bipush cb_11 ?_
      refine by_ic_eq 186 rfl ?_
      simp (disch := first | exact Nat.ne_of_beq_eq_false rfl | exact rfl | omega) only [nI_add, xa_sub, xa_mul, pk_div, nm_mod, xa_shr, xa_and7, xa_and1, xa_and255, xa_by_and, nI_m1, Nat.add_sub_cancel, Nat.reducePow, Nat.zero_add, Nat.add_zero, Nat.reduceAdd, Nat.reduceMul, Nat.reduceSub, xf_same, xq_ff, xq_fo, xf_1, xf_2, xs_1, xs_2, xs_same, xq_so, xj_1, xj_2, xj_same, xq_jo, xq_sa1, xq_same, xq_other, upd_s, oI_n, oI_s, xv_0, xv_1, xv_2, xv_3, xm_p1, xm_p2, xq_fp, xq_fn, List.filter_nil, Nat.reduceBEq, Bool.not_true, Bool.not_false, Bool.and_true, Bool.and_false, Bool.false_and, Bool.true_and, if_true, if_false, Bool.false_eq_true, reduceIte, xc_i, xc_j, xc_r, xc_n, List.nil_append, List.cons_append, Option.toList_some, Option.toList_none, nI_ltJ, nI_leJ, nI_eqJ, nI_ltz, nI_gez, nI_gtz, nI_lez, nI_eqz, m1_ltz, m1_gez, true_imp_iff, false_imp_iff, true_and, and_true, ne_eq, not_false_eq_true, not_true_eq_false, Nat.reduceEqDiff, Nat.reduceLT, Nat.reduceLeDiff, pf_1 hF hpp, e8, e1]
      refine xm_go_wk (by simp [Value.category]) (nxt h' fd cn tr K Lf R hf ⟨hJ.1, hJ.2.1, fun q hq hqv => ?_, fun q hq => hJ.2.2.2 q (List.mem_cons_of_mem _ hq)⟩ hH)
      rcases List.mem_append.mp hq with hq | hq
      · exact hJ.2.2.1 q hq hqv
      · rw [List.mem_singleton.mp hq] at hqv
        exact absurd hv hqv
    · have e0 : (cd n = 11) = False := eq_false hv
      with_reducible refine xm_go_blk b_X1_solve_78 k_X1_solve_78 ?_
      refine by_iload rfl ?_
      refine by_iload_n rfl ?_
      refine by_ic_ge 192 rfl ?_
      simp (disch := first | exact Nat.ne_of_beq_eq_false rfl | exact rfl | omega) only [nI_add, xa_sub, xa_mul, pk_div, nm_mod, xa_shr, xa_and7, xa_and1, xa_and255, xa_by_and, nI_m1, Nat.add_sub_cancel, Nat.reducePow, Nat.zero_add, Nat.add_zero, Nat.reduceAdd, Nat.reduceMul, Nat.reduceSub, xf_same, xq_ff, xq_fo, xf_1, xf_2, xs_1, xs_2, xs_same, xq_so, xj_1, xj_2, xj_same, xq_jo, xq_sa1, xq_same, xq_other, upd_s, oI_n, oI_s, xv_0, xv_1, xv_2, xv_3, xm_p1, xm_p2, xq_fp, xq_fn, List.filter_nil, Nat.reduceBEq, Bool.not_true, Bool.not_false, Bool.and_true, Bool.and_false, Bool.false_and, Bool.true_and, if_true, if_false, Bool.false_eq_true, reduceIte, xc_i, xc_j, xc_r, xc_n, List.nil_append, List.cons_append, Option.toList_some, Option.toList_none, nI_ltJ, nI_leJ, nI_eqJ, nI_ltz, nI_gez, nI_gtz, nI_lez, nI_eqz, m1_ltz, m1_gez, true_imp_iff, false_imp_iff, true_and, and_true, ne_eq, not_false_eq_true, not_true_eq_false, Nat.reduceEqDiff, Nat.reduceLT, Nat.reduceLeDiff, pf_1 hF hpp, e8, e1, e0]
      refine ⟨fun c => absurd c (by omega), fun c78 => ?_⟩
      with_reducible refine xm_go_blk b_X1_solve_84 k_X1_solve_84 ?_
      refine by_aload_n rfl ?_
      refine by_iload rfl ?_
      first | refine by_iald (by first | exact rfl | assumption | exact ps_1 hpp | exact ps_2 hpp | exact ps_3 hpp | exact ps_4 hpp | exact ps_5 hpp | exact ps_6 hpp | exact ps_7 hpp | exact ps_8 hpp | exact ps_9 hpp | exact ps_10 hpp | exact ps_11 hpp | exact ps_15 hpp | exact ps_16 hpp | exact ps_17 hpp | exact ps_18 hpp | exact ps_19 hpp | exact ps_21 hpp | exact ps_22 hpp | exact ps_23 hpp | exact ps_24 hpp) ⟨by omega, by omega⟩ ?_ | refine by_tald rfl rfl ⟨by omega, by omega⟩ ?_
      refine by_istore (by rw [ml_49]; decide) ?_
      refine by_aload_n rfl ?_
      refine by_getf cn_49 fl_1_53 (by first | exact rfl | assumption | exact ps_0 hpp) (by decide) ?_
      refine by_iload rfl ?_
      simp (disch := first | exact Nat.ne_of_beq_eq_false rfl | exact rfl | omega) only [nI_add, xa_sub, xa_mul, pk_div, nm_mod, xa_shr, xa_and7, xa_and1, xa_and255, xa_by_and, nI_m1, Nat.add_sub_cancel, Nat.reducePow, Nat.zero_add, Nat.add_zero, Nat.reduceAdd, Nat.reduceMul, Nat.reduceSub, xf_same, xq_ff, xq_fo, xf_1, xf_2, xs_1, xs_2, xs_same, xq_so, xj_1, xj_2, xj_same, xq_jo, xq_sa1, xq_same, xq_other, upd_s, oI_n, oI_s, pf_1 hF hpp, e8, e1, e0]
      first | refine by_iald (by first | exact rfl | assumption | exact ps_1 hpp | exact ps_2 hpp | exact ps_3 hpp | exact ps_4 hpp | exact ps_5 hpp | exact ps_6 hpp | exact ps_7 hpp | exact ps_8 hpp | exact ps_9 hpp | exact ps_10 hpp | exact ps_11 hpp | exact ps_15 hpp | exact ps_16 hpp | exact ps_17 hpp | exact ps_18 hpp | exact ps_19 hpp | exact ps_21 hpp | exact ps_22 hpp | exact ps_23 hpp | exact ps_24 hpp) ⟨by omega, by omega⟩ ?_ | refine by_tald rfl rfl ⟨by omega, by omega⟩ ?_
      refine by_bipush cb_11 ?_
      refine by_ic_eq 186 rfl ?_
      simp (disch := first | exact Nat.ne_of_beq_eq_false rfl | exact rfl | omega) only [nI_add, xa_sub, xa_mul, pk_div, nm_mod, xa_shr, xa_and7, xa_and1, xa_and255, xa_by_and, nI_m1, Nat.add_sub_cancel, Nat.reducePow, Nat.zero_add, Nat.add_zero, Nat.reduceAdd, Nat.reduceMul, Nat.reduceSub, xf_same, xq_ff, xq_fo, xf_1, xf_2, xs_1, xs_2, xs_same, xq_so, xj_1, xj_2, xj_same, xq_jo, xq_sa1, xq_same, xq_other, upd_s, oI_n, oI_s, xv_0, xv_1, xv_2, xv_3, xm_p1, xm_p2, xq_fp, xq_fn, List.filter_nil, Nat.reduceBEq, Bool.not_true, Bool.not_false, Bool.and_true, Bool.and_false, Bool.false_and, Bool.true_and, if_true, if_false, Bool.false_eq_true, reduceIte, xc_i, xc_j, xc_r, xc_n, List.nil_append, List.cons_append, Option.toList_some, Option.toList_none, nI_ltJ, nI_leJ, nI_eqJ, nI_ltz, nI_gez, nI_gtz, nI_lez, nI_eqz, m1_ltz, m1_gez, true_imp_iff, false_imp_iff, true_and, and_true, ne_eq, not_false_eq_true, not_true_eq_false, Nat.reduceEqDiff, Nat.reduceLT, Nat.reduceLeDiff, pf_1 hF hpp, e8, e1, e0]
      refine xm_go_wk (by simp [Value.category]) (sv_1 hpp hc hJ (by omega) hnA hnB hv (hsrc n hmem hv).1 (hsrc n hmem hv).2 (fun h2 fd2 cn2 tr2 K2 L2 R2 hf2 hJ2 ho => nxt h2 fd2 cn2 tr2 K2 L2 R2 (Fr_tr hf hf2 (fun _ z => z) (fun _ z => z)) hJ2 (fun q hq => by rw [(ho q (fun z => hv (by rw [← z]; exact hq))).1, (ho q (fun z => hv (by rw [← z]; exact hq))).2]; exact hH q hq)) (fun h2 hf2 hb => hB h2 (Fr_tr hf hf2 (fun _ z => z) (fun _ z => z)) hb))
end SV
