/-! ===== the class: workTape from the machine on ===== -/
def wkR : List Nat := mcR ++ [6, 4]
def wkT : List (Nat × Nat) := mcT ++ [(5, 1), (5, 2), (5, 3), (3, 1), (3, 2), (3, 3), (0, 12), (0, 13), (0, 14), (0, 15)]
theorem wkT_fin : xt_fin.all (fun q => !(wkT.contains (q.1, q.2.1))) = true := by decide +kernel
theorem rd_is {Bm : Nat → Bool} {p n : Nat} {a : List Bool} (ha : a.length = n) (h : ∀ i, i < n → Bm (p + i) = a.getD i false) : mc_rd Bm p n = a := by
  have e : mc_rd Bm p n = mc_rd (mc_ex a) 0 n := mc_rd_congr (fun i hi => by rw [h i hi, Nat.zero_add]; rfl)
  rw [e, mc_rd_ex (by omega), List.drop_zero, li_kw (by omega)]
section WT
variable {sc : xm_Sc} {d pp df : Nat} {l : List Nat} {ps : List pr_D} {a : Nat} {S T : Nat → Ty} {tl : List Nat} {h : xm_H} {post : xm_Po} {rn : Int32}
theorem wt_works {n st ce : Nat} {w : mc_W} {r : (Nat → Bool) → Option mc_V} (hF : XF h) (hpp : pp = 52 ∨ pp = 77) (h9 : h.2.2 0 9 = .ref pp) (h12 : h.2.2 0 12 = .int rn) (hP : PF h pp l ps a S T) (en : ps.length = n + 1) (h11 : pC ps n ≠ 11) (es : w_s w n = ty_w (S n)) (et : w_t w n = ty_w (T n)) (hws : ty_w (S n) ≤ 2048) (hwt : ty_w (T n) ≤ 2048) (hrow : rowIs h 1 2 tl) (htl : ty_w (S n) ≤ 8 * tl.length) (hdf : df < 2)
    (hbg : ∀ post, Bg sc d pp df w h post n r) (hlr : Lr w n r) (hwc : w_c w n ≤ 830000) (hwf : w_f w n ≤ 90000) (hwd : w_d w n ≤ 1600) (hwr : w_r w n < 8000) (hwb : w_b w n ≤ 1099511627776) (hsp : ∀ a s c e, r (byB tl) = some (a, s, c, e) → df = 0 → s < 2 ^ 62)
    (p1 : r (byB tl) = none → ∀ h', XF h' → Fr mcR mcT h h' → post (some (.int (-1))) h')
    (p0 : ∀ a s c e, r (byB tl) = some (a, s, c, e) → a.length = ty_w (T n) → ∀ h', XF h' → Fr wkR wkT h h' → rowIs h' 3 4 (pkL (a.map Bool.toNat)) → h'.2.2 0 12 = .int (rn + nI 1) → (df = 0 → h'.2.2 0 13 = .int (nI (ty_w (S n) + ty_w (T n) + c)) ∧ h'.2.2 0 14 = .int (nI (2 + e)) ∧ h'.2.2 0 15 = .int (nI (min 2147483647 s))) → (df = 1 → h'.2.2 0 13 = h.2.2 0 13 ∧ h'.2.2 0 14 = h.2.2 0 14 ∧ h'.2.2 0 15 = h.2.2 0 15) → post (some (.int (nI ((ty_w (T n) + 7) / 8)))) h') :
    xm_go (XE sc) (xm_T (XE sc) (d + 8)) 197 post 134 [(4, .int (nI n)), (0, .ref 0), (3, .int (nI df))] [] h := by
  have hN : ps.length ≤ 400 := hP.2.2.1
  have hct : h.2.2 pp 0 = .int (nI (n + 1)) := by rw [← en]; exact hP.2.2.2.1
  obtain ⟨cn, tr, K, L, R, c1, c2, c3⟩ := hP.2.2.2.2.2.2.2
  obtain ⟨i, j, hi, hj, h6, ti, h7, tj⟩ := c3.1 n (List.mem_range.mpr (by omega)) h11
  with_reducible refine xm_go_blk b_X11_workTape_134 k_X11_workTape_134 ?_
  refine by_aload_n rfl ?_
  refine by_getf cn_197 fl_11_41 (by first | exact rfl | assumption) (by decide) ?_
  refine by_aload_n rfl ?_
  refine by_getf cn_197 fl_11_71 (by first | exact rfl | assumption) (by decide) ?_
  refine by_aload_n rfl ?_
  refine by_getf cn_197 fl_11_10 (by first | exact rfl | assumption) (by decide) ?_
  refine by_iload_n rfl ?_
  simp (disch := first | exact Nat.ne_of_beq_eq_false rfl | exact rfl | omega) only [nI_add, xa_sub, xa_mul, pk_div, nm_mod, xa_shr, xa_and7, xa_and1, xa_and255, xa_by_and, nI_m1, Nat.add_sub_cancel, Nat.reducePow, Nat.zero_add, Nat.add_zero, Nat.reduceAdd, Nat.reduceMul, Nat.reduceSub, xf_same, xq_ff, xq_fo, xf_1, xf_2, xs_1, xs_2, xs_same, xq_so, xj_1, xj_2, xj_same, xq_jo, xq_sa1, xq_same, xq_other, upd_s, oI_n, oI_s, xv_0, xv_1, xv_2, xv_3, xm_p1, xm_p2, xq_fp, xq_fn, List.filter_nil, Nat.reduceBEq, Bool.not_true, Bool.not_false, Bool.and_true, Bool.and_false, Bool.false_and, Bool.true_and, if_true, if_false, Bool.false_eq_true, reduceIte, xc_i, xc_j, xc_r, xc_n, List.nil_append, List.cons_append, Option.toList_some, Option.toList_none, xf_0_5 hF, h9, xf_0_0 hF]
  refine by_inv3 cn_197 lk_11_158 (by rw [xe_cnt]; decide) is_88 np_88 cn_88 (by first | exact rfl | assumption) (Nat.le_of_ble_eq_true rfl) ?_
  refine sp_works (d := d) hF hpp hct (by omega) c2 c1 hi h6 hj h7 (by rw [ti, es]) (by rw [tj, et]) (by omega) (by omega) hrow (by omega) (hbg _) hlr hwc hwf hwd hwr hwb (fun a' s c e hr h1 F1 f1 S1 b1 => ?_) (fun hr h1 F1 f1 => ?_)
  · have g9 : h1.2.2 0 9 = .ref pp := by rw [f1.2.2 _ _ (by simp [mcT])]; exact h9
    have la : a'.length = ty_w (T n) := by rw [(hlr.2 _ _ _ _ _ hr).1, et]
    have lc : c ≤ w_c w n := (hlr.2 _ _ _ _ _ hr).2.1
    have le : e ≤ w_f w n := (hlr.2 _ _ _ _ _ hr).2.2
    with_reducible refine xm_go_blk b_X11_workTape_150 k_X11_workTape_150 ?_
    refine by_if_ne 155 rfl ?_
    simp (disch := first | exact Nat.ne_of_beq_eq_false rfl | exact rfl | omega) only [nI_add, xa_sub, xa_mul, pk_div, nm_mod, xa_shr, xa_and7, xa_and1, xa_and255, xa_by_and, nI_m1, Nat.add_sub_cancel, Nat.reducePow, Nat.zero_add, Nat.add_zero, Nat.reduceAdd, Nat.reduceMul, Nat.reduceSub, xf_same, xq_ff, xq_fo, xf_1, xf_2, xs_1, xs_2, xs_same, xq_so, xj_1, xj_2, xj_same, xq_jo, xq_sa1, xq_same, xq_other, upd_s, oI_n, oI_s, xv_0, xv_1, xv_2, xv_3, xm_p1, xm_p2, xq_fp, xq_fn, List.filter_nil, Nat.reduceBEq, Bool.not_true, Bool.not_false, Bool.and_true, Bool.and_false, Bool.false_and, Bool.true_and, if_true, if_false, Bool.false_eq_true, reduceIte, xc_i, xc_j, xc_r, xc_n, List.nil_append, List.cons_append, Option.toList_some, Option.toList_none, nI_ltJ, nI_leJ, nI_eqJ, nI_ltz, nI_gez, nI_gtz, nI_lez, nI_eqz, m1_ltz, m1_gez, true_imp_iff, false_imp_iff, true_and, and_true, ne_eq, not_false_eq_true, not_true_eq_false, Nat.reduceEqDiff, Nat.reduceLT, Nat.reduceLeDiff, xf_0_2 F1]
    with_reducible refine xm_go_blk b_X11_workTape_155 k_X11_workTape_155 ?_
    refine by_aload_n rfl ?_
    refine by_getf cn_197 fl_11_19 (by first | exact rfl | assumption) (by decide) ?_
    simp (disch := first | exact Nat.ne_of_beq_eq_false rfl | exact rfl | omega) only [nI_add, xa_sub, xa_mul, pk_div, nm_mod, xa_shr, xa_and7, xa_and1, xa_and255, xa_by_and, nI_m1, Nat.add_sub_cancel, Nat.reducePow, Nat.zero_add, Nat.add_zero, Nat.reduceAdd, Nat.reduceMul, Nat.reduceSub, xf_same, xq_ff, xq_fo, xf_1, xf_2, xs_1, xs_2, xs_same, xq_so, xj_1, xj_2, xj_same, xq_jo, xq_sa1, xq_same, xq_other, upd_s, oI_n, oI_s, xv_0, xv_1, xv_2, xv_3, xm_p1, xm_p2, xq_fp, xq_fn, List.filter_nil, Nat.reduceBEq, Bool.not_true, Bool.not_false, Bool.and_true, Bool.and_false, Bool.false_and, Bool.true_and, if_true, if_false, Bool.false_eq_true, reduceIte, xc_i, xc_j, xc_r, xc_n, List.nil_append, List.cons_append, Option.toList_some, Option.toList_none, xf_0_2 F1]
    refine by_inv0 cn_197 lk_11_98 (by rw [xe_cnt]; decide) is_128 np_128 cn_128 (by first | exact rfl | assumption | exact ps_12 hpp) (Nat.le_of_ble_eq_true rfl) ?_
    refine sp_penclr F1 (fun h2 f2 p2 p3 => ?_)
    have f02 : Fr wkR wkT h h2 := Fr_tr (Fr_tr (Fr_rf (S := wkR) (T := wkT)) f1 (by simp [wkR, mcR]) (by simp [wkT, mcT])) f2 (by simp) (by simp [wkT])
    have F2 := Fr_XF hF f02 wkT_fin
    have b2 : penB h2 [] := ⟨by simp [bOK], by decide, by simpa using p2.1, by simpa using p2.2.1, by simpa using p3, fun k hk => absurd hk (by simp)⟩
    have g92 : h2.2.2 0 9 = .ref pp := by rw [f2.2.2 _ _ (by simp)]; exact g9
    have hP2 : PF h2 pp l ps a S T := PF_fk hP f02 (by rcases hpp with rfl | rfl <;> decide)
    with_reducible refine xm_go_blk b_X11_workTape_162 k_X11_workTape_162 ?_
    refine by_aload_n rfl ?_
    refine by_getf cn_197 fl_11_41 (by first | exact rfl | assumption) (by decide) ?_
    refine by_aload_n rfl ?_
    refine by_getf cn_197 fl_11_19 (by first | exact rfl | assumption) (by decide) ?_
    refine by_aload_n rfl ?_
    refine by_getf cn_197 fl_11_71 (by first | exact rfl | assumption) (by decide) ?_
    refine by_iload rfl ?_
    simp (disch := first | exact Nat.ne_of_beq_eq_false rfl | exact rfl | omega) only [nI_add, xa_sub, xa_mul, pk_div, nm_mod, xa_shr, xa_and7, xa_and1, xa_and255, xa_by_and, nI_m1, Nat.add_sub_cancel, Nat.reducePow, Nat.zero_add, Nat.add_zero, Nat.reduceAdd, Nat.reduceMul, Nat.reduceSub, xf_same, xq_ff, xq_fo, xf_1, xf_2, xs_1, xs_2, xs_same, xq_so, xj_1, xj_2, xj_same, xq_jo, xq_sa1, xq_same, xq_other, upd_s, oI_n, oI_s, xv_0, xv_1, xv_2, xv_3, xm_p1, xm_p2, xq_fp, xq_fn, List.filter_nil, Nat.reduceBEq, Bool.not_true, Bool.not_false, Bool.and_true, Bool.and_false, Bool.false_and, Bool.true_and, if_true, if_false, Bool.false_eq_true, reduceIte, xc_i, xc_j, xc_r, xc_n, List.nil_append, List.cons_append, Option.toList_some, Option.toList_none, xf_0_5 F2, xf_0_2 F2, g92]
    refine by_inv1 cn_197 lk_11_162 (by rw [xe_cnt]; decide) is_110 np_110 cn_110 (by first | exact rfl | assumption | exact ps_0 hpp) (Nat.le_of_ble_eq_true rfl) ?_
    refine sp_pgs F2 hpp hP2 (by omega) h11 hws ?_
    with_reducible refine xm_go_blk b_X11_workTape_179 k_X11_workTape_179 ?_
    refine by_aload_n rfl ?_
    refine by_getf cn_197 fl_11_71 (by first | exact rfl | assumption) (by decide) ?_
    refine by_iload rfl ?_
    simp (disch := first | exact Nat.ne_of_beq_eq_false rfl | exact rfl | omega) only [nI_add, xa_sub, xa_mul, pk_div, nm_mod, xa_shr, xa_and7, xa_and1, xa_and255, xa_by_and, nI_m1, Nat.add_sub_cancel, Nat.reducePow, Nat.zero_add, Nat.add_zero, Nat.reduceAdd, Nat.reduceMul, Nat.reduceSub, xf_same, xq_ff, xq_fo, xf_1, xf_2, xs_1, xs_2, xs_same, xq_so, xj_1, xj_2, xj_same, xq_jo, xq_sa1, xq_same, xq_other, upd_s, oI_n, oI_s, xv_0, xv_1, xv_2, xv_3, xm_p1, xm_p2, xq_fp, xq_fn, List.filter_nil, Nat.reduceBEq, Bool.not_true, Bool.not_false, Bool.and_true, Bool.and_false, Bool.false_and, Bool.true_and, if_true, if_false, Bool.false_eq_true, reduceIte, xc_i, xc_j, xc_r, xc_n, List.nil_append, List.cons_append, Option.toList_some, Option.toList_none, g92]
    refine by_inv1 cn_197 lk_11_166 (by rw [xe_cnt]; decide) is_111 np_111 cn_111 (by first | exact rfl | assumption | exact ps_0 hpp) (Nat.le_of_ble_eq_true rfl) ?_
    refine sp_pgt F2 hpp hP2 (by omega) h11 hwt ?_
    with_reducible refine xm_go_blk b_X11_workTape_188 k_X11_workTape_188 ?_
    refine by_inv3 cn_197 lk_11_169 (by rw [xe_cnt]; decide) is_84 np_84 cn_84 (by first | exact rfl | assumption) (Nat.le_of_ble_eq_true rfl) ?_
    refine sp_give F2 b2 (by simp; omega) (by omega) (fun h3 f3 b3 => ?_)
    have f03 : Fr wkR wkT h h3 := Fr_tr f02 f3 (by simp [wkR]) (by simp [wkT])
    have F3 := Fr_XF hF f03 wkT_fin
    have eb : mc_rd (mB h2) (ty_w (S n)) (ty_w (T n)) = a' := rd_is la (fun i hi => by
      rw [mB_fr f2 (by simp)]
      have := b1 i (by omega)
      rw [es] at this
      exact this)
    rw [eb, List.nil_append] at b3
    have r3 : h3.2.2 0 12 = .int rn := by rw [f3.2.2 _ _ (by simp), f2.2.2 _ _ (by simp), f1.2.2 _ _ (by simp [mcT])]; exact h12
    have pend : ∀ h4, Fr wkR wkT h h4 → penB h4 (a'.map Bool.toNat) → h4.2.2 0 12 = .int (rn + nI 1) → (df = 0 → h4.2.2 0 13 = .int (nI (ty_w (S n) + ty_w (T n) + c)) ∧ h4.2.2 0 14 = .int (nI (2 + e)) ∧ h4.2.2 0 15 = .int (nI (min 2147483647 s))) → (df = 1 → h4.2.2 0 13 = h.2.2 0 13 ∧ h4.2.2 0 14 = h.2.2 0 14 ∧ h4.2.2 0 15 = h.2.2 0 15) → xm_go (XE sc) (xm_T (XE sc) (d + 8)) 197 post 238 [(0, .ref 0)] [] h4 := by
      intro h4 f4 q4 r4 u0 u1
      have F4 := Fr_XF hF f4 wkT_fin
      with_reducible refine xm_go_blk b_X11_workTape_238 k_X11_workTape_238 ?_
      refine by_aload_n rfl ?_
      refine by_inv0 cn_197 lk_11_194 (by rw [xe_cnt]; decide) is_186 np_186 cn_186 (by first | exact rfl | assumption) (Nat.le_of_ble_eq_true rfl) ?_
      refine sp_publishL F4 (penB_pen q4) (by rw [pkL_len, List.length_map, la]; omega) (fun h5 f5 w5 => ?_)
      rw [pkL_len, List.length_map, la]
      with_reducible refine xm_go_blk b_X11_workTape_242 k_X11_workTape_242 ?_
      refine by_iret ry_197 (by first | rfl | assumption) ?_
      refine p0 a' s c e hr la h5 (Fr_XF F4 f5 (by decide +kernel)) (Fr_tr f4 f5 (by simp [wkR]) (by simp [wkT])) w5 (by rw [f5.2.2 _ _ (by simp)]; exact r4) (fun z => ?_) (fun z => ?_)
      · rw [f5.2.2 _ _ (by simp), f5.2.2 _ _ (by simp), f5.2.2 _ _ (by simp)]; exact u0 z
      · rw [f5.2.2 _ _ (by simp), f5.2.2 _ _ (by simp), f5.2.2 _ _ (by simp)]; exact u1 z
    obtain ⟨S11, S12, S13, S14, S15⟩ := S1
    rw [es, et] at S13
    rcases (by omega : df = 0 ∨ df = 1) with e0 | e0
    · subst e0
      have t0 : h3.2.2 32 0 = .int (nI (ty_w (S n) + ty_w (T n) + c)) := by rw [f3.2.2 _ _ (by simp), f2.2.2 _ _ (by simp)]; exact S13
      have t1 : h3.2.2 32 1 = .int (nI (2 + e)) := by rw [f3.2.2 _ _ (by simp), f2.2.2 _ _ (by simp)]; exact S14
      have t2 : h3.2.2 32 16 = .long (lN s) := by rw [f3.2.2 _ _ (by simp), f2.2.2 _ _ (by simp)]; exact S15
      with_reducible refine xm_go_blk b_X11_workTape_191 k_X11_workTape_191 ?_
      refine by_aload_n rfl ?_
      refine by_dup rfl ?_
      refine by_getf cn_197 fl_11_173 (by first | exact rfl | assumption) (by decide) ?_
      refine by_iconst ci_1 ?_
      simp (disch := first | exact Nat.ne_of_beq_eq_false rfl | exact rfl | omega) only [nI_add, xa_sub, xa_mul, pk_div, nm_mod, xa_shr, xa_and7, xa_and1, xa_and255, xa_by_and, nI_m1, Nat.add_sub_cancel, Nat.reducePow, Nat.zero_add, Nat.add_zero, Nat.reduceAdd, Nat.reduceMul, Nat.reduceSub, xf_same, xq_ff, xq_fo, xf_1, xf_2, xs_1, xs_2, xs_same, xq_so, xj_1, xj_2, xj_same, xq_jo, xq_sa1, xq_same, xq_other, upd_s, oI_n, oI_s, r3, xf_0_5 F3, t0, t1, t2]
      refine by_iadd ?_
      refine by_putf cn_197 fl_11_173 (by first | exact rfl | assumption) (by decide) nf_11_12 ft_11_12 (by first | rfl | assumption) (by first | rfl | assumption) ?_
      refine by_iload_n rfl ?_
      refine by_if_ne 238 rfl ?_
      simp (disch := first | exact Nat.ne_of_beq_eq_false rfl | exact rfl | omega) only [nI_add, xa_sub, xa_mul, pk_div, nm_mod, xa_shr, xa_and7, xa_and1, xa_and255, xa_by_and, nI_m1, Nat.add_sub_cancel, Nat.reducePow, Nat.zero_add, Nat.add_zero, Nat.reduceAdd, Nat.reduceMul, Nat.reduceSub, xf_same, xq_ff, xq_fo, xf_1, xf_2, xs_1, xs_2, xs_same, xq_so, xj_1, xj_2, xj_same, xq_jo, xq_sa1, xq_same, xq_other, upd_s, oI_n, oI_s, xv_0, xv_1, xv_2, xv_3, xm_p1, xm_p2, xq_fp, xq_fn, List.filter_nil, Nat.reduceBEq, Bool.not_true, Bool.not_false, Bool.and_true, Bool.and_false, Bool.false_and, Bool.true_and, if_true, if_false, Bool.false_eq_true, reduceIte, xc_i, xc_j, xc_r, xc_n, List.nil_append, List.cons_append, Option.toList_some, Option.toList_none, nI_ltJ, nI_leJ, nI_eqJ, nI_ltz, nI_gez, nI_gtz, nI_lez, nI_eqz, m1_ltz, m1_gez, true_imp_iff, false_imp_iff, true_and, and_true, ne_eq, not_false_eq_true, not_true_eq_false, Nat.reduceEqDiff, Nat.reduceLT, Nat.reduceLeDiff, r3, xf_0_5 F3, t0, t1, t2]
      with_reducible refine xm_go_blk b_X11_workTape_205 k_X11_workTape_205 ?_
      refine by_aload_n rfl ?_
      refine by_aload_n rfl ?_
      refine by_getf cn_197 fl_11_41 (by first | exact rfl | assumption) (by decide) ?_
      simp (disch := first | exact Nat.ne_of_beq_eq_false rfl | exact rfl | omega) only [nI_add, xa_sub, xa_mul, pk_div, nm_mod, xa_shr, xa_and7, xa_and1, xa_and255, xa_by_and, nI_m1, Nat.add_sub_cancel, Nat.reducePow, Nat.zero_add, Nat.add_zero, Nat.reduceAdd, Nat.reduceMul, Nat.reduceSub, xf_same, xq_ff, xq_fo, xf_1, xf_2, xs_1, xs_2, xs_same, xq_so, xj_1, xj_2, xj_same, xq_jo, xq_sa1, xq_same, xq_other, upd_s, oI_n, oI_s, r3, xf_0_5 F3, t0, t1, t2]
      refine by_getf cn_197 fl_11_176 (by first | exact rfl | assumption) (by decide) ?_
      simp (disch := first | exact Nat.ne_of_beq_eq_false rfl | exact rfl | omega) only [nI_add, xa_sub, xa_mul, pk_div, nm_mod, xa_shr, xa_and7, xa_and1, xa_and255, xa_by_and, nI_m1, Nat.add_sub_cancel, Nat.reducePow, Nat.zero_add, Nat.add_zero, Nat.reduceAdd, Nat.reduceMul, Nat.reduceSub, xf_same, xq_ff, xq_fo, xf_1, xf_2, xs_1, xs_2, xs_same, xq_so, xj_1, xj_2, xj_same, xq_jo, xq_sa1, xq_same, xq_other, upd_s, oI_n, oI_s, r3, xf_0_5 F3, t0, t1, t2]
      refine by_putf cn_197 fl_11_179 (by first | exact rfl | assumption) (by decide) nf_11_13 ft_11_13 (by first | rfl | assumption) (by first | rfl | assumption) ?_
      refine by_aload_n rfl ?_
      refine by_aload_n rfl ?_
      refine by_getf cn_197 fl_11_41 (by first | exact rfl | assumption) (by decide) ?_
      simp (disch := first | exact Nat.ne_of_beq_eq_false rfl | exact rfl | omega) only [nI_add, xa_sub, xa_mul, pk_div, nm_mod, xa_shr, xa_and7, xa_and1, xa_and255, xa_by_and, nI_m1, Nat.add_sub_cancel, Nat.reducePow, Nat.zero_add, Nat.add_zero, Nat.reduceAdd, Nat.reduceMul, Nat.reduceSub, xf_same, xq_ff, xq_fo, xf_1, xf_2, xs_1, xs_2, xs_same, xq_so, xj_1, xj_2, xj_same, xq_jo, xq_sa1, xq_same, xq_other, upd_s, oI_n, oI_s, r3, xf_0_5 F3, t0, t1, t2]
      refine by_getf cn_197 fl_11_182 (by first | exact rfl | assumption) (by decide) ?_
      simp (disch := first | exact Nat.ne_of_beq_eq_false rfl | exact rfl | omega) only [nI_add, xa_sub, xa_mul, pk_div, nm_mod, xa_shr, xa_and7, xa_and1, xa_and255, xa_by_and, nI_m1, Nat.add_sub_cancel, Nat.reducePow, Nat.zero_add, Nat.add_zero, Nat.reduceAdd, Nat.reduceMul, Nat.reduceSub, xf_same, xq_ff, xq_fo, xf_1, xf_2, xs_1, xs_2, xs_same, xq_so, xj_1, xj_2, xj_same, xq_jo, xq_sa1, xq_same, xq_other, upd_s, oI_n, oI_s, r3, xf_0_5 F3, t0, t1, t2]
      refine by_putf cn_197 fl_11_185 (by first | exact rfl | assumption) (by decide) nf_11_14 ft_11_14 (by first | rfl | assumption) (by first | rfl | assumption) ?_
      refine by_aload_n rfl ?_
      refine by_aload_n rfl ?_
      refine by_getf cn_197 fl_11_41 (by first | exact rfl | assumption) (by decide) ?_
      simp (disch := first | exact Nat.ne_of_beq_eq_false rfl | exact rfl | omega) only [nI_add, xa_sub, xa_mul, pk_div, nm_mod, xa_shr, xa_and7, xa_and1, xa_and255, xa_by_and, nI_m1, Nat.add_sub_cancel, Nat.reducePow, Nat.zero_add, Nat.add_zero, Nat.reduceAdd, Nat.reduceMul, Nat.reduceSub, xf_same, xq_ff, xq_fo, xf_1, xf_2, xs_1, xs_2, xs_same, xq_so, xj_1, xj_2, xj_same, xq_jo, xq_sa1, xq_same, xq_other, upd_s, oI_n, oI_s, xv_0, xv_1, xv_2, xv_3, xm_p1, xm_p2, xq_fp, xq_fn, List.filter_nil, Nat.reduceBEq, Bool.not_true, Bool.not_false, Bool.and_true, Bool.and_false, Bool.false_and, Bool.true_and, if_true, if_false, Bool.false_eq_true, reduceIte, xc_i, xc_j, xc_r, xc_n, List.nil_append, List.cons_append, Option.toList_some, Option.toList_none, r3, xf_0_5 F3, t0, t1, t2]
      refine by_inv0 cn_197 lk_11_188 (by rw [xe_cnt]; decide) is_87 np_87 cn_87 (by first | exact rfl | assumption) (Nat.le_of_ble_eq_true rfl) ?_
      refine xq_in rfl ?_
      simp only [xq_a0, xq_aI, xq_aJ, xq_aR, Nat.reduceAdd]
      with_reducible refine xm_go_blk b_X4_spentSteps_0 k_X4_spentSteps_0 ?_
      refine by_aload_n rfl ?_
      refine by_getf cn_87 fl_4_42 (by first | exact rfl | assumption) (by decide) ?_
      simp (disch := first | exact Nat.ne_of_beq_eq_false rfl | exact rfl | omega) only [nI_add, xa_sub, xa_mul, pk_div, nm_mod, xa_shr, xa_and7, xa_and1, xa_and255, xa_by_and, nI_m1, Nat.add_sub_cancel, Nat.reducePow, Nat.zero_add, Nat.add_zero, Nat.reduceAdd, Nat.reduceMul, Nat.reduceSub, xf_same, xq_ff, xq_fo, xf_1, xf_2, xs_1, xs_2, xs_same, xq_so, xj_1, xj_2, xj_same, xq_jo, xq_sa1, xq_same, xq_other, upd_s, oI_n, oI_s, xv_0, xv_1, xv_2, xv_3, xm_p1, xm_p2, xq_fp, xq_fn, List.filter_nil, Nat.reduceBEq, Bool.not_true, Bool.not_false, Bool.and_true, Bool.and_false, Bool.false_and, Bool.true_and, if_true, if_false, Bool.false_eq_true, reduceIte, xc_i, xc_j, xc_r, xc_n, List.nil_append, List.cons_append, Option.toList_some, Option.toList_none, r3, xf_0_5 F3, t0, t1, t2]
      refine by_ins1 cn_87 lk_4_46 (by rw [xe_cnt]; decide) is_104 np_104 (Nat.le_of_ble_eq_true rfl) ?_
      refine sp_capped (hsp _ _ _ _ hr rfl) ?_
      with_reducible refine xm_go_blk b_X4_spentSteps_7 k_X4_spentSteps_7 ?_
      refine by_iret ry_87 (by first | rfl | assumption) ?_
      with_reducible refine xm_go_blk b_X11_workTape_235 k_X11_workTape_235 ?_
      refine by_putf cn_197 fl_11_191 (by first | exact rfl | assumption) (by decide) nf_11_15 ft_11_15 (by first | rfl | assumption) (by first | rfl | assumption) ?_
      refine by_nil ?_
      refine xm_go_wk (by simp [Value.category]) (pend _ (Fr_sf (Fr_sf (Fr_sf (Fr_sf f03 (by simp [wkT])) (by simp [wkT])) (by simp [wkT])) (by simp [wkT])) (penB_fr b3 (Fr_sf (S := []) (T := [(0, 12), (0, 13), (0, 14), (0, 15)]) (Fr_sf (Fr_sf (Fr_sf Fr_rf (by simp)) (by simp)) (by simp)) (by simp)) (by simp) (by simp) (by simp) (by simp)) (by simp [xm_sf, updV]) (fun _ => ⟨by simp [xm_sf, updV], by simp [xm_sf, updV], by simp [xm_sf, updV]⟩) (fun z => absurd z (by decide)))
    · subst e0
      with_reducible refine xm_go_blk b_X11_workTape_191 k_X11_workTape_191 ?_
      refine by_aload_n rfl ?_
      refine by_dup rfl ?_
      refine by_getf cn_197 fl_11_173 (by first | exact rfl | assumption) (by decide) ?_
      refine by_iconst ci_1 ?_
      simp (disch := first | exact Nat.ne_of_beq_eq_false rfl | exact rfl | omega) only [nI_add, xa_sub, xa_mul, pk_div, nm_mod, xa_shr, xa_and7, xa_and1, xa_and255, xa_by_and, nI_m1, Nat.add_sub_cancel, Nat.reducePow, Nat.zero_add, Nat.add_zero, Nat.reduceAdd, Nat.reduceMul, Nat.reduceSub, xf_same, xq_ff, xq_fo, xf_1, xf_2, xs_1, xs_2, xs_same, xq_so, xj_1, xj_2, xj_same, xq_jo, xq_sa1, xq_same, xq_other, upd_s, oI_n, oI_s, r3]
      refine by_iadd ?_
      refine by_putf cn_197 fl_11_173 (by first | exact rfl | assumption) (by decide) nf_11_12 ft_11_12 (by first | rfl | assumption) (by first | rfl | assumption) ?_
      refine by_iload_n rfl ?_
      refine by_if_ne 238 rfl ?_
      simp (disch := first | exact Nat.ne_of_beq_eq_false rfl | exact rfl | omega) only [nI_add, xa_sub, xa_mul, pk_div, nm_mod, xa_shr, xa_and7, xa_and1, xa_and255, xa_by_and, nI_m1, Nat.add_sub_cancel, Nat.reducePow, Nat.zero_add, Nat.add_zero, Nat.reduceAdd, Nat.reduceMul, Nat.reduceSub, xf_same, xq_ff, xq_fo, xf_1, xf_2, xs_1, xs_2, xs_same, xq_so, xj_1, xj_2, xj_same, xq_jo, xq_sa1, xq_same, xq_other, upd_s, oI_n, oI_s, xv_0, xv_1, xv_2, xv_3, xm_p1, xm_p2, xq_fp, xq_fn, List.filter_nil, Nat.reduceBEq, Bool.not_true, Bool.not_false, Bool.and_true, Bool.and_false, Bool.false_and, Bool.true_and, if_true, if_false, Bool.false_eq_true, reduceIte, xc_i, xc_j, xc_r, xc_n, List.nil_append, List.cons_append, Option.toList_some, Option.toList_none, nI_ltJ, nI_leJ, nI_eqJ, nI_ltz, nI_gez, nI_gtz, nI_lez, nI_eqz, m1_ltz, m1_gez, true_imp_iff, false_imp_iff, true_and, and_true, ne_eq, not_false_eq_true, not_true_eq_false, Nat.reduceEqDiff, Nat.reduceLT, Nat.reduceLeDiff, r3]
      have k13 : ∀ j, j = 13 ∨ j = 14 ∨ j = 15 → h3.2.2 0 j = h.2.2 0 j := fun j hj => by
        rw [f3.2.2 _ _ (by simp), f2.2.2 _ _ (by simp), f1.2.2 _ _ (by simp [mcT])]
      refine xm_go_wk (by simp [Value.category]) (pend _ (Fr_sf f03 (by simp [wkT])) (penB_fr b3 (Fr_sf (S := []) (T := [(0, 12)]) Fr_rf (by simp)) (by simp) (by simp) (by simp) (by simp)) (by simp [xm_sf, updV]) (fun z => absurd z (by decide)) (fun _ => ⟨?_, ?_, ?_⟩))
      · rw [← k13 13 (by omega)]; simp [xm_sf, updV]
      · rw [← k13 14 (by omega)]; simp [xm_sf, updV]
      · rw [← k13 15 (by omega)]; simp [xm_sf, updV]
  · with_reducible refine xm_go_blk b_X11_workTape_150 k_X11_workTape_150 ?_
    refine by_if_ne 155 rfl ?_
    simp (disch := first | exact Nat.ne_of_beq_eq_false rfl | exact rfl | omega) only [nI_add, xa_sub, xa_mul, pk_div, nm_mod, xa_shr, xa_and7, xa_and1, xa_and255, xa_by_and, nI_m1, Nat.add_sub_cancel, Nat.reducePow, Nat.zero_add, Nat.add_zero, Nat.reduceAdd, Nat.reduceMul, Nat.reduceSub, xf_same, xq_ff, xq_fo, xf_1, xf_2, xs_1, xs_2, xs_same, xq_so, xj_1, xj_2, xj_same, xq_jo, xq_sa1, xq_same, xq_other, upd_s, oI_n, oI_s, xv_0, xv_1, xv_2, xv_3, xm_p1, xm_p2, xq_fp, xq_fn, List.filter_nil, Nat.reduceBEq, Bool.not_true, Bool.not_false, Bool.and_true, Bool.and_false, Bool.false_and, Bool.true_and, if_true, if_false, Bool.false_eq_true, reduceIte, xc_i, xc_j, xc_r, xc_n, List.nil_append, List.cons_append, Option.toList_some, Option.toList_none, nI_ltJ, nI_leJ, nI_eqJ, nI_ltz, nI_gez, nI_gtz, nI_lez, nI_eqz, m1_ltz, m1_gez, true_imp_iff, false_imp_iff, true_and, and_true, ne_eq, not_false_eq_true, not_true_eq_false, Nat.reduceEqDiff, Nat.reduceLT, Nat.reduceLeDiff]
    with_reducible refine xm_go_blk b_X11_workTape_153 k_X11_workTape_153 ?_
    refine by_iconst ci_m1 ?_
    refine by_iret ry_197 (by first | rfl | assumption) ?_
    exact p1 hr h1 F1 f1
end WT
