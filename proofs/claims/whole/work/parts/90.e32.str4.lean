/-! ===== speak: a child and a line of the class ===== -/
theorem xs_callV1 {E : xm_E} {y z idx b c cz N pc : Nat} {SP : List Value → xm_H → xm_Po → Prop} {P : xm_Q1} {lv : xm_L} {v1 : Value} {rest : List Value} {h : xm_H} (hdg : decode (xe_cy E y) pc = .ok (.invokevirtual idx, 3)) (hc : xe_cn E y = c) (hl : xe_lk E c idx = some z) (hi : xe_is E z = false) (hn : xe_np E z = 1) (hcz : xe_cn E z = cz) (hs : (xe_sh E)[b]? = some (.inr (cz, N))) (hr : (rest.map fun v => v.category).sum ≤ 8) (H : SP [.ref b, v1] h (fun r h' => P (pc + 3) lv (r.toList ++ rest) h')) : xs_cV E y z SP P pc lv (v1 :: .ref b :: rest) h :=
  ⟨idx, [v1], b, rest, hdg, by rw [hc]; exact hl, hi, by rw [hn]; rfl, ⟨_, hs, hcz.symm⟩, hr, rfl, H⟩
theorem xs_callV2 {E : xm_E} {y z idx b c cz N pc : Nat} {SP : List Value → xm_H → xm_Po → Prop} {P : xm_Q1} {lv : xm_L} {v1 v2 : Value} {rest : List Value} {h : xm_H} (hdg : decode (xe_cy E y) pc = .ok (.invokevirtual idx, 3)) (hc : xe_cn E y = c) (hl : xe_lk E c idx = some z) (hi : xe_is E z = false) (hn : xe_np E z = 2) (hcz : xe_cn E z = cz) (hs : (xe_sh E)[b]? = some (.inr (cz, N))) (hr : (rest.map fun v => v.category).sum ≤ 8) (H : SP [.ref b, v1, v2] h (fun r h' => P (pc + 3) lv (r.toList ++ rest) h')) : xs_cV E y z SP P pc lv (v2 :: v1 :: .ref b :: rest) h :=
  ⟨idx, [v1, v2], b, rest, hdg, by rw [hc]; exact hl, hi, by rw [hn]; rfl, ⟨_, hs, hcz.symm⟩, hr, rfl, H⟩
theorem xs_callS2 {E : xm_E} {y z idx c pc : Nat} {SP : List Value → xm_H → xm_Po → Prop} {P : xm_Q1} {lv : xm_L} {v1 v2 : Value} {rest : List Value} {h : xm_H} (hdg : decode (xe_cy E y) pc = .ok (.invokestatic idx, 3)) (hc : xe_cn E y = c) (hl : xe_lk E c idx = some z) (hi : xe_is E z = true) (hn : xe_np E z = 2) (hr : (rest.map fun v => v.category).sum ≤ 8) (H : SP [v1, v2] h (fun r h' => P (pc + 3) lv (r.toList ++ rest) h')) : xs_cS E y z SP P pc lv (v2 :: v1 :: rest) h :=
  ⟨idx, [v1, v2], rest, hdg, by rw [hc]; exact hl, hi, by rw [hn]; rfl, hr, rfl, H⟩
def tx113 : Nat → Option Nat := fun pc => if pc = 5 then some 1 else none
def tx115 : Nat → Option Nat := fun pc => if pc = 12 then some 0 else none
def ex113 (sc : xm_Sc) (d : Nat) : xm_Q1 → xm_Q1 := fun P pc lv st h => xs_ldc tx113 P pc lv st h ∨ xs_cV (XE sc) 113 140 (SP140 sc d) P pc lv st h
def SP113 (sc : xm_Sc) (d : Nat) (as : List Value) (h : xm_H) (post : xm_Po) : Prop := (lg_sl as).length ≤ 2 ∧ xm_goY (XE sc) d 113 post (fun _ => none) (fun _ _ => False) (ex113 sc d) 0 (lv_args 0 as) [] h
def ex115 (sc : xm_Sc) (d : Nat) : xm_Q1 → xm_Q1 := fun P pc lv st h => xs_ldc tx115 P pc lv st h ∨ (xs_cV (XE sc) 115 140 (SP140 sc d) P pc lv st h ∨ xs_cS (XE sc) 115 113 (SP113 sc d) P pc lv st h)
def SP115 (sc : xm_Sc) (d : Nat) (as : List Value) (h : xm_H) (post : xm_Po) : Prop := (lg_sl as).length ≤ 3 ∧ xm_goY (XE sc) d 115 post (fun _ => none) (fun _ _ => False) (ex115 sc d) 0 (lv_args 0 as) [] h
section SPL
variable {sc : xm_Sc} {d n pp a : Nat} {l l0 : List Nat} {ps : List pr_D} {S T : Nat → Ty} {h : xm_H} {post : xm_Po}
theorem SP113_m : xm_mS (SP113 sc d) := fun _ _ _ _ hq z => ⟨z.1, xy_mono hq z.2⟩
theorem SP115_m : xm_mS (SP115 sc d) := fun _ _ _ _ hq z => ⟨z.1, xy_mono hq z.2⟩
theorem ex113_m : xm_mX (ex113 sc d) := xs_or_m xs_ldc_m (xs_cV_m SP140_m)
theorem ex115_m : xm_mX (ex115 sc d) := xs_or_m xs_ldc_m (xs_or_m (xs_cV_m SP140_m) (xs_cS_m SP113_m))
theorem ex113_ok {la : Launch} {sa V : Nat → Nat} : xm_exs (XE sc) la xs_V (xs_TF sa V) d 1 113 (ex113 sc d) := by
  refine xm_exs_or (xs_ldc_ok (fun pc i hi => ?_)) (xs_cV_ok (k := 0) (XE_ok sc) (by rw [xe_cnt]; decide) (by rw [xe_cnt]; decide) xs_Vg xs_TF_b xs_TF_w SP140_M)
  unfold tx113 at hi
  split at hi
  · rename_i e
    subst e
    cases hi
    exact ⟨152, " n", (by decide +kernel : decode cX6_writeChild 5 = .ok (.ldc 152, 2)), fun _ _ _ z => z.2.2.2⟩
  · cases hi
theorem SP113_M {la : Launch} {sa V : Nat → Nat} : xm_spM (XE sc) la xs_V (xs_TF sa V) d 1 113 (SP113 sc d) := fun _ _ _ z D ad ks sz => xm_metN (XE_ok sc) (by rw [xe_cnt]; decide) ex113_ok (by rw [ml_113]; exact z.1) z.2 D ad ks sz
theorem ex115_ok {la : Launch} {sa V : Nat → Nat} : xm_exs (XE sc) la xs_V (xs_TF sa V) d 2 115 (ex115 sc d) := by
  refine xm_exs_or (xs_ldc_ok (fun pc i hi => ?_)) (xm_exs_or (xm_exs_up (k := 1) (by decide) (xs_cV_ok (k := 0) (XE_ok sc) (by rw [xe_cnt]; decide) (by rw [xe_cnt]; decide) xs_Vg xs_TF_b xs_TF_w SP140_M)) (xs_cS_ok (k := 1) (XE_ok sc) (by rw [xe_cnt]; decide) (by rw [xe_cnt]; decide) xs_Vg xs_TF_b xs_TF_w SP113_M))
  unfold tx115 at hi
  split at hi
  · rename_i e
    subst e
    cases hi
    exact ⟨126, " = ", (by decide +kernel : decode cX6_writeLine 12 = .ok (.ldc 126, 2)), fun _ _ _ z => z.2.2.1⟩
  · cases hi
theorem SP115_M {la : Launch} {sa V : Nat → Nat} : xm_spM (XE sc) la xs_V (xs_TF sa V) d 2 115 (SP115 sc d) := fun _ _ _ z D ad ks sz => xm_metN (XE_ok sc) (by rw [xe_cnt]; decide) ex115_ok (by rw [ml_115]; exact z.1) z.2 D ad ks sz
theorem sp_writeChild {o : Option Nat} (hF : XF h) (hl : penIs h l) (ho : ∀ x, o = some x → x < 1000) (hp : ∀ h', Fr [6] [(5, 1), (5, 2)] h h' → penIs h' (l ++ lnC o) → post none h') : SP113 sc (d + 2) [.int (oI o), .ref 5] h post := by
  refine ⟨Nat.le_of_ble_eq_true rfl, ?_⟩
  cases o with
  | none =>
    show xm_goY (XE sc) (d + 2) 113 post (fun _ => none) (fun _ _ => False) (ex113 sc (d + 2)) 0 [(0, .int (-1)), (1, .ref 5)] [] h
    with_reducible refine xy_blk b_X6_writeChild_0 k_X6_writeChild_0 ?_
    refine by_iload_n rfl ?_
    refine by_if_lt 15 rfl ?_
    simp (disch := first | exact Nat.ne_of_beq_eq_false rfl | exact rfl | omega) only [nI_add, xa_sub, xa_mul, pk_div, nm_mod, xa_shr, xa_and7, xa_and1, xa_and255, xa_by_and, nI_m1, Nat.add_sub_cancel, Nat.reducePow, Nat.zero_add, Nat.add_zero, Nat.reduceAdd, Nat.reduceMul, Nat.reduceSub, xf_same, xq_ff, xq_fo, xf_1, xf_2, xs_1, xs_2, xs_same, xq_so, xj_1, xj_2, xj_same, xq_jo, xq_sa1, xq_same, xq_other, upd_s, oI_n, oI_s, xv_0, xv_1, xv_2, xv_3, xm_p1, xm_p2, xq_fp, xq_fn, List.filter_nil, Nat.reduceBEq, Bool.not_true, Bool.not_false, Bool.and_true, Bool.and_false, Bool.false_and, Bool.true_and, if_true, if_false, Bool.false_eq_true, reduceIte, xc_i, xc_j, xc_r, xc_n, List.nil_append, List.cons_append, Option.toList_some, Option.toList_none, nI_ltJ, nI_leJ, nI_eqJ, nI_ltz, nI_gez, nI_gtz, nI_lez, nI_eqz, m1_ltz, m1_gez, true_imp_iff, false_imp_iff, true_and, and_true, ne_eq, not_false_eq_true, not_true_eq_false, Nat.reduceEqDiff, Nat.reduceLT, Nat.reduceLeDiff]
    with_reducible refine xy_blk b_X6_writeChild_15 k_X6_writeChild_15 ?_
    refine by_ret ry_113 ?_
    exact hp h Fr_rf (by simpa [lnC] using hl)
  | some x =>
    have hx := ho x rfl
    show xm_goY (XE sc) (d + 2) 113 post (fun _ => none) (fun _ _ => False) (ex113 sc (d + 2)) 0 [(0, .int (nI x)), (1, .ref 5)] [] h
    with_reducible refine xy_blk b_X6_writeChild_0 k_X6_writeChild_0 ?_
    refine by_iload_n rfl ?_
    refine by_if_lt 15 rfl ?_
    simp (disch := first | exact Nat.ne_of_beq_eq_false rfl | exact rfl | omega) only [nI_add, xa_sub, xa_mul, pk_div, nm_mod, xa_shr, xa_and7, xa_and1, xa_and255, xa_by_and, nI_m1, Nat.add_sub_cancel, Nat.reducePow, Nat.zero_add, Nat.add_zero, Nat.reduceAdd, Nat.reduceMul, Nat.reduceSub, xf_same, xq_ff, xq_fo, xf_1, xf_2, xs_1, xs_2, xs_same, xq_so, xj_1, xj_2, xj_same, xq_jo, xq_sa1, xq_same, xq_other, upd_s, oI_n, oI_s, xv_0, xv_1, xv_2, xv_3, xm_p1, xm_p2, xq_fp, xq_fn, List.filter_nil, Nat.reduceBEq, Bool.not_true, Bool.not_false, Bool.and_true, Bool.and_false, Bool.false_and, Bool.true_and, if_true, if_false, Bool.false_eq_true, reduceIte, xc_i, xc_j, xc_r, xc_n, List.nil_append, List.cons_append, Option.toList_some, Option.toList_none, nI_ltJ, nI_leJ, nI_eqJ, nI_ltz, nI_gez, nI_gtz, nI_lez, nI_eqz, m1_ltz, m1_gez, true_imp_iff, false_imp_iff, true_and, and_true, ne_eq, not_false_eq_true, not_true_eq_false, Nat.reduceEqDiff, Nat.reduceLT, Nat.reduceLeDiff]
    with_reducible refine xy_blk b_X6_writeChild_4c k_X6_writeChild_4c ?_
    refine by_aload_n rfl ?_
    refine by_nil ?_
    refine xy_ex ex113_m (Or.inl ⟨1, rfl, ?_⟩)
    refine xy_ex ex113_m (Or.inr (xs_callV1 (N := 4) (by show decode cX6_writeChild 7 = .ok (.invokevirtual 128, 3); decide +kernel) cn_113 lk_6_128 is_140 np_140 cn_140 rfl (by decide) ?_))
    refine sp_putText1 hF hl (fun h1 f1 m1 => ?_)
    have F1 := Fr_XF hF f1 (by decide +kernel)
    with_reducible refine xy_blk b_X6_writeChild_10 k_X6_writeChild_10 ?_
    refine by_aload_n rfl ?_
    refine by_iload_n rfl ?_
    refine by_inv1 cn_113 lk_6_123 (by rw [xe_cnt]; decide) is_139 np_139 cn_139 (by first | exact rfl | assumption | exact ps_12 hpp) (Nat.le_of_ble_eq_true rfl) ?_
    refine sp_putNumber F1 m1 hx (fun h2 f2 m2 => ?_)
    with_reducible refine xy_blk b_X6_writeChild_15 k_X6_writeChild_15 ?_
    refine by_ret ry_113 ?_
    exact hp h2 (Fr_tr f1 f2 (fun _ z => z) (fun _ z => z)) (by simpa [lnC] using m2)
theorem sp_writeLine (hF : XF h) (hpp : pp = 52 ∨ pp = 77) (hP : PG h pp l ps a S T) (hn : n < ps.length) (hl : penIs h l0) (hp : ∀ h' l', Fr [6] [(5, 1), (5, 2)] h h' → penIs h' l' → ovE l' (l0 ++ lnT (l, ps, a, S, T) n) → post none h') : SP115 sc (d + 3) [.ref pp, .int (nI n), .ref 5] h post := by
  have hps : ps.length ≤ 400 := hP.1.2.2.1
  have hok : pr_ok n (nd ps n) := hP.1.1 n hn
  have h12 : pC ps n ≤ 12 := hok.1
  have hnu : pNu ps n ≤ 167 := hok.2.2.2.2.2.1
  have ho1 : ∀ x, p1 ps n = some x → x < 1000 := fun x hx => by have := hok.2.2.2.1 x hx; omega
  have ho2 : ∀ x, p2 ps n = some x → x < 1000 := fun x hx => by have := hok.2.2.2.2.1 x hx; omega
  obtain ⟨k0, b, hk0, -, hwt⟩ := hP.1.2.2.2.2.2.1
  have hk1 := hk0
  have eb : wtB (l, ps, a, S, T) = b := by unfold wtB; rw [hk0]
  obtain ⟨hx, nh, hnh, -, hcd⟩ := hP.1.2.2.2.2.2.2.1
  obtain ⟨d1, d2, d3, d4, d5⟩ := hcd n hn
  have hrow : rowIs h (pp + 12) (pp + 13) l := hP.1.2.2.2.2.1
  have hq : pp + 1 ∉ [6] ∧ pp + 2 ∉ [6] ∧ pp + 3 ∉ [6] ∧ pp + 4 ∉ [6] ∧ pp + 11 ∉ [6] ∧ pp + 13 ∉ [6] ∧ (pp + 12, 0) ∉ [(5, 1), (5, 2)] ∧ (pp + 12, 1) ∉ [(5, 1), (5, 2)] := by rcases hpp with rfl | rfl <;> decide
  have tr : ∀ {h1 h2 : xm_H}, Fr [6] [(5, 1), (5, 2)] h h1 → Fr [6] [(5, 1), (5, 2)] h1 h2 → Fr [6] [(5, 1), (5, 2)] h h2 := fun f1 f2 => Fr_tr f1 f2 (fun _ z => z) (fun _ z => z)
  have xf : ∀ {h1 : xm_H}, Fr [6] [(5, 1), (5, 2)] h h1 → XF h1 := fun f1 => Fr_XF hF f1 (by decide +kernel)
  obtain ⟨c, ec⟩ : ∃ c, pC ps n = c := ⟨_, rfl⟩
  rw [ec] at d1 d4 d5 h12
  refine ⟨Nat.le_of_ble_eq_true rfl, ?_⟩
  show xm_goY (XE sc) (d + 3) 115 post (fun _ => none) (fun _ _ => False) (ex115 sc (d + 3)) 0 [(0, .ref pp), (1, .int (nI n)), (2, .ref 5)] [] h
  with_reducible refine xy_blk b_X6_writeLine_0 k_X6_writeLine_0 ?_
  refine by_aload_n rfl ?_
  refine by_bipush cb_110 ?_
  refine by_inv1 cn_115 lk_6_119 (by rw [xe_cnt]; decide) is_133 np_133 cn_133 (by first | exact rfl | assumption | exact ps_12 hpp) (Nat.le_of_ble_eq_true rfl) ?_
  refine sp_pen hF hl (by omega) (fun h1 f1 m1 => ?_)
  with_reducible refine xy_blk b_X6_writeLine_6 k_X6_writeLine_6 ?_
  refine by_aload_n rfl ?_
  refine by_iload_n rfl ?_
  refine by_inv1 cn_115 lk_6_123 (by rw [xe_cnt]; decide) is_139 np_139 cn_139 (by first | exact rfl | assumption | exact ps_12 hpp) (Nat.le_of_ble_eq_true rfl) ?_
  refine sp_putNumber (xf f1) m1 (by omega) (fun h2 f2 m2 => ?_)
  replace f2 := tr f1 f2
  with_reducible refine xy_blk b_X6_writeLine_11c k_X6_writeLine_11c ?_
  refine by_aload_n rfl ?_
  refine by_nil ?_
  refine xy_ex ex115_m (Or.inl ⟨0, rfl, ?_⟩)
  refine xy_ex ex115_m (Or.inr (Or.inl (xs_callV1 (N := 4) (by show decode cX6_writeLine 14 = .ok (.invokevirtual 128, 3); decide +kernel) cn_115 lk_6_128 is_140 np_140 cn_140 rfl (by decide) ?_)))
  refine sp_putText0 (xf f2) m2 (fun h3 f3 m3 => ?_)
  replace f3 := tr f2 f3
  have c3 : h3.1 (pp + 1) n = nI c := by rw [f3.1 _ hq.1]; exact d1
  have ctg : xt_X9_TONGUE c = lN (tgC c) := tg_n c (by omega)
  with_reducible refine xy_blk b_X6_writeLine_17 k_X6_writeLine_17 ?_
  refine by_aload_n rfl ?_
  refine by_gets cn_115 gs_6_132 ?_
  refine by_aload_n rfl ?_
  refine by_getf cn_115 fl_6_9 (by first | exact rfl | assumption | exact ps_0 hpp) (by decide) ?_
  refine by_iload_n rfl ?_
  simp (disch := first | exact Nat.ne_of_beq_eq_false rfl | exact rfl | omega) only [nI_add, xa_sub, xa_mul, pk_div, nm_mod, xa_shr, xa_and7, xa_and1, xa_and255, xa_by_and, nI_m1, Nat.add_sub_cancel, Nat.reducePow, Nat.zero_add, Nat.add_zero, Nat.reduceAdd, Nat.reduceMul, Nat.reduceSub, xf_same, xq_ff, xq_fo, xf_1, xf_2, xs_1, xs_2, xs_same, xq_so, xj_1, xj_2, xj_same, xq_jo, xq_sa1, xq_same, xq_other, upd_s, oI_n, oI_s, pf_1 (xf f3) hpp, c3, ctg]
  first | refine by_iald (by first | exact rfl | assumption | exact ps_1 hpp | exact ps_2 hpp | exact ps_3 hpp | exact ps_4 hpp | exact ps_5 hpp | exact ps_6 hpp | exact ps_7 hpp | exact ps_8 hpp | exact ps_9 hpp | exact ps_10 hpp | exact ps_11 hpp | exact ps_15 hpp | exact ps_16 hpp | exact ps_17 hpp | exact ps_18 hpp | exact ps_19 hpp | exact ps_21 hpp | exact ps_22 hpp | exact ps_23 hpp | exact ps_24 hpp) ⟨by omega, by omega⟩ ?_ | refine by_tald rfl rfl ⟨by omega, by omega⟩ ?_
  simp (disch := first | exact Nat.ne_of_beq_eq_false rfl | exact rfl | omega) only [nI_add, xa_sub, xa_mul, pk_div, nm_mod, xa_shr, xa_and7, xa_and1, xa_and255, xa_by_and, nI_m1, Nat.add_sub_cancel, Nat.reducePow, Nat.zero_add, Nat.add_zero, Nat.reduceAdd, Nat.reduceMul, Nat.reduceSub, xf_same, xq_ff, xq_fo, xf_1, xf_2, xs_1, xs_2, xs_same, xq_so, xj_1, xj_2, xj_same, xq_jo, xq_sa1, xq_same, xq_other, upd_s, oI_n, oI_s, pf_1 (xf f3) hpp, c3, ctg]
  first | refine by_lald (by first | exact rfl | assumption) ⟨by omega, by omega⟩ ?_ | refine by_tlald rfl rfl ⟨by omega, by omega⟩ ?_
  simp (disch := first | exact Nat.ne_of_beq_eq_false rfl | exact rfl | omega) only [nI_add, xa_sub, xa_mul, pk_div, nm_mod, xa_shr, xa_and7, xa_and1, xa_and255, xa_by_and, nI_m1, Nat.add_sub_cancel, Nat.reducePow, Nat.zero_add, Nat.add_zero, Nat.reduceAdd, Nat.reduceMul, Nat.reduceSub, xf_same, xq_ff, xq_fo, xf_1, xf_2, xs_1, xs_2, xs_same, xq_so, xj_1, xj_2, xj_same, xq_jo, xq_sa1, xq_same, xq_other, upd_s, oI_n, oI_s, xv_0, xv_1, xv_2, xv_3, xm_p1, xm_p2, xq_fp, xq_fn, List.filter_nil, Nat.reduceBEq, Bool.not_true, Bool.not_false, Bool.and_true, Bool.and_false, Bool.false_and, Bool.true_and, if_true, if_false, Bool.false_eq_true, reduceIte, xc_i, xc_j, xc_r, xc_n, List.nil_append, List.cons_append, Option.toList_some, Option.toList_none, pf_1 (xf f3) hpp, c3, ctg]
  refine by_inv1 cn_115 lk_6_138 (by rw [xe_cnt]; decide) is_137 np_137 cn_137 (by first | exact rfl | assumption | exact ps_12 hpp) (Nat.le_of_ble_eq_true rfl) ?_
  refine sp_putLetters (xf f3) m3 (BitVec.isLt _) (fun h4 f4 m4 => ?_)
  replace f4 := tr f3 f4
  rw [tg_w c (by omega)] at m4
  have c4 : h4.1 (pp + 2) n = oI (p1 ps n) := by rw [f4.1 _ hq.2.1]; exact d2
  with_reducible refine xy_blk b_X6_writeLine_31c k_X6_writeLine_31c ?_
  refine by_aload_n rfl ?_
  refine by_getf cn_115 fl_6_15 (by first | exact rfl | assumption | exact ps_0 hpp) (by decide) ?_
  refine by_iload_n rfl ?_
  simp (disch := first | exact Nat.ne_of_beq_eq_false rfl | exact rfl | omega) only [nI_add, xa_sub, xa_mul, pk_div, nm_mod, xa_shr, xa_and7, xa_and1, xa_and255, xa_by_and, nI_m1, Nat.add_sub_cancel, Nat.reducePow, Nat.zero_add, Nat.add_zero, Nat.reduceAdd, Nat.reduceMul, Nat.reduceSub, xf_same, xq_ff, xq_fo, xf_1, xf_2, xs_1, xs_2, xs_same, xq_so, xj_1, xj_2, xj_same, xq_jo, xq_sa1, xq_same, xq_other, upd_s, oI_n, oI_s, pf_2 (xf f4) hpp, c4]
  first | refine by_iald (by first | exact rfl | assumption | exact ps_1 hpp | exact ps_2 hpp | exact ps_3 hpp | exact ps_4 hpp | exact ps_5 hpp | exact ps_6 hpp | exact ps_7 hpp | exact ps_8 hpp | exact ps_9 hpp | exact ps_10 hpp | exact ps_11 hpp | exact ps_15 hpp | exact ps_16 hpp | exact ps_17 hpp | exact ps_18 hpp | exact ps_19 hpp | exact ps_21 hpp | exact ps_22 hpp | exact ps_23 hpp | exact ps_24 hpp) ⟨by omega, by omega⟩ ?_ | refine by_tald rfl rfl ⟨by omega, by omega⟩ ?_
  refine by_aload_n rfl ?_
  refine by_nil ?_
  try simp (disch := first | exact Nat.ne_of_beq_eq_false rfl | exact rfl | omega) only [nI_add, xa_sub, xa_mul, pk_div, nm_mod, xa_shr, xa_and7, xa_and1, xa_and255, xa_by_and, nI_m1, Nat.add_sub_cancel, Nat.reducePow, Nat.zero_add, Nat.add_zero, Nat.reduceAdd, Nat.reduceMul, Nat.reduceSub, xf_same, xq_ff, xq_fo, xf_1, xf_2, xs_1, xs_2, xs_same, xq_so, xj_1, xj_2, xj_same, xq_jo, xq_sa1, xq_same, xq_other, upd_s, oI_n, oI_s, xv_0, xv_1, xv_2, xv_3, xm_p1, xm_p2, xq_fp, xq_fn, List.filter_nil, Nat.reduceBEq, Bool.not_true, Bool.not_false, Bool.and_true, Bool.and_false, Bool.false_and, Bool.true_and, if_true, if_false, Bool.false_eq_true, reduceIte, xc_i, xc_j, xc_r, xc_n, List.nil_append, List.cons_append, Option.toList_some, Option.toList_none, pf_2 (xf f4) hpp, c4]
  refine xy_ex ex115_m (Or.inr (Or.inr (xs_callS2 (by show decode cX6_writeLine 38 = .ok (.invokestatic 142, 3); decide +kernel) cn_115 lk_6_142 is_113 np_113 (by decide) ?_)))
  refine sp_writeChild (d := d + 1) (xf f4) m4 ho1 (fun h5 f5 m5 => ?_)
  replace f5 := tr f4 f5
  have c5 : h5.1 (pp + 3) n = oI (p2 ps n) := by rw [f5.1 _ hq.2.2.1]; exact d3
  with_reducible refine xy_blk b_X6_writeLine_41c k_X6_writeLine_41c ?_
  refine by_aload_n rfl ?_
  refine by_getf cn_115 fl_6_18 (by first | exact rfl | assumption | exact ps_0 hpp) (by decide) ?_
  refine by_iload_n rfl ?_
  simp (disch := first | exact Nat.ne_of_beq_eq_false rfl | exact rfl | omega) only [nI_add, xa_sub, xa_mul, pk_div, nm_mod, xa_shr, xa_and7, xa_and1, xa_and255, xa_by_and, nI_m1, Nat.add_sub_cancel, Nat.reducePow, Nat.zero_add, Nat.add_zero, Nat.reduceAdd, Nat.reduceMul, Nat.reduceSub, xf_same, xq_ff, xq_fo, xf_1, xf_2, xs_1, xs_2, xs_same, xq_so, xj_1, xj_2, xj_same, xq_jo, xq_sa1, xq_same, xq_other, upd_s, oI_n, oI_s, pf_3 (xf f5) hpp, c5]
  first | refine by_iald (by first | exact rfl | assumption | exact ps_1 hpp | exact ps_2 hpp | exact ps_3 hpp | exact ps_4 hpp | exact ps_5 hpp | exact ps_6 hpp | exact ps_7 hpp | exact ps_8 hpp | exact ps_9 hpp | exact ps_10 hpp | exact ps_11 hpp | exact ps_15 hpp | exact ps_16 hpp | exact ps_17 hpp | exact ps_18 hpp | exact ps_19 hpp | exact ps_21 hpp | exact ps_22 hpp | exact ps_23 hpp | exact ps_24 hpp) ⟨by omega, by omega⟩ ?_ | refine by_tald rfl rfl ⟨by omega, by omega⟩ ?_
  refine by_aload_n rfl ?_
  refine by_nil ?_
  try simp (disch := first | exact Nat.ne_of_beq_eq_false rfl | exact rfl | omega) only [nI_add, xa_sub, xa_mul, pk_div, nm_mod, xa_shr, xa_and7, xa_and1, xa_and255, xa_by_and, nI_m1, Nat.add_sub_cancel, Nat.reducePow, Nat.zero_add, Nat.add_zero, Nat.reduceAdd, Nat.reduceMul, Nat.reduceSub, xf_same, xq_ff, xq_fo, xf_1, xf_2, xs_1, xs_2, xs_same, xq_so, xj_1, xj_2, xj_same, xq_jo, xq_sa1, xq_same, xq_other, upd_s, oI_n, oI_s, xv_0, xv_1, xv_2, xv_3, xm_p1, xm_p2, xq_fp, xq_fn, List.filter_nil, Nat.reduceBEq, Bool.not_true, Bool.not_false, Bool.and_true, Bool.and_false, Bool.false_and, Bool.true_and, if_true, if_false, Bool.false_eq_true, reduceIte, xc_i, xc_j, xc_r, xc_n, List.nil_append, List.cons_append, Option.toList_some, Option.toList_none, pf_3 (xf f5) hpp, c5]
  refine xy_ex ex115_m (Or.inr (Or.inr (xs_callS2 (by show decode cX6_writeLine 48 = .ok (.invokestatic 142, 3); decide +kernel) cn_115 lk_6_142 is_113 np_113 (by decide) ?_)))
  refine sp_writeChild (d := d + 1) (xf f5) m5 ho2 (fun h6 f6 m6 => ?_)
  replace f6 := tr f5 f6
  have hfin : l0 ++ [110] ++ nmT n ++ [32, 61, 32] ++ wdT c (wdE c) ++ lnC (p1 ps n) ++ lnC (p2 ps n) ++ (lnX (l, ps, a, S, T) n ++ [10]) = l0 ++ lnT (l, ps, a, S, T) n := by
    unfold lnT
    simp only [ec, List.append_assoc, List.cons_append, List.nil_append]
  generalize l0 ++ [110] ++ nmT n ++ [32, 61, 32] ++ wdT c (wdE c) ++ lnC (p1 ps n) ++ lnC (p2 ps n) = l6 at m6 hfin
  have hend : ∀ h9 l9, Fr [6] [(5, 1), (5, 2)] h h9 → penIs h9 l9 → ovE (l9 ++ [10]) (l0 ++ lnT (l, ps, a, S, T) n) → xm_goY (XE sc) (d + 3) 115 post (fun _ => none) (fun _ _ => False) (ex115 sc (d + 3)) 130 [(0, .ref pp), (1, .int (nI n)), (2, .ref 5)] [] h9 := fun h9 l9 f9 m9 e9 => by
    with_reducible refine xy_blk b_X6_writeLine_130 k_X6_writeLine_130 ?_
    refine by_aload_n rfl ?_
    refine by_bipush cb_10 ?_
    refine by_inv1 cn_115 lk_6_119 (by rw [xe_cnt]; decide) is_133 np_133 cn_133 (by first | exact rfl | assumption | exact ps_12 hpp) (Nat.le_of_ble_eq_true rfl) ?_
    refine sp_pen (xf f9) m9 (by omega) (fun h10 f10 m10 => ?_)
    with_reducible refine xy_blk b_X6_writeLine_136 k_X6_writeLine_136 ?_
    refine by_ret ry_115 ?_
    exact hp _ _ (tr f9 f10) m10 e9
  have c6 : h6.1 (pp + 1) n = nI c := by rw [f6.1 _ hq.1]; exact d1
  have xn : ∀ {c'}, pC ps n = c' → c' ≠ 10 → c' ≠ 11 → c' ≠ 12 → lnX (l, ps, a, S, T) n = [] := fun e a1 a2 a3 => by
    unfold lnX
    split <;> first | rfl | (exfalso; simp only at *; omega)
  clear hok hk0
  by_cases e12 : c = 12
  · subst e12
    have hX : lnX (l, ps, a, S, T) n = 32 :: nmT (pNu ps n) := by unfold lnX; simp only [ec]
    with_reducible refine xy_blk b_X6_writeLine_51 k_X6_writeLine_51 ?_
    refine by_aload_n rfl ?_
    refine by_getf cn_115 fl_6_9 (by first | exact rfl | assumption | exact ps_0 hpp) (by decide) ?_
    refine by_iload_n rfl ?_
    simp (disch := first | exact Nat.ne_of_beq_eq_false rfl | exact rfl | omega) only [nI_add, xa_sub, xa_mul, pk_div, nm_mod, xa_shr, xa_and7, xa_and1, xa_and255, xa_by_and, nI_m1, Nat.add_sub_cancel, Nat.reducePow, Nat.zero_add, Nat.add_zero, Nat.reduceAdd, Nat.reduceMul, Nat.reduceSub, xf_same, xq_ff, xq_fo, xf_1, xf_2, xs_1, xs_2, xs_same, xq_so, xj_1, xj_2, xj_same, xq_jo, xq_sa1, xq_same, xq_other, upd_s, oI_n, oI_s, pf_1 (xf f6) hpp, c6]
    first | refine by_iald (by first | exact rfl | assumption | exact ps_1 hpp | exact ps_2 hpp | exact ps_3 hpp | exact ps_4 hpp | exact ps_5 hpp | exact ps_6 hpp | exact ps_7 hpp | exact ps_8 hpp | exact ps_9 hpp | exact ps_10 hpp | exact ps_11 hpp | exact ps_15 hpp | exact ps_16 hpp | exact ps_17 hpp | exact ps_18 hpp | exact ps_19 hpp | exact ps_21 hpp | exact ps_22 hpp | exact ps_23 hpp | exact ps_24 hpp) ⟨by omega, by omega⟩ ?_ | refine by_tald rfl rfl ⟨by omega, by omega⟩ ?_
    refine by_bipush cb_12 ?_
    refine by_ic_ne 81 rfl ?_
    simp (disch := first | exact Nat.ne_of_beq_eq_false rfl | exact rfl | omega) only [nI_add, xa_sub, xa_mul, pk_div, nm_mod, xa_shr, xa_and7, xa_and1, xa_and255, xa_by_and, nI_m1, Nat.add_sub_cancel, Nat.reducePow, Nat.zero_add, Nat.add_zero, Nat.reduceAdd, Nat.reduceMul, Nat.reduceSub, xf_same, xq_ff, xq_fo, xf_1, xf_2, xs_1, xs_2, xs_same, xq_so, xj_1, xj_2, xj_same, xq_jo, xq_sa1, xq_same, xq_other, upd_s, oI_n, oI_s, xv_0, xv_1, xv_2, xv_3, xm_p1, xm_p2, xq_fp, xq_fn, List.filter_nil, Nat.reduceBEq, Bool.not_true, Bool.not_false, Bool.and_true, Bool.and_false, Bool.false_and, Bool.true_and, if_true, if_false, Bool.false_eq_true, reduceIte, xc_i, xc_j, xc_r, xc_n, List.nil_append, List.cons_append, Option.toList_some, Option.toList_none, nI_ltJ, nI_leJ, nI_eqJ, nI_ltz, nI_gez, nI_gtz, nI_lez, nI_eqz, m1_ltz, m1_gez, true_imp_iff, false_imp_iff, true_and, and_true, ne_eq, not_false_eq_true, not_true_eq_false, Nat.reduceEqDiff, Nat.reduceLT, Nat.reduceLeDiff, pf_1 (xf f6) hpp, c6]
    with_reducible refine xy_blk b_X6_writeLine_62 k_X6_writeLine_62 ?_
    refine by_aload_n rfl ?_
    refine by_bipush cb_32 ?_
    refine by_inv1 cn_115 lk_6_119 (by rw [xe_cnt]; decide) is_133 np_133 cn_133 (by first | exact rfl | assumption | exact ps_12 hpp) (Nat.le_of_ble_eq_true rfl) ?_
    refine sp_pen (xf f6) m6 (by omega) (fun h7 f7 m7 => ?_)
    replace f7 := tr f6 f7
    have c7 : h7.1 (pp + 4) n = nI (pNu ps n) := by rw [f7.1 _ hq.2.2.2.1]; exact d4 (by decide) (by decide)
    with_reducible refine xy_blk b_X6_writeLine_68 k_X6_writeLine_68 ?_
    refine by_aload_n rfl ?_
    refine by_aload_n rfl ?_
    refine by_getf cn_115 fl_6_21 (by first | exact rfl | assumption | exact ps_0 hpp) (by decide) ?_
    refine by_iload_n rfl ?_
    simp (disch := first | exact Nat.ne_of_beq_eq_false rfl | exact rfl | omega) only [nI_add, xa_sub, xa_mul, pk_div, nm_mod, xa_shr, xa_and7, xa_and1, xa_and255, xa_by_and, nI_m1, Nat.add_sub_cancel, Nat.reducePow, Nat.zero_add, Nat.add_zero, Nat.reduceAdd, Nat.reduceMul, Nat.reduceSub, xf_same, xq_ff, xq_fo, xf_1, xf_2, xs_1, xs_2, xs_same, xq_so, xj_1, xj_2, xj_same, xq_jo, xq_sa1, xq_same, xq_other, upd_s, oI_n, oI_s, pf_4 (xf f7) hpp, c7]
    first | refine by_iald (by first | exact rfl | assumption | exact ps_1 hpp | exact ps_2 hpp | exact ps_3 hpp | exact ps_4 hpp | exact ps_5 hpp | exact ps_6 hpp | exact ps_7 hpp | exact ps_8 hpp | exact ps_9 hpp | exact ps_10 hpp | exact ps_11 hpp | exact ps_15 hpp | exact ps_16 hpp | exact ps_17 hpp | exact ps_18 hpp | exact ps_19 hpp | exact ps_21 hpp | exact ps_22 hpp | exact ps_23 hpp | exact ps_24 hpp) ⟨by omega, by omega⟩ ?_ | refine by_tald rfl rfl ⟨by omega, by omega⟩ ?_
    simp (disch := first | exact Nat.ne_of_beq_eq_false rfl | exact rfl | omega) only [nI_add, xa_sub, xa_mul, pk_div, nm_mod, xa_shr, xa_and7, xa_and1, xa_and255, xa_by_and, nI_m1, Nat.add_sub_cancel, Nat.reducePow, Nat.zero_add, Nat.add_zero, Nat.reduceAdd, Nat.reduceMul, Nat.reduceSub, xf_same, xq_ff, xq_fo, xf_1, xf_2, xs_1, xs_2, xs_same, xq_so, xj_1, xj_2, xj_same, xq_jo, xq_sa1, xq_same, xq_other, upd_s, oI_n, oI_s, xv_0, xv_1, xv_2, xv_3, xm_p1, xm_p2, xq_fp, xq_fn, List.filter_nil, Nat.reduceBEq, Bool.not_true, Bool.not_false, Bool.and_true, Bool.and_false, Bool.false_and, Bool.true_and, if_true, if_false, Bool.false_eq_true, reduceIte, xc_i, xc_j, xc_r, xc_n, List.nil_append, List.cons_append, Option.toList_some, Option.toList_none, pf_4 (xf f7) hpp, c7]
    refine by_inv1 cn_115 lk_6_123 (by rw [xe_cnt]; decide) is_139 np_139 cn_139 (by first | exact rfl | assumption | exact ps_12 hpp) (Nat.le_of_ble_eq_true rfl) ?_
    refine sp_putNumber (xf f7) m7 (by omega) (fun h8 f8 m8 => ?_)
    with_reducible refine xy_blk b_X6_writeLine_78 k_X6_writeLine_78 ?_
    refine by_goto 130 rfl ?_
    refine hend h8 _ (tr f7 f8) m8 (Or.inl ?_)
    rw [← hfin, hX]
    simp only [List.append_assoc, List.cons_append, List.nil_append]
  · by_cases e11 : c = 11
    · subst e11
      have hX : lnX (l, ps, a, S, T) n = 32 :: hdT (fun k => nI (pHw ps n k)) 64 := by unfold lnX; simp only [ec]
      obtain ⟨g1, g2, g3⟩ := d5 rfl
      with_reducible refine xy_blk b_X6_writeLine_51 k_X6_writeLine_51 ?_
      refine by_aload_n rfl ?_
      refine by_getf cn_115 fl_6_9 (by first | exact rfl | assumption | exact ps_0 hpp) (by decide) ?_
      refine by_iload_n rfl ?_
      simp (disch := first | exact Nat.ne_of_beq_eq_false rfl | exact rfl | omega) only [nI_add, xa_sub, xa_mul, pk_div, nm_mod, xa_shr, xa_and7, xa_and1, xa_and255, xa_by_and, nI_m1, Nat.add_sub_cancel, Nat.reducePow, Nat.zero_add, Nat.add_zero, Nat.reduceAdd, Nat.reduceMul, Nat.reduceSub, xf_same, xq_ff, xq_fo, xf_1, xf_2, xs_1, xs_2, xs_same, xq_so, xj_1, xj_2, xj_same, xq_jo, xq_sa1, xq_same, xq_other, upd_s, oI_n, oI_s, pf_1 (xf f6) hpp, c6]
      first | refine by_iald (by first | exact rfl | assumption | exact ps_1 hpp | exact ps_2 hpp | exact ps_3 hpp | exact ps_4 hpp | exact ps_5 hpp | exact ps_6 hpp | exact ps_7 hpp | exact ps_8 hpp | exact ps_9 hpp | exact ps_10 hpp | exact ps_11 hpp | exact ps_15 hpp | exact ps_16 hpp | exact ps_17 hpp | exact ps_18 hpp | exact ps_19 hpp | exact ps_21 hpp | exact ps_22 hpp | exact ps_23 hpp | exact ps_24 hpp) ⟨by omega, by omega⟩ ?_ | refine by_tald rfl rfl ⟨by omega, by omega⟩ ?_
      refine by_bipush cb_12 ?_
      refine by_ic_ne 81 rfl ?_
      simp (disch := first | exact Nat.ne_of_beq_eq_false rfl | exact rfl | omega) only [nI_add, xa_sub, xa_mul, pk_div, nm_mod, xa_shr, xa_and7, xa_and1, xa_and255, xa_by_and, nI_m1, Nat.add_sub_cancel, Nat.reducePow, Nat.zero_add, Nat.add_zero, Nat.reduceAdd, Nat.reduceMul, Nat.reduceSub, xf_same, xq_ff, xq_fo, xf_1, xf_2, xs_1, xs_2, xs_same, xq_so, xj_1, xj_2, xj_same, xq_jo, xq_sa1, xq_same, xq_other, upd_s, oI_n, oI_s, xv_0, xv_1, xv_2, xv_3, xm_p1, xm_p2, xq_fp, xq_fn, List.filter_nil, Nat.reduceBEq, Bool.not_true, Bool.not_false, Bool.and_true, Bool.and_false, Bool.false_and, Bool.true_and, if_true, if_false, Bool.false_eq_true, reduceIte, xc_i, xc_j, xc_r, xc_n, List.nil_append, List.cons_append, Option.toList_some, Option.toList_none, nI_ltJ, nI_leJ, nI_eqJ, nI_ltz, nI_gez, nI_gtz, nI_lez, nI_eqz, m1_ltz, m1_gez, true_imp_iff, false_imp_iff, true_and, and_true, ne_eq, not_false_eq_true, not_true_eq_false, Nat.reduceEqDiff, Nat.reduceLT, Nat.reduceLeDiff, pf_1 (xf f6) hpp, c6]
      with_reducible refine xy_blk b_X6_writeLine_81 k_X6_writeLine_81 ?_
      refine by_aload_n rfl ?_
      refine by_getf cn_115 fl_6_9 (by first | exact rfl | assumption | exact ps_0 hpp) (by decide) ?_
      refine by_iload_n rfl ?_
      simp (disch := first | exact Nat.ne_of_beq_eq_false rfl | exact rfl | omega) only [nI_add, xa_sub, xa_mul, pk_div, nm_mod, xa_shr, xa_and7, xa_and1, xa_and255, xa_by_and, nI_m1, Nat.add_sub_cancel, Nat.reducePow, Nat.zero_add, Nat.add_zero, Nat.reduceAdd, Nat.reduceMul, Nat.reduceSub, xf_same, xq_ff, xq_fo, xf_1, xf_2, xs_1, xs_2, xs_same, xq_so, xj_1, xj_2, xj_same, xq_jo, xq_sa1, xq_same, xq_other, upd_s, oI_n, oI_s, pf_1 (xf f6) hpp, c6]
      first | refine by_iald (by first | exact rfl | assumption | exact ps_1 hpp | exact ps_2 hpp | exact ps_3 hpp | exact ps_4 hpp | exact ps_5 hpp | exact ps_6 hpp | exact ps_7 hpp | exact ps_8 hpp | exact ps_9 hpp | exact ps_10 hpp | exact ps_11 hpp | exact ps_15 hpp | exact ps_16 hpp | exact ps_17 hpp | exact ps_18 hpp | exact ps_19 hpp | exact ps_21 hpp | exact ps_22 hpp | exact ps_23 hpp | exact ps_24 hpp) ⟨by omega, by omega⟩ ?_ | refine by_tald rfl rfl ⟨by omega, by omega⟩ ?_
      refine by_bipush cb_11 ?_
      refine by_ic_ne 107 rfl ?_
      simp (disch := first | exact Nat.ne_of_beq_eq_false rfl | exact rfl | omega) only [nI_add, xa_sub, xa_mul, pk_div, nm_mod, xa_shr, xa_and7, xa_and1, xa_and255, xa_by_and, nI_m1, Nat.add_sub_cancel, Nat.reducePow, Nat.zero_add, Nat.add_zero, Nat.reduceAdd, Nat.reduceMul, Nat.reduceSub, xf_same, xq_ff, xq_fo, xf_1, xf_2, xs_1, xs_2, xs_same, xq_so, xj_1, xj_2, xj_same, xq_jo, xq_sa1, xq_same, xq_other, upd_s, oI_n, oI_s, xv_0, xv_1, xv_2, xv_3, xm_p1, xm_p2, xq_fp, xq_fn, List.filter_nil, Nat.reduceBEq, Bool.not_true, Bool.not_false, Bool.and_true, Bool.and_false, Bool.false_and, Bool.true_and, if_true, if_false, Bool.false_eq_true, reduceIte, xc_i, xc_j, xc_r, xc_n, List.nil_append, List.cons_append, Option.toList_some, Option.toList_none, nI_ltJ, nI_leJ, nI_eqJ, nI_ltz, nI_gez, nI_gtz, nI_lez, nI_eqz, m1_ltz, m1_gez, true_imp_iff, false_imp_iff, true_and, and_true, ne_eq, not_false_eq_true, not_true_eq_false, Nat.reduceEqDiff, Nat.reduceLT, Nat.reduceLeDiff, pf_1 (xf f6) hpp, c6]
      with_reducible refine xy_blk b_X6_writeLine_92 k_X6_writeLine_92 ?_
      refine by_aload_n rfl ?_
      refine by_bipush cb_32 ?_
      refine by_inv1 cn_115 lk_6_119 (by rw [xe_cnt]; decide) is_133 np_133 cn_133 (by first | exact rfl | assumption | exact ps_12 hpp) (Nat.le_of_ble_eq_true rfl) ?_
      refine sp_pen (xf f6) m6 (by omega) (fun h7 f7 m7 => ?_)
      replace f7 := tr f6 f7
      with_reducible refine xy_blk b_X6_writeLine_98 k_X6_writeLine_98 ?_
      refine by_aload_n rfl ?_
      refine by_iload_n rfl ?_
      refine by_aload_n rfl ?_
      refine by_inv2 cn_115 lk_6_146 (by rw [xe_cnt]; decide) is_114 np_114 cn_114 (by first | exact rfl | assumption | exact ps_0 hpp) (Nat.le_of_ble_eq_true rfl) ?_
      refine sp_writeHidden (d := d) (x := fun k => nI (pHw ps n k)) (xf f7) hpp (by omega) (by omega : hx n < 255) (by rw [f7.1 _ hq.2.2.2.1]; exact g1) (fun k hk => by rw [f7.1 _ hq.2.2.2.2.1]; exact g3 k hk) m7 (fun h8 f8 m8 => ?_)
      with_reducible refine xy_blk b_X6_writeLine_104 k_X6_writeLine_104 ?_
      refine by_goto 130 rfl ?_
      refine hend h8 _ (tr f7 f8) m8 (Or.inl ?_)
      rw [← hfin, hX]
      simp only [List.append_assoc, List.cons_append, List.nil_append]
    · by_cases e10 : c = 10
      · subst e10
        have hX : lnX (l, ps, a, S, T) n = 32 :: (if ty_w (T n) = 0 then [45] else wtT l (b + wsum (pC ps) T n) (ty_w (T n))) := by unfold lnX; simp only [ec, eb]
        have hw := hwt n hn ec
        have hw8 := w8_of hP.2.1 hk1 hn ec
        have hwd : ty_w (T n) ≤ 2048 := PG_w (tb := 1) hP.2.1 hn (by omega)
        have hl8 : l.length ≤ 8192 := hrow.2.2.1
        rw [eb] at hw8
        with_reducible refine xy_blk b_X6_writeLine_51 k_X6_writeLine_51 ?_
        refine by_aload_n rfl ?_
        refine by_getf cn_115 fl_6_9 (by first | exact rfl | assumption | exact ps_0 hpp) (by decide) ?_
        refine by_iload_n rfl ?_
        simp (disch := first | exact Nat.ne_of_beq_eq_false rfl | exact rfl | omega) only [nI_add, xa_sub, xa_mul, pk_div, nm_mod, xa_shr, xa_and7, xa_and1, xa_and255, xa_by_and, nI_m1, Nat.add_sub_cancel, Nat.reducePow, Nat.zero_add, Nat.add_zero, Nat.reduceAdd, Nat.reduceMul, Nat.reduceSub, xf_same, xq_ff, xq_fo, xf_1, xf_2, xs_1, xs_2, xs_same, xq_so, xj_1, xj_2, xj_same, xq_jo, xq_sa1, xq_same, xq_other, upd_s, oI_n, oI_s, pf_1 (xf f6) hpp, c6]
        first | refine by_iald (by first | exact rfl | assumption | exact ps_1 hpp | exact ps_2 hpp | exact ps_3 hpp | exact ps_4 hpp | exact ps_5 hpp | exact ps_6 hpp | exact ps_7 hpp | exact ps_8 hpp | exact ps_9 hpp | exact ps_10 hpp | exact ps_11 hpp | exact ps_15 hpp | exact ps_16 hpp | exact ps_17 hpp | exact ps_18 hpp | exact ps_19 hpp | exact ps_21 hpp | exact ps_22 hpp | exact ps_23 hpp | exact ps_24 hpp) ⟨by omega, by omega⟩ ?_ | refine by_tald rfl rfl ⟨by omega, by omega⟩ ?_
        refine by_bipush cb_12 ?_
        refine by_ic_ne 81 rfl ?_
        simp (disch := first | exact Nat.ne_of_beq_eq_false rfl | exact rfl | omega) only [nI_add, xa_sub, xa_mul, pk_div, nm_mod, xa_shr, xa_and7, xa_and1, xa_and255, xa_by_and, nI_m1, Nat.add_sub_cancel, Nat.reducePow, Nat.zero_add, Nat.add_zero, Nat.reduceAdd, Nat.reduceMul, Nat.reduceSub, xf_same, xq_ff, xq_fo, xf_1, xf_2, xs_1, xs_2, xs_same, xq_so, xj_1, xj_2, xj_same, xq_jo, xq_sa1, xq_same, xq_other, upd_s, oI_n, oI_s, xv_0, xv_1, xv_2, xv_3, xm_p1, xm_p2, xq_fp, xq_fn, List.filter_nil, Nat.reduceBEq, Bool.not_true, Bool.not_false, Bool.and_true, Bool.and_false, Bool.false_and, Bool.true_and, if_true, if_false, Bool.false_eq_true, reduceIte, xc_i, xc_j, xc_r, xc_n, List.nil_append, List.cons_append, Option.toList_some, Option.toList_none, nI_ltJ, nI_leJ, nI_eqJ, nI_ltz, nI_gez, nI_gtz, nI_lez, nI_eqz, m1_ltz, m1_gez, true_imp_iff, false_imp_iff, true_and, and_true, ne_eq, not_false_eq_true, not_true_eq_false, Nat.reduceEqDiff, Nat.reduceLT, Nat.reduceLeDiff, pf_1 (xf f6) hpp, c6]
        with_reducible refine xy_blk b_X6_writeLine_81 k_X6_writeLine_81 ?_
        refine by_aload_n rfl ?_
        refine by_getf cn_115 fl_6_9 (by first | exact rfl | assumption | exact ps_0 hpp) (by decide) ?_
        refine by_iload_n rfl ?_
        simp (disch := first | exact Nat.ne_of_beq_eq_false rfl | exact rfl | omega) only [nI_add, xa_sub, xa_mul, pk_div, nm_mod, xa_shr, xa_and7, xa_and1, xa_and255, xa_by_and, nI_m1, Nat.add_sub_cancel, Nat.reducePow, Nat.zero_add, Nat.add_zero, Nat.reduceAdd, Nat.reduceMul, Nat.reduceSub, xf_same, xq_ff, xq_fo, xf_1, xf_2, xs_1, xs_2, xs_same, xq_so, xj_1, xj_2, xj_same, xq_jo, xq_sa1, xq_same, xq_other, upd_s, oI_n, oI_s, pf_1 (xf f6) hpp, c6]
        first | refine by_iald (by first | exact rfl | assumption | exact ps_1 hpp | exact ps_2 hpp | exact ps_3 hpp | exact ps_4 hpp | exact ps_5 hpp | exact ps_6 hpp | exact ps_7 hpp | exact ps_8 hpp | exact ps_9 hpp | exact ps_10 hpp | exact ps_11 hpp | exact ps_15 hpp | exact ps_16 hpp | exact ps_17 hpp | exact ps_18 hpp | exact ps_19 hpp | exact ps_21 hpp | exact ps_22 hpp | exact ps_23 hpp | exact ps_24 hpp) ⟨by omega, by omega⟩ ?_ | refine by_tald rfl rfl ⟨by omega, by omega⟩ ?_
        refine by_bipush cb_11 ?_
        refine by_ic_ne 107 rfl ?_
        simp (disch := first | exact Nat.ne_of_beq_eq_false rfl | exact rfl | omega) only [nI_add, xa_sub, xa_mul, pk_div, nm_mod, xa_shr, xa_and7, xa_and1, xa_and255, xa_by_and, nI_m1, Nat.add_sub_cancel, Nat.reducePow, Nat.zero_add, Nat.add_zero, Nat.reduceAdd, Nat.reduceMul, Nat.reduceSub, xf_same, xq_ff, xq_fo, xf_1, xf_2, xs_1, xs_2, xs_same, xq_so, xj_1, xj_2, xj_same, xq_jo, xq_sa1, xq_same, xq_other, upd_s, oI_n, oI_s, xv_0, xv_1, xv_2, xv_3, xm_p1, xm_p2, xq_fp, xq_fn, List.filter_nil, Nat.reduceBEq, Bool.not_true, Bool.not_false, Bool.and_true, Bool.and_false, Bool.false_and, Bool.true_and, if_true, if_false, Bool.false_eq_true, reduceIte, xc_i, xc_j, xc_r, xc_n, List.nil_append, List.cons_append, Option.toList_some, Option.toList_none, nI_ltJ, nI_leJ, nI_eqJ, nI_ltz, nI_gez, nI_gtz, nI_lez, nI_eqz, m1_ltz, m1_gez, true_imp_iff, false_imp_iff, true_and, and_true, ne_eq, not_false_eq_true, not_true_eq_false, Nat.reduceEqDiff, Nat.reduceLT, Nat.reduceLeDiff, pf_1 (xf f6) hpp, c6]
        with_reducible refine xy_blk b_X6_writeLine_107 k_X6_writeLine_107 ?_
        refine by_aload_n rfl ?_
        refine by_getf cn_115 fl_6_9 (by first | exact rfl | assumption | exact ps_0 hpp) (by decide) ?_
        refine by_iload_n rfl ?_
        simp (disch := first | exact Nat.ne_of_beq_eq_false rfl | exact rfl | omega) only [nI_add, xa_sub, xa_mul, pk_div, nm_mod, xa_shr, xa_and7, xa_and1, xa_and255, xa_by_and, nI_m1, Nat.add_sub_cancel, Nat.reducePow, Nat.zero_add, Nat.add_zero, Nat.reduceAdd, Nat.reduceMul, Nat.reduceSub, xf_same, xq_ff, xq_fo, xf_1, xf_2, xs_1, xs_2, xs_same, xq_so, xj_1, xj_2, xj_same, xq_jo, xq_sa1, xq_same, xq_other, upd_s, oI_n, oI_s, pf_1 (xf f6) hpp, c6]
        first | refine by_iald (by first | exact rfl | assumption | exact ps_1 hpp | exact ps_2 hpp | exact ps_3 hpp | exact ps_4 hpp | exact ps_5 hpp | exact ps_6 hpp | exact ps_7 hpp | exact ps_8 hpp | exact ps_9 hpp | exact ps_10 hpp | exact ps_11 hpp | exact ps_15 hpp | exact ps_16 hpp | exact ps_17 hpp | exact ps_18 hpp | exact ps_19 hpp | exact ps_21 hpp | exact ps_22 hpp | exact ps_23 hpp | exact ps_24 hpp) ⟨by omega, by omega⟩ ?_ | refine by_tald rfl rfl ⟨by omega, by omega⟩ ?_
        refine by_bipush cb_10 ?_
        refine by_ic_ne 130 rfl ?_
        simp (disch := first | exact Nat.ne_of_beq_eq_false rfl | exact rfl | omega) only [nI_add, xa_sub, xa_mul, pk_div, nm_mod, xa_shr, xa_and7, xa_and1, xa_and255, xa_by_and, nI_m1, Nat.add_sub_cancel, Nat.reducePow, Nat.zero_add, Nat.add_zero, Nat.reduceAdd, Nat.reduceMul, Nat.reduceSub, xf_same, xq_ff, xq_fo, xf_1, xf_2, xs_1, xs_2, xs_same, xq_so, xj_1, xj_2, xj_same, xq_jo, xq_sa1, xq_same, xq_other, upd_s, oI_n, oI_s, xv_0, xv_1, xv_2, xv_3, xm_p1, xm_p2, xq_fp, xq_fn, List.filter_nil, Nat.reduceBEq, Bool.not_true, Bool.not_false, Bool.and_true, Bool.and_false, Bool.false_and, Bool.true_and, if_true, if_false, Bool.false_eq_true, reduceIte, xc_i, xc_j, xc_r, xc_n, List.nil_append, List.cons_append, Option.toList_some, Option.toList_none, nI_ltJ, nI_leJ, nI_eqJ, nI_ltz, nI_gez, nI_gtz, nI_lez, nI_eqz, m1_ltz, m1_gez, true_imp_iff, false_imp_iff, true_and, and_true, ne_eq, not_false_eq_true, not_true_eq_false, Nat.reduceEqDiff, Nat.reduceLT, Nat.reduceLeDiff, pf_1 (xf f6) hpp, c6]
        with_reducible refine xy_blk b_X6_writeLine_118 k_X6_writeLine_118 ?_
        refine by_aload_n rfl ?_
        refine by_bipush cb_32 ?_
        refine by_inv1 cn_115 lk_6_119 (by rw [xe_cnt]; decide) is_133 np_133 cn_133 (by first | exact rfl | assumption | exact ps_12 hpp) (Nat.le_of_ble_eq_true rfl) ?_
        refine sp_pen (xf f6) m6 (by omega) (fun h7 f7 m7 => ?_)
        replace f7 := tr f6 f7
        have P7 : PF h7 pp l ps a S T := PF_fk hP.1 f7 (by rcases hpp with rfl | rfl <;> decide)
        with_reducible refine xy_blk b_X6_writeLine_124 k_X6_writeLine_124 ?_
        refine by_aload_n rfl ?_
        refine by_iload_n rfl ?_
        refine by_aload_n rfl ?_
        refine by_inv2 cn_115 lk_6_149 (by rw [xe_cnt]; decide) is_116 np_116 cn_116 (by first | exact rfl | assumption | exact ps_0 hpp) (Nat.le_of_ble_eq_true rfl) ?_
        refine sp_writeWitness (d := d) (w := ty_w (T n)) (k := b + wsum (pC ps) T n) (xf f7) hpp (by omega) (by rw [f7.1 _ hq.2.2.2.1]; exact hw) (by omega) P7.2.2.2.2.1 m7 hwd (fun post' hq => sp_pgt (d := d + 1) (xf f7) hpp P7 hn (by omega) hwd hq) (fun h8 l8 f8 m8 o8 => ?_)
        refine hend h8 _ (tr f7 f8) m8 ?_
        have o9 := ovE_app [10] o8
        rw [← hfin, hX]
        simpa only [List.append_assoc, List.cons_append, List.nil_append] using o9
      · with_reducible refine xy_blk b_X6_writeLine_51 k_X6_writeLine_51 ?_
        refine by_aload_n rfl ?_
        refine by_getf cn_115 fl_6_9 (by first | exact rfl | assumption | exact ps_0 hpp) (by decide) ?_
        refine by_iload_n rfl ?_
        simp (disch := first | exact Nat.ne_of_beq_eq_false rfl | exact rfl | omega) only [nI_add, xa_sub, xa_mul, pk_div, nm_mod, xa_shr, xa_and7, xa_and1, xa_and255, xa_by_and, nI_m1, Nat.add_sub_cancel, Nat.reducePow, Nat.zero_add, Nat.add_zero, Nat.reduceAdd, Nat.reduceMul, Nat.reduceSub, xf_same, xq_ff, xq_fo, xf_1, xf_2, xs_1, xs_2, xs_same, xq_so, xj_1, xj_2, xj_same, xq_jo, xq_sa1, xq_same, xq_other, upd_s, oI_n, oI_s, pf_1 (xf f6) hpp, c6]
        first | refine by_iald (by first | exact rfl | assumption | exact ps_1 hpp | exact ps_2 hpp | exact ps_3 hpp | exact ps_4 hpp | exact ps_5 hpp | exact ps_6 hpp | exact ps_7 hpp | exact ps_8 hpp | exact ps_9 hpp | exact ps_10 hpp | exact ps_11 hpp | exact ps_15 hpp | exact ps_16 hpp | exact ps_17 hpp | exact ps_18 hpp | exact ps_19 hpp | exact ps_21 hpp | exact ps_22 hpp | exact ps_23 hpp | exact ps_24 hpp) ⟨by omega, by omega⟩ ?_ | refine by_tald rfl rfl ⟨by omega, by omega⟩ ?_
        refine by_bipush cb_12 ?_
        refine by_ic_ne 81 rfl ?_
        simp (disch := first | exact Nat.ne_of_beq_eq_false rfl | exact rfl | omega) only [nI_add, xa_sub, xa_mul, pk_div, nm_mod, xa_shr, xa_and7, xa_and1, xa_and255, xa_by_and, nI_m1, Nat.add_sub_cancel, Nat.reducePow, Nat.zero_add, Nat.add_zero, Nat.reduceAdd, Nat.reduceMul, Nat.reduceSub, xf_same, xq_ff, xq_fo, xf_1, xf_2, xs_1, xs_2, xs_same, xq_so, xj_1, xj_2, xj_same, xq_jo, xq_sa1, xq_same, xq_other, upd_s, oI_n, oI_s, xv_0, xv_1, xv_2, xv_3, xm_p1, xm_p2, xq_fp, xq_fn, List.filter_nil, Nat.reduceBEq, Bool.not_true, Bool.not_false, Bool.and_true, Bool.and_false, Bool.false_and, Bool.true_and, if_true, if_false, Bool.false_eq_true, reduceIte, xc_i, xc_j, xc_r, xc_n, List.nil_append, List.cons_append, Option.toList_some, Option.toList_none, nI_ltJ, nI_leJ, nI_eqJ, nI_ltz, nI_gez, nI_gtz, nI_lez, nI_eqz, m1_ltz, m1_gez, true_imp_iff, false_imp_iff, true_and, and_true, ne_eq, not_false_eq_true, not_true_eq_false, Nat.reduceEqDiff, Nat.reduceLT, Nat.reduceLeDiff, pf_1 (xf f6) hpp, c6]
        refine ⟨fun c51 => ?_, fun c => absurd (by omega) c⟩
        with_reducible refine xy_blk b_X6_writeLine_81 k_X6_writeLine_81 ?_
        refine by_aload_n rfl ?_
        refine by_getf cn_115 fl_6_9 (by first | exact rfl | assumption | exact ps_0 hpp) (by decide) ?_
        refine by_iload_n rfl ?_
        simp (disch := first | exact Nat.ne_of_beq_eq_false rfl | exact rfl | omega) only [nI_add, xa_sub, xa_mul, pk_div, nm_mod, xa_shr, xa_and7, xa_and1, xa_and255, xa_by_and, nI_m1, Nat.add_sub_cancel, Nat.reducePow, Nat.zero_add, Nat.add_zero, Nat.reduceAdd, Nat.reduceMul, Nat.reduceSub, xf_same, xq_ff, xq_fo, xf_1, xf_2, xs_1, xs_2, xs_same, xq_so, xj_1, xj_2, xj_same, xq_jo, xq_sa1, xq_same, xq_other, upd_s, oI_n, oI_s, pf_1 (xf f6) hpp, c6]
        first | refine by_iald (by first | exact rfl | assumption | exact ps_1 hpp | exact ps_2 hpp | exact ps_3 hpp | exact ps_4 hpp | exact ps_5 hpp | exact ps_6 hpp | exact ps_7 hpp | exact ps_8 hpp | exact ps_9 hpp | exact ps_10 hpp | exact ps_11 hpp | exact ps_15 hpp | exact ps_16 hpp | exact ps_17 hpp | exact ps_18 hpp | exact ps_19 hpp | exact ps_21 hpp | exact ps_22 hpp | exact ps_23 hpp | exact ps_24 hpp) ⟨by omega, by omega⟩ ?_ | refine by_tald rfl rfl ⟨by omega, by omega⟩ ?_
        refine by_bipush cb_11 ?_
        refine by_ic_ne 107 rfl ?_
        simp (disch := first | exact Nat.ne_of_beq_eq_false rfl | exact rfl | omega) only [nI_add, xa_sub, xa_mul, pk_div, nm_mod, xa_shr, xa_and7, xa_and1, xa_and255, xa_by_and, nI_m1, Nat.add_sub_cancel, Nat.reducePow, Nat.zero_add, Nat.add_zero, Nat.reduceAdd, Nat.reduceMul, Nat.reduceSub, xf_same, xq_ff, xq_fo, xf_1, xf_2, xs_1, xs_2, xs_same, xq_so, xj_1, xj_2, xj_same, xq_jo, xq_sa1, xq_same, xq_other, upd_s, oI_n, oI_s, xv_0, xv_1, xv_2, xv_3, xm_p1, xm_p2, xq_fp, xq_fn, List.filter_nil, Nat.reduceBEq, Bool.not_true, Bool.not_false, Bool.and_true, Bool.and_false, Bool.false_and, Bool.true_and, if_true, if_false, Bool.false_eq_true, reduceIte, xc_i, xc_j, xc_r, xc_n, List.nil_append, List.cons_append, Option.toList_some, Option.toList_none, nI_ltJ, nI_leJ, nI_eqJ, nI_ltz, nI_gez, nI_gtz, nI_lez, nI_eqz, m1_ltz, m1_gez, true_imp_iff, false_imp_iff, true_and, and_true, ne_eq, not_false_eq_true, not_true_eq_false, Nat.reduceEqDiff, Nat.reduceLT, Nat.reduceLeDiff, pf_1 (xf f6) hpp, c6]
        refine ⟨fun c81 => ?_, fun c => absurd (by omega) c⟩
        with_reducible refine xy_blk b_X6_writeLine_107 k_X6_writeLine_107 ?_
        refine by_aload_n rfl ?_
        refine by_getf cn_115 fl_6_9 (by first | exact rfl | assumption | exact ps_0 hpp) (by decide) ?_
        refine by_iload_n rfl ?_
        simp (disch := first | exact Nat.ne_of_beq_eq_false rfl | exact rfl | omega) only [nI_add, xa_sub, xa_mul, pk_div, nm_mod, xa_shr, xa_and7, xa_and1, xa_and255, xa_by_and, nI_m1, Nat.add_sub_cancel, Nat.reducePow, Nat.zero_add, Nat.add_zero, Nat.reduceAdd, Nat.reduceMul, Nat.reduceSub, xf_same, xq_ff, xq_fo, xf_1, xf_2, xs_1, xs_2, xs_same, xq_so, xj_1, xj_2, xj_same, xq_jo, xq_sa1, xq_same, xq_other, upd_s, oI_n, oI_s, pf_1 (xf f6) hpp, c6]
        first | refine by_iald (by first | exact rfl | assumption | exact ps_1 hpp | exact ps_2 hpp | exact ps_3 hpp | exact ps_4 hpp | exact ps_5 hpp | exact ps_6 hpp | exact ps_7 hpp | exact ps_8 hpp | exact ps_9 hpp | exact ps_10 hpp | exact ps_11 hpp | exact ps_15 hpp | exact ps_16 hpp | exact ps_17 hpp | exact ps_18 hpp | exact ps_19 hpp | exact ps_21 hpp | exact ps_22 hpp | exact ps_23 hpp | exact ps_24 hpp) ⟨by omega, by omega⟩ ?_ | refine by_tald rfl rfl ⟨by omega, by omega⟩ ?_
        refine by_bipush cb_10 ?_
        refine by_ic_ne 130 rfl ?_
        simp (disch := first | exact Nat.ne_of_beq_eq_false rfl | exact rfl | omega) only [nI_add, xa_sub, xa_mul, pk_div, nm_mod, xa_shr, xa_and7, xa_and1, xa_and255, xa_by_and, nI_m1, Nat.add_sub_cancel, Nat.reducePow, Nat.zero_add, Nat.add_zero, Nat.reduceAdd, Nat.reduceMul, Nat.reduceSub, xf_same, xq_ff, xq_fo, xf_1, xf_2, xs_1, xs_2, xs_same, xq_so, xj_1, xj_2, xj_same, xq_jo, xq_sa1, xq_same, xq_other, upd_s, oI_n, oI_s, xv_0, xv_1, xv_2, xv_3, xm_p1, xm_p2, xq_fp, xq_fn, List.filter_nil, Nat.reduceBEq, Bool.not_true, Bool.not_false, Bool.and_true, Bool.and_false, Bool.false_and, Bool.true_and, if_true, if_false, Bool.false_eq_true, reduceIte, xc_i, xc_j, xc_r, xc_n, List.nil_append, List.cons_append, Option.toList_some, Option.toList_none, nI_ltJ, nI_leJ, nI_eqJ, nI_ltz, nI_gez, nI_gtz, nI_lez, nI_eqz, m1_ltz, m1_gez, true_imp_iff, false_imp_iff, true_and, and_true, ne_eq, not_false_eq_true, not_true_eq_false, Nat.reduceEqDiff, Nat.reduceLT, Nat.reduceLeDiff, pf_1 (xf f6) hpp, c6]
        refine ⟨fun c107 => ?_, fun c => absurd (by omega) c⟩
        refine hend h6 _ f6 m6 (Or.inl ?_)
        rw [← hfin, xn ec e10 e11 e12]
        rfl
end SPL
