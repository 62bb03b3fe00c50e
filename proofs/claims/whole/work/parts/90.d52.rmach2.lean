/-! ===== the reference's machine works a node: COMP, PAIR ===== -/
section RB
variable {sc : xm_Sc} {d df s0 t0 : Nat} {q : PgD} {H0 : xm_H} {post : xm_Po} {dp cb : Nat → Nat}
def rws (q : PgD) (n : Nat) : Nat := ty_w (q.2.2.2.1 n)
def rwt (q : PgD) (n : Nat) : Nat := ty_w (q.2.2.2.2 n)
/-- bits of a row -/
def rBt (h : xm_H) (p w : Nat) (u : Nat → Bool) : Prop := ∀ j, j < w → h.1 145 (p + j) = nI (u j).toNat
/-- working a node n from the loop's head on -/
def RBg (sc : xm_Sc) (d df s0 t0 : Nat) (q : PgD) (dp cb : Nat → Nat) (H0 : xm_H) (post : xm_Po) (n : Nat) (r : (Nat → Bool) → Option mc_V) : Prop :=
  ∀ (h : xm_H) (i t fr cn cm fn fm sp : Nat) (E : List rm_F) (u : Nat → Bool), XF h → Fr rfR rfT H0 h → rSt h ((n, 0, i, t) :: E) fr cn cm fn fm (sp + ownQ q n) → rBt h i (rws q n) u → i + rws q n ≤ fr → t + rwt q n ≤ fr → (i + rws q n ≤ t ∨ t + rwt q n ≤ i) → fr + cb n ≤ 824000 → E.length + dp n ≤ 402 → cn ≤ cm → fn ≤ fm → cm ≤ 10000000 → fm ≤ 10000000 → cn + cb n ≤ 10000000 → fn + dp n ≤ 10000000 →
  (∀ a s c g, r u = some (a, s, c, g) → ∀ h', XF h' → Fr rfR rfT H0 h' → rSt h' E fr cn (max cm (cn + c)) fn (max fm (fn + g)) (sp + s) → rBt h' t (rwt q n) (mc_ex a) → (∀ j, j < fr → (j < t ∨ t + rwt q n ≤ j) → h'.1 145 j = h.1 145 j) → Lp sc d df s0 t0 post h') →
  (r u = none → ∀ h', XF h' → Fr rfR rfT H0 h' → post (some (.int (-1))) h') → Lp sc d df s0 t0 post h
/-- results: their length and what they need -/
def RLr (q : PgD) (dp cb : Nat → Nat) (n : Nat) (r : (Nat → Bool) → Option mc_V) : Prop := (∀ u u' : Nat → Bool, (∀ j, j < rws q n → u j = u' j) → r u = r u') ∧ ∀ u a s c g, r u = some (a, s, c, g) → a.length = rwt q n ∧ c ≤ cb n ∧ g ≤ dp n
theorem rSt_fr {S : List Nat} {h h' : xm_H} {E : List rm_F} {fr cn cm fn fm st : Nat} (hs : rSt h E fr cn cm fn fm st) (hf : Fr S [] h h') (h1 : 153 ∉ S) (h2 : 154 ∉ S) (h3 : 155 ∉ S) (h4 : 156 ∉ S) : rSt h' E fr cn cm fn fm st := by
  obtain ⟨s1, s2, s3, s4, s5, s6, s7, s8⟩ := hs
  exact ⟨by rw [hf.2.2 _ _ (by simp)]; exact s1, rtS_o s2 (fun j _ => ⟨by rw [hf.1 _ h1], by rw [hf.1 _ h2], by rw [hf.1 _ h3], by rw [hf.1 _ h4]⟩), by rw [hf.2.2 _ _ (by simp)]; exact s3, by rw [hf.2.2 _ _ (by simp)]; exact s4, by rw [hf.2.2 _ _ (by simp)]; exact s5, by rw [hf.2.2 _ _ (by simp)]; exact s6, by rw [hf.2.2 _ _ (by simp)]; exact s7, by rw [hf.2.2 _ _ (by simp)]; exact s8⟩
/-- the fields of the counters, set anew -/
theorem rSt_set {h : xm_H} {E : List rm_F} {fr cn cm fn fm st fr' cn' cm' fn' fm' : Nat} (hs : rSt h E fr cn cm fn fm st) {h' : xm_H} (hr : h'.1 = h.1) (a1 : h'.2.2 102 74 = h.2.2 102 74) (a2 : h'.2.2 102 75 = .int (nI fr')) (a3 : h'.2.2 102 76 = .long (lN cn')) (a4 : h'.2.2 102 77 = .long (lN cm')) (a5 : h'.2.2 102 78 = .long (lN fn')) (a6 : h'.2.2 102 79 = .long (lN fm')) (a7 : h'.2.2 102 80 = h.2.2 102 80) : rSt h' E fr' cn' cm' fn' fm' st :=
  ⟨by rw [a1]; exact hs.1, rtS_o hs.2.1 (fun j _ => by rw [hr]; exact ⟨rfl, rfl, rfl, rfl⟩), a2, a3, a4, a5, a6, by rw [a7]; exact hs.2.2.2.2.2.2.2⟩
theorem rSt_pop {h : xm_H} {n e i t fr cn cm fn fm st : Nat} {E : List rm_F} (hs : rSt h ((n, e, i, t) :: E) fr cn cm fn fm st) : rSt (xm_sf h 102 74 (.int (nI E.length))) E fr cn cm fn fm st := by
  obtain ⟨s1, s2, s3, s4, s5, s6, s7, s8⟩ := hs
  exact ⟨by simp [xm_sf, updV], rtS_o s2.2 (fun _ _ => ⟨rfl, rfl, rfl, rfl⟩), by rw [← s3]; simp [xm_sf, updV], by rw [← s4]; simp [xm_sf, updV], by rw [← s5]; simp [xm_sf, updV], by rw [← s6]; simp [xm_sf, updV], by rw [← s7]; simp [xm_sf, updV], by rw [← s8]; simp [xm_sf, updV]⟩
theorem rb_comp {n x y k : Nat} {rx ry : (Nat → Bool) → Option mc_V} (hP : mPg H0 (some q)) (hn : n < q.2.1.length) (he : pC q.2.1 n = 0) (ex : p1 q.2.1 n = some x) (ey : p2 q.2.1 n = some y) (lx' : x < n) (ly' : y < n) (hx11 : pC q.2.1 x ≠ 11) (hy11 : pC q.2.1 y ≠ 11) (hx : RBg sc d df s0 t0 q dp cb H0 post x rx) (hy : RBg sc d df s0 t0 q dp cb H0 post y ry) (lx : RLr q dp cb x rx) (ly : RLr q dp cb y ry)
    (a1 : rws q x = rws q n) (a2 : rwt q x = k) (a3 : rws q y = k) (a4 : rwt q y = rwt q n) (hk : k ≤ 2048) (a6 : 1 + dp x ≤ dp n) (a7 : 1 + dp y ≤ dp n) (a8 : k + cb x ≤ cb n) (a9 : k + cb y ≤ cb n) (hd1 : ∀ m, 1 ≤ dp m) :
    RBg sc d df s0 t0 q dp cb H0 post n (fun u => match rx u with
      | some (a, s1, c1, g1) => match ry (mc_ex a) with
        | some (b, s2, c2, g2) => some (b, 1 + s1 + s2, k + max c1 c2, 1 + max g1 g2)
        | none => none
      | none => none) := by
  intro h i t fr cn cm fn fm sp E u hF hf hS hB q1 q2 q3 q4 q5 q6 q7 q8 q9 q10 q11 hyes hno
  have hps : q.2.1.length ≤ 400 := (mPg_cd hP hn).2.2.2.2.2.2
  have hdx := hd1 x
  have hdy := hd1 y
  have hown : ownQ q n = 1 := by unfold ownQ ownS; rw [if_neg (by omega), if_neg (by omega), if_neg (by omega)]
  rw [hown] at hS
  have wtx : wdN q 1 x = nI k := by rw [← a2]; exact if_neg hx11
  have cd : ∀ h', Fr rfR rfT H0 h' → h'.1 117 n = nI 0 ∧ h'.1 118 n = nI x ∧ h'.1 119 n = nI y := fun h' f' => by
    obtain ⟨k1, k2, k3, _⟩ := mPg_cd (mPg_fr hP f') hn
    rw [he] at k1; rw [ex] at k2; rw [ey] at k3
    exact ⟨k1, k2, k3⟩
  obtain ⟨k1, k2, k3⟩ := cd h hf
  refine Lp_go (op := 0) (tg := 96) hF hS (by omega) (by omega) (by decide) k1 rfl (by decide) (fun h1 F1 f1 S1 => ?_)
  have f01 : Fr rfR rfT H0 h1 := Fr_tr hf f1 (by simp [rfR]) (by simp)
  obtain ⟨k1', k2', k3'⟩ := cd h1 f01
  unfold Gn
  with_reducible refine xm_go_blk b_X12_goesOn_96 k_X12_goesOn_96 ?_
  refine by_aload_n rfl ?_
  refine by_iload_n rfl ?_
  refine by_iload_n rfl ?_
  refine by_iload rfl ?_
  refine by_iload rfl ?_
  refine by_inv4 cn_226 lk_12_520 (by rw [xe_cnt]; decide) is_215 np_215 cn_215 (by first | exact rfl | assumption) (Nat.le_of_ble_eq_true rfl) ?_
  refine xq_in rfl ?_
  simp only [xq_a0, xq_aI, xq_aJ, xq_aR, Nat.reduceAdd]
  with_reducible refine xm_go_blk b_X12_compose_0 k_X12_compose_0 ?_
  refine by_aload_n rfl ?_
  refine by_aload_n rfl ?_
  refine by_getf cn_215 fl_12_57 (by first | exact rfl | assumption) (by decide) ?_
  refine by_iload_n rfl ?_
  simp (disch := first | exact Nat.ne_of_beq_eq_false rfl | exact rfl | omega) only [nI_add, xa_sub, xa_mul, pk_div, nm_mod, xa_shr, xa_and7, xa_and1, xa_and255, xa_by_and, nI_m1, Nat.add_sub_cancel, Nat.reducePow, Nat.zero_add, Nat.add_zero, Nat.reduceAdd, Nat.reduceMul, Nat.reduceSub, xf_same, xq_ff, xq_fo, xf_1, xf_2, xs_1, xs_2, xs_same, xq_so, xj_1, xj_2, xj_same, xq_jo, xq_sa1, xq_same, xq_other, upd_s, oI_n, oI_s, xf_102_21 F1, k2']
  first | refine by_iald (by first | exact rfl | assumption | exact ps_1 hpp | exact ps_2 hpp | exact ps_3 hpp | exact ps_4 hpp | exact ps_5 hpp | exact ps_6 hpp | exact ps_7 hpp | exact ps_8 hpp | exact ps_9 hpp | exact ps_10 hpp | exact ps_11 hpp | exact ps_15 hpp | exact ps_16 hpp | exact ps_17 hpp | exact ps_18 hpp | exact ps_19 hpp | exact ps_21 hpp | exact ps_22 hpp | exact ps_23 hpp | exact ps_24 hpp) ⟨by omega, by omega⟩ ?_ | refine by_tald rfl rfl ⟨by omega, by omega⟩ ?_
  simp (disch := first | exact Nat.ne_of_beq_eq_false rfl | exact rfl | omega) only [nI_add, xa_sub, xa_mul, pk_div, nm_mod, xa_shr, xa_and7, xa_and1, xa_and255, xa_by_and, nI_m1, Nat.add_sub_cancel, Nat.reducePow, Nat.zero_add, Nat.add_zero, Nat.reduceAdd, Nat.reduceMul, Nat.reduceSub, xf_same, xq_ff, xq_fo, xf_1, xf_2, xs_1, xs_2, xs_same, xq_so, xj_1, xj_2, xj_same, xq_jo, xq_sa1, xq_same, xq_other, upd_s, oI_n, oI_s, xv_0, xv_1, xv_2, xv_3, xm_p1, xm_p2, xq_fp, xq_fn, List.filter_nil, Nat.reduceBEq, Bool.not_true, Bool.not_false, Bool.and_true, Bool.and_false, Bool.false_and, Bool.true_and, if_true, if_false, Bool.false_eq_true, reduceIte, xc_i, xc_j, xc_r, xc_n, List.nil_append, List.cons_append, Option.toList_some, Option.toList_none, xf_102_21 F1, k2']
  refine by_inv1 cn_215 lk_12_400 (by rw [xe_cnt]; decide) is_306 np_306 cn_306 (by first | exact rfl | assumption) (Nat.le_of_ble_eq_true rfl) ?_
  refine sp_mtw F1 (mPg_fr hP f01) (by omega) ?_
  rw [wtx]
  have z := S1
  obtain ⟨s1, s2, s3, s4, s5, s6, s7, s8⟩ := z
  with_reducible refine xm_go_blk b_X12_compose_10 k_X12_compose_10 ?_
  refine by_istore (by rw [ml_215]; decide) ?_
  refine by_iload_n rfl ?_
  refine by_if_ne 100 rfl ?_
  simp (disch := first | exact Nat.ne_of_beq_eq_false rfl | exact rfl | omega) only [nI_add, xa_sub, xa_mul, pk_div, nm_mod, xa_shr, xa_and7, xa_and1, xa_and255, xa_by_and, nI_m1, Nat.add_sub_cancel, Nat.reducePow, Nat.zero_add, Nat.add_zero, Nat.reduceAdd, Nat.reduceMul, Nat.reduceSub, xf_same, xq_ff, xq_fo, xf_1, xf_2, xs_1, xs_2, xs_same, xq_so, xj_1, xj_2, xj_same, xq_jo, xq_sa1, xq_same, xq_other, upd_s, oI_n, oI_s, xv_0, xv_1, xv_2, xv_3, xm_p1, xm_p2, xq_fp, xq_fn, List.filter_nil, Nat.reduceBEq, Bool.not_true, Bool.not_false, Bool.and_true, Bool.and_false, Bool.false_and, Bool.true_and, if_true, if_false, Bool.false_eq_true, reduceIte, xc_i, xc_j, xc_r, xc_n, List.nil_append, List.cons_append, Option.toList_some, Option.toList_none, nI_ltJ, nI_leJ, nI_eqJ, nI_ltz, nI_gez, nI_gtz, nI_lez, nI_eqz, m1_ltz, m1_gez, true_imp_iff, false_imp_iff, true_and, and_true, ne_eq, not_false_eq_true, not_true_eq_false, Nat.reduceEqDiff, Nat.reduceLT, Nat.reduceLeDiff, s4, i2l_n, lN_pl, s6, s5]
  with_reducible refine xm_go_blk b_X12_compose_16 k_X12_compose_16 ?_
  refine by_aload_n rfl ?_
  refine by_dup rfl ?_
  refine by_getf cn_215 fl_12_501 (by first | exact rfl | assumption) (by decide) ?_
  refine by_iload rfl ?_
  refine by_i2l ?_
  simp (disch := first | exact Nat.ne_of_beq_eq_false rfl | exact rfl | omega) only [nI_add, xa_sub, xa_mul, pk_div, nm_mod, xa_shr, xa_and7, xa_and1, xa_and255, xa_by_and, nI_m1, Nat.add_sub_cancel, Nat.reducePow, Nat.zero_add, Nat.add_zero, Nat.reduceAdd, Nat.reduceMul, Nat.reduceSub, xf_same, xq_ff, xq_fo, xf_1, xf_2, xs_1, xs_2, xs_same, xq_so, xj_1, xj_2, xj_same, xq_jo, xq_sa1, xq_same, xq_other, upd_s, oI_n, oI_s, s4, i2l_n, lN_pl, s6, s5]
  refine by_ladd ?_
  refine by_putf cn_215 fl_12_501 (by first | exact rfl | assumption) (by decide) nf_12_76 ft_12_76 (by first | rfl | assumption) (by first | rfl | assumption) ?_
  refine by_aload_n rfl ?_
  refine by_dup rfl ?_
  refine by_getf cn_215 fl_12_504 (by first | exact rfl | assumption) (by decide) ?_
  refine by_lconst cl_1 ?_
  simp (disch := first | exact Nat.ne_of_beq_eq_false rfl | exact rfl | omega) only [nI_add, xa_sub, xa_mul, pk_div, nm_mod, xa_shr, xa_and7, xa_and1, xa_and255, xa_by_and, nI_m1, Nat.add_sub_cancel, Nat.reducePow, Nat.zero_add, Nat.add_zero, Nat.reduceAdd, Nat.reduceMul, Nat.reduceSub, xf_same, xq_ff, xq_fo, xf_1, xf_2, xs_1, xs_2, xs_same, xq_so, xj_1, xj_2, xj_same, xq_jo, xq_sa1, xq_same, xq_other, upd_s, oI_n, oI_s, s4, i2l_n, lN_pl, s6, s5]
  refine by_ladd ?_
  refine by_putf cn_215 fl_12_504 (by first | exact rfl | assumption) (by decide) nf_12_78 ft_12_78 (by first | rfl | assumption) (by first | rfl | assumption) ?_
  refine by_aload_n rfl ?_
  refine by_aload_n rfl ?_
  refine by_getf cn_215 fl_12_507 (by first | exact rfl | assumption) (by decide) ?_
  refine by_aload_n rfl ?_
  refine by_getf cn_215 fl_12_501 (by first | exact rfl | assumption) (by decide) ?_
  simp (disch := first | exact Nat.ne_of_beq_eq_false rfl | exact rfl | omega) only [nI_add, xa_sub, xa_mul, pk_div, nm_mod, xa_shr, xa_and7, xa_and1, xa_and255, xa_by_and, nI_m1, Nat.add_sub_cancel, Nat.reducePow, Nat.zero_add, Nat.add_zero, Nat.reduceAdd, Nat.reduceMul, Nat.reduceSub, xf_same, xq_ff, xq_fo, xf_1, xf_2, xs_1, xs_2, xs_same, xq_so, xj_1, xj_2, xj_same, xq_jo, xq_sa1, xq_same, xq_other, upd_s, oI_n, oI_s, xv_0, xv_1, xv_2, xv_3, xm_p1, xm_p2, xq_fp, xq_fn, List.filter_nil, Nat.reduceBEq, Bool.not_true, Bool.not_false, Bool.and_true, Bool.and_false, Bool.false_and, Bool.true_and, if_true, if_false, Bool.false_eq_true, reduceIte, xc_i, xc_j, xc_r, xc_n, List.nil_append, List.cons_append, Option.toList_some, Option.toList_none, s4, i2l_n, lN_pl, s6, s5]
  refine by_ins2 cn_215 lk_12_396 (by rw [xe_cnt]; decide) is_247 np_247 (Nat.le_of_ble_eq_true rfl) ?_
  refine sp_larger (by omega) (by omega) ?_
  with_reducible refine xm_go_blk b_X12_compose_50 k_X12_compose_50 ?_
  refine by_putf cn_215 fl_12_507 (by first | exact rfl | assumption) (by decide) nf_12_77 ft_12_77 (by first | rfl | assumption) (by first | rfl | assumption) ?_
  refine by_aload_n rfl ?_
  refine by_aload_n rfl ?_
  refine by_getf cn_215 fl_12_510 (by first | exact rfl | assumption) (by decide) ?_
  refine by_aload_n rfl ?_
  refine by_getf cn_215 fl_12_504 (by first | exact rfl | assumption) (by decide) ?_
  simp (disch := first | exact Nat.ne_of_beq_eq_false rfl | exact rfl | omega) only [nI_add, xa_sub, xa_mul, pk_div, nm_mod, xa_shr, xa_and7, xa_and1, xa_and255, xa_by_and, nI_m1, Nat.add_sub_cancel, Nat.reducePow, Nat.zero_add, Nat.add_zero, Nat.reduceAdd, Nat.reduceMul, Nat.reduceSub, xf_same, xq_ff, xq_fo, xf_1, xf_2, xs_1, xs_2, xs_same, xq_so, xj_1, xj_2, xj_same, xq_jo, xq_sa1, xq_same, xq_other, upd_s, oI_n, oI_s, xv_0, xv_1, xv_2, xv_3, xm_p1, xm_p2, xq_fp, xq_fn, List.filter_nil, Nat.reduceBEq, Bool.not_true, Bool.not_false, Bool.and_true, Bool.and_false, Bool.false_and, Bool.true_and, if_true, if_false, Bool.false_eq_true, reduceIte, xc_i, xc_j, xc_r, xc_n, List.nil_append, List.cons_append, Option.toList_some, Option.toList_none, s7]
  refine by_ins2 cn_215 lk_12_396 (by rw [xe_cnt]; decide) is_247 np_247 (Nat.le_of_ble_eq_true rfl) ?_
  refine sp_larger (by omega) (by omega) ?_
  with_reducible refine xm_go_blk b_X12_compose_65 k_X12_compose_65 ?_
  refine by_putf cn_215 fl_12_510 (by first | exact rfl | assumption) (by decide) nf_12_79 ft_12_79 (by first | rfl | assumption) (by first | rfl | assumption) ?_
  refine by_aload_n rfl ?_
  refine by_dup rfl ?_
  refine by_getf cn_215 fl_12_513 (by first | exact rfl | assumption) (by decide) ?_
  refine by_iload rfl ?_
  simp (disch := first | exact Nat.ne_of_beq_eq_false rfl | exact rfl | omega) only [nI_add, xa_sub, xa_mul, pk_div, nm_mod, xa_shr, xa_and7, xa_and1, xa_and255, xa_by_and, nI_m1, Nat.add_sub_cancel, Nat.reducePow, Nat.zero_add, Nat.add_zero, Nat.reduceAdd, Nat.reduceMul, Nat.reduceSub, xf_same, xq_ff, xq_fo, xf_1, xf_2, xs_1, xs_2, xs_same, xq_so, xj_1, xj_2, xj_same, xq_jo, xq_sa1, xq_same, xq_other, upd_s, oI_n, oI_s, s3, xf_102_21 F1, k2']
  refine by_iadd ?_
  refine by_putf cn_215 fl_12_513 (by first | exact rfl | assumption) (by decide) nf_12_75 ft_12_75 (by first | rfl | assumption) (by first | rfl | assumption) ?_
  refine by_aload_n rfl ?_
  refine by_aload_n rfl ?_
  refine by_getf cn_215 fl_12_57 (by first | exact rfl | assumption) (by decide) ?_
  refine by_iload_n rfl ?_
  simp (disch := first | exact Nat.ne_of_beq_eq_false rfl | exact rfl | omega) only [nI_add, xa_sub, xa_mul, pk_div, nm_mod, xa_shr, xa_and7, xa_and1, xa_and255, xa_by_and, nI_m1, Nat.add_sub_cancel, Nat.reducePow, Nat.zero_add, Nat.add_zero, Nat.reduceAdd, Nat.reduceMul, Nat.reduceSub, xf_same, xq_ff, xq_fo, xf_1, xf_2, xs_1, xs_2, xs_same, xq_so, xj_1, xj_2, xj_same, xq_jo, xq_sa1, xq_same, xq_other, upd_s, oI_n, oI_s, s3, xf_102_21 F1, k2']
  first | refine by_iald (by first | exact rfl | assumption | exact ps_1 hpp | exact ps_2 hpp | exact ps_3 hpp | exact ps_4 hpp | exact ps_5 hpp | exact ps_6 hpp | exact ps_7 hpp | exact ps_8 hpp | exact ps_9 hpp | exact ps_10 hpp | exact ps_11 hpp | exact ps_15 hpp | exact ps_16 hpp | exact ps_17 hpp | exact ps_18 hpp | exact ps_19 hpp | exact ps_21 hpp | exact ps_22 hpp | exact ps_23 hpp | exact ps_24 hpp) ⟨by omega, by omega⟩ ?_ | refine by_tald rfl rfl ⟨by omega, by omega⟩ ?_
  refine by_iload_n rfl ?_
  refine by_aload_n rfl ?_
  refine by_getf cn_215 fl_12_513 (by first | exact rfl | assumption) (by decide) ?_
  refine by_iload rfl ?_
  simp (disch := first | exact Nat.ne_of_beq_eq_false rfl | exact rfl | omega) only [nI_add, xa_sub, xa_mul, pk_div, nm_mod, xa_shr, xa_and7, xa_and1, xa_and255, xa_by_and, nI_m1, Nat.add_sub_cancel, Nat.reducePow, Nat.zero_add, Nat.add_zero, Nat.reduceAdd, Nat.reduceMul, Nat.reduceSub, xf_same, xq_ff, xq_fo, xf_1, xf_2, xs_1, xs_2, xs_same, xq_so, xj_1, xj_2, xj_same, xq_jo, xq_sa1, xq_same, xq_other, upd_s, oI_n, oI_s, s3, xf_102_21 F1, k2']
  refine by_isub ?_
  simp (disch := first | exact Nat.ne_of_beq_eq_false rfl | exact rfl | omega) only [nI_add, xa_sub, xa_mul, pk_div, nm_mod, xa_shr, xa_and7, xa_and1, xa_and255, xa_by_and, nI_m1, Nat.add_sub_cancel, Nat.reducePow, Nat.zero_add, Nat.add_zero, Nat.reduceAdd, Nat.reduceMul, Nat.reduceSub, xf_same, xq_ff, xq_fo, xf_1, xf_2, xs_1, xs_2, xs_same, xq_so, xj_1, xj_2, xj_same, xq_jo, xq_sa1, xq_same, xq_other, upd_s, oI_n, oI_s, xv_0, xv_1, xv_2, xv_3, xm_p1, xm_p2, xq_fp, xq_fn, List.filter_nil, Nat.reduceBEq, Bool.not_true, Bool.not_false, Bool.and_true, Bool.and_false, Bool.false_and, Bool.true_and, if_true, if_false, Bool.false_eq_true, reduceIte, xc_i, xc_j, xc_r, xc_n, List.nil_append, List.cons_append, Option.toList_some, Option.toList_none, s3, xf_102_21 F1, k2']
  refine by_inv3 cn_215 lk_12_516 (by rw [xe_cnt]; decide) is_203 np_203 cn_203 (by first | exact rfl | assumption) (Nat.le_of_ble_eq_true rfl) ?_
  let g1 := xm_sf (xm_sf (xm_sf (xm_sf (xm_sf h1 102 76 (.long (lN (cn + k)))) 102 78 (.long (lN (fn + 1)))) 102 77 (.long (lN (max cm (cn + k))))) 102 79 (.long (lN (max fm (fn + 1))))) 102 75 (.int (nI (fr + k)))
  have fg : Fr [] rfT h1 g1 := Fr_sf (Fr_sf (Fr_sf (Fr_sf (Fr_sf Fr_rf (by simp [rfT])) (by simp [rfT])) (by simp [rfT])) (by simp [rfT])) (by simp [rfT])
  have Fg : XF g1 := Fr_XF F1 fg rfT_fin
  have f0g : Fr rfR rfT H0 g1 := Fr_tr f01 fg (by simp) (fun _ z => z)
  have Sg : rSt g1 ((n, 1, i, t) :: E) (fr + k) (cn + k) (max cm (cn + k)) (fn + 1) (max fm (fn + 1)) (sp + 1) := rSt_set S1 rfl (by simp [g1, xm_sf, updV]) (by simp [g1, xm_sf, updV]) (by simp [g1, xm_sf, updV]) (by simp [g1, xm_sf, updV]) (by simp [g1, xm_sf, updV]) (by simp [g1, xm_sf, updV]) (by simp [g1, xm_sf, updV])
  refine sp_begin (q := q) Fg (mPg_fr hP f0g) (by omega) hx11 (by simp only [List.length_cons]; omega) Sg (fun h2 f2 S2 => ?_)
  have F2 := Fr_XF Fg f2 (by decide +kernel)
  have f02 : Fr rfR rfT H0 h2 := Fr_tr f0g f2 (by simp [rfR]) (by simp [rfT])
  have b2 : h2.1 145 = h.1 145 := by rw [f2.1 145 (by simp)]; exact f1.1 145 (by simp)
  with_reducible refine xm_go_blk b_X12_compose_97 k_X12_compose_97 ?_
  refine by_goto 170 rfl ?_
  with_reducible refine xm_go_blk b_X12_compose_170 k_X12_compose_170 ?_
  refine by_ret ry_215 ?_
  with_reducible refine xm_go_blk b_X12_goesOn_106 k_X12_goesOn_106 ?_
  refine by_iconst ci_1 ?_
  refine by_iret ry_226 (by first | rfl | assumption) ?_
  refine Lp_1 (hx h2 i fr (fr + k) (cn + k) (max cm (cn + k)) (fn + 1) (max fm (fn + 1)) (sp + 1) ((n, 1, i, t) :: E) u F2 f02 S2 (fun j hj => by rw [b2]; exact hB j (by omega)) (by omega) (by omega) (by omega) (by omega) (by simp only [List.length_cons]; omega) (by omega) (by omega) (by omega) (by omega) (by omega) (by omega) (fun a s c g hr h3 F3 f03 S3 b3 o3 => ?_) (fun hr h3 F3 f03 => hno (by simp only [hr]) h3 F3 f03))
  obtain ⟨la, lc, le⟩ := lx.2 _ _ _ _ _ hr
  obtain ⟨k1', k2', k3'⟩ := cd h3 f03
  refine Lp_go (op := 0) (tg := 96) F3 S3 (by omega) (by omega) (by decide) k1' rfl (by decide) (fun h4 F4 f4 S4 => ?_)
  have f04 : Fr rfR rfT H0 h4 := Fr_tr f03 f4 (by simp [rfR]) (by simp)
  obtain ⟨k1', k2', k3'⟩ := cd h4 f04
  have s3' := S4.2.2.1
  unfold Gn
  with_reducible refine xm_go_blk b_X12_goesOn_96 k_X12_goesOn_96 ?_
  refine by_aload_n rfl ?_
  refine by_iload_n rfl ?_
  refine by_iload_n rfl ?_
  refine by_iload rfl ?_
  refine by_iload rfl ?_
  refine by_inv4 cn_226 lk_12_520 (by rw [xe_cnt]; decide) is_215 np_215 cn_215 (by first | exact rfl | assumption) (Nat.le_of_ble_eq_true rfl) ?_
  refine xq_in rfl ?_
  simp only [xq_a0, xq_aI, xq_aJ, xq_aR, Nat.reduceAdd]
  with_reducible refine xm_go_blk b_X12_compose_0 k_X12_compose_0 ?_
  refine by_aload_n rfl ?_
  refine by_aload_n rfl ?_
  refine by_getf cn_215 fl_12_57 (by first | exact rfl | assumption) (by decide) ?_
  refine by_iload_n rfl ?_
  simp (disch := first | exact Nat.ne_of_beq_eq_false rfl | exact rfl | omega) only [nI_add, xa_sub, xa_mul, pk_div, nm_mod, xa_shr, xa_and7, xa_and1, xa_and255, xa_by_and, nI_m1, Nat.add_sub_cancel, Nat.reducePow, Nat.zero_add, Nat.add_zero, Nat.reduceAdd, Nat.reduceMul, Nat.reduceSub, xf_same, xq_ff, xq_fo, xf_1, xf_2, xs_1, xs_2, xs_same, xq_so, xj_1, xj_2, xj_same, xq_jo, xq_sa1, xq_same, xq_other, upd_s, oI_n, oI_s, xf_102_21 F4, k2']
  first | refine by_iald (by first | exact rfl | assumption | exact ps_1 hpp | exact ps_2 hpp | exact ps_3 hpp | exact ps_4 hpp | exact ps_5 hpp | exact ps_6 hpp | exact ps_7 hpp | exact ps_8 hpp | exact ps_9 hpp | exact ps_10 hpp | exact ps_11 hpp | exact ps_15 hpp | exact ps_16 hpp | exact ps_17 hpp | exact ps_18 hpp | exact ps_19 hpp | exact ps_21 hpp | exact ps_22 hpp | exact ps_23 hpp | exact ps_24 hpp) ⟨by omega, by omega⟩ ?_ | refine by_tald rfl rfl ⟨by omega, by omega⟩ ?_
  simp (disch := first | exact Nat.ne_of_beq_eq_false rfl | exact rfl | omega) only [nI_add, xa_sub, xa_mul, pk_div, nm_mod, xa_shr, xa_and7, xa_and1, xa_and255, xa_by_and, nI_m1, Nat.add_sub_cancel, Nat.reducePow, Nat.zero_add, Nat.add_zero, Nat.reduceAdd, Nat.reduceMul, Nat.reduceSub, xf_same, xq_ff, xq_fo, xf_1, xf_2, xs_1, xs_2, xs_same, xq_so, xj_1, xj_2, xj_same, xq_jo, xq_sa1, xq_same, xq_other, upd_s, oI_n, oI_s, xv_0, xv_1, xv_2, xv_3, xm_p1, xm_p2, xq_fp, xq_fn, List.filter_nil, Nat.reduceBEq, Bool.not_true, Bool.not_false, Bool.and_true, Bool.and_false, Bool.false_and, Bool.true_and, if_true, if_false, Bool.false_eq_true, reduceIte, xc_i, xc_j, xc_r, xc_n, List.nil_append, List.cons_append, Option.toList_some, Option.toList_none, xf_102_21 F4, k2']
  refine by_inv1 cn_215 lk_12_400 (by rw [xe_cnt]; decide) is_306 np_306 cn_306 (by first | exact rfl | assumption) (Nat.le_of_ble_eq_true rfl) ?_
  refine sp_mtw F4 (mPg_fr hP f04) (by omega) ?_
  rw [wtx]
  with_reducible refine xm_go_blk b_X12_compose_10 k_X12_compose_10 ?_
  refine by_istore (by rw [ml_215]; decide) ?_
  refine by_iload_n rfl ?_
  refine by_if_ne 100 rfl ?_
  simp (disch := first | exact Nat.ne_of_beq_eq_false rfl | exact rfl | omega) only [nI_add, xa_sub, xa_mul, pk_div, nm_mod, xa_shr, xa_and7, xa_and1, xa_and255, xa_by_and, nI_m1, Nat.add_sub_cancel, Nat.reducePow, Nat.zero_add, Nat.add_zero, Nat.reduceAdd, Nat.reduceMul, Nat.reduceSub, xf_same, xq_ff, xq_fo, xf_1, xf_2, xs_1, xs_2, xs_same, xq_so, xj_1, xj_2, xj_same, xq_jo, xq_sa1, xq_same, xq_other, upd_s, oI_n, oI_s, xv_0, xv_1, xv_2, xv_3, xm_p1, xm_p2, xq_fp, xq_fn, List.filter_nil, Nat.reduceBEq, Bool.not_true, Bool.not_false, Bool.and_true, Bool.and_false, Bool.false_and, Bool.true_and, if_true, if_false, Bool.false_eq_true, reduceIte, xc_i, xc_j, xc_r, xc_n, List.nil_append, List.cons_append, Option.toList_some, Option.toList_none, nI_ltJ, nI_leJ, nI_eqJ, nI_ltz, nI_gez, nI_gtz, nI_lez, nI_eqz, m1_ltz, m1_gez, true_imp_iff, false_imp_iff, true_and, and_true, ne_eq, not_false_eq_true, not_true_eq_false, Nat.reduceEqDiff, Nat.reduceLT, Nat.reduceLeDiff, s3', xf_102_22 F4, k3']
  with_reducible refine xm_go_blk b_X12_compose_100 k_X12_compose_100 ?_
  refine by_iload_n rfl ?_
  refine by_iconst ci_1 ?_
  refine by_ic_ne 127 rfl ?_
  simp (disch := first | exact Nat.ne_of_beq_eq_false rfl | exact rfl | omega) only [nI_add, xa_sub, xa_mul, pk_div, nm_mod, xa_shr, xa_and7, xa_and1, xa_and255, xa_by_and, nI_m1, Nat.add_sub_cancel, Nat.reducePow, Nat.zero_add, Nat.add_zero, Nat.reduceAdd, Nat.reduceMul, Nat.reduceSub, xf_same, xq_ff, xq_fo, xf_1, xf_2, xs_1, xs_2, xs_same, xq_so, xj_1, xj_2, xj_same, xq_jo, xq_sa1, xq_same, xq_other, upd_s, oI_n, oI_s, xv_0, xv_1, xv_2, xv_3, xm_p1, xm_p2, xq_fp, xq_fn, List.filter_nil, Nat.reduceBEq, Bool.not_true, Bool.not_false, Bool.and_true, Bool.and_false, Bool.false_and, Bool.true_and, if_true, if_false, Bool.false_eq_true, reduceIte, xc_i, xc_j, xc_r, xc_n, List.nil_append, List.cons_append, Option.toList_some, Option.toList_none, nI_ltJ, nI_leJ, nI_eqJ, nI_ltz, nI_gez, nI_gtz, nI_lez, nI_eqz, m1_ltz, m1_gez, true_imp_iff, false_imp_iff, true_and, and_true, ne_eq, not_false_eq_true, not_true_eq_false, Nat.reduceEqDiff, Nat.reduceLT, Nat.reduceLeDiff, s3', xf_102_22 F4, k3']
  with_reducible refine xm_go_blk b_X12_compose_105 k_X12_compose_105 ?_
  refine by_aload_n rfl ?_
  refine by_aload_n rfl ?_
  refine by_getf cn_215 fl_12_60 (by first | exact rfl | assumption) (by decide) ?_
  refine by_iload_n rfl ?_
  simp (disch := first | exact Nat.ne_of_beq_eq_false rfl | exact rfl | omega) only [nI_add, xa_sub, xa_mul, pk_div, nm_mod, xa_shr, xa_and7, xa_and1, xa_and255, xa_by_and, nI_m1, Nat.add_sub_cancel, Nat.reducePow, Nat.zero_add, Nat.add_zero, Nat.reduceAdd, Nat.reduceMul, Nat.reduceSub, xf_same, xq_ff, xq_fo, xf_1, xf_2, xs_1, xs_2, xs_same, xq_so, xj_1, xj_2, xj_same, xq_jo, xq_sa1, xq_same, xq_other, upd_s, oI_n, oI_s, s3', xf_102_22 F4, k3']
  first | refine by_iald (by first | exact rfl | assumption | exact ps_1 hpp | exact ps_2 hpp | exact ps_3 hpp | exact ps_4 hpp | exact ps_5 hpp | exact ps_6 hpp | exact ps_7 hpp | exact ps_8 hpp | exact ps_9 hpp | exact ps_10 hpp | exact ps_11 hpp | exact ps_15 hpp | exact ps_16 hpp | exact ps_17 hpp | exact ps_18 hpp | exact ps_19 hpp | exact ps_21 hpp | exact ps_22 hpp | exact ps_23 hpp | exact ps_24 hpp) ⟨by omega, by omega⟩ ?_ | refine by_tald rfl rfl ⟨by omega, by omega⟩ ?_
  refine by_aload_n rfl ?_
  refine by_getf cn_215 fl_12_513 (by first | exact rfl | assumption) (by decide) ?_
  refine by_iload rfl ?_
  simp (disch := first | exact Nat.ne_of_beq_eq_false rfl | exact rfl | omega) only [nI_add, xa_sub, xa_mul, pk_div, nm_mod, xa_shr, xa_and7, xa_and1, xa_and255, xa_by_and, nI_m1, Nat.add_sub_cancel, Nat.reducePow, Nat.zero_add, Nat.add_zero, Nat.reduceAdd, Nat.reduceMul, Nat.reduceSub, xf_same, xq_ff, xq_fo, xf_1, xf_2, xs_1, xs_2, xs_same, xq_so, xj_1, xj_2, xj_same, xq_jo, xq_sa1, xq_same, xq_other, upd_s, oI_n, oI_s, s3', xf_102_22 F4, k3']
  refine by_isub ?_
  refine by_iload rfl ?_
  simp (disch := first | exact Nat.ne_of_beq_eq_false rfl | exact rfl | omega) only [nI_add, xa_sub, xa_mul, pk_div, nm_mod, xa_shr, xa_and7, xa_and1, xa_and255, xa_by_and, nI_m1, Nat.add_sub_cancel, Nat.reducePow, Nat.zero_add, Nat.add_zero, Nat.reduceAdd, Nat.reduceMul, Nat.reduceSub, xf_same, xq_ff, xq_fo, xf_1, xf_2, xs_1, xs_2, xs_same, xq_so, xj_1, xj_2, xj_same, xq_jo, xq_sa1, xq_same, xq_other, upd_s, oI_n, oI_s, xv_0, xv_1, xv_2, xv_3, xm_p1, xm_p2, xq_fp, xq_fn, List.filter_nil, Nat.reduceBEq, Bool.not_true, Bool.not_false, Bool.and_true, Bool.and_false, Bool.false_and, Bool.true_and, if_true, if_false, Bool.false_eq_true, reduceIte, xc_i, xc_j, xc_r, xc_n, List.nil_append, List.cons_append, Option.toList_some, Option.toList_none, s3', xf_102_22 F4, k3']
  refine by_inv3 cn_215 lk_12_516 (by rw [xe_cnt]; decide) is_203 np_203 cn_203 (by first | exact rfl | assumption) (Nat.le_of_ble_eq_true rfl) ?_
  refine sp_begin (q := q) F4 (mPg_fr hP f04) (by omega) hy11 (by simp only [List.length_cons]; omega) S4 (fun h5 f5 S5 => ?_)
  have F5 := Fr_XF F4 f5 (by decide +kernel)
  have f05 : Fr rfR rfT H0 h5 := Fr_tr f04 f5 (by simp [rfR]) (by simp [rfT])
  have b5 : h5.1 145 = h3.1 145 := by rw [f5.1 145 (by simp), f4.1 145 (by simp)]
  with_reducible refine xm_go_blk b_X12_compose_124 k_X12_compose_124 ?_
  refine by_goto 170 rfl ?_
  with_reducible refine xm_go_blk b_X12_compose_170 k_X12_compose_170 ?_
  refine by_ret ry_215 ?_
  with_reducible refine xm_go_blk b_X12_goesOn_106 k_X12_goesOn_106 ?_
  refine by_iconst ci_1 ?_
  refine by_iret ry_226 (by first | rfl | assumption) ?_
  refine Lp_1 (hy h5 fr t (fr + k) (cn + k) _ (fn + 1) _ (sp + 1 + s) ((n, 2, i, t) :: E) (mc_ex a) F5 f05 S5 (fun j hj => by rw [b5]; exact b3 j (by omega)) (by omega) (by omega) (by omega) (by omega) (by simp only [List.length_cons]; omega) (by omega) (by omega) (by omega) (by omega) (by omega) (by omega) (fun a' s' c' g' hr' h6 F6 f06 S6 b6 o6 => ?_) (fun hr' h6 F6 f06 => hno (by simp only [hr, hr']) h6 F6 f06))
  obtain ⟨la', lc', le'⟩ := ly.2 _ _ _ _ _ hr'
  obtain ⟨k1', k2', k3'⟩ := cd h6 f06
  refine Lp_go (op := 0) (tg := 96) F6 S6 (by omega) (by omega) (by decide) k1' rfl (by decide) (fun h7 F7 f7 S7 => ?_)
  have f07 : Fr rfR rfT H0 h7 := Fr_tr f06 f7 (by simp [rfR]) (by simp)
  obtain ⟨k1', k2', k3'⟩ := cd h7 f07
  have z := S7
  obtain ⟨s1, s2, s3, s4, s5, s6, s7, s8⟩ := z
  simp only [List.length_cons] at s1
  unfold Gn
  with_reducible refine xm_go_blk b_X12_goesOn_96 k_X12_goesOn_96 ?_
  refine by_aload_n rfl ?_
  refine by_iload_n rfl ?_
  refine by_iload_n rfl ?_
  refine by_iload rfl ?_
  refine by_iload rfl ?_
  refine by_inv4 cn_226 lk_12_520 (by rw [xe_cnt]; decide) is_215 np_215 cn_215 (by first | exact rfl | assumption) (Nat.le_of_ble_eq_true rfl) ?_
  refine xq_in rfl ?_
  simp only [xq_a0, xq_aI, xq_aJ, xq_aR, Nat.reduceAdd]
  with_reducible refine xm_go_blk b_X12_compose_0 k_X12_compose_0 ?_
  refine by_aload_n rfl ?_
  refine by_aload_n rfl ?_
  refine by_getf cn_215 fl_12_57 (by first | exact rfl | assumption) (by decide) ?_
  refine by_iload_n rfl ?_
  simp (disch := first | exact Nat.ne_of_beq_eq_false rfl | exact rfl | omega) only [nI_add, xa_sub, xa_mul, pk_div, nm_mod, xa_shr, xa_and7, xa_and1, xa_and255, xa_by_and, nI_m1, Nat.add_sub_cancel, Nat.reducePow, Nat.zero_add, Nat.add_zero, Nat.reduceAdd, Nat.reduceMul, Nat.reduceSub, xf_same, xq_ff, xq_fo, xf_1, xf_2, xs_1, xs_2, xs_same, xq_so, xj_1, xj_2, xj_same, xq_jo, xq_sa1, xq_same, xq_other, upd_s, oI_n, oI_s, xf_102_21 F7, k2']
  first | refine by_iald (by first | exact rfl | assumption | exact ps_1 hpp | exact ps_2 hpp | exact ps_3 hpp | exact ps_4 hpp | exact ps_5 hpp | exact ps_6 hpp | exact ps_7 hpp | exact ps_8 hpp | exact ps_9 hpp | exact ps_10 hpp | exact ps_11 hpp | exact ps_15 hpp | exact ps_16 hpp | exact ps_17 hpp | exact ps_18 hpp | exact ps_19 hpp | exact ps_21 hpp | exact ps_22 hpp | exact ps_23 hpp | exact ps_24 hpp) ⟨by omega, by omega⟩ ?_ | refine by_tald rfl rfl ⟨by omega, by omega⟩ ?_
  simp (disch := first | exact Nat.ne_of_beq_eq_false rfl | exact rfl | omega) only [nI_add, xa_sub, xa_mul, pk_div, nm_mod, xa_shr, xa_and7, xa_and1, xa_and255, xa_by_and, nI_m1, Nat.add_sub_cancel, Nat.reducePow, Nat.zero_add, Nat.add_zero, Nat.reduceAdd, Nat.reduceMul, Nat.reduceSub, xf_same, xq_ff, xq_fo, xf_1, xf_2, xs_1, xs_2, xs_same, xq_so, xj_1, xj_2, xj_same, xq_jo, xq_sa1, xq_same, xq_other, upd_s, oI_n, oI_s, xv_0, xv_1, xv_2, xv_3, xm_p1, xm_p2, xq_fp, xq_fn, List.filter_nil, Nat.reduceBEq, Bool.not_true, Bool.not_false, Bool.and_true, Bool.and_false, Bool.false_and, Bool.true_and, if_true, if_false, Bool.false_eq_true, reduceIte, xc_i, xc_j, xc_r, xc_n, List.nil_append, List.cons_append, Option.toList_some, Option.toList_none, xf_102_21 F7, k2']
  refine by_inv1 cn_215 lk_12_400 (by rw [xe_cnt]; decide) is_306 np_306 cn_306 (by first | exact rfl | assumption) (Nat.le_of_ble_eq_true rfl) ?_
  refine sp_mtw F7 (mPg_fr hP f07) (by omega) ?_
  rw [wtx]
  have e1 : lN (cn + k) - lN k = lN cn := by rw [← lN_pl]; exact Int64.add_sub_cancel _ _
  have e2 : lN (fn + 1) - lN 1 = lN fn := by rw [← lN_pl]; exact Int64.add_sub_cancel _ _
  with_reducible refine xm_go_blk b_X12_compose_10 k_X12_compose_10 ?_
  refine by_istore (by rw [ml_215]; decide) ?_
  refine by_iload_n rfl ?_
  refine by_if_ne 100 rfl ?_
  simp (disch := first | exact Nat.ne_of_beq_eq_false rfl | exact rfl | omega) only [nI_add, xa_sub, xa_mul, pk_div, nm_mod, xa_shr, xa_and7, xa_and1, xa_and255, xa_by_and, nI_m1, Nat.add_sub_cancel, Nat.reducePow, Nat.zero_add, Nat.add_zero, Nat.reduceAdd, Nat.reduceMul, Nat.reduceSub, xf_same, xq_ff, xq_fo, xf_1, xf_2, xs_1, xs_2, xs_same, xq_so, xj_1, xj_2, xj_same, xq_jo, xq_sa1, xq_same, xq_other, upd_s, oI_n, oI_s, xv_0, xv_1, xv_2, xv_3, xm_p1, xm_p2, xq_fp, xq_fn, List.filter_nil, Nat.reduceBEq, Bool.not_true, Bool.not_false, Bool.and_true, Bool.and_false, Bool.false_and, Bool.true_and, if_true, if_false, Bool.false_eq_true, reduceIte, xc_i, xc_j, xc_r, xc_n, List.nil_append, List.cons_append, Option.toList_some, Option.toList_none, nI_ltJ, nI_leJ, nI_eqJ, nI_ltz, nI_gez, nI_gtz, nI_lez, nI_eqz, m1_ltz, m1_gez, true_imp_iff, false_imp_iff, true_and, and_true, ne_eq, not_false_eq_true, not_true_eq_false, Nat.reduceEqDiff, Nat.reduceLT, Nat.reduceLeDiff, s4, i2l_n, e1, s6, e2, s3, s1]
  with_reducible refine xm_go_blk b_X12_compose_100 k_X12_compose_100 ?_
  refine by_iload_n rfl ?_
  refine by_iconst ci_1 ?_
  refine by_ic_ne 127 rfl ?_
  simp (disch := first | exact Nat.ne_of_beq_eq_false rfl | exact rfl | omega) only [nI_add, xa_sub, xa_mul, pk_div, nm_mod, xa_shr, xa_and7, xa_and1, xa_and255, xa_by_and, nI_m1, Nat.add_sub_cancel, Nat.reducePow, Nat.zero_add, Nat.add_zero, Nat.reduceAdd, Nat.reduceMul, Nat.reduceSub, xf_same, xq_ff, xq_fo, xf_1, xf_2, xs_1, xs_2, xs_same, xq_so, xj_1, xj_2, xj_same, xq_jo, xq_sa1, xq_same, xq_other, upd_s, oI_n, oI_s, xv_0, xv_1, xv_2, xv_3, xm_p1, xm_p2, xq_fp, xq_fn, List.filter_nil, Nat.reduceBEq, Bool.not_true, Bool.not_false, Bool.and_true, Bool.and_false, Bool.false_and, Bool.true_and, if_true, if_false, Bool.false_eq_true, reduceIte, xc_i, xc_j, xc_r, xc_n, List.nil_append, List.cons_append, Option.toList_some, Option.toList_none, nI_ltJ, nI_leJ, nI_eqJ, nI_ltz, nI_gez, nI_gtz, nI_lez, nI_eqz, m1_ltz, m1_gez, true_imp_iff, false_imp_iff, true_and, and_true, ne_eq, not_false_eq_true, not_true_eq_false, Nat.reduceEqDiff, Nat.reduceLT, Nat.reduceLeDiff, s4, i2l_n, e1, s6, e2, s3, s1]
  with_reducible refine xm_go_blk b_X12_compose_127 k_X12_compose_127 ?_
  refine by_aload_n rfl ?_
  refine by_dup rfl ?_
  refine by_getf cn_215 fl_12_501 (by first | exact rfl | assumption) (by decide) ?_
  refine by_iload rfl ?_
  refine by_i2l ?_
  simp (disch := first | exact Nat.ne_of_beq_eq_false rfl | exact rfl | omega) only [nI_add, xa_sub, xa_mul, pk_div, nm_mod, xa_shr, xa_and7, xa_and1, xa_and255, xa_by_and, nI_m1, Nat.add_sub_cancel, Nat.reducePow, Nat.zero_add, Nat.add_zero, Nat.reduceAdd, Nat.reduceMul, Nat.reduceSub, xf_same, xq_ff, xq_fo, xf_1, xf_2, xs_1, xs_2, xs_same, xq_so, xj_1, xj_2, xj_same, xq_jo, xq_sa1, xq_same, xq_other, upd_s, oI_n, oI_s, s4, i2l_n, e1, s6, e2, s3, s1]
  refine by_lsub ?_
  refine by_putf cn_215 fl_12_501 (by first | exact rfl | assumption) (by decide) nf_12_76 ft_12_76 (by first | rfl | assumption) (by first | rfl | assumption) ?_
  refine by_aload_n rfl ?_
  refine by_dup rfl ?_
  refine by_getf cn_215 fl_12_504 (by first | exact rfl | assumption) (by decide) ?_
  refine by_lconst cl_1 ?_
  simp (disch := first | exact Nat.ne_of_beq_eq_false rfl | exact rfl | omega) only [nI_add, xa_sub, xa_mul, pk_div, nm_mod, xa_shr, xa_and7, xa_and1, xa_and255, xa_by_and, nI_m1, Nat.add_sub_cancel, Nat.reducePow, Nat.zero_add, Nat.add_zero, Nat.reduceAdd, Nat.reduceMul, Nat.reduceSub, xf_same, xq_ff, xq_fo, xf_1, xf_2, xs_1, xs_2, xs_same, xq_so, xj_1, xj_2, xj_same, xq_jo, xq_sa1, xq_same, xq_other, upd_s, oI_n, oI_s, s4, i2l_n, e1, s6, e2, s3, s1]
  refine by_lsub ?_
  refine by_putf cn_215 fl_12_504 (by first | exact rfl | assumption) (by decide) nf_12_78 ft_12_78 (by first | rfl | assumption) (by first | rfl | assumption) ?_
  refine by_aload_n rfl ?_
  refine by_dup rfl ?_
  refine by_getf cn_215 fl_12_513 (by first | exact rfl | assumption) (by decide) ?_
  refine by_iload rfl ?_
  simp (disch := first | exact Nat.ne_of_beq_eq_false rfl | exact rfl | omega) only [nI_add, xa_sub, xa_mul, pk_div, nm_mod, xa_shr, xa_and7, xa_and1, xa_and255, xa_by_and, nI_m1, Nat.add_sub_cancel, Nat.reducePow, Nat.zero_add, Nat.add_zero, Nat.reduceAdd, Nat.reduceMul, Nat.reduceSub, xf_same, xq_ff, xq_fo, xf_1, xf_2, xs_1, xs_2, xs_same, xq_so, xj_1, xj_2, xj_same, xq_jo, xq_sa1, xq_same, xq_other, upd_s, oI_n, oI_s, s4, i2l_n, e1, s6, e2, s3, s1]
  refine by_isub ?_
  refine by_putf cn_215 fl_12_513 (by first | exact rfl | assumption) (by decide) nf_12_75 ft_12_75 (by first | rfl | assumption) (by first | rfl | assumption) ?_
  refine by_aload_n rfl ?_
  refine by_dup rfl ?_
  refine by_getf cn_215 fl_12_494 (by first | exact rfl | assumption) (by decide) ?_
  refine by_iconst ci_1 ?_
  simp (disch := first | exact Nat.ne_of_beq_eq_false rfl | exact rfl | omega) only [nI_add, xa_sub, xa_mul, pk_div, nm_mod, xa_shr, xa_and7, xa_and1, xa_and255, xa_by_and, nI_m1, Nat.add_sub_cancel, Nat.reducePow, Nat.zero_add, Nat.add_zero, Nat.reduceAdd, Nat.reduceMul, Nat.reduceSub, xf_same, xq_ff, xq_fo, xf_1, xf_2, xs_1, xs_2, xs_same, xq_so, xj_1, xj_2, xj_same, xq_jo, xq_sa1, xq_same, xq_other, upd_s, oI_n, oI_s, s4, i2l_n, e1, s6, e2, s3, s1]
  refine by_isub ?_
  refine by_putf cn_215 fl_12_494 (by first | exact rfl | assumption) (by decide) nf_12_74 ft_12_74 (by first | rfl | assumption) (by first | rfl | assumption) ?_
  refine by_nil ?_
  try simp (disch := first | exact Nat.ne_of_beq_eq_false rfl | exact rfl | omega) only [nI_add, xa_sub, xa_mul, pk_div, nm_mod, xa_shr, xa_and7, xa_and1, xa_and255, xa_by_and, nI_m1, Nat.add_sub_cancel, Nat.reducePow, Nat.zero_add, Nat.add_zero, Nat.reduceAdd, Nat.reduceMul, Nat.reduceSub, xf_same, xq_ff, xq_fo, xf_1, xf_2, xs_1, xs_2, xs_same, xq_so, xj_1, xj_2, xj_same, xq_jo, xq_sa1, xq_same, xq_other, upd_s, oI_n, oI_s, xv_0, xv_1, xv_2, xv_3, xm_p1, xm_p2, xq_fp, xq_fn, List.filter_nil, Nat.reduceBEq, Bool.not_true, Bool.not_false, Bool.and_true, Bool.and_false, Bool.false_and, Bool.true_and, if_true, if_false, Bool.false_eq_true, reduceIte, xc_i, xc_j, xc_r, xc_n, List.nil_append, List.cons_append, Option.toList_some, Option.toList_none, s4, i2l_n, e1, s6, e2, s3, s1]
  with_reducible refine xm_go_blk b_X12_compose_170 k_X12_compose_170 ?_
  refine by_ret ry_215 ?_
  with_reducible refine xm_go_blk b_X12_goesOn_106 k_X12_goesOn_106 ?_
  refine by_iconst ci_1 ?_
  refine by_iret ry_226 (by first | rfl | assumption) ?_
  have f8 : Fr [] rfT h7 (xm_sf (xm_sf (xm_sf (xm_sf h7 102 76 (.long (lN cn))) 102 78 (.long (lN fn))) 102 75 (.int (nI fr))) 102 74 (.int (nI E.length))) := Fr_sf (Fr_sf (Fr_sf (Fr_sf Fr_rf (by simp [rfT])) (by simp [rfT])) (by simp [rfT])) (by simp [rfT])
  refine Lp_1 (hyes a' (1 + s + s') (k + max c c') (1 + max g g') (by simp only [hr, hr']) _ (Fr_XF F7 f8 rfT_fin) (Fr_tr f07 f8 (by simp) (fun _ z => z)) ?_ (fun j hj => ?_) (fun j hj hj2 => ?_))
  · rw [show max cm (cn + (k + max c c')) = max (max (max cm (cn + k)) (cn + k + c)) (cn + k + c') by omega, show max fm (fn + (1 + max g g')) = max (max (max fm (fn + 1)) (fn + 1 + g)) (fn + 1 + g') by omega, show sp + (1 + s + s') = sp + 1 + s + s' by omega]
    exact ⟨by simp [xm_sf, updV], rtS_o s2.2 (fun _ _ => ⟨rfl, rfl, rfl, rfl⟩), by simp [xm_sf, updV], by simp [xm_sf, updV], by rw [← s5]; simp [xm_sf, updV], by simp [xm_sf, updV], by rw [← s7]; simp [xm_sf, updV], by rw [← s8]; simp [xm_sf, updV]⟩
  · show h7.1 145 (t + j) = _
    rw [f7.1 145 (by simp)]; exact b6 j (by omega)
  · show h7.1 145 j = _
    rw [f7.1 145 (by simp), o6 j (by omega) (by omega), b5, o3 j (by omega) (by omega), b2]
theorem rb_pair {n x y k : Nat} {rx ry : (Nat → Bool) → Option mc_V} (hP : mPg H0 (some q)) (hn : n < q.2.1.length) (he : pC q.2.1 n = 2) (ex : p1 q.2.1 n = some x) (ey : p2 q.2.1 n = some y) (lx' : x < n) (ly' : y < n) (hx11 : pC q.2.1 x ≠ 11) (hy11 : pC q.2.1 y ≠ 11) (hx : RBg sc d df s0 t0 q dp cb H0 post x rx) (hy : RBg sc d df s0 t0 q dp cb H0 post y ry) (lx : RLr q dp cb x rx) (ly : RLr q dp cb y ry)
    (a1 : rws q x = rws q n) (a2 : rwt q x = k) (a3 : rws q y = rws q n) (a4 : k + rwt q y = rwt q n) (hk : k ≤ 2048) (a6 : 1 + dp x ≤ dp n) (a7 : 1 + dp y ≤ dp n) (a8 : cb x ≤ cb n) (a9 : cb y ≤ cb n) (hd1 : ∀ m, 1 ≤ dp m) :
    RBg sc d df s0 t0 q dp cb H0 post n (fun u => match rx u with
      | some (a, s1, c1, g1) => match ry u with
        | some (b, s2, c2, g2) => some (a ++ b, 1 + s1 + s2, max c1 c2, max g1 g2)
        | none => none
      | none => none) := by
  intro h i t fr cn cm fn fm sp E u hF hf hS hB q1 q2 q3 q4 q5 q6 q7 q8 q9 q10 q11 hyes hno
  have hps : q.2.1.length ≤ 400 := (mPg_cd hP hn).2.2.2.2.2.2
  have hdx := hd1 x
  have hdy := hd1 y
  have hown : ownQ q n = 1 := by unfold ownQ ownS; rw [if_neg (by omega), if_neg (by omega), if_neg (by omega)]
  rw [hown] at hS
  have wtx : wdN q 1 x = nI k := by rw [← a2]; exact if_neg hx11
  have cd : ∀ h', Fr rfR rfT H0 h' → h'.1 117 n = nI 2 ∧ h'.1 118 n = nI x ∧ h'.1 119 n = nI y := fun h' f' => by
    obtain ⟨k1, k2, k3, _⟩ := mPg_cd (mPg_fr hP f') hn
    rw [he] at k1; rw [ex] at k2; rw [ey] at k3
    exact ⟨k1, k2, k3⟩
  obtain ⟨k1, k2, k3⟩ := cd h hf
  refine Lp_go (op := 2) (tg := 108) hF hS (by omega) (by omega) (by decide) k1 rfl (by decide) (fun h1 F1 f1 S1 => ?_)
  have f01 : Fr rfR rfT H0 h1 := Fr_tr hf f1 (by simp [rfR]) (by simp)
  obtain ⟨k1', k2', k3'⟩ := cd h1 f01
  unfold Gn
  with_reducible refine xm_go_blk b_X12_goesOn_108 k_X12_goesOn_108 ?_
  refine by_iload_n rfl ?_
  refine by_if_ne 129 rfl ?_
  simp (disch := first | exact Nat.ne_of_beq_eq_false rfl | exact rfl | omega) only [nI_add, xa_sub, xa_mul, pk_div, nm_mod, xa_shr, xa_and7, xa_and1, xa_and255, xa_by_and, nI_m1, Nat.add_sub_cancel, Nat.reducePow, Nat.zero_add, Nat.add_zero, Nat.reduceAdd, Nat.reduceMul, Nat.reduceSub, xf_same, xq_ff, xq_fo, xf_1, xf_2, xs_1, xs_2, xs_same, xq_so, xj_1, xj_2, xj_same, xq_jo, xq_sa1, xq_same, xq_other, upd_s, oI_n, oI_s, xv_0, xv_1, xv_2, xv_3, xm_p1, xm_p2, xq_fp, xq_fn, List.filter_nil, Nat.reduceBEq, Bool.not_true, Bool.not_false, Bool.and_true, Bool.and_false, Bool.false_and, Bool.true_and, if_true, if_false, Bool.false_eq_true, reduceIte, xc_i, xc_j, xc_r, xc_n, List.nil_append, List.cons_append, Option.toList_some, Option.toList_none, nI_ltJ, nI_leJ, nI_eqJ, nI_ltz, nI_gez, nI_gtz, nI_lez, nI_eqz, m1_ltz, m1_gez, true_imp_iff, false_imp_iff, true_and, and_true, ne_eq, not_false_eq_true, not_true_eq_false, Nat.reduceEqDiff, Nat.reduceLT, Nat.reduceLeDiff, xf_102_21 F1, k2']
  with_reducible refine xm_go_blk b_X12_goesOn_112 k_X12_goesOn_112 ?_
  refine by_aload_n rfl ?_
  refine by_aload_n rfl ?_
  refine by_getf cn_226 fl_12_57 (by first | exact rfl | assumption) (by decide) ?_
  refine by_iload_n rfl ?_
  simp (disch := first | exact Nat.ne_of_beq_eq_false rfl | exact rfl | omega) only [nI_add, xa_sub, xa_mul, pk_div, nm_mod, xa_shr, xa_and7, xa_and1, xa_and255, xa_by_and, nI_m1, Nat.add_sub_cancel, Nat.reducePow, Nat.zero_add, Nat.add_zero, Nat.reduceAdd, Nat.reduceMul, Nat.reduceSub, xf_same, xq_ff, xq_fo, xf_1, xf_2, xs_1, xs_2, xs_same, xq_so, xj_1, xj_2, xj_same, xq_jo, xq_sa1, xq_same, xq_other, upd_s, oI_n, oI_s, xf_102_21 F1, k2']
  first | refine by_iald (by first | exact rfl | assumption | exact ps_1 hpp | exact ps_2 hpp | exact ps_3 hpp | exact ps_4 hpp | exact ps_5 hpp | exact ps_6 hpp | exact ps_7 hpp | exact ps_8 hpp | exact ps_9 hpp | exact ps_10 hpp | exact ps_11 hpp | exact ps_15 hpp | exact ps_16 hpp | exact ps_17 hpp | exact ps_18 hpp | exact ps_19 hpp | exact ps_21 hpp | exact ps_22 hpp | exact ps_23 hpp | exact ps_24 hpp) ⟨by omega, by omega⟩ ?_ | refine by_tald rfl rfl ⟨by omega, by omega⟩ ?_
  refine by_iload rfl ?_
  refine by_iload rfl ?_
  simp (disch := first | exact Nat.ne_of_beq_eq_false rfl | exact rfl | omega) only [nI_add, xa_sub, xa_mul, pk_div, nm_mod, xa_shr, xa_and7, xa_and1, xa_and255, xa_by_and, nI_m1, Nat.add_sub_cancel, Nat.reducePow, Nat.zero_add, Nat.add_zero, Nat.reduceAdd, Nat.reduceMul, Nat.reduceSub, xf_same, xq_ff, xq_fo, xf_1, xf_2, xs_1, xs_2, xs_same, xq_so, xj_1, xj_2, xj_same, xq_jo, xq_sa1, xq_same, xq_other, upd_s, oI_n, oI_s, xv_0, xv_1, xv_2, xv_3, xm_p1, xm_p2, xq_fp, xq_fn, List.filter_nil, Nat.reduceBEq, Bool.not_true, Bool.not_false, Bool.and_true, Bool.and_false, Bool.false_and, Bool.true_and, if_true, if_false, Bool.false_eq_true, reduceIte, xc_i, xc_j, xc_r, xc_n, List.nil_append, List.cons_append, Option.toList_some, Option.toList_none, xf_102_21 F1, k2']
  refine by_inv3 cn_226 lk_12_516 (by rw [xe_cnt]; decide) is_203 np_203 cn_203 (by first | exact rfl | assumption) (Nat.le_of_ble_eq_true rfl) ?_
  refine sp_begin (q := q) F1 (mPg_fr hP f01) (by omega) hx11 (by simp only [List.length_cons]; omega) S1 (fun h2 f2 S2 => ?_)
  have F2 := Fr_XF F1 f2 (by decide +kernel)
  have f02 : Fr rfR rfT H0 h2 := Fr_tr f01 f2 (by simp [rfR]) (by simp [rfT])
  have b2 : h2.1 145 = h.1 145 := by rw [f2.1 145 (by simp)]; exact f1.1 145 (by simp)
  with_reducible refine xm_go_blk b_X12_goesOn_126 k_X12_goesOn_126 ?_
  refine by_goto 172 rfl ?_
  with_reducible refine xm_go_blk b_X12_goesOn_172 k_X12_goesOn_172 ?_
  refine by_iconst ci_1 ?_
  refine by_iret ry_226 (by first | rfl | assumption) ?_
  refine Lp_1 (hx h2 i t fr cn cm fn fm (sp + 1) ((n, 1, i, t) :: E) u F2 f02 S2 (fun j hj => by rw [b2]; exact hB j (by omega)) (by omega) (by omega) (by omega) (by omega) (by simp only [List.length_cons]; omega) (by omega) (by omega) (by omega) (by omega) (by omega) (by omega) (fun a s c g hr h3 F3 f03 S3 b3 o3 => ?_) (fun hr h3 F3 f03 => hno (by simp only [hr]) h3 F3 f03))
  obtain ⟨la, lc, le⟩ := lx.2 _ _ _ _ _ hr
  obtain ⟨k1', k2', k3'⟩ := cd h3 f03
  refine Lp_go (op := 2) (tg := 108) F3 S3 (by omega) (by omega) (by decide) k1' rfl (by decide) (fun h4 F4 f4 S4 => ?_)
  have f04 : Fr rfR rfT H0 h4 := Fr_tr f03 f4 (by simp [rfR]) (by simp)
  obtain ⟨k1', k2', k3'⟩ := cd h4 f04
  unfold Gn
  with_reducible refine xm_go_blk b_X12_goesOn_108 k_X12_goesOn_108 ?_
  refine by_iload_n rfl ?_
  refine by_if_ne 129 rfl ?_
  simp (disch := first | exact Nat.ne_of_beq_eq_false rfl | exact rfl | omega) only [nI_add, xa_sub, xa_mul, pk_div, nm_mod, xa_shr, xa_and7, xa_and1, xa_and255, xa_by_and, nI_m1, Nat.add_sub_cancel, Nat.reducePow, Nat.zero_add, Nat.add_zero, Nat.reduceAdd, Nat.reduceMul, Nat.reduceSub, xf_same, xq_ff, xq_fo, xf_1, xf_2, xs_1, xs_2, xs_same, xq_so, xj_1, xj_2, xj_same, xq_jo, xq_sa1, xq_same, xq_other, upd_s, oI_n, oI_s, xv_0, xv_1, xv_2, xv_3, xm_p1, xm_p2, xq_fp, xq_fn, List.filter_nil, Nat.reduceBEq, Bool.not_true, Bool.not_false, Bool.and_true, Bool.and_false, Bool.false_and, Bool.true_and, if_true, if_false, Bool.false_eq_true, reduceIte, xc_i, xc_j, xc_r, xc_n, List.nil_append, List.cons_append, Option.toList_some, Option.toList_none, nI_ltJ, nI_leJ, nI_eqJ, nI_ltz, nI_gez, nI_gtz, nI_lez, nI_eqz, m1_ltz, m1_gez, true_imp_iff, false_imp_iff, true_and, and_true, ne_eq, not_false_eq_true, not_true_eq_false, Nat.reduceEqDiff, Nat.reduceLT, Nat.reduceLeDiff, xf_102_21 F4, k2', xf_102_22 F4, k3']
  with_reducible refine xm_go_blk b_X12_goesOn_129 k_X12_goesOn_129 ?_
  refine by_iload_n rfl ?_
  refine by_iconst ci_1 ?_
  refine by_ic_ne 162 rfl ?_
  simp (disch := first | exact Nat.ne_of_beq_eq_false rfl | exact rfl | omega) only [nI_add, xa_sub, xa_mul, pk_div, nm_mod, xa_shr, xa_and7, xa_and1, xa_and255, xa_by_and, nI_m1, Nat.add_sub_cancel, Nat.reducePow, Nat.zero_add, Nat.add_zero, Nat.reduceAdd, Nat.reduceMul, Nat.reduceSub, xf_same, xq_ff, xq_fo, xf_1, xf_2, xs_1, xs_2, xs_same, xq_so, xj_1, xj_2, xj_same, xq_jo, xq_sa1, xq_same, xq_other, upd_s, oI_n, oI_s, xv_0, xv_1, xv_2, xv_3, xm_p1, xm_p2, xq_fp, xq_fn, List.filter_nil, Nat.reduceBEq, Bool.not_true, Bool.not_false, Bool.and_true, Bool.and_false, Bool.false_and, Bool.true_and, if_true, if_false, Bool.false_eq_true, reduceIte, xc_i, xc_j, xc_r, xc_n, List.nil_append, List.cons_append, Option.toList_some, Option.toList_none, nI_ltJ, nI_leJ, nI_eqJ, nI_ltz, nI_gez, nI_gtz, nI_lez, nI_eqz, m1_ltz, m1_gez, true_imp_iff, false_imp_iff, true_and, and_true, ne_eq, not_false_eq_true, not_true_eq_false, Nat.reduceEqDiff, Nat.reduceLT, Nat.reduceLeDiff, xf_102_21 F4, k2', xf_102_22 F4, k3']
  with_reducible refine xm_go_blk b_X12_goesOn_134 k_X12_goesOn_134 ?_
  refine by_aload_n rfl ?_
  refine by_aload_n rfl ?_
  refine by_getf cn_226 fl_12_60 (by first | exact rfl | assumption) (by decide) ?_
  refine by_iload_n rfl ?_
  simp (disch := first | exact Nat.ne_of_beq_eq_false rfl | exact rfl | omega) only [nI_add, xa_sub, xa_mul, pk_div, nm_mod, xa_shr, xa_and7, xa_and1, xa_and255, xa_by_and, nI_m1, Nat.add_sub_cancel, Nat.reducePow, Nat.zero_add, Nat.add_zero, Nat.reduceAdd, Nat.reduceMul, Nat.reduceSub, xf_same, xq_ff, xq_fo, xf_1, xf_2, xs_1, xs_2, xs_same, xq_so, xj_1, xj_2, xj_same, xq_jo, xq_sa1, xq_same, xq_other, upd_s, oI_n, oI_s, xf_102_21 F4, k2', xf_102_22 F4, k3']
  first | refine by_iald (by first | exact rfl | assumption | exact ps_1 hpp | exact ps_2 hpp | exact ps_3 hpp | exact ps_4 hpp | exact ps_5 hpp | exact ps_6 hpp | exact ps_7 hpp | exact ps_8 hpp | exact ps_9 hpp | exact ps_10 hpp | exact ps_11 hpp | exact ps_15 hpp | exact ps_16 hpp | exact ps_17 hpp | exact ps_18 hpp | exact ps_19 hpp | exact ps_21 hpp | exact ps_22 hpp | exact ps_23 hpp | exact ps_24 hpp) ⟨by omega, by omega⟩ ?_ | refine by_tald rfl rfl ⟨by omega, by omega⟩ ?_
  refine by_iload rfl ?_
  refine by_iload rfl ?_
  refine by_aload_n rfl ?_
  refine by_aload_n rfl ?_
  refine by_getf cn_226 fl_12_57 (by first | exact rfl | assumption) (by decide) ?_
  refine by_iload_n rfl ?_
  simp (disch := first | exact Nat.ne_of_beq_eq_false rfl | exact rfl | omega) only [nI_add, xa_sub, xa_mul, pk_div, nm_mod, xa_shr, xa_and7, xa_and1, xa_and255, xa_by_and, nI_m1, Nat.add_sub_cancel, Nat.reducePow, Nat.zero_add, Nat.add_zero, Nat.reduceAdd, Nat.reduceMul, Nat.reduceSub, xf_same, xq_ff, xq_fo, xf_1, xf_2, xs_1, xs_2, xs_same, xq_so, xj_1, xj_2, xj_same, xq_jo, xq_sa1, xq_same, xq_other, upd_s, oI_n, oI_s, xf_102_21 F4, k2', xf_102_22 F4, k3']
  first | refine by_iald (by first | exact rfl | assumption | exact ps_1 hpp | exact ps_2 hpp | exact ps_3 hpp | exact ps_4 hpp | exact ps_5 hpp | exact ps_6 hpp | exact ps_7 hpp | exact ps_8 hpp | exact ps_9 hpp | exact ps_10 hpp | exact ps_11 hpp | exact ps_15 hpp | exact ps_16 hpp | exact ps_17 hpp | exact ps_18 hpp | exact ps_19 hpp | exact ps_21 hpp | exact ps_22 hpp | exact ps_23 hpp | exact ps_24 hpp) ⟨by omega, by omega⟩ ?_ | refine by_tald rfl rfl ⟨by omega, by omega⟩ ?_
  simp (disch := first | exact Nat.ne_of_beq_eq_false rfl | exact rfl | omega) only [nI_add, xa_sub, xa_mul, pk_div, nm_mod, xa_shr, xa_and7, xa_and1, xa_and255, xa_by_and, nI_m1, Nat.add_sub_cancel, Nat.reducePow, Nat.zero_add, Nat.add_zero, Nat.reduceAdd, Nat.reduceMul, Nat.reduceSub, xf_same, xq_ff, xq_fo, xf_1, xf_2, xs_1, xs_2, xs_same, xq_so, xj_1, xj_2, xj_same, xq_jo, xq_sa1, xq_same, xq_other, upd_s, oI_n, oI_s, xv_0, xv_1, xv_2, xv_3, xm_p1, xm_p2, xq_fp, xq_fn, List.filter_nil, Nat.reduceBEq, Bool.not_true, Bool.not_false, Bool.and_true, Bool.and_false, Bool.false_and, Bool.true_and, if_true, if_false, Bool.false_eq_true, reduceIte, xc_i, xc_j, xc_r, xc_n, List.nil_append, List.cons_append, Option.toList_some, Option.toList_none, xf_102_21 F4, k2', xf_102_22 F4, k3']
  refine by_inv1 cn_226 lk_12_400 (by rw [xe_cnt]; decide) is_306 np_306 cn_306 (by first | exact rfl | assumption) (Nat.le_of_ble_eq_true rfl) ?_
  refine sp_mtw F4 (mPg_fr hP f04) (by omega) ?_
  rw [wtx]
  with_reducible refine xm_go_blk b_X12_goesOn_155 k_X12_goesOn_155 ?_
  refine by_iadd ?_
  simp (disch := first | exact Nat.ne_of_beq_eq_false rfl | exact rfl | omega) only [nI_add, xa_sub, xa_mul, pk_div, nm_mod, xa_shr, xa_and7, xa_and1, xa_and255, xa_by_and, nI_m1, Nat.add_sub_cancel, Nat.reducePow, Nat.zero_add, Nat.add_zero, Nat.reduceAdd, Nat.reduceMul, Nat.reduceSub, xf_same, xq_ff, xq_fo, xf_1, xf_2, xs_1, xs_2, xs_same, xq_so, xj_1, xj_2, xj_same, xq_jo, xq_sa1, xq_same, xq_other, upd_s, oI_n, oI_s, xv_0, xv_1, xv_2, xv_3, xm_p1, xm_p2, xq_fp, xq_fn, List.filter_nil, Nat.reduceBEq, Bool.not_true, Bool.not_false, Bool.and_true, Bool.and_false, Bool.false_and, Bool.true_and, if_true, if_false, Bool.false_eq_true, reduceIte, xc_i, xc_j, xc_r, xc_n, List.nil_append, List.cons_append, Option.toList_some, Option.toList_none]
  refine by_inv3 cn_226 lk_12_516 (by rw [xe_cnt]; decide) is_203 np_203 cn_203 (by first | exact rfl | assumption) (Nat.le_of_ble_eq_true rfl) ?_
  refine sp_begin (q := q) F4 (mPg_fr hP f04) (by omega) hy11 (by simp only [List.length_cons]; omega) S4 (fun h5 f5 S5 => ?_)
  have F5 := Fr_XF F4 f5 (by decide +kernel)
  have f05 : Fr rfR rfT H0 h5 := Fr_tr f04 f5 (by simp [rfR]) (by simp [rfT])
  have b5 : h5.1 145 = h3.1 145 := by rw [f5.1 145 (by simp), f4.1 145 (by simp)]
  with_reducible refine xm_go_blk b_X12_goesOn_159 k_X12_goesOn_159 ?_
  refine by_goto 172 rfl ?_
  with_reducible refine xm_go_blk b_X12_goesOn_172 k_X12_goesOn_172 ?_
  refine by_iconst ci_1 ?_
  refine by_iret ry_226 (by first | rfl | assumption) ?_
  refine Lp_1 (hy h5 i (t + k) fr cn _ fn _ (sp + 1 + s) ((n, 2, i, t) :: E) u F5 f05 S5 (fun j hj => by rw [b5, o3 _ (by omega) (by omega), b2]; exact hB j (by omega)) (by omega) (by omega) (by omega) (by omega) (by simp only [List.length_cons]; omega) (by omega) (by omega) (by omega) (by omega) (by omega) (by omega) (fun a' s' c' g' hr' h6 F6 f06 S6 b6 o6 => ?_) (fun hr' h6 F6 f06 => hno (by simp only [hr, hr']) h6 F6 f06))
  obtain ⟨la', lc', le'⟩ := ly.2 _ _ _ _ _ hr'
  obtain ⟨k1', k2', k3'⟩ := cd h6 f06
  refine Lp_go (op := 2) (tg := 108) F6 S6 (by omega) (by omega) (by decide) k1' rfl (by decide) (fun h7 F7 f7 S7 => ?_)
  have f07 : Fr rfR rfT H0 h7 := Fr_tr f06 f7 (by simp [rfR]) (by simp)
  have s1 := S7.1
  simp only [List.length_cons] at s1
  unfold Gn
  with_reducible refine xm_go_blk b_X12_goesOn_108 k_X12_goesOn_108 ?_
  refine by_iload_n rfl ?_
  refine by_if_ne 129 rfl ?_
  simp (disch := first | exact Nat.ne_of_beq_eq_false rfl | exact rfl | omega) only [nI_add, xa_sub, xa_mul, pk_div, nm_mod, xa_shr, xa_and7, xa_and1, xa_and255, xa_by_and, nI_m1, Nat.add_sub_cancel, Nat.reducePow, Nat.zero_add, Nat.add_zero, Nat.reduceAdd, Nat.reduceMul, Nat.reduceSub, xf_same, xq_ff, xq_fo, xf_1, xf_2, xs_1, xs_2, xs_same, xq_so, xj_1, xj_2, xj_same, xq_jo, xq_sa1, xq_same, xq_other, upd_s, oI_n, oI_s, xv_0, xv_1, xv_2, xv_3, xm_p1, xm_p2, xq_fp, xq_fn, List.filter_nil, Nat.reduceBEq, Bool.not_true, Bool.not_false, Bool.and_true, Bool.and_false, Bool.false_and, Bool.true_and, if_true, if_false, Bool.false_eq_true, reduceIte, xc_i, xc_j, xc_r, xc_n, List.nil_append, List.cons_append, Option.toList_some, Option.toList_none, nI_ltJ, nI_leJ, nI_eqJ, nI_ltz, nI_gez, nI_gtz, nI_lez, nI_eqz, m1_ltz, m1_gez, true_imp_iff, false_imp_iff, true_and, and_true, ne_eq, not_false_eq_true, not_true_eq_false, Nat.reduceEqDiff, Nat.reduceLT, Nat.reduceLeDiff, s1]
  with_reducible refine xm_go_blk b_X12_goesOn_129 k_X12_goesOn_129 ?_
  refine by_iload_n rfl ?_
  refine by_iconst ci_1 ?_
  refine by_ic_ne 162 rfl ?_
  simp (disch := first | exact Nat.ne_of_beq_eq_false rfl | exact rfl | omega) only [nI_add, xa_sub, xa_mul, pk_div, nm_mod, xa_shr, xa_and7, xa_and1, xa_and255, xa_by_and, nI_m1, Nat.add_sub_cancel, Nat.reducePow, Nat.zero_add, Nat.add_zero, Nat.reduceAdd, Nat.reduceMul, Nat.reduceSub, xf_same, xq_ff, xq_fo, xf_1, xf_2, xs_1, xs_2, xs_same, xq_so, xj_1, xj_2, xj_same, xq_jo, xq_sa1, xq_same, xq_other, upd_s, oI_n, oI_s, xv_0, xv_1, xv_2, xv_3, xm_p1, xm_p2, xq_fp, xq_fn, List.filter_nil, Nat.reduceBEq, Bool.not_true, Bool.not_false, Bool.and_true, Bool.and_false, Bool.false_and, Bool.true_and, if_true, if_false, Bool.false_eq_true, reduceIte, xc_i, xc_j, xc_r, xc_n, List.nil_append, List.cons_append, Option.toList_some, Option.toList_none, nI_ltJ, nI_leJ, nI_eqJ, nI_ltz, nI_gez, nI_gtz, nI_lez, nI_eqz, m1_ltz, m1_gez, true_imp_iff, false_imp_iff, true_and, and_true, ne_eq, not_false_eq_true, not_true_eq_false, Nat.reduceEqDiff, Nat.reduceLT, Nat.reduceLeDiff, s1]
  with_reducible refine xm_go_blk b_X12_goesOn_162 k_X12_goesOn_162 ?_
  refine by_aload_n rfl ?_
  refine by_dup rfl ?_
  refine by_getf cn_226 fl_12_494 (by first | exact rfl | assumption) (by decide) ?_
  refine by_iconst ci_1 ?_
  simp (disch := first | exact Nat.ne_of_beq_eq_false rfl | exact rfl | omega) only [nI_add, xa_sub, xa_mul, pk_div, nm_mod, xa_shr, xa_and7, xa_and1, xa_and255, xa_by_and, nI_m1, Nat.add_sub_cancel, Nat.reducePow, Nat.zero_add, Nat.add_zero, Nat.reduceAdd, Nat.reduceMul, Nat.reduceSub, xf_same, xq_ff, xq_fo, xf_1, xf_2, xs_1, xs_2, xs_same, xq_so, xj_1, xj_2, xj_same, xq_jo, xq_sa1, xq_same, xq_other, upd_s, oI_n, oI_s, s1]
  refine by_isub ?_
  refine by_putf cn_226 fl_12_494 (by first | exact rfl | assumption) (by decide) nf_12_74 ft_12_74 (by first | rfl | assumption) (by first | rfl | assumption) ?_
  refine by_nil ?_
  try simp (disch := first | exact Nat.ne_of_beq_eq_false rfl | exact rfl | omega) only [nI_add, xa_sub, xa_mul, pk_div, nm_mod, xa_shr, xa_and7, xa_and1, xa_and255, xa_by_and, nI_m1, Nat.add_sub_cancel, Nat.reducePow, Nat.zero_add, Nat.add_zero, Nat.reduceAdd, Nat.reduceMul, Nat.reduceSub, xf_same, xq_ff, xq_fo, xf_1, xf_2, xs_1, xs_2, xs_same, xq_so, xj_1, xj_2, xj_same, xq_jo, xq_sa1, xq_same, xq_other, upd_s, oI_n, oI_s, xv_0, xv_1, xv_2, xv_3, xm_p1, xm_p2, xq_fp, xq_fn, List.filter_nil, Nat.reduceBEq, Bool.not_true, Bool.not_false, Bool.and_true, Bool.and_false, Bool.false_and, Bool.true_and, if_true, if_false, Bool.false_eq_true, reduceIte, xc_i, xc_j, xc_r, xc_n, List.nil_append, List.cons_append, Option.toList_some, Option.toList_none, s1]
  with_reducible refine xm_go_blk b_X12_goesOn_172 k_X12_goesOn_172 ?_
  refine by_iconst ci_1 ?_
  refine by_iret ry_226 (by first | rfl | assumption) ?_
  have f8 : Fr [] rfT h7 (xm_sf h7 102 74 (.int (nI E.length))) := Fr_sf Fr_rf (by simp [rfT])
  refine Lp_1 (hyes (a ++ a') (1 + s + s') (max c c') (max g g') (by simp only [hr, hr']) _ (Fr_XF F7 f8 rfT_fin) (Fr_tr f07 f8 (by simp) (fun _ z => z)) ?_ (fun j hj => ?_) (fun j hj hj2 => ?_))
  · rw [show max cm (cn + max c c') = max (max cm (cn + c)) (cn + c') by omega, show max fm (fn + max g g') = max (max fm (fn + g)) (fn + g') by omega, show sp + (1 + s + s') = sp + 1 + s + s' by omega]
    exact rSt_pop S7
  · show h7.1 145 (t + j) = nI ((a ++ a').getD j false).toNat
    rw [f7.1 145 (by simp)]
    by_cases z : j < k
    · rw [gd_l (by omega), o6 _ (by omega) (by omega), b5]; exact b3 j (by omega)
    · rw [gd_r (by omega), la, a2]
      have := b6 (j - k) (by omega)
      rw [show t + k + (j - k) = t + j by omega] at this
      exact this
  · show h7.1 145 j = _
    rw [f7.1 145 (by simp), o6 j (by omega) (by omega), b5, o3 j (by omega) (by omega), b2]
end RB
