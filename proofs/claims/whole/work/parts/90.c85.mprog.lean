/-! ===== the reference: readProgram ===== -/
def gaR : List Nat := [105, 106, 107, 108, 110, 111, 112, 113, 114, 115, 116, 129, 130, 131, 132, 133, 134, 135, 136, 138, 139, 140, 141, 142, 143, 144, 145, 151]
def gaT : List (Nat × Nat) := [(102, 5), (102, 14), (102, 33), (102, 40), (102, 50), (102, 65), (102, 66), (102, 67)]
theorem ga_fin : xt_fin.all (fun q => !(gaT.contains (q.1, q.2.1))) = true := by decide +kernel
def tyM (h : xm_H) (cd : Nat → Nat) (L : List Nat) (S T : Nat → Ty) (cn : Nat) (tr : Nat → Ty) : Prop := ∀ n ∈ L, cd n ≠ 11 → ∃ i j, 3200 ≤ i ∧ i < cn ∧ 3200 ≤ j ∧ j < cn ∧ h.1 111 n = nI i ∧ tr i = S n ∧ h.1 112 n = nI j ∧ tr j = T n
/-- a program that was read, in the reference's rows -/
def PM (h : xm_H) (l : List Nat) (ps : List pr_D) (a : Nat) (S T : Nat → Ty) : Prop :=
  psOK ps ∧ 1 ≤ ps.length ∧ ps.length ≤ 400 ∧ h.2.2 102 5 = .int (nI ps.length) ∧ ndM h ps ∧ (∃ k b, pr_nat (by_bit l) (8 * l.length) a = .ok (k, b) ∧ h.2.2 102 33 = .int (nI (k - 1)) ∧ ∀ m, m < ps.length → h.1 151 m = nI (b + wsum (pC ps) T m)) ∧
  ∃ (cn : Nat) (tr : Nat → Ty) (K Lf R : Nat → Nat), cn ≤ 6400 ∧ mtT h cn tr K Lf R ∧ tyM h (pC ps) (List.range ps.length) S T cn tr
def mpM (h : xm_H) (l : List Nat) (r : Except Nat (List pr_D × Nat)) : Prop := match r with
  | .error x => 1 ≤ x ∧ ∃ a', mrS h l a' x
  | .ok (ps, b) => mrS h l b 0 ∧ ndM h ps
theorem ndM_ch {h : xm_H} {ps : List pr_D} (hM : ndM h ps) (ho : psOK ps) : chM h ps.length (pC ps) (p1 ps) (p2 ps) := by
  intro n hn
  obtain ⟨a1, a2, a3, a4, a5⟩ := hM n hn
  obtain ⟨b1, b2, b3, b4, b5, b6, b7⟩ := ho n hn
  refine ⟨a1, b1, fun _ => a2, fun z => ?_, fun _ => a3, fun z => ?_⟩
  · cases e : p1 ps n with
    | none => rfl
    | some x => exact absurd (b2.mpr (by show (p1 ps n).isSome = true; rw [e]; rfl)) (by show ¬ pC ps n ≤ 6; omega)
  · cases e : p2 ps n with
    | none => rfl
    | some x => exact absurd (b3.mpr (by show (p2 ps n).isSome = true; rw [e]; rfl)) (by show ¬ pC ps n ≤ 2; omega)
theorem ndM_R {h : xm_H} {ps : List pr_D} (hM : ndM h ps) (ho : psOK ps) : ndR h ps.length (pC ps) (fiO (p1 ps)) (fiO (p2 ps)) (pNu ps) := by
  intro n hn
  obtain ⟨a1, a2, a3, a4, a5⟩ := hM n hn
  obtain ⟨b1, b2, b3, b4, b5, b6, b7⟩ := ho n hn
  refine ⟨a1, b1, fun z => ?_, fun z => ?_, fun z => ⟨a4, b6⟩⟩
  · obtain ⟨x, hx⟩ := Option.isSome_iff_exists.mp (b2.mp z)
    have hx' : p1 ps n = some x := hx
    have := b4 x hx
    refine ⟨?_, ?_⟩
    · rw [a2, hx]; unfold fiO; rw [hx']; rfl
    · unfold fiO; rw [hx']; show x < ps.length; omega
  · obtain ⟨x, hx⟩ := Option.isSome_iff_exists.mp (b3.mp z)
    have hx' : p2 ps n = some x := hx
    have := b5 x hx
    refine ⟨?_, ?_⟩
    · rw [a3, hx]; unfold fiO; rw [hx']; rfl
    · unfold fiO; rw [hx']; show x < ps.length; omega
theorem ndM_fr {S : List Nat} {T : List (Nat × Nat)} {h h' : xm_H} {ps : List pr_D} (hM : ndM h ps) (hf : Fr S T h h') (r1 : 105 ∉ S) (r2 : 106 ∉ S) (r3 : 107 ∉ S) (r4 : 108 ∉ S) (r5 : 110 ∉ S) : ndM h' ps := by
  intro j hj
  have := hM j hj
  unfold ndM1 at this ⊢
  rw [hf.1 _ r1, hf.1 _ r2, hf.1 _ r3, hf.1 _ r4, hf.1 _ r5]
  exact this
theorem msK_P {h : xm_H} {cn : Nat} {ps : List pr_D} {S T tr : Nat → Ty} {K Lf R : Nat → Nat} (hM : ndM h ps) (ho : psOK ps) (hT : mtT h cn tr K Lf R) (hcn : cn ≤ 17211) (hY : tyM h (pC ps) (List.range ps.length) S T cn tr) {a b : Nat} (ha : a < ps.length) (hb : b < ps.length) : msK h (pC ps) (p1 ps) (p2 ps) a b ↔ smP ps S T a b := by
  obtain ⟨x1, x2, x3, x4, x5⟩ := hM a ha
  obtain ⟨y1, y2, y3, y4, y5⟩ := hM b hb
  have ua : pNu ps a ≤ 167 := (ho a ha).2.2.2.2.2.1
  have ub : pNu ps b ≤ 167 := (ho b hb).2.2.2.2.2.1
  have na : pC ps a ≠ 12 → pNu ps a = 0 := (ho a ha).2.2.2.2.2.2
  have nb : pC ps b ≠ 12 → pNu ps b = 0 := (ho b hb).2.2.2.2.2.2
  have x4 : h.1 108 a = nI (pNu ps a) := x4
  have y4 : h.1 108 b = nI (pNu ps b) := y4
  have inj : ∀ {i j : Nat}, 3200 ≤ i → i < cn → 3200 ≤ j → j < cn → (nI i = nI j ↔ tr i = tr j) := fun {i j} h1 hi h2 hj => ⟨fun z => by rw [(nI_eq (by omega) (by omega)).mp z], fun z => by rw [hT.2.2.2.1 i j h1 hi h2 hj z]⟩
  unfold msK smP
  constructor
  · rintro ⟨h1, h2, h3, h4⟩
    refine ⟨h1, h2, fun e k hk => ?_, fun e => ?_⟩
    · have := h3 e k hk
      rw [x5 e k hk, y5 (h1.symm.trans e) k hk] at this
      exact this
    · obtain ⟨m1, m2, m3, m4, m5⟩ := h4 e
      obtain ⟨i, j, i0, i1, i0', i2, i3, i4, i5, i6⟩ := hY a (List.mem_range.mpr ha) e
      obtain ⟨i', j', j0, j1, j0', j2, j3, j4, j5, j6⟩ := hY b (List.mem_range.mpr hb) (fun z => e (h1.trans z))
      rw [i3, j3, inj i0 i1 j0 j1, i4, j4] at m4
      rw [i5, j5, inj i0' i2 j0' j2, i6, j6] at m5
      refine ⟨m1, m2, ?_, m4, m5⟩
      by_cases q : pC ps a = 12
      · have := m3 q
        rw [x4, y4] at this
        exact (nI_eq (by omega) (by omega)).mp this
      · rw [na q, nb (by rw [← h1]; exact q)]
  · rintro ⟨h1, h2, h3, h4⟩
    refine ⟨h1, h2, fun e k hk => ?_, fun e => ?_⟩
    · rw [x5 e k hk, y5 (h1.symm.trans e) k hk]
      exact h3 e k hk
    · obtain ⟨m1, m2, m3, m4, m5⟩ := h4 e
      obtain ⟨i, j, i0, i1, i0', i2, i3, i4, i5, i6⟩ := hY a (List.mem_range.mpr ha) e
      obtain ⟨i', j', j0, j1, j0', j2, j3, j4, j5, j6⟩ := hY b (List.mem_range.mpr hb) (fun z => e (h1.trans z))
      refine ⟨m1, m2, fun _ => by rw [x4, y4, m3], ?_, ?_⟩
      · rw [i3, j3, inj i0 i1 j0 j1, i4, j4]; exact m4
      · rw [i5, j5, inj i0' i2 j0' j2, i6, j6]; exact m5
section MP
variable {sc : xm_Sc} {d : Nat} {l : List Nat} {h : xm_H} {post : xm_Po}
theorem mp_nodes {cnt : Nat} (hcnt : cnt ≤ 400) (h5 : h.2.2 102 5 = .int (nI cnt)) {r0 : Except Nat (List pr_D × Nat)} (hgo : ∀ h', Fr mrR mrT h h' → mpM h' l r0 → xm_go (XE sc) (xm_T (XE sc) (d + 6)) 283 post 79 [(0, .ref 102)] [] h') :
    ∀ (m : Nat) (ps : List pr_D) (a : Nat) (h' : xm_H), ps.length + m = cnt → Fr mrR mrT h h' → mrS h' l a 0 → ndM h' ps → pr_nodes (by_bit l) (8 * l.length) m ps a = r0 → xm_go (XE sc) (xm_T (XE sc) (d + 6)) 283 post 53 [(1, .int (nI ps.length)), (0, .ref 102)] [] h' := by
  intro m
  induction m with
  | zero =>
    intro ps a h' hm hf hS hC hr
    rw [pr_nodes] at hr
    have : cnt = ps.length := by omega
    have e5 : h'.2.2 102 5 = .int (nI cnt) := by rw [hf.2.2 _ _ (by simp [mrT])]; exact h5
    with_reducible refine xm_go_blk b_X12_readProgram_53 k_X12_readProgram_53 ?_
    refine by_iload_n rfl ?_
    refine by_aload_n rfl ?_
    refine by_getf cn_283 fl_12_223 (by first | exact rfl | assumption) (by decide) ?_
    simp (disch := first | exact Nat.ne_of_beq_eq_false rfl | exact rfl | omega) only [nI_add, xa_sub, xa_mul, pk_div, nm_mod, xa_shr, xa_and7, xa_and1, xa_and255, xa_by_and, nI_m1, Nat.add_sub_cancel, Nat.reducePow, Nat.zero_add, Nat.add_zero, Nat.reduceAdd, Nat.reduceMul, Nat.reduceSub, xf_same, xq_ff, xq_fo, xf_1, xf_2, xs_1, xs_2, xs_same, xq_so, xj_1, xj_2, xj_same, xq_jo, xq_sa1, xq_same, xq_other, upd_s, oI_n, oI_s, e5]
    refine by_ic_ge 79 rfl ?_
    simp (disch := first | exact Nat.ne_of_beq_eq_false rfl | exact rfl | omega) only [nI_add, xa_sub, xa_mul, pk_div, nm_mod, xa_shr, xa_and7, xa_and1, xa_and255, xa_by_and, nI_m1, Nat.add_sub_cancel, Nat.reducePow, Nat.zero_add, Nat.add_zero, Nat.reduceAdd, Nat.reduceMul, Nat.reduceSub, xf_same, xq_ff, xq_fo, xf_1, xf_2, xs_1, xs_2, xs_same, xq_so, xj_1, xj_2, xj_same, xq_jo, xq_sa1, xq_same, xq_other, upd_s, oI_n, oI_s, xv_0, xv_1, xv_2, xv_3, xm_p1, xm_p2, xq_fp, xq_fn, List.filter_nil, Nat.reduceBEq, Bool.not_true, Bool.not_false, Bool.and_true, Bool.and_false, Bool.false_and, Bool.true_and, if_true, if_false, Bool.false_eq_true, reduceIte, xc_i, xc_j, xc_r, xc_n, List.nil_append, List.cons_append, Option.toList_some, Option.toList_none, nI_ltJ, nI_leJ, nI_eqJ, nI_ltz, nI_gez, nI_gtz, nI_lez, nI_eqz, m1_ltz, m1_gez, true_imp_iff, false_imp_iff, true_and, and_true, ne_eq, not_false_eq_true, not_true_eq_false, Nat.reduceEqDiff, Nat.reduceLT, Nat.reduceLeDiff, e5]
    refine ⟨fun c53 => ?_, fun c => absurd (by omega) c⟩
    refine xm_go_wk (by simp [Value.category]) (hgo h' hf ?_)
    rw [← hr]
    exact ⟨hS, hC⟩
  | succ m ih =>
    intro ps a h' hm hf hS hC hr
    have s5 := hS.2.2.2.2.1
    have e5 : h'.2.2 102 5 = .int (nI cnt) := by rw [hf.2.2 _ _ (by simp [mrT])]; exact h5
    rw [pr_nodes] at hr
    with_reducible refine xm_go_blk b_X12_readProgram_53 k_X12_readProgram_53 ?_
    refine by_iload_n rfl ?_
    refine by_aload_n rfl ?_
    refine by_getf cn_283 fl_12_223 (by first | exact rfl | assumption) (by decide) ?_
    simp (disch := first | exact Nat.ne_of_beq_eq_false rfl | exact rfl | omega) only [nI_add, xa_sub, xa_mul, pk_div, nm_mod, xa_shr, xa_and7, xa_and1, xa_and255, xa_by_and, nI_m1, Nat.add_sub_cancel, Nat.reducePow, Nat.zero_add, Nat.add_zero, Nat.reduceAdd, Nat.reduceMul, Nat.reduceSub, xf_same, xq_ff, xq_fo, xf_1, xf_2, xs_1, xs_2, xs_same, xq_so, xj_1, xj_2, xj_same, xq_jo, xq_sa1, xq_same, xq_other, upd_s, oI_n, oI_s, e5, s5]
    refine by_ic_ge 79 rfl ?_
    simp (disch := first | exact Nat.ne_of_beq_eq_false rfl | exact rfl | omega) only [nI_add, xa_sub, xa_mul, pk_div, nm_mod, xa_shr, xa_and7, xa_and1, xa_and255, xa_by_and, nI_m1, Nat.add_sub_cancel, Nat.reducePow, Nat.zero_add, Nat.add_zero, Nat.reduceAdd, Nat.reduceMul, Nat.reduceSub, xf_same, xq_ff, xq_fo, xf_1, xf_2, xs_1, xs_2, xs_same, xq_so, xj_1, xj_2, xj_same, xq_jo, xq_sa1, xq_same, xq_other, upd_s, oI_n, oI_s, xv_0, xv_1, xv_2, xv_3, xm_p1, xm_p2, xq_fp, xq_fn, List.filter_nil, Nat.reduceBEq, Bool.not_true, Bool.not_false, Bool.and_true, Bool.and_false, Bool.false_and, Bool.true_and, if_true, if_false, Bool.false_eq_true, reduceIte, xc_i, xc_j, xc_r, xc_n, List.nil_append, List.cons_append, Option.toList_some, Option.toList_none, nI_ltJ, nI_leJ, nI_eqJ, nI_ltz, nI_gez, nI_gtz, nI_lez, nI_eqz, m1_ltz, m1_gez, true_imp_iff, false_imp_iff, true_and, and_true, ne_eq, not_false_eq_true, not_true_eq_false, Nat.reduceEqDiff, Nat.reduceLT, Nat.reduceLeDiff, e5, s5]
    refine ⟨fun c => absurd c (by omega), fun c53 => ?_⟩
    with_reducible refine xm_go_blk b_X12_readProgram_61 k_X12_readProgram_61 ?_
    refine by_aload_n rfl ?_
    refine by_getf cn_283 fl_12_330 (by first | exact rfl | assumption) (by decide) ?_
    simp (disch := first | exact Nat.ne_of_beq_eq_false rfl | exact rfl | omega) only [nI_add, xa_sub, xa_mul, pk_div, nm_mod, xa_shr, xa_and7, xa_and1, xa_and255, xa_by_and, nI_m1, Nat.add_sub_cancel, Nat.reducePow, Nat.zero_add, Nat.add_zero, Nat.reduceAdd, Nat.reduceMul, Nat.reduceSub, xf_same, xq_ff, xq_fo, xf_1, xf_2, xs_1, xs_2, xs_same, xq_so, xj_1, xj_2, xj_same, xq_jo, xq_sa1, xq_same, xq_other, upd_s, oI_n, oI_s, e5, s5]
    refine by_if_ne 79 rfl ?_
    simp (disch := first | exact Nat.ne_of_beq_eq_false rfl | exact rfl | omega) only [nI_add, xa_sub, xa_mul, pk_div, nm_mod, xa_shr, xa_and7, xa_and1, xa_and255, xa_by_and, nI_m1, Nat.add_sub_cancel, Nat.reducePow, Nat.zero_add, Nat.add_zero, Nat.reduceAdd, Nat.reduceMul, Nat.reduceSub, xf_same, xq_ff, xq_fo, xf_1, xf_2, xs_1, xs_2, xs_same, xq_so, xj_1, xj_2, xj_same, xq_jo, xq_sa1, xq_same, xq_other, upd_s, oI_n, oI_s, xv_0, xv_1, xv_2, xv_3, xm_p1, xm_p2, xq_fp, xq_fn, List.filter_nil, Nat.reduceBEq, Bool.not_true, Bool.not_false, Bool.and_true, Bool.and_false, Bool.false_and, Bool.true_and, if_true, if_false, Bool.false_eq_true, reduceIte, xc_i, xc_j, xc_r, xc_n, List.nil_append, List.cons_append, Option.toList_some, Option.toList_none, nI_ltJ, nI_leJ, nI_eqJ, nI_ltz, nI_gez, nI_gtz, nI_lez, nI_eqz, m1_ltz, m1_gez, true_imp_iff, false_imp_iff, true_and, and_true, ne_eq, not_false_eq_true, not_true_eq_false, Nat.reduceEqDiff, Nat.reduceLT, Nat.reduceLeDiff, e5, s5]
    with_reducible refine xm_go_blk b_X12_readProgram_68 k_X12_readProgram_68 ?_
    refine by_aload_n rfl ?_
    refine by_iload_n rfl ?_
    refine by_inv1 cn_283 lk_12_360 (by rw [xe_cnt]; decide) is_282 np_282 cn_282 (by first | exact rfl | assumption) (Nat.le_of_ble_eq_true rfl) ?_
    refine sp_mNode hC hS (by omega) (fun h2 hN => ?_)
    obtain ⟨f2, hN⟩ := hN
    have f12 : Fr mrR mrT h h2 := Fr_tr hf f2 (fun _ z => z) (fun _ z => z)
    have e5' : h2.2.2 102 5 = .int (nI cnt) := by rw [f12.2.2 _ _ (by simp [mrT])]; exact h5
    cases e : pr_node (by_bit l) (8 * l.length) ps.length a with
    | error x =>
      rw [e] at hN hr
      obtain ⟨hx1, a', hS2⟩ := hN
      have t5 := hS2.2.2.2.2.1
      have hx12 := hS2.2.2.2.2.2.2
      have e0 : (x = 0) = False := eq_false (by omega)
      have hg := hgo h2 f12 (by rw [← hr]; exact ⟨hx1, a', hS2⟩)
      by_cases q : ps.length + 1 < cnt
      · with_reducible refine xm_go_blk b_X12_readProgram_73 k_X12_readProgram_73 ?_
        refine by_iinc (by rw [ml_283]; decide) rfl ci_1 ?_
        refine by_goto 53 rfl ?_
        simp (disch := first | exact Nat.ne_of_beq_eq_false rfl | exact rfl | omega) only [nI_add, xa_sub, xa_mul, pk_div, nm_mod, xa_shr, xa_and7, xa_and1, xa_and255, xa_by_and, nI_m1, Nat.add_sub_cancel, Nat.reducePow, Nat.zero_add, Nat.add_zero, Nat.reduceAdd, Nat.reduceMul, Nat.reduceSub, xf_same, xq_ff, xq_fo, xf_1, xf_2, xs_1, xs_2, xs_same, xq_so, xj_1, xj_2, xj_same, xq_jo, xq_sa1, xq_same, xq_other, upd_s, oI_n, oI_s, xv_0, xv_1, xv_2, xv_3, xm_p1, xm_p2, xq_fp, xq_fn, List.filter_nil, Nat.reduceBEq, Bool.not_true, Bool.not_false, Bool.and_true, Bool.and_false, Bool.false_and, Bool.true_and, if_true, if_false, Bool.false_eq_true, reduceIte, xc_i, xc_j, xc_r, xc_n, List.nil_append, List.cons_append, Option.toList_some, Option.toList_none, e5', t5, e0]
        with_reducible refine xm_go_blk b_X12_readProgram_53 k_X12_readProgram_53 ?_
        refine by_iload_n rfl ?_
        refine by_aload_n rfl ?_
        refine by_getf cn_283 fl_12_223 (by first | exact rfl | assumption) (by decide) ?_
        simp (disch := first | exact Nat.ne_of_beq_eq_false rfl | exact rfl | omega) only [nI_add, xa_sub, xa_mul, pk_div, nm_mod, xa_shr, xa_and7, xa_and1, xa_and255, xa_by_and, nI_m1, Nat.add_sub_cancel, Nat.reducePow, Nat.zero_add, Nat.add_zero, Nat.reduceAdd, Nat.reduceMul, Nat.reduceSub, xf_same, xq_ff, xq_fo, xf_1, xf_2, xs_1, xs_2, xs_same, xq_so, xj_1, xj_2, xj_same, xq_jo, xq_sa1, xq_same, xq_other, upd_s, oI_n, oI_s, e5', t5, e0]
        refine by_ic_ge 79 rfl ?_
        simp (disch := first | exact Nat.ne_of_beq_eq_false rfl | exact rfl | omega) only [nI_add, xa_sub, xa_mul, pk_div, nm_mod, xa_shr, xa_and7, xa_and1, xa_and255, xa_by_and, nI_m1, Nat.add_sub_cancel, Nat.reducePow, Nat.zero_add, Nat.add_zero, Nat.reduceAdd, Nat.reduceMul, Nat.reduceSub, xf_same, xq_ff, xq_fo, xf_1, xf_2, xs_1, xs_2, xs_same, xq_so, xj_1, xj_2, xj_same, xq_jo, xq_sa1, xq_same, xq_other, upd_s, oI_n, oI_s, xv_0, xv_1, xv_2, xv_3, xm_p1, xm_p2, xq_fp, xq_fn, List.filter_nil, Nat.reduceBEq, Bool.not_true, Bool.not_false, Bool.and_true, Bool.and_false, Bool.false_and, Bool.true_and, if_true, if_false, Bool.false_eq_true, reduceIte, xc_i, xc_j, xc_r, xc_n, List.nil_append, List.cons_append, Option.toList_some, Option.toList_none, nI_ltJ, nI_leJ, nI_eqJ, nI_ltz, nI_gez, nI_gtz, nI_lez, nI_eqz, m1_ltz, m1_gez, true_imp_iff, false_imp_iff, true_and, and_true, ne_eq, not_false_eq_true, not_true_eq_false, Nat.reduceEqDiff, Nat.reduceLT, Nat.reduceLeDiff, e5', t5, e0]
        refine ⟨fun c => absurd c (by omega), fun c53 => ?_⟩
        with_reducible refine xm_go_blk b_X12_readProgram_61 k_X12_readProgram_61 ?_
        refine by_aload_n rfl ?_
        refine by_getf cn_283 fl_12_330 (by first | exact rfl | assumption) (by decide) ?_
        simp (disch := first | exact Nat.ne_of_beq_eq_false rfl | exact rfl | omega) only [nI_add, xa_sub, xa_mul, pk_div, nm_mod, xa_shr, xa_and7, xa_and1, xa_and255, xa_by_and, nI_m1, Nat.add_sub_cancel, Nat.reducePow, Nat.zero_add, Nat.add_zero, Nat.reduceAdd, Nat.reduceMul, Nat.reduceSub, xf_same, xq_ff, xq_fo, xf_1, xf_2, xs_1, xs_2, xs_same, xq_so, xj_1, xj_2, xj_same, xq_jo, xq_sa1, xq_same, xq_other, upd_s, oI_n, oI_s, e5', t5, e0]
        refine by_if_ne 79 rfl ?_
        simp (disch := first | exact Nat.ne_of_beq_eq_false rfl | exact rfl | omega) only [nI_add, xa_sub, xa_mul, pk_div, nm_mod, xa_shr, xa_and7, xa_and1, xa_and255, xa_by_and, nI_m1, Nat.add_sub_cancel, Nat.reducePow, Nat.zero_add, Nat.add_zero, Nat.reduceAdd, Nat.reduceMul, Nat.reduceSub, xf_same, xq_ff, xq_fo, xf_1, xf_2, xs_1, xs_2, xs_same, xq_so, xj_1, xj_2, xj_same, xq_jo, xq_sa1, xq_same, xq_other, upd_s, oI_n, oI_s, xv_0, xv_1, xv_2, xv_3, xm_p1, xm_p2, xq_fp, xq_fn, List.filter_nil, Nat.reduceBEq, Bool.not_true, Bool.not_false, Bool.and_true, Bool.and_false, Bool.false_and, Bool.true_and, if_true, if_false, Bool.false_eq_true, reduceIte, xc_i, xc_j, xc_r, xc_n, List.nil_append, List.cons_append, Option.toList_some, Option.toList_none, nI_ltJ, nI_leJ, nI_eqJ, nI_ltz, nI_gez, nI_gtz, nI_lez, nI_eqz, m1_ltz, m1_gez, true_imp_iff, false_imp_iff, true_and, and_true, ne_eq, not_false_eq_true, not_true_eq_false, Nat.reduceEqDiff, Nat.reduceLT, Nat.reduceLeDiff, e5', t5, e0]
        exact xm_go_wk (by simp [Value.category]) hg
      · with_reducible refine xm_go_blk b_X12_readProgram_73 k_X12_readProgram_73 ?_
        refine by_iinc (by rw [ml_283]; decide) rfl ci_1 ?_
        refine by_goto 53 rfl ?_
        simp (disch := first | exact Nat.ne_of_beq_eq_false rfl | exact rfl | omega) only [nI_add, xa_sub, xa_mul, pk_div, nm_mod, xa_shr, xa_and7, xa_and1, xa_and255, xa_by_and, nI_m1, Nat.add_sub_cancel, Nat.reducePow, Nat.zero_add, Nat.add_zero, Nat.reduceAdd, Nat.reduceMul, Nat.reduceSub, xf_same, xq_ff, xq_fo, xf_1, xf_2, xs_1, xs_2, xs_same, xq_so, xj_1, xj_2, xj_same, xq_jo, xq_sa1, xq_same, xq_other, upd_s, oI_n, oI_s, xv_0, xv_1, xv_2, xv_3, xm_p1, xm_p2, xq_fp, xq_fn, List.filter_nil, Nat.reduceBEq, Bool.not_true, Bool.not_false, Bool.and_true, Bool.and_false, Bool.false_and, Bool.true_and, if_true, if_false, Bool.false_eq_true, reduceIte, xc_i, xc_j, xc_r, xc_n, List.nil_append, List.cons_append, Option.toList_some, Option.toList_none, e5']
        with_reducible refine xm_go_blk b_X12_readProgram_53 k_X12_readProgram_53 ?_
        refine by_iload_n rfl ?_
        refine by_aload_n rfl ?_
        refine by_getf cn_283 fl_12_223 (by first | exact rfl | assumption) (by decide) ?_
        simp (disch := first | exact Nat.ne_of_beq_eq_false rfl | exact rfl | omega) only [nI_add, xa_sub, xa_mul, pk_div, nm_mod, xa_shr, xa_and7, xa_and1, xa_and255, xa_by_and, nI_m1, Nat.add_sub_cancel, Nat.reducePow, Nat.zero_add, Nat.add_zero, Nat.reduceAdd, Nat.reduceMul, Nat.reduceSub, xf_same, xq_ff, xq_fo, xf_1, xf_2, xs_1, xs_2, xs_same, xq_so, xj_1, xj_2, xj_same, xq_jo, xq_sa1, xq_same, xq_other, upd_s, oI_n, oI_s, e5']
        refine by_ic_ge 79 rfl ?_
        simp (disch := first | exact Nat.ne_of_beq_eq_false rfl | exact rfl | omega) only [nI_add, xa_sub, xa_mul, pk_div, nm_mod, xa_shr, xa_and7, xa_and1, xa_and255, xa_by_and, nI_m1, Nat.add_sub_cancel, Nat.reducePow, Nat.zero_add, Nat.add_zero, Nat.reduceAdd, Nat.reduceMul, Nat.reduceSub, xf_same, xq_ff, xq_fo, xf_1, xf_2, xs_1, xs_2, xs_same, xq_so, xj_1, xj_2, xj_same, xq_jo, xq_sa1, xq_same, xq_other, upd_s, oI_n, oI_s, xv_0, xv_1, xv_2, xv_3, xm_p1, xm_p2, xq_fp, xq_fn, List.filter_nil, Nat.reduceBEq, Bool.not_true, Bool.not_false, Bool.and_true, Bool.and_false, Bool.false_and, Bool.true_and, if_true, if_false, Bool.false_eq_true, reduceIte, xc_i, xc_j, xc_r, xc_n, List.nil_append, List.cons_append, Option.toList_some, Option.toList_none, nI_ltJ, nI_leJ, nI_eqJ, nI_ltz, nI_gez, nI_gtz, nI_lez, nI_eqz, m1_ltz, m1_gez, true_imp_iff, false_imp_iff, true_and, and_true, ne_eq, not_false_eq_true, not_true_eq_false, Nat.reduceEqDiff, Nat.reduceLT, Nat.reduceLeDiff, e5']
        refine ⟨fun c53 => ?_, fun c => absurd (by omega) c⟩
        exact xm_go_wk (by simp [Value.category]) hg
    | ok r =>
      obtain ⟨q, b⟩ := r
      rw [e] at hN hr
      obtain ⟨hS2, hC2⟩ := hN
      have hg := ih (ps ++ [q]) b h2 (by simp only [List.length_append, List.length_cons, List.length_nil]; omega) f12 hS2 hC2 hr
      rw [List.length_append] at hg
      with_reducible refine xm_go_blk b_X12_readProgram_73 k_X12_readProgram_73 ?_
      refine by_iinc (by rw [ml_283]; decide) rfl ci_1 ?_
      refine by_goto 53 rfl ?_
      simp (disch := first | exact Nat.ne_of_beq_eq_false rfl | exact rfl | omega) only [nI_add, xa_sub, xa_mul, pk_div, nm_mod, xa_shr, xa_and7, xa_and1, xa_and255, xa_by_and, nI_m1, Nat.add_sub_cancel, Nat.reducePow, Nat.zero_add, Nat.add_zero, Nat.reduceAdd, Nat.reduceMul, Nat.reduceSub, xf_same, xq_ff, xq_fo, xf_1, xf_2, xs_1, xs_2, xs_same, xq_so, xj_1, xj_2, xj_same, xq_jo, xq_sa1, xq_same, xq_other, upd_s, oI_n, oI_s, xv_0, xv_1, xv_2, xv_3, xm_p1, xm_p2, xq_fp, xq_fn, List.filter_nil, Nat.reduceBEq, Bool.not_true, Bool.not_false, Bool.and_true, Bool.and_false, Bool.false_and, Bool.true_and, if_true, if_false, Bool.false_eq_true, reduceIte, xc_i, xc_j, xc_r, xc_n, List.nil_append, List.cons_append, Option.toList_some, Option.toList_none]
      exact xm_go_wk (by simp [Value.category]) hg
end MP
