/-! ===== the reference: keepProgram: bytes, types ===== -/
theorem xs_o {h : xm_H} {a b i j : Nat} {x : Int32} (hi : i ≠ j) : (xm_si h a j x).1 b i = h.1 b i := by
  by_cases e : b = a
  · subst e; rw [xs_same, upd_o hi]
  · rw [xs_other (by simpa using e)]
def kySt (h : xm_H) (k : Nat) (a b c d e f : Int32) : xm_H := xm_si (xm_si (xm_si (xm_si (xm_si (xm_si h 129 k a) 130 k b) 131 k c) 132 k d) 133 k e) 134 k f
theorem kySt_at {h : xm_H} {k : Nat} {a b c d e f : Int32} : (kySt h k a b c d e f).1 129 k = a ∧ (kySt h k a b c d e f).1 130 k = b ∧ (kySt h k a b c d e f).1 131 k = c ∧ (kySt h k a b c d e f).1 132 k = d ∧ (kySt h k a b c d e f).1 133 k = e ∧ (kySt h k a b c d e f).1 134 k = f := by
  unfold kySt
  refine ⟨?_, ?_, ?_, ?_, ?_, ?_⟩ <;> simp [xs_same, xs_other, upd_s]
theorem kySt_o {h : xm_H} {k q i : Nat} {a b c d e f : Int32} (hi : i ≠ k) : (kySt h k a b c d e f).1 q i = h.1 q i := by
  unfold kySt
  rw [xs_o hi, xs_o hi, xs_o hi, xs_o hi, xs_o hi, xs_o hi]
theorem kySt_fr {h : xm_H} {k : Nat} {a b c d e f : Int32} : Fr [129, 130, 131, 132, 133, 134] [] h (kySt h k a b c d e f) := by
  unfold kySt
  exact Fr_si (Fr_si (Fr_si (Fr_si (Fr_si (Fr_si Fr_rf (by simp)) (by simp)) (by simp)) (by simp)) (by simp)) (by simp)
/-- a type that is kept -/
def kyE (h : xm_H) (tr : Nat → Ty) (K L R : Nat → Nat) (y : Nat) : Prop :=
  h.1 129 y = nI (K (y + 3200) + 1) ∧ (1 ≤ K (y + 3200) → h.1 130 y = nI (L (y + 3200) - 3200) ∧ h.1 131 y = nI (R (y + 3200) - 3200)) ∧ h.1 132 y = nI (min 4096 (ty_w (tr (y + 3200)))) ∧ h.1 133 y = nI (if ty_w (tr (y + 3200)) ≤ 2048 then ty_word (tr (y + 3200)) else 0) ∧ h.1 134 y = nI (min 1000 (ty_tl (tr (y + 3200)))) ∧ ∀ k, k < 8 → h.1 137 (8 * y + k) = tyRt (tr (y + 3200)) k
def kyR : List Nat := [129, 130, 131, 132, 133, 134, 137, 148, 149, 150]
def kyI (h h' : xm_H) (tr : Nat → Ty) (K L R : Nat → Nat) (j : Nat) : Prop := Fr kyR [] h h' ∧ (∀ a i, 129 ≤ a → a ≤ 134 → 3200 ≤ i → h'.1 a i = h.1 a i) ∧ ∀ y, y < j → kyE h' tr K L R y
section KP
variable {sc : xm_Sc} {d cn : Nat} {tr : Nat → Ty} {K L R : Nat → Nat} {l : List Nat} {h h' : xm_H} {post : xm_Po}
theorem sp_keptType {i : Nat} (hi : 3200 ≤ i) (hi2 : i < 2147483648) (hp : post (some (.int (nI (i - 3200)))) h) : xm_T (XE sc) (d + 1) 245 [.ref 102, .int (nI i)] h post := by
  refine xq_in rfl ?_
  simp only [xq_a0, xq_aI, xq_aJ, xq_aR, Nat.reduceAdd]
  with_reducible refine xm_go_blk b_X12_keptType_0 k_X12_keptType_0 ?_
  refine by_iload_n rfl ?_
  refine by_sipush cs_3200 ?_
  refine by_isub ?_
  simp (disch := first | exact Nat.ne_of_beq_eq_false rfl | exact rfl | omega) only [nI_add, xa_sub, xa_mul, pk_div, nm_mod, xa_shr, xa_and7, xa_and1, xa_and255, xa_by_and, nI_m1, Nat.add_sub_cancel, Nat.reducePow, Nat.zero_add, Nat.add_zero, Nat.reduceAdd, Nat.reduceMul, Nat.reduceSub, xf_same, xq_ff, xq_fo, xf_1, xf_2, xs_1, xs_2, xs_same, xq_so, xj_1, xj_2, xj_same, xq_jo, xq_sa1, xq_same, xq_other, upd_s, oI_n, oI_s]
  refine by_iret ry_245 (by first | rfl | assumption) ?_
  exact hp
theorem kp_18 (hF : XF h) (hl : mrow h 103 l) (ht : h.2.2 102 2 = .int (nI l.length)) (hgo : ∀ h', Fr [128] [] h h' → mrow h' 128 l → xm_go (XE sc) (xm_T (XE sc) (d + 4)) 244 post 44 [(0, .ref 102)] [] h') :
    ∀ (j i : Nat) (h' : xm_H), i + j = l.length → Fr [128] [] h h' → (∀ k, k < i → h'.1 128 k = nI (l.getD k 0)) → xm_go (XE sc) (xm_T (XE sc) (d + 4)) 244 post 18 [(1, .int (nI i)), (0, .ref 102)] [] h' := by
  have hlen := hl.2.2
  intro j
  induction j with
  | zero =>
    intro i h' hi hf h1
    have : i = l.length := by omega
    subst this
    have e2 : h'.2.2 102 2 = .int (nI l.length) := by rw [hf.2.2 _ _ (by simp)]; exact ht
    with_reducible refine xm_go_blk b_X12_keepProgram_18 k_X12_keepProgram_18 ?_
    refine by_iload_n rfl ?_
    refine by_aload_n rfl ?_
    refine by_getf cn_244 fl_12_215 (by first | exact rfl | assumption) (by decide) ?_
    simp (disch := first | exact Nat.ne_of_beq_eq_false rfl | exact rfl | omega) only [nI_add, xa_sub, xa_mul, pk_div, nm_mod, xa_shr, xa_and7, xa_and1, xa_and255, xa_by_and, nI_m1, Nat.add_sub_cancel, Nat.reducePow, Nat.zero_add, Nat.add_zero, Nat.reduceAdd, Nat.reduceMul, Nat.reduceSub, xf_same, xq_ff, xq_fo, xf_1, xf_2, xs_1, xs_2, xs_same, xq_so, xj_1, xj_2, xj_same, xq_jo, xq_sa1, xq_same, xq_other, upd_s, oI_n, oI_s, e2]
    refine by_ic_ge 44 rfl ?_
    simp (disch := first | exact Nat.ne_of_beq_eq_false rfl | exact rfl | omega) only [nI_add, xa_sub, xa_mul, pk_div, nm_mod, xa_shr, xa_and7, xa_and1, xa_and255, xa_by_and, nI_m1, Nat.add_sub_cancel, Nat.reducePow, Nat.zero_add, Nat.add_zero, Nat.reduceAdd, Nat.reduceMul, Nat.reduceSub, xf_same, xq_ff, xq_fo, xf_1, xf_2, xs_1, xs_2, xs_same, xq_so, xj_1, xj_2, xj_same, xq_jo, xq_sa1, xq_same, xq_other, upd_s, oI_n, oI_s, xv_0, xv_1, xv_2, xv_3, xm_p1, xm_p2, xq_fp, xq_fn, List.filter_nil, Nat.reduceBEq, Bool.not_true, Bool.not_false, Bool.and_true, Bool.and_false, Bool.false_and, Bool.true_and, if_true, if_false, Bool.false_eq_true, reduceIte, xc_i, xc_j, xc_r, xc_n, List.nil_append, List.cons_append, Option.toList_some, Option.toList_none, nI_ltJ, nI_leJ, nI_eqJ, nI_ltz, nI_gez, nI_gtz, nI_lez, nI_eqz, m1_ltz, m1_gez, true_imp_iff, false_imp_iff, true_and, and_true, ne_eq, not_false_eq_true, not_true_eq_false, Nat.reduceEqDiff, Nat.reduceLT, Nat.reduceLeDiff, e2]
    refine ⟨fun c18 => ?_, fun c => absurd (by omega) c⟩
    exact xm_go_wk (by simp [Value.category]) (hgo h' hf ⟨h1, hl.2.1, hlen⟩)
  | succ j ih =>
    intro i h' hi hf h1
    have F1 : XF h' := Fr_XF hF hf (by decide +kernel)
    have e2 : h'.2.2 102 2 = .int (nI l.length) := by rw [hf.2.2 _ _ (by simp)]; exact ht
    have e3 : h'.1 103 i = nI (l.getD i 0) := by rw [hf.1 103 (by simp)]; exact hl.1 i (by omega)
    with_reducible refine xm_go_blk b_X12_keepProgram_18 k_X12_keepProgram_18 ?_
    refine by_iload_n rfl ?_
    refine by_aload_n rfl ?_
    refine by_getf cn_244 fl_12_215 (by first | exact rfl | assumption) (by decide) ?_
    simp (disch := first | exact Nat.ne_of_beq_eq_false rfl | exact rfl | omega) only [nI_add, xa_sub, xa_mul, pk_div, nm_mod, xa_shr, xa_and7, xa_and1, xa_and255, xa_by_and, nI_m1, Nat.add_sub_cancel, Nat.reducePow, Nat.zero_add, Nat.add_zero, Nat.reduceAdd, Nat.reduceMul, Nat.reduceSub, xf_same, xq_ff, xq_fo, xf_1, xf_2, xs_1, xs_2, xs_same, xq_so, xj_1, xj_2, xj_same, xq_jo, xq_sa1, xq_same, xq_other, upd_s, oI_n, oI_s, e2, xf_102_1 F1, xf_102_31 F1, e3]
    refine by_ic_ge 44 rfl ?_
    simp (disch := first | exact Nat.ne_of_beq_eq_false rfl | exact rfl | omega) only [nI_add, xa_sub, xa_mul, pk_div, nm_mod, xa_shr, xa_and7, xa_and1, xa_and255, xa_by_and, nI_m1, Nat.add_sub_cancel, Nat.reducePow, Nat.zero_add, Nat.add_zero, Nat.reduceAdd, Nat.reduceMul, Nat.reduceSub, xf_same, xq_ff, xq_fo, xf_1, xf_2, xs_1, xs_2, xs_same, xq_so, xj_1, xj_2, xj_same, xq_jo, xq_sa1, xq_same, xq_other, upd_s, oI_n, oI_s, xv_0, xv_1, xv_2, xv_3, xm_p1, xm_p2, xq_fp, xq_fn, List.filter_nil, Nat.reduceBEq, Bool.not_true, Bool.not_false, Bool.and_true, Bool.and_false, Bool.false_and, Bool.true_and, if_true, if_false, Bool.false_eq_true, reduceIte, xc_i, xc_j, xc_r, xc_n, List.nil_append, List.cons_append, Option.toList_some, Option.toList_none, nI_ltJ, nI_leJ, nI_eqJ, nI_ltz, nI_gez, nI_gtz, nI_lez, nI_eqz, m1_ltz, m1_gez, true_imp_iff, false_imp_iff, true_and, and_true, ne_eq, not_false_eq_true, not_true_eq_false, Nat.reduceEqDiff, Nat.reduceLT, Nat.reduceLeDiff, e2, xf_102_1 F1, xf_102_31 F1, e3]
    refine ⟨fun c => absurd c (by omega), fun c18 => ?_⟩
    with_reducible refine xm_go_blk b_X12_keepProgram_26 k_X12_keepProgram_26 ?_
    refine by_aload_n rfl ?_
    refine by_getf cn_244 fl_12_88 (by first | exact rfl | assumption) (by decide) ?_
    refine by_iload_n rfl ?_
    refine by_aload_n rfl ?_
    refine by_getf cn_244 fl_12_7 (by first | exact rfl | assumption) (by decide) ?_
    refine by_iload_n rfl ?_
    simp (disch := first | exact Nat.ne_of_beq_eq_false rfl | exact rfl | omega) only [nI_add, xa_sub, xa_mul, pk_div, nm_mod, xa_shr, xa_and7, xa_and1, xa_and255, xa_by_and, nI_m1, Nat.add_sub_cancel, Nat.reducePow, Nat.zero_add, Nat.add_zero, Nat.reduceAdd, Nat.reduceMul, Nat.reduceSub, xf_same, xq_ff, xq_fo, xf_1, xf_2, xs_1, xs_2, xs_same, xq_so, xj_1, xj_2, xj_same, xq_jo, xq_sa1, xq_same, xq_other, upd_s, oI_n, oI_s, e2, xf_102_1 F1, xf_102_31 F1, e3]
    first | refine by_iald (by first | exact rfl | assumption | exact ps_1 hpp | exact ps_2 hpp | exact ps_3 hpp | exact ps_4 hpp | exact ps_5 hpp | exact ps_6 hpp | exact ps_7 hpp | exact ps_8 hpp | exact ps_9 hpp | exact ps_10 hpp | exact ps_11 hpp | exact ps_15 hpp | exact ps_16 hpp | exact ps_17 hpp | exact ps_18 hpp | exact ps_19 hpp | exact ps_21 hpp | exact ps_22 hpp | exact ps_23 hpp | exact ps_24 hpp) ⟨by omega, by omega⟩ ?_ | refine by_tald rfl rfl ⟨by omega, by omega⟩ ?_
    refine by_iast (by first | exact rfl | assumption | exact ps_1 hpp | exact ps_2 hpp | exact ps_3 hpp | exact ps_4 hpp | exact ps_5 hpp | exact ps_6 hpp | exact ps_7 hpp | exact ps_8 hpp | exact ps_9 hpp | exact ps_10 hpp | exact ps_11 hpp | exact ps_15 hpp | exact ps_16 hpp | exact ps_17 hpp | exact ps_18 hpp | exact ps_19 hpp | exact ps_21 hpp | exact ps_22 hpp | exact ps_23 hpp | exact ps_24 hpp) ⟨by omega, by omega⟩ ?_
    refine by_iinc (by rw [ml_244]; decide) rfl ci_1 ?_
    refine by_goto 18 rfl ?_
    simp (disch := first | exact Nat.ne_of_beq_eq_false rfl | exact rfl | omega) only [nI_add, xa_sub, xa_mul, pk_div, nm_mod, xa_shr, xa_and7, xa_and1, xa_and255, xa_by_and, nI_m1, Nat.add_sub_cancel, Nat.reducePow, Nat.zero_add, Nat.add_zero, Nat.reduceAdd, Nat.reduceMul, Nat.reduceSub, xf_same, xq_ff, xq_fo, xf_1, xf_2, xs_1, xs_2, xs_same, xq_so, xj_1, xj_2, xj_same, xq_jo, xq_sa1, xq_same, xq_other, upd_s, oI_n, oI_s, xv_0, xv_1, xv_2, xv_3, xm_p1, xm_p2, xq_fp, xq_fn, List.filter_nil, Nat.reduceBEq, Bool.not_true, Bool.not_false, Bool.and_true, Bool.and_false, Bool.false_and, Bool.true_and, if_true, if_false, Bool.false_eq_true, reduceIte, xc_i, xc_j, xc_r, xc_n, List.nil_append, List.cons_append, Option.toList_some, Option.toList_none, e2, xf_102_1 F1, xf_102_31 F1, e3]
    refine xm_go_wk (by simp [Value.category]) (ih (i + 1) _ (by omega) (Fr_si hf (by simp)) (fun k hk => ?_))
    by_cases z : k = i
    · subst z; rw [xs_same, upd_s]
    · rw [xs_same, upd_o (by omega)]; exact h1 k (by omega)
theorem ky_1 {y : Nat} (hF : XF h') (hT : mtT h cn tr K L R) (hcn : cn ≤ 6400) (hy : y + 3200 < cn) (hI : kyI h h' tr K L R y)
    (hgo : ∀ h2, kyI h h2 tr K L R (y + 1) → xm_go (XE sc) (xm_T (XE sc) (d + 4)) 244 post 48 [(1, .int (nI (y + 1 + 3200))), (0, .ref 102)] [] h2) : xm_go (XE sc) (xm_T (XE sc) (d + 4)) 244 post 56 [(1, .int (nI (y + 3200))), (0, .ref 102)] [] h' := by
  obtain ⟨i1, i2, i3⟩ := hI
  obtain ⟨⟨x1, x1b, x1c⟩, x2, x3, x4, x5, x6, x7, x8, x9, x10⟩ := hT.2.2.1 (y + 3200) (by omega) hy
  have g1 : h'.1 129 (y + 3200) = nI (K (y + 3200) + 1) := by rw [i2 129 _ (by decide) (by decide) (by omega)]; exact x6
  have g4 : h'.1 132 (y + 3200) = nI (min 4096 (ty_w (tr (y + 3200)))) := by rw [i2 132 _ (by decide) (by decide) (by omega)]; exact x8
  have g5 : h'.1 133 (y + 3200) = nI (if ty_w (tr (y + 3200)) ≤ 2048 then ty_word (tr (y + 3200)) else 0) := by rw [i2 133 _ (by decide) (by decide) (by omega)]; exact x9
  have g6 : h'.1 134 (y + 3200) = nI (min 1000 (ty_tl (tr (y + 3200)))) := by rw [i2 134 _ (by decide) (by decide) (by omega)]; exact x10
  have so : ∀ (g : xm_H) (a b : Nat) (v : Int32), (xm_si g a y v).1 b (y + 3200) = g.1 b (y + 3200) := fun g a b v => xs_o (by omega)
  have ht : tr (y + 3200) = (if K (y + 3200) = 0 then tO else if K (y + 3200) = 1 then .add (tr (L (y + 3200))) (tr (R (y + 3200))) else .mul (tr (L (y + 3200))) (tr (R (y + 3200)))) := by
    rw [x4]
    rcases ts_cs x1 with e | e | e <;> rw [e] <;> rfl
  have kid : ∀ z, 3200 ≤ z → z < y + 3200 → ∀ k, k < 8 → h'.1 137 (8 * (z - 3200) + k) = tyRt (tr z) k := by
    intro z z1 z2 k hk
    have := (i3 (z - 3200) (by omega)).2.2.2.2.2 k hk
    rw [show z - 3200 + 3200 = z by omega] at this
    exact this
  have fin : ∀ (b c : Int32), (1 ≤ K (y + 3200) → b = nI (L (y + 3200) - 3200) ∧ c = nI (R (y + 3200) - 3200)) → ∀ (post2 : xm_Po), (∀ h2, kyI h h2 tr K L R (y + 1) → post2 none h2) → xm_T (XE sc) (d + 4) 289 [.ref 102, .int (nI y)] (kySt h' y (nI (K (y + 3200) + 1)) b c (nI (min 4096 (ty_w (tr (y + 3200))))) (nI (if ty_w (tr (y + 3200)) ≤ 2048 then ty_word (tr (y + 3200)) else 0)) (nI (min 1000 (ty_tl (tr (y + 3200)))))) post2 := by
    intro b c hbc post2 hp2
    obtain ⟨t1, t2, t3, t4, t5, t6⟩ := kySt_at (h := h') (k := y) (a := nI (K (y + 3200) + 1)) (b := b) (c := c) (d := nI (min 4096 (ty_w (tr (y + 3200))))) (e := nI (if ty_w (tr (y + 3200)) ≤ 2048 then ty_word (tr (y + 3200)) else 0)) (f := nI (min 1000 (ty_tl (tr (y + 3200)))))
    have fr := kySt_fr (h := h') (k := y) (a := nI (K (y + 3200) + 1)) (b := b) (c := c) (d := nI (min 4096 (ty_w (tr (y + 3200))))) (e := nI (if ty_w (tr (y + 3200)) ≤ 2048 then ty_word (tr (y + 3200)) else 0)) (f := nI (min 1000 (ty_tl (tr (y + 3200)))))
    refine sp_rootOfType (d := d) (kk := K (y + 3200)) (ll := L (y + 3200) - 3200) (rr := R (y + 3200) - 3200) (t := tr (y + 3200)) (a := tr (L (y + 3200))) (b := tr (R (y + 3200))) (Fr_XF hF fr (by decide +kernel)) (by omega) x1 t1 (fun hk => ?_) ht (fun h2 f2 q1 q2 => hp2 h2 ⟨?_, ?_, ?_⟩)
    · obtain ⟨b1, b2⟩ := hbc hk
      obtain ⟨l1, l2⟩ := x1c hk
      obtain ⟨m1, m2⟩ := x2 hk
      refine ⟨by rw [t2, b1], by rw [t3, b2], by omega, by omega, fun k hk => ?_, fun k hk => ?_⟩
      · rw [fr.1 137 (by simp)]; exact kid _ m1 l1 k hk
      · rw [fr.1 137 (by simp)]; exact kid _ m2 l2 k hk
    · exact Fr_tr (Fr_tr i1 fr (by simp [kyR]) (by simp)) f2 (by simp [kyR]) (by simp)
    · intro q i q1 q2 hi
      rw [f2.1 q (by simp; omega), kySt_o (by omega)]
      exact i2 q i q1 q2 hi
    · intro z hz
      by_cases e : z = y
      · subst e
        refine ⟨by rw [f2.1 129 (by simp)]; exact t1, fun hk => ?_, by rw [f2.1 132 (by simp)]; exact t4, by rw [f2.1 133 (by simp)]; exact t5, by rw [f2.1 134 (by simp)]; exact t6, q1⟩
        obtain ⟨b1, b2⟩ := hbc hk
        exact ⟨by rw [f2.1 130 (by simp), t2, b1], by rw [f2.1 131 (by simp), t3, b2]⟩
      · obtain ⟨w1, w2, w3, w4, w5, w6⟩ := i3 z (by omega)
        refine ⟨by rw [f2.1 129 (by simp), kySt_o e]; exact w1, fun hk => ?_, by rw [f2.1 132 (by simp), kySt_o e]; exact w3, by rw [f2.1 133 (by simp), kySt_o e]; exact w4, by rw [f2.1 134 (by simp), kySt_o e]; exact w5, fun k hk => ?_⟩
        · rw [f2.1 130 (by simp), f2.1 131 (by simp), kySt_o e, kySt_o e]
          exact w2 hk
        · rw [q2 _ (by omega), fr.1 137 (by simp)]
          exact w6 k hk
  have out : ∀ h2, kyI h h2 tr K L R (y + 1) → xm_go (XE sc) (xm_T (XE sc) (d + 4)) 244 post 179 [(1, .int (nI (y + 3200))), (0, .ref 102)] [] h2 := by
    intro h2 hI2
    have := hgo h2 hI2
    rw [show y + 1 + 3200 = y + 3200 + 1 by omega] at this
    with_reducible refine xm_go_blk b_X12_keepProgram_179 k_X12_keepProgram_179 ?_
    refine by_iinc (by rw [ml_244]; decide) rfl ci_1 ?_
    refine by_goto 48 rfl ?_
    simp (disch := first | exact Nat.ne_of_beq_eq_false rfl | exact rfl | omega) only [nI_add, xa_sub, xa_mul, pk_div, nm_mod, xa_shr, xa_and7, xa_and1, xa_and255, xa_by_and, nI_m1, Nat.add_sub_cancel, Nat.reducePow, Nat.zero_add, Nat.add_zero, Nat.reduceAdd, Nat.reduceMul, Nat.reduceSub, xf_same, xq_ff, xq_fo, xf_1, xf_2, xs_1, xs_2, xs_same, xq_so, xj_1, xj_2, xj_same, xq_jo, xq_sa1, xq_same, xq_other, upd_s, oI_n, oI_s, xv_0, xv_1, xv_2, xv_3, xm_p1, xm_p2, xq_fp, xq_fn, List.filter_nil, Nat.reduceBEq, Bool.not_true, Bool.not_false, Bool.and_true, Bool.and_false, Bool.false_and, Bool.true_and, if_true, if_false, Bool.false_eq_true, reduceIte, xc_i, xc_j, xc_r, xc_n, List.nil_append, List.cons_append, Option.toList_some, Option.toList_none]
    exact xm_go_wk (by simp [Value.category]) this
  with_reducible refine xm_go_blk b_X12_keepProgram_56 k_X12_keepProgram_56 ?_
  refine by_aload_n rfl ?_
  refine by_iload_n rfl ?_
  refine by_inv1 cn_244 lk_12_384 (by rw [xe_cnt]; decide) is_245 np_245 cn_245 (by first | exact rfl | assumption) (Nat.le_of_ble_eq_true rfl) ?_
  refine sp_keptType (by omega) (by omega) ?_
  rw [Nat.add_sub_cancel]
  by_cases e : K (y + 3200) = 0
  · have g1' : h'.1 129 (y + 3200) = nI 1 := by rw [g1, e]
    with_reducible refine xm_go_blk b_X12_keepProgram_61 k_X12_keepProgram_61 ?_
    refine by_istore_n (by rw [ml_244]; decide) ?_
    refine by_aload_n rfl ?_
    refine by_getf cn_244 fl_12_91 (by first | exact rfl | assumption) (by decide) ?_
    refine by_iload_n rfl ?_
    simp (disch := first | exact Nat.ne_of_beq_eq_false rfl | exact rfl | omega) only [nI_add, xa_sub, xa_mul, pk_div, nm_mod, xa_shr, xa_and7, xa_and1, xa_and255, xa_by_and, nI_m1, Nat.add_sub_cancel, Nat.reducePow, Nat.zero_add, Nat.add_zero, Nat.reduceAdd, Nat.reduceMul, Nat.reduceSub, xf_same, xq_ff, xq_fo, xf_1, xf_2, xs_1, xs_2, xs_same, xq_so, xj_1, xj_2, xj_same, xq_jo, xq_sa1, xq_same, xq_other, upd_s, oI_n, oI_s, xf_102_41 hF, xf_102_42 hF, xf_102_43 hF, xf_102_44 hF, xf_102_45 hF, xf_102_46 hF, so, g1', g4, g5, g6]
    first | refine by_iald (by first | exact rfl | assumption | exact ps_1 hpp | exact ps_2 hpp | exact ps_3 hpp | exact ps_4 hpp | exact ps_5 hpp | exact ps_6 hpp | exact ps_7 hpp | exact ps_8 hpp | exact ps_9 hpp | exact ps_10 hpp | exact ps_11 hpp | exact ps_15 hpp | exact ps_16 hpp | exact ps_17 hpp | exact ps_18 hpp | exact ps_19 hpp | exact ps_21 hpp | exact ps_22 hpp | exact ps_23 hpp | exact ps_24 hpp) ⟨by omega, by omega⟩ ?_ | refine by_tald rfl rfl ⟨by omega, by omega⟩ ?_
    refine by_iconst ci_1 ?_
    refine by_ic_eq 76 rfl ?_
    simp (disch := first | exact Nat.ne_of_beq_eq_false rfl | exact rfl | omega) only [nI_add, xa_sub, xa_mul, pk_div, nm_mod, xa_shr, xa_and7, xa_and1, xa_and255, xa_by_and, nI_m1, Nat.add_sub_cancel, Nat.reducePow, Nat.zero_add, Nat.add_zero, Nat.reduceAdd, Nat.reduceMul, Nat.reduceSub, xf_same, xq_ff, xq_fo, xf_1, xf_2, xs_1, xs_2, xs_same, xq_so, xj_1, xj_2, xj_same, xq_jo, xq_sa1, xq_same, xq_other, upd_s, oI_n, oI_s, xv_0, xv_1, xv_2, xv_3, xm_p1, xm_p2, xq_fp, xq_fn, List.filter_nil, Nat.reduceBEq, Bool.not_true, Bool.not_false, Bool.and_true, Bool.and_false, Bool.false_and, Bool.true_and, if_true, if_false, Bool.false_eq_true, reduceIte, xc_i, xc_j, xc_r, xc_n, List.nil_append, List.cons_append, Option.toList_some, Option.toList_none, nI_ltJ, nI_leJ, nI_eqJ, nI_ltz, nI_gez, nI_gtz, nI_lez, nI_eqz, m1_ltz, m1_gez, true_imp_iff, false_imp_iff, true_and, and_true, ne_eq, not_false_eq_true, not_true_eq_false, Nat.reduceEqDiff, Nat.reduceLT, Nat.reduceLeDiff, xf_102_41 hF, xf_102_42 hF, xf_102_43 hF, xf_102_44 hF, xf_102_45 hF, xf_102_46 hF, so, g1', g4, g5, g6]
    with_reducible refine xm_go_blk b_X12_keepProgram_76 k_X12_keepProgram_76 ?_
    refine by_iconst ci_0 ?_
    refine by_nil ?_
    with_reducible refine xm_go_blk b_X12_keepProgram_77 k_X12_keepProgram_77 ?_
    refine by_istore_n (by rw [ml_244]; decide) ?_
    refine by_aload_n rfl ?_
    refine by_getf cn_244 fl_12_91 (by first | exact rfl | assumption) (by decide) ?_
    refine by_iload_n rfl ?_
    refine by_aload_n rfl ?_
    refine by_getf cn_244 fl_12_91 (by first | exact rfl | assumption) (by decide) ?_
    refine by_iload_n rfl ?_
    simp (disch := first | exact Nat.ne_of_beq_eq_false rfl | exact rfl | omega) only [nI_add, xa_sub, xa_mul, pk_div, nm_mod, xa_shr, xa_and7, xa_and1, xa_and255, xa_by_and, nI_m1, Nat.add_sub_cancel, Nat.reducePow, Nat.zero_add, Nat.add_zero, Nat.reduceAdd, Nat.reduceMul, Nat.reduceSub, xf_same, xq_ff, xq_fo, xf_1, xf_2, xs_1, xs_2, xs_same, xq_so, xj_1, xj_2, xj_same, xq_jo, xq_sa1, xq_same, xq_other, upd_s, oI_n, oI_s, xf_102_41 hF, xf_102_42 hF, xf_102_43 hF, xf_102_44 hF, xf_102_45 hF, xf_102_46 hF, so, g1', g4, g5, g6]
    first | refine by_iald (by first | exact rfl | assumption | exact ps_1 hpp | exact ps_2 hpp | exact ps_3 hpp | exact ps_4 hpp | exact ps_5 hpp | exact ps_6 hpp | exact ps_7 hpp | exact ps_8 hpp | exact ps_9 hpp | exact ps_10 hpp | exact ps_11 hpp | exact ps_15 hpp | exact ps_16 hpp | exact ps_17 hpp | exact ps_18 hpp | exact ps_19 hpp | exact ps_21 hpp | exact ps_22 hpp | exact ps_23 hpp | exact ps_24 hpp) ⟨by omega, by omega⟩ ?_ | refine by_tald rfl rfl ⟨by omega, by omega⟩ ?_
    refine by_iast (by first | exact rfl | assumption | exact ps_1 hpp | exact ps_2 hpp | exact ps_3 hpp | exact ps_4 hpp | exact ps_5 hpp | exact ps_6 hpp | exact ps_7 hpp | exact ps_8 hpp | exact ps_9 hpp | exact ps_10 hpp | exact ps_11 hpp | exact ps_15 hpp | exact ps_16 hpp | exact ps_17 hpp | exact ps_18 hpp | exact ps_19 hpp | exact ps_21 hpp | exact ps_22 hpp | exact ps_23 hpp | exact ps_24 hpp) ⟨by omega, by omega⟩ ?_
    refine by_aload_n rfl ?_
    refine by_getf cn_244 fl_12_94 (by first | exact rfl | assumption) (by decide) ?_
    refine by_iload_n rfl ?_
    refine by_iload_n rfl ?_
    refine by_if_eq 112 rfl ?_
    simp (disch := first | exact Nat.ne_of_beq_eq_false rfl | exact rfl | omega) only [nI_add, xa_sub, xa_mul, pk_div, nm_mod, xa_shr, xa_and7, xa_and1, xa_and255, xa_by_and, nI_m1, Nat.add_sub_cancel, Nat.reducePow, Nat.zero_add, Nat.add_zero, Nat.reduceAdd, Nat.reduceMul, Nat.reduceSub, xf_same, xq_ff, xq_fo, xf_1, xf_2, xs_1, xs_2, xs_same, xq_so, xj_1, xj_2, xj_same, xq_jo, xq_sa1, xq_same, xq_other, upd_s, oI_n, oI_s, xv_0, xv_1, xv_2, xv_3, xm_p1, xm_p2, xq_fp, xq_fn, List.filter_nil, Nat.reduceBEq, Bool.not_true, Bool.not_false, Bool.and_true, Bool.and_false, Bool.false_and, Bool.true_and, if_true, if_false, Bool.false_eq_true, reduceIte, xc_i, xc_j, xc_r, xc_n, List.nil_append, List.cons_append, Option.toList_some, Option.toList_none, nI_ltJ, nI_leJ, nI_eqJ, nI_ltz, nI_gez, nI_gtz, nI_lez, nI_eqz, m1_ltz, m1_gez, true_imp_iff, false_imp_iff, true_and, and_true, ne_eq, not_false_eq_true, not_true_eq_false, Nat.reduceEqDiff, Nat.reduceLT, Nat.reduceLeDiff, xf_102_41 hF, xf_102_42 hF, xf_102_43 hF, xf_102_44 hF, xf_102_45 hF, xf_102_46 hF, so, g1', g4, g5, g6]
    with_reducible refine xm_go_blk b_X12_keepProgram_112 k_X12_keepProgram_112 ?_
    refine by_iconst ci_m1 ?_
    refine by_nil ?_
    with_reducible refine xm_go_blk b_X12_keepProgram_113 k_X12_keepProgram_113 ?_
    refine by_iast (by first | exact rfl | assumption | exact ps_1 hpp | exact ps_2 hpp | exact ps_3 hpp | exact ps_4 hpp | exact ps_5 hpp | exact ps_6 hpp | exact ps_7 hpp | exact ps_8 hpp | exact ps_9 hpp | exact ps_10 hpp | exact ps_11 hpp | exact ps_15 hpp | exact ps_16 hpp | exact ps_17 hpp | exact ps_18 hpp | exact ps_19 hpp | exact ps_21 hpp | exact ps_22 hpp | exact ps_23 hpp | exact ps_24 hpp) ⟨by omega, by omega⟩ ?_
    refine by_aload_n rfl ?_
    refine by_getf cn_244 fl_12_97 (by first | exact rfl | assumption) (by decide) ?_
    refine by_iload_n rfl ?_
    refine by_iload_n rfl ?_
    refine by_if_eq 136 rfl ?_
    simp (disch := first | exact Nat.ne_of_beq_eq_false rfl | exact rfl | omega) only [nI_add, xa_sub, xa_mul, pk_div, nm_mod, xa_shr, xa_and7, xa_and1, xa_and255, xa_by_and, nI_m1, Nat.add_sub_cancel, Nat.reducePow, Nat.zero_add, Nat.add_zero, Nat.reduceAdd, Nat.reduceMul, Nat.reduceSub, xf_same, xq_ff, xq_fo, xf_1, xf_2, xs_1, xs_2, xs_same, xq_so, xj_1, xj_2, xj_same, xq_jo, xq_sa1, xq_same, xq_other, upd_s, oI_n, oI_s, xv_0, xv_1, xv_2, xv_3, xm_p1, xm_p2, xq_fp, xq_fn, List.filter_nil, Nat.reduceBEq, Bool.not_true, Bool.not_false, Bool.and_true, Bool.and_false, Bool.false_and, Bool.true_and, if_true, if_false, Bool.false_eq_true, reduceIte, xc_i, xc_j, xc_r, xc_n, List.nil_append, List.cons_append, Option.toList_some, Option.toList_none, nI_ltJ, nI_leJ, nI_eqJ, nI_ltz, nI_gez, nI_gtz, nI_lez, nI_eqz, m1_ltz, m1_gez, true_imp_iff, false_imp_iff, true_and, and_true, ne_eq, not_false_eq_true, not_true_eq_false, Nat.reduceEqDiff, Nat.reduceLT, Nat.reduceLeDiff, xf_102_41 hF, xf_102_42 hF, xf_102_43 hF, xf_102_44 hF, xf_102_45 hF, xf_102_46 hF, so, g1', g4, g5, g6]
    with_reducible refine xm_go_blk b_X12_keepProgram_136 k_X12_keepProgram_136 ?_
    refine by_iconst ci_m1 ?_
    refine by_nil ?_
    with_reducible refine xm_go_blk b_X12_keepProgram_137 k_X12_keepProgram_137 ?_
    refine by_iast (by first | exact rfl | assumption | exact ps_1 hpp | exact ps_2 hpp | exact ps_3 hpp | exact ps_4 hpp | exact ps_5 hpp | exact ps_6 hpp | exact ps_7 hpp | exact ps_8 hpp | exact ps_9 hpp | exact ps_10 hpp | exact ps_11 hpp | exact ps_15 hpp | exact ps_16 hpp | exact ps_17 hpp | exact ps_18 hpp | exact ps_19 hpp | exact ps_21 hpp | exact ps_22 hpp | exact ps_23 hpp | exact ps_24 hpp) ⟨by omega, by omega⟩ ?_
    refine by_aload_n rfl ?_
    refine by_getf cn_244 fl_12_100 (by first | exact rfl | assumption) (by decide) ?_
    refine by_iload_n rfl ?_
    refine by_aload_n rfl ?_
    refine by_getf cn_244 fl_12_100 (by first | exact rfl | assumption) (by decide) ?_
    refine by_iload_n rfl ?_
    simp (disch := first | exact Nat.ne_of_beq_eq_false rfl | exact rfl | omega) only [nI_add, xa_sub, xa_mul, pk_div, nm_mod, xa_shr, xa_and7, xa_and1, xa_and255, xa_by_and, nI_m1, Nat.add_sub_cancel, Nat.reducePow, Nat.zero_add, Nat.add_zero, Nat.reduceAdd, Nat.reduceMul, Nat.reduceSub, xf_same, xq_ff, xq_fo, xf_1, xf_2, xs_1, xs_2, xs_same, xq_so, xj_1, xj_2, xj_same, xq_jo, xq_sa1, xq_same, xq_other, upd_s, oI_n, oI_s, xf_102_41 hF, xf_102_42 hF, xf_102_43 hF, xf_102_44 hF, xf_102_45 hF, xf_102_46 hF, so, g1', g4, g5, g6]
    first | refine by_iald (by first | exact rfl | assumption | exact ps_1 hpp | exact ps_2 hpp | exact ps_3 hpp | exact ps_4 hpp | exact ps_5 hpp | exact ps_6 hpp | exact ps_7 hpp | exact ps_8 hpp | exact ps_9 hpp | exact ps_10 hpp | exact ps_11 hpp | exact ps_15 hpp | exact ps_16 hpp | exact ps_17 hpp | exact ps_18 hpp | exact ps_19 hpp | exact ps_21 hpp | exact ps_22 hpp | exact ps_23 hpp | exact ps_24 hpp) ⟨by omega, by omega⟩ ?_ | refine by_tald rfl rfl ⟨by omega, by omega⟩ ?_
    refine by_iast (by first | exact rfl | assumption | exact ps_1 hpp | exact ps_2 hpp | exact ps_3 hpp | exact ps_4 hpp | exact ps_5 hpp | exact ps_6 hpp | exact ps_7 hpp | exact ps_8 hpp | exact ps_9 hpp | exact ps_10 hpp | exact ps_11 hpp | exact ps_15 hpp | exact ps_16 hpp | exact ps_17 hpp | exact ps_18 hpp | exact ps_19 hpp | exact ps_21 hpp | exact ps_22 hpp | exact ps_23 hpp | exact ps_24 hpp) ⟨by omega, by omega⟩ ?_
    refine by_aload_n rfl ?_
    refine by_getf cn_244 fl_12_103 (by first | exact rfl | assumption) (by decide) ?_
    refine by_iload_n rfl ?_
    refine by_aload_n rfl ?_
    refine by_getf cn_244 fl_12_103 (by first | exact rfl | assumption) (by decide) ?_
    refine by_iload_n rfl ?_
    simp (disch := first | exact Nat.ne_of_beq_eq_false rfl | exact rfl | omega) only [nI_add, xa_sub, xa_mul, pk_div, nm_mod, xa_shr, xa_and7, xa_and1, xa_and255, xa_by_and, nI_m1, Nat.add_sub_cancel, Nat.reducePow, Nat.zero_add, Nat.add_zero, Nat.reduceAdd, Nat.reduceMul, Nat.reduceSub, xf_same, xq_ff, xq_fo, xf_1, xf_2, xs_1, xs_2, xs_same, xq_so, xj_1, xj_2, xj_same, xq_jo, xq_sa1, xq_same, xq_other, upd_s, oI_n, oI_s, xf_102_41 hF, xf_102_42 hF, xf_102_43 hF, xf_102_44 hF, xf_102_45 hF, xf_102_46 hF, so, g1', g4, g5, g6]
    first | refine by_iald (by first | exact rfl | assumption | exact ps_1 hpp | exact ps_2 hpp | exact ps_3 hpp | exact ps_4 hpp | exact ps_5 hpp | exact ps_6 hpp | exact ps_7 hpp | exact ps_8 hpp | exact ps_9 hpp | exact ps_10 hpp | exact ps_11 hpp | exact ps_15 hpp | exact ps_16 hpp | exact ps_17 hpp | exact ps_18 hpp | exact ps_19 hpp | exact ps_21 hpp | exact ps_22 hpp | exact ps_23 hpp | exact ps_24 hpp) ⟨by omega, by omega⟩ ?_ | refine by_tald rfl rfl ⟨by omega, by omega⟩ ?_
    refine by_iast (by first | exact rfl | assumption | exact ps_1 hpp | exact ps_2 hpp | exact ps_3 hpp | exact ps_4 hpp | exact ps_5 hpp | exact ps_6 hpp | exact ps_7 hpp | exact ps_8 hpp | exact ps_9 hpp | exact ps_10 hpp | exact ps_11 hpp | exact ps_15 hpp | exact ps_16 hpp | exact ps_17 hpp | exact ps_18 hpp | exact ps_19 hpp | exact ps_21 hpp | exact ps_22 hpp | exact ps_23 hpp | exact ps_24 hpp) ⟨by omega, by omega⟩ ?_
    refine by_aload_n rfl ?_
    refine by_getf cn_244 fl_12_106 (by first | exact rfl | assumption) (by decide) ?_
    refine by_iload_n rfl ?_
    refine by_aload_n rfl ?_
    refine by_getf cn_244 fl_12_106 (by first | exact rfl | assumption) (by decide) ?_
    refine by_iload_n rfl ?_
    simp (disch := first | exact Nat.ne_of_beq_eq_false rfl | exact rfl | omega) only [nI_add, xa_sub, xa_mul, pk_div, nm_mod, xa_shr, xa_and7, xa_and1, xa_and255, xa_by_and, nI_m1, Nat.add_sub_cancel, Nat.reducePow, Nat.zero_add, Nat.add_zero, Nat.reduceAdd, Nat.reduceMul, Nat.reduceSub, xf_same, xq_ff, xq_fo, xf_1, xf_2, xs_1, xs_2, xs_same, xq_so, xj_1, xj_2, xj_same, xq_jo, xq_sa1, xq_same, xq_other, upd_s, oI_n, oI_s, xf_102_41 hF, xf_102_42 hF, xf_102_43 hF, xf_102_44 hF, xf_102_45 hF, xf_102_46 hF, so, g1', g4, g5, g6]
    first | refine by_iald (by first | exact rfl | assumption | exact ps_1 hpp | exact ps_2 hpp | exact ps_3 hpp | exact ps_4 hpp | exact ps_5 hpp | exact ps_6 hpp | exact ps_7 hpp | exact ps_8 hpp | exact ps_9 hpp | exact ps_10 hpp | exact ps_11 hpp | exact ps_15 hpp | exact ps_16 hpp | exact ps_17 hpp | exact ps_18 hpp | exact ps_19 hpp | exact ps_21 hpp | exact ps_22 hpp | exact ps_23 hpp | exact ps_24 hpp) ⟨by omega, by omega⟩ ?_ | refine by_tald rfl rfl ⟨by omega, by omega⟩ ?_
    refine by_iast (by first | exact rfl | assumption | exact ps_1 hpp | exact ps_2 hpp | exact ps_3 hpp | exact ps_4 hpp | exact ps_5 hpp | exact ps_6 hpp | exact ps_7 hpp | exact ps_8 hpp | exact ps_9 hpp | exact ps_10 hpp | exact ps_11 hpp | exact ps_15 hpp | exact ps_16 hpp | exact ps_17 hpp | exact ps_18 hpp | exact ps_19 hpp | exact ps_21 hpp | exact ps_22 hpp | exact ps_23 hpp | exact ps_24 hpp) ⟨by omega, by omega⟩ ?_
    refine by_aload_n rfl ?_
    refine by_iload_n rfl ?_
    simp (disch := first | exact Nat.ne_of_beq_eq_false rfl | exact rfl | omega) only [nI_add, xa_sub, xa_mul, pk_div, nm_mod, xa_shr, xa_and7, xa_and1, xa_and255, xa_by_and, nI_m1, Nat.add_sub_cancel, Nat.reducePow, Nat.zero_add, Nat.add_zero, Nat.reduceAdd, Nat.reduceMul, Nat.reduceSub, xf_same, xq_ff, xq_fo, xf_1, xf_2, xs_1, xs_2, xs_same, xq_so, xj_1, xj_2, xj_same, xq_jo, xq_sa1, xq_same, xq_other, upd_s, oI_n, oI_s, xv_0, xv_1, xv_2, xv_3, xm_p1, xm_p2, xq_fp, xq_fn, List.filter_nil, Nat.reduceBEq, Bool.not_true, Bool.not_false, Bool.and_true, Bool.and_false, Bool.false_and, Bool.true_and, if_true, if_false, Bool.false_eq_true, reduceIte, xc_i, xc_j, xc_r, xc_n, List.nil_append, List.cons_append, Option.toList_some, Option.toList_none, xf_102_41 hF, xf_102_42 hF, xf_102_43 hF, xf_102_44 hF, xf_102_45 hF, xf_102_46 hF, so, g1', g4, g5, g6]
    refine by_inv1 cn_244 lk_12_387 (by rw [xe_cnt]; decide) is_289 np_289 cn_289 (by first | exact rfl | assumption) (Nat.le_of_ble_eq_true rfl) ?_
    have := fin (-1) (-1) (fun hk => absurd hk (by omega))
    rw [e] at this
    refine this _ (fun h2 hI2 => ?_)
    exact xm_go_wk (by simp [Value.category]) (out h2 hI2)
  · have k1 : 1 ≤ K (y + 3200) := by omega
    obtain ⟨l1, l2⟩ := x1c k1
    obtain ⟨m1, m2⟩ := x2 k1
    obtain ⟨n1, n2⟩ := x7 k1
    have g2 : h'.1 130 (y + 3200) = nI (L (y + 3200)) := by rw [i2 130 _ (by decide) (by decide) (by omega)]; exact n1
    have g3 : h'.1 131 (y + 3200) = nI (R (y + 3200)) := by rw [i2 131 _ (by decide) (by decide) (by omega)]; exact n2
    have e0 : (K (y + 3200) + 1 = 1) = False := eq_false (by omega)
    have e0' : (K (y + 3200) = 0) = False := eq_false e
    with_reducible refine xm_go_blk b_X12_keepProgram_61 k_X12_keepProgram_61 ?_
    refine by_istore_n (by rw [ml_244]; decide) ?_
    refine by_aload_n rfl ?_
    refine by_getf cn_244 fl_12_91 (by first | exact rfl | assumption) (by decide) ?_
    refine by_iload_n rfl ?_
    simp (disch := first | exact Nat.ne_of_beq_eq_false rfl | exact rfl | omega) only [nI_add, xa_sub, xa_mul, pk_div, nm_mod, xa_shr, xa_and7, xa_and1, xa_and255, xa_by_and, nI_m1, Nat.add_sub_cancel, Nat.reducePow, Nat.zero_add, Nat.add_zero, Nat.reduceAdd, Nat.reduceMul, Nat.reduceSub, xf_same, xq_ff, xq_fo, xf_1, xf_2, xs_1, xs_2, xs_same, xq_so, xj_1, xj_2, xj_same, xq_jo, xq_sa1, xq_same, xq_other, upd_s, oI_n, oI_s, xf_102_41 hF, xf_102_42 hF, so, g1, g2, e0, e0']
    first | refine by_iald (by first | exact rfl | assumption | exact ps_1 hpp | exact ps_2 hpp | exact ps_3 hpp | exact ps_4 hpp | exact ps_5 hpp | exact ps_6 hpp | exact ps_7 hpp | exact ps_8 hpp | exact ps_9 hpp | exact ps_10 hpp | exact ps_11 hpp | exact ps_15 hpp | exact ps_16 hpp | exact ps_17 hpp | exact ps_18 hpp | exact ps_19 hpp | exact ps_21 hpp | exact ps_22 hpp | exact ps_23 hpp | exact ps_24 hpp) ⟨by omega, by omega⟩ ?_ | refine by_tald rfl rfl ⟨by omega, by omega⟩ ?_
    refine by_iconst ci_1 ?_
    refine by_ic_eq 76 rfl ?_
    simp (disch := first | exact Nat.ne_of_beq_eq_false rfl | exact rfl | omega) only [nI_add, xa_sub, xa_mul, pk_div, nm_mod, xa_shr, xa_and7, xa_and1, xa_and255, xa_by_and, nI_m1, Nat.add_sub_cancel, Nat.reducePow, Nat.zero_add, Nat.add_zero, Nat.reduceAdd, Nat.reduceMul, Nat.reduceSub, xf_same, xq_ff, xq_fo, xf_1, xf_2, xs_1, xs_2, xs_same, xq_so, xj_1, xj_2, xj_same, xq_jo, xq_sa1, xq_same, xq_other, upd_s, oI_n, oI_s, xv_0, xv_1, xv_2, xv_3, xm_p1, xm_p2, xq_fp, xq_fn, List.filter_nil, Nat.reduceBEq, Bool.not_true, Bool.not_false, Bool.and_true, Bool.and_false, Bool.false_and, Bool.true_and, if_true, if_false, Bool.false_eq_true, reduceIte, xc_i, xc_j, xc_r, xc_n, List.nil_append, List.cons_append, Option.toList_some, Option.toList_none, nI_ltJ, nI_leJ, nI_eqJ, nI_ltz, nI_gez, nI_gtz, nI_lez, nI_eqz, m1_ltz, m1_gez, true_imp_iff, false_imp_iff, true_and, and_true, ne_eq, not_false_eq_true, not_true_eq_false, Nat.reduceEqDiff, Nat.reduceLT, Nat.reduceLeDiff, xf_102_41 hF, xf_102_42 hF, so, g1, g2, e0, e0']
    with_reducible refine xm_go_blk b_X12_keepProgram_72 k_X12_keepProgram_72 ?_
    refine by_iconst ci_1 ?_
    refine by_goto 77 rfl ?_
    with_reducible refine xm_go_blk b_X12_keepProgram_77 k_X12_keepProgram_77 ?_
    refine by_istore_n (by rw [ml_244]; decide) ?_
    refine by_aload_n rfl ?_
    refine by_getf cn_244 fl_12_91 (by first | exact rfl | assumption) (by decide) ?_
    refine by_iload_n rfl ?_
    refine by_aload_n rfl ?_
    refine by_getf cn_244 fl_12_91 (by first | exact rfl | assumption) (by decide) ?_
    refine by_iload_n rfl ?_
    simp (disch := first | exact Nat.ne_of_beq_eq_false rfl | exact rfl | omega) only [nI_add, xa_sub, xa_mul, pk_div, nm_mod, xa_shr, xa_and7, xa_and1, xa_and255, xa_by_and, nI_m1, Nat.add_sub_cancel, Nat.reducePow, Nat.zero_add, Nat.add_zero, Nat.reduceAdd, Nat.reduceMul, Nat.reduceSub, xf_same, xq_ff, xq_fo, xf_1, xf_2, xs_1, xs_2, xs_same, xq_so, xj_1, xj_2, xj_same, xq_jo, xq_sa1, xq_same, xq_other, upd_s, oI_n, oI_s, xf_102_41 hF, xf_102_42 hF, so, g1, g2, e0, e0']
    first | refine by_iald (by first | exact rfl | assumption | exact ps_1 hpp | exact ps_2 hpp | exact ps_3 hpp | exact ps_4 hpp | exact ps_5 hpp | exact ps_6 hpp | exact ps_7 hpp | exact ps_8 hpp | exact ps_9 hpp | exact ps_10 hpp | exact ps_11 hpp | exact ps_15 hpp | exact ps_16 hpp | exact ps_17 hpp | exact ps_18 hpp | exact ps_19 hpp | exact ps_21 hpp | exact ps_22 hpp | exact ps_23 hpp | exact ps_24 hpp) ⟨by omega, by omega⟩ ?_ | refine by_tald rfl rfl ⟨by omega, by omega⟩ ?_
    refine by_iast (by first | exact rfl | assumption | exact ps_1 hpp | exact ps_2 hpp | exact ps_3 hpp | exact ps_4 hpp | exact ps_5 hpp | exact ps_6 hpp | exact ps_7 hpp | exact ps_8 hpp | exact ps_9 hpp | exact ps_10 hpp | exact ps_11 hpp | exact ps_15 hpp | exact ps_16 hpp | exact ps_17 hpp | exact ps_18 hpp | exact ps_19 hpp | exact ps_21 hpp | exact ps_22 hpp | exact ps_23 hpp | exact ps_24 hpp) ⟨by omega, by omega⟩ ?_
    refine by_aload_n rfl ?_
    refine by_getf cn_244 fl_12_94 (by first | exact rfl | assumption) (by decide) ?_
    refine by_iload_n rfl ?_
    refine by_iload_n rfl ?_
    refine by_if_eq 112 rfl ?_
    simp (disch := first | exact Nat.ne_of_beq_eq_false rfl | exact rfl | omega) only [nI_add, xa_sub, xa_mul, pk_div, nm_mod, xa_shr, xa_and7, xa_and1, xa_and255, xa_by_and, nI_m1, Nat.add_sub_cancel, Nat.reducePow, Nat.zero_add, Nat.add_zero, Nat.reduceAdd, Nat.reduceMul, Nat.reduceSub, xf_same, xq_ff, xq_fo, xf_1, xf_2, xs_1, xs_2, xs_same, xq_so, xj_1, xj_2, xj_same, xq_jo, xq_sa1, xq_same, xq_other, upd_s, oI_n, oI_s, xv_0, xv_1, xv_2, xv_3, xm_p1, xm_p2, xq_fp, xq_fn, List.filter_nil, Nat.reduceBEq, Bool.not_true, Bool.not_false, Bool.and_true, Bool.and_false, Bool.false_and, Bool.true_and, if_true, if_false, Bool.false_eq_true, reduceIte, xc_i, xc_j, xc_r, xc_n, List.nil_append, List.cons_append, Option.toList_some, Option.toList_none, nI_ltJ, nI_leJ, nI_eqJ, nI_ltz, nI_gez, nI_gtz, nI_lez, nI_eqz, m1_ltz, m1_gez, true_imp_iff, false_imp_iff, true_and, and_true, ne_eq, not_false_eq_true, not_true_eq_false, Nat.reduceEqDiff, Nat.reduceLT, Nat.reduceLeDiff, xf_102_41 hF, xf_102_42 hF, so, g1, g2, e0, e0']
    with_reducible refine xm_go_blk b_X12_keepProgram_99 k_X12_keepProgram_99 ?_
    refine by_aload_n rfl ?_
    refine by_aload_n rfl ?_
    refine by_getf cn_244 fl_12_94 (by first | exact rfl | assumption) (by decide) ?_
    refine by_iload_n rfl ?_
    simp (disch := first | exact Nat.ne_of_beq_eq_false rfl | exact rfl | omega) only [nI_add, xa_sub, xa_mul, pk_div, nm_mod, xa_shr, xa_and7, xa_and1, xa_and255, xa_by_and, nI_m1, Nat.add_sub_cancel, Nat.reducePow, Nat.zero_add, Nat.add_zero, Nat.reduceAdd, Nat.reduceMul, Nat.reduceSub, xf_same, xq_ff, xq_fo, xf_1, xf_2, xs_1, xs_2, xs_same, xq_so, xj_1, xj_2, xj_same, xq_jo, xq_sa1, xq_same, xq_other, upd_s, oI_n, oI_s, xf_102_41 hF, xf_102_42 hF, so, g1, g2, e0, e0']
    first | refine by_iald (by first | exact rfl | assumption | exact ps_1 hpp | exact ps_2 hpp | exact ps_3 hpp | exact ps_4 hpp | exact ps_5 hpp | exact ps_6 hpp | exact ps_7 hpp | exact ps_8 hpp | exact ps_9 hpp | exact ps_10 hpp | exact ps_11 hpp | exact ps_15 hpp | exact ps_16 hpp | exact ps_17 hpp | exact ps_18 hpp | exact ps_19 hpp | exact ps_21 hpp | exact ps_22 hpp | exact ps_23 hpp | exact ps_24 hpp) ⟨by omega, by omega⟩ ?_ | refine by_tald rfl rfl ⟨by omega, by omega⟩ ?_
    simp (disch := first | exact Nat.ne_of_beq_eq_false rfl | exact rfl | omega) only [nI_add, xa_sub, xa_mul, pk_div, nm_mod, xa_shr, xa_and7, xa_and1, xa_and255, xa_by_and, nI_m1, Nat.add_sub_cancel, Nat.reducePow, Nat.zero_add, Nat.add_zero, Nat.reduceAdd, Nat.reduceMul, Nat.reduceSub, xf_same, xq_ff, xq_fo, xf_1, xf_2, xs_1, xs_2, xs_same, xq_so, xj_1, xj_2, xj_same, xq_jo, xq_sa1, xq_same, xq_other, upd_s, oI_n, oI_s, xv_0, xv_1, xv_2, xv_3, xm_p1, xm_p2, xq_fp, xq_fn, List.filter_nil, Nat.reduceBEq, Bool.not_true, Bool.not_false, Bool.and_true, Bool.and_false, Bool.false_and, Bool.true_and, if_true, if_false, Bool.false_eq_true, reduceIte, xc_i, xc_j, xc_r, xc_n, List.nil_append, List.cons_append, Option.toList_some, Option.toList_none, xf_102_41 hF, xf_102_42 hF, so, g1, g2, e0, e0']
    refine by_inv1 cn_244 lk_12_384 (by rw [xe_cnt]; decide) is_245 np_245 cn_245 (by first | exact rfl | assumption) (Nat.le_of_ble_eq_true rfl) ?_
    refine sp_keptType m1 (by omega) ?_
    with_reducible refine xm_go_blk b_X12_keepProgram_109 k_X12_keepProgram_109 ?_
    refine by_goto 113 rfl ?_
    with_reducible refine xm_go_blk b_X12_keepProgram_113 k_X12_keepProgram_113 ?_
    refine by_iast (by first | exact rfl | assumption | exact ps_1 hpp | exact ps_2 hpp | exact ps_3 hpp | exact ps_4 hpp | exact ps_5 hpp | exact ps_6 hpp | exact ps_7 hpp | exact ps_8 hpp | exact ps_9 hpp | exact ps_10 hpp | exact ps_11 hpp | exact ps_15 hpp | exact ps_16 hpp | exact ps_17 hpp | exact ps_18 hpp | exact ps_19 hpp | exact ps_21 hpp | exact ps_22 hpp | exact ps_23 hpp | exact ps_24 hpp) ⟨by omega, by omega⟩ ?_
    refine by_aload_n rfl ?_
    refine by_getf cn_244 fl_12_97 (by first | exact rfl | assumption) (by decide) ?_
    refine by_iload_n rfl ?_
    refine by_iload_n rfl ?_
    refine by_if_eq 136 rfl ?_
    simp (disch := first | exact Nat.ne_of_beq_eq_false rfl | exact rfl | omega) only [nI_add, xa_sub, xa_mul, pk_div, nm_mod, xa_shr, xa_and7, xa_and1, xa_and255, xa_by_and, nI_m1, Nat.add_sub_cancel, Nat.reducePow, Nat.zero_add, Nat.add_zero, Nat.reduceAdd, Nat.reduceMul, Nat.reduceSub, xf_same, xq_ff, xq_fo, xf_1, xf_2, xs_1, xs_2, xs_same, xq_so, xj_1, xj_2, xj_same, xq_jo, xq_sa1, xq_same, xq_other, upd_s, oI_n, oI_s, xv_0, xv_1, xv_2, xv_3, xm_p1, xm_p2, xq_fp, xq_fn, List.filter_nil, Nat.reduceBEq, Bool.not_true, Bool.not_false, Bool.and_true, Bool.and_false, Bool.false_and, Bool.true_and, if_true, if_false, Bool.false_eq_true, reduceIte, xc_i, xc_j, xc_r, xc_n, List.nil_append, List.cons_append, Option.toList_some, Option.toList_none, nI_ltJ, nI_leJ, nI_eqJ, nI_ltz, nI_gez, nI_gtz, nI_lez, nI_eqz, m1_ltz, m1_gez, true_imp_iff, false_imp_iff, true_and, and_true, ne_eq, not_false_eq_true, not_true_eq_false, Nat.reduceEqDiff, Nat.reduceLT, Nat.reduceLeDiff, xf_102_43 hF, so, g3]
    with_reducible refine xm_go_blk b_X12_keepProgram_123 k_X12_keepProgram_123 ?_
    refine by_aload_n rfl ?_
    refine by_aload_n rfl ?_
    refine by_getf cn_244 fl_12_97 (by first | exact rfl | assumption) (by decide) ?_
    refine by_iload_n rfl ?_
    simp (disch := first | exact Nat.ne_of_beq_eq_false rfl | exact rfl | omega) only [nI_add, xa_sub, xa_mul, pk_div, nm_mod, xa_shr, xa_and7, xa_and1, xa_and255, xa_by_and, nI_m1, Nat.add_sub_cancel, Nat.reducePow, Nat.zero_add, Nat.add_zero, Nat.reduceAdd, Nat.reduceMul, Nat.reduceSub, xf_same, xq_ff, xq_fo, xf_1, xf_2, xs_1, xs_2, xs_same, xq_so, xj_1, xj_2, xj_same, xq_jo, xq_sa1, xq_same, xq_other, upd_s, oI_n, oI_s, xf_102_43 hF, so, g3]
    first | refine by_iald (by first | exact rfl | assumption | exact ps_1 hpp | exact ps_2 hpp | exact ps_3 hpp | exact ps_4 hpp | exact ps_5 hpp | exact ps_6 hpp | exact ps_7 hpp | exact ps_8 hpp | exact ps_9 hpp | exact ps_10 hpp | exact ps_11 hpp | exact ps_15 hpp | exact ps_16 hpp | exact ps_17 hpp | exact ps_18 hpp | exact ps_19 hpp | exact ps_21 hpp | exact ps_22 hpp | exact ps_23 hpp | exact ps_24 hpp) ⟨by omega, by omega⟩ ?_ | refine by_tald rfl rfl ⟨by omega, by omega⟩ ?_
    simp (disch := first | exact Nat.ne_of_beq_eq_false rfl | exact rfl | omega) only [nI_add, xa_sub, xa_mul, pk_div, nm_mod, xa_shr, xa_and7, xa_and1, xa_and255, xa_by_and, nI_m1, Nat.add_sub_cancel, Nat.reducePow, Nat.zero_add, Nat.add_zero, Nat.reduceAdd, Nat.reduceMul, Nat.reduceSub, xf_same, xq_ff, xq_fo, xf_1, xf_2, xs_1, xs_2, xs_same, xq_so, xj_1, xj_2, xj_same, xq_jo, xq_sa1, xq_same, xq_other, upd_s, oI_n, oI_s, xv_0, xv_1, xv_2, xv_3, xm_p1, xm_p2, xq_fp, xq_fn, List.filter_nil, Nat.reduceBEq, Bool.not_true, Bool.not_false, Bool.and_true, Bool.and_false, Bool.false_and, Bool.true_and, if_true, if_false, Bool.false_eq_true, reduceIte, xc_i, xc_j, xc_r, xc_n, List.nil_append, List.cons_append, Option.toList_some, Option.toList_none, xf_102_43 hF, so, g3]
    refine by_inv1 cn_244 lk_12_384 (by rw [xe_cnt]; decide) is_245 np_245 cn_245 (by first | exact rfl | assumption) (Nat.le_of_ble_eq_true rfl) ?_
    refine sp_keptType m2 (by omega) ?_
    with_reducible refine xm_go_blk b_X12_keepProgram_133 k_X12_keepProgram_133 ?_
    refine by_goto 137 rfl ?_
    with_reducible refine xm_go_blk b_X12_keepProgram_137 k_X12_keepProgram_137 ?_
    refine by_iast (by first | exact rfl | assumption | exact ps_1 hpp | exact ps_2 hpp | exact ps_3 hpp | exact ps_4 hpp | exact ps_5 hpp | exact ps_6 hpp | exact ps_7 hpp | exact ps_8 hpp | exact ps_9 hpp | exact ps_10 hpp | exact ps_11 hpp | exact ps_15 hpp | exact ps_16 hpp | exact ps_17 hpp | exact ps_18 hpp | exact ps_19 hpp | exact ps_21 hpp | exact ps_22 hpp | exact ps_23 hpp | exact ps_24 hpp) ⟨by omega, by omega⟩ ?_
    refine by_aload_n rfl ?_
    refine by_getf cn_244 fl_12_100 (by first | exact rfl | assumption) (by decide) ?_
    refine by_iload_n rfl ?_
    refine by_aload_n rfl ?_
    refine by_getf cn_244 fl_12_100 (by first | exact rfl | assumption) (by decide) ?_
    refine by_iload_n rfl ?_
    simp (disch := first | exact Nat.ne_of_beq_eq_false rfl | exact rfl | omega) only [nI_add, xa_sub, xa_mul, pk_div, nm_mod, xa_shr, xa_and7, xa_and1, xa_and255, xa_by_and, nI_m1, Nat.add_sub_cancel, Nat.reducePow, Nat.zero_add, Nat.add_zero, Nat.reduceAdd, Nat.reduceMul, Nat.reduceSub, xf_same, xq_ff, xq_fo, xf_1, xf_2, xs_1, xs_2, xs_same, xq_so, xj_1, xj_2, xj_same, xq_jo, xq_sa1, xq_same, xq_other, upd_s, oI_n, oI_s, xf_102_44 hF, xf_102_45 hF, xf_102_46 hF, so, g4, g5, g6]
    first | refine by_iald (by first | exact rfl | assumption | exact ps_1 hpp | exact ps_2 hpp | exact ps_3 hpp | exact ps_4 hpp | exact ps_5 hpp | exact ps_6 hpp | exact ps_7 hpp | exact ps_8 hpp | exact ps_9 hpp | exact ps_10 hpp | exact ps_11 hpp | exact ps_15 hpp | exact ps_16 hpp | exact ps_17 hpp | exact ps_18 hpp | exact ps_19 hpp | exact ps_21 hpp | exact ps_22 hpp | exact ps_23 hpp | exact ps_24 hpp) ⟨by omega, by omega⟩ ?_ | refine by_tald rfl rfl ⟨by omega, by omega⟩ ?_
    refine by_iast (by first | exact rfl | assumption | exact ps_1 hpp | exact ps_2 hpp | exact ps_3 hpp | exact ps_4 hpp | exact ps_5 hpp | exact ps_6 hpp | exact ps_7 hpp | exact ps_8 hpp | exact ps_9 hpp | exact ps_10 hpp | exact ps_11 hpp | exact ps_15 hpp | exact ps_16 hpp | exact ps_17 hpp | exact ps_18 hpp | exact ps_19 hpp | exact ps_21 hpp | exact ps_22 hpp | exact ps_23 hpp | exact ps_24 hpp) ⟨by omega, by omega⟩ ?_
    refine by_aload_n rfl ?_
    refine by_getf cn_244 fl_12_103 (by first | exact rfl | assumption) (by decide) ?_
    refine by_iload_n rfl ?_
    refine by_aload_n rfl ?_
    refine by_getf cn_244 fl_12_103 (by first | exact rfl | assumption) (by decide) ?_
    refine by_iload_n rfl ?_
    simp (disch := first | exact Nat.ne_of_beq_eq_false rfl | exact rfl | omega) only [nI_add, xa_sub, xa_mul, pk_div, nm_mod, xa_shr, xa_and7, xa_and1, xa_and255, xa_by_and, nI_m1, Nat.add_sub_cancel, Nat.reducePow, Nat.zero_add, Nat.add_zero, Nat.reduceAdd, Nat.reduceMul, Nat.reduceSub, xf_same, xq_ff, xq_fo, xf_1, xf_2, xs_1, xs_2, xs_same, xq_so, xj_1, xj_2, xj_same, xq_jo, xq_sa1, xq_same, xq_other, upd_s, oI_n, oI_s, xf_102_44 hF, xf_102_45 hF, xf_102_46 hF, so, g4, g5, g6]
    first | refine by_iald (by first | exact rfl | assumption | exact ps_1 hpp | exact ps_2 hpp | exact ps_3 hpp | exact ps_4 hpp | exact ps_5 hpp | exact ps_6 hpp | exact ps_7 hpp | exact ps_8 hpp | exact ps_9 hpp | exact ps_10 hpp | exact ps_11 hpp | exact ps_15 hpp | exact ps_16 hpp | exact ps_17 hpp | exact ps_18 hpp | exact ps_19 hpp | exact ps_21 hpp | exact ps_22 hpp | exact ps_23 hpp | exact ps_24 hpp) ⟨by omega, by omega⟩ ?_ | refine by_tald rfl rfl ⟨by omega, by omega⟩ ?_
    refine by_iast (by first | exact rfl | assumption | exact ps_1 hpp | exact ps_2 hpp | exact ps_3 hpp | exact ps_4 hpp | exact ps_5 hpp | exact ps_6 hpp | exact ps_7 hpp | exact ps_8 hpp | exact ps_9 hpp | exact ps_10 hpp | exact ps_11 hpp | exact ps_15 hpp | exact ps_16 hpp | exact ps_17 hpp | exact ps_18 hpp | exact ps_19 hpp | exact ps_21 hpp | exact ps_22 hpp | exact ps_23 hpp | exact ps_24 hpp) ⟨by omega, by omega⟩ ?_
    refine by_aload_n rfl ?_
    refine by_getf cn_244 fl_12_106 (by first | exact rfl | assumption) (by decide) ?_
    refine by_iload_n rfl ?_
    refine by_aload_n rfl ?_
    refine by_getf cn_244 fl_12_106 (by first | exact rfl | assumption) (by decide) ?_
    refine by_iload_n rfl ?_
    simp (disch := first | exact Nat.ne_of_beq_eq_false rfl | exact rfl | omega) only [nI_add, xa_sub, xa_mul, pk_div, nm_mod, xa_shr, xa_and7, xa_and1, xa_and255, xa_by_and, nI_m1, Nat.add_sub_cancel, Nat.reducePow, Nat.zero_add, Nat.add_zero, Nat.reduceAdd, Nat.reduceMul, Nat.reduceSub, xf_same, xq_ff, xq_fo, xf_1, xf_2, xs_1, xs_2, xs_same, xq_so, xj_1, xj_2, xj_same, xq_jo, xq_sa1, xq_same, xq_other, upd_s, oI_n, oI_s, xf_102_44 hF, xf_102_45 hF, xf_102_46 hF, so, g4, g5, g6]
    first | refine by_iald (by first | exact rfl | assumption | exact ps_1 hpp | exact ps_2 hpp | exact ps_3 hpp | exact ps_4 hpp | exact ps_5 hpp | exact ps_6 hpp | exact ps_7 hpp | exact ps_8 hpp | exact ps_9 hpp | exact ps_10 hpp | exact ps_11 hpp | exact ps_15 hpp | exact ps_16 hpp | exact ps_17 hpp | exact ps_18 hpp | exact ps_19 hpp | exact ps_21 hpp | exact ps_22 hpp | exact ps_23 hpp | exact ps_24 hpp) ⟨by omega, by omega⟩ ?_ | refine by_tald rfl rfl ⟨by omega, by omega⟩ ?_
    refine by_iast (by first | exact rfl | assumption | exact ps_1 hpp | exact ps_2 hpp | exact ps_3 hpp | exact ps_4 hpp | exact ps_5 hpp | exact ps_6 hpp | exact ps_7 hpp | exact ps_8 hpp | exact ps_9 hpp | exact ps_10 hpp | exact ps_11 hpp | exact ps_15 hpp | exact ps_16 hpp | exact ps_17 hpp | exact ps_18 hpp | exact ps_19 hpp | exact ps_21 hpp | exact ps_22 hpp | exact ps_23 hpp | exact ps_24 hpp) ⟨by omega, by omega⟩ ?_
    refine by_aload_n rfl ?_
    refine by_iload_n rfl ?_
    simp (disch := first | exact Nat.ne_of_beq_eq_false rfl | exact rfl | omega) only [nI_add, xa_sub, xa_mul, pk_div, nm_mod, xa_shr, xa_and7, xa_and1, xa_and255, xa_by_and, nI_m1, Nat.add_sub_cancel, Nat.reducePow, Nat.zero_add, Nat.add_zero, Nat.reduceAdd, Nat.reduceMul, Nat.reduceSub, xf_same, xq_ff, xq_fo, xf_1, xf_2, xs_1, xs_2, xs_same, xq_so, xj_1, xj_2, xj_same, xq_jo, xq_sa1, xq_same, xq_other, upd_s, oI_n, oI_s, xv_0, xv_1, xv_2, xv_3, xm_p1, xm_p2, xq_fp, xq_fn, List.filter_nil, Nat.reduceBEq, Bool.not_true, Bool.not_false, Bool.and_true, Bool.and_false, Bool.false_and, Bool.true_and, if_true, if_false, Bool.false_eq_true, reduceIte, xc_i, xc_j, xc_r, xc_n, List.nil_append, List.cons_append, Option.toList_some, Option.toList_none, xf_102_44 hF, xf_102_45 hF, xf_102_46 hF, so, g4, g5, g6]
    refine by_inv1 cn_244 lk_12_387 (by rw [xe_cnt]; decide) is_289 np_289 cn_289 (by first | exact rfl | assumption) (Nat.le_of_ble_eq_true rfl) ?_
    refine fin _ _ (fun _ => ⟨rfl, rfl⟩) _ (fun h2 hI2 => ?_)
    exact xm_go_wk (by simp [Value.category]) (out h2 hI2)
theorem ky_48 (hF : XF h) (hT : mtT h cn tr K L R) (hcn : cn ≤ 6400) (hgo : ∀ h', kyI h h' tr K L R (cn - 3200) → xm_go (XE sc) (xm_T (XE sc) (d + 4)) 244 post 185 [(0, .ref 102)] [] h') :
    ∀ (j y : Nat) (h' : xm_H), y + 3200 + j = cn → kyI h h' tr K L R y → xm_go (XE sc) (xm_T (XE sc) (d + 4)) 244 post 48 [(1, .int (nI (y + 3200))), (0, .ref 102)] [] h' := by
  intro j
  induction j with
  | zero =>
    intro y h' hy hI
    have e2 : h'.2.2 102 40 = .int (nI cn) := by rw [hI.1.2.2 _ _ (by simp)]; exact hT.1
    with_reducible refine xm_go_blk b_X12_keepProgram_48 k_X12_keepProgram_48 ?_
    refine by_iload_n rfl ?_
    refine by_aload_n rfl ?_
    refine by_getf cn_244 fl_12_262 (by first | exact rfl | assumption) (by decide) ?_
    simp (disch := first | exact Nat.ne_of_beq_eq_false rfl | exact rfl | omega) only [nI_add, xa_sub, xa_mul, pk_div, nm_mod, xa_shr, xa_and7, xa_and1, xa_and255, xa_by_and, nI_m1, Nat.add_sub_cancel, Nat.reducePow, Nat.zero_add, Nat.add_zero, Nat.reduceAdd, Nat.reduceMul, Nat.reduceSub, xf_same, xq_ff, xq_fo, xf_1, xf_2, xs_1, xs_2, xs_same, xq_so, xj_1, xj_2, xj_same, xq_jo, xq_sa1, xq_same, xq_other, upd_s, oI_n, oI_s, e2]
    refine by_ic_ge 185 rfl ?_
    simp (disch := first | exact Nat.ne_of_beq_eq_false rfl | exact rfl | omega) only [nI_add, xa_sub, xa_mul, pk_div, nm_mod, xa_shr, xa_and7, xa_and1, xa_and255, xa_by_and, nI_m1, Nat.add_sub_cancel, Nat.reducePow, Nat.zero_add, Nat.add_zero, Nat.reduceAdd, Nat.reduceMul, Nat.reduceSub, xf_same, xq_ff, xq_fo, xf_1, xf_2, xs_1, xs_2, xs_same, xq_so, xj_1, xj_2, xj_same, xq_jo, xq_sa1, xq_same, xq_other, upd_s, oI_n, oI_s, xv_0, xv_1, xv_2, xv_3, xm_p1, xm_p2, xq_fp, xq_fn, List.filter_nil, Nat.reduceBEq, Bool.not_true, Bool.not_false, Bool.and_true, Bool.and_false, Bool.false_and, Bool.true_and, if_true, if_false, Bool.false_eq_true, reduceIte, xc_i, xc_j, xc_r, xc_n, List.nil_append, List.cons_append, Option.toList_some, Option.toList_none, nI_ltJ, nI_leJ, nI_eqJ, nI_ltz, nI_gez, nI_gtz, nI_lez, nI_eqz, m1_ltz, m1_gez, true_imp_iff, false_imp_iff, true_and, and_true, ne_eq, not_false_eq_true, not_true_eq_false, Nat.reduceEqDiff, Nat.reduceLT, Nat.reduceLeDiff, e2]
    refine ⟨fun c48 => ?_, fun c => absurd (by omega) c⟩
    exact xm_go_wk (by simp [Value.category]) (hgo h' (by rw [show cn - 3200 = y by omega]; exact hI))
  | succ j ih =>
    intro y h' hy hI
    have F1 : XF h' := Fr_XF hF hI.1 (by decide +kernel)
    have e2 : h'.2.2 102 40 = .int (nI cn) := by rw [hI.1.2.2 _ _ (by simp)]; exact hT.1
    with_reducible refine xm_go_blk b_X12_keepProgram_48 k_X12_keepProgram_48 ?_
    refine by_iload_n rfl ?_
    refine by_aload_n rfl ?_
    refine by_getf cn_244 fl_12_262 (by first | exact rfl | assumption) (by decide) ?_
    simp (disch := first | exact Nat.ne_of_beq_eq_false rfl | exact rfl | omega) only [nI_add, xa_sub, xa_mul, pk_div, nm_mod, xa_shr, xa_and7, xa_and1, xa_and255, xa_by_and, nI_m1, Nat.add_sub_cancel, Nat.reducePow, Nat.zero_add, Nat.add_zero, Nat.reduceAdd, Nat.reduceMul, Nat.reduceSub, xf_same, xq_ff, xq_fo, xf_1, xf_2, xs_1, xs_2, xs_same, xq_so, xj_1, xj_2, xj_same, xq_jo, xq_sa1, xq_same, xq_other, upd_s, oI_n, oI_s, e2]
    refine by_ic_ge 185 rfl ?_
    simp (disch := first | exact Nat.ne_of_beq_eq_false rfl | exact rfl | omega) only [nI_add, xa_sub, xa_mul, pk_div, nm_mod, xa_shr, xa_and7, xa_and1, xa_and255, xa_by_and, nI_m1, Nat.add_sub_cancel, Nat.reducePow, Nat.zero_add, Nat.add_zero, Nat.reduceAdd, Nat.reduceMul, Nat.reduceSub, xf_same, xq_ff, xq_fo, xf_1, xf_2, xs_1, xs_2, xs_same, xq_so, xj_1, xj_2, xj_same, xq_jo, xq_sa1, xq_same, xq_other, upd_s, oI_n, oI_s, xv_0, xv_1, xv_2, xv_3, xm_p1, xm_p2, xq_fp, xq_fn, List.filter_nil, Nat.reduceBEq, Bool.not_true, Bool.not_false, Bool.and_true, Bool.and_false, Bool.false_and, Bool.true_and, if_true, if_false, Bool.false_eq_true, reduceIte, xc_i, xc_j, xc_r, xc_n, List.nil_append, List.cons_append, Option.toList_some, Option.toList_none, nI_ltJ, nI_leJ, nI_eqJ, nI_ltz, nI_gez, nI_gtz, nI_lez, nI_eqz, m1_ltz, m1_gez, true_imp_iff, false_imp_iff, true_and, and_true, ne_eq, not_false_eq_true, not_true_eq_false, Nat.reduceEqDiff, Nat.reduceLT, Nat.reduceLeDiff, e2]
    refine ⟨fun c => absurd c (by omega), fun c48 => ?_⟩
    exact xm_go_wk (by simp [Value.category]) (ky_1 F1 hT hcn (by omega) hI (fun h2 hI2 => ih (y + 1) h2 (by omega) hI2))
end KP
