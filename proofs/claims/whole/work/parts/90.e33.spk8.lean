/-! ===== speak: all lines; the reference's ===== -/
def spL (q : PgD) : Nat → List Nat
  | 0 => []
  | n + 1 => spL q n ++ lnT q n
def spT (q : PgD) : List Nat := spL q q.2.1.length
theorem spL_le (q : PgD) {n : Nat} : ∀ m, n ≤ m → (spL q n).length ≤ (spL q m).length := by
  intro m hm
  induction m with
  | zero =>
    have : n = 0 := by omega
    subst this
    exact Nat.le_refl _
  | succ m ih =>
    by_cases e : n = m + 1
    · subst e; exact Nat.le_refl _
    · have := ih (by omega)
      rw [spL, List.length_append]
      omega
theorem wtT_lt (bl : List Nat) (k : Nat) : ∀ i, ∀ x ∈ wtT bl k i, x < 256
  | 0, x, hx => nomatch hx
  | i + 1, x, hx => by
    rw [wtT] at hx
    rcases List.mem_append.mp hx with h | h
    · exact wtT_lt bl k i x h
    · have hb : by_bit bl (k + i) < 2 := by_bit_lt _ _
      simp only [List.mem_singleton] at h
      omega
theorem hdT_lt (x : Nat → Int32) : ∀ i, ∀ y ∈ hdT x i, y < 256
  | 0, y, hy => nomatch hy
  | i + 1, y, hy => by
    rw [hdT] at hy
    rcases List.mem_append.mp hy with h | h
    · exact hdT_lt x i y h
    · simp only [List.mem_singleton] at h
      have h16 : hxD (x (i / 8)) (28 - 4 * (i % 8)) < 16 := Nat.mod_lt _ (by decide)
      rw [h]
      unfold dgt
      split <;> omega
theorem wdT_lt : ∀ c, c < 13 → ∀ x ∈ wdT c (wdE c), x < 256 := by decide +kernel
theorem lnC_lt {o : Option Nat} (ho : ∀ x, o = some x → x < 1000) : ∀ x ∈ lnC o, x < 256 := by
  intro x hx
  cases o with
  | none => exact nomatch hx
  | some y =>
    rcases List.mem_cons.mp hx with rfl | h
    · decide
    · rcases List.mem_cons.mp h with rfl | h
      · decide
      · exact nmT_lt (ho y rfl) x h
theorem lnX_lt {q : PgD} {n : Nat} (hn : pNu q.2.1 n < 1000) : ∀ x ∈ lnX q n, x < 256 := by
  intro x hx
  unfold lnX at hx
  split at hx
  · rcases List.mem_cons.mp hx with rfl | h
    · decide
    · split at h
      · simp only [List.mem_singleton] at h
        omega
      · exact wtT_lt _ _ _ x h
  · rcases List.mem_cons.mp hx with rfl | h
    · decide
    · exact hdT_lt _ _ x h
  · rcases List.mem_cons.mp hx with rfl | h
    · decide
    · exact nmT_lt hn x h
  · exact nomatch hx
theorem lnT_lt {q : PgD} {n : Nat} (ho : psOK q.2.1) (hl : q.2.1.length ≤ 400) (hn : n < q.2.1.length) : ∀ x ∈ lnT q n, x < 256 := by
  intro x hx
  obtain ⟨a1, _, _, a4, a5, a6, _⟩ := ho n hn
  unfold lnT at hx
  rcases List.mem_append.mp hx with h | h
  · rcases List.mem_cons.mp h with rfl | h
    · decide
    · exact nmT_lt (by omega) x h
  rcases List.mem_append.mp h with h | h
  · simp only [List.mem_cons, List.not_mem_nil, or_false] at h
    omega
  rcases List.mem_append.mp h with h | h
  · exact wdT_lt _ (Nat.lt_succ_of_le a1) x h
  rcases List.mem_append.mp h with h | h
  · exact lnC_lt (fun y hy => by have : y < n := a4 y hy; omega) x h
  rcases List.mem_append.mp h with h | h
  · exact lnC_lt (fun y hy => by have : y < n := a5 y hy; omega) x h
  rcases List.mem_append.mp h with h | h
  · exact lnX_lt (Nat.lt_of_le_of_lt a6 (by decide)) x h
  · simp only [List.mem_singleton] at h
    omega
theorem spL_lt {q : PgD} (ho : psOK q.2.1) (hl : q.2.1.length ≤ 400) : ∀ n, n ≤ q.2.1.length → ∀ x ∈ spL q n, x < 256
  | 0, _, x, hx => nomatch hx
  | n + 1, hn, x, hx => by
    rw [spL] at hx
    rcases List.mem_append.mp hx with h | h
    · exact spL_lt ho hl n (by omega) x h
    · exact lnT_lt ho hl (by omega) x h
theorem w8_le {l : List Nat} {ps : List pr_D} {a k b : Nat} {S T : Nat → Ty} (hG : LdG l ps a 0 S T) (hk : pr_nat (by_bit l) (8 * l.length) a = .ok (k, b)) {n : Nat} (hn : n ≤ ps.length) : wtB (l, ps, a, S, T) + wsum (pC ps) T n ≤ 8 * l.length := by
  have hw := (LdG_0 hG).2.2.2.2
  unfold wf at hw
  rw [wtB_e hk]
  simp only [hk] at hw
  split at hw
  · cases hw
  · split at hw
    · cases hw
    · rename_i h1 h2
      have h3 := wsum_le2 (cd := pC ps) (T := T) (n := n) ps.length hn
      omega
section SK
variable {sc : xm_Sc} {d : Nat} {o : Option PgD} {h : xm_H} {post : xm_Po}
theorem sp_mspeak (hF : XF h) (hP : mPg h o)
    (hA : o = none → post (some (.int (nI 0))) (xm_sf h 102 0 (.int (nI 1))))
    (hL : ∀ q h', o = some q → 8192 < (spT q).length → Fr [147] [(102, 0), (102, 61)] h h' → h'.2.2 102 0 = .int (nI 0) → post (some (.int (-1))) h')
    (hC : ∀ q h', o = some q → (spT q).length ≤ 8192 → Fr [104, 147] [(102, 0), (102, 4), (102, 61)] h h' → h'.2.2 102 0 = .int (nI 0) → mrow h' 104 (spT q) → h'.2.2 102 4 = .int (nI (spT q).length) → post (some (.int (nI (spT q).length))) h') :
    xm_T (XE sc) (d + 6) 296 [.ref 102] h post := by
  refine xq_in rfl ?_
  simp only [xq_a0, xq_aI, xq_aJ, xq_aR, Nat.reduceAdd]
  cases o with
  | none =>
    have h0 : h.2.2 102 19 = .int (nI 0) := hP.1
    with_reducible refine xm_go_blk b_X12_speak_0 k_X12_speak_0 ?_
    refine by_aload_n rfl ?_
    refine by_aload_n rfl ?_
    refine by_getf cn_296 fl_12_378 (by first | exact rfl | assumption) (by decide) ?_
    simp (disch := first | exact Nat.ne_of_beq_eq_false rfl | exact rfl | omega) only [nI_add, xa_sub, xa_mul, pk_div, nm_mod, xa_shr, xa_and7, xa_and1, xa_and255, xa_by_and, nI_m1, Nat.add_sub_cancel, Nat.reducePow, Nat.zero_add, Nat.add_zero, Nat.reduceAdd, Nat.reduceMul, Nat.reduceSub, xf_same, xq_ff, xq_fo, xf_1, xf_2, xs_1, xs_2, xs_same, xq_so, xj_1, xj_2, xj_same, xq_jo, xq_sa1, xq_same, xq_other, upd_s, oI_n, oI_s, h0]
    refine by_if_le 12 rfl ?_
    simp (disch := first | exact Nat.ne_of_beq_eq_false rfl | exact rfl | omega) only [nI_add, xa_sub, xa_mul, pk_div, nm_mod, xa_shr, xa_and7, xa_and1, xa_and255, xa_by_and, nI_m1, Nat.add_sub_cancel, Nat.reducePow, Nat.zero_add, Nat.add_zero, Nat.reduceAdd, Nat.reduceMul, Nat.reduceSub, xf_same, xq_ff, xq_fo, xf_1, xf_2, xs_1, xs_2, xs_same, xq_so, xj_1, xj_2, xj_same, xq_jo, xq_sa1, xq_same, xq_other, upd_s, oI_n, oI_s, xv_0, xv_1, xv_2, xv_3, xm_p1, xm_p2, xq_fp, xq_fn, List.filter_nil, Nat.reduceBEq, Bool.not_true, Bool.not_false, Bool.and_true, Bool.and_false, Bool.false_and, Bool.true_and, if_true, if_false, Bool.false_eq_true, reduceIte, xc_i, xc_j, xc_r, xc_n, List.nil_append, List.cons_append, Option.toList_some, Option.toList_none, nI_ltJ, nI_leJ, nI_eqJ, nI_ltz, nI_gez, nI_gtz, nI_lez, nI_eqz, m1_ltz, m1_gez, true_imp_iff, false_imp_iff, true_and, and_true, ne_eq, not_false_eq_true, not_true_eq_false, Nat.reduceEqDiff, Nat.reduceLT, Nat.reduceLeDiff, h0]
    with_reducible refine xm_go_blk b_X12_speak_12 k_X12_speak_12 ?_
    refine by_iconst ci_1 ?_
    refine by_nil ?_
    with_reducible refine xm_go_blk b_X12_speak_13 k_X12_speak_13 ?_
    refine by_putf cn_296 fl_12_205 (by first | exact rfl | assumption) (by decide) nf_12_0 ft_12_0 (by first | rfl | assumption) (by first | rfl | assumption) ?_
    refine by_aload_n rfl ?_
    refine by_getf cn_296 fl_12_205 (by first | exact rfl | assumption) (by decide) ?_
    simp (disch := first | exact Nat.ne_of_beq_eq_false rfl | exact rfl | omega) only [nI_add, xa_sub, xa_mul, pk_div, nm_mod, xa_shr, xa_and7, xa_and1, xa_and255, xa_by_and, nI_m1, Nat.add_sub_cancel, Nat.reducePow, Nat.zero_add, Nat.add_zero, Nat.reduceAdd, Nat.reduceMul, Nat.reduceSub, xf_same, xq_ff, xq_fo, xf_1, xf_2, xs_1, xs_2, xs_same, xq_so, xj_1, xj_2, xj_same, xq_jo, xq_sa1, xq_same, xq_other, upd_s, oI_n, oI_s, h0]
    refine by_if_le 25 rfl ?_
    simp (disch := first | exact Nat.ne_of_beq_eq_false rfl | exact rfl | omega) only [nI_add, xa_sub, xa_mul, pk_div, nm_mod, xa_shr, xa_and7, xa_and1, xa_and255, xa_by_and, nI_m1, Nat.add_sub_cancel, Nat.reducePow, Nat.zero_add, Nat.add_zero, Nat.reduceAdd, Nat.reduceMul, Nat.reduceSub, xf_same, xq_ff, xq_fo, xf_1, xf_2, xs_1, xs_2, xs_same, xq_so, xj_1, xj_2, xj_same, xq_jo, xq_sa1, xq_same, xq_other, upd_s, oI_n, oI_s, xv_0, xv_1, xv_2, xv_3, xm_p1, xm_p2, xq_fp, xq_fn, List.filter_nil, Nat.reduceBEq, Bool.not_true, Bool.not_false, Bool.and_true, Bool.and_false, Bool.false_and, Bool.true_and, if_true, if_false, Bool.false_eq_true, reduceIte, xc_i, xc_j, xc_r, xc_n, List.nil_append, List.cons_append, Option.toList_some, Option.toList_none, nI_ltJ, nI_leJ, nI_eqJ, nI_ltz, nI_gez, nI_gtz, nI_lez, nI_eqz, m1_ltz, m1_gez, true_imp_iff, false_imp_iff, true_and, and_true, ne_eq, not_false_eq_true, not_true_eq_false, Nat.reduceEqDiff, Nat.reduceLT, Nat.reduceLeDiff, h0]
    with_reducible refine xm_go_blk b_X12_speak_23 k_X12_speak_23 ?_
    refine by_iconst ci_0 ?_
    refine by_iret ry_296 (by first | rfl | assumption) ?_
    exact hA rfl
  | some q =>
    obtain ⟨l, ps, a, S, T⟩ := q
    have hps1 : 1 ≤ ps.length := hP.2.1
    have hps : ps.length ≤ 400 := hP.2.2.1
    have h19 : h.2.2 102 19 = .int (nI ps.length) := hP.2.2.2.2.2.1
    obtain ⟨k0, b0, hk, -⟩ := hP.2.2.2.2.2.2.2.2
    have hG : LdG l ps a 0 S T := hP.2.2.2.1
    have hl8 : l.length ≤ 8192 := hP.2.2.2.2.2.2.2.1.2.2
    have hok : psOK ps := hP.1
    have f1 : Fr [147] [(102, 0), (102, 61)] h (xm_sf (xm_sf h 102 0 (.int (nI 0))) 102 61 (.int (nI 0))) := Fr_sf (Fr_sf Fr_rf (by simp)) (by simp)
    have key : ∀ (y i : Nat) (h1 : xm_H), i + y = ps.length → Fr [147] [(102, 0), (102, 61)] h h1 → h1.2.2 102 0 = .int (nI 0) → mkIs h1 (spL (l, ps, a, S, T) i) → xm_go (XE sc) (xm_T (XE sc) (d + 5)) 296 post 32 [(1, .int (nI i)), (0, .ref 102)] [] h1 := by
      have hend : ∀ (i : Nat) (h1 : xm_H), (i = ps.length ∨ 8192 < (spL (l, ps, a, S, T) i).length) → i ≤ ps.length → Fr [147] [(102, 0), (102, 61)] h h1 → h1.2.2 102 0 = .int (nI 0) → mkIs h1 (spL (l, ps, a, S, T) i) → xm_go (XE sc) (xm_T (XE sc) (d + 5)) 296 post 58 [(1, .int (nI i)), (0, .ref 102)] [] h1 := by
        intro i h1 hi hi2 g1 t1 m1
        have F1 := Fr_XF hF g1 (by decide +kernel)
        with_reducible refine xm_go_blk b_X12_speak_58 k_X12_speak_58 ?_
        refine by_aload_n rfl ?_
        refine by_inv0 cn_296 lk_12_292 (by rw [xe_cnt]; decide) is_236 np_236 cn_236 (by first | exact rfl | assumption) (Nat.le_of_ble_eq_true rfl) ?_
        refine sp_tooLong m1 ?_
        by_cases e : (spL (l, ps, a, S, T) i).length ≤ 8192
        · rw [if_pos e]
          have hi3 : i = ps.length := by omega
          subst hi3
          with_reducible refine xm_go_blk b_X12_speak_62 k_X12_speak_62 ?_
          refine by_if_eq 69 rfl ?_
          simp (disch := first | exact Nat.ne_of_beq_eq_false rfl | exact rfl | omega) only [nI_add, xa_sub, xa_mul, pk_div, nm_mod, xa_shr, xa_and7, xa_and1, xa_and255, xa_by_and, nI_m1, Nat.add_sub_cancel, Nat.reducePow, Nat.zero_add, Nat.add_zero, Nat.reduceAdd, Nat.reduceMul, Nat.reduceSub, xf_same, xq_ff, xq_fo, xf_1, xf_2, xs_1, xs_2, xs_same, xq_so, xj_1, xj_2, xj_same, xq_jo, xq_sa1, xq_same, xq_other, upd_s, oI_n, oI_s, xv_0, xv_1, xv_2, xv_3, xm_p1, xm_p2, xq_fp, xq_fn, List.filter_nil, Nat.reduceBEq, Bool.not_true, Bool.not_false, Bool.and_true, Bool.and_false, Bool.false_and, Bool.true_and, if_true, if_false, Bool.false_eq_true, reduceIte, xc_i, xc_j, xc_r, xc_n, List.nil_append, List.cons_append, Option.toList_some, Option.toList_none, nI_ltJ, nI_leJ, nI_eqJ, nI_ltz, nI_gez, nI_gtz, nI_lez, nI_eqz, m1_ltz, m1_gez, true_imp_iff, false_imp_iff, true_and, and_true, ne_eq, not_false_eq_true, not_true_eq_false, Nat.reduceEqDiff, Nat.reduceLT, Nat.reduceLeDiff]
          with_reducible refine xm_go_blk b_X12_speak_69 k_X12_speak_69 ?_
          refine by_aload_n rfl ?_
          refine by_inv0 cn_296 lk_12_568 (by rw [xe_cnt]; decide) is_308 np_308 cn_308 (by first | exact rfl | assumption) (Nat.le_of_ble_eq_true rfl) ?_
          refine sp_tellsMade F1 m1 e (fun j hj => spL_lt (q := (l, ps, a, S, T)) hok hps _ (Nat.le_refl _) _ (by rw [List.getD_eq_getElem?_getD, List.getElem?_eq_getElem hj]; exact List.getElem_mem hj)) (fun h2 f2 r2 o2 => ?_)
          with_reducible refine xm_go_blk b_X12_speak_73 k_X12_speak_73 ?_
          refine by_iret ry_296 (by first | rfl | assumption) ?_
          exact hC _ h2 rfl e (Fr_tr (Fr_mo g1 (by simp) (by simp)) f2 (by simp) (by simp)) (by rw [f2.2.2 _ _ (by simp)]; exact t1) r2 o2
        · rw [if_neg e]
          with_reducible refine xm_go_blk b_X12_speak_62 k_X12_speak_62 ?_
          refine by_if_eq 69 rfl ?_
          simp (disch := first | exact Nat.ne_of_beq_eq_false rfl | exact rfl | omega) only [nI_add, xa_sub, xa_mul, pk_div, nm_mod, xa_shr, xa_and7, xa_and1, xa_and255, xa_by_and, nI_m1, Nat.add_sub_cancel, Nat.reducePow, Nat.zero_add, Nat.add_zero, Nat.reduceAdd, Nat.reduceMul, Nat.reduceSub, xf_same, xq_ff, xq_fo, xf_1, xf_2, xs_1, xs_2, xs_same, xq_so, xj_1, xj_2, xj_same, xq_jo, xq_sa1, xq_same, xq_other, upd_s, oI_n, oI_s, xv_0, xv_1, xv_2, xv_3, xm_p1, xm_p2, xq_fp, xq_fn, List.filter_nil, Nat.reduceBEq, Bool.not_true, Bool.not_false, Bool.and_true, Bool.and_false, Bool.false_and, Bool.true_and, if_true, if_false, Bool.false_eq_true, reduceIte, xc_i, xc_j, xc_r, xc_n, List.nil_append, List.cons_append, Option.toList_some, Option.toList_none, nI_ltJ, nI_leJ, nI_eqJ, nI_ltz, nI_gez, nI_gtz, nI_lez, nI_eqz, m1_ltz, m1_gez, true_imp_iff, false_imp_iff, true_and, and_true, ne_eq, not_false_eq_true, not_true_eq_false, Nat.reduceEqDiff, Nat.reduceLT, Nat.reduceLeDiff]
          with_reducible refine xm_go_blk b_X12_speak_65 k_X12_speak_65 ?_
          refine by_iconst ci_m1 ?_
          refine by_goto 73 rfl ?_
          with_reducible refine xm_go_blk b_X12_speak_73 k_X12_speak_73 ?_
          refine by_iret ry_296 (by first | rfl | assumption) ?_
          exact hL _ h1 rfl (Nat.lt_of_lt_of_le (by omega) (spL_le _ _ hi2)) g1 t1
      intro y
      induction y with
      | zero =>
        intro i h1 hi g1 t1 m1
        have hi3 : i = ps.length := by omega
        have e19 : h1.2.2 102 19 = .int (nI ps.length) := by rw [g1.2.2 _ _ (by simp)]; exact h19
        with_reducible refine xm_go_blk b_X12_speak_32 k_X12_speak_32 ?_
        refine by_iload_n rfl ?_
        refine by_aload_n rfl ?_
        refine by_getf cn_296 fl_12_378 (by first | exact rfl | assumption) (by decide) ?_
        simp (disch := first | exact Nat.ne_of_beq_eq_false rfl | exact rfl | omega) only [nI_add, xa_sub, xa_mul, pk_div, nm_mod, xa_shr, xa_and7, xa_and1, xa_and255, xa_by_and, nI_m1, Nat.add_sub_cancel, Nat.reducePow, Nat.zero_add, Nat.add_zero, Nat.reduceAdd, Nat.reduceMul, Nat.reduceSub, xf_same, xq_ff, xq_fo, xf_1, xf_2, xs_1, xs_2, xs_same, xq_so, xj_1, xj_2, xj_same, xq_jo, xq_sa1, xq_same, xq_other, upd_s, oI_n, oI_s, e19]
        refine by_ic_ge 58 rfl ?_
        simp (disch := first | exact Nat.ne_of_beq_eq_false rfl | exact rfl | omega) only [nI_add, xa_sub, xa_mul, pk_div, nm_mod, xa_shr, xa_and7, xa_and1, xa_and255, xa_by_and, nI_m1, Nat.add_sub_cancel, Nat.reducePow, Nat.zero_add, Nat.add_zero, Nat.reduceAdd, Nat.reduceMul, Nat.reduceSub, xf_same, xq_ff, xq_fo, xf_1, xf_2, xs_1, xs_2, xs_same, xq_so, xj_1, xj_2, xj_same, xq_jo, xq_sa1, xq_same, xq_other, upd_s, oI_n, oI_s, xv_0, xv_1, xv_2, xv_3, xm_p1, xm_p2, xq_fp, xq_fn, List.filter_nil, Nat.reduceBEq, Bool.not_true, Bool.not_false, Bool.and_true, Bool.and_false, Bool.false_and, Bool.true_and, if_true, if_false, Bool.false_eq_true, reduceIte, xc_i, xc_j, xc_r, xc_n, List.nil_append, List.cons_append, Option.toList_some, Option.toList_none, nI_ltJ, nI_leJ, nI_eqJ, nI_ltz, nI_gez, nI_gtz, nI_lez, nI_eqz, m1_ltz, m1_gez, true_imp_iff, false_imp_iff, true_and, and_true, ne_eq, not_false_eq_true, not_true_eq_false, Nat.reduceEqDiff, Nat.reduceLT, Nat.reduceLeDiff, e19]
        refine ⟨fun c32 => ?_, fun c => absurd (by omega) c⟩
        exact hend i h1 (Or.inl hi3) (by omega) g1 t1 m1
      | succ y ih =>
        intro i h1 hi g1 t1 m1
        have e19 : h1.2.2 102 19 = .int (nI ps.length) := by rw [g1.2.2 _ _ (by simp)]; exact h19
        have F1 := Fr_XF hF g1 (by decide +kernel)
        with_reducible refine xm_go_blk b_X12_speak_32 k_X12_speak_32 ?_
        refine by_iload_n rfl ?_
        refine by_aload_n rfl ?_
        refine by_getf cn_296 fl_12_378 (by first | exact rfl | assumption) (by decide) ?_
        simp (disch := first | exact Nat.ne_of_beq_eq_false rfl | exact rfl | omega) only [nI_add, xa_sub, xa_mul, pk_div, nm_mod, xa_shr, xa_and7, xa_and1, xa_and255, xa_by_and, nI_m1, Nat.add_sub_cancel, Nat.reducePow, Nat.zero_add, Nat.add_zero, Nat.reduceAdd, Nat.reduceMul, Nat.reduceSub, xf_same, xq_ff, xq_fo, xf_1, xf_2, xs_1, xs_2, xs_same, xq_so, xj_1, xj_2, xj_same, xq_jo, xq_sa1, xq_same, xq_other, upd_s, oI_n, oI_s, e19]
        refine by_ic_ge 58 rfl ?_
        simp (disch := first | exact Nat.ne_of_beq_eq_false rfl | exact rfl | omega) only [nI_add, xa_sub, xa_mul, pk_div, nm_mod, xa_shr, xa_and7, xa_and1, xa_and255, xa_by_and, nI_m1, Nat.add_sub_cancel, Nat.reducePow, Nat.zero_add, Nat.add_zero, Nat.reduceAdd, Nat.reduceMul, Nat.reduceSub, xf_same, xq_ff, xq_fo, xf_1, xf_2, xs_1, xs_2, xs_same, xq_so, xj_1, xj_2, xj_same, xq_jo, xq_sa1, xq_same, xq_other, upd_s, oI_n, oI_s, xv_0, xv_1, xv_2, xv_3, xm_p1, xm_p2, xq_fp, xq_fn, List.filter_nil, Nat.reduceBEq, Bool.not_true, Bool.not_false, Bool.and_true, Bool.and_false, Bool.false_and, Bool.true_and, if_true, if_false, Bool.false_eq_true, reduceIte, xc_i, xc_j, xc_r, xc_n, List.nil_append, List.cons_append, Option.toList_some, Option.toList_none, nI_ltJ, nI_leJ, nI_eqJ, nI_ltz, nI_gez, nI_gtz, nI_lez, nI_eqz, m1_ltz, m1_gez, true_imp_iff, false_imp_iff, true_and, and_true, ne_eq, not_false_eq_true, not_true_eq_false, Nat.reduceEqDiff, Nat.reduceLT, Nat.reduceLeDiff, e19]
        refine ⟨fun c => absurd c (by omega), fun c32 => ?_⟩
        with_reducible refine xm_go_blk b_X12_speak_40 k_X12_speak_40 ?_
        refine by_aload_n rfl ?_
        refine by_inv0 cn_296 lk_12_292 (by rw [xe_cnt]; decide) is_236 np_236 cn_236 (by first | exact rfl | assumption) (Nat.le_of_ble_eq_true rfl) ?_
        refine sp_tooLong m1 ?_
        by_cases e : (spL (l, ps, a, S, T) i).length ≤ 8192
        · rw [if_pos e]
          have P1 : mPg h1 (some (l, ps, a, S, T)) := PK_fr hP g1 (kpT_fr g1 (fun a h1 h2 => by simp; omega)) (fun c h1 h2 => by simp; omega) (by simp) (by simp) (by simp) (by simp) (g1.2.2 _ _ (by simp))
          have hw1 := w8_le hG hk (n := i) (by omega)
          with_reducible refine xm_go_blk b_X12_speak_44 k_X12_speak_44 ?_
          refine by_if_ne 58 rfl ?_
          simp (disch := first | exact Nat.ne_of_beq_eq_false rfl | exact rfl | omega) only [nI_add, xa_sub, xa_mul, pk_div, nm_mod, xa_shr, xa_and7, xa_and1, xa_and255, xa_by_and, nI_m1, Nat.add_sub_cancel, Nat.reducePow, Nat.zero_add, Nat.add_zero, Nat.reduceAdd, Nat.reduceMul, Nat.reduceSub, xf_same, xq_ff, xq_fo, xf_1, xf_2, xs_1, xs_2, xs_same, xq_so, xj_1, xj_2, xj_same, xq_jo, xq_sa1, xq_same, xq_other, upd_s, oI_n, oI_s, xv_0, xv_1, xv_2, xv_3, xm_p1, xm_p2, xq_fp, xq_fn, List.filter_nil, Nat.reduceBEq, Bool.not_true, Bool.not_false, Bool.and_true, Bool.and_false, Bool.false_and, Bool.true_and, if_true, if_false, Bool.false_eq_true, reduceIte, xc_i, xc_j, xc_r, xc_n, List.nil_append, List.cons_append, Option.toList_some, Option.toList_none, nI_ltJ, nI_leJ, nI_eqJ, nI_ltz, nI_gez, nI_gtz, nI_lez, nI_eqz, m1_ltz, m1_gez, true_imp_iff, false_imp_iff, true_and, and_true, ne_eq, not_false_eq_true, not_true_eq_false, Nat.reduceEqDiff, Nat.reduceLT, Nat.reduceLeDiff]
          with_reducible refine xm_go_blk b_X12_speak_47 k_X12_speak_47 ?_
          refine by_aload_n rfl ?_
          refine by_iload_n rfl ?_
          refine by_inv1 cn_296 lk_12_589 (by rw [xe_cnt]; decide) is_255 np_255 cn_255 (by first | exact rfl | assumption) (Nat.le_of_ble_eq_true rfl) ?_
          refine sp_makeLine (d := d) F1 P1 (by show i < ps.length; omega) (by show wtB (l, ps, a, S, T) + wsum (pC ps) T i ≤ 65536; omega) (fun ec => ⟨w8_of hG hk (by omega) ec, Nat.le_trans (w8_of hG hk (by omega) ec) (by omega)⟩) m1 (fun h2 f2 m2 => ?_)
          with_reducible refine xm_go_blk b_X12_speak_52 k_X12_speak_52 ?_
          refine by_iinc (by rw [ml_296]; decide) rfl ci_1 ?_
          refine by_goto 32 rfl ?_
          try simp (disch := first | exact Nat.ne_of_beq_eq_false rfl | exact rfl | omega) only [nI_add, xa_sub, xa_mul, pk_div, nm_mod, xa_shr, xa_and7, xa_and1, xa_and255, xa_by_and, nI_m1, Nat.add_sub_cancel, Nat.reducePow, Nat.zero_add, Nat.add_zero, Nat.reduceAdd, Nat.reduceMul, Nat.reduceSub, xf_same, xq_ff, xq_fo, xf_1, xf_2, xs_1, xs_2, xs_same, xq_so, xj_1, xj_2, xj_same, xq_jo, xq_sa1, xq_same, xq_other, upd_s, oI_n, oI_s, xv_0, xv_1, xv_2, xv_3, xm_p1, xm_p2, xq_fp, xq_fn, List.filter_nil, Nat.reduceBEq, Bool.not_true, Bool.not_false, Bool.and_true, Bool.and_false, Bool.false_and, Bool.true_and, if_true, if_false, Bool.false_eq_true, reduceIte, xc_i, xc_j, xc_r, xc_n, List.nil_append, List.cons_append, Option.toList_some, Option.toList_none]
          exact ih (i + 1) h2 (by omega) (Fr_tr g1 f2 (by simp) (by simp)) (by rw [f2.2.2 _ _ (by simp)]; exact t1) m2
        · rw [if_neg e]
          with_reducible refine xm_go_blk b_X12_speak_44 k_X12_speak_44 ?_
          refine by_if_ne 58 rfl ?_
          simp (disch := first | exact Nat.ne_of_beq_eq_false rfl | exact rfl | omega) only [nI_add, xa_sub, xa_mul, pk_div, nm_mod, xa_shr, xa_and7, xa_and1, xa_and255, xa_by_and, nI_m1, Nat.add_sub_cancel, Nat.reducePow, Nat.zero_add, Nat.add_zero, Nat.reduceAdd, Nat.reduceMul, Nat.reduceSub, xf_same, xq_ff, xq_fo, xf_1, xf_2, xs_1, xs_2, xs_same, xq_so, xj_1, xj_2, xj_same, xq_jo, xq_sa1, xq_same, xq_other, upd_s, oI_n, oI_s, xv_0, xv_1, xv_2, xv_3, xm_p1, xm_p2, xq_fp, xq_fn, List.filter_nil, Nat.reduceBEq, Bool.not_true, Bool.not_false, Bool.and_true, Bool.and_false, Bool.false_and, Bool.true_and, if_true, if_false, Bool.false_eq_true, reduceIte, xc_i, xc_j, xc_r, xc_n, List.nil_append, List.cons_append, Option.toList_some, Option.toList_none, nI_ltJ, nI_leJ, nI_eqJ, nI_ltz, nI_gez, nI_gtz, nI_lez, nI_eqz, m1_ltz, m1_gez, true_imp_iff, false_imp_iff, true_and, and_true, ne_eq, not_false_eq_true, not_true_eq_false, Nat.reduceEqDiff, Nat.reduceLT, Nat.reduceLeDiff]
          exact hend i h1 (Or.inr (by omega)) (by omega) g1 t1 m1
    have ps0 : (ps.length = 0) = False := eq_false (by omega)
    with_reducible refine xm_go_blk b_X12_speak_0 k_X12_speak_0 ?_
    refine by_aload_n rfl ?_
    refine by_aload_n rfl ?_
    refine by_getf cn_296 fl_12_378 (by first | exact rfl | assumption) (by decide) ?_
    simp (disch := first | exact Nat.ne_of_beq_eq_false rfl | exact rfl | omega) only [nI_add, xa_sub, xa_mul, pk_div, nm_mod, xa_shr, xa_and7, xa_and1, xa_and255, xa_by_and, nI_m1, Nat.add_sub_cancel, Nat.reducePow, Nat.zero_add, Nat.add_zero, Nat.reduceAdd, Nat.reduceMul, Nat.reduceSub, xf_same, xq_ff, xq_fo, xf_1, xf_2, xs_1, xs_2, xs_same, xq_so, xj_1, xj_2, xj_same, xq_jo, xq_sa1, xq_same, xq_other, upd_s, oI_n, oI_s, h19, ps0]
    refine by_if_le 12 rfl ?_
    simp (disch := first | exact Nat.ne_of_beq_eq_false rfl | exact rfl | omega) only [nI_add, xa_sub, xa_mul, pk_div, nm_mod, xa_shr, xa_and7, xa_and1, xa_and255, xa_by_and, nI_m1, Nat.add_sub_cancel, Nat.reducePow, Nat.zero_add, Nat.add_zero, Nat.reduceAdd, Nat.reduceMul, Nat.reduceSub, xf_same, xq_ff, xq_fo, xf_1, xf_2, xs_1, xs_2, xs_same, xq_so, xj_1, xj_2, xj_same, xq_jo, xq_sa1, xq_same, xq_other, upd_s, oI_n, oI_s, xv_0, xv_1, xv_2, xv_3, xm_p1, xm_p2, xq_fp, xq_fn, List.filter_nil, Nat.reduceBEq, Bool.not_true, Bool.not_false, Bool.and_true, Bool.and_false, Bool.false_and, Bool.true_and, if_true, if_false, Bool.false_eq_true, reduceIte, xc_i, xc_j, xc_r, xc_n, List.nil_append, List.cons_append, Option.toList_some, Option.toList_none, nI_ltJ, nI_leJ, nI_eqJ, nI_ltz, nI_gez, nI_gtz, nI_lez, nI_eqz, m1_ltz, m1_gez, true_imp_iff, false_imp_iff, true_and, and_true, ne_eq, not_false_eq_true, not_true_eq_false, Nat.reduceEqDiff, Nat.reduceLT, Nat.reduceLeDiff, h19, ps0]
    with_reducible refine xm_go_blk b_X12_speak_8 k_X12_speak_8 ?_
    refine by_iconst ci_0 ?_
    refine by_goto 13 rfl ?_
    with_reducible refine xm_go_blk b_X12_speak_13 k_X12_speak_13 ?_
    refine by_putf cn_296 fl_12_205 (by first | exact rfl | assumption) (by decide) nf_12_0 ft_12_0 (by first | rfl | assumption) (by first | rfl | assumption) ?_
    refine by_aload_n rfl ?_
    refine by_getf cn_296 fl_12_205 (by first | exact rfl | assumption) (by decide) ?_
    simp (disch := first | exact Nat.ne_of_beq_eq_false rfl | exact rfl | omega) only [nI_add, xa_sub, xa_mul, pk_div, nm_mod, xa_shr, xa_and7, xa_and1, xa_and255, xa_by_and, nI_m1, Nat.add_sub_cancel, Nat.reducePow, Nat.zero_add, Nat.add_zero, Nat.reduceAdd, Nat.reduceMul, Nat.reduceSub, xf_same, xq_ff, xq_fo, xf_1, xf_2, xs_1, xs_2, xs_same, xq_so, xj_1, xj_2, xj_same, xq_jo, xq_sa1, xq_same, xq_other, upd_s, oI_n, oI_s, h19, ps0]
    refine by_if_le 25 rfl ?_
    simp (disch := first | exact Nat.ne_of_beq_eq_false rfl | exact rfl | omega) only [nI_add, xa_sub, xa_mul, pk_div, nm_mod, xa_shr, xa_and7, xa_and1, xa_and255, xa_by_and, nI_m1, Nat.add_sub_cancel, Nat.reducePow, Nat.zero_add, Nat.add_zero, Nat.reduceAdd, Nat.reduceMul, Nat.reduceSub, xf_same, xq_ff, xq_fo, xf_1, xf_2, xs_1, xs_2, xs_same, xq_so, xj_1, xj_2, xj_same, xq_jo, xq_sa1, xq_same, xq_other, upd_s, oI_n, oI_s, xv_0, xv_1, xv_2, xv_3, xm_p1, xm_p2, xq_fp, xq_fn, List.filter_nil, Nat.reduceBEq, Bool.not_true, Bool.not_false, Bool.and_true, Bool.and_false, Bool.false_and, Bool.true_and, if_true, if_false, Bool.false_eq_true, reduceIte, xc_i, xc_j, xc_r, xc_n, List.nil_append, List.cons_append, Option.toList_some, Option.toList_none, nI_ltJ, nI_leJ, nI_eqJ, nI_ltz, nI_gez, nI_gtz, nI_lez, nI_eqz, m1_ltz, m1_gez, true_imp_iff, false_imp_iff, true_and, and_true, ne_eq, not_false_eq_true, not_true_eq_false, Nat.reduceEqDiff, Nat.reduceLT, Nat.reduceLeDiff, h19, ps0]
    with_reducible refine xm_go_blk b_X12_speak_25 k_X12_speak_25 ?_
    refine by_aload_n rfl ?_
    refine by_iconst ci_0 ?_
    refine by_putf cn_296 fl_12_289 (by first | exact rfl | assumption) (by decide) nf_12_61 ft_12_61 (by first | rfl | assumption) (by first | rfl | assumption) ?_
    refine by_iconst ci_0 ?_
    refine by_istore_n (by rw [ml_296]; decide) ?_
    refine by_nil ?_
    try simp (disch := first | exact Nat.ne_of_beq_eq_false rfl | exact rfl | omega) only [nI_add, xa_sub, xa_mul, pk_div, nm_mod, xa_shr, xa_and7, xa_and1, xa_and255, xa_by_and, nI_m1, Nat.add_sub_cancel, Nat.reducePow, Nat.zero_add, Nat.add_zero, Nat.reduceAdd, Nat.reduceMul, Nat.reduceSub, xf_same, xq_ff, xq_fo, xf_1, xf_2, xs_1, xs_2, xs_same, xq_so, xj_1, xj_2, xj_same, xq_jo, xq_sa1, xq_same, xq_other, upd_s, oI_n, oI_s, xv_0, xv_1, xv_2, xv_3, xm_p1, xm_p2, xq_fp, xq_fn, List.filter_nil, Nat.reduceBEq, Bool.not_true, Bool.not_false, Bool.and_true, Bool.and_false, Bool.false_and, Bool.true_and, if_true, if_false, Bool.false_eq_true, reduceIte, xc_i, xc_j, xc_r, xc_n, List.nil_append, List.cons_append, Option.toList_some, Option.toList_none, h19, ps0]
    exact key ps.length 0 _ (by omega) f1 (by simp [xm_sf, updV]) ⟨by simp [xm_sf, updV, spL], fun i hi => absurd hi (Nat.not_lt_zero _)⟩
end SK
