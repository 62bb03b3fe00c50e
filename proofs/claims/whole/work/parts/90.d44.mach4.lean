/-! ===== the machine's state; what waits; the loop of works ===== -/
def mcR : List Nat := [33, 34, 35, 36, 37, 38]
def mcT : List (Nat × Nat) := [(32, 0), (32, 1), (32, 10), (32, 11), (32, 12), (32, 13), (32, 14), (32, 15), (32, 16), (39, 0), (39, 1), (39, 2), (39, 3), (39, 4), (39, 5), (39, 6), (39, 7), (39, 8), (39, 9)]
theorem mcT_fin : xt_fin.all (fun q => !(mcT.contains (q.1, q.2.1))) = true := by decide +kernel
def wtS (h : xm_H) : List mc_F → Prop
  | [] => True
  | (n, f, t, b, g) :: K => (h.1 34 K.length = nI n ∧ h.1 35 K.length = nI f ∧ h.1 36 K.length = nI t ∧ h.1 37 K.length = nI b ∧ h.1 38 K.length = nI g) ∧ wtS h K
theorem wtS_o {h h' : xm_H} : ∀ {K : List mc_F}, wtS h K → (∀ j, j < K.length → h'.1 34 j = h.1 34 j ∧ h'.1 35 j = h.1 35 j ∧ h'.1 36 j = h.1 36 j ∧ h'.1 37 j = h.1 37 j ∧ h'.1 38 j = h.1 38 j) → wtS h' K
  | [], _, _ => trivial
  | (n, f, t, b, g) :: K, hs, e => by
    obtain ⟨a1, a2, a3, a4, a5⟩ := e K.length (by simp)
    exact ⟨by rw [a1, a2, a3, a4, a5]; exact hs.1, wtS_o hs.2 (fun j hj => e j (by simp; omega))⟩
def mSt (h : xm_H) (K : List mc_F) (pc pf sp : Nat) : Prop := h.2.2 32 10 = .int (nI K.length) ∧ wtS h K ∧ h.2.2 32 0 = .int (nI pc) ∧ h.2.2 32 1 = .int (nI pf) ∧ h.2.2 32 16 = .long (lN sp)
def mNd (h : xm_H) (n f t b g : Nat) : Prop := h.2.2 32 11 = .int (nI n) ∧ h.2.2 32 12 = .int (nI f) ∧ h.2.2 32 13 = .int (nI t) ∧ h.2.2 32 14 = .int (nI b) ∧ h.2.2 32 15 = .int (nI g)
theorem mSt_fr {S : List Nat} {T : List (Nat × Nat)} {h h' : xm_H} {K : List mc_F} {pc pf sp : Nat} (hs : mSt h K pc pf sp) (hf : Fr S T h h') (h1 : 34 ∉ S) (h2 : 35 ∉ S) (h3 : 36 ∉ S) (h4 : 37 ∉ S) (h5 : 38 ∉ S) (h6 : (32, 10) ∉ T) (h7 : (32, 0) ∉ T) (h8 : (32, 1) ∉ T) (h9 : (32, 16) ∉ T) : mSt h' K pc pf sp :=
  ⟨by rw [hf.2.2 _ _ h6]; exact hs.1, wtS_o hs.2.1 (fun j _ => ⟨by rw [hf.1 _ h1], by rw [hf.1 _ h2], by rw [hf.1 _ h3], by rw [hf.1 _ h4], by rw [hf.1 _ h5]⟩), by rw [hf.2.2 _ _ h7]; exact hs.2.2.1, by rw [hf.2.2 _ _ h8]; exact hs.2.2.2.1, by rw [hf.2.2 _ _ h9]; exact hs.2.2.2.2⟩
theorem mB_fr {S : List Nat} {T : List (Nat × Nat)} {h h' : xm_H} (hf : Fr S T h h') (h1 : 33 ∉ S) : mB h' = mB h := by
  funext i
  unfold mB cN
  rw [hf.2.1 _ h1]
theorem lcmp_z2 {a b : Nat} (ha : a < 2 ^ 62) (hb : b < 2 ^ 62) : lg_cmp (lN a) (lN b) = 0 ↔ a = b := by
  constructor
  · intro z
    have h1 := (eq_iff_iff.mp (lcmp_le ha hb)).mp (by rw [z]; decide)
    by_cases e : a = b
    · exact e
    · exfalso
      have : (lN a).toInt < (lN b).toInt := by rw [pf_lI (by omega), pf_lI (by omega)]; omega
      have h2 : lN a < lN b := Int64.lt_iff_toInt_lt.mpr this
      have n1 : ¬ lN b < lN a := fun q => absurd (Int64.lt_trans h2 q) Int64.lt_irrefl
      have n2 : ¬ lN a = lN b := fun q => by rw [q] at h2; exact absurd h2 Int64.lt_irrefl
      unfold lg_cmp at z
      rw [if_neg n1, if_neg n2] at z
      exact absurd z (by decide)
  · intro e
    subst e
    unfold lg_cmp
    simp
theorem lcmp_ge {a b : Nat} (ha : a < 2 ^ 62) (hb : b < 2 ^ 62) : (0 ≤ lg_cmp (lN a) (lN b)) = (b ≤ a) := by
  have h1 := lcmp_le ha hb
  have h2 := lcmp_z2 ha hb
  apply propext
  by_cases e : a = b
  · subst e
    have : lg_cmp (lN a) (lN a) = 0 := h2.mpr rfl
    rw [this]; simp
  · have e0 : lg_cmp (lN a) (lN b) ≠ 0 := fun z => e (h2.mp z)
    constructor
    · intro z
      refine Nat.le_of_not_lt (fun y => ?_)
      have := (eq_iff_iff.mp h1).mpr (by omega)
      exact e0 (Int32.le_antisymm this z)
    · intro z
      refine Int32.not_lt.mp (fun y => ?_)
      have := (eq_iff_iff.mp h1).mp (Int32.le_of_lt y)
      omega
section MW
variable {sc : xm_Sc} {d pp df tn n f t b g pc pf sp : Nat} {K : List mc_F} {h : xm_H} {post : xm_Po}
theorem sp_await {n f t b g : Nat} (hF : XF h) (hK : K.length < 1600) (hS : mSt h K pc pf sp) (hp : ∀ h', Fr [34, 35, 36, 37, 38] [(32, 10)] h h' → mSt h' ((n, f, t, b, g) :: K) pc pf sp → post none h') : xm_T (XE sc) (d + 1) 77 [.ref 32, .int (nI n), .int (nI f), .int (nI t), .int (nI b), .int (nI g)] h post := by
  obtain ⟨s1, s2, s3, s4, s5⟩ := hS
  refine xq_in rfl ?_
  simp only [xq_a0, xq_aI, xq_aJ, xq_aR, Nat.reduceAdd]
  with_reducible refine xm_go_blk b_X4_await_0 k_X4_await_0 ?_
  refine by_aload_n rfl ?_
  refine by_getf cn_77 fl_4_92 (by first | exact rfl | assumption) (by decide) ?_
  refine by_sipush cs_1600 ?_
  simp (disch := first | exact Nat.ne_of_beq_eq_false rfl | exact rfl | omega) only [nI_add, xa_sub, xa_mul, pk_div, nm_mod, xa_shr, xa_and7, xa_and1, xa_and255, xa_by_and, nI_m1, Nat.add_sub_cancel, Nat.reducePow, Nat.zero_add, Nat.add_zero, Nat.reduceAdd, Nat.reduceMul, Nat.reduceSub, xf_same, xq_ff, xq_fo, xf_1, xf_2, xs_1, xs_2, xs_same, xq_so, xj_1, xj_2, xj_same, xq_jo, xq_sa1, xq_same, xq_other, upd_s, oI_n, oI_s, s1, xf_32_5 hF, xf_32_6 hF, xf_32_7 hF, xf_32_8 hF, xf_32_9 hF]
  refine by_ic_ge 72 rfl ?_
  simp (disch := first | exact Nat.ne_of_beq_eq_false rfl | exact rfl | omega) only [nI_add, xa_sub, xa_mul, pk_div, nm_mod, xa_shr, xa_and7, xa_and1, xa_and255, xa_by_and, nI_m1, Nat.add_sub_cancel, Nat.reducePow, Nat.zero_add, Nat.add_zero, Nat.reduceAdd, Nat.reduceMul, Nat.reduceSub, xf_same, xq_ff, xq_fo, xf_1, xf_2, xs_1, xs_2, xs_same, xq_so, xj_1, xj_2, xj_same, xq_jo, xq_sa1, xq_same, xq_other, upd_s, oI_n, oI_s, xv_0, xv_1, xv_2, xv_3, xm_p1, xm_p2, xq_fp, xq_fn, List.filter_nil, Nat.reduceBEq, Bool.not_true, Bool.not_false, Bool.and_true, Bool.and_false, Bool.false_and, Bool.true_and, if_true, if_false, Bool.false_eq_true, reduceIte, xc_i, xc_j, xc_r, xc_n, List.nil_append, List.cons_append, Option.toList_some, Option.toList_none, nI_ltJ, nI_leJ, nI_eqJ, nI_ltz, nI_gez, nI_gtz, nI_lez, nI_eqz, m1_ltz, m1_gez, true_imp_iff, false_imp_iff, true_and, and_true, ne_eq, not_false_eq_true, not_true_eq_false, Nat.reduceEqDiff, Nat.reduceLT, Nat.reduceLeDiff, s1, xf_32_5 hF, xf_32_6 hF, xf_32_7 hF, xf_32_8 hF, xf_32_9 hF]
  refine ⟨fun c => absurd c (by omega), fun c0 => ?_⟩
  with_reducible refine xm_go_blk b_X4_await_10 k_X4_await_10 ?_
  refine by_aload_n rfl ?_
  refine by_getf cn_77 fl_4_22 (by first | exact rfl | assumption) (by decide) ?_
  refine by_aload_n rfl ?_
  refine by_getf cn_77 fl_4_92 (by first | exact rfl | assumption) (by decide) ?_
  refine by_iload_n rfl ?_
  simp (disch := first | exact Nat.ne_of_beq_eq_false rfl | exact rfl | omega) only [nI_add, xa_sub, xa_mul, pk_div, nm_mod, xa_shr, xa_and7, xa_and1, xa_and255, xa_by_and, nI_m1, Nat.add_sub_cancel, Nat.reducePow, Nat.zero_add, Nat.add_zero, Nat.reduceAdd, Nat.reduceMul, Nat.reduceSub, xf_same, xq_ff, xq_fo, xf_1, xf_2, xs_1, xs_2, xs_same, xq_so, xj_1, xj_2, xj_same, xq_jo, xq_sa1, xq_same, xq_other, upd_s, oI_n, oI_s, s1, xf_32_5 hF, xf_32_6 hF, xf_32_7 hF, xf_32_8 hF, xf_32_9 hF]
  refine by_iast (by first | exact rfl | assumption | exact ps_1 hpp | exact ps_2 hpp | exact ps_3 hpp | exact ps_4 hpp | exact ps_5 hpp | exact ps_6 hpp | exact ps_7 hpp | exact ps_8 hpp | exact ps_9 hpp | exact ps_10 hpp | exact ps_11 hpp | exact ps_15 hpp | exact ps_16 hpp | exact ps_17 hpp | exact ps_18 hpp | exact ps_19 hpp | exact ps_21 hpp | exact ps_22 hpp | exact ps_23 hpp | exact ps_24 hpp) ⟨by omega, by omega⟩ ?_
  refine by_aload_n rfl ?_
  refine by_getf cn_77 fl_4_26 (by first | exact rfl | assumption) (by decide) ?_
  refine by_aload_n rfl ?_
  refine by_getf cn_77 fl_4_92 (by first | exact rfl | assumption) (by decide) ?_
  refine by_iload_n rfl ?_
  simp (disch := first | exact Nat.ne_of_beq_eq_false rfl | exact rfl | omega) only [nI_add, xa_sub, xa_mul, pk_div, nm_mod, xa_shr, xa_and7, xa_and1, xa_and255, xa_by_and, nI_m1, Nat.add_sub_cancel, Nat.reducePow, Nat.zero_add, Nat.add_zero, Nat.reduceAdd, Nat.reduceMul, Nat.reduceSub, xf_same, xq_ff, xq_fo, xf_1, xf_2, xs_1, xs_2, xs_same, xq_so, xj_1, xj_2, xj_same, xq_jo, xq_sa1, xq_same, xq_other, upd_s, oI_n, oI_s, s1, xf_32_5 hF, xf_32_6 hF, xf_32_7 hF, xf_32_8 hF, xf_32_9 hF]
  refine by_iast (by first | exact rfl | assumption | exact ps_1 hpp | exact ps_2 hpp | exact ps_3 hpp | exact ps_4 hpp | exact ps_5 hpp | exact ps_6 hpp | exact ps_7 hpp | exact ps_8 hpp | exact ps_9 hpp | exact ps_10 hpp | exact ps_11 hpp | exact ps_15 hpp | exact ps_16 hpp | exact ps_17 hpp | exact ps_18 hpp | exact ps_19 hpp | exact ps_21 hpp | exact ps_22 hpp | exact ps_23 hpp | exact ps_24 hpp) ⟨by omega, by omega⟩ ?_
  refine by_aload_n rfl ?_
  refine by_getf cn_77 fl_4_29 (by first | exact rfl | assumption) (by decide) ?_
  refine by_aload_n rfl ?_
  refine by_getf cn_77 fl_4_92 (by first | exact rfl | assumption) (by decide) ?_
  refine by_iload_n rfl ?_
  simp (disch := first | exact Nat.ne_of_beq_eq_false rfl | exact rfl | omega) only [nI_add, xa_sub, xa_mul, pk_div, nm_mod, xa_shr, xa_and7, xa_and1, xa_and255, xa_by_and, nI_m1, Nat.add_sub_cancel, Nat.reducePow, Nat.zero_add, Nat.add_zero, Nat.reduceAdd, Nat.reduceMul, Nat.reduceSub, xf_same, xq_ff, xq_fo, xf_1, xf_2, xs_1, xs_2, xs_same, xq_so, xj_1, xj_2, xj_same, xq_jo, xq_sa1, xq_same, xq_other, upd_s, oI_n, oI_s, s1, xf_32_5 hF, xf_32_6 hF, xf_32_7 hF, xf_32_8 hF, xf_32_9 hF]
  refine by_iast (by first | exact rfl | assumption | exact ps_1 hpp | exact ps_2 hpp | exact ps_3 hpp | exact ps_4 hpp | exact ps_5 hpp | exact ps_6 hpp | exact ps_7 hpp | exact ps_8 hpp | exact ps_9 hpp | exact ps_10 hpp | exact ps_11 hpp | exact ps_15 hpp | exact ps_16 hpp | exact ps_17 hpp | exact ps_18 hpp | exact ps_19 hpp | exact ps_21 hpp | exact ps_22 hpp | exact ps_23 hpp | exact ps_24 hpp) ⟨by omega, by omega⟩ ?_
  refine by_aload_n rfl ?_
  refine by_getf cn_77 fl_4_32 (by first | exact rfl | assumption) (by decide) ?_
  refine by_aload_n rfl ?_
  refine by_getf cn_77 fl_4_92 (by first | exact rfl | assumption) (by decide) ?_
  refine by_iload rfl ?_
  simp (disch := first | exact Nat.ne_of_beq_eq_false rfl | exact rfl | omega) only [nI_add, xa_sub, xa_mul, pk_div, nm_mod, xa_shr, xa_and7, xa_and1, xa_and255, xa_by_and, nI_m1, Nat.add_sub_cancel, Nat.reducePow, Nat.zero_add, Nat.add_zero, Nat.reduceAdd, Nat.reduceMul, Nat.reduceSub, xf_same, xq_ff, xq_fo, xf_1, xf_2, xs_1, xs_2, xs_same, xq_so, xj_1, xj_2, xj_same, xq_jo, xq_sa1, xq_same, xq_other, upd_s, oI_n, oI_s, s1, xf_32_5 hF, xf_32_6 hF, xf_32_7 hF, xf_32_8 hF, xf_32_9 hF]
  refine by_iast (by first | exact rfl | assumption | exact ps_1 hpp | exact ps_2 hpp | exact ps_3 hpp | exact ps_4 hpp | exact ps_5 hpp | exact ps_6 hpp | exact ps_7 hpp | exact ps_8 hpp | exact ps_9 hpp | exact ps_10 hpp | exact ps_11 hpp | exact ps_15 hpp | exact ps_16 hpp | exact ps_17 hpp | exact ps_18 hpp | exact ps_19 hpp | exact ps_21 hpp | exact ps_22 hpp | exact ps_23 hpp | exact ps_24 hpp) ⟨by omega, by omega⟩ ?_
  refine by_aload_n rfl ?_
  refine by_getf cn_77 fl_4_35 (by first | exact rfl | assumption) (by decide) ?_
  refine by_aload_n rfl ?_
  refine by_getf cn_77 fl_4_92 (by first | exact rfl | assumption) (by decide) ?_
  refine by_iload rfl ?_
  simp (disch := first | exact Nat.ne_of_beq_eq_false rfl | exact rfl | omega) only [nI_add, xa_sub, xa_mul, pk_div, nm_mod, xa_shr, xa_and7, xa_and1, xa_and255, xa_by_and, nI_m1, Nat.add_sub_cancel, Nat.reducePow, Nat.zero_add, Nat.add_zero, Nat.reduceAdd, Nat.reduceMul, Nat.reduceSub, xf_same, xq_ff, xq_fo, xf_1, xf_2, xs_1, xs_2, xs_same, xq_so, xj_1, xj_2, xj_same, xq_jo, xq_sa1, xq_same, xq_other, upd_s, oI_n, oI_s, s1, xf_32_5 hF, xf_32_6 hF, xf_32_7 hF, xf_32_8 hF, xf_32_9 hF]
  refine by_iast (by first | exact rfl | assumption | exact ps_1 hpp | exact ps_2 hpp | exact ps_3 hpp | exact ps_4 hpp | exact ps_5 hpp | exact ps_6 hpp | exact ps_7 hpp | exact ps_8 hpp | exact ps_9 hpp | exact ps_10 hpp | exact ps_11 hpp | exact ps_15 hpp | exact ps_16 hpp | exact ps_17 hpp | exact ps_18 hpp | exact ps_19 hpp | exact ps_21 hpp | exact ps_22 hpp | exact ps_23 hpp | exact ps_24 hpp) ⟨by omega, by omega⟩ ?_
  refine by_aload_n rfl ?_
  refine by_dup rfl ?_
  refine by_getf cn_77 fl_4_92 (by first | exact rfl | assumption) (by decide) ?_
  refine by_iconst ci_1 ?_
  simp (disch := first | exact Nat.ne_of_beq_eq_false rfl | exact rfl | omega) only [nI_add, xa_sub, xa_mul, pk_div, nm_mod, xa_shr, xa_and7, xa_and1, xa_and255, xa_by_and, nI_m1, Nat.add_sub_cancel, Nat.reducePow, Nat.zero_add, Nat.add_zero, Nat.reduceAdd, Nat.reduceMul, Nat.reduceSub, xf_same, xq_ff, xq_fo, xf_1, xf_2, xs_1, xs_2, xs_same, xq_so, xj_1, xj_2, xj_same, xq_jo, xq_sa1, xq_same, xq_other, upd_s, oI_n, oI_s, s1, xf_32_5 hF, xf_32_6 hF, xf_32_7 hF, xf_32_8 hF, xf_32_9 hF]
  refine by_iadd ?_
  refine by_putf cn_77 fl_4_92 (by first | exact rfl | assumption) (by decide) nf_4_10 ft_4_10 (by first | rfl | assumption) (by first | rfl | assumption) ?_
  refine by_nil ?_
  try simp (disch := first | exact Nat.ne_of_beq_eq_false rfl | exact rfl | omega) only [nI_add, xa_sub, xa_mul, pk_div, nm_mod, xa_shr, xa_and7, xa_and1, xa_and255, xa_by_and, nI_m1, Nat.add_sub_cancel, Nat.reducePow, Nat.zero_add, Nat.add_zero, Nat.reduceAdd, Nat.reduceMul, Nat.reduceSub, xf_same, xq_ff, xq_fo, xf_1, xf_2, xs_1, xs_2, xs_same, xq_so, xj_1, xj_2, xj_same, xq_jo, xq_sa1, xq_same, xq_other, upd_s, oI_n, oI_s, xv_0, xv_1, xv_2, xv_3, xm_p1, xm_p2, xq_fp, xq_fn, List.filter_nil, Nat.reduceBEq, Bool.not_true, Bool.not_false, Bool.and_true, Bool.and_false, Bool.false_and, Bool.true_and, if_true, if_false, Bool.false_eq_true, reduceIte, xc_i, xc_j, xc_r, xc_n, List.nil_append, List.cons_append, Option.toList_some, Option.toList_none, s1, xf_32_5 hF, xf_32_6 hF, xf_32_7 hF, xf_32_8 hF, xf_32_9 hF]
  with_reducible refine xm_go_blk b_X4_await_72 k_X4_await_72 ?_
  refine by_ret ry_77 ?_
  refine hp _ (Fr_sf (Fr_si (Fr_si (Fr_si (Fr_si (Fr_si Fr_rf (by simp)) (by simp)) (by simp)) (by simp)) (by simp)) (by simp)) ⟨by simp only [xf_same, List.length_cons], ⟨⟨?_, ?_, ?_, ?_, ?_⟩, wtS_o s2 (fun j hj => ?_)⟩, ?_, ?_, ?_⟩
  · simp [xm_sf, xm_si, upd]
  · simp [xm_sf, xm_si, upd]
  · simp [xm_sf, xm_si, upd]
  · simp [xm_sf, xm_si, upd]
  · simp [xm_sf, xm_si, upd]
  · have : j ≠ K.length := by omega
    refine ⟨?_, ?_, ?_, ?_, ?_⟩ <;> simp [xm_sf, xm_si, upd, this]
  · rw [← s3]; simp [xm_sf, xm_si, updV]
  · rw [← s4]; simp [xm_sf, xm_si, updV]
  · rw [← s5]; simp [xm_sf, xm_si, updV]
/-- the loop of works, at its head; what follow must give -/
def Wk (sc : xm_Sc) (d pp df : Nat) (post : xm_Po) (tn : Nat) (h : xm_H) : Prop := xm_go (XE sc) (xm_T (XE sc) (d + 7)) 88 post 97 [(6, .long (lN tn)), (0, .ref 32), (1, .ref pp), (2, .ref 1), (3, .int (nI df))] [] h
def PoW (sc : xm_Sc) (d pp df : Nat) (post : xm_Po) (tn : Nat) : xm_Po := fun r h => xm_go (XE sc) (xm_T (XE sc) (d + 7)) 88 post 197 [(6, .long (lN tn)), (0, .ref 32), (1, .ref pp), (2, .ref 1), (3, .int (nI df))] (r.toList ++ []) h
def Fw (sc : xm_Sc) (d pp df : Nat) (post : xm_Po) (tn k : Nat) (h : xm_H) : Prop := xm_go (XE sc) (xm_T (XE sc) (d + 6)) 82 (PoW sc d pp df post tn) 2 [(3, .int (nI k)), (0, .ref 32), (1, .ref (pp + 12)), (2, .int (nI df))] [] h
theorem Wk_1 (h1 : Wk sc d pp df post (tn + 1) h) : PoW sc d pp df post tn (some (.int (nI 1))) h := by
  show xm_go (XE sc) (xm_T (XE sc) (d + 7)) 88 post 197 _ [.int (nI 1)] h
  with_reducible refine xm_go_blk b_X4_works_197 k_X4_works_197 ?_
  refine by_if_ne 202 rfl ?_
  simp (disch := first | exact Nat.ne_of_beq_eq_false rfl | exact rfl | omega) only [nI_add, xa_sub, xa_mul, pk_div, nm_mod, xa_shr, xa_and7, xa_and1, xa_and255, xa_by_and, nI_m1, Nat.add_sub_cancel, Nat.reducePow, Nat.zero_add, Nat.add_zero, Nat.reduceAdd, Nat.reduceMul, Nat.reduceSub, xf_same, xq_ff, xq_fo, xf_1, xf_2, xs_1, xs_2, xs_same, xq_so, xj_1, xj_2, xj_same, xq_jo, xq_sa1, xq_same, xq_other, upd_s, oI_n, oI_s, xv_0, xv_1, xv_2, xv_3, xm_p1, xm_p2, xq_fp, xq_fn, List.filter_nil, Nat.reduceBEq, Bool.not_true, Bool.not_false, Bool.and_true, Bool.and_false, Bool.false_and, Bool.true_and, if_true, if_false, Bool.false_eq_true, reduceIte, xc_i, xc_j, xc_r, xc_n, List.nil_append, List.cons_append, Option.toList_some, Option.toList_none, nI_ltJ, nI_leJ, nI_eqJ, nI_ltz, nI_gez, nI_gtz, nI_lez, nI_eqz, m1_ltz, m1_gez, true_imp_iff, false_imp_iff, true_and, and_true, ne_eq, not_false_eq_true, not_true_eq_false, Nat.reduceEqDiff, Nat.reduceLT, Nat.reduceLeDiff, lN_pl]
  with_reducible refine xm_go_blk b_X4_works_202 k_X4_works_202 ?_
  refine by_lload rfl ?_
  refine by_lconst cl_1 ?_
  refine by_ladd ?_
  refine by_lstore (by rw [ml_88]; decide) ?_
  refine by_goto 97 rfl ?_
  try simp (disch := first | exact Nat.ne_of_beq_eq_false rfl | exact rfl | omega) only [nI_add, xa_sub, xa_mul, pk_div, nm_mod, xa_shr, xa_and7, xa_and1, xa_and255, xa_by_and, nI_m1, Nat.add_sub_cancel, Nat.reducePow, Nat.zero_add, Nat.add_zero, Nat.reduceAdd, Nat.reduceMul, Nat.reduceSub, xf_same, xq_ff, xq_fo, xf_1, xf_2, xs_1, xs_2, xs_same, xq_so, xj_1, xj_2, xj_same, xq_jo, xq_sa1, xq_same, xq_other, upd_s, oI_n, oI_s, xv_0, xv_1, xv_2, xv_3, xm_p1, xm_p2, xq_fp, xq_fn, List.filter_nil, Nat.reduceBEq, Bool.not_true, Bool.not_false, Bool.and_true, Bool.and_false, Bool.false_and, Bool.true_and, if_true, if_false, Bool.false_eq_true, reduceIte, xc_i, xc_j, xc_r, xc_n, List.nil_append, List.cons_append, Option.toList_some, Option.toList_none, lN_pl]
  exact xm_go_wk (by simp [Value.category]) h1
theorem Wk_0 (h1 : post (some (.int (nI 0))) h) : PoW sc d pp df post tn (some (.int (nI 0))) h := by
  show xm_go (XE sc) (xm_T (XE sc) (d + 7)) 88 post 197 _ [.int (nI 0)] h
  with_reducible refine xm_go_blk b_X4_works_197 k_X4_works_197 ?_
  refine by_if_ne 202 rfl ?_
  simp (disch := first | exact Nat.ne_of_beq_eq_false rfl | exact rfl | omega) only [nI_add, xa_sub, xa_mul, pk_div, nm_mod, xa_shr, xa_and7, xa_and1, xa_and255, xa_by_and, nI_m1, Nat.add_sub_cancel, Nat.reducePow, Nat.zero_add, Nat.add_zero, Nat.reduceAdd, Nat.reduceMul, Nat.reduceSub, xf_same, xq_ff, xq_fo, xf_1, xf_2, xs_1, xs_2, xs_same, xq_so, xj_1, xj_2, xj_same, xq_jo, xq_sa1, xq_same, xq_other, upd_s, oI_n, oI_s, xv_0, xv_1, xv_2, xv_3, xm_p1, xm_p2, xq_fp, xq_fn, List.filter_nil, Nat.reduceBEq, Bool.not_true, Bool.not_false, Bool.and_true, Bool.and_false, Bool.false_and, Bool.true_and, if_true, if_false, Bool.false_eq_true, reduceIte, xc_i, xc_j, xc_r, xc_n, List.nil_append, List.cons_append, Option.toList_some, Option.toList_none, nI_ltJ, nI_leJ, nI_eqJ, nI_ltz, nI_gez, nI_gtz, nI_lez, nI_eqz, m1_ltz, m1_gez, true_imp_iff, false_imp_iff, true_and, and_true, ne_eq, not_false_eq_true, not_true_eq_false, Nat.reduceEqDiff, Nat.reduceLT, Nat.reduceLeDiff]
  with_reducible refine xm_go_blk b_X4_works_200 k_X4_works_200 ?_
  refine by_iconst ci_0 ?_
  refine by_iret ry_88 (by first | rfl | assumption) ?_
  exact h1
theorem Wk_end (hF : XF h) (hS : mSt h [] pc pf sp) (htn : tn ≤ 1099511627776) (h1 : post (some (.int (nI 1))) h) : Wk sc d pp df post tn h := by
  have s1 := hS.1
  simp only [List.length_nil] at s1
  unfold Wk
  by_cases e : tn < 1099511627776
  · have e' : (1099511627776 ≤ tn) = False := eq_false (by omega)
    with_reducible refine xm_go_blk b_X4_works_97 k_X4_works_97 ?_
    refine by_lload rfl ?_
    refine by_ldc2 (x := lN 1099511627776) cn_88 kl_4_108 (by decide) ?_
    refine by_lcmp ?_
    refine by_if_ge 211 rfl ?_
    simp (disch := first | exact Nat.ne_of_beq_eq_false rfl | exact rfl | omega) only [nI_add, xa_sub, xa_mul, pk_div, nm_mod, xa_shr, xa_and7, xa_and1, xa_and255, xa_by_and, nI_m1, Nat.add_sub_cancel, Nat.reducePow, Nat.zero_add, Nat.add_zero, Nat.reduceAdd, Nat.reduceMul, Nat.reduceSub, xf_same, xq_ff, xq_fo, xf_1, xf_2, xs_1, xs_2, xs_same, xq_so, xj_1, xj_2, xj_same, xq_jo, xq_sa1, xq_same, xq_other, upd_s, oI_n, oI_s, xv_0, xv_1, xv_2, xv_3, xm_p1, xm_p2, xq_fp, xq_fn, List.filter_nil, Nat.reduceBEq, Bool.not_true, Bool.not_false, Bool.and_true, Bool.and_false, Bool.false_and, Bool.true_and, if_true, if_false, Bool.false_eq_true, reduceIte, xc_i, xc_j, xc_r, xc_n, List.nil_append, List.cons_append, Option.toList_some, Option.toList_none, nI_ltJ, nI_leJ, nI_eqJ, nI_ltz, nI_gez, nI_gtz, nI_lez, nI_eqz, m1_ltz, m1_gez, true_imp_iff, false_imp_iff, true_and, and_true, ne_eq, not_false_eq_true, not_true_eq_false, Nat.reduceEqDiff, Nat.reduceLT, Nat.reduceLeDiff, lcmp_ge (show tn < 2 ^ 62 by omega) (show 1099511627776 < 2 ^ 62 by decide), e', s1]
    with_reducible refine xm_go_blk b_X4_works_106 k_X4_works_106 ?_
    refine by_aload_n rfl ?_
    refine by_getf cn_88 fl_4_92 (by first | exact rfl | assumption) (by decide) ?_
    simp (disch := first | exact Nat.ne_of_beq_eq_false rfl | exact rfl | omega) only [nI_add, xa_sub, xa_mul, pk_div, nm_mod, xa_shr, xa_and7, xa_and1, xa_and255, xa_by_and, nI_m1, Nat.add_sub_cancel, Nat.reducePow, Nat.zero_add, Nat.add_zero, Nat.reduceAdd, Nat.reduceMul, Nat.reduceSub, xf_same, xq_ff, xq_fo, xf_1, xf_2, xs_1, xs_2, xs_same, xq_so, xj_1, xj_2, xj_same, xq_jo, xq_sa1, xq_same, xq_other, upd_s, oI_n, oI_s, lcmp_ge (show tn < 2 ^ 62 by omega) (show 1099511627776 < 2 ^ 62 by decide), e', s1]
    refine by_if_le 211 rfl ?_
    simp (disch := first | exact Nat.ne_of_beq_eq_false rfl | exact rfl | omega) only [nI_add, xa_sub, xa_mul, pk_div, nm_mod, xa_shr, xa_and7, xa_and1, xa_and255, xa_by_and, nI_m1, Nat.add_sub_cancel, Nat.reducePow, Nat.zero_add, Nat.add_zero, Nat.reduceAdd, Nat.reduceMul, Nat.reduceSub, xf_same, xq_ff, xq_fo, xf_1, xf_2, xs_1, xs_2, xs_same, xq_so, xj_1, xj_2, xj_same, xq_jo, xq_sa1, xq_same, xq_other, upd_s, oI_n, oI_s, xv_0, xv_1, xv_2, xv_3, xm_p1, xm_p2, xq_fp, xq_fn, List.filter_nil, Nat.reduceBEq, Bool.not_true, Bool.not_false, Bool.and_true, Bool.and_false, Bool.false_and, Bool.true_and, if_true, if_false, Bool.false_eq_true, reduceIte, xc_i, xc_j, xc_r, xc_n, List.nil_append, List.cons_append, Option.toList_some, Option.toList_none, nI_ltJ, nI_leJ, nI_eqJ, nI_ltz, nI_gez, nI_gtz, nI_lez, nI_eqz, m1_ltz, m1_gez, true_imp_iff, false_imp_iff, true_and, and_true, ne_eq, not_false_eq_true, not_true_eq_false, Nat.reduceEqDiff, Nat.reduceLT, Nat.reduceLeDiff, lcmp_ge (show tn < 2 ^ 62 by omega) (show 1099511627776 < 2 ^ 62 by decide), e', s1]
    with_reducible refine xm_go_blk b_X4_works_211 k_X4_works_211 ?_
    refine by_iconst ci_1 ?_
    refine by_iret ry_88 (by first | rfl | assumption) ?_
    exact h1
  · have e' : (1099511627776 ≤ tn) = True := eq_true (by omega)
    with_reducible refine xm_go_blk b_X4_works_97 k_X4_works_97 ?_
    refine by_lload rfl ?_
    refine by_ldc2 (x := lN 1099511627776) cn_88 kl_4_108 (by decide) ?_
    refine by_lcmp ?_
    refine by_if_ge 211 rfl ?_
    simp (disch := first | exact Nat.ne_of_beq_eq_false rfl | exact rfl | omega) only [nI_add, xa_sub, xa_mul, pk_div, nm_mod, xa_shr, xa_and7, xa_and1, xa_and255, xa_by_and, nI_m1, Nat.add_sub_cancel, Nat.reducePow, Nat.zero_add, Nat.add_zero, Nat.reduceAdd, Nat.reduceMul, Nat.reduceSub, xf_same, xq_ff, xq_fo, xf_1, xf_2, xs_1, xs_2, xs_same, xq_so, xj_1, xj_2, xj_same, xq_jo, xq_sa1, xq_same, xq_other, upd_s, oI_n, oI_s, xv_0, xv_1, xv_2, xv_3, xm_p1, xm_p2, xq_fp, xq_fn, List.filter_nil, Nat.reduceBEq, Bool.not_true, Bool.not_false, Bool.and_true, Bool.and_false, Bool.false_and, Bool.true_and, if_true, if_false, Bool.false_eq_true, reduceIte, xc_i, xc_j, xc_r, xc_n, List.nil_append, List.cons_append, Option.toList_some, Option.toList_none, nI_ltJ, nI_leJ, nI_eqJ, nI_ltz, nI_gez, nI_gtz, nI_lez, nI_eqz, m1_ltz, m1_gez, true_imp_iff, false_imp_iff, true_and, and_true, ne_eq, not_false_eq_true, not_true_eq_false, Nat.reduceEqDiff, Nat.reduceLT, Nat.reduceLeDiff, lcmp_ge (show tn < 2 ^ 62 by omega) (show 1099511627776 < 2 ^ 62 by decide), e']
    with_reducible refine xm_go_blk b_X4_works_211 k_X4_works_211 ?_
    refine by_iconst ci_1 ?_
    refine by_iret ry_88 (by first | rfl | assumption) ?_
    exact h1
theorem Wk_pop (hF : XF h) (hpp : pp = 52 ∨ pp = 77) (hS : mSt h ((n, f, t, b, g) :: K) pc pf sp) (hK : K.length < 1600) (htn : tn < 1099511627776)
    (h1 : ∀ h', XF h' → Fr [] [(32, 10), (32, 11), (32, 12), (32, 13), (32, 14), (32, 15)] h h' → mNd h' n f t b g → mSt h' K pc pf sp → Fw sc d pp df post tn 0 h') : Wk sc d pp df post tn h := by
  obtain ⟨s1, ⟨⟨w1, w2, w3, w4, w5⟩, s2⟩, s3, s4, s5⟩ := hS
  simp only [List.length_cons] at s1
  unfold Wk
  have e' : (1099511627776 ≤ tn) = False := eq_false (by omega)
  with_reducible refine xm_go_blk b_X4_works_97 k_X4_works_97 ?_
  refine by_lload rfl ?_
  refine by_ldc2 (x := lN 1099511627776) cn_88 kl_4_108 (by decide) ?_
  refine by_lcmp ?_
  refine by_if_ge 211 rfl ?_
  simp (disch := first | exact Nat.ne_of_beq_eq_false rfl | exact rfl | omega) only [nI_add, xa_sub, xa_mul, pk_div, nm_mod, xa_shr, xa_and7, xa_and1, xa_and255, xa_by_and, nI_m1, Nat.add_sub_cancel, Nat.reducePow, Nat.zero_add, Nat.add_zero, Nat.reduceAdd, Nat.reduceMul, Nat.reduceSub, xf_same, xq_ff, xq_fo, xf_1, xf_2, xs_1, xs_2, xs_same, xq_so, xj_1, xj_2, xj_same, xq_jo, xq_sa1, xq_same, xq_other, upd_s, oI_n, oI_s, xv_0, xv_1, xv_2, xv_3, xm_p1, xm_p2, xq_fp, xq_fn, List.filter_nil, Nat.reduceBEq, Bool.not_true, Bool.not_false, Bool.and_true, Bool.and_false, Bool.false_and, Bool.true_and, if_true, if_false, Bool.false_eq_true, reduceIte, xc_i, xc_j, xc_r, xc_n, List.nil_append, List.cons_append, Option.toList_some, Option.toList_none, nI_ltJ, nI_leJ, nI_eqJ, nI_ltz, nI_gez, nI_gtz, nI_lez, nI_eqz, m1_ltz, m1_gez, true_imp_iff, false_imp_iff, true_and, and_true, ne_eq, not_false_eq_true, not_true_eq_false, Nat.reduceEqDiff, Nat.reduceLT, Nat.reduceLeDiff, lcmp_ge (show tn < 2 ^ 62 by omega) (show 1099511627776 < 2 ^ 62 by decide), e', s1, xf_32_5 hF, xf_32_6 hF, xf_32_7 hF, xf_32_8 hF, xf_32_9 hF, w1, w2, w3, w4, w5, pf_12 hF hpp]
  with_reducible refine xm_go_blk b_X4_works_106 k_X4_works_106 ?_
  refine by_aload_n rfl ?_
  refine by_getf cn_88 fl_4_92 (by first | exact rfl | assumption) (by decide) ?_
  simp (disch := first | exact Nat.ne_of_beq_eq_false rfl | exact rfl | omega) only [nI_add, xa_sub, xa_mul, pk_div, nm_mod, xa_shr, xa_and7, xa_and1, xa_and255, xa_by_and, nI_m1, Nat.add_sub_cancel, Nat.reducePow, Nat.zero_add, Nat.add_zero, Nat.reduceAdd, Nat.reduceMul, Nat.reduceSub, xf_same, xq_ff, xq_fo, xf_1, xf_2, xs_1, xs_2, xs_same, xq_so, xj_1, xj_2, xj_same, xq_jo, xq_sa1, xq_same, xq_other, upd_s, oI_n, oI_s, lcmp_ge (show tn < 2 ^ 62 by omega) (show 1099511627776 < 2 ^ 62 by decide), e', s1, xf_32_5 hF, xf_32_6 hF, xf_32_7 hF, xf_32_8 hF, xf_32_9 hF, w1, w2, w3, w4, w5, pf_12 hF hpp]
  refine by_if_le 211 rfl ?_
  simp (disch := first | exact Nat.ne_of_beq_eq_false rfl | exact rfl | omega) only [nI_add, xa_sub, xa_mul, pk_div, nm_mod, xa_shr, xa_and7, xa_and1, xa_and255, xa_by_and, nI_m1, Nat.add_sub_cancel, Nat.reducePow, Nat.zero_add, Nat.add_zero, Nat.reduceAdd, Nat.reduceMul, Nat.reduceSub, xf_same, xq_ff, xq_fo, xf_1, xf_2, xs_1, xs_2, xs_same, xq_so, xj_1, xj_2, xj_same, xq_jo, xq_sa1, xq_same, xq_other, upd_s, oI_n, oI_s, xv_0, xv_1, xv_2, xv_3, xm_p1, xm_p2, xq_fp, xq_fn, List.filter_nil, Nat.reduceBEq, Bool.not_true, Bool.not_false, Bool.and_true, Bool.and_false, Bool.false_and, Bool.true_and, if_true, if_false, Bool.false_eq_true, reduceIte, xc_i, xc_j, xc_r, xc_n, List.nil_append, List.cons_append, Option.toList_some, Option.toList_none, nI_ltJ, nI_leJ, nI_eqJ, nI_ltz, nI_gez, nI_gtz, nI_lez, nI_eqz, m1_ltz, m1_gez, true_imp_iff, false_imp_iff, true_and, and_true, ne_eq, not_false_eq_true, not_true_eq_false, Nat.reduceEqDiff, Nat.reduceLT, Nat.reduceLeDiff, lcmp_ge (show tn < 2 ^ 62 by omega) (show 1099511627776 < 2 ^ 62 by decide), e', s1, xf_32_5 hF, xf_32_6 hF, xf_32_7 hF, xf_32_8 hF, xf_32_9 hF, w1, w2, w3, w4, w5, pf_12 hF hpp]
  with_reducible refine xm_go_blk b_X4_works_113 k_X4_works_113 ?_
  refine by_aload_n rfl ?_
  refine by_dup rfl ?_
  refine by_getf cn_88 fl_4_92 (by first | exact rfl | assumption) (by decide) ?_
  refine by_iconst ci_1 ?_
  simp (disch := first | exact Nat.ne_of_beq_eq_false rfl | exact rfl | omega) only [nI_add, xa_sub, xa_mul, pk_div, nm_mod, xa_shr, xa_and7, xa_and1, xa_and255, xa_by_and, nI_m1, Nat.add_sub_cancel, Nat.reducePow, Nat.zero_add, Nat.add_zero, Nat.reduceAdd, Nat.reduceMul, Nat.reduceSub, xf_same, xq_ff, xq_fo, xf_1, xf_2, xs_1, xs_2, xs_same, xq_so, xj_1, xj_2, xj_same, xq_jo, xq_sa1, xq_same, xq_other, upd_s, oI_n, oI_s, lcmp_ge (show tn < 2 ^ 62 by omega) (show 1099511627776 < 2 ^ 62 by decide), e', s1, xf_32_5 hF, xf_32_6 hF, xf_32_7 hF, xf_32_8 hF, xf_32_9 hF, w1, w2, w3, w4, w5, pf_12 hF hpp]
  refine by_isub ?_
  refine by_putf cn_88 fl_4_92 (by first | exact rfl | assumption) (by decide) nf_4_10 ft_4_10 (by first | rfl | assumption) (by first | rfl | assumption) ?_
  refine by_aload_n rfl ?_
  refine by_aload_n rfl ?_
  refine by_getf cn_88 fl_4_22 (by first | exact rfl | assumption) (by decide) ?_
  refine by_aload_n rfl ?_
  refine by_getf cn_88 fl_4_92 (by first | exact rfl | assumption) (by decide) ?_
  simp (disch := first | exact Nat.ne_of_beq_eq_false rfl | exact rfl | omega) only [nI_add, xa_sub, xa_mul, pk_div, nm_mod, xa_shr, xa_and7, xa_and1, xa_and255, xa_by_and, nI_m1, Nat.add_sub_cancel, Nat.reducePow, Nat.zero_add, Nat.add_zero, Nat.reduceAdd, Nat.reduceMul, Nat.reduceSub, xf_same, xq_ff, xq_fo, xf_1, xf_2, xs_1, xs_2, xs_same, xq_so, xj_1, xj_2, xj_same, xq_jo, xq_sa1, xq_same, xq_other, upd_s, oI_n, oI_s, lcmp_ge (show tn < 2 ^ 62 by omega) (show 1099511627776 < 2 ^ 62 by decide), e', s1, xf_32_5 hF, xf_32_6 hF, xf_32_7 hF, xf_32_8 hF, xf_32_9 hF, w1, w2, w3, w4, w5, pf_12 hF hpp]
  first | refine by_iald (by first | exact rfl | assumption | exact ps_1 hpp | exact ps_2 hpp | exact ps_3 hpp | exact ps_4 hpp | exact ps_5 hpp | exact ps_6 hpp | exact ps_7 hpp | exact ps_8 hpp | exact ps_9 hpp | exact ps_10 hpp | exact ps_11 hpp | exact ps_15 hpp | exact ps_16 hpp | exact ps_17 hpp | exact ps_18 hpp | exact ps_19 hpp | exact ps_21 hpp | exact ps_22 hpp | exact ps_23 hpp | exact ps_24 hpp) ⟨by omega, by omega⟩ ?_ | refine by_tald rfl rfl ⟨by omega, by omega⟩ ?_
  refine by_putf cn_88 fl_4_110 (by first | exact rfl | assumption) (by decide) nf_4_11 ft_4_11 (by first | rfl | assumption) (by first | rfl | assumption) ?_
  refine by_aload_n rfl ?_
  refine by_aload_n rfl ?_
  refine by_getf cn_88 fl_4_26 (by first | exact rfl | assumption) (by decide) ?_
  refine by_aload_n rfl ?_
  refine by_getf cn_88 fl_4_92 (by first | exact rfl | assumption) (by decide) ?_
  simp (disch := first | exact Nat.ne_of_beq_eq_false rfl | exact rfl | omega) only [nI_add, xa_sub, xa_mul, pk_div, nm_mod, xa_shr, xa_and7, xa_and1, xa_and255, xa_by_and, nI_m1, Nat.add_sub_cancel, Nat.reducePow, Nat.zero_add, Nat.add_zero, Nat.reduceAdd, Nat.reduceMul, Nat.reduceSub, xf_same, xq_ff, xq_fo, xf_1, xf_2, xs_1, xs_2, xs_same, xq_so, xj_1, xj_2, xj_same, xq_jo, xq_sa1, xq_same, xq_other, upd_s, oI_n, oI_s, lcmp_ge (show tn < 2 ^ 62 by omega) (show 1099511627776 < 2 ^ 62 by decide), e', s1, xf_32_5 hF, xf_32_6 hF, xf_32_7 hF, xf_32_8 hF, xf_32_9 hF, w1, w2, w3, w4, w5, pf_12 hF hpp]
  first | refine by_iald (by first | exact rfl | assumption | exact ps_1 hpp | exact ps_2 hpp | exact ps_3 hpp | exact ps_4 hpp | exact ps_5 hpp | exact ps_6 hpp | exact ps_7 hpp | exact ps_8 hpp | exact ps_9 hpp | exact ps_10 hpp | exact ps_11 hpp | exact ps_15 hpp | exact ps_16 hpp | exact ps_17 hpp | exact ps_18 hpp | exact ps_19 hpp | exact ps_21 hpp | exact ps_22 hpp | exact ps_23 hpp | exact ps_24 hpp) ⟨by omega, by omega⟩ ?_ | refine by_tald rfl rfl ⟨by omega, by omega⟩ ?_
  refine by_putf cn_88 fl_4_59 (by first | exact rfl | assumption) (by decide) nf_4_12 ft_4_12 (by first | rfl | assumption) (by first | rfl | assumption) ?_
  refine by_aload_n rfl ?_
  refine by_aload_n rfl ?_
  refine by_getf cn_88 fl_4_29 (by first | exact rfl | assumption) (by decide) ?_
  refine by_aload_n rfl ?_
  refine by_getf cn_88 fl_4_92 (by first | exact rfl | assumption) (by decide) ?_
  simp (disch := first | exact Nat.ne_of_beq_eq_false rfl | exact rfl | omega) only [nI_add, xa_sub, xa_mul, pk_div, nm_mod, xa_shr, xa_and7, xa_and1, xa_and255, xa_by_and, nI_m1, Nat.add_sub_cancel, Nat.reducePow, Nat.zero_add, Nat.add_zero, Nat.reduceAdd, Nat.reduceMul, Nat.reduceSub, xf_same, xq_ff, xq_fo, xf_1, xf_2, xs_1, xs_2, xs_same, xq_so, xj_1, xj_2, xj_same, xq_jo, xq_sa1, xq_same, xq_other, upd_s, oI_n, oI_s, lcmp_ge (show tn < 2 ^ 62 by omega) (show 1099511627776 < 2 ^ 62 by decide), e', s1, xf_32_5 hF, xf_32_6 hF, xf_32_7 hF, xf_32_8 hF, xf_32_9 hF, w1, w2, w3, w4, w5, pf_12 hF hpp]
  first | refine by_iald (by first | exact rfl | assumption | exact ps_1 hpp | exact ps_2 hpp | exact ps_3 hpp | exact ps_4 hpp | exact ps_5 hpp | exact ps_6 hpp | exact ps_7 hpp | exact ps_8 hpp | exact ps_9 hpp | exact ps_10 hpp | exact ps_11 hpp | exact ps_15 hpp | exact ps_16 hpp | exact ps_17 hpp | exact ps_18 hpp | exact ps_19 hpp | exact ps_21 hpp | exact ps_22 hpp | exact ps_23 hpp | exact ps_24 hpp) ⟨by omega, by omega⟩ ?_ | refine by_tald rfl rfl ⟨by omega, by omega⟩ ?_
  refine by_putf cn_88 fl_4_55 (by first | exact rfl | assumption) (by decide) nf_4_13 ft_4_13 (by first | rfl | assumption) (by first | rfl | assumption) ?_
  refine by_aload_n rfl ?_
  refine by_aload_n rfl ?_
  refine by_getf cn_88 fl_4_32 (by first | exact rfl | assumption) (by decide) ?_
  refine by_aload_n rfl ?_
  refine by_getf cn_88 fl_4_92 (by first | exact rfl | assumption) (by decide) ?_
  simp (disch := first | exact Nat.ne_of_beq_eq_false rfl | exact rfl | omega) only [nI_add, xa_sub, xa_mul, pk_div, nm_mod, xa_shr, xa_and7, xa_and1, xa_and255, xa_by_and, nI_m1, Nat.add_sub_cancel, Nat.reducePow, Nat.zero_add, Nat.add_zero, Nat.reduceAdd, Nat.reduceMul, Nat.reduceSub, xf_same, xq_ff, xq_fo, xf_1, xf_2, xs_1, xs_2, xs_same, xq_so, xj_1, xj_2, xj_same, xq_jo, xq_sa1, xq_same, xq_other, upd_s, oI_n, oI_s, lcmp_ge (show tn < 2 ^ 62 by omega) (show 1099511627776 < 2 ^ 62 by decide), e', s1, xf_32_5 hF, xf_32_6 hF, xf_32_7 hF, xf_32_8 hF, xf_32_9 hF, w1, w2, w3, w4, w5, pf_12 hF hpp]
  first | refine by_iald (by first | exact rfl | assumption | exact ps_1 hpp | exact ps_2 hpp | exact ps_3 hpp | exact ps_4 hpp | exact ps_5 hpp | exact ps_6 hpp | exact ps_7 hpp | exact ps_8 hpp | exact ps_9 hpp | exact ps_10 hpp | exact ps_11 hpp | exact ps_15 hpp | exact ps_16 hpp | exact ps_17 hpp | exact ps_18 hpp | exact ps_19 hpp | exact ps_21 hpp | exact ps_22 hpp | exact ps_23 hpp | exact ps_24 hpp) ⟨by omega, by omega⟩ ?_ | refine by_tald rfl rfl ⟨by omega, by omega⟩ ?_
  refine by_putf cn_88 fl_4_113 (by first | exact rfl | assumption) (by decide) nf_4_14 ft_4_14 (by first | rfl | assumption) (by first | rfl | assumption) ?_
  refine by_aload_n rfl ?_
  refine by_aload_n rfl ?_
  refine by_getf cn_88 fl_4_35 (by first | exact rfl | assumption) (by decide) ?_
  refine by_aload_n rfl ?_
  refine by_getf cn_88 fl_4_92 (by first | exact rfl | assumption) (by decide) ?_
  simp (disch := first | exact Nat.ne_of_beq_eq_false rfl | exact rfl | omega) only [nI_add, xa_sub, xa_mul, pk_div, nm_mod, xa_shr, xa_and7, xa_and1, xa_and255, xa_by_and, nI_m1, Nat.add_sub_cancel, Nat.reducePow, Nat.zero_add, Nat.add_zero, Nat.reduceAdd, Nat.reduceMul, Nat.reduceSub, xf_same, xq_ff, xq_fo, xf_1, xf_2, xs_1, xs_2, xs_same, xq_so, xj_1, xj_2, xj_same, xq_jo, xq_sa1, xq_same, xq_other, upd_s, oI_n, oI_s, lcmp_ge (show tn < 2 ^ 62 by omega) (show 1099511627776 < 2 ^ 62 by decide), e', s1, xf_32_5 hF, xf_32_6 hF, xf_32_7 hF, xf_32_8 hF, xf_32_9 hF, w1, w2, w3, w4, w5, pf_12 hF hpp]
  first | refine by_iald (by first | exact rfl | assumption | exact ps_1 hpp | exact ps_2 hpp | exact ps_3 hpp | exact ps_4 hpp | exact ps_5 hpp | exact ps_6 hpp | exact ps_7 hpp | exact ps_8 hpp | exact ps_9 hpp | exact ps_10 hpp | exact ps_11 hpp | exact ps_15 hpp | exact ps_16 hpp | exact ps_17 hpp | exact ps_18 hpp | exact ps_19 hpp | exact ps_21 hpp | exact ps_22 hpp | exact ps_23 hpp | exact ps_24 hpp) ⟨by omega, by omega⟩ ?_ | refine by_tald rfl rfl ⟨by omega, by omega⟩ ?_
  refine by_putf cn_88 fl_4_116 (by first | exact rfl | assumption) (by decide) nf_4_15 ft_4_15 (by first | rfl | assumption) (by first | rfl | assumption) ?_
  refine by_aload_n rfl ?_
  refine by_aload_n rfl ?_
  refine by_getf cn_88 fl_4_119 (by first | exact rfl | assumption | exact ps_0 hpp) (by decide) ?_
  refine by_iload_n rfl ?_
  simp (disch := first | exact Nat.ne_of_beq_eq_false rfl | exact rfl | omega) only [nI_add, xa_sub, xa_mul, pk_div, nm_mod, xa_shr, xa_and7, xa_and1, xa_and255, xa_by_and, nI_m1, Nat.add_sub_cancel, Nat.reducePow, Nat.zero_add, Nat.add_zero, Nat.reduceAdd, Nat.reduceMul, Nat.reduceSub, xf_same, xq_ff, xq_fo, xf_1, xf_2, xs_1, xs_2, xs_same, xq_so, xj_1, xj_2, xj_same, xq_jo, xq_sa1, xq_same, xq_other, upd_s, oI_n, oI_s, xv_0, xv_1, xv_2, xv_3, xm_p1, xm_p2, xq_fp, xq_fn, List.filter_nil, Nat.reduceBEq, Bool.not_true, Bool.not_false, Bool.and_true, Bool.and_false, Bool.false_and, Bool.true_and, if_true, if_false, Bool.false_eq_true, reduceIte, xc_i, xc_j, xc_r, xc_n, List.nil_append, List.cons_append, Option.toList_some, Option.toList_none, lcmp_ge (show tn < 2 ^ 62 by omega) (show 1099511627776 < 2 ^ 62 by decide), e', s1, xf_32_5 hF, xf_32_6 hF, xf_32_7 hF, xf_32_8 hF, xf_32_9 hF, w1, w2, w3, w4, w5, pf_12 hF hpp]
  refine by_inv2 cn_88 lk_4_123 (by rw [xe_cnt]; decide) is_82 np_82 cn_82 (by first | exact rfl | assumption) (Nat.le_of_ble_eq_true rfl) ?_
  refine xq_in rfl ?_
  simp only [xq_a0, xq_aI, xq_aJ, xq_aR, Nat.reduceAdd]
  have f1 : Fr [] [(32, 10), (32, 11), (32, 12), (32, 13), (32, 14), (32, 15)] h (xm_sf (xm_sf (xm_sf (xm_sf (xm_sf (xm_sf h 32 10 (.int (nI K.length))) 32 11 (.int (nI n))) 32 12 (.int (nI f))) 32 13 (.int (nI t))) 32 14 (.int (nI b))) 32 15 (.int (nI g))) := Fr_sf (Fr_sf (Fr_sf (Fr_sf (Fr_sf (Fr_sf Fr_rf (by simp)) (by simp)) (by simp)) (by simp)) (by simp)) (by simp)
  have h2 := h1 _ (Fr_XF hF f1 (by decide +kernel)) f1 ⟨by simp [xm_sf, updV], by simp [xm_sf, updV], by simp [xm_sf, updV], by simp [xm_sf, updV], by simp [xm_sf, updV]⟩ ⟨by simp [xm_sf, updV], wtS_o s2 (fun _ _ => ⟨rfl, rfl, rfl, rfl, rfl⟩), by rw [← s3]; simp [xm_sf, updV], by rw [← s4]; simp [xm_sf, updV], by rw [← s5]; simp [xm_sf, updV]⟩
  with_reducible refine xm_go_blk b_X4_follow_0 k_X4_follow_0 ?_
  refine by_iconst ci_0 ?_
  refine by_istore_n (by rw [ml_82]; decide) ?_
  refine by_nil ?_
  try simp (disch := first | exact Nat.ne_of_beq_eq_false rfl | exact rfl | omega) only [nI_add, xa_sub, xa_mul, pk_div, nm_mod, xa_shr, xa_and7, xa_and1, xa_and255, xa_by_and, nI_m1, Nat.add_sub_cancel, Nat.reducePow, Nat.zero_add, Nat.add_zero, Nat.reduceAdd, Nat.reduceMul, Nat.reduceSub, xf_same, xq_ff, xq_fo, xf_1, xf_2, xs_1, xs_2, xs_same, xq_so, xj_1, xj_2, xj_same, xq_jo, xq_sa1, xq_same, xq_other, upd_s, oI_n, oI_s, xv_0, xv_1, xv_2, xv_3, xm_p1, xm_p2, xq_fp, xq_fn, List.filter_nil, Nat.reduceBEq, Bool.not_true, Bool.not_false, Bool.and_true, Bool.and_false, Bool.false_and, Bool.true_and, if_true, if_false, Bool.false_eq_true, reduceIte, xc_i, xc_j, xc_r, xc_n, List.nil_append, List.cons_append, Option.toList_some, Option.toList_none]
  exact xm_go_wk (by simp [Value.category]) h2
end MW
