/-! ===== nodes that are the same: which one stands for which ===== -/
def smK (cd : Nat → Nat) (c1 c2 : Nat → Option Nat) (D SO TA : Nat → Int32) (W : Nat → Nat → Int32) (tw : Nat → Nat) (a b : Nat) : Prop := cd a = cd b ∧ cd a ≠ 10 ∧ (cd a = 11 → ∀ k, k < 8 → W a k = W b k) ∧ (cd a ≠ 11 → (c1 a).map tw = (c1 b).map tw ∧ (c2 a).map tw = (c2 b).map tw ∧ D a = D b ∧ SO a = SO b ∧ TA a = TA b)
def twR (sm : (Nat → Nat) → Nat → Nat → Prop) (L : List Nat) (tw : Nat → Nat) : Prop := ∀ A n B, L = A ++ n :: B → (tw n = n ∧ ∀ m ∈ A, tw m = m → ¬ sm tw m n) ∨ (tw n ∈ A ∧ tw (tw n) = tw n ∧ sm tw (tw n) n)
theorem app_snoc {A B X : List Nat} {n m : Nat} (e : A ++ [n] = X ++ m :: B) : (B = [] ∧ m = n ∧ X = A) ∨ ∃ B', B = B' ++ [n] ∧ A = X ++ m :: B' := by
  rcases List.eq_nil_or_concat B with rfl | ⟨B', b, rfl⟩
  · have := List.append_inj' e (by simp)
    simp at this
    exact Or.inl ⟨rfl, this.2.symm, this.1.symm⟩
  · right
    rw [List.concat_eq_append] at e ⊢
    have e' : A ++ [n] = (X ++ m :: B') ++ [b] := by rw [e]; simp
    have := List.append_inj' e' (by simp)
    simp at this
    exact ⟨B', by rw [this.2], this.1⟩
/-- one node more -/
theorem twR_snoc {sm : (Nat → Nat) → Nat → Nat → Prop} {A : List Nat} {n v : Nat} {tw : Nat → Nat} (h : twR sm A tw) (hn : n ∉ A) (hsm : ∀ a b, a ∈ A ++ [n] → b ∈ A ++ [n] → (sm (updN tw n v) a b ↔ sm tw a b)) (hv : (v = n ∧ ∀ m ∈ A, tw m = m → ¬ sm tw m n) ∨ (v ∈ A ∧ tw v = v ∧ sm tw v n)) : twR sm (A ++ [n]) (updN tw n v) := by
  intro X m B e
  rcases app_snoc e with ⟨rfl, rfl, rfl⟩ | ⟨B', rfl, e'⟩
  · rw [updN_s]
    rcases hv with ⟨v1, v2⟩ | ⟨v1, v2, v3⟩
    · refine Or.inl ⟨v1, fun a ha hta => ?_⟩
      have han : a ≠ m := fun z => hn (by rw [← z]; exact ha)
      rw [updN_o han] at hta
      rw [hsm a m (List.mem_append_left _ ha) (List.mem_append_right _ (by simp))]
      exact v2 a ha hta
    · have hvn : v ≠ m := fun z => hn (by rw [← z]; exact v1)
      refine Or.inr ⟨v1, by rw [updN_o hvn]; exact v2, ?_⟩
      rw [hsm v m (List.mem_append_left _ v1) (List.mem_append_right _ (by simp))]
      exact v3
  · have hmA : m ∈ A := by rw [e']; simp
    have hmn : m ≠ n := fun z => hn (by rw [← z]; exact hmA)
    have hXA : ∀ a ∈ X, a ∈ A := fun a ha => by rw [e']; exact List.mem_append_left _ ha
    rw [updN_o hmn]
    rcases h X m B' e' with ⟨v1, v2⟩ | ⟨v1, v2, v3⟩
    · refine Or.inl ⟨v1, fun a ha hta => ?_⟩
      have han : a ≠ n := fun z => hn (by rw [← z]; exact hXA a ha)
      rw [updN_o han] at hta
      rw [hsm a m (List.mem_append_left _ (hXA a ha)) (List.mem_append_left _ hmA)]
      exact v2 a ha hta
    · have hvn : tw m ≠ n := fun z => hn (by rw [← z]; exact hXA _ v1)
      refine Or.inr ⟨v1, by rw [updN_o hvn]; exact v2, ?_⟩
      rw [hsm _ m (List.mem_append_left _ (hXA _ v1)) (List.mem_append_left _ hmA)]
      exact v3
theorem opt_map_upd {c : Option Nat} {tw : Nat → Nat} {n v : Nat} (h : ∀ x, c = some x → x ≠ n) : c.map (updN tw n v) = c.map tw := by
  cases c with
  | none => rfl
  | some x => simp only [Option.map_some]; rw [updN_o (h x rfl)]
theorem smK_upd {cd : Nat → Nat} {c1 c2 : Nat → Option Nat} {D SO TA : Nat → Int32} {W : Nat → Nat → Int32} {tw : Nat → Nat} {n v a b : Nat} (ha : ∀ x, (c1 a = some x ∨ c2 a = some x) → x ≠ n) (hb : ∀ x, (c1 b = some x ∨ c2 b = some x) → x ≠ n) : smK cd c1 c2 D SO TA W (updN tw n v) a b ↔ smK cd c1 c2 D SO TA W tw a b := by
  unfold smK
  rw [opt_map_upd (fun x hx => ha x (Or.inl hx)), opt_map_upd (fun x hx => ha x (Or.inr hx)), opt_map_upd (fun x hx => hb x (Or.inl hx)), opt_map_upd (fun x hx => hb x (Or.inr hx))]
section MG
variable {sc : xm_Sc} {d pp n s : Nat} {cd : Nat → Nat} {h : xm_H} {post : xm_Po}
theorem sp_twinOf {P sm : Nat → Prop} {sl : Nat → Nat} (hF : XF h) (hpp : pp = 52 ∨ pp = 77) (hn : n < 2000) (a1 : h.1 (pp + 1) n = nI (cd n)) (hc12 : cd n ≤ 12) (hw : cd n ≠ 10) (hc : hc_ok (h.1 14) (h.1 13) sl P 1024) (hP : ∀ m, P m → m < 2000) (hPn : ¬ P n) (hs : s < 1024) (hsl : ∀ m, P m → sm m → sl m = s)
    (hslot : ∀ post : xm_Po, post (some (.int (nI s))) h → xm_T (XE sc) (d + 1) 95 [.ref pp, .int (nI n)] h post)
    (hsame : ∀ m, P m → ∀ post : xm_Po, (sm m → post (some (.int (nI 1))) h) → (¬ sm m → post (some (.int (nI 0))) h) → xm_T (XE sc) (d + 1) 89 [.ref pp, .int (nI n), .int (nI m)] h post)
    (hp1 : ∀ m, P m → sm m → post (some (.int (nI m))) h) (hp0 : (∀ m, P m → ¬ sm m) → post (some (.int (nI n))) (xm_si (xm_si h 13 n (h.1 14 s)) 14 s (nI n))) : xm_T (XE sc) (d + 2) 96 [.ref 7, .ref pp, .int (nI n)] h post := by
  obtain ⟨cs, c1, c2, c3⟩ := hc s hs
  have hlen : cs.length ≤ 1999 := by
    have := nd_len 2000 (n :: cs) (List.nodup_cons.mpr ⟨fun z => hPn ((c3 n).mp z).1, c2⟩) (fun x hx => by
      rcases List.mem_cons.mp hx with rfl | hx
      · exact hn
      · exact hP x ((c3 x).mp hx).1)
    simp only [List.length_cons] at this
    omega
  have key : ∀ (cs' : List Nat) (x : Int32) (i : Nat), hc_lk (h.1 13) x cs' → (∀ j ∈ cs', P j) → i + cs'.length ≤ 1999 → (∀ j ∈ cs, j ∈ cs' ∨ ¬ sm j) → xm_go (XE sc) (xm_T (XE sc) (d + 1)) 96 post 30 [(5, .int (nI i)), (4, .int x), (3, .int (nI s)), (0, .ref 7), (1, .ref pp), (2, .int (nI n))] [] h := by
    intro cs'
    induction cs' with
    | nil =>
      intro x i hx _ hi hno
      have hx : x = -1 := hx
      subst hx
      simp only [List.length_nil] at hi
      with_reducible refine xm_go_blk b_X5_twinOf_30 k_X5_twinOf_30 ?_
      refine by_iload rfl ?_
      refine by_sipush cs_2000 ?_
      refine by_ic_ge 71 rfl ?_
      simp (disch := first | exact Nat.ne_of_beq_eq_false rfl | exact rfl | omega) only [nI_add, xa_sub, xa_mul, pk_div, nm_mod, xa_shr, xa_and7, xa_and1, xa_and255, xa_by_and, nI_m1, Nat.add_sub_cancel, Nat.reducePow, Nat.zero_add, Nat.add_zero, Nat.reduceAdd, Nat.reduceMul, Nat.reduceSub, xf_same, xq_ff, xq_fo, xf_1, xf_2, xs_1, xs_2, xs_same, xq_so, xj_1, xj_2, xj_same, xq_jo, xq_sa1, xq_same, xq_other, upd_s, oI_n, oI_s, xv_0, xv_1, xv_2, xv_3, xm_p1, xm_p2, xq_fp, xq_fn, List.filter_nil, Nat.reduceBEq, Bool.not_true, Bool.not_false, Bool.and_true, Bool.and_false, Bool.false_and, Bool.true_and, if_true, if_false, Bool.false_eq_true, reduceIte, xc_i, xc_j, xc_r, xc_n, List.nil_append, List.cons_append, Option.toList_some, Option.toList_none, nI_ltJ, nI_leJ, nI_eqJ, nI_ltz, nI_gez, nI_gtz, nI_lez, nI_eqz, m1_ltz, m1_gez, true_imp_iff, false_imp_iff, true_and, and_true, ne_eq, not_false_eq_true, not_true_eq_false, Nat.reduceEqDiff, Nat.reduceLT, Nat.reduceLeDiff, xf_7_6 hF, xf_7_7 hF, m1_ltz]
      refine ⟨fun c => absurd c (by omega), fun c30 => ?_⟩
      with_reducible refine xm_go_blk b_X5_twinOf_38 k_X5_twinOf_38 ?_
      refine by_iload rfl ?_
      refine by_if_lt 71 rfl ?_
      simp (disch := first | exact Nat.ne_of_beq_eq_false rfl | exact rfl | omega) only [nI_add, xa_sub, xa_mul, pk_div, nm_mod, xa_shr, xa_and7, xa_and1, xa_and255, xa_by_and, nI_m1, Nat.add_sub_cancel, Nat.reducePow, Nat.zero_add, Nat.add_zero, Nat.reduceAdd, Nat.reduceMul, Nat.reduceSub, xf_same, xq_ff, xq_fo, xf_1, xf_2, xs_1, xs_2, xs_same, xq_so, xj_1, xj_2, xj_same, xq_jo, xq_sa1, xq_same, xq_other, upd_s, oI_n, oI_s, xv_0, xv_1, xv_2, xv_3, xm_p1, xm_p2, xq_fp, xq_fn, List.filter_nil, Nat.reduceBEq, Bool.not_true, Bool.not_false, Bool.and_true, Bool.and_false, Bool.false_and, Bool.true_and, if_true, if_false, Bool.false_eq_true, reduceIte, xc_i, xc_j, xc_r, xc_n, List.nil_append, List.cons_append, Option.toList_some, Option.toList_none, nI_ltJ, nI_leJ, nI_eqJ, nI_ltz, nI_gez, nI_gtz, nI_lez, nI_eqz, m1_ltz, m1_gez, true_imp_iff, false_imp_iff, true_and, and_true, ne_eq, not_false_eq_true, not_true_eq_false, Nat.reduceEqDiff, Nat.reduceLT, Nat.reduceLeDiff, xf_7_6 hF, xf_7_7 hF, m1_ltz]
      with_reducible refine xm_go_blk b_X5_twinOf_71 k_X5_twinOf_71 ?_
      refine by_aload_n rfl ?_
      refine by_getf cn_96 fl_5_27 (by first | exact rfl | assumption) (by decide) ?_
      refine by_iload_n rfl ?_
      refine by_aload_n rfl ?_
      refine by_getf cn_96 fl_5_30 (by first | exact rfl | assumption) (by decide) ?_
      refine by_iload_n rfl ?_
      simp (disch := first | exact Nat.ne_of_beq_eq_false rfl | exact rfl | omega) only [nI_add, xa_sub, xa_mul, pk_div, nm_mod, xa_shr, xa_and7, xa_and1, xa_and255, xa_by_and, nI_m1, Nat.add_sub_cancel, Nat.reducePow, Nat.zero_add, Nat.add_zero, Nat.reduceAdd, Nat.reduceMul, Nat.reduceSub, xf_same, xq_ff, xq_fo, xf_1, xf_2, xs_1, xs_2, xs_same, xq_so, xj_1, xj_2, xj_same, xq_jo, xq_sa1, xq_same, xq_other, upd_s, oI_n, oI_s, xf_7_6 hF, xf_7_7 hF, m1_ltz]
      first | refine by_iald (by first | exact rfl | assumption | exact ps_1 hpp | exact ps_2 hpp | exact ps_3 hpp | exact ps_4 hpp | exact ps_5 hpp | exact ps_6 hpp | exact ps_7 hpp | exact ps_8 hpp | exact ps_9 hpp | exact ps_10 hpp | exact ps_11 hpp | exact ps_15 hpp | exact ps_16 hpp | exact ps_17 hpp | exact ps_18 hpp | exact ps_19 hpp | exact ps_21 hpp | exact ps_22 hpp | exact ps_23 hpp | exact ps_24 hpp) ⟨by omega, by omega⟩ ?_ | refine by_tald rfl rfl ⟨by omega, by omega⟩ ?_
      refine by_iast (by first | exact rfl | assumption | exact ps_1 hpp | exact ps_2 hpp | exact ps_3 hpp | exact ps_4 hpp | exact ps_5 hpp | exact ps_6 hpp | exact ps_7 hpp | exact ps_8 hpp | exact ps_9 hpp | exact ps_10 hpp | exact ps_11 hpp | exact ps_15 hpp | exact ps_16 hpp | exact ps_17 hpp | exact ps_18 hpp | exact ps_19 hpp | exact ps_21 hpp | exact ps_22 hpp | exact ps_23 hpp | exact ps_24 hpp) ⟨by omega, by omega⟩ ?_
      refine by_aload_n rfl ?_
      refine by_getf cn_96 fl_5_30 (by first | exact rfl | assumption) (by decide) ?_
      refine by_iload_n rfl ?_
      refine by_iload_n rfl ?_
      simp (disch := first | exact Nat.ne_of_beq_eq_false rfl | exact rfl | omega) only [nI_add, xa_sub, xa_mul, pk_div, nm_mod, xa_shr, xa_and7, xa_and1, xa_and255, xa_by_and, nI_m1, Nat.add_sub_cancel, Nat.reducePow, Nat.zero_add, Nat.add_zero, Nat.reduceAdd, Nat.reduceMul, Nat.reduceSub, xf_same, xq_ff, xq_fo, xf_1, xf_2, xs_1, xs_2, xs_same, xq_so, xj_1, xj_2, xj_same, xq_jo, xq_sa1, xq_same, xq_other, upd_s, oI_n, oI_s, xf_7_6 hF, xf_7_7 hF, m1_ltz]
      refine by_iast (by first | exact rfl | assumption | exact ps_1 hpp | exact ps_2 hpp | exact ps_3 hpp | exact ps_4 hpp | exact ps_5 hpp | exact ps_6 hpp | exact ps_7 hpp | exact ps_8 hpp | exact ps_9 hpp | exact ps_10 hpp | exact ps_11 hpp | exact ps_15 hpp | exact ps_16 hpp | exact ps_17 hpp | exact ps_18 hpp | exact ps_19 hpp | exact ps_21 hpp | exact ps_22 hpp | exact ps_23 hpp | exact ps_24 hpp) ⟨by omega, by omega⟩ ?_
      refine by_iload_n rfl ?_
      refine by_iret ry_96 (by first | rfl | assumption) ?_
      refine hp0 (fun m hm hsm => ?_)
      rcases hno m ((c3 m).mpr ⟨hm, hsl m hm hsm⟩) with z | z
      · cases z
      · exact z hsm
    | cons j cs' ih =>
      intro x i hx hlt hi hno
      obtain ⟨hx, hx'⟩ := hx
      subst hx
      have hj := hlt j (List.mem_cons_self ..)
      have hj2 := hP j hj
      simp only [List.length_cons] at hi
      with_reducible refine xm_go_blk b_X5_twinOf_30 k_X5_twinOf_30 ?_
      refine by_iload rfl ?_
      refine by_sipush cs_2000 ?_
      refine by_ic_ge 71 rfl ?_
      simp (disch := first | exact Nat.ne_of_beq_eq_false rfl | exact rfl | omega) only [nI_add, xa_sub, xa_mul, pk_div, nm_mod, xa_shr, xa_and7, xa_and1, xa_and255, xa_by_and, nI_m1, Nat.add_sub_cancel, Nat.reducePow, Nat.zero_add, Nat.add_zero, Nat.reduceAdd, Nat.reduceMul, Nat.reduceSub, xf_same, xq_ff, xq_fo, xf_1, xf_2, xs_1, xs_2, xs_same, xq_so, xj_1, xj_2, xj_same, xq_jo, xq_sa1, xq_same, xq_other, upd_s, oI_n, oI_s, xv_0, xv_1, xv_2, xv_3, xm_p1, xm_p2, xq_fp, xq_fn, List.filter_nil, Nat.reduceBEq, Bool.not_true, Bool.not_false, Bool.and_true, Bool.and_false, Bool.false_and, Bool.true_and, if_true, if_false, Bool.false_eq_true, reduceIte, xc_i, xc_j, xc_r, xc_n, List.nil_append, List.cons_append, Option.toList_some, Option.toList_none, nI_ltJ, nI_leJ, nI_eqJ, nI_ltz, nI_gez, nI_gtz, nI_lez, nI_eqz, m1_ltz, m1_gez, true_imp_iff, false_imp_iff, true_and, and_true, ne_eq, not_false_eq_true, not_true_eq_false, Nat.reduceEqDiff, Nat.reduceLT, Nat.reduceLeDiff]
      refine ⟨fun c => absurd c (by omega), fun c30 => ?_⟩
      with_reducible refine xm_go_blk b_X5_twinOf_38 k_X5_twinOf_38 ?_
      refine by_iload rfl ?_
      refine by_if_lt 71 rfl ?_
      simp (disch := first | exact Nat.ne_of_beq_eq_false rfl | exact rfl | omega) only [nI_add, xa_sub, xa_mul, pk_div, nm_mod, xa_shr, xa_and7, xa_and1, xa_and255, xa_by_and, nI_m1, Nat.add_sub_cancel, Nat.reducePow, Nat.zero_add, Nat.add_zero, Nat.reduceAdd, Nat.reduceMul, Nat.reduceSub, xf_same, xq_ff, xq_fo, xf_1, xf_2, xs_1, xs_2, xs_same, xq_so, xj_1, xj_2, xj_same, xq_jo, xq_sa1, xq_same, xq_other, upd_s, oI_n, oI_s, xv_0, xv_1, xv_2, xv_3, xm_p1, xm_p2, xq_fp, xq_fn, List.filter_nil, Nat.reduceBEq, Bool.not_true, Bool.not_false, Bool.and_true, Bool.and_false, Bool.false_and, Bool.true_and, if_true, if_false, Bool.false_eq_true, reduceIte, xc_i, xc_j, xc_r, xc_n, List.nil_append, List.cons_append, Option.toList_some, Option.toList_none, nI_ltJ, nI_leJ, nI_eqJ, nI_ltz, nI_gez, nI_gtz, nI_lez, nI_eqz, m1_ltz, m1_gez, true_imp_iff, false_imp_iff, true_and, and_true, ne_eq, not_false_eq_true, not_true_eq_false, Nat.reduceEqDiff, Nat.reduceLT, Nat.reduceLeDiff]
      with_reducible refine xm_go_blk b_X5_twinOf_43 k_X5_twinOf_43 ?_
      refine by_aload_n rfl ?_
      refine by_iload_n rfl ?_
      refine by_iload rfl ?_
      refine by_ins3 cn_96 lk_5_80 (by rw [xe_cnt]; decide) is_89 np_89 (Nat.le_of_ble_eq_true rfl) ?_
      refine hsame j hj _ (fun z => ?_) (fun z => ?_)
      · with_reducible refine xm_go_blk b_X5_twinOf_50 k_X5_twinOf_50 ?_
        refine by_if_eq 56 rfl ?_
        simp (disch := first | exact Nat.ne_of_beq_eq_false rfl | exact rfl | omega) only [nI_add, xa_sub, xa_mul, pk_div, nm_mod, xa_shr, xa_and7, xa_and1, xa_and255, xa_by_and, nI_m1, Nat.add_sub_cancel, Nat.reducePow, Nat.zero_add, Nat.add_zero, Nat.reduceAdd, Nat.reduceMul, Nat.reduceSub, xf_same, xq_ff, xq_fo, xf_1, xf_2, xs_1, xs_2, xs_same, xq_so, xj_1, xj_2, xj_same, xq_jo, xq_sa1, xq_same, xq_other, upd_s, oI_n, oI_s, xv_0, xv_1, xv_2, xv_3, xm_p1, xm_p2, xq_fp, xq_fn, List.filter_nil, Nat.reduceBEq, Bool.not_true, Bool.not_false, Bool.and_true, Bool.and_false, Bool.false_and, Bool.true_and, if_true, if_false, Bool.false_eq_true, reduceIte, xc_i, xc_j, xc_r, xc_n, List.nil_append, List.cons_append, Option.toList_some, Option.toList_none, nI_ltJ, nI_leJ, nI_eqJ, nI_ltz, nI_gez, nI_gtz, nI_lez, nI_eqz, m1_ltz, m1_gez, true_imp_iff, false_imp_iff, true_and, and_true, ne_eq, not_false_eq_true, not_true_eq_false, Nat.reduceEqDiff, Nat.reduceLT, Nat.reduceLeDiff]
        with_reducible refine xm_go_blk b_X5_twinOf_53 k_X5_twinOf_53 ?_
        refine by_iload rfl ?_
        refine by_iret ry_96 (by first | rfl | assumption) ?_
        exact hp1 j hj z
      · with_reducible refine xm_go_blk b_X5_twinOf_50 k_X5_twinOf_50 ?_
        refine by_if_eq 56 rfl ?_
        simp (disch := first | exact Nat.ne_of_beq_eq_false rfl | exact rfl | omega) only [nI_add, xa_sub, xa_mul, pk_div, nm_mod, xa_shr, xa_and7, xa_and1, xa_and255, xa_by_and, nI_m1, Nat.add_sub_cancel, Nat.reducePow, Nat.zero_add, Nat.add_zero, Nat.reduceAdd, Nat.reduceMul, Nat.reduceSub, xf_same, xq_ff, xq_fo, xf_1, xf_2, xs_1, xs_2, xs_same, xq_so, xj_1, xj_2, xj_same, xq_jo, xq_sa1, xq_same, xq_other, upd_s, oI_n, oI_s, xv_0, xv_1, xv_2, xv_3, xm_p1, xm_p2, xq_fp, xq_fn, List.filter_nil, Nat.reduceBEq, Bool.not_true, Bool.not_false, Bool.and_true, Bool.and_false, Bool.false_and, Bool.true_and, if_true, if_false, Bool.false_eq_true, reduceIte, xc_i, xc_j, xc_r, xc_n, List.nil_append, List.cons_append, Option.toList_some, Option.toList_none, nI_ltJ, nI_leJ, nI_eqJ, nI_ltz, nI_gez, nI_gtz, nI_lez, nI_eqz, m1_ltz, m1_gez, true_imp_iff, false_imp_iff, true_and, and_true, ne_eq, not_false_eq_true, not_true_eq_false, Nat.reduceEqDiff, Nat.reduceLT, Nat.reduceLeDiff, xf_7_6 hF]
        with_reducible refine xm_go_blk b_X5_twinOf_56 k_X5_twinOf_56 ?_
        refine by_aload_n rfl ?_
        refine by_getf cn_96 fl_5_27 (by first | exact rfl | assumption) (by decide) ?_
        refine by_iload rfl ?_
        simp (disch := first | exact Nat.ne_of_beq_eq_false rfl | exact rfl | omega) only [nI_add, xa_sub, xa_mul, pk_div, nm_mod, xa_shr, xa_and7, xa_and1, xa_and255, xa_by_and, nI_m1, Nat.add_sub_cancel, Nat.reducePow, Nat.zero_add, Nat.add_zero, Nat.reduceAdd, Nat.reduceMul, Nat.reduceSub, xf_same, xq_ff, xq_fo, xf_1, xf_2, xs_1, xs_2, xs_same, xq_so, xj_1, xj_2, xj_same, xq_jo, xq_sa1, xq_same, xq_other, upd_s, oI_n, oI_s, xf_7_6 hF]
        first | refine by_iald (by first | exact rfl | assumption | exact ps_1 hpp | exact ps_2 hpp | exact ps_3 hpp | exact ps_4 hpp | exact ps_5 hpp | exact ps_6 hpp | exact ps_7 hpp | exact ps_8 hpp | exact ps_9 hpp | exact ps_10 hpp | exact ps_11 hpp | exact ps_15 hpp | exact ps_16 hpp | exact ps_17 hpp | exact ps_18 hpp | exact ps_19 hpp | exact ps_21 hpp | exact ps_22 hpp | exact ps_23 hpp | exact ps_24 hpp) ⟨by omega, by omega⟩ ?_ | refine by_tald rfl rfl ⟨by omega, by omega⟩ ?_
        refine by_istore (by rw [ml_96]; decide) ?_
        refine by_iinc (by rw [ml_96]; decide) rfl ci_1 ?_
        refine by_goto 30 rfl ?_
        simp (disch := first | exact Nat.ne_of_beq_eq_false rfl | exact rfl | omega) only [nI_add, xa_sub, xa_mul, pk_div, nm_mod, xa_shr, xa_and7, xa_and1, xa_and255, xa_by_and, nI_m1, Nat.add_sub_cancel, Nat.reducePow, Nat.zero_add, Nat.add_zero, Nat.reduceAdd, Nat.reduceMul, Nat.reduceSub, xf_same, xq_ff, xq_fo, xf_1, xf_2, xs_1, xs_2, xs_same, xq_so, xj_1, xj_2, xj_same, xq_jo, xq_sa1, xq_same, xq_other, upd_s, oI_n, oI_s, xv_0, xv_1, xv_2, xv_3, xm_p1, xm_p2, xq_fp, xq_fn, List.filter_nil, Nat.reduceBEq, Bool.not_true, Bool.not_false, Bool.and_true, Bool.and_false, Bool.false_and, Bool.true_and, if_true, if_false, Bool.false_eq_true, reduceIte, xc_i, xc_j, xc_r, xc_n, List.nil_append, List.cons_append, Option.toList_some, Option.toList_none, xf_7_6 hF]
        refine xm_go_wk (by simp [Value.category]) (ih _ (i + 1) hx' (fun q hq => hlt q (List.mem_cons_of_mem _ hq)) (by omega) (fun q hq => ?_))
        rcases hno q hq with y | y
        · rcases List.mem_cons.mp y with y | y
          · right; rw [y]; exact z
          · exact Or.inl y
        · exact Or.inr y
  have e0 : (cd n = 10) = False := eq_false hw
  refine xq_in rfl ?_
  simp only [xq_a0, xq_aI, xq_aJ, xq_aR, Nat.reduceAdd]
  with_reducible refine xm_go_blk b_X5_twinOf_0 k_X5_twinOf_0 ?_
  refine by_aload_n rfl ?_
  refine by_getf cn_96 fl_5_55 (by first | exact rfl | assumption | exact ps_0 hpp) (by decide) ?_
  refine by_iload_n rfl ?_
  simp (disch := first | exact Nat.ne_of_beq_eq_false rfl | exact rfl | omega) only [nI_add, xa_sub, xa_mul, pk_div, nm_mod, xa_shr, xa_and7, xa_and1, xa_and255, xa_by_and, nI_m1, Nat.add_sub_cancel, Nat.reducePow, Nat.zero_add, Nat.add_zero, Nat.reduceAdd, Nat.reduceMul, Nat.reduceSub, xf_same, xq_ff, xq_fo, xf_1, xf_2, xs_1, xs_2, xs_same, xq_so, xj_1, xj_2, xj_same, xq_jo, xq_sa1, xq_same, xq_other, upd_s, oI_n, oI_s, pf_1 hF hpp, a1, e0]
  first | refine by_iald (by first | exact rfl | assumption | exact ps_1 hpp | exact ps_2 hpp | exact ps_3 hpp | exact ps_4 hpp | exact ps_5 hpp | exact ps_6 hpp | exact ps_7 hpp | exact ps_8 hpp | exact ps_9 hpp | exact ps_10 hpp | exact ps_11 hpp | exact ps_15 hpp | exact ps_16 hpp | exact ps_17 hpp | exact ps_18 hpp | exact ps_19 hpp | exact ps_21 hpp | exact ps_22 hpp | exact ps_23 hpp | exact ps_24 hpp) ⟨by omega, by omega⟩ ?_ | refine by_tald rfl rfl ⟨by omega, by omega⟩ ?_
  refine by_bipush cb_10 ?_
  refine by_ic_ne 13 rfl ?_
  simp (disch := first | exact Nat.ne_of_beq_eq_false rfl | exact rfl | omega) only [nI_add, xa_sub, xa_mul, pk_div, nm_mod, xa_shr, xa_and7, xa_and1, xa_and255, xa_by_and, nI_m1, Nat.add_sub_cancel, Nat.reducePow, Nat.zero_add, Nat.add_zero, Nat.reduceAdd, Nat.reduceMul, Nat.reduceSub, xf_same, xq_ff, xq_fo, xf_1, xf_2, xs_1, xs_2, xs_same, xq_so, xj_1, xj_2, xj_same, xq_jo, xq_sa1, xq_same, xq_other, upd_s, oI_n, oI_s, xv_0, xv_1, xv_2, xv_3, xm_p1, xm_p2, xq_fp, xq_fn, List.filter_nil, Nat.reduceBEq, Bool.not_true, Bool.not_false, Bool.and_true, Bool.and_false, Bool.false_and, Bool.true_and, if_true, if_false, Bool.false_eq_true, reduceIte, xc_i, xc_j, xc_r, xc_n, List.nil_append, List.cons_append, Option.toList_some, Option.toList_none, nI_ltJ, nI_leJ, nI_eqJ, nI_ltz, nI_gez, nI_gtz, nI_lez, nI_eqz, m1_ltz, m1_gez, true_imp_iff, false_imp_iff, true_and, and_true, ne_eq, not_false_eq_true, not_true_eq_false, Nat.reduceEqDiff, Nat.reduceLT, Nat.reduceLeDiff, pf_1 hF hpp, a1, e0]
  with_reducible refine xm_go_blk b_X5_twinOf_13 k_X5_twinOf_13 ?_
  refine by_aload_n rfl ?_
  refine by_iload_n rfl ?_
  refine by_ins2 cn_96 lk_5_77 (by rw [xe_cnt]; decide) is_95 np_95 (Nat.le_of_ble_eq_true rfl) ?_
  refine hslot _ ?_
  with_reducible refine xm_go_blk b_X5_twinOf_18 k_X5_twinOf_18 ?_
  refine by_istore_n (by rw [ml_96]; decide) ?_
  refine by_aload_n rfl ?_
  refine by_getf cn_96 fl_5_30 (by first | exact rfl | assumption) (by decide) ?_
  refine by_iload_n rfl ?_
  simp (disch := first | exact Nat.ne_of_beq_eq_false rfl | exact rfl | omega) only [nI_add, xa_sub, xa_mul, pk_div, nm_mod, xa_shr, xa_and7, xa_and1, xa_and255, xa_by_and, nI_m1, Nat.add_sub_cancel, Nat.reducePow, Nat.zero_add, Nat.add_zero, Nat.reduceAdd, Nat.reduceMul, Nat.reduceSub, xf_same, xq_ff, xq_fo, xf_1, xf_2, xs_1, xs_2, xs_same, xq_so, xj_1, xj_2, xj_same, xq_jo, xq_sa1, xq_same, xq_other, upd_s, oI_n, oI_s, xf_7_7 hF]
  first | refine by_iald (by first | exact rfl | assumption | exact ps_1 hpp | exact ps_2 hpp | exact ps_3 hpp | exact ps_4 hpp | exact ps_5 hpp | exact ps_6 hpp | exact ps_7 hpp | exact ps_8 hpp | exact ps_9 hpp | exact ps_10 hpp | exact ps_11 hpp | exact ps_15 hpp | exact ps_16 hpp | exact ps_17 hpp | exact ps_18 hpp | exact ps_19 hpp | exact ps_21 hpp | exact ps_22 hpp | exact ps_23 hpp | exact ps_24 hpp) ⟨by omega, by omega⟩ ?_ | refine by_tald rfl rfl ⟨by omega, by omega⟩ ?_
  refine by_istore (by rw [ml_96]; decide) ?_
  refine by_iconst ci_0 ?_
  refine by_istore (by rw [ml_96]; decide) ?_
  refine by_nil ?_
  simp (disch := first | exact Nat.ne_of_beq_eq_false rfl | exact rfl | omega) only [nI_add, xa_sub, xa_mul, pk_div, nm_mod, xa_shr, xa_and7, xa_and1, xa_and255, xa_by_and, nI_m1, Nat.add_sub_cancel, Nat.reducePow, Nat.zero_add, Nat.add_zero, Nat.reduceAdd, Nat.reduceMul, Nat.reduceSub, xf_same, xq_ff, xq_fo, xf_1, xf_2, xs_1, xs_2, xs_same, xq_so, xj_1, xj_2, xj_same, xq_jo, xq_sa1, xq_same, xq_other, upd_s, oI_n, oI_s, xv_0, xv_1, xv_2, xv_3, xm_p1, xm_p2, xq_fp, xq_fn, List.filter_nil, Nat.reduceBEq, Bool.not_true, Bool.not_false, Bool.and_true, Bool.and_false, Bool.false_and, Bool.true_and, if_true, if_false, Bool.false_eq_true, reduceIte, xc_i, xc_j, xc_r, xc_n, List.nil_append, List.cons_append, Option.toList_some, Option.toList_none, xf_7_7 hF]
  exact xm_go_wk (by simp [Value.category]) (key cs _ 0 c1 (fun j hj => ((c3 j).mp hj).1) (by omega) (fun j hj => Or.inl hj))
theorem sp_twinW (hF : XF h) (hpp : pp = 52 ∨ pp = 77) (hn : n < 2000) (a1 : h.1 (pp + 1) n = nI 10) (hp : post (some (.int (nI n))) h) : xm_T (XE sc) (d + 1) 96 [.ref 7, .ref pp, .int (nI n)] h post := by
  refine xq_in rfl ?_
  simp only [xq_a0, xq_aI, xq_aJ, xq_aR, Nat.reduceAdd]
  with_reducible refine xm_go_blk b_X5_twinOf_0 k_X5_twinOf_0 ?_
  refine by_aload_n rfl ?_
  refine by_getf cn_96 fl_5_55 (by first | exact rfl | assumption | exact ps_0 hpp) (by decide) ?_
  refine by_iload_n rfl ?_
  simp (disch := first | exact Nat.ne_of_beq_eq_false rfl | exact rfl | omega) only [nI_add, xa_sub, xa_mul, pk_div, nm_mod, xa_shr, xa_and7, xa_and1, xa_and255, xa_by_and, nI_m1, Nat.add_sub_cancel, Nat.reducePow, Nat.zero_add, Nat.add_zero, Nat.reduceAdd, Nat.reduceMul, Nat.reduceSub, xf_same, xq_ff, xq_fo, xf_1, xf_2, xs_1, xs_2, xs_same, xq_so, xj_1, xj_2, xj_same, xq_jo, xq_sa1, xq_same, xq_other, upd_s, oI_n, oI_s, pf_1 hF hpp, a1]
  first | refine by_iald (by first | exact rfl | assumption | exact ps_1 hpp | exact ps_2 hpp | exact ps_3 hpp | exact ps_4 hpp | exact ps_5 hpp | exact ps_6 hpp | exact ps_7 hpp | exact ps_8 hpp | exact ps_9 hpp | exact ps_10 hpp | exact ps_11 hpp | exact ps_15 hpp | exact ps_16 hpp | exact ps_17 hpp | exact ps_18 hpp | exact ps_19 hpp | exact ps_21 hpp | exact ps_22 hpp | exact ps_23 hpp | exact ps_24 hpp) ⟨by omega, by omega⟩ ?_ | refine by_tald rfl rfl ⟨by omega, by omega⟩ ?_
  refine by_bipush cb_10 ?_
  refine by_ic_ne 13 rfl ?_
  simp (disch := first | exact Nat.ne_of_beq_eq_false rfl | exact rfl | omega) only [nI_add, xa_sub, xa_mul, pk_div, nm_mod, xa_shr, xa_and7, xa_and1, xa_and255, xa_by_and, nI_m1, Nat.add_sub_cancel, Nat.reducePow, Nat.zero_add, Nat.add_zero, Nat.reduceAdd, Nat.reduceMul, Nat.reduceSub, xf_same, xq_ff, xq_fo, xf_1, xf_2, xs_1, xs_2, xs_same, xq_so, xj_1, xj_2, xj_same, xq_jo, xq_sa1, xq_same, xq_other, upd_s, oI_n, oI_s, xv_0, xv_1, xv_2, xv_3, xm_p1, xm_p2, xq_fp, xq_fn, List.filter_nil, Nat.reduceBEq, Bool.not_true, Bool.not_false, Bool.and_true, Bool.and_false, Bool.false_and, Bool.true_and, if_true, if_false, Bool.false_eq_true, reduceIte, xc_i, xc_j, xc_r, xc_n, List.nil_append, List.cons_append, Option.toList_some, Option.toList_none, nI_ltJ, nI_leJ, nI_eqJ, nI_ltz, nI_gez, nI_gtz, nI_lez, nI_eqz, m1_ltz, m1_gez, true_imp_iff, false_imp_iff, true_and, and_true, ne_eq, not_false_eq_true, not_true_eq_false, Nat.reduceEqDiff, Nat.reduceLT, Nat.reduceLeDiff, pf_1 hF hpp, a1]
  with_reducible refine xm_go_blk b_X5_twinOf_11 k_X5_twinOf_11 ?_
  refine by_iload_n rfl ?_
  refine by_iret ry_96 (by first | rfl | assumption) ?_
  exact hp
end MG
