/-! ===== texts of types: what both write ===== -/
abbrev itm := Nat ⊕ Ty
def ttx : Ty → List Nat
  | .add a b => 40 :: (ttx a ++ 43 :: (ttx b ++ [41]))
  | .mul a b => 40 :: (ttx a ++ 42 :: (ttx b ++ [41]))
  | _ => [49]
theorem ttx_len : ∀ t : Ty, (ttx t).length = ty_tl t
  | .add a b => by simp only [ttx, ty_tl, List.length_cons, List.length_append, List.length_nil, ttx_len a, ttx_len b]; omega
  | .mul a b => by simp only [ttx, ty_tl, List.length_cons, List.length_append, List.length_nil, ttx_len a, ttx_len b]; omega
  | .num _ => rfl
  | .natCast _ => rfl
  | .intCast _ => rfl
  | .var _ => rfl
  | .neg _ => rfl
  | .sub _ _ => rfl
  | .pow _ _ => rfl
theorem ttx_lt : ∀ (t : Ty) (c : Nat), c ∈ ttx t → c < 256
  | .add a b, c, h => by
    simp only [ttx, List.mem_cons, List.mem_append, List.not_mem_nil, or_false] at h
    rcases h with rfl | h | rfl | h | rfl
    · decide
    · exact ttx_lt a c h
    · decide
    · exact ttx_lt b c h
    · decide
  | .mul a b, c, h => by
    simp only [ttx, List.mem_cons, List.mem_append, List.not_mem_nil, or_false] at h
    rcases h with rfl | h | rfl | h | rfl
    · decide
    · exact ttx_lt a c h
    · decide
    · exact ttx_lt b c h
    · decide
  | .num _, c, h => by simp only [ttx, List.mem_cons, List.not_mem_nil, or_false] at h; subst h; decide
  | .natCast _, c, h => by simp only [ttx, List.mem_cons, List.not_mem_nil, or_false] at h; subst h; decide
  | .intCast _, c, h => by simp only [ttx, List.mem_cons, List.not_mem_nil, or_false] at h; subst h; decide
  | .var _, c, h => by simp only [ttx, List.mem_cons, List.not_mem_nil, or_false] at h; subst h; decide
  | .neg _, c, h => by simp only [ttx, List.mem_cons, List.not_mem_nil, or_false] at h; subst h; decide
  | .sub _ _, c, h => by simp only [ttx, List.mem_cons, List.not_mem_nil, or_false] at h; subst h; decide
  | .pow _ _, c, h => by simp only [ttx, List.mem_cons, List.not_mem_nil, or_false] at h; subst h; decide
def itt : List itm → List Nat
  | [] => []
  | .inl c :: q => c :: itt q
  | .inr t :: q => ttx t ++ itt q
/-- items that wait: a character as its number below 0, or a type -/
def xStk (h : xm_H) (a lo cn : Nat) (tr : Nat → Ty) : List itm → Prop
  | [] => True
  | .inl c :: q => (h.1 a q.length = -(nI c) ∧ 1 ≤ c ∧ c < 256 ∧ q.length ≤ 3 * cn) ∧ xStk h a lo cn tr q
  | .inr t :: q => (∃ i, lo ≤ i ∧ i < cn ∧ tr i = t ∧ h.1 a q.length = nI i ∧ q.length + 3 * i + 3 ≤ 3 * cn) ∧ xStk h a lo cn tr q
theorem xStk_o {h h' : xm_H} {a lo cn : Nat} {tr : Nat → Ty} : ∀ {q : List itm}, xStk h a lo cn tr q → (∀ j, j < q.length → h'.1 a j = h.1 a j) → xStk h' a lo cn tr q
  | [], _, _ => trivial
  | .inl c :: q, hs, e => ⟨⟨by rw [e _ (by simp)]; exact hs.1.1, hs.1.2⟩, xStk_o hs.2 (fun j hj => e j (by simp; omega))⟩
  | .inr t :: q, hs, e => ⟨by obtain ⟨i, i0, i1, i2, i3, i4⟩ := hs.1; exact ⟨i, i0, i1, i2, by rw [e _ (by simp)]; exact i3, i4⟩, xStk_o hs.2 (fun j hj => e j (by simp; omega))⟩
theorem ng_ge {c : Nat} (h1 : 1 ≤ c) (h2 : c < 256) : (0 ≤ -(nI c)) = False := by
  have : ∀ c, c < 256 → 1 ≤ c → ¬ (0 ≤ -(nI c)) := by decide +kernel
  exact eq_false (this c h2 h1)
theorem ng_lt {c : Nat} (h1 : 1 ≤ c) (h2 : c < 256) : (-(nI c) < 0) = True := by
  have : ∀ c, c < 256 → 1 ≤ c → (-(nI c) < 0) := by decide +kernel
  exact eq_true (this c h2 h1)
theorem ng_41 : (-41 : Int32) = -(nI 41) := by decide
theorem ng_42 : (-42 : Int32) = -(nI 42) := by decide
theorem ng_43 : (-43 : Int32) = -(nI 43) := by decide
theorem xStk_len {h : xm_H} {a lo cn : Nat} {tr : Nat → Ty} : ∀ {q : List itm}, xStk h a lo cn tr q → q.length ≤ 3 * cn + 1
  | [], _ => Nat.zero_le _
  | .inl c :: q, hs => by have := hs.1.2.2.2; simp only [List.length_cons]; omega
  | .inr t :: q, hs => by obtain ⟨i, _, _, _, _, z⟩ := hs.1; simp only [List.length_cons]; omega
section TX
variable {sc : xm_Sc} {d pp : Nat} {h : xm_H} {post : xm_Po}
theorem sp_tpushI {n : Nat} {x : Int32} (hF : XF h) (hpp : pp = 52 ∨ pp = 77) (hn : n < 14048) (ht : h.2.2 (pp + 14) 11 = .int (nI n)) (hp : post none (xm_sf (xm_si h (pp + 24) n x) (pp + 14) 11 (.int (nI (n + 1))))) : xm_T (XE sc) (d + 1) 170 [.ref (pp + 14), .int x] h post := by
  refine xq_in rfl ?_
  simp only [xq_a0, xq_aI, xq_aJ, xq_aR, Nat.reduceAdd]
  with_reducible refine xm_go_blk b_X10_push_0 k_X10_push_0 ?_
  refine by_aload_n rfl ?_
  refine by_getf cn_170 fl_10_62 (by first | exact rfl | assumption | exact ps_14 hpp) (by decide) ?_
  refine by_sipush cs_14048 ?_
  simp (disch := first | exact Nat.ne_of_beq_eq_false rfl | exact rfl | omega) only [nI_add, xa_sub, xa_mul, pk_div, nm_mod, xa_shr, xa_and7, xa_and1, xa_and255, xa_by_and, nI_m1, Nat.add_sub_cancel, Nat.reducePow, Nat.zero_add, Nat.add_zero, Nat.reduceAdd, Nat.reduceMul, Nat.reduceSub, xf_same, xq_ff, xq_fo, xf_1, xf_2, xs_1, xs_2, xs_same, xq_so, xj_1, xj_2, xj_same, xq_jo, xq_sa1, xq_same, xq_other, upd_s, oI_n, oI_s, ht, pt_10 hF hpp]
  refine by_ic_ge 30 rfl ?_
  simp (disch := first | exact Nat.ne_of_beq_eq_false rfl | exact rfl | omega) only [nI_add, xa_sub, xa_mul, pk_div, nm_mod, xa_shr, xa_and7, xa_and1, xa_and255, xa_by_and, nI_m1, Nat.add_sub_cancel, Nat.reducePow, Nat.zero_add, Nat.add_zero, Nat.reduceAdd, Nat.reduceMul, Nat.reduceSub, xf_same, xq_ff, xq_fo, xf_1, xf_2, xs_1, xs_2, xs_same, xq_so, xj_1, xj_2, xj_same, xq_jo, xq_sa1, xq_same, xq_other, upd_s, oI_n, oI_s, xv_0, xv_1, xv_2, xv_3, xm_p1, xm_p2, xq_fp, xq_fn, List.filter_nil, Nat.reduceBEq, Bool.not_true, Bool.not_false, Bool.and_true, Bool.and_false, Bool.false_and, Bool.true_and, if_true, if_false, Bool.false_eq_true, reduceIte, xc_i, xc_j, xc_r, xc_n, List.nil_append, List.cons_append, Option.toList_some, Option.toList_none, nI_ltJ, nI_leJ, nI_eqJ, nI_ltz, nI_gez, nI_gtz, nI_lez, nI_eqz, m1_ltz, m1_gez, true_imp_iff, false_imp_iff, true_and, and_true, ne_eq, not_false_eq_true, not_true_eq_false, Nat.reduceEqDiff, Nat.reduceLT, Nat.reduceLeDiff, ht, pt_10 hF hpp]
  refine ⟨fun c => absurd c (by omega), fun c0 => ?_⟩
  with_reducible refine xm_go_blk b_X10_push_10 k_X10_push_10 ?_
  refine by_aload_n rfl ?_
  refine by_getf cn_170 fl_10_40 (by first | exact rfl | assumption | exact ps_14 hpp) (by decide) ?_
  refine by_aload_n rfl ?_
  refine by_getf cn_170 fl_10_62 (by first | exact rfl | assumption | exact ps_14 hpp) (by decide) ?_
  refine by_iload_n rfl ?_
  simp (disch := first | exact Nat.ne_of_beq_eq_false rfl | exact rfl | omega) only [nI_add, xa_sub, xa_mul, pk_div, nm_mod, xa_shr, xa_and7, xa_and1, xa_and255, xa_by_and, nI_m1, Nat.add_sub_cancel, Nat.reducePow, Nat.zero_add, Nat.add_zero, Nat.reduceAdd, Nat.reduceMul, Nat.reduceSub, xf_same, xq_ff, xq_fo, xf_1, xf_2, xs_1, xs_2, xs_same, xq_so, xj_1, xj_2, xj_same, xq_jo, xq_sa1, xq_same, xq_other, upd_s, oI_n, oI_s, ht, pt_10 hF hpp]
  refine by_iast (by first | exact rfl | assumption | exact ps_1 hpp | exact ps_2 hpp | exact ps_3 hpp | exact ps_4 hpp | exact ps_5 hpp | exact ps_6 hpp | exact ps_7 hpp | exact ps_8 hpp | exact ps_9 hpp | exact ps_10 hpp | exact ps_11 hpp | exact ps_15 hpp | exact ps_16 hpp | exact ps_17 hpp | exact ps_18 hpp | exact ps_19 hpp | exact ps_21 hpp | exact ps_22 hpp | exact ps_23 hpp | exact ps_24 hpp) ⟨by omega, by omega⟩ ?_
  refine by_aload_n rfl ?_
  refine by_dup rfl ?_
  refine by_getf cn_170 fl_10_62 (by first | exact rfl | assumption | exact ps_14 hpp) (by decide) ?_
  refine by_iconst ci_1 ?_
  simp (disch := first | exact Nat.ne_of_beq_eq_false rfl | exact rfl | omega) only [nI_add, xa_sub, xa_mul, pk_div, nm_mod, xa_shr, xa_and7, xa_and1, xa_and255, xa_by_and, nI_m1, Nat.add_sub_cancel, Nat.reducePow, Nat.zero_add, Nat.add_zero, Nat.reduceAdd, Nat.reduceMul, Nat.reduceSub, xf_same, xq_ff, xq_fo, xf_1, xf_2, xs_1, xs_2, xs_same, xq_so, xj_1, xj_2, xj_same, xq_jo, xq_sa1, xq_same, xq_other, upd_s, oI_n, oI_s, ht, pt_10 hF hpp]
  refine by_iadd ?_
  refine by_putf cn_170 fl_10_62 (by first | exact rfl | assumption | exact ps_14 hpp) (by decide) nf_10_11 ft_10_11 (by first | rfl | assumption) (by first | rfl | assumption) ?_
  refine by_nil ?_
  try simp (disch := first | exact Nat.ne_of_beq_eq_false rfl | exact rfl | omega) only [nI_add, xa_sub, xa_mul, pk_div, nm_mod, xa_shr, xa_and7, xa_and1, xa_and255, xa_by_and, nI_m1, Nat.add_sub_cancel, Nat.reducePow, Nat.zero_add, Nat.add_zero, Nat.reduceAdd, Nat.reduceMul, Nat.reduceSub, xf_same, xq_ff, xq_fo, xf_1, xf_2, xs_1, xs_2, xs_same, xq_so, xj_1, xj_2, xj_same, xq_jo, xq_sa1, xq_same, xq_other, upd_s, oI_n, oI_s, xv_0, xv_1, xv_2, xv_3, xm_p1, xm_p2, xq_fp, xq_fn, List.filter_nil, Nat.reduceBEq, Bool.not_true, Bool.not_false, Bool.and_true, Bool.and_false, Bool.false_and, Bool.true_and, if_true, if_false, Bool.false_eq_true, reduceIte, xc_i, xc_j, xc_r, xc_n, List.nil_append, List.cons_append, Option.toList_some, Option.toList_none, ht, pt_10 hF hpp]
  with_reducible refine xm_go_blk b_X10_push_30 k_X10_push_30 ?_
  refine by_ret ry_170 ?_
  exact hp
end TX
section TY
variable {sc : xm_Sc} {d pp cn : Nat} {tr : Nat → Ty} {K L R : Nat → Nat} {h : xm_H} {post : xm_Po}
/-- the stack of Types holds q -/
def xSt (h : xm_H) (pp cn : Nat) (tr : Nat → Ty) (q : List itm) : Prop := h.2.2 (pp + 14) 11 = .int (nI q.length) ∧ xStk h (pp + 24) 0 cn tr q
theorem xSt_fr {S : List Nat} {T : List (Nat × Nat)} {h' : xm_H} {q : List itm} (hs : xSt h pp cn tr q) (hf : Fr S T h h') (h1 : pp + 24 ∉ S) (h2 : (pp + 14, 11) ∉ T) : xSt h' pp cn tr q :=
  ⟨by rw [hf.2.2 _ _ h2]; exact hs.1, xStk_o hs.2 (fun j _ => by rw [hf.1 _ h1])⟩
theorem sy_fin {pp : Nat} (hpp : pp = 52 ∨ pp = 77) : xt_fin.all (fun q => !([(pp + 14, 11)].contains (q.1, q.2.1))) = true := by
  rcases hpp with rfl | rfl <;> decide +kernel
theorem xS_pushC {q : List itm} {c : Nat} {x : Int32} (hF : XF h) (hpp : pp = 52 ∨ pp = 77) (hS : xSt h pp cn tr q) (hx : x = -(nI c)) (hc : 1 ≤ c) (hc2 : c < 256) (hn : q.length ≤ 3 * cn) (hcn : cn ≤ 2826) (hp : ∀ h2, Fr [pp + 24] [(pp + 14, 11)] h h2 → xSt h2 pp cn tr (.inl c :: q) → post none h2) : xm_T (XE sc) (d + 1) 170 [.ref (pp + 14), .int x] h post := by
  obtain ⟨s3, s4⟩ := hS
  subst hx
  refine sp_tpushI hF hpp (by omega) s3 (hp _ (Fr_sf (Fr_si Fr_rf (by simp)) (by simp)) ⟨by simp only [xf_same, List.length_cons], ⟨⟨?_, hc, hc2, hn⟩, xStk_o s4 (fun j hj => ?_)⟩⟩)
  · show (xm_si h (pp + 24) q.length (-(nI c))).1 (pp + 24) q.length = _
    simp [xm_si, upd]
  · show (xm_si h (pp + 24) q.length (-(nI c))).1 (pp + 24) j = _
    have : j ≠ q.length := by omega
    simp [xm_si, upd, this]
theorem xS_pushT {q : List itm} {i : Nat} (hF : XF h) (hpp : pp = 52 ∨ pp = 77) (hS : xSt h pp cn tr q) (hi : i < cn) (hb : q.length + 3 * i + 3 ≤ 3 * cn) (hcn : cn ≤ 2826) (hp : ∀ h2, Fr [pp + 24] [(pp + 14, 11)] h h2 → xSt h2 pp cn tr (.inr (tr i) :: q) → post none h2) : xm_T (XE sc) (d + 1) 170 [.ref (pp + 14), .int (nI i)] h post := by
  obtain ⟨s3, s4⟩ := hS
  refine sp_tpushI hF hpp (by omega) s3 (hp _ (Fr_sf (Fr_si Fr_rf (by simp)) (by simp)) ⟨by simp only [xf_same, List.length_cons], ⟨⟨i, Nat.zero_le _, hi, rfl, ?_, hb⟩, xStk_o s4 (fun j hj => ?_)⟩⟩)
  · show (xm_si h (pp + 24) q.length (nI i)).1 (pp + 24) q.length = _
    simp [xm_si, upd]
  · show (xm_si h (pp + 24) q.length (nI i)).1 (pp + 24) j = _
    have : j ≠ q.length := by omega
    simp [xm_si, upd, this]
theorem sp_pushParts {q : List itm} {i c : Nat} (hF : XF h) (hpp : pp = 52 ∨ pp = 77) (hcn : cn ≤ 2826) (hT : tyT h pp cn tr K L R) (hi : i < cn) (hK : 1 ≤ K i) (hb : q.length + 3 * i + 3 ≤ 3 * cn) (hc : 1 ≤ c) (hc2 : c < 256) (hS : xSt h pp cn tr q) (hp : ∀ h2, Fr [pp + 24] [(pp + 14, 11)] h h2 → xSt h2 pp cn tr (.inr (tr (L i)) :: .inl c :: .inr (tr (R i)) :: .inl 41 :: q) → post none h2) : xm_T (XE sc) (d + 2) 171 [.ref (pp + 14), .int (nI i), .int (nI c)] h post := by
  obtain ⟨⟨t1, t2, t3⟩, _, _, _, tL, tR, _⟩ := hT.2.1 i hi
  obtain ⟨hL, hR⟩ := t3 hK
  refine xq_in rfl ?_
  simp only [xq_a0, xq_aI, xq_aJ, xq_aR, Nat.reduceAdd]
  with_reducible refine xm_go_blk b_X10_pushParts_0 k_X10_pushParts_0 ?_
  refine by_aload_n rfl ?_
  refine by_bipush cb_m41 ?_
  refine by_inv1 cn_171 lk_10_78 (by rw [xe_cnt]; decide) is_170 np_170 cn_170 (by first | exact rfl | assumption | exact ps_14 hpp) (Nat.le_of_ble_eq_true rfl) ?_
  refine xS_pushC hF hpp hS ng_41 (by decide) (by decide) (by omega) hcn (fun h1 f1 S1 => ?_)
  have F1 := Fr_XF hF f1 (sy_fin hpp)
  have eR : h1.1 (pp + 17) i = nI (R i) := by rw [f1.1 (pp + 17) (by simp)]; exact tR
  with_reducible refine xm_go_blk b_X10_pushParts_6 k_X10_pushParts_6 ?_
  refine by_aload_n rfl ?_
  refine by_aload_n rfl ?_
  refine by_getf cn_171 fl_10_18 (by first | exact rfl | assumption | exact ps_14 hpp) (by decide) ?_
  refine by_iload_n rfl ?_
  simp (disch := first | exact Nat.ne_of_beq_eq_false rfl | exact rfl | omega) only [nI_add, xa_sub, xa_mul, pk_div, nm_mod, xa_shr, xa_and7, xa_and1, xa_and255, xa_by_and, nI_m1, Nat.add_sub_cancel, Nat.reducePow, Nat.zero_add, Nat.add_zero, Nat.reduceAdd, Nat.reduceMul, Nat.reduceSub, xf_same, xq_ff, xq_fo, xf_1, xf_2, xs_1, xs_2, xs_same, xq_so, xj_1, xj_2, xj_same, xq_jo, xq_sa1, xq_same, xq_other, upd_s, oI_n, oI_s, pt_3 F1 hpp, eR]
  first | refine by_iald (by first | exact rfl | assumption | exact ps_1 hpp | exact ps_2 hpp | exact ps_3 hpp | exact ps_4 hpp | exact ps_5 hpp | exact ps_6 hpp | exact ps_7 hpp | exact ps_8 hpp | exact ps_9 hpp | exact ps_10 hpp | exact ps_11 hpp | exact ps_15 hpp | exact ps_16 hpp | exact ps_17 hpp | exact ps_18 hpp | exact ps_19 hpp | exact ps_21 hpp | exact ps_22 hpp | exact ps_23 hpp | exact ps_24 hpp) ⟨by omega, by omega⟩ ?_ | refine by_tald rfl rfl ⟨by omega, by omega⟩ ?_
  simp (disch := first | exact Nat.ne_of_beq_eq_false rfl | exact rfl | omega) only [nI_add, xa_sub, xa_mul, pk_div, nm_mod, xa_shr, xa_and7, xa_and1, xa_and255, xa_by_and, nI_m1, Nat.add_sub_cancel, Nat.reducePow, Nat.zero_add, Nat.add_zero, Nat.reduceAdd, Nat.reduceMul, Nat.reduceSub, xf_same, xq_ff, xq_fo, xf_1, xf_2, xs_1, xs_2, xs_same, xq_so, xj_1, xj_2, xj_same, xq_jo, xq_sa1, xq_same, xq_other, upd_s, oI_n, oI_s, xv_0, xv_1, xv_2, xv_3, xm_p1, xm_p2, xq_fp, xq_fn, List.filter_nil, Nat.reduceBEq, Bool.not_true, Bool.not_false, Bool.and_true, Bool.and_false, Bool.false_and, Bool.true_and, if_true, if_false, Bool.false_eq_true, reduceIte, xc_i, xc_j, xc_r, xc_n, List.nil_append, List.cons_append, Option.toList_some, Option.toList_none, pt_3 F1 hpp, eR]
  refine by_inv1 cn_171 lk_10_78 (by rw [xe_cnt]; decide) is_170 np_170 cn_170 (by first | exact rfl | assumption | exact ps_14 hpp) (Nat.le_of_ble_eq_true rfl) ?_
  refine xS_pushT F1 hpp S1 (by omega) (by simp only [List.length_cons]; omega) hcn (fun h2 f2 S2 => ?_)
  have F2 := Fr_XF F1 f2 (sy_fin hpp)
  with_reducible refine xm_go_blk b_X10_pushParts_16 k_X10_pushParts_16 ?_
  refine by_aload_n rfl ?_
  refine by_iload_n rfl ?_
  refine by_ineg ?_
  simp (disch := first | exact Nat.ne_of_beq_eq_false rfl | exact rfl | omega) only [nI_add, xa_sub, xa_mul, pk_div, nm_mod, xa_shr, xa_and7, xa_and1, xa_and255, xa_by_and, nI_m1, Nat.add_sub_cancel, Nat.reducePow, Nat.zero_add, Nat.add_zero, Nat.reduceAdd, Nat.reduceMul, Nat.reduceSub, xf_same, xq_ff, xq_fo, xf_1, xf_2, xs_1, xs_2, xs_same, xq_so, xj_1, xj_2, xj_same, xq_jo, xq_sa1, xq_same, xq_other, upd_s, oI_n, oI_s, xv_0, xv_1, xv_2, xv_3, xm_p1, xm_p2, xq_fp, xq_fn, List.filter_nil, Nat.reduceBEq, Bool.not_true, Bool.not_false, Bool.and_true, Bool.and_false, Bool.false_and, Bool.true_and, if_true, if_false, Bool.false_eq_true, reduceIte, xc_i, xc_j, xc_r, xc_n, List.nil_append, List.cons_append, Option.toList_some, Option.toList_none]
  refine by_inv1 cn_171 lk_10_78 (by rw [xe_cnt]; decide) is_170 np_170 cn_170 (by first | exact rfl | assumption | exact ps_14 hpp) (Nat.le_of_ble_eq_true rfl) ?_
  refine xS_pushC F2 hpp S2 rfl hc hc2 (by simp only [List.length_cons]; omega) hcn (fun h3 f3 S3 => ?_)
  have F3 := Fr_XF F2 f3 (sy_fin hpp)
  have f13 : Fr [pp + 24] [(pp + 14, 11)] h h3 := Fr_tr (Fr_tr f1 f2 (fun _ z => z) (fun _ z => z)) f3 (fun _ z => z) (fun _ z => z)
  have eL : h3.1 (pp + 16) i = nI (L i) := by rw [f13.1 (pp + 16) (by simp)]; exact tL
  with_reducible refine xm_go_blk b_X10_pushParts_22 k_X10_pushParts_22 ?_
  refine by_aload_n rfl ?_
  refine by_aload_n rfl ?_
  refine by_getf cn_171 fl_10_15 (by first | exact rfl | assumption | exact ps_14 hpp) (by decide) ?_
  refine by_iload_n rfl ?_
  simp (disch := first | exact Nat.ne_of_beq_eq_false rfl | exact rfl | omega) only [nI_add, xa_sub, xa_mul, pk_div, nm_mod, xa_shr, xa_and7, xa_and1, xa_and255, xa_by_and, nI_m1, Nat.add_sub_cancel, Nat.reducePow, Nat.zero_add, Nat.add_zero, Nat.reduceAdd, Nat.reduceMul, Nat.reduceSub, xf_same, xq_ff, xq_fo, xf_1, xf_2, xs_1, xs_2, xs_same, xq_so, xj_1, xj_2, xj_same, xq_jo, xq_sa1, xq_same, xq_other, upd_s, oI_n, oI_s, pt_2 F3 hpp, eL]
  first | refine by_iald (by first | exact rfl | assumption | exact ps_1 hpp | exact ps_2 hpp | exact ps_3 hpp | exact ps_4 hpp | exact ps_5 hpp | exact ps_6 hpp | exact ps_7 hpp | exact ps_8 hpp | exact ps_9 hpp | exact ps_10 hpp | exact ps_11 hpp | exact ps_15 hpp | exact ps_16 hpp | exact ps_17 hpp | exact ps_18 hpp | exact ps_19 hpp | exact ps_21 hpp | exact ps_22 hpp | exact ps_23 hpp | exact ps_24 hpp) ⟨by omega, by omega⟩ ?_ | refine by_tald rfl rfl ⟨by omega, by omega⟩ ?_
  simp (disch := first | exact Nat.ne_of_beq_eq_false rfl | exact rfl | omega) only [nI_add, xa_sub, xa_mul, pk_div, nm_mod, xa_shr, xa_and7, xa_and1, xa_and255, xa_by_and, nI_m1, Nat.add_sub_cancel, Nat.reducePow, Nat.zero_add, Nat.add_zero, Nat.reduceAdd, Nat.reduceMul, Nat.reduceSub, xf_same, xq_ff, xq_fo, xf_1, xf_2, xs_1, xs_2, xs_same, xq_so, xj_1, xj_2, xj_same, xq_jo, xq_sa1, xq_same, xq_other, upd_s, oI_n, oI_s, xv_0, xv_1, xv_2, xv_3, xm_p1, xm_p2, xq_fp, xq_fn, List.filter_nil, Nat.reduceBEq, Bool.not_true, Bool.not_false, Bool.and_true, Bool.and_false, Bool.false_and, Bool.true_and, if_true, if_false, Bool.false_eq_true, reduceIte, xc_i, xc_j, xc_r, xc_n, List.nil_append, List.cons_append, Option.toList_some, Option.toList_none, pt_2 F3 hpp, eL]
  refine by_inv1 cn_171 lk_10_78 (by rw [xe_cnt]; decide) is_170 np_170 cn_170 (by first | exact rfl | assumption | exact ps_14 hpp) (Nat.le_of_ble_eq_true rfl) ?_
  refine xS_pushT F3 hpp S3 (by omega) (by simp only [List.length_cons]; omega) hcn (fun h4 f4 S4 => ?_)
  with_reducible refine xm_go_blk b_X10_pushParts_32 k_X10_pushParts_32 ?_
  refine by_ret ry_171 ?_
  exact hp h4 (Fr_tr f13 f4 (fun _ z => z) (fun _ z => z)) S4
end TY
