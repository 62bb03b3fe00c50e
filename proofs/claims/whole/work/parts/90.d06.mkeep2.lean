/-! ===== the reference: keepProgram: a node ===== -/
def rtA (ps : List pr_D) (R : Nat → Nat → Int32) (n : Nat) : Prop := ∀ m, m < n → ∀ k, k < 8 → R m k = rtN ps R m k
theorem rtN_cg {ps : List pr_D} {R R' : Nat → Nat → Int32} {n : Nat} (ho : psOK ps) (hn : n < ps.length) (h : ∀ x, x < n → ∀ k, k < 8 → R x k = R' x k) : ∀ k, k < 8 → rtN ps R n k = rtN ps R' n k := by
  intro k hk
  obtain ⟨o1, o2, o3, o4, o5, o6, _⟩ := ho n hn
  have o4 : ∀ x, p1 ps n = some x → x < n := o4
  have o5 : ∀ x, p2 ps n = some x → x < n := o5
  unfold rtN
  by_cases e1 : pC ps n = 11
  · rw [if_pos e1, if_pos e1]
  rw [if_neg e1, if_neg e1]
  by_cases e2 : pC ps n = 12
  · rw [if_pos e2, if_pos e2]
  rw [if_neg e2, if_neg e2]
  cases z1 : p1 ps n with
  | none => rfl
  | some x =>
    cases z2 : p2 ps n with
    | none =>
      simp only
      unfold rtC
      refine shC_cg (fun _ _ => rfl) (fun m hm => ?_) k hk
      by_cases z : m < 8
      · rw [if_pos z, if_pos z]
      · rw [if_neg z, if_neg z]
        exact h x (o4 x z1) (m - 8) (by omega)
    | some y =>
      simp only
      unfold rtC
      refine shC_cg (fun _ _ => rfl) (fun m hm => ?_) k hk
      by_cases z : m < 8
      · rw [if_pos z, if_pos z]
        exact h x (o4 x z1) m z
      · rw [if_neg z, if_neg z]
        exact h y (o5 y z2) (m - 8) (by omega)
theorem rtA_uniq {ps : List pr_D} {R R' : Nat → Nat → Int32} (ho : psOK ps) (h : rtA ps R ps.length) (h' : rtA ps R' ps.length) : ∀ n, n < ps.length → ∀ k, k < 8 → R n k = R' n k := by
  intro n
  induction n using Nat.strongRecOn with
  | ind n ih =>
    intro hn k hk
    rw [h n hn k hk, h' n hn k hk]
    exact rtN_cg ho hn (fun x hx k hk => ih x hx (by omega) k hk) k hk
theorem rtA_upd {ps : List pr_D} {R : Nat → Nat → Int32} {n : Nat} (ho : psOK ps) (hn : n < ps.length) (h : rtA ps R n) : rtA ps (fun m => if m = n then rtN ps R n else R m) (n + 1) := by
  intro m hm k hk
  have cg := rtN_cg (R := R) (R' := fun m => if m = n then rtN ps R n else R m) (n := m) ho (by omega) (fun x hx k hk => by
    show R x k = (if x = n then rtN ps R n else R x) k
    rw [if_neg (by omega)]) k hk
  show (if m = n then rtN ps R n else R m) k = _
  rw [← cg]
  by_cases e : m = n
  · rw [if_pos e, e]
  · rw [if_neg e]; exact h m (by omega) k hk
def kn5 (h : xm_H) (n : Nat) (a b c d e : Int32) : xm_H := xm_si (xm_si (xm_si (xm_si (xm_si h 117 n a) 118 n b) 119 n c) 120 n d) 152 n e
theorem kn5_at {h : xm_H} {n : Nat} {a b c d e : Int32} : (kn5 h n a b c d e).1 117 n = a ∧ (kn5 h n a b c d e).1 118 n = b ∧ (kn5 h n a b c d e).1 119 n = c ∧ (kn5 h n a b c d e).1 120 n = d ∧ (kn5 h n a b c d e).1 152 n = e := by
  unfold kn5
  refine ⟨?_, ?_, ?_, ?_, ?_⟩ <;> simp [xs_same, xs_other, upd_s]
theorem kn5_o {h : xm_H} {n q i : Nat} {a b c d e : Int32} (hi : i ≠ n) : (kn5 h n a b c d e).1 q i = h.1 q i := by
  unfold kn5
  rw [xs_o hi, xs_o hi, xs_o hi, xs_o hi, xs_o hi]
theorem kn5_fr {h : xm_H} {n : Nat} {a b c d e : Int32} : Fr [117, 118, 119, 120, 152] [] h (kn5 h n a b c d e) := by
  unfold kn5
  exact Fr_si (Fr_si (Fr_si (Fr_si (Fr_si Fr_rf (by simp)) (by simp)) (by simp)) (by simp)) (by simp)
/-- a node that is kept -/
def knE (h : xm_H) (ps : List pr_D) (S T : Nat → Ty) (b cn : Nat) (tr : Nat → Ty) (m : Nat) : Prop :=
  h.1 117 m = nI (pC ps m) ∧ h.1 118 m = oI (p1 ps m) ∧ h.1 119 m = oI (p2 ps m) ∧ h.1 120 m = nI (pNu ps m) ∧ h.1 152 m = nI (b + wsum (pC ps) T m) ∧ (∀ k, k < 8 → h.1 121 (8 * m + k) = if pC ps m = 11 then nI (pHw ps m k) else nI 0) ∧ (pC ps m = 11 → h.1 122 m = -1 ∧ h.1 123 m = -1) ∧
  (pC ps m ≠ 11 → ∃ i j, i + 3200 < cn ∧ j + 3200 < cn ∧ h.1 122 m = nI i ∧ tr (i + 3200) = S m ∧ h.1 123 m = nI j ∧ tr (j + 3200) = T m)
def knR : List Nat := [117, 118, 119, 120, 121, 122, 123, 124, 125, 126, 127, 148, 149, 150, 152]
theorem knE_cg {h h' : xm_H} {ps : List pr_D} {S T tr : Nat → Ty} {b cn m : Nat} (hk : knE h ps S T b cn tr m) (h1 : ∀ q, q ∈ [117, 118, 119, 120, 122, 123, 152] → h'.1 q m = h.1 q m) (h2 : ∀ k, k < 8 → h'.1 121 (8 * m + k) = h.1 121 (8 * m + k)) : knE h' ps S T b cn tr m := by
  obtain ⟨a1, a2, a3, a4, a5, a6, a7, a8⟩ := hk
  unfold knE
  rw [h1 117 (by simp), h1 118 (by simp), h1 119 (by simp), h1 120 (by simp), h1 122 (by simp), h1 123 (by simp), h1 152 (by simp)]
  exact ⟨a1, a2, a3, a4, a5, fun k hk => by rw [h2 k hk]; exact a6 k hk, a7, a8⟩
/-- what the loop over nodes reads -/
def knS (h : xm_H) (ps : List pr_D) (S T : Nat → Ty) (b cn : Nat) (tr : Nat → Ty) : Prop := XF h ∧ psOK ps ∧ ps.length ≤ 400 ∧ h.2.2 102 5 = .int (nI ps.length) ∧ ndM h ps ∧ (∀ m, m < ps.length → h.1 151 m = nI (b + wsum (pC ps) T m)) ∧ tyM h (pC ps) (List.range ps.length) S T cn tr ∧ cn ≤ 6400
section KN
variable {sc : xm_Sc} {d b cn : Nat} {ps : List pr_D} {S T tr : Nat → Ty} {h h' : xm_H} {post : xm_Po}
theorem kn_257 {n : Nat} (hF : XF h) (hn : n < 400) (hc : h.1 105 n = nI (pC ps n)) (hc2 : pC ps n ≤ 12) (hh : pC ps n = 11 → ∀ k, k < 8 → h.1 110 (8 * n + k) = nI (pHw ps n k)) (hgo : ∀ h', Fr [121] [] h h' → (∀ k, k < 8 → h'.1 121 (8 * n + k) = if pC ps n = 11 then nI (pHw ps n k) else nI 0) → (∀ m, (m < 8 * n ∨ 8 * n + 8 ≤ m) → h'.1 121 m = h.1 121 m) → xm_go (XE sc) (xm_T (XE sc) (d + 4)) 244 post 306 [(0, .ref 102), (1, .int (nI n))] [] h') :
    ∀ (j i : Nat) (h' : xm_H), i + j = 8 → Fr [121] [] h h' → (∀ k, k < i → h'.1 121 (8 * n + k) = if pC ps n = 11 then nI (pHw ps n k) else nI 0) → (∀ m, (m < 8 * n ∨ 8 * n + i ≤ m) → h'.1 121 m = h.1 121 m) → xm_go (XE sc) (xm_T (XE sc) (d + 4)) 244 post 257 [(2, .int (nI i)), (0, .ref 102), (1, .int (nI n))] [] h' := by
  intro j
  induction j with
  | zero =>
    intro i h' hi hf h1 h2
    have : i = 8 := by omega
    subst this
    with_reducible refine xm_go_blk b_X12_keepProgram_257 k_X12_keepProgram_257 ?_
    refine by_iload_n rfl ?_
    refine by_bipush cb_8 ?_
    refine by_ic_ge 306 rfl ?_
    simp (disch := first | exact Nat.ne_of_beq_eq_false rfl | exact rfl | omega) only [nI_add, xa_sub, xa_mul, pk_div, nm_mod, xa_shr, xa_and7, xa_and1, xa_and255, xa_by_and, nI_m1, Nat.add_sub_cancel, Nat.reducePow, Nat.zero_add, Nat.add_zero, Nat.reduceAdd, Nat.reduceMul, Nat.reduceSub, xf_same, xq_ff, xq_fo, xf_1, xf_2, xs_1, xs_2, xs_same, xq_so, xj_1, xj_2, xj_same, xq_jo, xq_sa1, xq_same, xq_other, upd_s, oI_n, oI_s, xv_0, xv_1, xv_2, xv_3, xm_p1, xm_p2, xq_fp, xq_fn, List.filter_nil, Nat.reduceBEq, Bool.not_true, Bool.not_false, Bool.and_true, Bool.and_false, Bool.false_and, Bool.true_and, if_true, if_false, Bool.false_eq_true, reduceIte, xc_i, xc_j, xc_r, xc_n, List.nil_append, List.cons_append, Option.toList_some, Option.toList_none, nI_ltJ, nI_leJ, nI_eqJ, nI_ltz, nI_gez, nI_gtz, nI_lez, nI_eqz, m1_ltz, m1_gez, true_imp_iff, false_imp_iff, true_and, and_true, ne_eq, not_false_eq_true, not_true_eq_false, Nat.reduceEqDiff, Nat.reduceLT, Nat.reduceLeDiff]
    exact xm_go_wk (by simp [Value.category]) (hgo h' hf h1 h2)
  | succ j ih =>
    intro i h' hi hf h1 h2
    have F1 : XF h' := Fr_XF hF hf (by decide +kernel)
    have e1 : h'.1 105 n = nI (pC ps n) := by rw [hf.1 105 (by simp)]; exact hc
    by_cases e : pC ps n = 11
    · have e' : (pC ps n = 11) = True := eq_true e
      have e2 : h'.1 110 (8 * n + i) = nI (pHw ps n i) := by rw [hf.1 110 (by simp)]; exact hh e i (by omega)
      with_reducible refine xm_go_blk b_X12_keepProgram_257 k_X12_keepProgram_257 ?_
      refine by_iload_n rfl ?_
      refine by_bipush cb_8 ?_
      refine by_ic_ge 306 rfl ?_
      simp (disch := first | exact Nat.ne_of_beq_eq_false rfl | exact rfl | omega) only [nI_add, xa_sub, xa_mul, pk_div, nm_mod, xa_shr, xa_and7, xa_and1, xa_and255, xa_by_and, nI_m1, Nat.add_sub_cancel, Nat.reducePow, Nat.zero_add, Nat.add_zero, Nat.reduceAdd, Nat.reduceMul, Nat.reduceSub, xf_same, xq_ff, xq_fo, xf_1, xf_2, xs_1, xs_2, xs_same, xq_so, xj_1, xj_2, xj_same, xq_jo, xq_sa1, xq_same, xq_other, upd_s, oI_n, oI_s, xv_0, xv_1, xv_2, xv_3, xm_p1, xm_p2, xq_fp, xq_fn, List.filter_nil, Nat.reduceBEq, Bool.not_true, Bool.not_false, Bool.and_true, Bool.and_false, Bool.false_and, Bool.true_and, if_true, if_false, Bool.false_eq_true, reduceIte, xc_i, xc_j, xc_r, xc_n, List.nil_append, List.cons_append, Option.toList_some, Option.toList_none, nI_ltJ, nI_leJ, nI_eqJ, nI_ltz, nI_gez, nI_gtz, nI_lez, nI_eqz, m1_ltz, m1_gez, true_imp_iff, false_imp_iff, true_and, and_true, ne_eq, not_false_eq_true, not_true_eq_false, Nat.reduceEqDiff, Nat.reduceLT, Nat.reduceLeDiff, xf_102_6 F1, xf_102_24 F1, xf_102_11 F1, e1, e2, e']
      refine ⟨fun c => absurd c (by omega), fun c257 => ?_⟩
      with_reducible refine xm_go_blk b_X12_keepProgram_263 k_X12_keepProgram_263 ?_
      refine by_aload_n rfl ?_
      refine by_getf cn_244 fl_12_66 (by first | exact rfl | assumption) (by decide) ?_
      refine by_bipush cb_8 ?_
      refine by_iload_n rfl ?_
      refine by_imul ?_
      refine by_iload_n rfl ?_
      refine by_iadd ?_
      refine by_aload_n rfl ?_
      refine by_getf cn_244 fl_12_16 (by first | exact rfl | assumption) (by decide) ?_
      refine by_iload_n rfl ?_
      simp (disch := first | exact Nat.ne_of_beq_eq_false rfl | exact rfl | omega) only [nI_add, xa_sub, xa_mul, pk_div, nm_mod, xa_shr, xa_and7, xa_and1, xa_and255, xa_by_and, nI_m1, Nat.add_sub_cancel, Nat.reducePow, Nat.zero_add, Nat.add_zero, Nat.reduceAdd, Nat.reduceMul, Nat.reduceSub, xf_same, xq_ff, xq_fo, xf_1, xf_2, xs_1, xs_2, xs_same, xq_so, xj_1, xj_2, xj_same, xq_jo, xq_sa1, xq_same, xq_other, upd_s, oI_n, oI_s, xf_102_6 F1, xf_102_24 F1, xf_102_11 F1, e1, e2, e']
      first | refine by_iald (by first | exact rfl | assumption | exact ps_1 hpp | exact ps_2 hpp | exact ps_3 hpp | exact ps_4 hpp | exact ps_5 hpp | exact ps_6 hpp | exact ps_7 hpp | exact ps_8 hpp | exact ps_9 hpp | exact ps_10 hpp | exact ps_11 hpp | exact ps_15 hpp | exact ps_16 hpp | exact ps_17 hpp | exact ps_18 hpp | exact ps_19 hpp | exact ps_21 hpp | exact ps_22 hpp | exact ps_23 hpp | exact ps_24 hpp) ⟨by omega, by omega⟩ ?_ | refine by_tald rfl rfl ⟨by omega, by omega⟩ ?_
      refine by_bipush cb_11 ?_
      refine by_ic_ne 298 rfl ?_
      simp (disch := first | exact Nat.ne_of_beq_eq_false rfl | exact rfl | omega) only [nI_add, xa_sub, xa_mul, pk_div, nm_mod, xa_shr, xa_and7, xa_and1, xa_and255, xa_by_and, nI_m1, Nat.add_sub_cancel, Nat.reducePow, Nat.zero_add, Nat.add_zero, Nat.reduceAdd, Nat.reduceMul, Nat.reduceSub, xf_same, xq_ff, xq_fo, xf_1, xf_2, xs_1, xs_2, xs_same, xq_so, xj_1, xj_2, xj_same, xq_jo, xq_sa1, xq_same, xq_other, upd_s, oI_n, oI_s, xv_0, xv_1, xv_2, xv_3, xm_p1, xm_p2, xq_fp, xq_fn, List.filter_nil, Nat.reduceBEq, Bool.not_true, Bool.not_false, Bool.and_true, Bool.and_false, Bool.false_and, Bool.true_and, if_true, if_false, Bool.false_eq_true, reduceIte, xc_i, xc_j, xc_r, xc_n, List.nil_append, List.cons_append, Option.toList_some, Option.toList_none, nI_ltJ, nI_leJ, nI_eqJ, nI_ltz, nI_gez, nI_gtz, nI_lez, nI_eqz, m1_ltz, m1_gez, true_imp_iff, false_imp_iff, true_and, and_true, ne_eq, not_false_eq_true, not_true_eq_false, Nat.reduceEqDiff, Nat.reduceLT, Nat.reduceLeDiff, xf_102_6 F1, xf_102_24 F1, xf_102_11 F1, e1, e2, e']
      with_reducible refine xm_go_blk b_X12_keepProgram_284 k_X12_keepProgram_284 ?_
      refine by_aload_n rfl ?_
      refine by_getf cn_244 fl_12_31 (by first | exact rfl | assumption) (by decide) ?_
      refine by_bipush cb_8 ?_
      refine by_iload_n rfl ?_
      refine by_imul ?_
      refine by_iload_n rfl ?_
      refine by_iadd ?_
      simp (disch := first | exact Nat.ne_of_beq_eq_false rfl | exact rfl | omega) only [nI_add, xa_sub, xa_mul, pk_div, nm_mod, xa_shr, xa_and7, xa_and1, xa_and255, xa_by_and, nI_m1, Nat.add_sub_cancel, Nat.reducePow, Nat.zero_add, Nat.add_zero, Nat.reduceAdd, Nat.reduceMul, Nat.reduceSub, xf_same, xq_ff, xq_fo, xf_1, xf_2, xs_1, xs_2, xs_same, xq_so, xj_1, xj_2, xj_same, xq_jo, xq_sa1, xq_same, xq_other, upd_s, oI_n, oI_s, xf_102_6 F1, xf_102_24 F1, xf_102_11 F1, e1, e2, e']
      first | refine by_iald (by first | exact rfl | assumption | exact ps_1 hpp | exact ps_2 hpp | exact ps_3 hpp | exact ps_4 hpp | exact ps_5 hpp | exact ps_6 hpp | exact ps_7 hpp | exact ps_8 hpp | exact ps_9 hpp | exact ps_10 hpp | exact ps_11 hpp | exact ps_15 hpp | exact ps_16 hpp | exact ps_17 hpp | exact ps_18 hpp | exact ps_19 hpp | exact ps_21 hpp | exact ps_22 hpp | exact ps_23 hpp | exact ps_24 hpp) ⟨by omega, by omega⟩ ?_ | refine by_tald rfl rfl ⟨by omega, by omega⟩ ?_
      refine by_goto 299 rfl ?_
      simp (disch := first | exact Nat.ne_of_beq_eq_false rfl | exact rfl | omega) only [nI_add, xa_sub, xa_mul, pk_div, nm_mod, xa_shr, xa_and7, xa_and1, xa_and255, xa_by_and, nI_m1, Nat.add_sub_cancel, Nat.reducePow, Nat.zero_add, Nat.add_zero, Nat.reduceAdd, Nat.reduceMul, Nat.reduceSub, xf_same, xq_ff, xq_fo, xf_1, xf_2, xs_1, xs_2, xs_same, xq_so, xj_1, xj_2, xj_same, xq_jo, xq_sa1, xq_same, xq_other, upd_s, oI_n, oI_s, xv_0, xv_1, xv_2, xv_3, xm_p1, xm_p2, xq_fp, xq_fn, List.filter_nil, Nat.reduceBEq, Bool.not_true, Bool.not_false, Bool.and_true, Bool.and_false, Bool.false_and, Bool.true_and, if_true, if_false, Bool.false_eq_true, reduceIte, xc_i, xc_j, xc_r, xc_n, List.nil_append, List.cons_append, Option.toList_some, Option.toList_none, xf_102_6 F1, xf_102_24 F1, xf_102_11 F1, e1, e2, e']
      with_reducible refine xm_go_blk b_X12_keepProgram_299 k_X12_keepProgram_299 ?_
      refine by_iast (by first | exact rfl | assumption | exact ps_1 hpp | exact ps_2 hpp | exact ps_3 hpp | exact ps_4 hpp | exact ps_5 hpp | exact ps_6 hpp | exact ps_7 hpp | exact ps_8 hpp | exact ps_9 hpp | exact ps_10 hpp | exact ps_11 hpp | exact ps_15 hpp | exact ps_16 hpp | exact ps_17 hpp | exact ps_18 hpp | exact ps_19 hpp | exact ps_21 hpp | exact ps_22 hpp | exact ps_23 hpp | exact ps_24 hpp) ⟨by omega, by omega⟩ ?_
      refine by_iinc (by rw [ml_244]; decide) rfl ci_1 ?_
      refine by_goto 257 rfl ?_
      simp (disch := first | exact Nat.ne_of_beq_eq_false rfl | exact rfl | omega) only [nI_add, xa_sub, xa_mul, pk_div, nm_mod, xa_shr, xa_and7, xa_and1, xa_and255, xa_by_and, nI_m1, Nat.add_sub_cancel, Nat.reducePow, Nat.zero_add, Nat.add_zero, Nat.reduceAdd, Nat.reduceMul, Nat.reduceSub, xf_same, xq_ff, xq_fo, xf_1, xf_2, xs_1, xs_2, xs_same, xq_so, xj_1, xj_2, xj_same, xq_jo, xq_sa1, xq_same, xq_other, upd_s, oI_n, oI_s, xv_0, xv_1, xv_2, xv_3, xm_p1, xm_p2, xq_fp, xq_fn, List.filter_nil, Nat.reduceBEq, Bool.not_true, Bool.not_false, Bool.and_true, Bool.and_false, Bool.false_and, Bool.true_and, if_true, if_false, Bool.false_eq_true, reduceIte, xc_i, xc_j, xc_r, xc_n, List.nil_append, List.cons_append, Option.toList_some, Option.toList_none, xf_102_6 F1, xf_102_24 F1, xf_102_11 F1, e1, e2, e']
      refine xm_go_wk (by simp [Value.category]) (ih (i + 1) _ (by omega) (Fr_si hf (by simp)) (fun k hk => ?_) (fun m hm => ?_))
      · by_cases z : k = i
        · subst z; rw [xs_same, upd_s, if_pos e]
        · rw [xs_same, upd_o (by omega)]; exact h1 k (by omega)
      · rw [xs_same, upd_o (by omega)]; exact h2 m (by omega)
    · have e' : (pC ps n = 11) = False := eq_false e
      with_reducible refine xm_go_blk b_X12_keepProgram_257 k_X12_keepProgram_257 ?_
      refine by_iload_n rfl ?_
      refine by_bipush cb_8 ?_
      refine by_ic_ge 306 rfl ?_
      simp (disch := first | exact Nat.ne_of_beq_eq_false rfl | exact rfl | omega) only [nI_add, xa_sub, xa_mul, pk_div, nm_mod, xa_shr, xa_and7, xa_and1, xa_and255, xa_by_and, nI_m1, Nat.add_sub_cancel, Nat.reducePow, Nat.zero_add, Nat.add_zero, Nat.reduceAdd, Nat.reduceMul, Nat.reduceSub, xf_same, xq_ff, xq_fo, xf_1, xf_2, xs_1, xs_2, xs_same, xq_so, xj_1, xj_2, xj_same, xq_jo, xq_sa1, xq_same, xq_other, upd_s, oI_n, oI_s, xv_0, xv_1, xv_2, xv_3, xm_p1, xm_p2, xq_fp, xq_fn, List.filter_nil, Nat.reduceBEq, Bool.not_true, Bool.not_false, Bool.and_true, Bool.and_false, Bool.false_and, Bool.true_and, if_true, if_false, Bool.false_eq_true, reduceIte, xc_i, xc_j, xc_r, xc_n, List.nil_append, List.cons_append, Option.toList_some, Option.toList_none, nI_ltJ, nI_leJ, nI_eqJ, nI_ltz, nI_gez, nI_gtz, nI_lez, nI_eqz, m1_ltz, m1_gez, true_imp_iff, false_imp_iff, true_and, and_true, ne_eq, not_false_eq_true, not_true_eq_false, Nat.reduceEqDiff, Nat.reduceLT, Nat.reduceLeDiff, xf_102_6 F1, xf_102_24 F1, e1, e']
      refine ⟨fun c => absurd c (by omega), fun c257 => ?_⟩
      with_reducible refine xm_go_blk b_X12_keepProgram_263 k_X12_keepProgram_263 ?_
      refine by_aload_n rfl ?_
      refine by_getf cn_244 fl_12_66 (by first | exact rfl | assumption) (by decide) ?_
      refine by_bipush cb_8 ?_
      refine by_iload_n rfl ?_
      refine by_imul ?_
      refine by_iload_n rfl ?_
      refine by_iadd ?_
      refine by_aload_n rfl ?_
      refine by_getf cn_244 fl_12_16 (by first | exact rfl | assumption) (by decide) ?_
      refine by_iload_n rfl ?_
      simp (disch := first | exact Nat.ne_of_beq_eq_false rfl | exact rfl | omega) only [nI_add, xa_sub, xa_mul, pk_div, nm_mod, xa_shr, xa_and7, xa_and1, xa_and255, xa_by_and, nI_m1, Nat.add_sub_cancel, Nat.reducePow, Nat.zero_add, Nat.add_zero, Nat.reduceAdd, Nat.reduceMul, Nat.reduceSub, xf_same, xq_ff, xq_fo, xf_1, xf_2, xs_1, xs_2, xs_same, xq_so, xj_1, xj_2, xj_same, xq_jo, xq_sa1, xq_same, xq_other, upd_s, oI_n, oI_s, xf_102_6 F1, xf_102_24 F1, e1, e']
      first | refine by_iald (by first | exact rfl | assumption | exact ps_1 hpp | exact ps_2 hpp | exact ps_3 hpp | exact ps_4 hpp | exact ps_5 hpp | exact ps_6 hpp | exact ps_7 hpp | exact ps_8 hpp | exact ps_9 hpp | exact ps_10 hpp | exact ps_11 hpp | exact ps_15 hpp | exact ps_16 hpp | exact ps_17 hpp | exact ps_18 hpp | exact ps_19 hpp | exact ps_21 hpp | exact ps_22 hpp | exact ps_23 hpp | exact ps_24 hpp) ⟨by omega, by omega⟩ ?_ | refine by_tald rfl rfl ⟨by omega, by omega⟩ ?_
      refine by_bipush cb_11 ?_
      refine by_ic_ne 298 rfl ?_
      simp (disch := first | exact Nat.ne_of_beq_eq_false rfl | exact rfl | omega) only [nI_add, xa_sub, xa_mul, pk_div, nm_mod, xa_shr, xa_and7, xa_and1, xa_and255, xa_by_and, nI_m1, Nat.add_sub_cancel, Nat.reducePow, Nat.zero_add, Nat.add_zero, Nat.reduceAdd, Nat.reduceMul, Nat.reduceSub, xf_same, xq_ff, xq_fo, xf_1, xf_2, xs_1, xs_2, xs_same, xq_so, xj_1, xj_2, xj_same, xq_jo, xq_sa1, xq_same, xq_other, upd_s, oI_n, oI_s, xv_0, xv_1, xv_2, xv_3, xm_p1, xm_p2, xq_fp, xq_fn, List.filter_nil, Nat.reduceBEq, Bool.not_true, Bool.not_false, Bool.and_true, Bool.and_false, Bool.false_and, Bool.true_and, if_true, if_false, Bool.false_eq_true, reduceIte, xc_i, xc_j, xc_r, xc_n, List.nil_append, List.cons_append, Option.toList_some, Option.toList_none, nI_ltJ, nI_leJ, nI_eqJ, nI_ltz, nI_gez, nI_gtz, nI_lez, nI_eqz, m1_ltz, m1_gez, true_imp_iff, false_imp_iff, true_and, and_true, ne_eq, not_false_eq_true, not_true_eq_false, Nat.reduceEqDiff, Nat.reduceLT, Nat.reduceLeDiff, xf_102_6 F1, xf_102_24 F1, e1, e']
      with_reducible refine xm_go_blk b_X12_keepProgram_298 k_X12_keepProgram_298 ?_
      refine by_iconst ci_0 ?_
      refine by_nil ?_
      with_reducible refine xm_go_blk b_X12_keepProgram_299 k_X12_keepProgram_299 ?_
      refine by_iast (by first | exact rfl | assumption | exact ps_1 hpp | exact ps_2 hpp | exact ps_3 hpp | exact ps_4 hpp | exact ps_5 hpp | exact ps_6 hpp | exact ps_7 hpp | exact ps_8 hpp | exact ps_9 hpp | exact ps_10 hpp | exact ps_11 hpp | exact ps_15 hpp | exact ps_16 hpp | exact ps_17 hpp | exact ps_18 hpp | exact ps_19 hpp | exact ps_21 hpp | exact ps_22 hpp | exact ps_23 hpp | exact ps_24 hpp) ⟨by omega, by omega⟩ ?_
      refine by_iinc (by rw [ml_244]; decide) rfl ci_1 ?_
      refine by_goto 257 rfl ?_
      simp (disch := first | exact Nat.ne_of_beq_eq_false rfl | exact rfl | omega) only [nI_add, xa_sub, xa_mul, pk_div, nm_mod, xa_shr, xa_and7, xa_and1, xa_and255, xa_by_and, nI_m1, Nat.add_sub_cancel, Nat.reducePow, Nat.zero_add, Nat.add_zero, Nat.reduceAdd, Nat.reduceMul, Nat.reduceSub, xf_same, xq_ff, xq_fo, xf_1, xf_2, xs_1, xs_2, xs_same, xq_so, xj_1, xj_2, xj_same, xq_jo, xq_sa1, xq_same, xq_other, upd_s, oI_n, oI_s, xv_0, xv_1, xv_2, xv_3, xm_p1, xm_p2, xq_fp, xq_fn, List.filter_nil, Nat.reduceBEq, Bool.not_true, Bool.not_false, Bool.and_true, Bool.and_false, Bool.false_and, Bool.true_and, if_true, if_false, Bool.false_eq_true, reduceIte, xc_i, xc_j, xc_r, xc_n, List.nil_append, List.cons_append, Option.toList_some, Option.toList_none, xf_102_6 F1, xf_102_24 F1, e1, e']
      refine xm_go_wk (by simp [Value.category]) (ih (i + 1) _ (by omega) (Fr_si hf (by simp)) (fun k hk => ?_) (fun m hm => ?_))
      · by_cases z : k = i
        · subst z; rw [xs_same, upd_s, if_neg e]
        · rw [xs_same, upd_o (by omega)]; exact h1 k (by omega)
      · rw [xs_same, upd_o (by omega)]; exact h2 m (by omega)
end KN
