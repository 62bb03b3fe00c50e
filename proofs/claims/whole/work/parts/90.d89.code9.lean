/-! ===== definitions of jets: a piece is made once ===== -/
theorem pot_take {f : Nat → Int32} {J : List Nat} {j0 : Nat} (h0 : f j0 = 0) (hJ : j0 ∉ J) : ∀ n, potN f J n = potN f (j0 :: J) n + (if j0 < n then oc (j0 / 7) (j0 % 7) else 0)
  | 0 => by simp [potN]
  | n + 1 => by
    have ih := pot_take h0 hJ n
    simp only [potN, List.mem_cons]
    by_cases e : n = j0
    · subst e
      rw [if_pos ⟨h0, hJ⟩, if_neg (by simp), if_pos (by omega)]
      rw [if_neg (by omega)] at ih
      omega
    · have e1 : (f n = 0 ∧ ¬ (n = j0 ∨ n ∈ J)) = (f n = 0 ∧ n ∉ J) := by simp [e]
      simp only [e1, ih]
      by_cases e2 : j0 < n
      · rw [if_pos e2, if_pos (show j0 < n + 1 by omega)]; omega
      · rw [if_neg e2, if_neg (show ¬ j0 < n + 1 by omega)]; omega
theorem pot_set {f g : Nat → Int32} {J : List Nat} {j0 : Nat} (h0 : g j0 ≠ 0) (hg : ∀ j, j ≠ j0 → g j = f j) : ∀ n, potN g J n ≤ potN f (j0 :: J) n
  | 0 => Nat.le_refl _
  | n + 1 => by
    have ih := pot_set (J := J) h0 hg n
    simp only [potN, List.mem_cons]
    by_cases e : n = j0
    · subst e
      rw [if_neg (fun z => h0 z.1)]
      omega
    · rw [hg n e]
      have e1 : (f n = 0 ∧ ¬ (n = j0 ∨ n ∈ J)) = (f n = 0 ∧ n ∉ J) := by simp [e]
      simp only [e1]
      omega
theorem pH_e {k l : Nat} (hl : l < 7) : pH (7 * k + l) = hTab.getD k 0 + l := by
  unfold pH
  rw [show (7 * k + l) / 7 = k by omega, show (7 * k + l) % 7 = l by omega]
abbrev pok (k l : Nat) : Prop := k < 27 ∧ l < 7 ∧ (20 ≤ k → 3 ≤ l)
/-- what is given to one who asked for a piece -/
abbrev bPo (h : xm_H) (G : Nat → gN) (c m : Nat) (J : List Nat) (k l : Nat) (post : xm_Po) : Prop := ∀ h' G' c' n', XF h' → cI h' G' c' m J → cE h G c h' G' c' → gP G' c' n' k l → post (some (.int (nI n'))) h'
def PcOK (sc : xm_Sc) (k l : Nat) : Prop := ∀ (D c m : Nat) (h : xm_H) (G : Nat → gN) (J : List Nat) (post : xm_Po), 4 * pH (7 * k + l) + 8 ≤ D → XF h → cI h G c m J → (∀ j ∈ J, pH (7 * k + l) < pH j) → bPo h G c m J k l post → xm_T (XE sc) D 26 [.ref 22, .int (nI k), .int (nI l)] h post
def aOK (sc : xm_Sc) (r : Nat) : Prop := ∀ k l, pok k l → pH (7 * k + l) < r → PcOK sc k l
def BdOK (sc : xm_Sc) (k l : Nat) : Prop := ∀ (r d c m : Nat) (h : xm_H) (G : Nat → gN) (J : List Nat) (post : xm_Po), aOK sc r → r = pH (7 * k + l) → 4 * r ≤ d → XF h → cI h G c m J → (∀ j ∈ J, r ≤ pH j) → m + oc k l ≤ 8000 → bPo h G c (m + oc k l) J k l post →
  if 20 ≤ k then xm_T (XE sc) (d + 7) 20 [.ref 22, .int (nI k), .int (nI l), .int (nI (2 ^ l))] h post else if l = 0 then xm_T (XE sc) (d + 7) 21 [.ref 22, .int (nI k)] h post else xm_T (XE sc) (d + 7) 16 [.ref 22, .int (nI k), .int (nI l)] h post
section CD
variable {sc : xm_Sc} {D d c m n s t w r k l : Nat} {f : gFn} {q : gQ} {J : List Nat} {G : Nat → gN} {h : xm_H} {post : xm_Po}
theorem sp_pc {a : Nat} (hP : aOK sc r) (hk : pok k l) (ha : hTab.getD k 0 = a) (hlt : a + l < r) (hJ : ∀ j ∈ J, r ≤ pH j) (hD : 4 * r + 4 ≤ D) (hF : XF h) (hI : cI h G c m J) (hp : bPo h G c m J k l post) : xm_T (XE sc) D 26 [.ref 22, .int (nI k), .int (nI l)] h post := by
  have hh : pH (7 * k + l) < r := by rw [pH_e hk.2.1, ha]; exact hlt
  exact hP k l hk hh D c m h G J post (by omega) hF hI (fun j hj => Nat.lt_of_lt_of_le hh (hJ j hj)) hp
theorem pw_sh : ∀ l, l < 7 → nI 1 <<< (nI l &&& 31) = nI (2 ^ l) := by decide
theorem pc_step (hB : BdOK sc k l) (hP : aOK sc (pH (7 * k + l))) (hk : pok k l) : PcOK sc k l := by
  intro D c m h G J post hD hF hI hJ hp
  obtain ⟨d, rfl⟩ : ∃ d, D = d + 8 := ⟨D - 8, by omega⟩
  obtain ⟨i1, i2, i3, i4, i5⟩ := hI
  have hI' : cI h G c m J := ⟨i1, i2, i3, i4, i5⟩
  have hsl : k * 7 + l < 189 := by omega
  have e7 : 7 * k + l = k * 7 + l := by omega
  refine xq_in rfl ?_
  simp only [xq_a0, xq_aI, xq_aJ, xq_aR, Nat.reduceAdd]
  have hl7 := hk.2.1
  rcases i2 _ hsl with z | ⟨p, z1, z2⟩
  · have hnJ : k * 7 + l ∉ J := fun hh => by have := hJ _ hh; rw [e7] at this; omega
    have ht := pot_take z hnJ 189
    rw [if_pos hsl, show (k * 7 + l) / 7 = k by omega, show (k * 7 + l) % 7 = l by omega] at ht
    have I1 : cI h G c (m - oc k l) ((k * 7 + l) :: J) := ⟨i1, i2, by omega, by omega, fun j hj => by
      rcases List.mem_cons.mp hj with rfl | hj
      · exact z
      · exact i5 j hj⟩
    have J1 : ∀ j ∈ (k * 7 + l) :: J, pH (7 * k + l) ≤ pH j := fun j hj => by
      rcases List.mem_cons.mp hj with rfl | hj
      · rw [e7]; exact Nat.le_refl _
      · exact Nat.le_of_lt (hJ j hj)
    have ho : m - oc k l + oc k l = m := by omega
    -- the piece is put down
    have fin : ∀ h1 G1 c1 n1, XF h1 → cI h1 G1 c1 m ((k * 7 + l) :: J) → cE h G c h1 G1 c1 → gP G1 c1 n1 k l → post (some (.int (nI n1))) (xm_si h1 31 (k * 7 + l) (nI n1)) := by
      intro h1 G1 c1 n1 F1 I1 e1 p1
      obtain ⟨j1, j2, j3, j4, j5⟩ := I1
      obtain ⟨f, v, sp⟩ := p1
      have hc1 : c1 ≤ 8000 := j1.2.2.1
      have hne : nI n1 ≠ 0 := by
        have a1 := v.1; have a2 := v.2.1
        intro hz
        rw [nI_eqz (by omega)] at hz
        omega
      have f2 : Fr [31] [] h1 (xm_si h1 31 (k * 7 + l) (nI n1)) := Fr_si Fr_rf (by simp)
      refine hp _ G1 c1 n1 (Fr_XF F1 f2 (by decide +kernel)) ⟨⟨j1.1, j1.2.1, j1.2.2.1, fun n h4 hn => ?_⟩, fun j hj => ?_, ?_, j4, fun j hj => ?_⟩ ⟨Fr_si e1.1 (by simp [cdR]), fun r j hj hr => ?_, e1.2.2.1, e1.2.2.2⟩ ⟨f, v, sp⟩
      · refine ⟨(j1.2.2.2 n h4 hn).1, ?_⟩
        have := (j1.2.2.2 n h4 hn).2
        unfold gR at this ⊢
        rw [f2.1 23 (by simp), f2.1 24 (by simp), f2.1 25 (by simp), f2.1 26 (by simp), f2.1 27 (by simp), f2.1 29 (by simp), f2.1 30 (by simp)]
        exact this
      · by_cases e : j = k * 7 + l
        · subst e
          refine Or.inr ⟨n1, by simp [xm_si, upd], ?_⟩
          rw [show (k * 7 + l) / 7 = k by omega, show (k * 7 + l) % 7 = l by omega]
          exact ⟨f, v, sp⟩
        · have : (xm_si h1 31 (k * 7 + l) (nI n1)).1 31 j = h1.1 31 j := by simp [xm_si, upd, e]
          rw [this]
          exact j2 j hj
      · have hs := pot_set (f := h1.1 31) (g := (xm_si h1 31 (k * 7 + l) (nI n1)).1 31) (J := J) (j0 := k * 7 + l) (by simp [xm_si, upd]; exact hne) (fun j hj => by simp [xm_si, upd, hj]) 189
        omega
      · have hne2 : j ≠ k * 7 + l := fun z => hnJ (z ▸ hj)
        have : (xm_si h1 31 (k * 7 + l) (nI n1)).1 31 j = h1.1 31 j := by simp [xm_si, upd, hne2]
        rw [this]
        exact j5 j (List.mem_cons_of_mem _ hj)
      · have : r ≠ 31 := fun z => by subst z; simp [gRw] at hr
        rw [f2.1 r (by simp [this])]
        exact e1.2.1 r j hj hr
    have body := fun post' => hB (pH (7 * k + l)) d c (m - oc k l) h G ((k * 7 + l) :: J) post' hP rfl (by omega) hF I1 J1 (by omega)
    rw [ho] at body
    have hsh := pw_sh l hl7
    by_cases h20 : 20 ≤ k
    · with_reducible refine xm_go_blk b_X0_piece_0 k_X0_piece_0 ?_
      refine by_iload_n rfl ?_
      refine by_bipush cb_7 ?_
      refine by_imul ?_
      refine by_iload_n rfl ?_
      refine by_iadd ?_
      refine by_istore_n (by rw [ml_26]; decide) ?_
      refine by_iload_n rfl ?_
      refine by_if_lt 17 rfl ?_
      simp (disch := first | exact Nat.ne_of_beq_eq_false rfl | exact rfl | omega) only [nI_add, xa_sub, xa_mul, pk_div, nm_mod, xa_shr, xa_and7, xa_and1, xa_and255, xa_by_and, nI_m1, Nat.add_sub_cancel, Nat.reducePow, Nat.zero_add, Nat.add_zero, Nat.reduceAdd, Nat.reduceMul, Nat.reduceSub, xf_same, xq_ff, xq_fo, xf_1, xf_2, xs_1, xs_2, xs_same, xq_so, xj_1, xj_2, xj_same, xq_jo, xq_sa1, xq_same, xq_other, upd_s, oI_n, oI_s, xv_0, xv_1, xv_2, xv_3, xm_p1, xm_p2, xq_fp, xq_fn, List.filter_nil, Nat.reduceBEq, Bool.not_true, Bool.not_false, Bool.and_true, Bool.and_false, Bool.false_and, Bool.true_and, if_true, if_false, Bool.false_eq_true, reduceIte, xc_i, xc_j, xc_r, xc_n, List.nil_append, List.cons_append, Option.toList_some, Option.toList_none, nI_ltJ, nI_leJ, nI_eqJ, nI_ltz, nI_gez, nI_gtz, nI_lez, nI_eqz, m1_ltz, m1_gez, true_imp_iff, false_imp_iff, true_and, and_true, ne_eq, not_false_eq_true, not_true_eq_false, Nat.reduceEqDiff, Nat.reduceLT, Nat.reduceLeDiff, xf_22_8 hF, z, hsh]
      with_reducible refine xm_go_blk b_X0_piece_11 k_X0_piece_11 ?_
      refine by_iload_n rfl ?_
      refine by_bipush cb_7 ?_
      refine by_ic_lt 21 rfl ?_
      simp (disch := first | exact Nat.ne_of_beq_eq_false rfl | exact rfl | omega) only [nI_add, xa_sub, xa_mul, pk_div, nm_mod, xa_shr, xa_and7, xa_and1, xa_and255, xa_by_and, nI_m1, Nat.add_sub_cancel, Nat.reducePow, Nat.zero_add, Nat.add_zero, Nat.reduceAdd, Nat.reduceMul, Nat.reduceSub, xf_same, xq_ff, xq_fo, xf_1, xf_2, xs_1, xs_2, xs_same, xq_so, xj_1, xj_2, xj_same, xq_jo, xq_sa1, xq_same, xq_other, upd_s, oI_n, oI_s, xv_0, xv_1, xv_2, xv_3, xm_p1, xm_p2, xq_fp, xq_fn, List.filter_nil, Nat.reduceBEq, Bool.not_true, Bool.not_false, Bool.and_true, Bool.and_false, Bool.false_and, Bool.true_and, if_true, if_false, Bool.false_eq_true, reduceIte, xc_i, xc_j, xc_r, xc_n, List.nil_append, List.cons_append, Option.toList_some, Option.toList_none, nI_ltJ, nI_leJ, nI_eqJ, nI_ltz, nI_gez, nI_gtz, nI_lez, nI_eqz, m1_ltz, m1_gez, true_imp_iff, false_imp_iff, true_and, and_true, ne_eq, not_false_eq_true, not_true_eq_false, Nat.reduceEqDiff, Nat.reduceLT, Nat.reduceLeDiff, xf_22_8 hF, z, hsh]
      refine ⟨fun c11 => ?_, fun c => absurd (by omega) c⟩
      with_reducible refine xm_go_blk b_X0_piece_21 k_X0_piece_21 ?_
      refine by_aload_n rfl ?_
      refine by_getf cn_26 fl_0_36 (by first | exact rfl | assumption) (by decide) ?_
      refine by_iload_n rfl ?_
      simp (disch := first | exact Nat.ne_of_beq_eq_false rfl | exact rfl | omega) only [nI_add, xa_sub, xa_mul, pk_div, nm_mod, xa_shr, xa_and7, xa_and1, xa_and255, xa_by_and, nI_m1, Nat.add_sub_cancel, Nat.reducePow, Nat.zero_add, Nat.add_zero, Nat.reduceAdd, Nat.reduceMul, Nat.reduceSub, xf_same, xq_ff, xq_fo, xf_1, xf_2, xs_1, xs_2, xs_same, xq_so, xj_1, xj_2, xj_same, xq_jo, xq_sa1, xq_same, xq_other, upd_s, oI_n, oI_s, xf_22_8 hF, z, hsh]
      first | refine by_iald (by first | exact rfl | assumption | exact ps_1 hpp | exact ps_2 hpp | exact ps_3 hpp | exact ps_4 hpp | exact ps_5 hpp | exact ps_6 hpp | exact ps_7 hpp | exact ps_8 hpp | exact ps_9 hpp | exact ps_10 hpp | exact ps_11 hpp | exact ps_15 hpp | exact ps_16 hpp | exact ps_17 hpp | exact ps_18 hpp | exact ps_19 hpp | exact ps_21 hpp | exact ps_22 hpp | exact ps_23 hpp | exact ps_24 hpp) ⟨by omega, by omega⟩ ?_ | refine by_tald rfl rfl ⟨by omega, by omega⟩ ?_
      refine by_if_eq 37 rfl ?_
      simp (disch := first | exact Nat.ne_of_beq_eq_false rfl | exact rfl | omega) only [nI_add, xa_sub, xa_mul, pk_div, nm_mod, xa_shr, xa_and7, xa_and1, xa_and255, xa_by_and, nI_m1, Nat.add_sub_cancel, Nat.reducePow, Nat.zero_add, Nat.add_zero, Nat.reduceAdd, Nat.reduceMul, Nat.reduceSub, xf_same, xq_ff, xq_fo, xf_1, xf_2, xs_1, xs_2, xs_same, xq_so, xj_1, xj_2, xj_same, xq_jo, xq_sa1, xq_same, xq_other, upd_s, oI_n, oI_s, xv_0, xv_1, xv_2, xv_3, xm_p1, xm_p2, xq_fp, xq_fn, List.filter_nil, Nat.reduceBEq, Bool.not_true, Bool.not_false, Bool.and_true, Bool.and_false, Bool.false_and, Bool.true_and, if_true, if_false, Bool.false_eq_true, reduceIte, xc_i, xc_j, xc_r, xc_n, List.nil_append, List.cons_append, Option.toList_some, Option.toList_none, nI_ltJ, nI_leJ, nI_eqJ, nI_ltz, nI_gez, nI_gtz, nI_lez, nI_eqz, m1_ltz, m1_gez, true_imp_iff, false_imp_iff, true_and, and_true, ne_eq, not_false_eq_true, not_true_eq_false, Nat.reduceEqDiff, Nat.reduceLT, Nat.reduceLeDiff, xf_22_8 hF, z, hsh]
      with_reducible refine xm_go_blk b_X0_piece_37 k_X0_piece_37 ?_
      refine by_iload_n rfl ?_
      refine by_bipush cb_20 ?_
      refine by_ic_lt 61 rfl ?_
      simp (disch := first | exact Nat.ne_of_beq_eq_false rfl | exact rfl | omega) only [nI_add, xa_sub, xa_mul, pk_div, nm_mod, xa_shr, xa_and7, xa_and1, xa_and255, xa_by_and, nI_m1, Nat.add_sub_cancel, Nat.reducePow, Nat.zero_add, Nat.add_zero, Nat.reduceAdd, Nat.reduceMul, Nat.reduceSub, xf_same, xq_ff, xq_fo, xf_1, xf_2, xs_1, xs_2, xs_same, xq_so, xj_1, xj_2, xj_same, xq_jo, xq_sa1, xq_same, xq_other, upd_s, oI_n, oI_s, xv_0, xv_1, xv_2, xv_3, xm_p1, xm_p2, xq_fp, xq_fn, List.filter_nil, Nat.reduceBEq, Bool.not_true, Bool.not_false, Bool.and_true, Bool.and_false, Bool.false_and, Bool.true_and, if_true, if_false, Bool.false_eq_true, reduceIte, xc_i, xc_j, xc_r, xc_n, List.nil_append, List.cons_append, Option.toList_some, Option.toList_none, nI_ltJ, nI_leJ, nI_eqJ, nI_ltz, nI_gez, nI_gtz, nI_lez, nI_eqz, m1_ltz, m1_gez, true_imp_iff, false_imp_iff, true_and, and_true, ne_eq, not_false_eq_true, not_true_eq_false, Nat.reduceEqDiff, Nat.reduceLT, Nat.reduceLeDiff, xf_22_8 hF, z, hsh]
      refine ⟨fun c => absurd c (by omega), fun c37 => ?_⟩
      with_reducible refine xm_go_blk b_X0_piece_43 k_X0_piece_43 ?_
      refine by_aload_n rfl ?_
      refine by_getf cn_26 fl_0_36 (by first | exact rfl | assumption) (by decide) ?_
      refine by_iload_n rfl ?_
      refine by_aload_n rfl ?_
      refine by_iload_n rfl ?_
      refine by_iload_n rfl ?_
      refine by_iconst ci_1 ?_
      refine by_iload_n rfl ?_
      refine by_ishl ?_
      simp (disch := first | exact Nat.ne_of_beq_eq_false rfl | exact rfl | omega) only [nI_add, xa_sub, xa_mul, pk_div, nm_mod, xa_shr, xa_and7, xa_and1, xa_and255, xa_by_and, nI_m1, Nat.add_sub_cancel, Nat.reducePow, Nat.zero_add, Nat.add_zero, Nat.reduceAdd, Nat.reduceMul, Nat.reduceSub, xf_same, xq_ff, xq_fo, xf_1, xf_2, xs_1, xs_2, xs_same, xq_so, xj_1, xj_2, xj_same, xq_jo, xq_sa1, xq_same, xq_other, upd_s, oI_n, oI_s, xv_0, xv_1, xv_2, xv_3, xm_p1, xm_p2, xq_fp, xq_fn, List.filter_nil, Nat.reduceBEq, Bool.not_true, Bool.not_false, Bool.and_true, Bool.and_false, Bool.false_and, Bool.true_and, if_true, if_false, Bool.false_eq_true, reduceIte, xc_i, xc_j, xc_r, xc_n, List.nil_append, List.cons_append, Option.toList_some, Option.toList_none, xf_22_8 hF, z, hsh]
      refine by_inv3 cn_26 lk_0_108 (by rw [xe_cnt]; decide) is_20 np_20 cn_20 (by first | exact rfl | assumption) (Nat.le_of_ble_eq_true rfl) ?_
      have b1 := body
      simp only [if_pos h20] at b1
      refine b1 _ (fun h1 G1 c1 n1 F1 I1 e1 p1 => ?_)
      with_reducible refine xm_go_blk b_X0_piece_57 k_X0_piece_57 ?_
      refine by_iast (by first | exact rfl | assumption | exact ps_1 hpp | exact ps_2 hpp | exact ps_3 hpp | exact ps_4 hpp | exact ps_5 hpp | exact ps_6 hpp | exact ps_7 hpp | exact ps_8 hpp | exact ps_9 hpp | exact ps_10 hpp | exact ps_11 hpp | exact ps_15 hpp | exact ps_16 hpp | exact ps_17 hpp | exact ps_18 hpp | exact ps_19 hpp | exact ps_21 hpp | exact ps_22 hpp | exact ps_23 hpp | exact ps_24 hpp) ⟨by omega, by omega⟩ ?_
      refine by_goto 85 rfl ?_
      with_reducible refine xm_go_blk b_X0_piece_85 k_X0_piece_85 ?_
      refine by_aload_n rfl ?_
      refine by_getf cn_26 fl_0_36 (by first | exact rfl | assumption) (by decide) ?_
      refine by_iload_n rfl ?_
      simp (disch := first | exact Nat.ne_of_beq_eq_false rfl | exact rfl | omega) only [nI_add, xa_sub, xa_mul, pk_div, nm_mod, xa_shr, xa_and7, xa_and1, xa_and255, xa_by_and, nI_m1, Nat.add_sub_cancel, Nat.reducePow, Nat.zero_add, Nat.add_zero, Nat.reduceAdd, Nat.reduceMul, Nat.reduceSub, xf_same, xq_ff, xq_fo, xf_1, xf_2, xs_1, xs_2, xs_same, xq_so, xj_1, xj_2, xj_same, xq_jo, xq_sa1, xq_same, xq_other, upd_s, oI_n, oI_s, xf_22_8 F1]
      first | refine by_iald (by first | exact rfl | assumption | exact ps_1 hpp | exact ps_2 hpp | exact ps_3 hpp | exact ps_4 hpp | exact ps_5 hpp | exact ps_6 hpp | exact ps_7 hpp | exact ps_8 hpp | exact ps_9 hpp | exact ps_10 hpp | exact ps_11 hpp | exact ps_15 hpp | exact ps_16 hpp | exact ps_17 hpp | exact ps_18 hpp | exact ps_19 hpp | exact ps_21 hpp | exact ps_22 hpp | exact ps_23 hpp | exact ps_24 hpp) ⟨by omega, by omega⟩ ?_ | refine by_tald rfl rfl ⟨by omega, by omega⟩ ?_
      simp (disch := first | exact Nat.ne_of_beq_eq_false rfl | exact rfl | omega) only [nI_add, xa_sub, xa_mul, pk_div, nm_mod, xa_shr, xa_and7, xa_and1, xa_and255, xa_by_and, nI_m1, Nat.add_sub_cancel, Nat.reducePow, Nat.zero_add, Nat.add_zero, Nat.reduceAdd, Nat.reduceMul, Nat.reduceSub, xf_same, xq_ff, xq_fo, xf_1, xf_2, xs_1, xs_2, xs_same, xq_so, xj_1, xj_2, xj_same, xq_jo, xq_sa1, xq_same, xq_other, upd_s, oI_n, oI_s, xf_22_8 F1]
      refine by_iret ry_26 (by first | rfl | assumption) ?_
      exact fin h1 G1 c1 n1 F1 I1 e1 p1
    · by_cases h0 : l = 0
      · with_reducible refine xm_go_blk b_X0_piece_0 k_X0_piece_0 ?_
        refine by_iload_n rfl ?_
        refine by_bipush cb_7 ?_
        refine by_imul ?_
        refine by_iload_n rfl ?_
        refine by_iadd ?_
        refine by_istore_n (by rw [ml_26]; decide) ?_
        refine by_iload_n rfl ?_
        refine by_if_lt 17 rfl ?_
        simp (disch := first | exact Nat.ne_of_beq_eq_false rfl | exact rfl | omega) only [nI_add, xa_sub, xa_mul, pk_div, nm_mod, xa_shr, xa_and7, xa_and1, xa_and255, xa_by_and, nI_m1, Nat.add_sub_cancel, Nat.reducePow, Nat.zero_add, Nat.add_zero, Nat.reduceAdd, Nat.reduceMul, Nat.reduceSub, xf_same, xq_ff, xq_fo, xf_1, xf_2, xs_1, xs_2, xs_same, xq_so, xj_1, xj_2, xj_same, xq_jo, xq_sa1, xq_same, xq_other, upd_s, oI_n, oI_s, xv_0, xv_1, xv_2, xv_3, xm_p1, xm_p2, xq_fp, xq_fn, List.filter_nil, Nat.reduceBEq, Bool.not_true, Bool.not_false, Bool.and_true, Bool.and_false, Bool.false_and, Bool.true_and, if_true, if_false, Bool.false_eq_true, reduceIte, xc_i, xc_j, xc_r, xc_n, List.nil_append, List.cons_append, Option.toList_some, Option.toList_none, nI_ltJ, nI_leJ, nI_eqJ, nI_ltz, nI_gez, nI_gtz, nI_lez, nI_eqz, m1_ltz, m1_gez, true_imp_iff, false_imp_iff, true_and, and_true, ne_eq, not_false_eq_true, not_true_eq_false, Nat.reduceEqDiff, Nat.reduceLT, Nat.reduceLeDiff, xf_22_8 hF, z]
        with_reducible refine xm_go_blk b_X0_piece_11 k_X0_piece_11 ?_
        refine by_iload_n rfl ?_
        refine by_bipush cb_7 ?_
        refine by_ic_lt 21 rfl ?_
        simp (disch := first | exact Nat.ne_of_beq_eq_false rfl | exact rfl | omega) only [nI_add, xa_sub, xa_mul, pk_div, nm_mod, xa_shr, xa_and7, xa_and1, xa_and255, xa_by_and, nI_m1, Nat.add_sub_cancel, Nat.reducePow, Nat.zero_add, Nat.add_zero, Nat.reduceAdd, Nat.reduceMul, Nat.reduceSub, xf_same, xq_ff, xq_fo, xf_1, xf_2, xs_1, xs_2, xs_same, xq_so, xj_1, xj_2, xj_same, xq_jo, xq_sa1, xq_same, xq_other, upd_s, oI_n, oI_s, xv_0, xv_1, xv_2, xv_3, xm_p1, xm_p2, xq_fp, xq_fn, List.filter_nil, Nat.reduceBEq, Bool.not_true, Bool.not_false, Bool.and_true, Bool.and_false, Bool.false_and, Bool.true_and, if_true, if_false, Bool.false_eq_true, reduceIte, xc_i, xc_j, xc_r, xc_n, List.nil_append, List.cons_append, Option.toList_some, Option.toList_none, nI_ltJ, nI_leJ, nI_eqJ, nI_ltz, nI_gez, nI_gtz, nI_lez, nI_eqz, m1_ltz, m1_gez, true_imp_iff, false_imp_iff, true_and, and_true, ne_eq, not_false_eq_true, not_true_eq_false, Nat.reduceEqDiff, Nat.reduceLT, Nat.reduceLeDiff, xf_22_8 hF, z]
        refine ⟨fun c11 => ?_, fun c => absurd (by omega) c⟩
        with_reducible refine xm_go_blk b_X0_piece_21 k_X0_piece_21 ?_
        refine by_aload_n rfl ?_
        refine by_getf cn_26 fl_0_36 (by first | exact rfl | assumption) (by decide) ?_
        refine by_iload_n rfl ?_
        simp (disch := first | exact Nat.ne_of_beq_eq_false rfl | exact rfl | omega) only [nI_add, xa_sub, xa_mul, pk_div, nm_mod, xa_shr, xa_and7, xa_and1, xa_and255, xa_by_and, nI_m1, Nat.add_sub_cancel, Nat.reducePow, Nat.zero_add, Nat.add_zero, Nat.reduceAdd, Nat.reduceMul, Nat.reduceSub, xf_same, xq_ff, xq_fo, xf_1, xf_2, xs_1, xs_2, xs_same, xq_so, xj_1, xj_2, xj_same, xq_jo, xq_sa1, xq_same, xq_other, upd_s, oI_n, oI_s, xf_22_8 hF, z]
        first | refine by_iald (by first | exact rfl | assumption | exact ps_1 hpp | exact ps_2 hpp | exact ps_3 hpp | exact ps_4 hpp | exact ps_5 hpp | exact ps_6 hpp | exact ps_7 hpp | exact ps_8 hpp | exact ps_9 hpp | exact ps_10 hpp | exact ps_11 hpp | exact ps_15 hpp | exact ps_16 hpp | exact ps_17 hpp | exact ps_18 hpp | exact ps_19 hpp | exact ps_21 hpp | exact ps_22 hpp | exact ps_23 hpp | exact ps_24 hpp) ⟨by omega, by omega⟩ ?_ | refine by_tald rfl rfl ⟨by omega, by omega⟩ ?_
        refine by_if_eq 37 rfl ?_
        simp (disch := first | exact Nat.ne_of_beq_eq_false rfl | exact rfl | omega) only [nI_add, xa_sub, xa_mul, pk_div, nm_mod, xa_shr, xa_and7, xa_and1, xa_and255, xa_by_and, nI_m1, Nat.add_sub_cancel, Nat.reducePow, Nat.zero_add, Nat.add_zero, Nat.reduceAdd, Nat.reduceMul, Nat.reduceSub, xf_same, xq_ff, xq_fo, xf_1, xf_2, xs_1, xs_2, xs_same, xq_so, xj_1, xj_2, xj_same, xq_jo, xq_sa1, xq_same, xq_other, upd_s, oI_n, oI_s, xv_0, xv_1, xv_2, xv_3, xm_p1, xm_p2, xq_fp, xq_fn, List.filter_nil, Nat.reduceBEq, Bool.not_true, Bool.not_false, Bool.and_true, Bool.and_false, Bool.false_and, Bool.true_and, if_true, if_false, Bool.false_eq_true, reduceIte, xc_i, xc_j, xc_r, xc_n, List.nil_append, List.cons_append, Option.toList_some, Option.toList_none, nI_ltJ, nI_leJ, nI_eqJ, nI_ltz, nI_gez, nI_gtz, nI_lez, nI_eqz, m1_ltz, m1_gez, true_imp_iff, false_imp_iff, true_and, and_true, ne_eq, not_false_eq_true, not_true_eq_false, Nat.reduceEqDiff, Nat.reduceLT, Nat.reduceLeDiff, xf_22_8 hF, z]
        with_reducible refine xm_go_blk b_X0_piece_37 k_X0_piece_37 ?_
        refine by_iload_n rfl ?_
        refine by_bipush cb_20 ?_
        refine by_ic_lt 61 rfl ?_
        simp (disch := first | exact Nat.ne_of_beq_eq_false rfl | exact rfl | omega) only [nI_add, xa_sub, xa_mul, pk_div, nm_mod, xa_shr, xa_and7, xa_and1, xa_and255, xa_by_and, nI_m1, Nat.add_sub_cancel, Nat.reducePow, Nat.zero_add, Nat.add_zero, Nat.reduceAdd, Nat.reduceMul, Nat.reduceSub, xf_same, xq_ff, xq_fo, xf_1, xf_2, xs_1, xs_2, xs_same, xq_so, xj_1, xj_2, xj_same, xq_jo, xq_sa1, xq_same, xq_other, upd_s, oI_n, oI_s, xv_0, xv_1, xv_2, xv_3, xm_p1, xm_p2, xq_fp, xq_fn, List.filter_nil, Nat.reduceBEq, Bool.not_true, Bool.not_false, Bool.and_true, Bool.and_false, Bool.false_and, Bool.true_and, if_true, if_false, Bool.false_eq_true, reduceIte, xc_i, xc_j, xc_r, xc_n, List.nil_append, List.cons_append, Option.toList_some, Option.toList_none, nI_ltJ, nI_leJ, nI_eqJ, nI_ltz, nI_gez, nI_gtz, nI_lez, nI_eqz, m1_ltz, m1_gez, true_imp_iff, false_imp_iff, true_and, and_true, ne_eq, not_false_eq_true, not_true_eq_false, Nat.reduceEqDiff, Nat.reduceLT, Nat.reduceLeDiff, xf_22_8 hF, z]
        refine ⟨fun c37 => ?_, fun c => absurd (by omega) c⟩
        with_reducible refine xm_go_blk b_X0_piece_61 k_X0_piece_61 ?_
        refine by_aload_n rfl ?_
        refine by_getf cn_26 fl_0_36 (by first | exact rfl | assumption) (by decide) ?_
        refine by_iload_n rfl ?_
        refine by_iload_n rfl ?_
        refine by_if_ne 78 rfl ?_
        simp (disch := first | exact Nat.ne_of_beq_eq_false rfl | exact rfl | omega) only [nI_add, xa_sub, xa_mul, pk_div, nm_mod, xa_shr, xa_and7, xa_and1, xa_and255, xa_by_and, nI_m1, Nat.add_sub_cancel, Nat.reducePow, Nat.zero_add, Nat.add_zero, Nat.reduceAdd, Nat.reduceMul, Nat.reduceSub, xf_same, xq_ff, xq_fo, xf_1, xf_2, xs_1, xs_2, xs_same, xq_so, xj_1, xj_2, xj_same, xq_jo, xq_sa1, xq_same, xq_other, upd_s, oI_n, oI_s, xv_0, xv_1, xv_2, xv_3, xm_p1, xm_p2, xq_fp, xq_fn, List.filter_nil, Nat.reduceBEq, Bool.not_true, Bool.not_false, Bool.and_true, Bool.and_false, Bool.false_and, Bool.true_and, if_true, if_false, Bool.false_eq_true, reduceIte, xc_i, xc_j, xc_r, xc_n, List.nil_append, List.cons_append, Option.toList_some, Option.toList_none, nI_ltJ, nI_leJ, nI_eqJ, nI_ltz, nI_gez, nI_gtz, nI_lez, nI_eqz, m1_ltz, m1_gez, true_imp_iff, false_imp_iff, true_and, and_true, ne_eq, not_false_eq_true, not_true_eq_false, Nat.reduceEqDiff, Nat.reduceLT, Nat.reduceLeDiff, xf_22_8 hF, z]
        refine ⟨fun c => absurd c (by omega), fun c61 => ?_⟩
        with_reducible refine xm_go_blk b_X0_piece_70 k_X0_piece_70 ?_
        refine by_aload_n rfl ?_
        refine by_iload_n rfl ?_
        refine by_inv1 cn_26 lk_0_111 (by rw [xe_cnt]; decide) is_21 np_21 cn_21 (by first | exact rfl | assumption) (Nat.le_of_ble_eq_true rfl) ?_
        have b1 := body
        simp only [if_neg h20, if_pos h0] at b1
        refine b1 _ (fun h1 G1 c1 n1 F1 I1 e1 p1 => ?_)
        with_reducible refine xm_go_blk b_X0_piece_75 k_X0_piece_75 ?_
        refine by_goto 84 rfl ?_
        with_reducible refine xm_go_blk b_X0_piece_84 k_X0_piece_84 ?_
        refine by_iast (by first | exact rfl | assumption | exact ps_1 hpp | exact ps_2 hpp | exact ps_3 hpp | exact ps_4 hpp | exact ps_5 hpp | exact ps_6 hpp | exact ps_7 hpp | exact ps_8 hpp | exact ps_9 hpp | exact ps_10 hpp | exact ps_11 hpp | exact ps_15 hpp | exact ps_16 hpp | exact ps_17 hpp | exact ps_18 hpp | exact ps_19 hpp | exact ps_21 hpp | exact ps_22 hpp | exact ps_23 hpp | exact ps_24 hpp) ⟨by omega, by omega⟩ ?_
        refine by_nil ?_
        with_reducible refine xm_go_blk b_X0_piece_85 k_X0_piece_85 ?_
        refine by_aload_n rfl ?_
        refine by_getf cn_26 fl_0_36 (by first | exact rfl | assumption) (by decide) ?_
        refine by_iload_n rfl ?_
        simp (disch := first | exact Nat.ne_of_beq_eq_false rfl | exact rfl | omega) only [nI_add, xa_sub, xa_mul, pk_div, nm_mod, xa_shr, xa_and7, xa_and1, xa_and255, xa_by_and, nI_m1, Nat.add_sub_cancel, Nat.reducePow, Nat.zero_add, Nat.add_zero, Nat.reduceAdd, Nat.reduceMul, Nat.reduceSub, xf_same, xq_ff, xq_fo, xf_1, xf_2, xs_1, xs_2, xs_same, xq_so, xj_1, xj_2, xj_same, xq_jo, xq_sa1, xq_same, xq_other, upd_s, oI_n, oI_s, xf_22_8 F1]
        first | refine by_iald (by first | exact rfl | assumption | exact ps_1 hpp | exact ps_2 hpp | exact ps_3 hpp | exact ps_4 hpp | exact ps_5 hpp | exact ps_6 hpp | exact ps_7 hpp | exact ps_8 hpp | exact ps_9 hpp | exact ps_10 hpp | exact ps_11 hpp | exact ps_15 hpp | exact ps_16 hpp | exact ps_17 hpp | exact ps_18 hpp | exact ps_19 hpp | exact ps_21 hpp | exact ps_22 hpp | exact ps_23 hpp | exact ps_24 hpp) ⟨by omega, by omega⟩ ?_ | refine by_tald rfl rfl ⟨by omega, by omega⟩ ?_
        simp (disch := first | exact Nat.ne_of_beq_eq_false rfl | exact rfl | omega) only [nI_add, xa_sub, xa_mul, pk_div, nm_mod, xa_shr, xa_and7, xa_and1, xa_and255, xa_by_and, nI_m1, Nat.add_sub_cancel, Nat.reducePow, Nat.zero_add, Nat.add_zero, Nat.reduceAdd, Nat.reduceMul, Nat.reduceSub, xf_same, xq_ff, xq_fo, xf_1, xf_2, xs_1, xs_2, xs_same, xq_so, xj_1, xj_2, xj_same, xq_jo, xq_sa1, xq_same, xq_other, upd_s, oI_n, oI_s, xf_22_8 F1]
        refine by_iret ry_26 (by first | rfl | assumption) ?_
        exact fin h1 G1 c1 n1 F1 I1 e1 p1
      · with_reducible refine xm_go_blk b_X0_piece_0 k_X0_piece_0 ?_
        refine by_iload_n rfl ?_
        refine by_bipush cb_7 ?_
        refine by_imul ?_
        refine by_iload_n rfl ?_
        refine by_iadd ?_
        refine by_istore_n (by rw [ml_26]; decide) ?_
        refine by_iload_n rfl ?_
        refine by_if_lt 17 rfl ?_
        simp (disch := first | exact Nat.ne_of_beq_eq_false rfl | exact rfl | omega) only [nI_add, xa_sub, xa_mul, pk_div, nm_mod, xa_shr, xa_and7, xa_and1, xa_and255, xa_by_and, nI_m1, Nat.add_sub_cancel, Nat.reducePow, Nat.zero_add, Nat.add_zero, Nat.reduceAdd, Nat.reduceMul, Nat.reduceSub, xf_same, xq_ff, xq_fo, xf_1, xf_2, xs_1, xs_2, xs_same, xq_so, xj_1, xj_2, xj_same, xq_jo, xq_sa1, xq_same, xq_other, upd_s, oI_n, oI_s, xv_0, xv_1, xv_2, xv_3, xm_p1, xm_p2, xq_fp, xq_fn, List.filter_nil, Nat.reduceBEq, Bool.not_true, Bool.not_false, Bool.and_true, Bool.and_false, Bool.false_and, Bool.true_and, if_true, if_false, Bool.false_eq_true, reduceIte, xc_i, xc_j, xc_r, xc_n, List.nil_append, List.cons_append, Option.toList_some, Option.toList_none, nI_ltJ, nI_leJ, nI_eqJ, nI_ltz, nI_gez, nI_gtz, nI_lez, nI_eqz, m1_ltz, m1_gez, true_imp_iff, false_imp_iff, true_and, and_true, ne_eq, not_false_eq_true, not_true_eq_false, Nat.reduceEqDiff, Nat.reduceLT, Nat.reduceLeDiff, xf_22_8 hF, z]
        with_reducible refine xm_go_blk b_X0_piece_11 k_X0_piece_11 ?_
        refine by_iload_n rfl ?_
        refine by_bipush cb_7 ?_
        refine by_ic_lt 21 rfl ?_
        simp (disch := first | exact Nat.ne_of_beq_eq_false rfl | exact rfl | omega) only [nI_add, xa_sub, xa_mul, pk_div, nm_mod, xa_shr, xa_and7, xa_and1, xa_and255, xa_by_and, nI_m1, Nat.add_sub_cancel, Nat.reducePow, Nat.zero_add, Nat.add_zero, Nat.reduceAdd, Nat.reduceMul, Nat.reduceSub, xf_same, xq_ff, xq_fo, xf_1, xf_2, xs_1, xs_2, xs_same, xq_so, xj_1, xj_2, xj_same, xq_jo, xq_sa1, xq_same, xq_other, upd_s, oI_n, oI_s, xv_0, xv_1, xv_2, xv_3, xm_p1, xm_p2, xq_fp, xq_fn, List.filter_nil, Nat.reduceBEq, Bool.not_true, Bool.not_false, Bool.and_true, Bool.and_false, Bool.false_and, Bool.true_and, if_true, if_false, Bool.false_eq_true, reduceIte, xc_i, xc_j, xc_r, xc_n, List.nil_append, List.cons_append, Option.toList_some, Option.toList_none, nI_ltJ, nI_leJ, nI_eqJ, nI_ltz, nI_gez, nI_gtz, nI_lez, nI_eqz, m1_ltz, m1_gez, true_imp_iff, false_imp_iff, true_and, and_true, ne_eq, not_false_eq_true, not_true_eq_false, Nat.reduceEqDiff, Nat.reduceLT, Nat.reduceLeDiff, xf_22_8 hF, z]
        refine ⟨fun c11 => ?_, fun c => absurd (by omega) c⟩
        with_reducible refine xm_go_blk b_X0_piece_21 k_X0_piece_21 ?_
        refine by_aload_n rfl ?_
        refine by_getf cn_26 fl_0_36 (by first | exact rfl | assumption) (by decide) ?_
        refine by_iload_n rfl ?_
        simp (disch := first | exact Nat.ne_of_beq_eq_false rfl | exact rfl | omega) only [nI_add, xa_sub, xa_mul, pk_div, nm_mod, xa_shr, xa_and7, xa_and1, xa_and255, xa_by_and, nI_m1, Nat.add_sub_cancel, Nat.reducePow, Nat.zero_add, Nat.add_zero, Nat.reduceAdd, Nat.reduceMul, Nat.reduceSub, xf_same, xq_ff, xq_fo, xf_1, xf_2, xs_1, xs_2, xs_same, xq_so, xj_1, xj_2, xj_same, xq_jo, xq_sa1, xq_same, xq_other, upd_s, oI_n, oI_s, xf_22_8 hF, z]
        first | refine by_iald (by first | exact rfl | assumption | exact ps_1 hpp | exact ps_2 hpp | exact ps_3 hpp | exact ps_4 hpp | exact ps_5 hpp | exact ps_6 hpp | exact ps_7 hpp | exact ps_8 hpp | exact ps_9 hpp | exact ps_10 hpp | exact ps_11 hpp | exact ps_15 hpp | exact ps_16 hpp | exact ps_17 hpp | exact ps_18 hpp | exact ps_19 hpp | exact ps_21 hpp | exact ps_22 hpp | exact ps_23 hpp | exact ps_24 hpp) ⟨by omega, by omega⟩ ?_ | refine by_tald rfl rfl ⟨by omega, by omega⟩ ?_
        refine by_if_eq 37 rfl ?_
        simp (disch := first | exact Nat.ne_of_beq_eq_false rfl | exact rfl | omega) only [nI_add, xa_sub, xa_mul, pk_div, nm_mod, xa_shr, xa_and7, xa_and1, xa_and255, xa_by_and, nI_m1, Nat.add_sub_cancel, Nat.reducePow, Nat.zero_add, Nat.add_zero, Nat.reduceAdd, Nat.reduceMul, Nat.reduceSub, xf_same, xq_ff, xq_fo, xf_1, xf_2, xs_1, xs_2, xs_same, xq_so, xj_1, xj_2, xj_same, xq_jo, xq_sa1, xq_same, xq_other, upd_s, oI_n, oI_s, xv_0, xv_1, xv_2, xv_3, xm_p1, xm_p2, xq_fp, xq_fn, List.filter_nil, Nat.reduceBEq, Bool.not_true, Bool.not_false, Bool.and_true, Bool.and_false, Bool.false_and, Bool.true_and, if_true, if_false, Bool.false_eq_true, reduceIte, xc_i, xc_j, xc_r, xc_n, List.nil_append, List.cons_append, Option.toList_some, Option.toList_none, nI_ltJ, nI_leJ, nI_eqJ, nI_ltz, nI_gez, nI_gtz, nI_lez, nI_eqz, m1_ltz, m1_gez, true_imp_iff, false_imp_iff, true_and, and_true, ne_eq, not_false_eq_true, not_true_eq_false, Nat.reduceEqDiff, Nat.reduceLT, Nat.reduceLeDiff, xf_22_8 hF, z]
        with_reducible refine xm_go_blk b_X0_piece_37 k_X0_piece_37 ?_
        refine by_iload_n rfl ?_
        refine by_bipush cb_20 ?_
        refine by_ic_lt 61 rfl ?_
        simp (disch := first | exact Nat.ne_of_beq_eq_false rfl | exact rfl | omega) only [nI_add, xa_sub, xa_mul, pk_div, nm_mod, xa_shr, xa_and7, xa_and1, xa_and255, xa_by_and, nI_m1, Nat.add_sub_cancel, Nat.reducePow, Nat.zero_add, Nat.add_zero, Nat.reduceAdd, Nat.reduceMul, Nat.reduceSub, xf_same, xq_ff, xq_fo, xf_1, xf_2, xs_1, xs_2, xs_same, xq_so, xj_1, xj_2, xj_same, xq_jo, xq_sa1, xq_same, xq_other, upd_s, oI_n, oI_s, xv_0, xv_1, xv_2, xv_3, xm_p1, xm_p2, xq_fp, xq_fn, List.filter_nil, Nat.reduceBEq, Bool.not_true, Bool.not_false, Bool.and_true, Bool.and_false, Bool.false_and, Bool.true_and, if_true, if_false, Bool.false_eq_true, reduceIte, xc_i, xc_j, xc_r, xc_n, List.nil_append, List.cons_append, Option.toList_some, Option.toList_none, nI_ltJ, nI_leJ, nI_eqJ, nI_ltz, nI_gez, nI_gtz, nI_lez, nI_eqz, m1_ltz, m1_gez, true_imp_iff, false_imp_iff, true_and, and_true, ne_eq, not_false_eq_true, not_true_eq_false, Nat.reduceEqDiff, Nat.reduceLT, Nat.reduceLeDiff, xf_22_8 hF, z]
        refine ⟨fun c37 => ?_, fun c => absurd (by omega) c⟩
        with_reducible refine xm_go_blk b_X0_piece_61 k_X0_piece_61 ?_
        refine by_aload_n rfl ?_
        refine by_getf cn_26 fl_0_36 (by first | exact rfl | assumption) (by decide) ?_
        refine by_iload_n rfl ?_
        refine by_iload_n rfl ?_
        refine by_if_ne 78 rfl ?_
        simp (disch := first | exact Nat.ne_of_beq_eq_false rfl | exact rfl | omega) only [nI_add, xa_sub, xa_mul, pk_div, nm_mod, xa_shr, xa_and7, xa_and1, xa_and255, xa_by_and, nI_m1, Nat.add_sub_cancel, Nat.reducePow, Nat.zero_add, Nat.add_zero, Nat.reduceAdd, Nat.reduceMul, Nat.reduceSub, xf_same, xq_ff, xq_fo, xf_1, xf_2, xs_1, xs_2, xs_same, xq_so, xj_1, xj_2, xj_same, xq_jo, xq_sa1, xq_same, xq_other, upd_s, oI_n, oI_s, xv_0, xv_1, xv_2, xv_3, xm_p1, xm_p2, xq_fp, xq_fn, List.filter_nil, Nat.reduceBEq, Bool.not_true, Bool.not_false, Bool.and_true, Bool.and_false, Bool.false_and, Bool.true_and, if_true, if_false, Bool.false_eq_true, reduceIte, xc_i, xc_j, xc_r, xc_n, List.nil_append, List.cons_append, Option.toList_some, Option.toList_none, nI_ltJ, nI_leJ, nI_eqJ, nI_ltz, nI_gez, nI_gtz, nI_lez, nI_eqz, m1_ltz, m1_gez, true_imp_iff, false_imp_iff, true_and, and_true, ne_eq, not_false_eq_true, not_true_eq_false, Nat.reduceEqDiff, Nat.reduceLT, Nat.reduceLeDiff, xf_22_8 hF, z]
        refine ⟨fun c61 => ?_, fun c => absurd (by omega) c⟩
        with_reducible refine xm_go_blk b_X0_piece_78 k_X0_piece_78 ?_
        refine by_aload_n rfl ?_
        refine by_iload_n rfl ?_
        refine by_iload_n rfl ?_
        refine by_inv2 cn_26 lk_0_114 (by rw [xe_cnt]; decide) is_16 np_16 cn_16 (by first | exact rfl | assumption) (Nat.le_of_ble_eq_true rfl) ?_
        have b1 := body
        simp only [if_neg h20, if_neg h0] at b1
        refine b1 _ (fun h1 G1 c1 n1 F1 I1 e1 p1 => ?_)
        with_reducible refine xm_go_blk b_X0_piece_84 k_X0_piece_84 ?_
        refine by_iast (by first | exact rfl | assumption | exact ps_1 hpp | exact ps_2 hpp | exact ps_3 hpp | exact ps_4 hpp | exact ps_5 hpp | exact ps_6 hpp | exact ps_7 hpp | exact ps_8 hpp | exact ps_9 hpp | exact ps_10 hpp | exact ps_11 hpp | exact ps_15 hpp | exact ps_16 hpp | exact ps_17 hpp | exact ps_18 hpp | exact ps_19 hpp | exact ps_21 hpp | exact ps_22 hpp | exact ps_23 hpp | exact ps_24 hpp) ⟨by omega, by omega⟩ ?_
        refine by_nil ?_
        with_reducible refine xm_go_blk b_X0_piece_85 k_X0_piece_85 ?_
        refine by_aload_n rfl ?_
        refine by_getf cn_26 fl_0_36 (by first | exact rfl | assumption) (by decide) ?_
        refine by_iload_n rfl ?_
        simp (disch := first | exact Nat.ne_of_beq_eq_false rfl | exact rfl | omega) only [nI_add, xa_sub, xa_mul, pk_div, nm_mod, xa_shr, xa_and7, xa_and1, xa_and255, xa_by_and, nI_m1, Nat.add_sub_cancel, Nat.reducePow, Nat.zero_add, Nat.add_zero, Nat.reduceAdd, Nat.reduceMul, Nat.reduceSub, xf_same, xq_ff, xq_fo, xf_1, xf_2, xs_1, xs_2, xs_same, xq_so, xj_1, xj_2, xj_same, xq_jo, xq_sa1, xq_same, xq_other, upd_s, oI_n, oI_s, xf_22_8 F1]
        first | refine by_iald (by first | exact rfl | assumption | exact ps_1 hpp | exact ps_2 hpp | exact ps_3 hpp | exact ps_4 hpp | exact ps_5 hpp | exact ps_6 hpp | exact ps_7 hpp | exact ps_8 hpp | exact ps_9 hpp | exact ps_10 hpp | exact ps_11 hpp | exact ps_15 hpp | exact ps_16 hpp | exact ps_17 hpp | exact ps_18 hpp | exact ps_19 hpp | exact ps_21 hpp | exact ps_22 hpp | exact ps_23 hpp | exact ps_24 hpp) ⟨by omega, by omega⟩ ?_ | refine by_tald rfl rfl ⟨by omega, by omega⟩ ?_
        simp (disch := first | exact Nat.ne_of_beq_eq_false rfl | exact rfl | omega) only [nI_add, xa_sub, xa_mul, pk_div, nm_mod, xa_shr, xa_and7, xa_and1, xa_and255, xa_by_and, nI_m1, Nat.add_sub_cancel, Nat.reducePow, Nat.zero_add, Nat.add_zero, Nat.reduceAdd, Nat.reduceMul, Nat.reduceSub, xf_same, xq_ff, xq_fo, xf_1, xf_2, xs_1, xs_2, xs_same, xq_so, xj_1, xj_2, xj_same, xq_jo, xq_sa1, xq_same, xq_other, upd_s, oI_n, oI_s, xf_22_8 F1]
        refine by_iret ry_26 (by first | rfl | assumption) ?_
        exact fin h1 G1 c1 n1 F1 I1 e1 p1
  · rw [show (k * 7 + l) / 7 = k by omega, show (k * 7 + l) % 7 = l by omega] at z2
    obtain ⟨f, v, sp⟩ := z2
    have hv := v.1
    have hv2 := v.2.1
    have hc1 : c ≤ 8000 := i1.2.2.1
    with_reducible refine xm_go_blk b_X0_piece_0 k_X0_piece_0 ?_
    refine by_iload_n rfl ?_
    refine by_bipush cb_7 ?_
    refine by_imul ?_
    refine by_iload_n rfl ?_
    refine by_iadd ?_
    refine by_istore_n (by rw [ml_26]; decide) ?_
    refine by_iload_n rfl ?_
    refine by_if_lt 17 rfl ?_
    simp (disch := first | exact Nat.ne_of_beq_eq_false rfl | exact rfl | omega) only [nI_add, xa_sub, xa_mul, pk_div, nm_mod, xa_shr, xa_and7, xa_and1, xa_and255, xa_by_and, nI_m1, Nat.add_sub_cancel, Nat.reducePow, Nat.zero_add, Nat.add_zero, Nat.reduceAdd, Nat.reduceMul, Nat.reduceSub, xf_same, xq_ff, xq_fo, xf_1, xf_2, xs_1, xs_2, xs_same, xq_so, xj_1, xj_2, xj_same, xq_jo, xq_sa1, xq_same, xq_other, upd_s, oI_n, oI_s, xv_0, xv_1, xv_2, xv_3, xm_p1, xm_p2, xq_fp, xq_fn, List.filter_nil, Nat.reduceBEq, Bool.not_true, Bool.not_false, Bool.and_true, Bool.and_false, Bool.false_and, Bool.true_and, if_true, if_false, Bool.false_eq_true, reduceIte, xc_i, xc_j, xc_r, xc_n, List.nil_append, List.cons_append, Option.toList_some, Option.toList_none, nI_ltJ, nI_leJ, nI_eqJ, nI_ltz, nI_gez, nI_gtz, nI_lez, nI_eqz, m1_ltz, m1_gez, true_imp_iff, false_imp_iff, true_and, and_true, ne_eq, not_false_eq_true, not_true_eq_false, Nat.reduceEqDiff, Nat.reduceLT, Nat.reduceLeDiff, xf_22_8 hF, z1]
    with_reducible refine xm_go_blk b_X0_piece_11 k_X0_piece_11 ?_
    refine by_iload_n rfl ?_
    refine by_bipush cb_7 ?_
    refine by_ic_lt 21 rfl ?_
    simp (disch := first | exact Nat.ne_of_beq_eq_false rfl | exact rfl | omega) only [nI_add, xa_sub, xa_mul, pk_div, nm_mod, xa_shr, xa_and7, xa_and1, xa_and255, xa_by_and, nI_m1, Nat.add_sub_cancel, Nat.reducePow, Nat.zero_add, Nat.add_zero, Nat.reduceAdd, Nat.reduceMul, Nat.reduceSub, xf_same, xq_ff, xq_fo, xf_1, xf_2, xs_1, xs_2, xs_same, xq_so, xj_1, xj_2, xj_same, xq_jo, xq_sa1, xq_same, xq_other, upd_s, oI_n, oI_s, xv_0, xv_1, xv_2, xv_3, xm_p1, xm_p2, xq_fp, xq_fn, List.filter_nil, Nat.reduceBEq, Bool.not_true, Bool.not_false, Bool.and_true, Bool.and_false, Bool.false_and, Bool.true_and, if_true, if_false, Bool.false_eq_true, reduceIte, xc_i, xc_j, xc_r, xc_n, List.nil_append, List.cons_append, Option.toList_some, Option.toList_none, nI_ltJ, nI_leJ, nI_eqJ, nI_ltz, nI_gez, nI_gtz, nI_lez, nI_eqz, m1_ltz, m1_gez, true_imp_iff, false_imp_iff, true_and, and_true, ne_eq, not_false_eq_true, not_true_eq_false, Nat.reduceEqDiff, Nat.reduceLT, Nat.reduceLeDiff, xf_22_8 hF, z1]
    refine ⟨fun c11 => ?_, fun c => absurd (by omega) c⟩
    with_reducible refine xm_go_blk b_X0_piece_21 k_X0_piece_21 ?_
    refine by_aload_n rfl ?_
    refine by_getf cn_26 fl_0_36 (by first | exact rfl | assumption) (by decide) ?_
    refine by_iload_n rfl ?_
    simp (disch := first | exact Nat.ne_of_beq_eq_false rfl | exact rfl | omega) only [nI_add, xa_sub, xa_mul, pk_div, nm_mod, xa_shr, xa_and7, xa_and1, xa_and255, xa_by_and, nI_m1, Nat.add_sub_cancel, Nat.reducePow, Nat.zero_add, Nat.add_zero, Nat.reduceAdd, Nat.reduceMul, Nat.reduceSub, xf_same, xq_ff, xq_fo, xf_1, xf_2, xs_1, xs_2, xs_same, xq_so, xj_1, xj_2, xj_same, xq_jo, xq_sa1, xq_same, xq_other, upd_s, oI_n, oI_s, xf_22_8 hF, z1]
    first | refine by_iald (by first | exact rfl | assumption | exact ps_1 hpp | exact ps_2 hpp | exact ps_3 hpp | exact ps_4 hpp | exact ps_5 hpp | exact ps_6 hpp | exact ps_7 hpp | exact ps_8 hpp | exact ps_9 hpp | exact ps_10 hpp | exact ps_11 hpp | exact ps_15 hpp | exact ps_16 hpp | exact ps_17 hpp | exact ps_18 hpp | exact ps_19 hpp | exact ps_21 hpp | exact ps_22 hpp | exact ps_23 hpp | exact ps_24 hpp) ⟨by omega, by omega⟩ ?_ | refine by_tald rfl rfl ⟨by omega, by omega⟩ ?_
    refine by_if_eq 37 rfl ?_
    simp (disch := first | exact Nat.ne_of_beq_eq_false rfl | exact rfl | omega) only [nI_add, xa_sub, xa_mul, pk_div, nm_mod, xa_shr, xa_and7, xa_and1, xa_and255, xa_by_and, nI_m1, Nat.add_sub_cancel, Nat.reducePow, Nat.zero_add, Nat.add_zero, Nat.reduceAdd, Nat.reduceMul, Nat.reduceSub, xf_same, xq_ff, xq_fo, xf_1, xf_2, xs_1, xs_2, xs_same, xq_so, xj_1, xj_2, xj_same, xq_jo, xq_sa1, xq_same, xq_other, upd_s, oI_n, oI_s, xv_0, xv_1, xv_2, xv_3, xm_p1, xm_p2, xq_fp, xq_fn, List.filter_nil, Nat.reduceBEq, Bool.not_true, Bool.not_false, Bool.and_true, Bool.and_false, Bool.false_and, Bool.true_and, if_true, if_false, Bool.false_eq_true, reduceIte, xc_i, xc_j, xc_r, xc_n, List.nil_append, List.cons_append, Option.toList_some, Option.toList_none, nI_ltJ, nI_leJ, nI_eqJ, nI_ltz, nI_gez, nI_gtz, nI_lez, nI_eqz, m1_ltz, m1_gez, true_imp_iff, false_imp_iff, true_and, and_true, ne_eq, not_false_eq_true, not_true_eq_false, Nat.reduceEqDiff, Nat.reduceLT, Nat.reduceLeDiff, xf_22_8 hF, z1]
    refine ⟨fun c => absurd c (by omega), fun c21 => ?_⟩
    with_reducible refine xm_go_blk b_X0_piece_30 k_X0_piece_30 ?_
    refine by_aload_n rfl ?_
    refine by_getf cn_26 fl_0_36 (by first | exact rfl | assumption) (by decide) ?_
    refine by_iload_n rfl ?_
    simp (disch := first | exact Nat.ne_of_beq_eq_false rfl | exact rfl | omega) only [nI_add, xa_sub, xa_mul, pk_div, nm_mod, xa_shr, xa_and7, xa_and1, xa_and255, xa_by_and, nI_m1, Nat.add_sub_cancel, Nat.reducePow, Nat.zero_add, Nat.add_zero, Nat.reduceAdd, Nat.reduceMul, Nat.reduceSub, xf_same, xq_ff, xq_fo, xf_1, xf_2, xs_1, xs_2, xs_same, xq_so, xj_1, xj_2, xj_same, xq_jo, xq_sa1, xq_same, xq_other, upd_s, oI_n, oI_s, xf_22_8 hF, z1]
    first | refine by_iald (by first | exact rfl | assumption | exact ps_1 hpp | exact ps_2 hpp | exact ps_3 hpp | exact ps_4 hpp | exact ps_5 hpp | exact ps_6 hpp | exact ps_7 hpp | exact ps_8 hpp | exact ps_9 hpp | exact ps_10 hpp | exact ps_11 hpp | exact ps_15 hpp | exact ps_16 hpp | exact ps_17 hpp | exact ps_18 hpp | exact ps_19 hpp | exact ps_21 hpp | exact ps_22 hpp | exact ps_23 hpp | exact ps_24 hpp) ⟨by omega, by omega⟩ ?_ | refine by_tald rfl rfl ⟨by omega, by omega⟩ ?_
    simp (disch := first | exact Nat.ne_of_beq_eq_false rfl | exact rfl | omega) only [nI_add, xa_sub, xa_mul, pk_div, nm_mod, xa_shr, xa_and7, xa_and1, xa_and255, xa_by_and, nI_m1, Nat.add_sub_cancel, Nat.reducePow, Nat.zero_add, Nat.add_zero, Nat.reduceAdd, Nat.reduceMul, Nat.reduceSub, xf_same, xq_ff, xq_fo, xf_1, xf_2, xs_1, xs_2, xs_same, xq_so, xj_1, xj_2, xj_same, xq_jo, xq_sa1, xq_same, xq_other, upd_s, oI_n, oI_s, xf_22_8 hF, z1]
    refine by_iret ry_26 (by first | rfl | assumption) ?_
    exact hp h G c p hF hI' cE_rf ⟨f, v, sp⟩
theorem pc_all (hB : ∀ k l, pok k l → BdOK sc k l) : ∀ r, aOK sc r
  | 0 => fun k l _ h => absurd h (Nat.not_lt_zero _)
  | r + 1 => fun k l hk h => by
    have ih := pc_all hB r
    exact pc_step (hB k l hk) (fun k' l' hk' h' => ih k' l' hk' (by omega)) hk
end CD
