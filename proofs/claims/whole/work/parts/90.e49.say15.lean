/-! ===== say: a definition of the class ===== -/
section PR
variable {t w : List Nat} {NL : List (List Nat × Nat)} {G G' : sG} {p p' n : Nat} {x : Nat × Nat} {o : (Nat × Nat) ⊕ (sG × List (List Nat × Nat))}
theorem sD_e (h0 : tkK t p = 0) (hN : NL ≠ []) : ∃ k, sDf t k G NL p = some (.inr (G, NL)) := ⟨1, by rw [sDf, if_pos ⟨h0, hN⟩]⟩
theorem sD_1 (h0 : ¬ (tkK t p = 0 ∧ NL ≠ [])) (hw : wdO t p = none ∨ ∃ w, wdO t p = some w ∧ (tgI w).isSome = true) : ∃ k, sDf t k G NL p = some (.inl (1, tkF t p)) := ⟨1, by
  rw [sDf, if_neg h0]
  rcases hw with z | ⟨w, z, y⟩
  · rw [z]
  · rw [z]; simp only [y, if_true]⟩
theorem sD_2 (h0 : ¬ (tkK t p = 0 ∧ NL ≠ [])) (hw : wdO t p = some w) (ht : tgI w = none) (hn : nmF w NL = some n) : ∃ k, sDf t k G NL p = some (.inl (2, tkF t p)) := ⟨1, by
  rw [sDf, if_neg h0, hw]
  simp [ht, hn]⟩
theorem sD_3 (h0 : ¬ (tkK t p = 0 ∧ NL ≠ [])) (hw : wdO t p = some w) (ht : tgI w = none) (hn : nmF w NL = none) (h2 : tkK t (tkE t p) ≠ 2) : ∃ k, sDf t k G NL p = some (.inl (1, tkF t (tkE t p))) := ⟨1, by
  rw [sDf, if_neg h0, hw]
  simp [ht, hn, h2]⟩
theorem sD_xb (h0 : ¬ (tkK t p = 0 ∧ NL ≠ [])) (hw : wdO t p = some w) (ht : tgI w = none) (hn : nmF w NL = none) (h2 : tkK t (tkE t p) = 2) (hx : ∃ k, sXf t NL k G [] (tkE t (tkE t p)) = some (.inl x)) : ∃ k, sDf t k G NL p = some (.inl x) := by
  obtain ⟨k, hk⟩ := hx
  refine ⟨k + 1, ?_⟩
  rw [sDf, if_neg h0, hw]
  simp [ht, hn, h2, hk]
theorem sD_xg (h0 : ¬ (tkK t p = 0 ∧ NL ≠ [])) (hw : wdO t p = some w) (ht : tgI w = none) (hn : nmF w NL = none) (h2 : tkK t (tkE t p) = 2) (hx : ∃ k, sXf t NL k G [] (tkE t (tkE t p)) = some (.inr (G', p', n))) (hd : ∃ k, sDf t k G' (NL ++ [(w, n)]) p' = some o) : ∃ k, sDf t k G NL p = some o := by
  obtain ⟨k, hk⟩ := hx
  obtain ⟨j, hj⟩ := hd
  refine ⟨max k j + 1, ?_⟩
  rw [sDf, if_neg h0, hw]
  simp [ht, hn, h2, sXf_mono k hk (Nat.le_max_left k j)]
  exact sDf_mono j hj (Nat.le_max_right k j)
theorem sInv_nm (hI : sInv t NL G []) (hn : n < sCt G) : sInv t (NL ++ [(w, n)]) G [] := by
  refine ⟨hI.1, fun e he => ?_⟩
  rcases List.mem_append.mp he with z | z
  · exact hI.2 e z
  · rw [List.mem_singleton.mp z]
    exact ⟨hn, List.not_mem_nil⟩
end PR
def cEd (h : xm_H) (pp : Nat) (t : List Nat) (NL : List (List Nat × Nat)) (G : sG) (p nh W : Nat) : Prop := XF h ∧ h.2.2 46 9 = .ref 1 ∧ h.2.2 46 10 = .ref pp ∧ rowIs h 1 2 t ∧ nmX h NL ∧ ordI h W ∧ ckG h pp G nh ∧ 64 * nh ≤ p ∧ h.2.2 46 13 = .int (nI p)
abbrev sdR (pp : Nat) : List Nat := [8, 9, 10, 11, 47, 48, 49, 50, 51, pp + 1, pp + 2, pp + 3, pp + 4, pp + 5, pp + 11]
abbrev sdT (pp : Nat) : List (Nat × Nat) := [(7, 2), (7, 9), (46, 0), (46, 7), (46, 8), (46, 11), (46, 12), (46, 13), (46, 14), (46, 15), (46, 16), (pp, 0), (pp, 15)]
theorem sd_fin {pp : Nat} (hpp : pp = 52 ∨ pp = 77) : xt_fin.all (fun q => !((sdT pp).contains (q.1, q.2.1))) = true := by rcases hpp with rfl | rfl <;> decide +kernel
section SY
variable {sc : xm_Sc} {d pp nh p W : Nat} {t : List Nat} {NL : List (List Nat × Nat)} {G : sG} {st : List (Option Nat)} {h h' : xm_H} {post : xm_Po}
theorem cE_D (hpp : pp = 52 ∨ pp = 77) (hE : cEd h pp t NL G p nh W) : cD h pp t NL G p nh W := by
  have q : (pp, 0) ∉ ([(46, 8)] : List (Nat × Nat)) ∧ (pp, 15) ∉ ([(46, 8)] : List (Nat × Nat)) := by rcases hpp with rfl | rfl <;> decide
  have f : Fr [] [(46, 8)] h (xm_sf h 46 8 (.int (nI 0))) := Fr_sf Fr_rf (by simp)
  obtain ⟨a0, a1, a2, a3, a4, a5, a6, a7, a8⟩ := hE
  exact ⟨Fr_XF a0 f (by decide +kernel), ⟨by rw [f.2.2 _ _ (by simp)]; exact a1, by rw [f.2.2 _ _ (by simp)]; exact a2, rowIs_fr a3 f (by simp) (by simp) (by simp), nmX_fr a4 f (by simp) (by simp) (by simp) (by simp) (by simp), by simp [xm_sf, updV], trivial, by rw [f.2.2 _ _ (by simp)]; exact a5.1, a5.2⟩, cG_fr a6 f (by simp) (by simp) (by simp) (by simp) (by simp) (by simp) q.1 q.2, a7, by rw [f.2.2 _ _ (by simp)]; exact a8⟩
theorem cE_T (hT : cT h pp t NL G st p nh W) : cEd h pp t NL G p nh W := by
  obtain ⟨a0, ⟨b1, b2, b3, b4, b5, b6, b7⟩, a6, a7, a8⟩ := hT
  exact ⟨a0, b1, b2, b3, b4, b7, a6, a7, a8⟩
theorem cE_w (hpp : pp = 52 ∨ pp = 77) (hE : cEd h pp t NL G p nh W) (hp : p ≤ t.length) (f : Fr [] swdF h h') (hw : wdS h' t p) : cEd h' pp t NL G (tkE t p) nh W := by
  have q : (pp, 0) ∉ swdF ∧ (pp, 15) ∉ swdF := by rcases hpp with rfl | rfl <;> decide
  obtain ⟨a0, a1, a2, a3, a4, a5, a6, a7, a8⟩ := hE
  obtain ⟨b1, b2, b3, b4⟩ := tk_b hp
  exact ⟨Fr_XF a0 f (by decide +kernel), by rw [f.2.2 _ _ (by simp)]; exact a1, by rw [f.2.2 _ _ (by simp)]; exact a2, rowIs_fr a3 f (by simp) (by simp) (by simp), nmX_fr a4 f (by simp) (by simp) (by simp) (by simp) (by simp), ⟨by rw [f.2.2 _ _ (by simp)]; exact a5.1, fun x hx => by rw [f.1 _ (by simp)]; exact a5.2 x hx⟩, cG_fr a6 f (by simp) (by simp) (by simp) (by simp) (by simp) (by simp) q.1 q.2, by omega, hw.2.2.1⟩
theorem sp_readDefinition (hpp : pp = 52 ∨ pp = 77) (hE : cEd h pp t NL G p nh W) (hI : sInv t NL G []) (hpt : p ≤ t.length) (hNL : 3 * NL.length ≤ p) (hW : W + 2000 < 1000000)
    (hEnd : tkK t p = 0 → NL ≠ [] → ∀ h', Fr (sdR pp) (sdT pp) h h' → cEd h' pp t NL G (tkE t p) nh W → h'.2.2 46 16 = h.2.2 46 16 → h'.2.2 46 0 = h.2.2 46 0 → post (some (.int (nI 0))) h')
    (hB : ∀ e f h' W', (∃ k, sDf t k G NL p = some (.inl (e, f))) → Fr (sdR pp) (sdT pp) h h' → ordI h' W' → 5 * W' + p ≤ 5 * W + t.length + 5 → h'.2.2 46 16 = .int (nI e) → h'.2.2 46 0 = .int (nI f) → post (some (.int (nI 0))) h')
    (hM : ∀ w n G' p' h' nh' W', (∀ o, (∃ k, sDf t k G' (NL ++ [(w, n)]) p' = some o) → ∃ k, sDf t k G NL p = some o) → Fr (sdR pp) (sdT pp) h h' → cEd h' pp t (NL ++ [(w, n)]) G' p' nh' W' → sInv t (NL ++ [(w, n)]) G' [] → p + 3 ≤ p' → p' ≤ t.length → W ≤ W' → 5 * W' + p ≤ 5 * W + p' → h'.2.2 46 16 = h.2.2 46 16 → h'.2.2 46 0 = h.2.2 46 0 → post (some (.int (nI 1))) h') : xm_T (XE sc) (d + 6) 149 [.ref 46] h post := by
  have ht8 : t.length ≤ 8192 := hE.2.2.2.1.2.2.1
  obtain ⟨b1, b2, b3, b4⟩ := tk_b hpt
  obtain ⟨v1, v2, v3, v4⟩ := tk_b b3
  have sbS : ∀ c ∈ sbR pp, c ∈ sdR pp := by intro c hc; simp [sbR] at hc ⊢; omega
  have sbU : ∀ q ∈ sbT pp, q ∈ sdT pp := by intro q hq; simp [sbT] at hq ⊢; rcases hq with rfl | rfl | rfl | rfl | rfl | rfl | rfl | rfl | rfl | rfl | rfl | rfl <;> simp
  have hN1 := hE.2.2.2.2.1.1
  refine xq_in rfl ?_
  simp only [xq_a0, xq_aI, xq_aJ, xq_aR, Nat.reduceAdd]
  with_reducible refine xm_go_blk b_X9_readDefinition_0 k_X9_readDefinition_0 ?_
  refine by_aload_n rfl ?_
  refine by_inv0 cn_149 lk_9_97 (by rw [xe_cnt]; decide) is_147 np_147 cn_147 (by first | exact rfl | assumption) (Nat.le_of_ble_eq_true rfl) ?_
  refine sp_nextWord (d := d + 2) hE.1 hE.2.1 hE.2.2.2.1 hE.2.2.2.2.2.2.2.2 hpt (fun h1 f1 w1 => ?_)
  have E1 := cE_w hpp hE hpt f1 w1
  have w1' := w1
  obtain ⟨w11, w12, w13, w14, w15⟩ := w1
  have g1 : Fr (sdR pp) (sdT pp) h h1 := Fr_mo f1 (by simp) (by simp)
  have N1 := E1.2.2.2.2.1
  have e16 : h1.2.2 46 16 = h.2.2 46 16 := f1.2.2 _ _ (by simp)
  have e0 : h1.2.2 46 0 = h.2.2 46 0 := f1.2.2 _ _ (by simp)
  have bad : ∀ e f (h2 : xm_H), (∃ k, sDf t k G NL p = some (.inl (e, f))) → Fr (sdR pp) (sdT pp) h h2 → ordI h2 W → post (some (.int (nI 0))) (xm_sf (xm_sf h2 46 16 (.int (nI e))) 46 0 (.int (nI f))) := fun e f h2 hb g2 o2 =>
    hB e f _ W hb (Fr_sf (Fr_sf g2 (by simp)) (by simp)) ⟨by simpa [xm_sf, updV] using o2.1, o2.2⟩ (by omega) (by simp [xm_sf, updV]) (by simp [xm_sf, updV])
  by_cases kz : tkK t p = 0 ∧ NL ≠ []
  · have hl : 0 < NL.length := List.length_pos_iff.mpr kz.2
    have n7 := N1.1
    rw [kz.1] at w11
    have l0 : (NL.length = 0) = False := eq_false (by omega)
    with_reducible refine xm_go_blk b_X9_readDefinition_4 k_X9_readDefinition_4 ?_
    refine by_aload_n rfl ?_
    refine by_getf cn_149 fl_9_100 (by first | exact rfl | assumption) (by decide) ?_
    simp (disch := first | exact Nat.ne_of_beq_eq_false rfl | exact rfl | omega) only [nI_add, xa_sub, xa_mul, pk_div, nm_mod, xa_shr, xa_and7, xa_and1, xa_and255, xa_by_and, nI_m1, Nat.add_sub_cancel, Nat.reducePow, Nat.zero_add, Nat.add_zero, Nat.reduceAdd, Nat.reduceMul, Nat.reduceSub, xf_same, xq_ff, xq_fo, xf_1, xf_2, xs_1, xs_2, xs_same, xq_so, xj_1, xj_2, xj_same, xq_jo, xq_sa1, xq_same, xq_other, upd_s, oI_n, oI_s, w11, n7, l0]
    refine by_if_ne 20 rfl ?_
    simp (disch := first | exact Nat.ne_of_beq_eq_false rfl | exact rfl | omega) only [nI_add, xa_sub, xa_mul, pk_div, nm_mod, xa_shr, xa_and7, xa_and1, xa_and255, xa_by_and, nI_m1, Nat.add_sub_cancel, Nat.reducePow, Nat.zero_add, Nat.add_zero, Nat.reduceAdd, Nat.reduceMul, Nat.reduceSub, xf_same, xq_ff, xq_fo, xf_1, xf_2, xs_1, xs_2, xs_same, xq_so, xj_1, xj_2, xj_same, xq_jo, xq_sa1, xq_same, xq_other, upd_s, oI_n, oI_s, xv_0, xv_1, xv_2, xv_3, xm_p1, xm_p2, xq_fp, xq_fn, List.filter_nil, Nat.reduceBEq, Bool.not_true, Bool.not_false, Bool.and_true, Bool.and_false, Bool.false_and, Bool.true_and, if_true, if_false, Bool.false_eq_true, reduceIte, xc_i, xc_j, xc_r, xc_n, List.nil_append, List.cons_append, Option.toList_some, Option.toList_none, nI_ltJ, nI_leJ, nI_eqJ, nI_ltz, nI_gez, nI_gtz, nI_lez, nI_eqz, m1_ltz, m1_gez, true_imp_iff, false_imp_iff, true_and, and_true, ne_eq, not_false_eq_true, not_true_eq_false, Nat.reduceEqDiff, Nat.reduceLT, Nat.reduceLeDiff, w11, n7, l0]
    with_reducible refine xm_go_blk b_X9_readDefinition_11 k_X9_readDefinition_11 ?_
    refine by_aload_n rfl ?_
    refine by_getf cn_149 fl_9_55 (by first | exact rfl | assumption) (by decide) ?_
    simp (disch := first | exact Nat.ne_of_beq_eq_false rfl | exact rfl | omega) only [nI_add, xa_sub, xa_mul, pk_div, nm_mod, xa_shr, xa_and7, xa_and1, xa_and255, xa_by_and, nI_m1, Nat.add_sub_cancel, Nat.reducePow, Nat.zero_add, Nat.add_zero, Nat.reduceAdd, Nat.reduceMul, Nat.reduceSub, xf_same, xq_ff, xq_fo, xf_1, xf_2, xs_1, xs_2, xs_same, xq_so, xj_1, xj_2, xj_same, xq_jo, xq_sa1, xq_same, xq_other, upd_s, oI_n, oI_s, w11, n7, l0]
    refine by_if_le 20 rfl ?_
    simp (disch := first | exact Nat.ne_of_beq_eq_false rfl | exact rfl | omega) only [nI_add, xa_sub, xa_mul, pk_div, nm_mod, xa_shr, xa_and7, xa_and1, xa_and255, xa_by_and, nI_m1, Nat.add_sub_cancel, Nat.reducePow, Nat.zero_add, Nat.add_zero, Nat.reduceAdd, Nat.reduceMul, Nat.reduceSub, xf_same, xq_ff, xq_fo, xf_1, xf_2, xs_1, xs_2, xs_same, xq_so, xj_1, xj_2, xj_same, xq_jo, xq_sa1, xq_same, xq_other, upd_s, oI_n, oI_s, xv_0, xv_1, xv_2, xv_3, xm_p1, xm_p2, xq_fp, xq_fn, List.filter_nil, Nat.reduceBEq, Bool.not_true, Bool.not_false, Bool.and_true, Bool.and_false, Bool.false_and, Bool.true_and, if_true, if_false, Bool.false_eq_true, reduceIte, xc_i, xc_j, xc_r, xc_n, List.nil_append, List.cons_append, Option.toList_some, Option.toList_none, nI_ltJ, nI_leJ, nI_eqJ, nI_ltz, nI_gez, nI_gtz, nI_lez, nI_eqz, m1_ltz, m1_gez, true_imp_iff, false_imp_iff, true_and, and_true, ne_eq, not_false_eq_true, not_true_eq_false, Nat.reduceEqDiff, Nat.reduceLT, Nat.reduceLeDiff, w11, n7, l0]
    with_reducible refine xm_go_blk b_X9_readDefinition_18 k_X9_readDefinition_18 ?_
    refine by_iconst ci_0 ?_
    refine by_iret ry_149 (by first | rfl | assumption) ?_
    exact hEnd kz.1 kz.2 h1 g1 E1 e16 e0
  · -- to the name
    have k20 : xm_go (XE sc) (xm_T (XE sc) (d + 5)) 149 post 20 [(0, .ref 46)] [] h1 := by
      have no : (wdO t p = none ∨ ∃ w, wdO t p = some w ∧ (tgI w).isSome = true) → xm_go (XE sc) (xm_T (XE sc) (d + 5)) 149 post 20 [(0, .ref 46)] [] h1 := fun z => by
        have e : wnV t p = 0 := by
          unfold wnV
          rcases z with z | ⟨w, z, y⟩
          · rw [z]
          · rw [z]
            cases hq : tgI w with
            | none => rw [hq] at y; cases y
            | some c => simp [hq]
        rw [e] at w14
        have l0 : (lg_cmp (lN 0) (lN 0) = 0) = True := eq_true (by decide)
        with_reducible refine xm_go_blk b_X9_readDefinition_20 k_X9_readDefinition_20 ?_
        refine by_aload_n rfl ?_
        refine by_getf cn_149 fl_9_103 (by first | exact rfl | assumption) (by decide) ?_
        simp (disch := first | exact Nat.ne_of_beq_eq_false rfl | exact rfl | omega) only [nI_add, xa_sub, xa_mul, pk_div, nm_mod, xa_shr, xa_and7, xa_and1, xa_and255, xa_by_and, nI_m1, Nat.add_sub_cancel, Nat.reducePow, Nat.zero_add, Nat.add_zero, Nat.reduceAdd, Nat.reduceMul, Nat.reduceSub, xf_same, xq_ff, xq_fo, xf_1, xf_2, xs_1, xs_2, xs_same, xq_so, xj_1, xj_2, xj_same, xq_jo, xq_sa1, xq_same, xq_other, upd_s, oI_n, oI_s, w14, w12, l0]
        refine by_lstore_n (by rw [ml_149]; decide) ?_
        refine by_lload_n rfl ?_
        refine by_lconst cl_0 ?_
        refine by_lcmp ?_
        refine by_if_ne 43 rfl ?_
        simp (disch := first | exact Nat.ne_of_beq_eq_false rfl | exact rfl | omega) only [nI_add, xa_sub, xa_mul, pk_div, nm_mod, xa_shr, xa_and7, xa_and1, xa_and255, xa_by_and, nI_m1, Nat.add_sub_cancel, Nat.reducePow, Nat.zero_add, Nat.add_zero, Nat.reduceAdd, Nat.reduceMul, Nat.reduceSub, xf_same, xq_ff, xq_fo, xf_1, xf_2, xs_1, xs_2, xs_same, xq_so, xj_1, xj_2, xj_same, xq_jo, xq_sa1, xq_same, xq_other, upd_s, oI_n, oI_s, xv_0, xv_1, xv_2, xv_3, xm_p1, xm_p2, xq_fp, xq_fn, List.filter_nil, Nat.reduceBEq, Bool.not_true, Bool.not_false, Bool.and_true, Bool.and_false, Bool.false_and, Bool.true_and, if_true, if_false, Bool.false_eq_true, reduceIte, xc_i, xc_j, xc_r, xc_n, List.nil_append, List.cons_append, Option.toList_some, Option.toList_none, nI_ltJ, nI_leJ, nI_eqJ, nI_ltz, nI_gez, nI_gtz, nI_lez, nI_eqz, m1_ltz, m1_gez, true_imp_iff, false_imp_iff, true_and, and_true, ne_eq, not_false_eq_true, not_true_eq_false, Nat.reduceEqDiff, Nat.reduceLT, Nat.reduceLeDiff, w14, w12, l0]
        with_reducible refine xm_go_blk b_X9_readDefinition_31 k_X9_readDefinition_31 ?_
        refine by_aload_n rfl ?_
        refine by_iconst ci_1 ?_
        refine by_aload_n rfl ?_
        refine by_getf cn_149 fl_9_107 (by first | exact rfl | assumption) (by decide) ?_
        simp (disch := first | exact Nat.ne_of_beq_eq_false rfl | exact rfl | omega) only [nI_add, xa_sub, xa_mul, pk_div, nm_mod, xa_shr, xa_and7, xa_and1, xa_and255, xa_by_and, nI_m1, Nat.add_sub_cancel, Nat.reducePow, Nat.zero_add, Nat.add_zero, Nat.reduceAdd, Nat.reduceMul, Nat.reduceSub, xf_same, xq_ff, xq_fo, xf_1, xf_2, xs_1, xs_2, xs_same, xq_so, xj_1, xj_2, xj_same, xq_jo, xq_sa1, xq_same, xq_other, upd_s, oI_n, oI_s, xv_0, xv_1, xv_2, xv_3, xm_p1, xm_p2, xq_fp, xq_fn, List.filter_nil, Nat.reduceBEq, Bool.not_true, Bool.not_false, Bool.and_true, Bool.and_false, Bool.false_and, Bool.true_and, if_true, if_false, Bool.false_eq_true, reduceIte, xc_i, xc_j, xc_r, xc_n, List.nil_append, List.cons_append, Option.toList_some, Option.toList_none, w14, w12, l0]
        refine by_inv2 cn_149 lk_9_110 (by rw [xe_cnt]; decide) is_156 np_156 cn_156 (by first | exact rfl | assumption) (Nat.le_of_ble_eq_true rfl) ?_
        refine sp_refuse ?_
        with_reducible refine xm_go_blk b_X9_readDefinition_40 k_X9_readDefinition_40 ?_
        refine by_pop rfl ?_
        refine by_iconst ci_0 ?_
        refine by_iret ry_149 (by first | rfl | assumption) ?_
        exact bad 1 (tkF t p) h1 (sD_1 kz z) g1 E1.2.2.2.2.2.1
      cases ew : wdO t p with
      | none => exact no (Or.inl ew)
      | some w =>
        have hW1 := (wdO_W ew).2.1
        have k5 := (wdO_W ew).1
        have lt1 := b4 (by rw [k5]; decide)
        cases et : tgI w with
        | some c => exact no (Or.inr ⟨w, ew, by rw [et]; rfl⟩)
        | none =>
          have e : wnV t p = v8 w := by unfold wnV; rw [ew]; simp [et]
          rw [e] at w14
          have h64 := v8_lt hW1
          have q1 : (v8 w = 0) = False := eq_false (v8_pos hW1)
          with_reducible refine xm_go_blk b_X9_readDefinition_20 k_X9_readDefinition_20 ?_
          refine by_aload_n rfl ?_
          refine by_getf cn_149 fl_9_103 (by first | exact rfl | assumption) (by decide) ?_
          simp (disch := first | exact Nat.ne_of_beq_eq_false rfl | exact rfl | omega) only [nI_add, xa_sub, xa_mul, pk_div, nm_mod, xa_shr, xa_and7, xa_and1, xa_and255, xa_by_and, nI_m1, Nat.add_sub_cancel, Nat.reducePow, Nat.zero_add, Nat.add_zero, Nat.reduceAdd, Nat.reduceMul, Nat.reduceSub, xf_same, xq_ff, xq_fo, xf_1, xf_2, xs_1, xs_2, xs_same, xq_so, xj_1, xj_2, xj_same, xq_jo, xq_sa1, xq_same, xq_other, upd_s, oI_n, oI_s, w14, lcz h64 (by decide : 0 < 2 ^ 64), q1]
          refine by_lstore_n (by rw [ml_149]; decide) ?_
          refine by_lload_n rfl ?_
          refine by_lconst cl_0 ?_
          refine by_lcmp ?_
          refine by_if_ne 43 rfl ?_
          simp (disch := first | exact Nat.ne_of_beq_eq_false rfl | exact rfl | omega) only [nI_add, xa_sub, xa_mul, pk_div, nm_mod, xa_shr, xa_and7, xa_and1, xa_and255, xa_by_and, nI_m1, Nat.add_sub_cancel, Nat.reducePow, Nat.zero_add, Nat.add_zero, Nat.reduceAdd, Nat.reduceMul, Nat.reduceSub, xf_same, xq_ff, xq_fo, xf_1, xf_2, xs_1, xs_2, xs_same, xq_so, xj_1, xj_2, xj_same, xq_jo, xq_sa1, xq_same, xq_other, upd_s, oI_n, oI_s, xv_0, xv_1, xv_2, xv_3, xm_p1, xm_p2, xq_fp, xq_fn, List.filter_nil, Nat.reduceBEq, Bool.not_true, Bool.not_false, Bool.and_true, Bool.and_false, Bool.false_and, Bool.true_and, if_true, if_false, Bool.false_eq_true, reduceIte, xc_i, xc_j, xc_r, xc_n, List.nil_append, List.cons_append, Option.toList_some, Option.toList_none, nI_ltJ, nI_leJ, nI_eqJ, nI_ltz, nI_gez, nI_gtz, nI_lez, nI_eqz, m1_ltz, m1_gez, true_imp_iff, false_imp_iff, true_and, and_true, ne_eq, not_false_eq_true, not_true_eq_false, Nat.reduceEqDiff, Nat.reduceLT, Nat.reduceLeDiff, w14, lcz h64 (by decide : 0 < 2 ^ 64), q1]
          with_reducible refine xm_go_blk b_X9_readDefinition_43 k_X9_readDefinition_43 ?_
          refine by_aload_n rfl ?_
          refine by_lload_n rfl ?_
          refine by_inv1 cn_149 lk_9_114 (by rw [xe_cnt]; decide) is_148 np_148 cn_148 (by first | exact rfl | assumption) (Nat.le_of_ble_eq_true rfl) ?_
          refine sp_nodeOf (d := d + 3) E1.1 N1 hW1 ?_
          cases en : nmF w NL with
          | some n =>
            have hn2 : n < 2000 := by
              have := (hI.2 _ (nmF_mem en)).1
              obtain ⟨⟨rk, M, hd⟩, _⟩ := hI
              have := hd.1
              omega
            with_reducible refine xm_go_blk b_X9_readDefinition_48 k_X9_readDefinition_48 ?_
            refine by_if_lt 63 rfl ?_
            simp (disch := first | exact Nat.ne_of_beq_eq_false rfl | exact rfl | omega) only [nI_add, xa_sub, xa_mul, pk_div, nm_mod, xa_shr, xa_and7, xa_and1, xa_and255, xa_by_and, nI_m1, Nat.add_sub_cancel, Nat.reducePow, Nat.zero_add, Nat.add_zero, Nat.reduceAdd, Nat.reduceMul, Nat.reduceSub, xf_same, xq_ff, xq_fo, xf_1, xf_2, xs_1, xs_2, xs_same, xq_so, xj_1, xj_2, xj_same, xq_jo, xq_sa1, xq_same, xq_other, upd_s, oI_n, oI_s, xv_0, xv_1, xv_2, xv_3, xm_p1, xm_p2, xq_fp, xq_fn, List.filter_nil, Nat.reduceBEq, Bool.not_true, Bool.not_false, Bool.and_true, Bool.and_false, Bool.false_and, Bool.true_and, if_true, if_false, Bool.false_eq_true, reduceIte, xc_i, xc_j, xc_r, xc_n, List.nil_append, List.cons_append, Option.toList_some, Option.toList_none, nI_ltJ, nI_leJ, nI_eqJ, nI_ltz, nI_gez, nI_gtz, nI_lez, nI_eqz, m1_ltz, m1_gez, true_imp_iff, false_imp_iff, true_and, and_true, ne_eq, not_false_eq_true, not_true_eq_false, Nat.reduceEqDiff, Nat.reduceLT, Nat.reduceLeDiff, w12]
            with_reducible refine xm_go_blk b_X9_readDefinition_51 k_X9_readDefinition_51 ?_
            refine by_aload_n rfl ?_
            refine by_iconst ci_2 ?_
            refine by_aload_n rfl ?_
            refine by_getf cn_149 fl_9_107 (by first | exact rfl | assumption) (by decide) ?_
            simp (disch := first | exact Nat.ne_of_beq_eq_false rfl | exact rfl | omega) only [nI_add, xa_sub, xa_mul, pk_div, nm_mod, xa_shr, xa_and7, xa_and1, xa_and255, xa_by_and, nI_m1, Nat.add_sub_cancel, Nat.reducePow, Nat.zero_add, Nat.add_zero, Nat.reduceAdd, Nat.reduceMul, Nat.reduceSub, xf_same, xq_ff, xq_fo, xf_1, xf_2, xs_1, xs_2, xs_same, xq_so, xj_1, xj_2, xj_same, xq_jo, xq_sa1, xq_same, xq_other, upd_s, oI_n, oI_s, xv_0, xv_1, xv_2, xv_3, xm_p1, xm_p2, xq_fp, xq_fn, List.filter_nil, Nat.reduceBEq, Bool.not_true, Bool.not_false, Bool.and_true, Bool.and_false, Bool.false_and, Bool.true_and, if_true, if_false, Bool.false_eq_true, reduceIte, xc_i, xc_j, xc_r, xc_n, List.nil_append, List.cons_append, Option.toList_some, Option.toList_none, w12]
            refine by_inv2 cn_149 lk_9_110 (by rw [xe_cnt]; decide) is_156 np_156 cn_156 (by first | exact rfl | assumption) (Nat.le_of_ble_eq_true rfl) ?_
            refine sp_refuse ?_
            with_reducible refine xm_go_blk b_X9_readDefinition_60 k_X9_readDefinition_60 ?_
            refine by_pop rfl ?_
            refine by_iconst ci_0 ?_
            refine by_iret ry_149 (by first | rfl | assumption) ?_
            exact bad 2 (tkF t p) h1 (sD_2 kz ew et en) g1 E1.2.2.2.2.2.1
          | none =>
            with_reducible refine xm_go_blk b_X9_readDefinition_48 k_X9_readDefinition_48 ?_
            refine by_if_lt 63 rfl ?_
            simp (disch := first | exact Nat.ne_of_beq_eq_false rfl | exact rfl | omega) only [nI_add, xa_sub, xa_mul, pk_div, nm_mod, xa_shr, xa_and7, xa_and1, xa_and255, xa_by_and, nI_m1, Nat.add_sub_cancel, Nat.reducePow, Nat.zero_add, Nat.add_zero, Nat.reduceAdd, Nat.reduceMul, Nat.reduceSub, xf_same, xq_ff, xq_fo, xf_1, xf_2, xs_1, xs_2, xs_same, xq_so, xj_1, xj_2, xj_same, xq_jo, xq_sa1, xq_same, xq_other, upd_s, oI_n, oI_s, xv_0, xv_1, xv_2, xv_3, xm_p1, xm_p2, xq_fp, xq_fn, List.filter_nil, Nat.reduceBEq, Bool.not_true, Bool.not_false, Bool.and_true, Bool.and_false, Bool.false_and, Bool.true_and, if_true, if_false, Bool.false_eq_true, reduceIte, xc_i, xc_j, xc_r, xc_n, List.nil_append, List.cons_append, Option.toList_some, Option.toList_none, nI_ltJ, nI_leJ, nI_eqJ, nI_ltz, nI_gez, nI_gtz, nI_lez, nI_eqz, m1_ltz, m1_gez, true_imp_iff, false_imp_iff, true_and, and_true, ne_eq, not_false_eq_true, not_true_eq_false, Nat.reduceEqDiff, Nat.reduceLT, Nat.reduceLeDiff]
            with_reducible refine xm_go_blk b_X9_readDefinition_63 k_X9_readDefinition_63 ?_
            refine by_aload_n rfl ?_
            refine by_inv0 cn_149 lk_9_97 (by rw [xe_cnt]; decide) is_147 np_147 cn_147 (by first | exact rfl | assumption) (Nat.le_of_ble_eq_true rfl) ?_
            refine sp_nextWord (d := d + 2) E1.1 E1.2.1 E1.2.2.2.1 E1.2.2.2.2.2.2.2.2 b3 (fun h2 f2 w2 => ?_)
            have E2 := cE_w hpp E1 b3 f2 w2
            obtain ⟨w21, w22, w23, w24, w25⟩ := w2
            have g2 : Fr (sdR pp) (sdT pp) h h2 := Fr_tr g1 f2 (by simp) (by simp)
            by_cases k2 : tkK t (tkE t p) = 2
            · rw [k2] at w21
              have lt2 := v4 (by rw [k2]; decide)
              with_reducible refine xm_go_blk b_X9_readDefinition_67 k_X9_readDefinition_67 ?_
              refine by_aload_n rfl ?_
              refine by_getf cn_149 fl_9_100 (by first | exact rfl | assumption) (by decide) ?_
              refine by_iconst ci_2 ?_
              simp (disch := first | exact Nat.ne_of_beq_eq_false rfl | exact rfl | omega) only [nI_add, xa_sub, xa_mul, pk_div, nm_mod, xa_shr, xa_and7, xa_and1, xa_and255, xa_by_and, nI_m1, Nat.add_sub_cancel, Nat.reducePow, Nat.zero_add, Nat.add_zero, Nat.reduceAdd, Nat.reduceMul, Nat.reduceSub, xf_same, xq_ff, xq_fo, xf_1, xf_2, xs_1, xs_2, xs_same, xq_so, xj_1, xj_2, xj_same, xq_jo, xq_sa1, xq_same, xq_other, upd_s, oI_n, oI_s, w21]
              refine by_ic_eq 87 rfl ?_
              simp (disch := first | exact Nat.ne_of_beq_eq_false rfl | exact rfl | omega) only [nI_add, xa_sub, xa_mul, pk_div, nm_mod, xa_shr, xa_and7, xa_and1, xa_and255, xa_by_and, nI_m1, Nat.add_sub_cancel, Nat.reducePow, Nat.zero_add, Nat.add_zero, Nat.reduceAdd, Nat.reduceMul, Nat.reduceSub, xf_same, xq_ff, xq_fo, xf_1, xf_2, xs_1, xs_2, xs_same, xq_so, xj_1, xj_2, xj_same, xq_jo, xq_sa1, xq_same, xq_other, upd_s, oI_n, oI_s, xv_0, xv_1, xv_2, xv_3, xm_p1, xm_p2, xq_fp, xq_fn, List.filter_nil, Nat.reduceBEq, Bool.not_true, Bool.not_false, Bool.and_true, Bool.and_false, Bool.false_and, Bool.true_and, if_true, if_false, Bool.false_eq_true, reduceIte, xc_i, xc_j, xc_r, xc_n, List.nil_append, List.cons_append, Option.toList_some, Option.toList_none, nI_ltJ, nI_leJ, nI_eqJ, nI_ltz, nI_gez, nI_gtz, nI_lez, nI_eqz, m1_ltz, m1_gez, true_imp_iff, false_imp_iff, true_and, and_true, ne_eq, not_false_eq_true, not_true_eq_false, Nat.reduceEqDiff, Nat.reduceLT, Nat.reduceLeDiff, w21]
              with_reducible refine xm_go_blk b_X9_readDefinition_87 k_X9_readDefinition_87 ?_
              refine by_aload_n rfl ?_
              refine by_inv0 cn_149 lk_9_118 (by rw [xe_cnt]; decide) is_150 np_150 cn_150 (by first | exact rfl | assumption) (Nat.le_of_ble_eq_true rfl) ?_
              refine sp_readExpression (d := d) hpp E2.1 (cE_D hpp E2) hI v3 (by omega) hW (fun e f h3 W3 hx f3 o3 hw3 c16 c0 => ?_) (fun G3 p3 n h3 nh3 W3 hx f3 hT3 I3 n3 hp3 hp3t hw3 hw5 c16 c0 => ?_)
              · with_reducible refine xm_go_blk b_X9_readDefinition_91 k_X9_readDefinition_91 ?_
                refine by_istore_n (by rw [ml_149]; decide) ?_
                refine by_iload_n rfl ?_
                refine by_if_lt 102 rfl ?_
                simp (disch := first | exact Nat.ne_of_beq_eq_false rfl | exact rfl | omega) only [nI_add, xa_sub, xa_mul, pk_div, nm_mod, xa_shr, xa_and7, xa_and1, xa_and255, xa_by_and, nI_m1, Nat.add_sub_cancel, Nat.reducePow, Nat.zero_add, Nat.add_zero, Nat.reduceAdd, Nat.reduceMul, Nat.reduceSub, xf_same, xq_ff, xq_fo, xf_1, xf_2, xs_1, xs_2, xs_same, xq_so, xj_1, xj_2, xj_same, xq_jo, xq_sa1, xq_same, xq_other, upd_s, oI_n, oI_s, xv_0, xv_1, xv_2, xv_3, xm_p1, xm_p2, xq_fp, xq_fn, List.filter_nil, Nat.reduceBEq, Bool.not_true, Bool.not_false, Bool.and_true, Bool.and_false, Bool.false_and, Bool.true_and, if_true, if_false, Bool.false_eq_true, reduceIte, xc_i, xc_j, xc_r, xc_n, List.nil_append, List.cons_append, Option.toList_some, Option.toList_none, nI_ltJ, nI_leJ, nI_eqJ, nI_ltz, nI_gez, nI_gtz, nI_lez, nI_eqz, m1_ltz, m1_gez, true_imp_iff, false_imp_iff, true_and, and_true, ne_eq, not_false_eq_true, not_true_eq_false, Nat.reduceEqDiff, Nat.reduceLT, Nat.reduceLeDiff]
                with_reducible refine xm_go_blk b_X9_readDefinition_102 k_X9_readDefinition_102 ?_
                refine by_iload_n rfl ?_
                refine by_if_lt 110 rfl ?_
                simp (disch := first | exact Nat.ne_of_beq_eq_false rfl | exact rfl | omega) only [nI_add, xa_sub, xa_mul, pk_div, nm_mod, xa_shr, xa_and7, xa_and1, xa_and255, xa_by_and, nI_m1, Nat.add_sub_cancel, Nat.reducePow, Nat.zero_add, Nat.add_zero, Nat.reduceAdd, Nat.reduceMul, Nat.reduceSub, xf_same, xq_ff, xq_fo, xf_1, xf_2, xs_1, xs_2, xs_same, xq_so, xj_1, xj_2, xj_same, xq_jo, xq_sa1, xq_same, xq_other, upd_s, oI_n, oI_s, xv_0, xv_1, xv_2, xv_3, xm_p1, xm_p2, xq_fp, xq_fn, List.filter_nil, Nat.reduceBEq, Bool.not_true, Bool.not_false, Bool.and_true, Bool.and_false, Bool.false_and, Bool.true_and, if_true, if_false, Bool.false_eq_true, reduceIte, xc_i, xc_j, xc_r, xc_n, List.nil_append, List.cons_append, Option.toList_some, Option.toList_none, nI_ltJ, nI_leJ, nI_eqJ, nI_ltz, nI_gez, nI_gtz, nI_lez, nI_eqz, m1_ltz, m1_gez, true_imp_iff, false_imp_iff, true_and, and_true, ne_eq, not_false_eq_true, not_true_eq_false, Nat.reduceEqDiff, Nat.reduceLT, Nat.reduceLeDiff]
                with_reducible refine xm_go_blk b_X9_readDefinition_110 k_X9_readDefinition_110 ?_
                refine by_iconst ci_0 ?_
                refine by_nil ?_
                with_reducible refine xm_go_blk b_X9_readDefinition_111 k_X9_readDefinition_111 ?_
                refine by_iret ry_149 (by first | rfl | assumption) ?_
                exact hB e f h3 W3 (sD_xb kz ew et en k2 hx) (Fr_tr g2 f3 sbS sbU) o3 (by omega) c16 c0
              · have hN : sCt G3 ≤ 2000 := by obtain ⟨⟨rk, M, hd⟩, _⟩ := I3; exact hd.1
                have E3 := cE_T hT3
                with_reducible refine xm_go_blk b_X9_readDefinition_91 k_X9_readDefinition_91 ?_
                refine by_istore_n (by rw [ml_149]; decide) ?_
                refine by_iload_n rfl ?_
                refine by_if_lt 102 rfl ?_
                simp (disch := first | exact Nat.ne_of_beq_eq_false rfl | exact rfl | omega) only [nI_add, xa_sub, xa_mul, pk_div, nm_mod, xa_shr, xa_and7, xa_and1, xa_and255, xa_by_and, nI_m1, Nat.add_sub_cancel, Nat.reducePow, Nat.zero_add, Nat.add_zero, Nat.reduceAdd, Nat.reduceMul, Nat.reduceSub, xf_same, xq_ff, xq_fo, xf_1, xf_2, xs_1, xs_2, xs_same, xq_so, xj_1, xj_2, xj_same, xq_jo, xq_sa1, xq_same, xq_other, upd_s, oI_n, oI_s, xv_0, xv_1, xv_2, xv_3, xm_p1, xm_p2, xq_fp, xq_fn, List.filter_nil, Nat.reduceBEq, Bool.not_true, Bool.not_false, Bool.and_true, Bool.and_false, Bool.false_and, Bool.true_and, if_true, if_false, Bool.false_eq_true, reduceIte, xc_i, xc_j, xc_r, xc_n, List.nil_append, List.cons_append, Option.toList_some, Option.toList_none, nI_ltJ, nI_leJ, nI_eqJ, nI_ltz, nI_gez, nI_gtz, nI_lez, nI_eqz, m1_ltz, m1_gez, true_imp_iff, false_imp_iff, true_and, and_true, ne_eq, not_false_eq_true, not_true_eq_false, Nat.reduceEqDiff, Nat.reduceLT, Nat.reduceLeDiff]
                with_reducible refine xm_go_blk b_X9_readDefinition_96 k_X9_readDefinition_96 ?_
                refine by_aload_n rfl ?_
                refine by_lload_n rfl ?_
                refine by_iload_n rfl ?_
                refine by_inv2 cn_149 lk_9_122 (by rw [xe_cnt]; decide) is_146 np_146 cn_146 (by first | exact rfl | assumption) (Nat.le_of_ble_eq_true rfl) ?_
                refine sp_keepName (d := d + 3) E3.1 E3.2.2.2.2.1 hW1 (by omega) (by omega) en (fun h4 f4 N4 => ?_)
                have q : (pp, 0) ∉ ([(46, 7)] : List (Nat × Nat)) ∧ (pp, 15) ∉ ([(46, 7)] : List (Nat × Nat)) ∧ pp + 1 ∉ ([48, 49, 50, 51] : List Nat) ∧ pp + 2 ∉ ([48, 49, 50, 51] : List Nat) ∧ pp + 3 ∉ ([48, 49, 50, 51] : List Nat) ∧ pp + 4 ∉ ([48, 49, 50, 51] : List Nat) ∧ pp + 5 ∉ ([48, 49, 50, 51] : List Nat) ∧ pp + 11 ∉ ([48, 49, 50, 51] : List Nat) := by rcases hpp with rfl | rfl <;> decide
                obtain ⟨q1, q2, q3, q4, q5, q6, q7, q8⟩ := q
                obtain ⟨a0, a1, a2, a3, a4, a5, a6, a7, a8⟩ := E3
                with_reducible refine xm_go_blk b_X9_readDefinition_102 k_X9_readDefinition_102 ?_
                refine by_iload_n rfl ?_
                refine by_if_lt 110 rfl ?_
                simp (disch := first | exact Nat.ne_of_beq_eq_false rfl | exact rfl | omega) only [nI_add, xa_sub, xa_mul, pk_div, nm_mod, xa_shr, xa_and7, xa_and1, xa_and255, xa_by_and, nI_m1, Nat.add_sub_cancel, Nat.reducePow, Nat.zero_add, Nat.add_zero, Nat.reduceAdd, Nat.reduceMul, Nat.reduceSub, xf_same, xq_ff, xq_fo, xf_1, xf_2, xs_1, xs_2, xs_same, xq_so, xj_1, xj_2, xj_same, xq_jo, xq_sa1, xq_same, xq_other, upd_s, oI_n, oI_s, xv_0, xv_1, xv_2, xv_3, xm_p1, xm_p2, xq_fp, xq_fn, List.filter_nil, Nat.reduceBEq, Bool.not_true, Bool.not_false, Bool.and_true, Bool.and_false, Bool.false_and, Bool.true_and, if_true, if_false, Bool.false_eq_true, reduceIte, xc_i, xc_j, xc_r, xc_n, List.nil_append, List.cons_append, Option.toList_some, Option.toList_none, nI_ltJ, nI_leJ, nI_eqJ, nI_ltz, nI_gez, nI_gtz, nI_lez, nI_eqz, m1_ltz, m1_gez, true_imp_iff, false_imp_iff, true_and, and_true, ne_eq, not_false_eq_true, not_true_eq_false, Nat.reduceEqDiff, Nat.reduceLT, Nat.reduceLeDiff]
                with_reducible refine xm_go_blk b_X9_readDefinition_106 k_X9_readDefinition_106 ?_
                refine by_iconst ci_1 ?_
                refine by_goto 111 rfl ?_
                with_reducible refine xm_go_blk b_X9_readDefinition_111 k_X9_readDefinition_111 ?_
                refine by_iret ry_149 (by first | rfl | assumption) ?_
                exact hM w n G3 p3 h4 nh3 W3 (fun o ho => sD_xg kz ew et en k2 hx ho) (Fr_tr (Fr_tr g2 f3 sbS sbU) f4 (by simp) (by simp)) ⟨Fr_XF a0 f4 (by decide +kernel), by rw [f4.2.2 _ _ (by simp)]; exact a1, by rw [f4.2.2 _ _ (by simp)]; exact a2, rowIs_fr a3 f4 (by simp) (by simp) (by simp), N4, ⟨by rw [f4.2.2 _ _ (by simp)]; exact a5.1, fun x hx => by rw [f4.1 _ (by simp)]; exact a5.2 x hx⟩, cG_fr a6 f4 q3 q4 q5 q6 q7 q8 q1 q2, a7, by rw [f4.2.2 _ _ (by simp)]; exact a8⟩ (sInv_nm I3 n3) (by omega) hp3t hw3 (by omega) (by rw [f4.2.2 _ _ (by simp), c16, f2.2.2 _ _ (by simp)]; exact e16) (by rw [f4.2.2 _ _ (by simp), c0, f2.2.2 _ _ (by simp)]; exact e0)
            · have k2' : (tkK t (tkE t p) = 2) = False := eq_false k2
              have hk5 := tkK_le t (tkE t p)
              with_reducible refine xm_go_blk b_X9_readDefinition_67 k_X9_readDefinition_67 ?_
              refine by_aload_n rfl ?_
              refine by_getf cn_149 fl_9_100 (by first | exact rfl | assumption) (by decide) ?_
              refine by_iconst ci_2 ?_
              simp (disch := first | exact Nat.ne_of_beq_eq_false rfl | exact rfl | omega) only [nI_add, xa_sub, xa_mul, pk_div, nm_mod, xa_shr, xa_and7, xa_and1, xa_and255, xa_by_and, nI_m1, Nat.add_sub_cancel, Nat.reducePow, Nat.zero_add, Nat.add_zero, Nat.reduceAdd, Nat.reduceMul, Nat.reduceSub, xf_same, xq_ff, xq_fo, xf_1, xf_2, xs_1, xs_2, xs_same, xq_so, xj_1, xj_2, xj_same, xq_jo, xq_sa1, xq_same, xq_other, upd_s, oI_n, oI_s, w21, k2', w22]
              refine by_ic_eq 87 rfl ?_
              simp (disch := first | exact Nat.ne_of_beq_eq_false rfl | exact rfl | omega) only [nI_add, xa_sub, xa_mul, pk_div, nm_mod, xa_shr, xa_and7, xa_and1, xa_and255, xa_by_and, nI_m1, Nat.add_sub_cancel, Nat.reducePow, Nat.zero_add, Nat.add_zero, Nat.reduceAdd, Nat.reduceMul, Nat.reduceSub, xf_same, xq_ff, xq_fo, xf_1, xf_2, xs_1, xs_2, xs_same, xq_so, xj_1, xj_2, xj_same, xq_jo, xq_sa1, xq_same, xq_other, upd_s, oI_n, oI_s, xv_0, xv_1, xv_2, xv_3, xm_p1, xm_p2, xq_fp, xq_fn, List.filter_nil, Nat.reduceBEq, Bool.not_true, Bool.not_false, Bool.and_true, Bool.and_false, Bool.false_and, Bool.true_and, if_true, if_false, Bool.false_eq_true, reduceIte, xc_i, xc_j, xc_r, xc_n, List.nil_append, List.cons_append, Option.toList_some, Option.toList_none, nI_ltJ, nI_leJ, nI_eqJ, nI_ltz, nI_gez, nI_gtz, nI_lez, nI_eqz, m1_ltz, m1_gez, true_imp_iff, false_imp_iff, true_and, and_true, ne_eq, not_false_eq_true, not_true_eq_false, Nat.reduceEqDiff, Nat.reduceLT, Nat.reduceLeDiff, w21, k2', w22]
              with_reducible refine xm_go_blk b_X9_readDefinition_75 k_X9_readDefinition_75 ?_
              refine by_aload_n rfl ?_
              refine by_iconst ci_1 ?_
              refine by_aload_n rfl ?_
              refine by_getf cn_149 fl_9_107 (by first | exact rfl | assumption) (by decide) ?_
              simp (disch := first | exact Nat.ne_of_beq_eq_false rfl | exact rfl | omega) only [nI_add, xa_sub, xa_mul, pk_div, nm_mod, xa_shr, xa_and7, xa_and1, xa_and255, xa_by_and, nI_m1, Nat.add_sub_cancel, Nat.reducePow, Nat.zero_add, Nat.add_zero, Nat.reduceAdd, Nat.reduceMul, Nat.reduceSub, xf_same, xq_ff, xq_fo, xf_1, xf_2, xs_1, xs_2, xs_same, xq_so, xj_1, xj_2, xj_same, xq_jo, xq_sa1, xq_same, xq_other, upd_s, oI_n, oI_s, xv_0, xv_1, xv_2, xv_3, xm_p1, xm_p2, xq_fp, xq_fn, List.filter_nil, Nat.reduceBEq, Bool.not_true, Bool.not_false, Bool.and_true, Bool.and_false, Bool.false_and, Bool.true_and, if_true, if_false, Bool.false_eq_true, reduceIte, xc_i, xc_j, xc_r, xc_n, List.nil_append, List.cons_append, Option.toList_some, Option.toList_none, w21, k2', w22]
              refine by_inv2 cn_149 lk_9_110 (by rw [xe_cnt]; decide) is_156 np_156 cn_156 (by first | exact rfl | assumption) (Nat.le_of_ble_eq_true rfl) ?_
              refine sp_refuse ?_
              with_reducible refine xm_go_blk b_X9_readDefinition_84 k_X9_readDefinition_84 ?_
              refine by_pop rfl ?_
              refine by_iconst ci_0 ?_
              refine by_iret ry_149 (by first | rfl | assumption) ?_
              exact bad 1 (tkF t (tkE t p)) h2 (sD_3 kz ew et en k2) g2 E2.2.2.2.2.2.1
    have hk5 := tkK_le t p
    by_cases k0 : tkK t p = 0
    · rw [k0] at w11
      have hl : NL = [] := Classical.not_not.mp (fun z => kz ⟨k0, z⟩)
      have n7 := N1.1
      rw [hl] at n7
      with_reducible refine xm_go_blk b_X9_readDefinition_4 k_X9_readDefinition_4 ?_
      refine by_aload_n rfl ?_
      refine by_getf cn_149 fl_9_100 (by first | exact rfl | assumption) (by decide) ?_
      simp (disch := first | exact Nat.ne_of_beq_eq_false rfl | exact rfl | omega) only [nI_add, xa_sub, xa_mul, pk_div, nm_mod, xa_shr, xa_and7, xa_and1, xa_and255, xa_by_and, nI_m1, Nat.add_sub_cancel, Nat.reducePow, Nat.zero_add, Nat.add_zero, Nat.reduceAdd, Nat.reduceMul, Nat.reduceSub, xf_same, xq_ff, xq_fo, xf_1, xf_2, xs_1, xs_2, xs_same, xq_so, xj_1, xj_2, xj_same, xq_jo, xq_sa1, xq_same, xq_other, upd_s, oI_n, oI_s, w11, n7, List.length_nil]
      refine by_if_ne 20 rfl ?_
      simp (disch := first | exact Nat.ne_of_beq_eq_false rfl | exact rfl | omega) only [nI_add, xa_sub, xa_mul, pk_div, nm_mod, xa_shr, xa_and7, xa_and1, xa_and255, xa_by_and, nI_m1, Nat.add_sub_cancel, Nat.reducePow, Nat.zero_add, Nat.add_zero, Nat.reduceAdd, Nat.reduceMul, Nat.reduceSub, xf_same, xq_ff, xq_fo, xf_1, xf_2, xs_1, xs_2, xs_same, xq_so, xj_1, xj_2, xj_same, xq_jo, xq_sa1, xq_same, xq_other, upd_s, oI_n, oI_s, xv_0, xv_1, xv_2, xv_3, xm_p1, xm_p2, xq_fp, xq_fn, List.filter_nil, Nat.reduceBEq, Bool.not_true, Bool.not_false, Bool.and_true, Bool.and_false, Bool.false_and, Bool.true_and, if_true, if_false, Bool.false_eq_true, reduceIte, xc_i, xc_j, xc_r, xc_n, List.nil_append, List.cons_append, Option.toList_some, Option.toList_none, nI_ltJ, nI_leJ, nI_eqJ, nI_ltz, nI_gez, nI_gtz, nI_lez, nI_eqz, m1_ltz, m1_gez, true_imp_iff, false_imp_iff, true_and, and_true, ne_eq, not_false_eq_true, not_true_eq_false, Nat.reduceEqDiff, Nat.reduceLT, Nat.reduceLeDiff, w11, n7, List.length_nil]
      with_reducible refine xm_go_blk b_X9_readDefinition_11 k_X9_readDefinition_11 ?_
      refine by_aload_n rfl ?_
      refine by_getf cn_149 fl_9_55 (by first | exact rfl | assumption) (by decide) ?_
      simp (disch := first | exact Nat.ne_of_beq_eq_false rfl | exact rfl | omega) only [nI_add, xa_sub, xa_mul, pk_div, nm_mod, xa_shr, xa_and7, xa_and1, xa_and255, xa_by_and, nI_m1, Nat.add_sub_cancel, Nat.reducePow, Nat.zero_add, Nat.add_zero, Nat.reduceAdd, Nat.reduceMul, Nat.reduceSub, xf_same, xq_ff, xq_fo, xf_1, xf_2, xs_1, xs_2, xs_same, xq_so, xj_1, xj_2, xj_same, xq_jo, xq_sa1, xq_same, xq_other, upd_s, oI_n, oI_s, w11, n7, List.length_nil]
      refine by_if_le 20 rfl ?_
      simp (disch := first | exact Nat.ne_of_beq_eq_false rfl | exact rfl | omega) only [nI_add, xa_sub, xa_mul, pk_div, nm_mod, xa_shr, xa_and7, xa_and1, xa_and255, xa_by_and, nI_m1, Nat.add_sub_cancel, Nat.reducePow, Nat.zero_add, Nat.add_zero, Nat.reduceAdd, Nat.reduceMul, Nat.reduceSub, xf_same, xq_ff, xq_fo, xf_1, xf_2, xs_1, xs_2, xs_same, xq_so, xj_1, xj_2, xj_same, xq_jo, xq_sa1, xq_same, xq_other, upd_s, oI_n, oI_s, xv_0, xv_1, xv_2, xv_3, xm_p1, xm_p2, xq_fp, xq_fn, List.filter_nil, Nat.reduceBEq, Bool.not_true, Bool.not_false, Bool.and_true, Bool.and_false, Bool.false_and, Bool.true_and, if_true, if_false, Bool.false_eq_true, reduceIte, xc_i, xc_j, xc_r, xc_n, List.nil_append, List.cons_append, Option.toList_some, Option.toList_none, nI_ltJ, nI_leJ, nI_eqJ, nI_ltz, nI_gez, nI_gtz, nI_lez, nI_eqz, m1_ltz, m1_gez, true_imp_iff, false_imp_iff, true_and, and_true, ne_eq, not_false_eq_true, not_true_eq_false, Nat.reduceEqDiff, Nat.reduceLT, Nat.reduceLeDiff, w11, n7, List.length_nil]
      exact k20
    · have k0' : (tkK t p = 0) = False := eq_false k0
      with_reducible refine xm_go_blk b_X9_readDefinition_4 k_X9_readDefinition_4 ?_
      refine by_aload_n rfl ?_
      refine by_getf cn_149 fl_9_100 (by first | exact rfl | assumption) (by decide) ?_
      simp (disch := first | exact Nat.ne_of_beq_eq_false rfl | exact rfl | omega) only [nI_add, xa_sub, xa_mul, pk_div, nm_mod, xa_shr, xa_and7, xa_and1, xa_and255, xa_by_and, nI_m1, Nat.add_sub_cancel, Nat.reducePow, Nat.zero_add, Nat.add_zero, Nat.reduceAdd, Nat.reduceMul, Nat.reduceSub, xf_same, xq_ff, xq_fo, xf_1, xf_2, xs_1, xs_2, xs_same, xq_so, xj_1, xj_2, xj_same, xq_jo, xq_sa1, xq_same, xq_other, upd_s, oI_n, oI_s, w11, k0']
      refine by_if_ne 20 rfl ?_
      simp (disch := first | exact Nat.ne_of_beq_eq_false rfl | exact rfl | omega) only [nI_add, xa_sub, xa_mul, pk_div, nm_mod, xa_shr, xa_and7, xa_and1, xa_and255, xa_by_and, nI_m1, Nat.add_sub_cancel, Nat.reducePow, Nat.zero_add, Nat.add_zero, Nat.reduceAdd, Nat.reduceMul, Nat.reduceSub, xf_same, xq_ff, xq_fo, xf_1, xf_2, xs_1, xs_2, xs_same, xq_so, xj_1, xj_2, xj_same, xq_jo, xq_sa1, xq_same, xq_other, upd_s, oI_n, oI_s, xv_0, xv_1, xv_2, xv_3, xm_p1, xm_p2, xq_fp, xq_fn, List.filter_nil, Nat.reduceBEq, Bool.not_true, Bool.not_false, Bool.and_true, Bool.and_false, Bool.false_and, Bool.true_and, if_true, if_false, Bool.false_eq_true, reduceIte, xc_i, xc_j, xc_r, xc_n, List.nil_append, List.cons_append, Option.toList_some, Option.toList_none, nI_ltJ, nI_leJ, nI_eqJ, nI_ltz, nI_gez, nI_gtz, nI_lez, nI_eqz, m1_ltz, m1_gez, true_imp_iff, false_imp_iff, true_and, and_true, ne_eq, not_false_eq_true, not_true_eq_false, Nat.reduceEqDiff, Nat.reduceLT, Nat.reduceLeDiff, w11, k0']
      exact k20
end SY
