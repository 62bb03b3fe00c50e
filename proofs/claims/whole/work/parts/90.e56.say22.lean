/-! ===== say: the definitions of the class ===== -/
section PR
variable {t : List Nat} {NL : List (List Nat × Nat)}
theorem sFin_e : ∀ {st : List (Option Nat)} {n : Nat} {G : sG} {p e f : Nat}, sFin t n G st p = .inl (e, f) → 1 ≤ e ∧ e < 2000
  | [], _, _, _, _, _, h => by rw [sFin] at h; cases h
  | none :: r, _, _, _, _, _, h => by
    rw [sFin] at h
    split at h
    · exact sFin_e h
    · cases h; decide
  | some x :: r, _, _, _, _, _, h => by
    rw [sFin] at h
    split at h
    · exact sFin_e h
    · split at h
      · cases h
      · exact sFin_e h
theorem sXf_e : ∀ {k : Nat} {G : sG} {st : List (Option Nat)} {p e f : Nat}, sXf t NL k G st p = some (.inl (e, f)) → 1 ≤ e ∧ e < 2000
  | 0, _, _, _, _, _, h => by cases h
  | k + 1, G, st, p, e, f, h => by
    cases hb : sBeg t NL G st p with
    | inl x =>
      rw [sT_b hb] at h
      cases h
      exact sBeg_e hb
    | inr q =>
      obtain ⟨S, o⟩ := q
      cases o with
      | none =>
        rw [sT_w hb] at h
        exact sXf_e h
      | some n =>
        cases hf : sFin t n S.1 S.2.1 S.2.2 with
        | inl x =>
          rw [sT_fb hb hf] at h
          cases h
          exact sFin_e hf
        | inr q =>
          obtain ⟨S', o'⟩ := q
          cases o' with
          | none =>
            rw [sT_fw hb hf] at h
            exact sXf_e h
          | some m =>
            rw [sT_fd hb hf] at h
            cases h
theorem sDf_e : ∀ {k : Nat} {G : sG} {NL : List (List Nat × Nat)} {p e f : Nat}, sDf t k G NL p = some (.inl (e, f)) → 1 ≤ e ∧ e < 2000
  | 0, _, _, _, _, _, h => by cases h
  | k + 1, G, NL, p, e, f, h => by
    rw [sDf] at h
    split at h
    · cases h
    · split at h
      · cases h; decide
      · split at h
        · cases h; decide
        · split at h
          · cases h; decide
          · split at h
            · cases h; decide
            · split at h
              · cases h
              · rename_i hx
                cases h
                exact sXf_e hx
              · exact sDf_e h
end PR
abbrev sstR (pp : Nat) : List Nat := [8, 9, 10, 11, 47, 48, 49, 50, 51, pp + 1, pp + 2, pp + 3, pp + 4, pp + 5, pp + 11]
abbrev sstT (pp : Nat) : List (Nat × Nat) := [(7, 2), (7, 9), (46, 0), (46, 7), (46, 8), (46, 9), (46, 10), (46, 11), (46, 12), (46, 13), (46, 14), (46, 15), (46, 16), (pp, 0), (pp, 14), (pp, 15)]
section SY
variable {sc : xm_Sc} {d pp W : Nat} {t : List Nat} {h : xm_H} {post : xm_Po}
theorem tl_defs (hpp : pp = 52 ∨ pp = 77) (hF : XF h) (hr : rowIs h 1 2 t) (hO : ordI h W) (hW : W + 4000 < 1000000)
    (hB : ∀ e f h' W', (∃ k, sDf t k sG0 [] 0 = some (.inl (e, f))) → Fr (sstR pp) (sstT pp) h h' → ordI h' W' → 5 * W' ≤ 5 * W + t.length + 5 → h'.2.2 46 0 = .int (nI f) → post (some (.int (nI e))) h')
    (hG : ∀ G NL w n h' p' nh W', (∃ k, sDf t k sG0 [] 0 = some (.inr (G, NL ++ [(w, n)]))) → Fr (sstR pp) (sstT pp) h h' → cEd h' pp t (NL ++ [(w, n)]) G p' nh W' → p' ≤ t.length → sInv t (NL ++ [(w, n)]) G [] → 5 * W' ≤ 5 * W + t.length → h'.2.2 46 0 = .int (nI 0) → xm_go (XE sc) (xm_T (XE sc) (d + 7)) 160 post 105 [(0, .ref 46), (1, .ref 1), (2, .ref pp), (3, .ref 5)] [] h') : xm_T (XE sc) (d + 8) 160 [.ref 46, .ref 1, .ref pp, .ref 5] h post := by
  have ht8 : t.length ≤ 8192 := hr.2.2.1
  have sdS : ∀ c ∈ sdR pp, c ∈ sstR pp := fun c hc => hc
  have sdU : ∀ q ∈ sdT pp, q ∈ sstT pp := by intro q hq; simp at hq ⊢; rcases hq with rfl | rfl | rfl | rfl | rfl | rfl | rfl | rfl | rfl | rfl | rfl | rfl | rfl <;> simp
  -- definitions
  have key : ∀ (m : Nat) (G1 : sG) (NL1 : List (List Nat × Nat)) (p1 nh1 W1 : Nat) (h1 : xm_H), t.length - p1 < m → (∀ o, (∃ k, sDf t k G1 NL1 p1 = some o) → ∃ k, sDf t k sG0 [] 0 = some o) → cEd h1 pp t NL1 G1 p1 nh1 W1 → sInv t NL1 G1 [] → p1 ≤ t.length → 3 * NL1.length ≤ p1 → 5 * W1 ≤ 5 * W + p1 → Fr (sstR pp) (sstT pp) h h1 → h1.2.2 46 16 = .int (nI 0) → h1.2.2 46 0 = .int (nI 0) → xm_go (XE sc) (xm_T (XE sc) (d + 7)) 160 post 68 [(5, .int (nI NL1.length)), (4, .int (nI 1)), (0, .ref 46), (1, .ref 1), (2, .ref pp), (3, .ref 5)] [] h1 := by
    intro m
    induction m with
    | zero => intro G1 NL1 p1 nh1 W1 h1 hm; omega
    | succ m ih =>
      intro G1 NL1 p1 nh1 W1 h1 hm hs hE1 hI1 hp1 h3 hW1 f1 a16 a0
      with_reducible refine xm_go_blk b_X9_tell_68 k_X9_tell_68 ?_
      refine by_iload rfl ?_
      refine by_sipush cs_8192 ?_
      refine by_ic_ge 93 rfl ?_
      simp (disch := first | exact Nat.ne_of_beq_eq_false rfl | exact rfl | omega) only [nI_add, xa_sub, xa_mul, pk_div, nm_mod, xa_shr, xa_and7, xa_and1, xa_and255, xa_by_and, nI_m1, Nat.add_sub_cancel, Nat.reducePow, Nat.zero_add, Nat.add_zero, Nat.reduceAdd, Nat.reduceMul, Nat.reduceSub, xf_same, xq_ff, xq_fo, xf_1, xf_2, xs_1, xs_2, xs_same, xq_so, xj_1, xj_2, xj_same, xq_jo, xq_sa1, xq_same, xq_other, upd_s, oI_n, oI_s, xv_0, xv_1, xv_2, xv_3, xm_p1, xm_p2, xq_fp, xq_fn, List.filter_nil, Nat.reduceBEq, Bool.not_true, Bool.not_false, Bool.and_true, Bool.and_false, Bool.false_and, Bool.true_and, if_true, if_false, Bool.false_eq_true, reduceIte, xc_i, xc_j, xc_r, xc_n, List.nil_append, List.cons_append, Option.toList_some, Option.toList_none, nI_ltJ, nI_leJ, nI_eqJ, nI_ltz, nI_gez, nI_gtz, nI_lez, nI_eqz, m1_ltz, m1_gez, true_imp_iff, false_imp_iff, true_and, and_true, ne_eq, not_false_eq_true, not_true_eq_false, Nat.reduceEqDiff, Nat.reduceLT, Nat.reduceLeDiff]
      refine ⟨fun c => absurd c (by omega), fun c68 => ?_⟩
      with_reducible refine xm_go_blk b_X9_tell_76 k_X9_tell_76 ?_
      refine by_iload rfl ?_
      refine by_if_eq 93 rfl ?_
      simp (disch := first | exact Nat.ne_of_beq_eq_false rfl | exact rfl | omega) only [nI_add, xa_sub, xa_mul, pk_div, nm_mod, xa_shr, xa_and7, xa_and1, xa_and255, xa_by_and, nI_m1, Nat.add_sub_cancel, Nat.reducePow, Nat.zero_add, Nat.add_zero, Nat.reduceAdd, Nat.reduceMul, Nat.reduceSub, xf_same, xq_ff, xq_fo, xf_1, xf_2, xs_1, xs_2, xs_same, xq_so, xj_1, xj_2, xj_same, xq_jo, xq_sa1, xq_same, xq_other, upd_s, oI_n, oI_s, xv_0, xv_1, xv_2, xv_3, xm_p1, xm_p2, xq_fp, xq_fn, List.filter_nil, Nat.reduceBEq, Bool.not_true, Bool.not_false, Bool.and_true, Bool.and_false, Bool.false_and, Bool.true_and, if_true, if_false, Bool.false_eq_true, reduceIte, xc_i, xc_j, xc_r, xc_n, List.nil_append, List.cons_append, Option.toList_some, Option.toList_none, nI_ltJ, nI_leJ, nI_eqJ, nI_ltz, nI_gez, nI_gtz, nI_lez, nI_eqz, m1_ltz, m1_gez, true_imp_iff, false_imp_iff, true_and, and_true, ne_eq, not_false_eq_true, not_true_eq_false, Nat.reduceEqDiff, Nat.reduceLT, Nat.reduceLeDiff]
      with_reducible refine xm_go_blk b_X9_tell_81 k_X9_tell_81 ?_
      refine by_aload_n rfl ?_
      refine by_inv0 cn_160 lk_9_58 (by rw [xe_cnt]; decide) is_149 np_149 cn_149 (by first | exact rfl | assumption) (Nat.le_of_ble_eq_true rfl) ?_
      refine sp_readDefinition (d := d + 1) hpp hE1 hI1 hp1 h3 (by omega) (fun k0 ne h2 f2 E2 b16 b0 => ?_) (fun e f h2 W2 hx f2 o2 hw2 b16 b0 => ?_) (fun w n G2 p2 h2 nh2 W2 hs2 f2 E2 I2 hp2 hp2t hw2 hw5 b16 b0 => ?_)
      · have c16 : h2.2.2 46 16 = .int (nI 0) := by rw [b16]; exact a16
        have c0 : h2.2.2 46 0 = .int (nI 0) := by rw [b0]; exact a0
        rcases List.eq_nil_or_concat NL1 with z | ⟨NL2, q, z⟩
        · exact absurd z ne
        obtain ⟨w, n⟩ := q
        rw [List.concat_eq_append] at z
        subst z
        have hl : (NL2 ++ [(w, n)]).length + 1 < 8192 := by omega
        have k2 := hG G1 NL2 w n h2 _ nh1 W1 (hs _ (sD_e k0 ne)) (Fr_tr f1 f2 sdS sdU) E2 (tk_b hp1).2.2.1 hI1 (by omega) c0
        generalize (NL2 ++ [(w, n)]).length = N2 at *
        with_reducible refine xm_go_blk b_X9_tell_85 k_X9_tell_85 ?_
        refine by_istore (by rw [ml_160]; decide) ?_
        refine by_iinc (by rw [ml_160]; decide) rfl ci_1 ?_
        refine by_goto 68 rfl ?_
        try simp (disch := first | exact Nat.ne_of_beq_eq_false rfl | exact rfl | omega) only [nI_add, xa_sub, xa_mul, pk_div, nm_mod, xa_shr, xa_and7, xa_and1, xa_and255, xa_by_and, nI_m1, Nat.add_sub_cancel, Nat.reducePow, Nat.zero_add, Nat.add_zero, Nat.reduceAdd, Nat.reduceMul, Nat.reduceSub, xf_same, xq_ff, xq_fo, xf_1, xf_2, xs_1, xs_2, xs_same, xq_so, xj_1, xj_2, xj_same, xq_jo, xq_sa1, xq_same, xq_other, upd_s, oI_n, oI_s, xv_0, xv_1, xv_2, xv_3, xm_p1, xm_p2, xq_fp, xq_fn, List.filter_nil, Nat.reduceBEq, Bool.not_true, Bool.not_false, Bool.and_true, Bool.and_false, Bool.false_and, Bool.true_and, if_true, if_false, Bool.false_eq_true, reduceIte, xc_i, xc_j, xc_r, xc_n, List.nil_append, List.cons_append, Option.toList_some, Option.toList_none, c16]
        with_reducible refine xm_go_blk b_X9_tell_68 k_X9_tell_68 ?_
        refine by_iload rfl ?_
        refine by_sipush cs_8192 ?_
        refine by_ic_ge 93 rfl ?_
        simp (disch := first | exact Nat.ne_of_beq_eq_false rfl | exact rfl | omega) only [nI_add, xa_sub, xa_mul, pk_div, nm_mod, xa_shr, xa_and7, xa_and1, xa_and255, xa_by_and, nI_m1, Nat.add_sub_cancel, Nat.reducePow, Nat.zero_add, Nat.add_zero, Nat.reduceAdd, Nat.reduceMul, Nat.reduceSub, xf_same, xq_ff, xq_fo, xf_1, xf_2, xs_1, xs_2, xs_same, xq_so, xj_1, xj_2, xj_same, xq_jo, xq_sa1, xq_same, xq_other, upd_s, oI_n, oI_s, xv_0, xv_1, xv_2, xv_3, xm_p1, xm_p2, xq_fp, xq_fn, List.filter_nil, Nat.reduceBEq, Bool.not_true, Bool.not_false, Bool.and_true, Bool.and_false, Bool.false_and, Bool.true_and, if_true, if_false, Bool.false_eq_true, reduceIte, xc_i, xc_j, xc_r, xc_n, List.nil_append, List.cons_append, Option.toList_some, Option.toList_none, nI_ltJ, nI_leJ, nI_eqJ, nI_ltz, nI_gez, nI_gtz, nI_lez, nI_eqz, m1_ltz, m1_gez, true_imp_iff, false_imp_iff, true_and, and_true, ne_eq, not_false_eq_true, not_true_eq_false, Nat.reduceEqDiff, Nat.reduceLT, Nat.reduceLeDiff, c16]
        refine ⟨fun c => absurd c (by omega), fun c68 => ?_⟩
        with_reducible refine xm_go_blk b_X9_tell_76 k_X9_tell_76 ?_
        refine by_iload rfl ?_
        refine by_if_eq 93 rfl ?_
        simp (disch := first | exact Nat.ne_of_beq_eq_false rfl | exact rfl | omega) only [nI_add, xa_sub, xa_mul, pk_div, nm_mod, xa_shr, xa_and7, xa_and1, xa_and255, xa_by_and, nI_m1, Nat.add_sub_cancel, Nat.reducePow, Nat.zero_add, Nat.add_zero, Nat.reduceAdd, Nat.reduceMul, Nat.reduceSub, xf_same, xq_ff, xq_fo, xf_1, xf_2, xs_1, xs_2, xs_same, xq_so, xj_1, xj_2, xj_same, xq_jo, xq_sa1, xq_same, xq_other, upd_s, oI_n, oI_s, xv_0, xv_1, xv_2, xv_3, xm_p1, xm_p2, xq_fp, xq_fn, List.filter_nil, Nat.reduceBEq, Bool.not_true, Bool.not_false, Bool.and_true, Bool.and_false, Bool.false_and, Bool.true_and, if_true, if_false, Bool.false_eq_true, reduceIte, xc_i, xc_j, xc_r, xc_n, List.nil_append, List.cons_append, Option.toList_some, Option.toList_none, nI_ltJ, nI_leJ, nI_eqJ, nI_ltz, nI_gez, nI_gtz, nI_lez, nI_eqz, m1_ltz, m1_gez, true_imp_iff, false_imp_iff, true_and, and_true, ne_eq, not_false_eq_true, not_true_eq_false, Nat.reduceEqDiff, Nat.reduceLT, Nat.reduceLeDiff, c16]
        with_reducible refine xm_go_blk b_X9_tell_93 k_X9_tell_93 ?_
        refine by_aload_n rfl ?_
        refine by_getf cn_160 fl_9_49 (by first | exact rfl | assumption) (by decide) ?_
        simp (disch := first | exact Nat.ne_of_beq_eq_false rfl | exact rfl | omega) only [nI_add, xa_sub, xa_mul, pk_div, nm_mod, xa_shr, xa_and7, xa_and1, xa_and255, xa_by_and, nI_m1, Nat.add_sub_cancel, Nat.reducePow, Nat.zero_add, Nat.add_zero, Nat.reduceAdd, Nat.reduceMul, Nat.reduceSub, xf_same, xq_ff, xq_fo, xf_1, xf_2, xs_1, xs_2, xs_same, xq_so, xj_1, xj_2, xj_same, xq_jo, xq_sa1, xq_same, xq_other, upd_s, oI_n, oI_s, c16]
        refine by_if_eq 105 rfl ?_
        simp (disch := first | exact Nat.ne_of_beq_eq_false rfl | exact rfl | omega) only [nI_add, xa_sub, xa_mul, pk_div, nm_mod, xa_shr, xa_and7, xa_and1, xa_and255, xa_by_and, nI_m1, Nat.add_sub_cancel, Nat.reducePow, Nat.zero_add, Nat.add_zero, Nat.reduceAdd, Nat.reduceMul, Nat.reduceSub, xf_same, xq_ff, xq_fo, xf_1, xf_2, xs_1, xs_2, xs_same, xq_so, xj_1, xj_2, xj_same, xq_jo, xq_sa1, xq_same, xq_other, upd_s, oI_n, oI_s, xv_0, xv_1, xv_2, xv_3, xm_p1, xm_p2, xq_fp, xq_fn, List.filter_nil, Nat.reduceBEq, Bool.not_true, Bool.not_false, Bool.and_true, Bool.and_false, Bool.false_and, Bool.true_and, if_true, if_false, Bool.false_eq_true, reduceIte, xc_i, xc_j, xc_r, xc_n, List.nil_append, List.cons_append, Option.toList_some, Option.toList_none, nI_ltJ, nI_leJ, nI_eqJ, nI_ltz, nI_gez, nI_gtz, nI_lez, nI_eqz, m1_ltz, m1_gez, true_imp_iff, false_imp_iff, true_and, and_true, ne_eq, not_false_eq_true, not_true_eq_false, Nat.reduceEqDiff, Nat.reduceLT, Nat.reduceLeDiff, c16]
        exact xm_go_wk (by simp [Value.category]) k2
      · have hx' := hs _ hx
        obtain ⟨k, hk⟩ := hx'
        obtain ⟨e1, e2⟩ := sDf_e hk
        have ne : (e = 0) = False := eq_false (by omega)
        with_reducible refine xm_go_blk b_X9_tell_85 k_X9_tell_85 ?_
        refine by_istore (by rw [ml_160]; decide) ?_
        refine by_iinc (by rw [ml_160]; decide) rfl ci_1 ?_
        refine by_goto 68 rfl ?_
        try simp (disch := first | exact Nat.ne_of_beq_eq_false rfl | exact rfl | omega) only [nI_add, xa_sub, xa_mul, pk_div, nm_mod, xa_shr, xa_and7, xa_and1, xa_and255, xa_by_and, nI_m1, Nat.add_sub_cancel, Nat.reducePow, Nat.zero_add, Nat.add_zero, Nat.reduceAdd, Nat.reduceMul, Nat.reduceSub, xf_same, xq_ff, xq_fo, xf_1, xf_2, xs_1, xs_2, xs_same, xq_so, xj_1, xj_2, xj_same, xq_jo, xq_sa1, xq_same, xq_other, upd_s, oI_n, oI_s, xv_0, xv_1, xv_2, xv_3, xm_p1, xm_p2, xq_fp, xq_fn, List.filter_nil, Nat.reduceBEq, Bool.not_true, Bool.not_false, Bool.and_true, Bool.and_false, Bool.false_and, Bool.true_and, if_true, if_false, Bool.false_eq_true, reduceIte, xc_i, xc_j, xc_r, xc_n, List.nil_append, List.cons_append, Option.toList_some, Option.toList_none, b16, ne]
        with_reducible refine xm_go_blk b_X9_tell_68 k_X9_tell_68 ?_
        refine by_iload rfl ?_
        refine by_sipush cs_8192 ?_
        refine by_ic_ge 93 rfl ?_
        simp (disch := first | exact Nat.ne_of_beq_eq_false rfl | exact rfl | omega) only [nI_add, xa_sub, xa_mul, pk_div, nm_mod, xa_shr, xa_and7, xa_and1, xa_and255, xa_by_and, nI_m1, Nat.add_sub_cancel, Nat.reducePow, Nat.zero_add, Nat.add_zero, Nat.reduceAdd, Nat.reduceMul, Nat.reduceSub, xf_same, xq_ff, xq_fo, xf_1, xf_2, xs_1, xs_2, xs_same, xq_so, xj_1, xj_2, xj_same, xq_jo, xq_sa1, xq_same, xq_other, upd_s, oI_n, oI_s, xv_0, xv_1, xv_2, xv_3, xm_p1, xm_p2, xq_fp, xq_fn, List.filter_nil, Nat.reduceBEq, Bool.not_true, Bool.not_false, Bool.and_true, Bool.and_false, Bool.false_and, Bool.true_and, if_true, if_false, Bool.false_eq_true, reduceIte, xc_i, xc_j, xc_r, xc_n, List.nil_append, List.cons_append, Option.toList_some, Option.toList_none, nI_ltJ, nI_leJ, nI_eqJ, nI_ltz, nI_gez, nI_gtz, nI_lez, nI_eqz, m1_ltz, m1_gez, true_imp_iff, false_imp_iff, true_and, and_true, ne_eq, not_false_eq_true, not_true_eq_false, Nat.reduceEqDiff, Nat.reduceLT, Nat.reduceLeDiff, b16, ne]
        refine ⟨fun c => absurd c (by omega), fun c68 => ?_⟩
        with_reducible refine xm_go_blk b_X9_tell_76 k_X9_tell_76 ?_
        refine by_iload rfl ?_
        refine by_if_eq 93 rfl ?_
        simp (disch := first | exact Nat.ne_of_beq_eq_false rfl | exact rfl | omega) only [nI_add, xa_sub, xa_mul, pk_div, nm_mod, xa_shr, xa_and7, xa_and1, xa_and255, xa_by_and, nI_m1, Nat.add_sub_cancel, Nat.reducePow, Nat.zero_add, Nat.add_zero, Nat.reduceAdd, Nat.reduceMul, Nat.reduceSub, xf_same, xq_ff, xq_fo, xf_1, xf_2, xs_1, xs_2, xs_same, xq_so, xj_1, xj_2, xj_same, xq_jo, xq_sa1, xq_same, xq_other, upd_s, oI_n, oI_s, xv_0, xv_1, xv_2, xv_3, xm_p1, xm_p2, xq_fp, xq_fn, List.filter_nil, Nat.reduceBEq, Bool.not_true, Bool.not_false, Bool.and_true, Bool.and_false, Bool.false_and, Bool.true_and, if_true, if_false, Bool.false_eq_true, reduceIte, xc_i, xc_j, xc_r, xc_n, List.nil_append, List.cons_append, Option.toList_some, Option.toList_none, nI_ltJ, nI_leJ, nI_eqJ, nI_ltz, nI_gez, nI_gtz, nI_lez, nI_eqz, m1_ltz, m1_gez, true_imp_iff, false_imp_iff, true_and, and_true, ne_eq, not_false_eq_true, not_true_eq_false, Nat.reduceEqDiff, Nat.reduceLT, Nat.reduceLeDiff, b16, ne]
        with_reducible refine xm_go_blk b_X9_tell_93 k_X9_tell_93 ?_
        refine by_aload_n rfl ?_
        refine by_getf cn_160 fl_9_49 (by first | exact rfl | assumption) (by decide) ?_
        simp (disch := first | exact Nat.ne_of_beq_eq_false rfl | exact rfl | omega) only [nI_add, xa_sub, xa_mul, pk_div, nm_mod, xa_shr, xa_and7, xa_and1, xa_and255, xa_by_and, nI_m1, Nat.add_sub_cancel, Nat.reducePow, Nat.zero_add, Nat.add_zero, Nat.reduceAdd, Nat.reduceMul, Nat.reduceSub, xf_same, xq_ff, xq_fo, xf_1, xf_2, xs_1, xs_2, xs_same, xq_so, xj_1, xj_2, xj_same, xq_jo, xq_sa1, xq_same, xq_other, upd_s, oI_n, oI_s, b16, ne]
        refine by_if_eq 105 rfl ?_
        simp (disch := first | exact Nat.ne_of_beq_eq_false rfl | exact rfl | omega) only [nI_add, xa_sub, xa_mul, pk_div, nm_mod, xa_shr, xa_and7, xa_and1, xa_and255, xa_by_and, nI_m1, Nat.add_sub_cancel, Nat.reducePow, Nat.zero_add, Nat.add_zero, Nat.reduceAdd, Nat.reduceMul, Nat.reduceSub, xf_same, xq_ff, xq_fo, xf_1, xf_2, xs_1, xs_2, xs_same, xq_so, xj_1, xj_2, xj_same, xq_jo, xq_sa1, xq_same, xq_other, upd_s, oI_n, oI_s, xv_0, xv_1, xv_2, xv_3, xm_p1, xm_p2, xq_fp, xq_fn, List.filter_nil, Nat.reduceBEq, Bool.not_true, Bool.not_false, Bool.and_true, Bool.and_false, Bool.false_and, Bool.true_and, if_true, if_false, Bool.false_eq_true, reduceIte, xc_i, xc_j, xc_r, xc_n, List.nil_append, List.cons_append, Option.toList_some, Option.toList_none, nI_ltJ, nI_leJ, nI_eqJ, nI_ltz, nI_gez, nI_gtz, nI_lez, nI_eqz, m1_ltz, m1_gez, true_imp_iff, false_imp_iff, true_and, and_true, ne_eq, not_false_eq_true, not_true_eq_false, Nat.reduceEqDiff, Nat.reduceLT, Nat.reduceLeDiff, b16, ne]
        with_reducible refine xm_go_blk b_X9_tell_100 k_X9_tell_100 ?_
        refine by_aload_n rfl ?_
        refine by_getf cn_160 fl_9_49 (by first | exact rfl | assumption) (by decide) ?_
        simp (disch := first | exact Nat.ne_of_beq_eq_false rfl | exact rfl | omega) only [nI_add, xa_sub, xa_mul, pk_div, nm_mod, xa_shr, xa_and7, xa_and1, xa_and255, xa_by_and, nI_m1, Nat.add_sub_cancel, Nat.reducePow, Nat.zero_add, Nat.add_zero, Nat.reduceAdd, Nat.reduceMul, Nat.reduceSub, xf_same, xq_ff, xq_fo, xf_1, xf_2, xs_1, xs_2, xs_same, xq_so, xj_1, xj_2, xj_same, xq_jo, xq_sa1, xq_same, xq_other, upd_s, oI_n, oI_s, b16, ne]
        refine by_iret ry_160 (by first | rfl | assumption) ?_
        exact hB e f h2 W2 ⟨k, hk⟩ (Fr_tr f1 f2 sdS sdU) o2 (by omega) b0
      · have eL : (NL1 ++ [(w, n)]).length = NL1.length + 1 := by simp
        have k2 := ih G2 (NL1 ++ [(w, n)]) p2 nh2 W2 h2 (by omega) (fun o ho => hs o (hs2 o ho)) E2 I2 hp2t (by rw [eL]; omega) (by omega) (Fr_tr f1 f2 sdS sdU) (by rw [b16]; exact a16) (by rw [b0]; exact a0)
        rw [eL] at k2
        with_reducible refine xm_go_blk b_X9_tell_85 k_X9_tell_85 ?_
        refine by_istore (by rw [ml_160]; decide) ?_
        refine by_iinc (by rw [ml_160]; decide) rfl ci_1 ?_
        refine by_goto 68 rfl ?_
        try simp (disch := first | exact Nat.ne_of_beq_eq_false rfl | exact rfl | omega) only [nI_add, xa_sub, xa_mul, pk_div, nm_mod, xa_shr, xa_and7, xa_and1, xa_and255, xa_by_and, nI_m1, Nat.add_sub_cancel, Nat.reducePow, Nat.zero_add, Nat.add_zero, Nat.reduceAdd, Nat.reduceMul, Nat.reduceSub, xf_same, xq_ff, xq_fo, xf_1, xf_2, xs_1, xs_2, xs_same, xq_so, xj_1, xj_2, xj_same, xq_jo, xq_sa1, xq_same, xq_other, upd_s, oI_n, oI_s, xv_0, xv_1, xv_2, xv_3, xm_p1, xm_p2, xq_fp, xq_fn, List.filter_nil, Nat.reduceBEq, Bool.not_true, Bool.not_false, Bool.and_true, Bool.and_false, Bool.false_and, Bool.true_and, if_true, if_false, Bool.false_eq_true, reduceIte, xc_i, xc_j, xc_r, xc_n, List.nil_append, List.cons_append, Option.toList_some, Option.toList_none]
        exact xm_go_wk (by simp [Value.category]) k2
  -- heads
  have heads : ∀ (y i : Nat) (h1 : xm_H), i + y = 512 → Fr (sstR pp) (sstT pp) h h1 → (∀ s, s < i → h1.1 51 s = -1) → h1.2.2 46 9 = .ref 1 → h1.2.2 46 10 = .ref pp → h1.2.2 46 7 = .int (nI 0) → h1.2.2 46 13 = .int (nI 0) → h1.2.2 46 16 = .int (nI 0) → h1.2.2 46 0 = .int (nI 0) → h1.2.2 pp 0 = .int (nI 0) → h1.2.2 pp 15 = .int (nI 0) → ordI h1 W → xm_go (XE sc) (xm_T (XE sc) (d + 7)) 160 post 40 [(4, .int (nI i)), (0, .ref 46), (1, .ref 1), (2, .ref pp), (3, .ref 5)] [] h1 := by
    have qf : xt_fin.all (fun q => !((sstT pp).contains (q.1, q.2.1))) = true := by rcases hpp with rfl | rfl <;> decide +kernel
    have q2 : (2 : Nat) ∉ sstR pp ∧ (1, 0) ∉ sstT pp ∧ (1, 1) ∉ sstT pp := by rcases hpp with rfl | rfl <;> decide
    intro y
    induction y with
    | zero =>
      intro i h1 hi f1 hh b9 b10 b7 b13 b16 b0 c0 c15 o1
      have : i = 512 := by omega
      subst this
      with_reducible refine xm_go_blk b_X9_tell_40 k_X9_tell_40 ?_
      refine by_iload rfl ?_
      refine by_sipush cs_512 ?_
      refine by_ic_ge 62 rfl ?_
      simp (disch := first | exact Nat.ne_of_beq_eq_false rfl | exact rfl | omega) only [nI_add, xa_sub, xa_mul, pk_div, nm_mod, xa_shr, xa_and7, xa_and1, xa_and255, xa_by_and, nI_m1, Nat.add_sub_cancel, Nat.reducePow, Nat.zero_add, Nat.add_zero, Nat.reduceAdd, Nat.reduceMul, Nat.reduceSub, xf_same, xq_ff, xq_fo, xf_1, xf_2, xs_1, xs_2, xs_same, xq_so, xj_1, xj_2, xj_same, xq_jo, xq_sa1, xq_same, xq_other, upd_s, oI_n, oI_s, xv_0, xv_1, xv_2, xv_3, xm_p1, xm_p2, xq_fp, xq_fn, List.filter_nil, Nat.reduceBEq, Bool.not_true, Bool.not_false, Bool.and_true, Bool.and_false, Bool.false_and, Bool.true_and, if_true, if_false, Bool.false_eq_true, reduceIte, xc_i, xc_j, xc_r, xc_n, List.nil_append, List.cons_append, Option.toList_some, Option.toList_none, nI_ltJ, nI_leJ, nI_eqJ, nI_ltz, nI_gez, nI_gtz, nI_lez, nI_eqz, m1_ltz, m1_gez, true_imp_iff, false_imp_iff, true_and, and_true, ne_eq, not_false_eq_true, not_true_eq_false, Nat.reduceEqDiff, Nat.reduceLT, Nat.reduceLeDiff]
      with_reducible refine xm_go_blk b_X9_tell_62 k_X9_tell_62 ?_
      refine by_iconst ci_1 ?_
      refine by_istore (by rw [ml_160]; decide) ?_
      refine by_iconst ci_0 ?_
      refine by_istore (by rw [ml_160]; decide) ?_
      refine by_nil ?_
      try simp (disch := first | exact Nat.ne_of_beq_eq_false rfl | exact rfl | omega) only [nI_add, xa_sub, xa_mul, pk_div, nm_mod, xa_shr, xa_and7, xa_and1, xa_and255, xa_by_and, nI_m1, Nat.add_sub_cancel, Nat.reducePow, Nat.zero_add, Nat.add_zero, Nat.reduceAdd, Nat.reduceMul, Nat.reduceSub, xf_same, xq_ff, xq_fo, xf_1, xf_2, xs_1, xs_2, xs_same, xq_so, xj_1, xj_2, xj_same, xq_jo, xq_sa1, xq_same, xq_other, upd_s, oI_n, oI_s, xv_0, xv_1, xv_2, xv_3, xm_p1, xm_p2, xq_fp, xq_fn, List.filter_nil, Nat.reduceBEq, Bool.not_true, Bool.not_false, Bool.and_true, Bool.and_false, Bool.false_and, Bool.true_and, if_true, if_false, Bool.false_eq_true, reduceIte, xc_i, xc_j, xc_r, xc_n, List.nil_append, List.cons_append, Option.toList_some, Option.toList_none]
      have F1 := Fr_XF hF f1 qf
      have k0 := key (t.length + 1) sG0 [] 0 0 W h1 (by omega) (fun o ho => ho) ⟨F1, b9, b10, rowIs_fr hr f1 q2.1 q2.2.1 q2.2.2, ⟨b7, Nat.zero_le _, fun k hk => absurd hk (Nat.not_lt_zero _), List.nodup_nil, hc_0 hh (fun i => Nat.not_lt_zero _)⟩, o1, ⟨c0, c15, fun _ => 0, fun n hn => absurd hn (Nat.not_lt_zero _)⟩, Nat.zero_le _, b13⟩ sI0 (Nat.zero_le _) (by simp) (by omega) f1 b16 b0
      exact xm_go_wk (by simp [Value.category]) k0
    | succ y ih =>
      intro i h1 hi f1 hh b9 b10 b7 b13 b16 b0 c0 c15 o1
      have F1 := Fr_XF hF f1 qf
      with_reducible refine xm_go_blk b_X9_tell_40 k_X9_tell_40 ?_
      refine by_iload rfl ?_
      refine by_sipush cs_512 ?_
      refine by_ic_ge 62 rfl ?_
      simp (disch := first | exact Nat.ne_of_beq_eq_false rfl | exact rfl | omega) only [nI_add, xa_sub, xa_mul, pk_div, nm_mod, xa_shr, xa_and7, xa_and1, xa_and255, xa_by_and, nI_m1, Nat.add_sub_cancel, Nat.reducePow, Nat.zero_add, Nat.add_zero, Nat.reduceAdd, Nat.reduceMul, Nat.reduceSub, xf_same, xq_ff, xq_fo, xf_1, xf_2, xs_1, xs_2, xs_same, xq_so, xj_1, xj_2, xj_same, xq_jo, xq_sa1, xq_same, xq_other, upd_s, oI_n, oI_s, xv_0, xv_1, xv_2, xv_3, xm_p1, xm_p2, xq_fp, xq_fn, List.filter_nil, Nat.reduceBEq, Bool.not_true, Bool.not_false, Bool.and_true, Bool.and_false, Bool.false_and, Bool.true_and, if_true, if_false, Bool.false_eq_true, reduceIte, xc_i, xc_j, xc_r, xc_n, List.nil_append, List.cons_append, Option.toList_some, Option.toList_none, nI_ltJ, nI_leJ, nI_eqJ, nI_ltz, nI_gez, nI_gtz, nI_lez, nI_eqz, m1_ltz, m1_gez, true_imp_iff, false_imp_iff, true_and, and_true, ne_eq, not_false_eq_true, not_true_eq_false, Nat.reduceEqDiff, Nat.reduceLT, Nat.reduceLeDiff, xf_46_6 F1]
      refine ⟨fun c => absurd c (by omega), fun c40 => ?_⟩
      with_reducible refine xm_go_blk b_X9_tell_48 k_X9_tell_48 ?_
      refine by_aload_n rfl ?_
      refine by_getf cn_160 fl_9_25 (by first | exact rfl | assumption) (by decide) ?_
      refine by_iload rfl ?_
      refine by_iconst ci_m1 ?_
      simp (disch := first | exact Nat.ne_of_beq_eq_false rfl | exact rfl | omega) only [nI_add, xa_sub, xa_mul, pk_div, nm_mod, xa_shr, xa_and7, xa_and1, xa_and255, xa_by_and, nI_m1, Nat.add_sub_cancel, Nat.reducePow, Nat.zero_add, Nat.add_zero, Nat.reduceAdd, Nat.reduceMul, Nat.reduceSub, xf_same, xq_ff, xq_fo, xf_1, xf_2, xs_1, xs_2, xs_same, xq_so, xj_1, xj_2, xj_same, xq_jo, xq_sa1, xq_same, xq_other, upd_s, oI_n, oI_s, xf_46_6 F1]
      refine by_iast (by first | exact rfl | assumption | exact ps_1 hpp | exact ps_2 hpp | exact ps_3 hpp | exact ps_4 hpp | exact ps_5 hpp | exact ps_6 hpp | exact ps_7 hpp | exact ps_8 hpp | exact ps_9 hpp | exact ps_10 hpp | exact ps_11 hpp | exact ps_15 hpp | exact ps_16 hpp | exact ps_17 hpp | exact ps_18 hpp | exact ps_19 hpp | exact ps_21 hpp | exact ps_22 hpp | exact ps_23 hpp | exact ps_24 hpp) ⟨by omega, by omega⟩ ?_
      refine by_iinc (by rw [ml_160]; decide) rfl ci_1 ?_
      refine by_goto 40 rfl ?_
      try simp (disch := first | exact Nat.ne_of_beq_eq_false rfl | exact rfl | omega) only [nI_add, xa_sub, xa_mul, pk_div, nm_mod, xa_shr, xa_and7, xa_and1, xa_and255, xa_by_and, nI_m1, Nat.add_sub_cancel, Nat.reducePow, Nat.zero_add, Nat.add_zero, Nat.reduceAdd, Nat.reduceMul, Nat.reduceSub, xf_same, xq_ff, xq_fo, xf_1, xf_2, xs_1, xs_2, xs_same, xq_so, xj_1, xj_2, xj_same, xq_jo, xq_sa1, xq_same, xq_other, upd_s, oI_n, oI_s, xv_0, xv_1, xv_2, xv_3, xm_p1, xm_p2, xq_fp, xq_fn, List.filter_nil, Nat.reduceBEq, Bool.not_true, Bool.not_false, Bool.and_true, Bool.and_false, Bool.false_and, Bool.true_and, if_true, if_false, Bool.false_eq_true, reduceIte, xc_i, xc_j, xc_r, xc_n, List.nil_append, List.cons_append, Option.toList_some, Option.toList_none, xf_46_6 F1]
      refine ih (i + 1) _ (by omega) (Fr_si f1 (by simp)) (fun s hs => ?_) b9 b10 b7 b13 b16 b0 c0 c15 ⟨o1.1, fun x hx => by rw [xq_so (by decide)]; exact o1.2 x hx⟩
      rw [xs_same]
      unfold upd
      by_cases z : s = i
      · rw [if_pos z]
      · rw [if_neg z]; exact hh s (by omega)
  have qs : 46 ≠ pp := by rcases hpp with rfl | rfl <;> decide
  refine xq_in rfl ?_
  simp only [xq_a0, xq_aI, xq_aJ, xq_aR, Nat.reduceAdd]
  with_reducible refine xm_go_blk b_X9_tell_0 k_X9_tell_0 ?_
  refine by_aload_n rfl ?_
  refine by_aload_n rfl ?_
  refine by_putf cn_160 fl_9_32 (by first | exact rfl | assumption) (by decide) nf_9_9 ft_9_9 (by first | rfl | assumption) (by first | rfl | assumption) ?_
  refine by_aload_n rfl ?_
  refine by_aload_n rfl ?_
  refine by_putf cn_160 fl_9_36 (by first | exact rfl | assumption) (by decide) nf_9_10 ft_9_10 (by first | rfl | assumption) (by first | rfl | assumption) ?_
  refine by_aload_n rfl ?_
  refine by_getf cn_160 fl_9_36 (by first | exact rfl | assumption) (by decide) ?_
  simp (disch := first | exact Nat.ne_of_beq_eq_false rfl | exact rfl | omega) only [nI_add, xa_sub, xa_mul, pk_div, nm_mod, xa_shr, xa_and7, xa_and1, xa_and255, xa_by_and, nI_m1, Nat.add_sub_cancel, Nat.reducePow, Nat.zero_add, Nat.add_zero, Nat.reduceAdd, Nat.reduceMul, Nat.reduceSub, xf_same, xq_ff, xq_fo, xf_1, xf_2, xs_1, xs_2, xs_same, xq_so, xj_1, xj_2, xj_same, xq_jo, xq_sa1, xq_same, xq_other, upd_s, oI_n, oI_s, xv_0, xv_1, xv_2, xv_3, xm_p1, xm_p2, xq_fp, xq_fn, List.filter_nil, Nat.reduceBEq, Bool.not_true, Bool.not_false, Bool.and_true, Bool.and_false, Bool.false_and, Bool.true_and, if_true, if_false, Bool.false_eq_true, reduceIte, xc_i, xc_j, xc_r, xc_n, List.nil_append, List.cons_append, Option.toList_some, Option.toList_none]
  refine by_inv0 cn_160 lk_9_40 (by rw [xe_cnt]; decide) is_105 np_105 cn_105 (by first | exact rfl | assumption | exact ps_0 hpp) (Nat.le_of_ble_eq_true rfl) ?_
  refine xq_in rfl ?_
  simp only [xq_a0, xq_aI, xq_aJ, xq_aR, Nat.reduceAdd]
  with_reducible refine xm_go_blk b_X6_clear_0 k_X6_clear_0 ?_
  refine by_aload_n rfl ?_
  refine by_iconst ci_0 ?_
  refine by_putf cn_105 fl_6_59 (by first | exact rfl | assumption | exact ps_0 hpp) (by decide) nf_6_0 ft_6_0 (by first | rfl | assumption) (by first | rfl | assumption) ?_
  refine by_aload_n rfl ?_
  refine by_iconst ci_0 ?_
  refine by_putf cn_105 fl_6_63 (by first | exact rfl | assumption | exact ps_0 hpp) (by decide) nf_6_15 ft_6_15 (by first | rfl | assumption) (by first | rfl | assumption) ?_
  refine by_aload_n rfl ?_
  refine by_iconst ci_0 ?_
  refine by_putf cn_105 fl_6_66 (by first | exact rfl | assumption | exact ps_0 hpp) (by decide) nf_6_14 ft_6_14 (by first | rfl | assumption) (by first | rfl | assumption) ?_
  refine by_ret ry_105 ?_
  with_reducible refine xm_go_blk b_X9_tell_17 k_X9_tell_17 ?_
  refine by_aload_n rfl ?_
  refine by_iconst ci_0 ?_
  refine by_putf cn_160 fl_9_45 (by first | exact rfl | assumption) (by decide) nf_9_0 ft_9_0 (by first | rfl | assumption) (by first | rfl | assumption) ?_
  refine by_aload_n rfl ?_
  refine by_iconst ci_0 ?_
  refine by_putf cn_160 fl_9_49 (by first | exact rfl | assumption) (by decide) nf_9_16 ft_9_16 (by first | rfl | assumption) (by first | rfl | assumption) ?_
  refine by_aload_n rfl ?_
  refine by_iconst ci_0 ?_
  refine by_putf cn_160 fl_9_52 (by first | exact rfl | assumption) (by decide) nf_9_13 ft_9_13 (by first | rfl | assumption) (by first | rfl | assumption) ?_
  refine by_aload_n rfl ?_
  refine by_iconst ci_0 ?_
  refine by_putf cn_160 fl_9_55 (by first | exact rfl | assumption) (by decide) nf_9_7 ft_9_7 (by first | rfl | assumption) (by first | rfl | assumption) ?_
  refine by_iconst ci_0 ?_
  refine by_istore (by rw [ml_160]; decide) ?_
  refine by_nil ?_
  try simp (disch := first | exact Nat.ne_of_beq_eq_false rfl | exact rfl | omega) only [nI_add, xa_sub, xa_mul, pk_div, nm_mod, xa_shr, xa_and7, xa_and1, xa_and255, xa_by_and, nI_m1, Nat.add_sub_cancel, Nat.reducePow, Nat.zero_add, Nat.add_zero, Nat.reduceAdd, Nat.reduceMul, Nat.reduceSub, xf_same, xq_ff, xq_fo, xf_1, xf_2, xs_1, xs_2, xs_same, xq_so, xj_1, xj_2, xj_same, xq_jo, xq_sa1, xq_same, xq_other, upd_s, oI_n, oI_s, xv_0, xv_1, xv_2, xv_3, xm_p1, xm_p2, xq_fp, xq_fn, List.filter_nil, Nat.reduceBEq, Bool.not_true, Bool.not_false, Bool.and_true, Bool.and_false, Bool.false_and, Bool.true_and, if_true, if_false, Bool.false_eq_true, reduceIte, xc_i, xc_j, xc_r, xc_n, List.nil_append, List.cons_append, Option.toList_some, Option.toList_none]
  refine heads 512 0 _ rfl (Fr_sf (Fr_sf (Fr_sf (Fr_sf (Fr_sf (Fr_sf (Fr_sf (Fr_sf (Fr_sf Fr_rf (by simp)) (by simp)) (by simp)) (by simp)) (by simp)) (by simp)) (by simp)) (by simp)) (by simp)) (fun s hs => absurd hs (Nat.not_lt_zero _)) ?_ ?_ ?_ ?_ ?_ ?_ ?_ ?_ ⟨?_, hO.2⟩
  · simp [xm_sf, updV, qs]
  · simp [xm_sf, updV, qs]
  · simp [xm_sf, updV, qs]
  · simp [xm_sf, updV, qs]
  · simp [xm_sf, updV, qs]
  · simp [xm_sf, updV, qs]
  · simp [xm_sf, updV, qs.symm]
  · simp [xm_sf, updV, qs.symm]
  · have q7 : 7 ≠ pp := by rcases hpp with rfl | rfl <;> decide
    simpa [xm_sf, updV, q7] using hO.1
end SY
