/-! ===== the reference: keepProgram: a node, whole; the loop over nodes ===== -/
/-- n nodes are kept; R: roots, C, F, G: bounds -/
def knI (h h' : xm_H) (ps : List pr_D) (S T : Nat → Ty) (b cn : Nat) (tr : Nat → Ty) (n : Nat) : Prop :=
  Fr knR [] h h' ∧ (∀ m, m < n → knE h' ps S T b cn tr m) ∧ (∃ R, rtA ps R n ∧ ∀ m, m < n → ∀ k, k < 8 → h'.1 124 (8 * m + k) = R m k) ∧ ∃ C F G, bnd ps S T C F G n ∧ kbV h' n C F G
section KN
variable {sc : xm_Sc} {d b cn : Nat} {ps : List pr_D} {S T tr : Nat → Ty} {h h' : xm_H} {post : xm_Po}
/-- after rootOfNode -/
def knM (h h' : xm_H) (ps : List pr_D) (S T : Nat → Ty) (b cn : Nat) (tr : Nat → Ty) (n : Nat) : Prop :=
  Fr knR [] h h' ∧ (∀ m, m < n + 1 → knE h' ps S T b cn tr m) ∧ (∃ R, rtA ps R (n + 1) ∧ ∀ m, m < n + 1 → ∀ k, k < 8 → h'.1 124 (8 * m + k) = R m k) ∧ ∃ C F G, bnd ps S T C F G n ∧ kbV h' n C F G
theorem kn_373 {n : Nat} (hS : knS h ps S T b cn tr) (hn : n < ps.length) (hW : ∀ i, i + 3200 < cn → h.1 132 i = nI (min 4096 (ty_w (tr (i + 3200))))) (hw : ∀ m, m < ps.length → pC ps m ≠ 11 → ty_w (S m) ≤ 2048 ∧ ty_w (T m) ≤ 2048) (hv : ∀ m, m < ps.length → pC ps m = 0 → ∀ x, p1 ps m = some x → pC ps x ≠ 11) (hM : knM h h' ps S T b cn tr n)
    (hgo : ∀ h2, knI h h2 ps S T b cn tr (n + 1) → xm_go (XE sc) (xm_T (XE sc) (d + 4)) 244 post 187 [(1, .int (nI (n + 1))), (0, .ref 102)] [] h2) : xm_go (XE sc) (xm_T (XE sc) (d + 4)) 244 post 373 [(1, .int (nI n)), (0, .ref 102)] [] h' := by
  obtain ⟨s1, s2, s3, s4, s5, s6, s7, s8⟩ := hS
  obtain ⟨m1, m2, m3, C, F, G, m4, m5⟩ := hM
  have F1 : XF h' := Fr_XF s1 m1 (by decide +kernel)
  with_reducible refine xm_go_blk b_X12_keepProgram_373 k_X12_keepProgram_373 ?_
  refine by_aload_n rfl ?_
  refine by_iload_n rfl ?_
  refine by_inv1 cn_244 lk_12_393 (by rw [xe_cnt]; decide) is_211 np_211 cn_211 (by first | exact rfl | assumption) (Nat.le_of_ble_eq_true rfl) ?_
  refine sp_bound (d := d + 2) (C := C) (F := F) (G := G) F1 ⟨s2, s3, hn, fun m hm => ?_⟩ m5 m4 (hv n hn) (fun c f g q1 q2 q3 => ?_)
  · obtain ⟨a1, a2, a3, a4, a5, a6, a7, a8⟩ := m2 m (by omega)
    refine ⟨a1, a2, a3, fun z => ?_⟩
    obtain ⟨i, j, b1, b2, b3, b4, b5, b6⟩ := a8 z
    obtain ⟨w1, w2⟩ := hw m (by omega) z
    refine ⟨⟨i, by omega, b3, ?_⟩, ⟨j, by omega, b5, ?_⟩, w1, w2⟩
    · rw [m1.1 132 (by simp [knR]), hW i b1, b4, Nat.min_eq_right (by omega)]
    · rw [m1.1 132 (by simp [knR]), hW j b2, b6, Nat.min_eq_right (by omega)]
  · with_reducible refine xm_go_blk b_X12_keepProgram_378 k_X12_keepProgram_378 ?_
    refine by_iinc (by rw [ml_244]; decide) rfl ci_1 ?_
    refine by_goto 187 rfl ?_
    simp (disch := first | exact Nat.ne_of_beq_eq_false rfl | exact rfl | omega) only [nI_add, xa_sub, xa_mul, pk_div, nm_mod, xa_shr, xa_and7, xa_and1, xa_and255, xa_by_and, nI_m1, Nat.add_sub_cancel, Nat.reducePow, Nat.zero_add, Nat.add_zero, Nat.reduceAdd, Nat.reduceMul, Nat.reduceSub, xf_same, xq_ff, xq_fo, xf_1, xf_2, xs_1, xs_2, xs_same, xq_so, xj_1, xj_2, xj_same, xq_jo, xq_sa1, xq_same, xq_other, upd_s, oI_n, oI_s, xv_0, xv_1, xv_2, xv_3, xm_p1, xm_p2, xq_fp, xq_fn, List.filter_nil, Nat.reduceBEq, Bool.not_true, Bool.not_false, Bool.and_true, Bool.and_false, Bool.false_and, Bool.true_and, if_true, if_false, Bool.false_eq_true, reduceIte, xc_i, xc_j, xc_r, xc_n, List.nil_append, List.cons_append, Option.toList_some, Option.toList_none]
    have fr : Fr knR [] h' (xm_sl (xm_sl (xm_sl h' 125 n (lN c)) 126 n (lN f)) 127 n (lN g)) := Fr_sl (Fr_sl (Fr_sl Fr_rf (by simp [knR])) (by simp [knR])) (by simp [knR])
    refine xm_go_wk (by simp [Value.category]) (hgo _ ⟨Fr_tr m1 fr (fun _ z => z) (fun _ z => z), m2, m3, updN C n c, updN F n f, updN G n g, bnd_upd s2 hn m4 q1 q2 q3, fun m hm => ?_⟩)
    by_cases e : m = n
    · subst e
      rw [updN_s, updN_s, updN_s]
      refine ⟨?_, ?_, ?_⟩ <;> simp [xm_sl, vp_updL]
    · rw [updN_o e, updN_o e, updN_o e]
      have := m5 m (by omega)
      simpa [xm_sl, vp_updL, e] using this
theorem kn_1 {n : Nat} (hS : knS h ps S T b cn tr) (hn : n < ps.length) (hI : knI h h' ps S T b cn tr n)
    (hgo : ∀ h2, knM h h2 ps S T b cn tr n → xm_go (XE sc) (xm_T (XE sc) (d + 4)) 244 post 373 [(1, .int (nI n)), (0, .ref 102)] [] h2) : xm_go (XE sc) (xm_T (XE sc) (d + 4)) 244 post 195 [(1, .int (nI n)), (0, .ref 102)] [] h' := by
  obtain ⟨s1, s2, s3, s4, s5, s6, s7, s8⟩ := hS
  obtain ⟨m1, m2, ⟨Rr, m3, m3b⟩, C, F, G, m4, m5⟩ := hI
  have F1 : XF h' := Fr_XF s1 m1 (by decide +kernel)
  obtain ⟨o1, _⟩ := s2 n hn
  have o1 : pC ps n ≤ 12 := o1
  obtain ⟨c1, c2, c3, c4, c5⟩ := s5 n hn
  have c1 : h.1 105 n = nI (pC ps n) := c1
  have c2 : h.1 106 n = oI (p1 ps n) := c2
  have c3 : h.1 107 n = oI (p2 ps n) := c3
  have c4 : h.1 108 n = nI (pNu ps n) := c4
  have c5 : pC ps n = 11 → ∀ k, k < 8 → h.1 110 (8 * n + k) = nI (pHw ps n k) := c5
  have g1 : h'.1 105 n = nI (pC ps n) := by rw [m1.1 105 (by simp [knR])]; exact c1
  have g2 : h'.1 106 n = oI (p1 ps n) := by rw [m1.1 106 (by simp [knR])]; exact c2
  have g3 : h'.1 107 n = oI (p2 ps n) := by rw [m1.1 107 (by simp [knR])]; exact c3
  have g4 : h'.1 108 n = nI (pNu ps n) := by rw [m1.1 108 (by simp [knR])]; exact c4
  have g5 : h'.1 151 n = nI (b + wsum (pC ps) T n) := by rw [m1.1 151 (by simp [knR])]; exact s6 n hn
  have fr5 := kn5_fr (h := h') (n := n) (a := nI (pC ps n)) (b := oI (p1 ps n)) (c := oI (p2 ps n)) (d := nI (pNu ps n)) (e := nI (b + wsum (pC ps) T n))
  obtain ⟨v1, v2, v3, v4, v5⟩ := kn5_at (h := h') (n := n) (a := nI (pC ps n)) (b := oI (p1 ps n)) (c := oI (p2 ps n)) (d := nI (pNu ps n)) (e := nI (b + wsum (pC ps) T n))
  have rest : ∀ h2, Fr [121] [] (kn5 h' n (nI (pC ps n)) (oI (p1 ps n)) (oI (p2 ps n)) (nI (pNu ps n)) (nI (b + wsum (pC ps) T n))) h2 → (∀ k, k < 8 → h2.1 121 (8 * n + k) = if pC ps n = 11 then nI (pHw ps n k) else nI 0) → (∀ m, (m < 8 * n ∨ 8 * n + 8 ≤ m) → h2.1 121 m = (kn5 h' n (nI (pC ps n)) (oI (p1 ps n)) (oI (p2 ps n)) (nI (pNu ps n)) (nI (b + wsum (pC ps) T n))).1 121 m) → xm_go (XE sc) (xm_T (XE sc) (d + 4)) 244 post 306 [(0, .ref 102), (1, .int (nI n))] [] h2 := by
    intro h2 f2 q1 q2
    have f12 : Fr [117, 118, 119, 120, 152, 121] [] h' h2 := Fr_tr (Fr_mo fr5 (by simp) (by simp)) f2 (by simp) (by simp)
    have F2 : XF h2 := Fr_XF F1 f12 (by decide +kernel)
    have fin : ∀ (s t : Int32), (pC ps n = 11 → s = -1 ∧ t = -1) → (pC ps n ≠ 11 → ∃ i j, i + 3200 < cn ∧ j + 3200 < cn ∧ s = nI i ∧ tr (i + 3200) = S n ∧ t = nI j ∧ tr (j + 3200) = T n) → ∀ (post2 : xm_Po), (∀ h4, knM h h4 ps S T b cn tr n → post2 none h4) → xm_T (XE sc) (d + 4) 288 [.ref 102, .int (nI n)] (xm_si (xm_si h2 122 n s) 123 n t) post2 := by
      intro s t hs1 hs2 post2 hp2
      have f3 : Fr [122, 123] [] h2 (xm_si (xm_si h2 122 n s) 123 n t) := Fr_si (Fr_si Fr_rf (by simp)) (by simp)
      have F3 : XF (xm_si (xm_si h2 122 n s) 123 n t) := Fr_XF F2 f3 (by decide +kernel)
      have u1 : (xm_si (xm_si h2 122 n s) 123 n t).1 122 n = s := by rw [xs_other (by decide), xs_same, upd_s]
      have u2 : (xm_si (xm_si h2 122 n s) 123 n t).1 123 n = t := by rw [xs_same, upd_s]
      have w1 : (xm_si (xm_si h2 122 n s) 123 n t).1 117 n = nI (pC ps n) := by rw [f3.1 117 (by simp), f2.1 117 (by simp)]; exact v1
      have w2 : (xm_si (xm_si h2 122 n s) 123 n t).1 118 n = oI (p1 ps n) := by rw [f3.1 118 (by simp), f2.1 118 (by simp)]; exact v2
      have w3 : (xm_si (xm_si h2 122 n s) 123 n t).1 119 n = oI (p2 ps n) := by rw [f3.1 119 (by simp), f2.1 119 (by simp)]; exact v3
      have w4 : (xm_si (xm_si h2 122 n s) 123 n t).1 120 n = nI (pNu ps n) := by rw [f3.1 120 (by simp), f2.1 120 (by simp)]; exact v4
      have w5 : (xm_si (xm_si h2 122 n s) 123 n t).1 152 n = nI (b + wsum (pC ps) T n) := by rw [f3.1 152 (by simp), f2.1 152 (by simp)]; exact v5
      have w6 : ∀ k, k < 8 → (xm_si (xm_si h2 122 n s) 123 n t).1 121 (8 * n + k) = if pC ps n = 11 then nI (pHw ps n k) else nI 0 := fun k hk => by rw [f3.1 121 (by simp)]; exact q1 k hk
      have hE : ∀ m, m < n + 1 → knE (xm_si (xm_si h2 122 n s) 123 n t) ps S T b cn tr m := by
        intro m hm
        by_cases e : m = n
        · subst e
          exact ⟨w1, w2, w3, w4, w5, w6, fun z => by rw [u1, u2]; exact hs1 z, fun z => by rw [u1, u2]; exact hs2 z⟩
        · refine knE_cg (m2 m (by omega)) (fun q hq => ?_) (fun k hk => ?_)
          · have hq1 : q ≠ 121 := by intro z; subst z; simp at hq
            rw [xs_o e, xs_o e, f2.1 q (by simpa using hq1), kn5_o e]
          · rw [f3.1 121 (by simp), q2 _ (by omega), fr5.1 121 (by simp)]
      refine sp_rootOfNode (d := d) (ps := ps) (R := Rr) F3 s2 s3 hn w1 w2 w3 (fun _ => w4) (fun z k hk => by rw [w6 k hk, if_pos z]) (fun m hm k hk => ?_) (fun h4 f4 r1 r2 => hp2 h4 ⟨?_, fun m hm => ?_, ⟨_, rtA_upd s2 hn m3, fun m hm k hk => ?_⟩, C, F, G, m4, fun m hm => ?_⟩)
      · rw [f3.1 124 (by simp), f12.1 124 (by simp)]; exact m3b m hm k hk
      · exact Fr_tr (Fr_tr (Fr_tr m1 f12 (by simp [knR]) (by simp)) f3 (by simp [knR]) (by simp)) f4 (by simp [knR]) (by simp)
      · refine knE_cg (hE m hm) (fun q hq => ?_) (fun k hk => by rw [f4.1 121 (by simp)])
        rw [f4.1 q (by intro z; simp at z hq; omega)]
      · by_cases e : m = n
        · subst e
          rw [if_pos rfl]; exact r1 k hk
        · rw [if_neg e, r2 _ (by omega), f3.1 124 (by simp), f12.1 124 (by simp)]
          exact m3b m (by omega) k hk
      · rw [f4.2.1 125 (by simp), f4.2.1 126 (by simp), f4.2.1 127 (by simp), f3.2.1 125 (by simp), f3.2.1 126 (by simp), f3.2.1 127 (by simp), f12.2.1 125 (by simp), f12.2.1 126 (by simp), f12.2.1 127 (by simp)]
        exact m5 m hm
    have e1 : h2.1 105 n = nI (pC ps n) := by rw [f12.1 105 (by simp)]; exact g1
    by_cases e : pC ps n = 11
    · have e' : (pC ps n = 11) = True := eq_true e
      with_reducible refine xm_go_blk b_X12_keepProgram_306 k_X12_keepProgram_306 ?_
      refine by_aload_n rfl ?_
      refine by_getf cn_244 fl_12_69 (by first | exact rfl | assumption) (by decide) ?_
      refine by_iload_n rfl ?_
      refine by_aload_n rfl ?_
      refine by_getf cn_244 fl_12_16 (by first | exact rfl | assumption) (by decide) ?_
      refine by_iload_n rfl ?_
      simp (disch := first | exact Nat.ne_of_beq_eq_false rfl | exact rfl | omega) only [nI_add, xa_sub, xa_mul, pk_div, nm_mod, xa_shr, xa_and7, xa_and1, xa_and255, xa_by_and, nI_m1, Nat.add_sub_cancel, Nat.reducePow, Nat.zero_add, Nat.add_zero, Nat.reduceAdd, Nat.reduceMul, Nat.reduceSub, xf_same, xq_ff, xq_fo, xf_1, xf_2, xs_1, xs_2, xs_same, xq_so, xj_1, xj_2, xj_same, xq_jo, xq_sa1, xq_same, xq_other, upd_s, oI_n, oI_s, xf_102_6 F2, xf_102_25 F2, xf_102_26 F2, e1, e']
      first | refine by_iald (by first | exact rfl | assumption | exact ps_1 hpp | exact ps_2 hpp | exact ps_3 hpp | exact ps_4 hpp | exact ps_5 hpp | exact ps_6 hpp | exact ps_7 hpp | exact ps_8 hpp | exact ps_9 hpp | exact ps_10 hpp | exact ps_11 hpp | exact ps_15 hpp | exact ps_16 hpp | exact ps_17 hpp | exact ps_18 hpp | exact ps_19 hpp | exact ps_21 hpp | exact ps_22 hpp | exact ps_23 hpp | exact ps_24 hpp) ⟨by omega, by omega⟩ ?_ | refine by_tald rfl rfl ⟨by omega, by omega⟩ ?_
      refine by_bipush cb_11 ?_
      refine by_ic_ne 326 rfl ?_
      simp (disch := first | exact Nat.ne_of_beq_eq_false rfl | exact rfl | omega) only [nI_add, xa_sub, xa_mul, pk_div, nm_mod, xa_shr, xa_and7, xa_and1, xa_and255, xa_by_and, nI_m1, Nat.add_sub_cancel, Nat.reducePow, Nat.zero_add, Nat.add_zero, Nat.reduceAdd, Nat.reduceMul, Nat.reduceSub, xf_same, xq_ff, xq_fo, xf_1, xf_2, xs_1, xs_2, xs_same, xq_so, xj_1, xj_2, xj_same, xq_jo, xq_sa1, xq_same, xq_other, upd_s, oI_n, oI_s, xv_0, xv_1, xv_2, xv_3, xm_p1, xm_p2, xq_fp, xq_fn, List.filter_nil, Nat.reduceBEq, Bool.not_true, Bool.not_false, Bool.and_true, Bool.and_false, Bool.false_and, Bool.true_and, if_true, if_false, Bool.false_eq_true, reduceIte, xc_i, xc_j, xc_r, xc_n, List.nil_append, List.cons_append, Option.toList_some, Option.toList_none, nI_ltJ, nI_leJ, nI_eqJ, nI_ltz, nI_gez, nI_gtz, nI_lez, nI_eqz, m1_ltz, m1_gez, true_imp_iff, false_imp_iff, true_and, and_true, ne_eq, not_false_eq_true, not_true_eq_false, Nat.reduceEqDiff, Nat.reduceLT, Nat.reduceLeDiff, xf_102_6 F2, xf_102_25 F2, xf_102_26 F2, e1, e']
      with_reducible refine xm_go_blk b_X12_keepProgram_322 k_X12_keepProgram_322 ?_
      refine by_iconst ci_m1 ?_
      refine by_goto 336 rfl ?_
      with_reducible refine xm_go_blk b_X12_keepProgram_336 k_X12_keepProgram_336 ?_
      refine by_iast (by first | exact rfl | assumption | exact ps_1 hpp | exact ps_2 hpp | exact ps_3 hpp | exact ps_4 hpp | exact ps_5 hpp | exact ps_6 hpp | exact ps_7 hpp | exact ps_8 hpp | exact ps_9 hpp | exact ps_10 hpp | exact ps_11 hpp | exact ps_15 hpp | exact ps_16 hpp | exact ps_17 hpp | exact ps_18 hpp | exact ps_19 hpp | exact ps_21 hpp | exact ps_22 hpp | exact ps_23 hpp | exact ps_24 hpp) ⟨by omega, by omega⟩ ?_
      refine by_aload_n rfl ?_
      refine by_getf cn_244 fl_12_72 (by first | exact rfl | assumption) (by decide) ?_
      refine by_iload_n rfl ?_
      refine by_aload_n rfl ?_
      refine by_getf cn_244 fl_12_16 (by first | exact rfl | assumption) (by decide) ?_
      refine by_iload_n rfl ?_
      simp (disch := first | exact Nat.ne_of_beq_eq_false rfl | exact rfl | omega) only [nI_add, xa_sub, xa_mul, pk_div, nm_mod, xa_shr, xa_and7, xa_and1, xa_and255, xa_by_and, nI_m1, Nat.add_sub_cancel, Nat.reducePow, Nat.zero_add, Nat.add_zero, Nat.reduceAdd, Nat.reduceMul, Nat.reduceSub, xf_same, xq_ff, xq_fo, xf_1, xf_2, xs_1, xs_2, xs_same, xq_so, xj_1, xj_2, xj_same, xq_jo, xq_sa1, xq_same, xq_other, upd_s, oI_n, oI_s, xf_102_6 F2, xf_102_25 F2, xf_102_26 F2, e1, e']
      first | refine by_iald (by first | exact rfl | assumption | exact ps_1 hpp | exact ps_2 hpp | exact ps_3 hpp | exact ps_4 hpp | exact ps_5 hpp | exact ps_6 hpp | exact ps_7 hpp | exact ps_8 hpp | exact ps_9 hpp | exact ps_10 hpp | exact ps_11 hpp | exact ps_15 hpp | exact ps_16 hpp | exact ps_17 hpp | exact ps_18 hpp | exact ps_19 hpp | exact ps_21 hpp | exact ps_22 hpp | exact ps_23 hpp | exact ps_24 hpp) ⟨by omega, by omega⟩ ?_ | refine by_tald rfl rfl ⟨by omega, by omega⟩ ?_
      refine by_bipush cb_11 ?_
      refine by_ic_ne 357 rfl ?_
      simp (disch := first | exact Nat.ne_of_beq_eq_false rfl | exact rfl | omega) only [nI_add, xa_sub, xa_mul, pk_div, nm_mod, xa_shr, xa_and7, xa_and1, xa_and255, xa_by_and, nI_m1, Nat.add_sub_cancel, Nat.reducePow, Nat.zero_add, Nat.add_zero, Nat.reduceAdd, Nat.reduceMul, Nat.reduceSub, xf_same, xq_ff, xq_fo, xf_1, xf_2, xs_1, xs_2, xs_same, xq_so, xj_1, xj_2, xj_same, xq_jo, xq_sa1, xq_same, xq_other, upd_s, oI_n, oI_s, xv_0, xv_1, xv_2, xv_3, xm_p1, xm_p2, xq_fp, xq_fn, List.filter_nil, Nat.reduceBEq, Bool.not_true, Bool.not_false, Bool.and_true, Bool.and_false, Bool.false_and, Bool.true_and, if_true, if_false, Bool.false_eq_true, reduceIte, xc_i, xc_j, xc_r, xc_n, List.nil_append, List.cons_append, Option.toList_some, Option.toList_none, nI_ltJ, nI_leJ, nI_eqJ, nI_ltz, nI_gez, nI_gtz, nI_lez, nI_eqz, m1_ltz, m1_gez, true_imp_iff, false_imp_iff, true_and, and_true, ne_eq, not_false_eq_true, not_true_eq_false, Nat.reduceEqDiff, Nat.reduceLT, Nat.reduceLeDiff, xf_102_6 F2, xf_102_25 F2, xf_102_26 F2, e1, e']
      with_reducible refine xm_go_blk b_X12_keepProgram_353 k_X12_keepProgram_353 ?_
      refine by_iconst ci_m1 ?_
      refine by_goto 367 rfl ?_
      with_reducible refine xm_go_blk b_X12_keepProgram_367 k_X12_keepProgram_367 ?_
      refine by_iast (by first | exact rfl | assumption | exact ps_1 hpp | exact ps_2 hpp | exact ps_3 hpp | exact ps_4 hpp | exact ps_5 hpp | exact ps_6 hpp | exact ps_7 hpp | exact ps_8 hpp | exact ps_9 hpp | exact ps_10 hpp | exact ps_11 hpp | exact ps_15 hpp | exact ps_16 hpp | exact ps_17 hpp | exact ps_18 hpp | exact ps_19 hpp | exact ps_21 hpp | exact ps_22 hpp | exact ps_23 hpp | exact ps_24 hpp) ⟨by omega, by omega⟩ ?_
      refine by_aload_n rfl ?_
      refine by_iload_n rfl ?_
      refine by_inv1 cn_244 lk_12_390 (by rw [xe_cnt]; decide) is_288 np_288 cn_288 (by first | exact rfl | assumption) (Nat.le_of_ble_eq_true rfl) ?_
      refine fin _ _ (fun _ => ⟨rfl, rfl⟩) (fun z => absurd e z) _ (fun h4 hM => ?_)
      exact xm_go_wk (by simp [Value.category]) (hgo h4 hM)
    · have e' : (pC ps n = 11) = False := eq_false e
      obtain ⟨i, j, b1, b2, b3, b4, b5, b6, b7, b8⟩ := s7 n (List.mem_range.mpr hn) e
      have e2 : h2.1 111 n = nI i := by rw [f12.1 111 (by simp), m1.1 111 (by simp [knR])]; exact b5
      have e3 : h2.1 112 n = nI j := by rw [f12.1 112 (by simp), m1.1 112 (by simp [knR])]; exact b7
      with_reducible refine xm_go_blk b_X12_keepProgram_306 k_X12_keepProgram_306 ?_
      refine by_aload_n rfl ?_
      refine by_getf cn_244 fl_12_69 (by first | exact rfl | assumption) (by decide) ?_
      refine by_iload_n rfl ?_
      refine by_aload_n rfl ?_
      refine by_getf cn_244 fl_12_16 (by first | exact rfl | assumption) (by decide) ?_
      refine by_iload_n rfl ?_
      simp (disch := first | exact Nat.ne_of_beq_eq_false rfl | exact rfl | omega) only [nI_add, xa_sub, xa_mul, pk_div, nm_mod, xa_shr, xa_and7, xa_and1, xa_and255, xa_by_and, nI_m1, Nat.add_sub_cancel, Nat.reducePow, Nat.zero_add, Nat.add_zero, Nat.reduceAdd, Nat.reduceMul, Nat.reduceSub, xf_same, xq_ff, xq_fo, xf_1, xf_2, xs_1, xs_2, xs_same, xq_so, xj_1, xj_2, xj_same, xq_jo, xq_sa1, xq_same, xq_other, upd_s, oI_n, oI_s, xf_102_6 F2, xf_102_25 F2, xf_102_12 F2, e1, e2, e']
      first | refine by_iald (by first | exact rfl | assumption | exact ps_1 hpp | exact ps_2 hpp | exact ps_3 hpp | exact ps_4 hpp | exact ps_5 hpp | exact ps_6 hpp | exact ps_7 hpp | exact ps_8 hpp | exact ps_9 hpp | exact ps_10 hpp | exact ps_11 hpp | exact ps_15 hpp | exact ps_16 hpp | exact ps_17 hpp | exact ps_18 hpp | exact ps_19 hpp | exact ps_21 hpp | exact ps_22 hpp | exact ps_23 hpp | exact ps_24 hpp) ⟨by omega, by omega⟩ ?_ | refine by_tald rfl rfl ⟨by omega, by omega⟩ ?_
      refine by_bipush cb_11 ?_
      refine by_ic_ne 326 rfl ?_
      simp (disch := first | exact Nat.ne_of_beq_eq_false rfl | exact rfl | omega) only [nI_add, xa_sub, xa_mul, pk_div, nm_mod, xa_shr, xa_and7, xa_and1, xa_and255, xa_by_and, nI_m1, Nat.add_sub_cancel, Nat.reducePow, Nat.zero_add, Nat.add_zero, Nat.reduceAdd, Nat.reduceMul, Nat.reduceSub, xf_same, xq_ff, xq_fo, xf_1, xf_2, xs_1, xs_2, xs_same, xq_so, xj_1, xj_2, xj_same, xq_jo, xq_sa1, xq_same, xq_other, upd_s, oI_n, oI_s, xv_0, xv_1, xv_2, xv_3, xm_p1, xm_p2, xq_fp, xq_fn, List.filter_nil, Nat.reduceBEq, Bool.not_true, Bool.not_false, Bool.and_true, Bool.and_false, Bool.false_and, Bool.true_and, if_true, if_false, Bool.false_eq_true, reduceIte, xc_i, xc_j, xc_r, xc_n, List.nil_append, List.cons_append, Option.toList_some, Option.toList_none, nI_ltJ, nI_leJ, nI_eqJ, nI_ltz, nI_gez, nI_gtz, nI_lez, nI_eqz, m1_ltz, m1_gez, true_imp_iff, false_imp_iff, true_and, and_true, ne_eq, not_false_eq_true, not_true_eq_false, Nat.reduceEqDiff, Nat.reduceLT, Nat.reduceLeDiff, xf_102_6 F2, xf_102_25 F2, xf_102_12 F2, e1, e2, e']
      with_reducible refine xm_go_blk b_X12_keepProgram_326 k_X12_keepProgram_326 ?_
      refine by_aload_n rfl ?_
      refine by_aload_n rfl ?_
      refine by_getf cn_244 fl_12_34 (by first | exact rfl | assumption) (by decide) ?_
      refine by_iload_n rfl ?_
      simp (disch := first | exact Nat.ne_of_beq_eq_false rfl | exact rfl | omega) only [nI_add, xa_sub, xa_mul, pk_div, nm_mod, xa_shr, xa_and7, xa_and1, xa_and255, xa_by_and, nI_m1, Nat.add_sub_cancel, Nat.reducePow, Nat.zero_add, Nat.add_zero, Nat.reduceAdd, Nat.reduceMul, Nat.reduceSub, xf_same, xq_ff, xq_fo, xf_1, xf_2, xs_1, xs_2, xs_same, xq_so, xj_1, xj_2, xj_same, xq_jo, xq_sa1, xq_same, xq_other, upd_s, oI_n, oI_s, xf_102_6 F2, xf_102_25 F2, xf_102_12 F2, e1, e2, e']
      first | refine by_iald (by first | exact rfl | assumption | exact ps_1 hpp | exact ps_2 hpp | exact ps_3 hpp | exact ps_4 hpp | exact ps_5 hpp | exact ps_6 hpp | exact ps_7 hpp | exact ps_8 hpp | exact ps_9 hpp | exact ps_10 hpp | exact ps_11 hpp | exact ps_15 hpp | exact ps_16 hpp | exact ps_17 hpp | exact ps_18 hpp | exact ps_19 hpp | exact ps_21 hpp | exact ps_22 hpp | exact ps_23 hpp | exact ps_24 hpp) ⟨by omega, by omega⟩ ?_ | refine by_tald rfl rfl ⟨by omega, by omega⟩ ?_
      simp (disch := first | exact Nat.ne_of_beq_eq_false rfl | exact rfl | omega) only [nI_add, xa_sub, xa_mul, pk_div, nm_mod, xa_shr, xa_and7, xa_and1, xa_and255, xa_by_and, nI_m1, Nat.add_sub_cancel, Nat.reducePow, Nat.zero_add, Nat.add_zero, Nat.reduceAdd, Nat.reduceMul, Nat.reduceSub, xf_same, xq_ff, xq_fo, xf_1, xf_2, xs_1, xs_2, xs_same, xq_so, xj_1, xj_2, xj_same, xq_jo, xq_sa1, xq_same, xq_other, upd_s, oI_n, oI_s, xv_0, xv_1, xv_2, xv_3, xm_p1, xm_p2, xq_fp, xq_fn, List.filter_nil, Nat.reduceBEq, Bool.not_true, Bool.not_false, Bool.and_true, Bool.and_false, Bool.false_and, Bool.true_and, if_true, if_false, Bool.false_eq_true, reduceIte, xc_i, xc_j, xc_r, xc_n, List.nil_append, List.cons_append, Option.toList_some, Option.toList_none, xf_102_6 F2, xf_102_25 F2, xf_102_12 F2, e1, e2, e']
      refine by_inv1 cn_244 lk_12_384 (by rw [xe_cnt]; decide) is_245 np_245 cn_245 (by first | exact rfl | assumption) (Nat.le_of_ble_eq_true rfl) ?_
      refine sp_keptType b1 (by omega) ?_
      with_reducible refine xm_go_blk b_X12_keepProgram_336 k_X12_keepProgram_336 ?_
      refine by_iast (by first | exact rfl | assumption | exact ps_1 hpp | exact ps_2 hpp | exact ps_3 hpp | exact ps_4 hpp | exact ps_5 hpp | exact ps_6 hpp | exact ps_7 hpp | exact ps_8 hpp | exact ps_9 hpp | exact ps_10 hpp | exact ps_11 hpp | exact ps_15 hpp | exact ps_16 hpp | exact ps_17 hpp | exact ps_18 hpp | exact ps_19 hpp | exact ps_21 hpp | exact ps_22 hpp | exact ps_23 hpp | exact ps_24 hpp) ⟨by omega, by omega⟩ ?_
      refine by_aload_n rfl ?_
      refine by_getf cn_244 fl_12_72 (by first | exact rfl | assumption) (by decide) ?_
      refine by_iload_n rfl ?_
      refine by_aload_n rfl ?_
      refine by_getf cn_244 fl_12_16 (by first | exact rfl | assumption) (by decide) ?_
      refine by_iload_n rfl ?_
      simp (disch := first | exact Nat.ne_of_beq_eq_false rfl | exact rfl | omega) only [nI_add, xa_sub, xa_mul, pk_div, nm_mod, xa_shr, xa_and7, xa_and1, xa_and255, xa_by_and, nI_m1, Nat.add_sub_cancel, Nat.reducePow, Nat.zero_add, Nat.add_zero, Nat.reduceAdd, Nat.reduceMul, Nat.reduceSub, xf_same, xq_ff, xq_fo, xf_1, xf_2, xs_1, xs_2, xs_same, xq_so, xj_1, xj_2, xj_same, xq_jo, xq_sa1, xq_same, xq_other, upd_s, oI_n, oI_s, xf_102_6 F2, xf_102_26 F2, xf_102_13 F2, e1, e3, e']
      first | refine by_iald (by first | exact rfl | assumption | exact ps_1 hpp | exact ps_2 hpp | exact ps_3 hpp | exact ps_4 hpp | exact ps_5 hpp | exact ps_6 hpp | exact ps_7 hpp | exact ps_8 hpp | exact ps_9 hpp | exact ps_10 hpp | exact ps_11 hpp | exact ps_15 hpp | exact ps_16 hpp | exact ps_17 hpp | exact ps_18 hpp | exact ps_19 hpp | exact ps_21 hpp | exact ps_22 hpp | exact ps_23 hpp | exact ps_24 hpp) ⟨by omega, by omega⟩ ?_ | refine by_tald rfl rfl ⟨by omega, by omega⟩ ?_
      refine by_bipush cb_11 ?_
      refine by_ic_ne 357 rfl ?_
      simp (disch := first | exact Nat.ne_of_beq_eq_false rfl | exact rfl | omega) only [nI_add, xa_sub, xa_mul, pk_div, nm_mod, xa_shr, xa_and7, xa_and1, xa_and255, xa_by_and, nI_m1, Nat.add_sub_cancel, Nat.reducePow, Nat.zero_add, Nat.add_zero, Nat.reduceAdd, Nat.reduceMul, Nat.reduceSub, xf_same, xq_ff, xq_fo, xf_1, xf_2, xs_1, xs_2, xs_same, xq_so, xj_1, xj_2, xj_same, xq_jo, xq_sa1, xq_same, xq_other, upd_s, oI_n, oI_s, xv_0, xv_1, xv_2, xv_3, xm_p1, xm_p2, xq_fp, xq_fn, List.filter_nil, Nat.reduceBEq, Bool.not_true, Bool.not_false, Bool.and_true, Bool.and_false, Bool.false_and, Bool.true_and, if_true, if_false, Bool.false_eq_true, reduceIte, xc_i, xc_j, xc_r, xc_n, List.nil_append, List.cons_append, Option.toList_some, Option.toList_none, nI_ltJ, nI_leJ, nI_eqJ, nI_ltz, nI_gez, nI_gtz, nI_lez, nI_eqz, m1_ltz, m1_gez, true_imp_iff, false_imp_iff, true_and, and_true, ne_eq, not_false_eq_true, not_true_eq_false, Nat.reduceEqDiff, Nat.reduceLT, Nat.reduceLeDiff, xf_102_6 F2, xf_102_26 F2, xf_102_13 F2, e1, e3, e']
      with_reducible refine xm_go_blk b_X12_keepProgram_357 k_X12_keepProgram_357 ?_
      refine by_aload_n rfl ?_
      refine by_aload_n rfl ?_
      refine by_getf cn_244 fl_12_37 (by first | exact rfl | assumption) (by decide) ?_
      refine by_iload_n rfl ?_
      simp (disch := first | exact Nat.ne_of_beq_eq_false rfl | exact rfl | omega) only [nI_add, xa_sub, xa_mul, pk_div, nm_mod, xa_shr, xa_and7, xa_and1, xa_and255, xa_by_and, nI_m1, Nat.add_sub_cancel, Nat.reducePow, Nat.zero_add, Nat.add_zero, Nat.reduceAdd, Nat.reduceMul, Nat.reduceSub, xf_same, xq_ff, xq_fo, xf_1, xf_2, xs_1, xs_2, xs_same, xq_so, xj_1, xj_2, xj_same, xq_jo, xq_sa1, xq_same, xq_other, upd_s, oI_n, oI_s, xf_102_6 F2, xf_102_26 F2, xf_102_13 F2, e1, e3, e']
      first | refine by_iald (by first | exact rfl | assumption | exact ps_1 hpp | exact ps_2 hpp | exact ps_3 hpp | exact ps_4 hpp | exact ps_5 hpp | exact ps_6 hpp | exact ps_7 hpp | exact ps_8 hpp | exact ps_9 hpp | exact ps_10 hpp | exact ps_11 hpp | exact ps_15 hpp | exact ps_16 hpp | exact ps_17 hpp | exact ps_18 hpp | exact ps_19 hpp | exact ps_21 hpp | exact ps_22 hpp | exact ps_23 hpp | exact ps_24 hpp) ⟨by omega, by omega⟩ ?_ | refine by_tald rfl rfl ⟨by omega, by omega⟩ ?_
      simp (disch := first | exact Nat.ne_of_beq_eq_false rfl | exact rfl | omega) only [nI_add, xa_sub, xa_mul, pk_div, nm_mod, xa_shr, xa_and7, xa_and1, xa_and255, xa_by_and, nI_m1, Nat.add_sub_cancel, Nat.reducePow, Nat.zero_add, Nat.add_zero, Nat.reduceAdd, Nat.reduceMul, Nat.reduceSub, xf_same, xq_ff, xq_fo, xf_1, xf_2, xs_1, xs_2, xs_same, xq_so, xj_1, xj_2, xj_same, xq_jo, xq_sa1, xq_same, xq_other, upd_s, oI_n, oI_s, xv_0, xv_1, xv_2, xv_3, xm_p1, xm_p2, xq_fp, xq_fn, List.filter_nil, Nat.reduceBEq, Bool.not_true, Bool.not_false, Bool.and_true, Bool.and_false, Bool.false_and, Bool.true_and, if_true, if_false, Bool.false_eq_true, reduceIte, xc_i, xc_j, xc_r, xc_n, List.nil_append, List.cons_append, Option.toList_some, Option.toList_none, xf_102_6 F2, xf_102_26 F2, xf_102_13 F2, e1, e3, e']
      refine by_inv1 cn_244 lk_12_384 (by rw [xe_cnt]; decide) is_245 np_245 cn_245 (by first | exact rfl | assumption) (Nat.le_of_ble_eq_true rfl) ?_
      refine sp_keptType b3 (by omega) ?_
      with_reducible refine xm_go_blk b_X12_keepProgram_367 k_X12_keepProgram_367 ?_
      refine by_iast (by first | exact rfl | assumption | exact ps_1 hpp | exact ps_2 hpp | exact ps_3 hpp | exact ps_4 hpp | exact ps_5 hpp | exact ps_6 hpp | exact ps_7 hpp | exact ps_8 hpp | exact ps_9 hpp | exact ps_10 hpp | exact ps_11 hpp | exact ps_15 hpp | exact ps_16 hpp | exact ps_17 hpp | exact ps_18 hpp | exact ps_19 hpp | exact ps_21 hpp | exact ps_22 hpp | exact ps_23 hpp | exact ps_24 hpp) ⟨by omega, by omega⟩ ?_
      refine by_aload_n rfl ?_
      refine by_iload_n rfl ?_
      refine by_inv1 cn_244 lk_12_390 (by rw [xe_cnt]; decide) is_288 np_288 cn_288 (by first | exact rfl | assumption) (Nat.le_of_ble_eq_true rfl) ?_
      refine fin _ _ (fun z => absurd z e) (fun _ => ⟨i - 3200, j - 3200, by omega, by omega, rfl, by rw [show i - 3200 + 3200 = i by omega]; exact b6, rfl, by rw [show j - 3200 + 3200 = j by omega]; exact b8⟩) _ (fun h4 hM => ?_)
      exact xm_go_wk (by simp [Value.category]) (hgo h4 hM)
  with_reducible refine xm_go_blk b_X12_keepProgram_195 k_X12_keepProgram_195 ?_
  refine by_aload_n rfl ?_
  refine by_getf cn_244 fl_12_54 (by first | exact rfl | assumption) (by decide) ?_
  refine by_iload_n rfl ?_
  refine by_aload_n rfl ?_
  refine by_getf cn_244 fl_12_16 (by first | exact rfl | assumption) (by decide) ?_
  refine by_iload_n rfl ?_
  simp (disch := first | exact Nat.ne_of_beq_eq_false rfl | exact rfl | omega) only [nI_add, xa_sub, xa_mul, pk_div, nm_mod, xa_shr, xa_and7, xa_and1, xa_and255, xa_by_and, nI_m1, Nat.add_sub_cancel, Nat.reducePow, Nat.zero_add, Nat.add_zero, Nat.reduceAdd, Nat.reduceMul, Nat.reduceSub, xf_same, xq_ff, xq_fo, xf_1, xf_2, xs_1, xs_2, xs_same, xq_so, xj_1, xj_2, xj_same, xq_jo, xq_sa1, xq_same, xq_other, upd_s, oI_n, oI_s, xf_102_6 F1, xf_102_7 F1, xf_102_8 F1, xf_102_9 F1, xf_102_68 F1, xf_102_69 F1, xf_102_20 F1, xf_102_21 F1, xf_102_22 F1, xf_102_23 F1, g1, g2, g3, g4, g5]
  first | refine by_iald (by first | exact rfl | assumption | exact ps_1 hpp | exact ps_2 hpp | exact ps_3 hpp | exact ps_4 hpp | exact ps_5 hpp | exact ps_6 hpp | exact ps_7 hpp | exact ps_8 hpp | exact ps_9 hpp | exact ps_10 hpp | exact ps_11 hpp | exact ps_15 hpp | exact ps_16 hpp | exact ps_17 hpp | exact ps_18 hpp | exact ps_19 hpp | exact ps_21 hpp | exact ps_22 hpp | exact ps_23 hpp | exact ps_24 hpp) ⟨by omega, by omega⟩ ?_ | refine by_tald rfl rfl ⟨by omega, by omega⟩ ?_
  refine by_iast (by first | exact rfl | assumption | exact ps_1 hpp | exact ps_2 hpp | exact ps_3 hpp | exact ps_4 hpp | exact ps_5 hpp | exact ps_6 hpp | exact ps_7 hpp | exact ps_8 hpp | exact ps_9 hpp | exact ps_10 hpp | exact ps_11 hpp | exact ps_15 hpp | exact ps_16 hpp | exact ps_17 hpp | exact ps_18 hpp | exact ps_19 hpp | exact ps_21 hpp | exact ps_22 hpp | exact ps_23 hpp | exact ps_24 hpp) ⟨by omega, by omega⟩ ?_
  refine by_aload_n rfl ?_
  refine by_getf cn_244 fl_12_57 (by first | exact rfl | assumption) (by decide) ?_
  refine by_iload_n rfl ?_
  refine by_aload_n rfl ?_
  refine by_getf cn_244 fl_12_19 (by first | exact rfl | assumption) (by decide) ?_
  refine by_iload_n rfl ?_
  simp (disch := first | exact Nat.ne_of_beq_eq_false rfl | exact rfl | omega) only [nI_add, xa_sub, xa_mul, pk_div, nm_mod, xa_shr, xa_and7, xa_and1, xa_and255, xa_by_and, nI_m1, Nat.add_sub_cancel, Nat.reducePow, Nat.zero_add, Nat.add_zero, Nat.reduceAdd, Nat.reduceMul, Nat.reduceSub, xf_same, xq_ff, xq_fo, xf_1, xf_2, xs_1, xs_2, xs_same, xq_so, xj_1, xj_2, xj_same, xq_jo, xq_sa1, xq_same, xq_other, upd_s, oI_n, oI_s, xf_102_6 F1, xf_102_7 F1, xf_102_8 F1, xf_102_9 F1, xf_102_68 F1, xf_102_69 F1, xf_102_20 F1, xf_102_21 F1, xf_102_22 F1, xf_102_23 F1, g1, g2, g3, g4, g5]
  first | refine by_iald (by first | exact rfl | assumption | exact ps_1 hpp | exact ps_2 hpp | exact ps_3 hpp | exact ps_4 hpp | exact ps_5 hpp | exact ps_6 hpp | exact ps_7 hpp | exact ps_8 hpp | exact ps_9 hpp | exact ps_10 hpp | exact ps_11 hpp | exact ps_15 hpp | exact ps_16 hpp | exact ps_17 hpp | exact ps_18 hpp | exact ps_19 hpp | exact ps_21 hpp | exact ps_22 hpp | exact ps_23 hpp | exact ps_24 hpp) ⟨by omega, by omega⟩ ?_ | refine by_tald rfl rfl ⟨by omega, by omega⟩ ?_
  refine by_iast (by first | exact rfl | assumption | exact ps_1 hpp | exact ps_2 hpp | exact ps_3 hpp | exact ps_4 hpp | exact ps_5 hpp | exact ps_6 hpp | exact ps_7 hpp | exact ps_8 hpp | exact ps_9 hpp | exact ps_10 hpp | exact ps_11 hpp | exact ps_15 hpp | exact ps_16 hpp | exact ps_17 hpp | exact ps_18 hpp | exact ps_19 hpp | exact ps_21 hpp | exact ps_22 hpp | exact ps_23 hpp | exact ps_24 hpp) ⟨by omega, by omega⟩ ?_
  refine by_aload_n rfl ?_
  refine by_getf cn_244 fl_12_60 (by first | exact rfl | assumption) (by decide) ?_
  refine by_iload_n rfl ?_
  refine by_aload_n rfl ?_
  refine by_getf cn_244 fl_12_22 (by first | exact rfl | assumption) (by decide) ?_
  refine by_iload_n rfl ?_
  simp (disch := first | exact Nat.ne_of_beq_eq_false rfl | exact rfl | omega) only [nI_add, xa_sub, xa_mul, pk_div, nm_mod, xa_shr, xa_and7, xa_and1, xa_and255, xa_by_and, nI_m1, Nat.add_sub_cancel, Nat.reducePow, Nat.zero_add, Nat.add_zero, Nat.reduceAdd, Nat.reduceMul, Nat.reduceSub, xf_same, xq_ff, xq_fo, xf_1, xf_2, xs_1, xs_2, xs_same, xq_so, xj_1, xj_2, xj_same, xq_jo, xq_sa1, xq_same, xq_other, upd_s, oI_n, oI_s, xf_102_6 F1, xf_102_7 F1, xf_102_8 F1, xf_102_9 F1, xf_102_68 F1, xf_102_69 F1, xf_102_20 F1, xf_102_21 F1, xf_102_22 F1, xf_102_23 F1, g1, g2, g3, g4, g5]
  first | refine by_iald (by first | exact rfl | assumption | exact ps_1 hpp | exact ps_2 hpp | exact ps_3 hpp | exact ps_4 hpp | exact ps_5 hpp | exact ps_6 hpp | exact ps_7 hpp | exact ps_8 hpp | exact ps_9 hpp | exact ps_10 hpp | exact ps_11 hpp | exact ps_15 hpp | exact ps_16 hpp | exact ps_17 hpp | exact ps_18 hpp | exact ps_19 hpp | exact ps_21 hpp | exact ps_22 hpp | exact ps_23 hpp | exact ps_24 hpp) ⟨by omega, by omega⟩ ?_ | refine by_tald rfl rfl ⟨by omega, by omega⟩ ?_
  refine by_iast (by first | exact rfl | assumption | exact ps_1 hpp | exact ps_2 hpp | exact ps_3 hpp | exact ps_4 hpp | exact ps_5 hpp | exact ps_6 hpp | exact ps_7 hpp | exact ps_8 hpp | exact ps_9 hpp | exact ps_10 hpp | exact ps_11 hpp | exact ps_15 hpp | exact ps_16 hpp | exact ps_17 hpp | exact ps_18 hpp | exact ps_19 hpp | exact ps_21 hpp | exact ps_22 hpp | exact ps_23 hpp | exact ps_24 hpp) ⟨by omega, by omega⟩ ?_
  refine by_aload_n rfl ?_
  refine by_getf cn_244 fl_12_63 (by first | exact rfl | assumption) (by decide) ?_
  refine by_iload_n rfl ?_
  refine by_aload_n rfl ?_
  refine by_getf cn_244 fl_12_25 (by first | exact rfl | assumption) (by decide) ?_
  refine by_iload_n rfl ?_
  simp (disch := first | exact Nat.ne_of_beq_eq_false rfl | exact rfl | omega) only [nI_add, xa_sub, xa_mul, pk_div, nm_mod, xa_shr, xa_and7, xa_and1, xa_and255, xa_by_and, nI_m1, Nat.add_sub_cancel, Nat.reducePow, Nat.zero_add, Nat.add_zero, Nat.reduceAdd, Nat.reduceMul, Nat.reduceSub, xf_same, xq_ff, xq_fo, xf_1, xf_2, xs_1, xs_2, xs_same, xq_so, xj_1, xj_2, xj_same, xq_jo, xq_sa1, xq_same, xq_other, upd_s, oI_n, oI_s, xf_102_6 F1, xf_102_7 F1, xf_102_8 F1, xf_102_9 F1, xf_102_68 F1, xf_102_69 F1, xf_102_20 F1, xf_102_21 F1, xf_102_22 F1, xf_102_23 F1, g1, g2, g3, g4, g5]
  first | refine by_iald (by first | exact rfl | assumption | exact ps_1 hpp | exact ps_2 hpp | exact ps_3 hpp | exact ps_4 hpp | exact ps_5 hpp | exact ps_6 hpp | exact ps_7 hpp | exact ps_8 hpp | exact ps_9 hpp | exact ps_10 hpp | exact ps_11 hpp | exact ps_15 hpp | exact ps_16 hpp | exact ps_17 hpp | exact ps_18 hpp | exact ps_19 hpp | exact ps_21 hpp | exact ps_22 hpp | exact ps_23 hpp | exact ps_24 hpp) ⟨by omega, by omega⟩ ?_ | refine by_tald rfl rfl ⟨by omega, by omega⟩ ?_
  refine by_iast (by first | exact rfl | assumption | exact ps_1 hpp | exact ps_2 hpp | exact ps_3 hpp | exact ps_4 hpp | exact ps_5 hpp | exact ps_6 hpp | exact ps_7 hpp | exact ps_8 hpp | exact ps_9 hpp | exact ps_10 hpp | exact ps_11 hpp | exact ps_15 hpp | exact ps_16 hpp | exact ps_17 hpp | exact ps_18 hpp | exact ps_19 hpp | exact ps_21 hpp | exact ps_22 hpp | exact ps_23 hpp | exact ps_24 hpp) ⟨by omega, by omega⟩ ?_
  refine by_aload_n rfl ?_
  refine by_getf cn_244 fl_12_163 (by first | exact rfl | assumption) (by decide) ?_
  refine by_iload_n rfl ?_
  refine by_aload_n rfl ?_
  refine by_getf cn_244 fl_12_160 (by first | exact rfl | assumption) (by decide) ?_
  refine by_iload_n rfl ?_
  simp (disch := first | exact Nat.ne_of_beq_eq_false rfl | exact rfl | omega) only [nI_add, xa_sub, xa_mul, pk_div, nm_mod, xa_shr, xa_and7, xa_and1, xa_and255, xa_by_and, nI_m1, Nat.add_sub_cancel, Nat.reducePow, Nat.zero_add, Nat.add_zero, Nat.reduceAdd, Nat.reduceMul, Nat.reduceSub, xf_same, xq_ff, xq_fo, xf_1, xf_2, xs_1, xs_2, xs_same, xq_so, xj_1, xj_2, xj_same, xq_jo, xq_sa1, xq_same, xq_other, upd_s, oI_n, oI_s, xf_102_6 F1, xf_102_7 F1, xf_102_8 F1, xf_102_9 F1, xf_102_68 F1, xf_102_69 F1, xf_102_20 F1, xf_102_21 F1, xf_102_22 F1, xf_102_23 F1, g1, g2, g3, g4, g5]
  first | refine by_iald (by first | exact rfl | assumption | exact ps_1 hpp | exact ps_2 hpp | exact ps_3 hpp | exact ps_4 hpp | exact ps_5 hpp | exact ps_6 hpp | exact ps_7 hpp | exact ps_8 hpp | exact ps_9 hpp | exact ps_10 hpp | exact ps_11 hpp | exact ps_15 hpp | exact ps_16 hpp | exact ps_17 hpp | exact ps_18 hpp | exact ps_19 hpp | exact ps_21 hpp | exact ps_22 hpp | exact ps_23 hpp | exact ps_24 hpp) ⟨by omega, by omega⟩ ?_ | refine by_tald rfl rfl ⟨by omega, by omega⟩ ?_
  refine by_iast (by first | exact rfl | assumption | exact ps_1 hpp | exact ps_2 hpp | exact ps_3 hpp | exact ps_4 hpp | exact ps_5 hpp | exact ps_6 hpp | exact ps_7 hpp | exact ps_8 hpp | exact ps_9 hpp | exact ps_10 hpp | exact ps_11 hpp | exact ps_15 hpp | exact ps_16 hpp | exact ps_17 hpp | exact ps_18 hpp | exact ps_19 hpp | exact ps_21 hpp | exact ps_22 hpp | exact ps_23 hpp | exact ps_24 hpp) ⟨by omega, by omega⟩ ?_
  refine by_iconst ci_0 ?_
  refine by_istore_n (by rw [ml_244]; decide) ?_
  refine by_nil ?_
  simp (disch := first | exact Nat.ne_of_beq_eq_false rfl | exact rfl | omega) only [nI_add, xa_sub, xa_mul, pk_div, nm_mod, xa_shr, xa_and7, xa_and1, xa_and255, xa_by_and, nI_m1, Nat.add_sub_cancel, Nat.reducePow, Nat.zero_add, Nat.add_zero, Nat.reduceAdd, Nat.reduceMul, Nat.reduceSub, xf_same, xq_ff, xq_fo, xf_1, xf_2, xs_1, xs_2, xs_same, xq_so, xj_1, xj_2, xj_same, xq_jo, xq_sa1, xq_same, xq_other, upd_s, oI_n, oI_s, xv_0, xv_1, xv_2, xv_3, xm_p1, xm_p2, xq_fp, xq_fn, List.filter_nil, Nat.reduceBEq, Bool.not_true, Bool.not_false, Bool.and_true, Bool.and_false, Bool.false_and, Bool.true_and, if_true, if_false, Bool.false_eq_true, reduceIte, xc_i, xc_j, xc_r, xc_n, List.nil_append, List.cons_append, Option.toList_some, Option.toList_none, xf_102_6 F1, xf_102_7 F1, xf_102_8 F1, xf_102_9 F1, xf_102_68 F1, xf_102_69 F1, xf_102_20 F1, xf_102_21 F1, xf_102_22 F1, xf_102_23 F1, g1, g2, g3, g4, g5]
  refine xm_go_wk (by simp [Value.category]) (kn_257 (n := n) (ps := ps) (Fr_XF F1 fr5 (by decide +kernel)) (by omega) (by rw [fr5.1 105 (by simp)]; exact g1) o1 (fun z k hk => by rw [fr5.1 110 (by simp), m1.1 110 (by simp [knR])]; exact c5 z k hk) rest 8 0 _ rfl Fr_rf (fun k hk => absurd hk (by omega)) (fun _ _ => rfl))
theorem kn_187 (hS : knS h ps S T b cn tr) (hW : ∀ i, i + 3200 < cn → h.1 132 i = nI (min 4096 (ty_w (tr (i + 3200))))) (hw : ∀ m, m < ps.length → pC ps m ≠ 11 → ty_w (S m) ≤ 2048 ∧ ty_w (T m) ≤ 2048) (hv : ∀ m, m < ps.length → pC ps m = 0 → ∀ x, p1 ps m = some x → pC ps x ≠ 11)
    (hp : ∀ h', knI h h' ps S T b cn tr ps.length → post none h') :
    ∀ (j n : Nat) (h' : xm_H), n + j = ps.length → knI h h' ps S T b cn tr n → xm_go (XE sc) (xm_T (XE sc) (d + 4)) 244 post 187 [(1, .int (nI n)), (0, .ref 102)] [] h' := by
  have h400 := hS.2.2.1
  intro j
  induction j with
  | zero =>
    intro n h' hn hI
    have : n = ps.length := by omega
    subst this
    have e2 : h'.2.2 102 5 = .int (nI ps.length) := by rw [hI.1.2.2 _ _ (by simp)]; exact hS.2.2.2.1
    with_reducible refine xm_go_blk b_X12_keepProgram_187 k_X12_keepProgram_187 ?_
    refine by_iload_n rfl ?_
    refine by_aload_n rfl ?_
    refine by_getf cn_244 fl_12_223 (by first | exact rfl | assumption) (by decide) ?_
    simp (disch := first | exact Nat.ne_of_beq_eq_false rfl | exact rfl | omega) only [nI_add, xa_sub, xa_mul, pk_div, nm_mod, xa_shr, xa_and7, xa_and1, xa_and255, xa_by_and, nI_m1, Nat.add_sub_cancel, Nat.reducePow, Nat.zero_add, Nat.add_zero, Nat.reduceAdd, Nat.reduceMul, Nat.reduceSub, xf_same, xq_ff, xq_fo, xf_1, xf_2, xs_1, xs_2, xs_same, xq_so, xj_1, xj_2, xj_same, xq_jo, xq_sa1, xq_same, xq_other, upd_s, oI_n, oI_s, e2]
    refine by_ic_ge 384 rfl ?_
    simp (disch := first | exact Nat.ne_of_beq_eq_false rfl | exact rfl | omega) only [nI_add, xa_sub, xa_mul, pk_div, nm_mod, xa_shr, xa_and7, xa_and1, xa_and255, xa_by_and, nI_m1, Nat.add_sub_cancel, Nat.reducePow, Nat.zero_add, Nat.add_zero, Nat.reduceAdd, Nat.reduceMul, Nat.reduceSub, xf_same, xq_ff, xq_fo, xf_1, xf_2, xs_1, xs_2, xs_same, xq_so, xj_1, xj_2, xj_same, xq_jo, xq_sa1, xq_same, xq_other, upd_s, oI_n, oI_s, xv_0, xv_1, xv_2, xv_3, xm_p1, xm_p2, xq_fp, xq_fn, List.filter_nil, Nat.reduceBEq, Bool.not_true, Bool.not_false, Bool.and_true, Bool.and_false, Bool.false_and, Bool.true_and, if_true, if_false, Bool.false_eq_true, reduceIte, xc_i, xc_j, xc_r, xc_n, List.nil_append, List.cons_append, Option.toList_some, Option.toList_none, nI_ltJ, nI_leJ, nI_eqJ, nI_ltz, nI_gez, nI_gtz, nI_lez, nI_eqz, m1_ltz, m1_gez, true_imp_iff, false_imp_iff, true_and, and_true, ne_eq, not_false_eq_true, not_true_eq_false, Nat.reduceEqDiff, Nat.reduceLT, Nat.reduceLeDiff, e2]
    refine ⟨fun c187 => ?_, fun c => absurd (by omega) c⟩
    with_reducible refine xm_go_blk b_X12_keepProgram_384 k_X12_keepProgram_384 ?_
    refine by_ret ry_244 ?_
    exact hp h' hI
  | succ j ih =>
    intro n h' hn hI
    have e2 : h'.2.2 102 5 = .int (nI ps.length) := by rw [hI.1.2.2 _ _ (by simp)]; exact hS.2.2.2.1
    with_reducible refine xm_go_blk b_X12_keepProgram_187 k_X12_keepProgram_187 ?_
    refine by_iload_n rfl ?_
    refine by_aload_n rfl ?_
    refine by_getf cn_244 fl_12_223 (by first | exact rfl | assumption) (by decide) ?_
    simp (disch := first | exact Nat.ne_of_beq_eq_false rfl | exact rfl | omega) only [nI_add, xa_sub, xa_mul, pk_div, nm_mod, xa_shr, xa_and7, xa_and1, xa_and255, xa_by_and, nI_m1, Nat.add_sub_cancel, Nat.reducePow, Nat.zero_add, Nat.add_zero, Nat.reduceAdd, Nat.reduceMul, Nat.reduceSub, xf_same, xq_ff, xq_fo, xf_1, xf_2, xs_1, xs_2, xs_same, xq_so, xj_1, xj_2, xj_same, xq_jo, xq_sa1, xq_same, xq_other, upd_s, oI_n, oI_s, e2]
    refine by_ic_ge 384 rfl ?_
    simp (disch := first | exact Nat.ne_of_beq_eq_false rfl | exact rfl | omega) only [nI_add, xa_sub, xa_mul, pk_div, nm_mod, xa_shr, xa_and7, xa_and1, xa_and255, xa_by_and, nI_m1, Nat.add_sub_cancel, Nat.reducePow, Nat.zero_add, Nat.add_zero, Nat.reduceAdd, Nat.reduceMul, Nat.reduceSub, xf_same, xq_ff, xq_fo, xf_1, xf_2, xs_1, xs_2, xs_same, xq_so, xj_1, xj_2, xj_same, xq_jo, xq_sa1, xq_same, xq_other, upd_s, oI_n, oI_s, xv_0, xv_1, xv_2, xv_3, xm_p1, xm_p2, xq_fp, xq_fn, List.filter_nil, Nat.reduceBEq, Bool.not_true, Bool.not_false, Bool.and_true, Bool.and_false, Bool.false_and, Bool.true_and, if_true, if_false, Bool.false_eq_true, reduceIte, xc_i, xc_j, xc_r, xc_n, List.nil_append, List.cons_append, Option.toList_some, Option.toList_none, nI_ltJ, nI_leJ, nI_eqJ, nI_ltz, nI_gez, nI_gtz, nI_lez, nI_eqz, m1_ltz, m1_gez, true_imp_iff, false_imp_iff, true_and, and_true, ne_eq, not_false_eq_true, not_true_eq_false, Nat.reduceEqDiff, Nat.reduceLT, Nat.reduceLeDiff, e2]
    refine ⟨fun c => absurd c (by omega), fun c187 => ?_⟩
    exact xm_go_wk (by simp [Value.category]) (kn_1 hS (by omega) hI (fun h2 hM => kn_373 hS (by omega) hW hw hv hM (fun h3 hI3 => ih (n + 1) h3 (by omega) hI3)))
end KN
