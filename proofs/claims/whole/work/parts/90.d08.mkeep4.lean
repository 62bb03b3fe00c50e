/-! ===== the reference: keepProgram whole; its load whole ===== -/
/-- the shape of a table of types that are kept -/
def kyF (cn : Nat) (tr : Nat → Ty) (K L R : Nat → Nat) : Prop := 3201 ≤ cn ∧ cn ≤ 6400 ∧ (∀ i, 3200 ≤ i → i < cn → tsh i (K i) (L i) (R i) ∧ (1 ≤ K i → 3200 ≤ L i ∧ 3200 ≤ R i) ∧ (i = 3200 ↔ K i = 0) ∧ tr i = tsv tr (K i) (L i) (R i) ∧ ty_ok (tr i)) ∧ ∀ i j, 3200 ≤ i → i < cn → 3200 ≤ j → j < cn → tr i = tr j → i = j
/-- a program that is loaded, in the reference's rows -/
def PK (h : xm_H) (l : List Nat) (ps : List pr_D) (a : Nat) (S T : Nat → Ty) : Prop :=
  psOK ps ∧ 1 ≤ ps.length ∧ ps.length ≤ 400 ∧ LdG l ps a 0 S T ∧ pr_prog (by_bit l) (8 * l.length) = .ok (ps, a) ∧ h.2.2 102 19 = .int (nI ps.length) ∧ h.2.2 102 32 = .int (nI l.length) ∧ mrow h 128 l ∧ ∃ k b, pr_nat (by_bit l) (8 * l.length) a = .ok (k, b) ∧ h.2.2 102 33 = .int (nI (k - 1)) ∧
  ∃ (cn : Nat) (tr : Nat → Ty) (K L R : Nat → Nat), kyF cn tr K L R ∧ (∀ y, y + 3200 < cn → kyE h tr K L R y) ∧ (∀ m, m < ps.length → knE h ps S T b cn tr m) ∧ (∃ Q, rtA ps Q ps.length ∧ ∀ m, m < ps.length → ∀ k, k < 8 → h.1 124 (8 * m + k) = Q m k) ∧ ∃ C F G, bnd ps S T C F G ps.length ∧ kbV h ps.length C F G
def kpR : List Nat := [117, 118, 119, 120, 121, 122, 123, 124, 125, 126, 127, 128, 129, 130, 131, 132, 133, 134, 137, 148, 149, 150, 152]
def kpF : List (Nat × Nat) := [(102, 19), (102, 32)]
theorem kp_fin : xt_fin.all (fun q => !(kpF.contains (q.1, q.2.1))) = true := by decide +kernel
section KP
variable {sc : xm_Sc} {d a : Nat} {ps : List pr_D} {S T : Nat → Ty} {l : List Nat} {h : xm_H} {post : xm_Po}
theorem sp_keepProgram (hF : XF h) (hl : mrow h 103 l) (ht : h.2.2 102 2 = .int (nI l.length)) (hP : PM h l ps a S T) (hG : LdG l ps a 0 S T) (hpr : pr_prog (by_bit l) (8 * l.length) = .ok (ps, a))
    (hp : ∀ h', Fr kpR kpF h h' → PK h' l ps a S T → post none h') : xm_T (XE sc) (d + 5) 244 [.ref 102] h post := by
  obtain ⟨ho, hN1, hN2, e5, hM, ⟨k, b, b1, b2, b3⟩, cn, tr, K, L, R, hcn, hT, hY⟩ := hP
  obtain ⟨z1, z2, z3, z4, z5⟩ := LdG_0 hG
  refine xq_in rfl ?_
  simp only [xq_a0, xq_aI, xq_aJ, xq_aR, Nat.reduceAdd]
  with_reducible refine xm_go_blk b_X12_keepProgram_0 k_X12_keepProgram_0 ?_
  refine by_aload_n rfl ?_
  refine by_aload_n rfl ?_
  refine by_getf cn_244 fl_12_223 (by first | exact rfl | assumption) (by decide) ?_
  simp (disch := first | exact Nat.ne_of_beq_eq_false rfl | exact rfl | omega) only [nI_add, xa_sub, xa_mul, pk_div, nm_mod, xa_shr, xa_and7, xa_and1, xa_and255, xa_by_and, nI_m1, Nat.add_sub_cancel, Nat.reducePow, Nat.zero_add, Nat.add_zero, Nat.reduceAdd, Nat.reduceMul, Nat.reduceSub, xf_same, xq_ff, xq_fo, xf_1, xf_2, xs_1, xs_2, xs_same, xq_so, xj_1, xj_2, xj_same, xq_jo, xq_sa1, xq_same, xq_other, upd_s, oI_n, oI_s, e5, ht]
  refine by_putf cn_244 fl_12_378 (by first | exact rfl | assumption) (by decide) nf_12_19 ft_12_19 (by first | rfl | assumption) (by first | rfl | assumption) ?_
  refine by_aload_n rfl ?_
  refine by_aload_n rfl ?_
  refine by_getf cn_244 fl_12_215 (by first | exact rfl | assumption) (by decide) ?_
  simp (disch := first | exact Nat.ne_of_beq_eq_false rfl | exact rfl | omega) only [nI_add, xa_sub, xa_mul, pk_div, nm_mod, xa_shr, xa_and7, xa_and1, xa_and255, xa_by_and, nI_m1, Nat.add_sub_cancel, Nat.reducePow, Nat.zero_add, Nat.add_zero, Nat.reduceAdd, Nat.reduceMul, Nat.reduceSub, xf_same, xq_ff, xq_fo, xf_1, xf_2, xs_1, xs_2, xs_same, xq_so, xj_1, xj_2, xj_same, xq_jo, xq_sa1, xq_same, xq_other, upd_s, oI_n, oI_s, e5, ht]
  refine by_putf cn_244 fl_12_381 (by first | exact rfl | assumption) (by decide) nf_12_32 ft_12_32 (by first | rfl | assumption) (by first | rfl | assumption) ?_
  refine by_iconst ci_0 ?_
  refine by_istore_n (by rw [ml_244]; decide) ?_
  refine by_nil ?_
  simp (disch := first | exact Nat.ne_of_beq_eq_false rfl | exact rfl | omega) only [nI_add, xa_sub, xa_mul, pk_div, nm_mod, xa_shr, xa_and7, xa_and1, xa_and255, xa_by_and, nI_m1, Nat.add_sub_cancel, Nat.reducePow, Nat.zero_add, Nat.add_zero, Nat.reduceAdd, Nat.reduceMul, Nat.reduceSub, xf_same, xq_ff, xq_fo, xf_1, xf_2, xs_1, xs_2, xs_same, xq_so, xj_1, xj_2, xj_same, xq_jo, xq_sa1, xq_same, xq_other, upd_s, oI_n, oI_s, xv_0, xv_1, xv_2, xv_3, xm_p1, xm_p2, xq_fp, xq_fn, List.filter_nil, Nat.reduceBEq, Bool.not_true, Bool.not_false, Bool.and_true, Bool.and_false, Bool.false_and, Bool.true_and, if_true, if_false, Bool.false_eq_true, reduceIte, xc_i, xc_j, xc_r, xc_n, List.nil_append, List.cons_append, Option.toList_some, Option.toList_none, e5, ht]
  have f1 : Fr [] kpF h (xm_sf (xm_sf h 102 19 (.int (nI ps.length))) 102 32 (.int (nI l.length))) := Fr_sf (Fr_sf Fr_rf (by simp [kpF])) (by simp [kpF])
  have F1 : XF (xm_sf (xm_sf h 102 19 (.int (nI ps.length))) 102 32 (.int (nI l.length))) := Fr_XF hF f1 kp_fin
  have y19 : (xm_sf (xm_sf h 102 19 (.int (nI ps.length))) 102 32 (.int (nI l.length))).2.2 102 19 = .int (nI ps.length) := by simp [xm_sf, updV]
  have y32 : (xm_sf (xm_sf h 102 19 (.int (nI ps.length))) 102 32 (.int (nI l.length))).2.2 102 32 = .int (nI l.length) := by simp [xm_sf, updV]
  refine xm_go_wk (by simp [Value.category]) (kp_18 (d := d) (l := l) F1 ⟨hl.1, hl.2⟩ (by rw [f1.2.2 _ _ (by simp [kpF])]; exact ht) (fun h2 f2 hr2 => ?_) l.length 0 _ (by omega) Fr_rf (fun k hk => absurd hk (by omega)))
  have f12 : Fr [128] kpF h h2 := Fr_tr (Fr_mo f1 (by simp) (fun _ z => z)) f2 (by simp) (by simp)
  have F2 : XF h2 := Fr_XF F1 f2 (by decide +kernel)
  have hT2 : mtT h2 cn tr K L R := mtT_fr hT f12 (by simp [kpF]) (by simp [mtR])
  have hrun := ky_48 (sc := sc) (d := d) (post := post) F2 hT2 hcn (fun h3 hI3 => ?_) (cn - 3200) 0 h2 (by have := hT.2.1; omega) ⟨Fr_rf, fun _ _ _ _ _ => rfl, fun y hy => absurd hy (by omega)⟩
  · rw [Nat.zero_add] at hrun
    with_reducible refine xm_go_blk b_X12_keepProgram_44 k_X12_keepProgram_44 ?_
    refine by_sipush cs_3200 ?_
    refine by_istore_n (by rw [ml_244]; decide) ?_
    refine by_nil ?_
    simp (disch := first | exact Nat.ne_of_beq_eq_false rfl | exact rfl | omega) only [nI_add, xa_sub, xa_mul, pk_div, nm_mod, xa_shr, xa_and7, xa_and1, xa_and255, xa_by_and, nI_m1, Nat.add_sub_cancel, Nat.reducePow, Nat.zero_add, Nat.add_zero, Nat.reduceAdd, Nat.reduceMul, Nat.reduceSub, xf_same, xq_ff, xq_fo, xf_1, xf_2, xs_1, xs_2, xs_same, xq_so, xj_1, xj_2, xj_same, xq_jo, xq_sa1, xq_same, xq_other, upd_s, oI_n, oI_s, xv_0, xv_1, xv_2, xv_3, xm_p1, xm_p2, xq_fp, xq_fn, List.filter_nil, Nat.reduceBEq, Bool.not_true, Bool.not_false, Bool.and_true, Bool.and_false, Bool.false_and, Bool.true_and, if_true, if_false, Bool.false_eq_true, reduceIte, xc_i, xc_j, xc_r, xc_n, List.nil_append, List.cons_append, Option.toList_some, Option.toList_none]
    exact xm_go_wk (by simp [Value.category]) hrun
  · obtain ⟨f3, _, k3⟩ := hI3
    have F3 : XF h3 := Fr_XF F2 f3 (by decide +kernel)
    have f13 : Fr [128, 129, 130, 131, 132, 133, 134, 137, 148, 149, 150] kpF h h3 := Fr_tr (Fr_mo f12 (by simp) (fun _ z => z)) f3 (by simp [kyR]) (by simp)
    have hS : knS h3 ps S T b cn tr := ⟨F3, ho, hN2, by rw [f13.2.2 _ _ (by simp [kpF])]; exact e5, ndM_fr hM f13 (by simp) (by simp) (by simp) (by simp) (by simp), fun m hm => by rw [f13.1 151 (by simp)]; exact b3 m hm, fun n hn hv => by rw [f13.1 111 (by simp), f13.1 112 (by simp)]; exact hY n hn hv, hcn⟩
    with_reducible refine xm_go_blk b_X12_keepProgram_185 k_X12_keepProgram_185 ?_
    refine by_iconst ci_0 ?_
    refine by_istore_n (by rw [ml_244]; decide) ?_
    refine by_nil ?_
    simp (disch := first | exact Nat.ne_of_beq_eq_false rfl | exact rfl | omega) only [nI_add, xa_sub, xa_mul, pk_div, nm_mod, xa_shr, xa_and7, xa_and1, xa_and255, xa_by_and, nI_m1, Nat.add_sub_cancel, Nat.reducePow, Nat.zero_add, Nat.add_zero, Nat.reduceAdd, Nat.reduceMul, Nat.reduceSub, xf_same, xq_ff, xq_fo, xf_1, xf_2, xs_1, xs_2, xs_same, xq_so, xj_1, xj_2, xj_same, xq_jo, xq_sa1, xq_same, xq_other, upd_s, oI_n, oI_s, xv_0, xv_1, xv_2, xv_3, xm_p1, xm_p2, xq_fp, xq_fn, List.filter_nil, Nat.reduceBEq, Bool.not_true, Bool.not_false, Bool.and_true, Bool.and_false, Bool.false_and, Bool.true_and, if_true, if_false, Bool.false_eq_true, reduceIte, xc_i, xc_j, xc_r, xc_n, List.nil_append, List.cons_append, Option.toList_some, Option.toList_none]
    refine xm_go_wk (by simp [Value.category]) (kn_187 hS (fun i hi => (k3 i (by omega)).2.2.1) (fun m hm hv => ⟨?_, ?_⟩) (fun m hm q x hx => (nb7 z2 hm (by omega)).1 x hx) (fun h4 hI4 => ?_) ps.length 0 h3 (by omega) ⟨Fr_rf, fun m hm => absurd hm (by omega), ⟨fun _ _ => 0, fun m hm => absurd hm (by omega), fun m hm => absurd hm (by omega)⟩, fun _ => 0, fun _ => 0, fun _ => 0, fun m hm => absurd hm (by omega), fun m hm => absurd hm (by omega)⟩)
    · refine Classical.byContradiction fun z => z4 ⟨m, List.mem_range.mpr hm, hv, Or.inl (by omega)⟩
    · refine Classical.byContradiction fun z => z4 ⟨m, List.mem_range.mpr hm, hv, Or.inr (by omega)⟩
    · obtain ⟨f4, r1, r2, r3⟩ := hI4
      refine hp h4 (Fr_tr (Fr_mo f13 (by simp [kpR]) (fun _ z => z)) f4 (by simp [knR, kpR]) (by simp)) ⟨ho, hN1, hN2, hG, hpr, ?_, ?_, ⟨fun i hi => ?_, hr2.2⟩, k, b, b1, ?_, cn, tr, K, L, R, ⟨hT.2.1, hcn, fun i i1 i2 => ?_, hT.2.2.2.1⟩, fun y hy => ?_, r1, r2, r3⟩
      · rw [f4.2.2 _ _ (by simp), f3.2.2 _ _ (by simp), f2.2.2 _ _ (by simp)]; exact y19
      · rw [f4.2.2 _ _ (by simp), f3.2.2 _ _ (by simp), f2.2.2 _ _ (by simp)]; exact y32
      · rw [f4.1 128 (by simp [knR]), f3.1 128 (by simp [kyR])]; exact hr2.1 i hi
      · rw [f4.2.2 _ _ (by simp), f13.2.2 _ _ (by simp [kpF])]; exact b2
      · obtain ⟨x1, x2, x3, x4, x5, _⟩ := hT.2.2.1 i i1 i2
        exact ⟨x1, x2, x3, x4, x5⟩
      · have := k3 y (by omega)
        unfold kyE at this ⊢
        rw [f4.1 129 (by simp [knR]), f4.1 130 (by simp [knR]), f4.1 131 (by simp [knR]), f4.1 132 (by simp [knR]), f4.1 133 (by simp [knR]), f4.1 134 (by simp [knR]), f4.1 137 (by simp [knR])]
        exact this
/-- PK reads these rows and fields only; rows of types below 3200 -/
theorem PK_fr {SS : List Nat} {TT : List (Nat × Nat)} {h' : xm_H} (hP : PK h l ps a S T) (hf : Fr SS TT h h') (hk : kpT h h') (r1 : ∀ q, 117 ≤ q → q ≤ 128 → q ∉ SS) (r2 : 137 ∉ SS) (r3 : 152 ∉ SS) (t1 : (102, 19) ∉ TT) (t2 : (102, 32) ∉ TT) (t3 : h'.2.2 102 33 = h.2.2 102 33) : PK h' l ps a S T := by
  obtain ⟨c1, c2, c3, c4, c5, c6, c7, c8, k, b, c9, c10, cn, tr, K, L, R, c11, c12, c13, ⟨Q, c14, c15⟩, C, F, G, c16, c17⟩ := hP
  refine ⟨c1, c2, c3, c4, c5, by rw [hf.2.2 _ _ t1]; exact c6, by rw [hf.2.2 _ _ t2]; exact c7, ⟨fun i hi => by rw [hf.1 128 (r1 _ (by decide) (by decide))]; exact c8.1 i hi, c8.2⟩, k, b, c9, by rw [t3]; exact c10, cn, tr, K, L, R, c11, fun y hy => ?_, fun m hm => ?_, ⟨Q, c14, fun m hm k hk => by rw [hf.1 124 (r1 _ (by decide) (by decide))]; exact c15 m hm k hk⟩, C, F, G, c16, fun m hm => ?_⟩
  · have := c12 y hy
    have hy2 : y < 3200 := by have := c11.2.1; omega
    unfold kyE at this ⊢
    rw [hk 129 y (by decide) (by decide) hy2, hk 130 y (by decide) (by decide) hy2, hk 131 y (by decide) (by decide) hy2, hk 132 y (by decide) (by decide) hy2, hk 133 y (by decide) (by decide) hy2, hk 134 y (by decide) (by decide) hy2, hf.1 137 r2]
    exact this
  · refine knE_cg (c13 m hm) (fun q hq => ?_) (fun k hk => by rw [hf.1 121 (r1 _ (by decide) (by decide))])
    by_cases e : q = 152
    · subst e; rw [hf.1 152 r3]
    · have : 117 ≤ q ∧ q ≤ 128 := by simp at hq; omega
      rw [hf.1 q (r1 _ this.1 this.2)]
  · rw [hf.2.1 125 (r1 _ (by decide) (by decide)), hf.2.1 126 (r1 _ (by decide) (by decide)), hf.2.1 127 (r1 _ (by decide) (by decide))]
    exact c17 m hm
end KP
