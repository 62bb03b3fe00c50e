/-! ===== the reference: typeFor ===== -/
def mtH (h : xm_H) (cn κ l r w o x s : Nat) : xm_H := xm_si (xm_si (xm_si (xm_si (xm_si (xm_si (xm_si (xm_si (xm_sf h 102 40 (.int (nI (cn + 1)))) 129 cn (nI κ)) 130 cn (nI l)) 131 cn (nI r)) 132 cn (nI w)) 133 cn (nI o)) 134 cn (nI x)) 135 cn (h.1 136 s)) 136 s (nI cn)
theorem mtH_O {h : xm_H} {cn κ l r w o x s : Nat} : mtO cn h (mtH h cn κ l r w o x s) := by
  have h0 : mtO cn h (xm_sf h 102 40 (.int (nI (cn + 1)))) := ⟨Fr_sf Fr_rf (by simp), fun _ _ _ _ => rfl⟩
  have h1 := mtO_si (v := nI κ) h0 (show 129 ∈ mtR by simp [mtR])
  have h2 := mtO_si (v := nI l) h1 (show 130 ∈ mtR by simp [mtR])
  have h3 := mtO_si (v := nI r) h2 (show 131 ∈ mtR by simp [mtR])
  have h4 := mtO_si (v := nI w) h3 (show 132 ∈ mtR by simp [mtR])
  have h5 := mtO_si (v := nI o) h4 (show 133 ∈ mtR by simp [mtR])
  have h6 := mtO_si (v := nI x) h5 (show 134 ∈ mtR by simp [mtR])
  have h7 := mtO_si (v := h.1 136 s) h6 (show 135 ∈ mtR by simp [mtR])
  refine ⟨Fr_si h7.1 (by simp [mtR]), fun a i ha hi => ?_⟩
  unfold mtH
  rw [xq_so ha]
  exact h7.2 a i ha hi
theorem mtE_mo {h h' : xm_H} {cn i k l r : Nat} {tr : Nat → Ty} {K L R : Nat → Nat} {a : Ty} (hE : mtE h tr K L R i) (hi : i < cn) (he : ∀ q, q ≠ 136 → h'.1 q i = h.1 q i) : mtE h' (updT tr cn a) (updN K cn k) (updN L cn l) (updN R cn r) i := by
  obtain ⟨e1, e1b, e1c, e2, e3, e4, e5, e7, e8, e10⟩ := hE
  have n0 : i ≠ cn := by omega
  unfold mtE
  rw [updN_o n0, updN_o n0, updN_o n0, updT_o n0, he 129 (by decide), he 130 (by decide), he 131 (by decide), he 132 (by decide), he 133 (by decide), he 134 (by decide)]
  exact ⟨e1, e1b, e1c, by rw [tsv_mo e1 (fun j hj => updT_o (by omega))]; exact e2, e3, e4, e5, e7, e8, e10⟩
theorem mt_ok {h : xm_H} {cn k l r : Nat} {tr : Nat → Ty} {K L R : Nat → Nat} (hT : ∀ i, 3200 ≤ i → i < cn → mtE h tr K L R i) (hk : k = 1 ∨ k = 2) (hl : 3200 ≤ l ∧ l < cn) (hr : 3200 ≤ r ∧ r < cn) : ty_ok (tsv tr k l r) := by
  rcases hk with rfl | rfl
  · exact ⟨(hT _ hl.1 hl.2).2.2.2.2.1, (hT _ hr.1 hr.2).2.2.2.2.1⟩
  · exact ⟨(hT _ hl.1 hl.2).2.2.2.2.1, (hT _ hr.1 hr.2).2.2.2.2.1⟩
theorem mt_new {h : xm_H} {cn k l r w o x : Nat} {tr : Nat → Ty} {K L R : Nat → Nat} (hT : mtT h cn tr K L R) (hk : k = 1 ∨ k = 2) (hl : 3200 ≤ l ∧ l < cn) (hr : 3200 ≤ r ∧ r < cn) (hno : ∀ j, 3200 ≤ j → j < cn → tr j ≠ tsv tr k l r) (hw : w = min 4096 (ty_w (tsv tr k l r))) (ho : o = if ty_w (tsv tr k l r) ≤ 2048 then ty_word (tsv tr k l r) else 0) (hx : x = min 1000 (ty_tl (tsv tr k l r))) :
    mtT (mtH h cn (k + 1) l r w o x (mtl (k + 1) l r)) (cn + 1) (updT tr cn (tsv tr k l r)) (updN K cn k) (updN L cn l) (updN R cn r) := by
  obtain ⟨t1, t0, t2, t3, t4⟩ := hT
  have hO := mtH_O (h := h) (cn := cn) (κ := k + 1) (l := l) (r := r) (w := w) (o := o) (x := x) (s := mtl (k + 1) l r)
  have hsh : tsh cn k l r := ⟨by omega, fun z => by omega, fun _ => ⟨hl.2, hr.2⟩⟩
  refine ⟨?_, by omega, fun i hi0 hi => ?_, fun i j hi0 hi hj0 hj e => ?_, ?_⟩
  · unfold mtH
    simp only [xs_1, xf_same]
  · by_cases e : i = cn
    · subst e
      unfold mtE
      rw [updN_s, updN_s, updN_s, updT_s]
      refine ⟨hsh, fun _ => ⟨hl.1, hr.1⟩, ⟨fun z => by omega, fun z => by omega⟩, (tsv_mo hsh (fun j hj => updT_o (by omega))).symm, mt_ok t2 hk hl hr, ?_, fun _ => ⟨?_, ?_⟩, ?_, ?_, ?_⟩
      · unfold mtH; simp (disch := omega) only [xq_so, xs_same, upd_s]
      · unfold mtH; simp (disch := omega) only [xq_so, xs_same, upd_s]
      · unfold mtH; simp (disch := omega) only [xq_so, xs_same, upd_s]
      · unfold mtH; simp (disch := omega) only [xq_so, xs_same, upd_s]; rw [hw]
      · unfold mtH; simp (disch := omega) only [xq_so, xs_same, upd_s]; rw [ho]
      · unfold mtH; simp (disch := omega) only [xq_so, xs_same, upd_s]; rw [hx]
    · exact mtE_mo (t2 i hi0 (by omega)) (by omega) (fun q hq => hO.2 q i hq e)
  · by_cases e1 : i = cn
    · by_cases e2 : j = cn
      · rw [e1, e2]
      · rw [e1, updT_s, updT_o e2] at e
        exact absurd e.symm (hno j hj0 (by omega))
    · by_cases e2 : j = cn
      · rw [e2, updT_s, updT_o e1] at e
        exact absurd e (hno i hi0 (by omega))
      · rw [updT_o e1, updT_o e2] at e
        exact t3 i j hi0 (by omega) hj0 (by omega) e
  · have e36 : (mtH h cn (k + 1) l r w o x (mtl (k + 1) l r)).1 136 = upd (h.1 136) (mtl (k + 1) l r) (nI cn) := by
      unfold mtH
      rw [xs_same]
      simp (disch := omega) only [xq_so, xf_1]
    have e35 : (mtH h cn (k + 1) l r w o x (mtl (k + 1) l r)).1 135 = upd (h.1 135) cn (h.1 136 (mtl (k + 1) l r)) := by
      unfold mtH
      rw [xq_so (by omega), xs_same]
      simp (disch := omega) only [xq_so, xf_1]
    rw [e36, e35]
    refine hc_ins t4 (by omega) (fun i hi => ?_) ?_ (fun i => by omega)
    · have hi : 3201 ≤ i ∧ i < cn := hi
      simp only [updN_o (show i ≠ cn by omega)]
    · simp only [updN_s]
section MF
variable {sc : xm_Sc} {d cn k l r : Nat} {tr : Nat → Ty} {K L R : Nat → Nat} {h : xm_H} {post : xm_Po}
/-- a new type -/
theorem mf_78 (hF : XF h) (hT : mtT h cn tr K L R) (hcn : cn < 17400) (hk : k = 1 ∨ k = 2) (hl : 3200 ≤ l ∧ l < cn) (hr : 3200 ≤ r ∧ r < cn) (hno : ∀ j, 3200 ≤ j → j < cn → tr j ≠ tsv tr k l r)
    (hp : ∀ h', mtO cn h h' → mtT h' (cn + 1) (updT tr cn (tsv tr k l r)) (updN K cn k) (updN L cn l) (updN R cn r) → post (some (.int (nI cn))) h') : xm_go (XE sc) (xm_T (XE sc) (d + 1)) 314 post 78 [(0, .ref 102), (1, .int (nI (k + 1))), (2, .int (nI l)), (3, .int (nI r)), (4, .int (nI (mtl (k + 1) l r)))] [] h := by
  have hT0 := hT
  obtain ⟨t1, t0, t2, t3, t4⟩ := hT0
  have hs := mtl_l (k + 1) l r
  obtain ⟨x1, x1b, x1c, x2, x3, x4, x5, x7, x8, x10⟩ := t2 l hl.1 hl.2
  obtain ⟨y1, y1b, y1c, y2, y3, y4, y5, y7, y8, y10⟩ := t2 r hr.1 hr.2
  have n1 : l ≠ cn := by omega
  have n2 : r ≠ cn := by omega
  have f0 : Fr mtR [(102, 40)] h (xm_si (xm_si (xm_si (xm_sf h 102 40 (.int (nI (cn + 1)))) 129 cn (nI (k + 1))) 130 cn (nI l)) 131 cn (nI r)) := Fr_si (Fr_si (Fr_si (Fr_sf Fr_rf (by simp)) (by simp [mtR])) (by simp [mtR])) (by simp [mtR])
  have F1 := Fr_XF hF f0 mt_fin
  generalize hgen : xm_si (xm_si (xm_si (xm_sf h 102 40 (.int (nI (cn + 1)))) 129 cn (nI (k + 1))) 130 cn (nI l)) 131 cn (nI r) = h1 at f0 F1
  have row : ∀ a i, a ≠ 136 → i ≠ cn → h1.1 a i = h.1 a i := by
    rw [← hgen]
    exact (mtO_si (mtO_si (mtO_si (⟨Fr_sf Fr_rf (by simp), fun _ _ _ _ => rfl⟩ : mtO cn h (xm_sf h 102 40 (.int (nI (cn + 1))))) (show 129 ∈ mtR by simp [mtR])) (show 130 ∈ mtR by simp [mtR])) (show 131 ∈ mtR by simp [mtR])).2
  have e36 : h1.1 136 = h.1 136 := by
    rw [← hgen]
    simp (disch := omega) only [xq_so, xf_1]
  have fin : ∀ w o x, w = min 4096 (ty_w (tsv tr k l r)) → o = (if ty_w (tsv tr k l r) ≤ 2048 then ty_word (tsv tr k l r) else 0) → x = min 1000 (ty_tl (tsv tr k l r)) → post (some (.int (nI cn))) (xm_si (xm_si (xm_si (xm_si (xm_si h1 132 cn (nI w)) 133 cn (nI o)) 134 cn (nI x)) 135 cn (h.1 136 (mtl (k + 1) l r))) 136 (mtl (k + 1) l r) (nI cn)) := by
    intro w o x hw ho hx
    have := hp _ mtH_O (mt_new hT hk hl hr hno hw ho hx)
    unfold mtH at this
    rw [hgen] at this
    exact this
  have tail : ∀ w o, w = min 4096 (ty_w (tsv tr k l r)) → o = (if ty_w (tsv tr k l r) ≤ 2048 then ty_word (tsv tr k l r) else 0) → xm_go (XE sc) (xm_T (XE sc) (d + 1)) 314 post 239 (mfL (k + 1) l r (mtl (k + 1) l r) cn) [.int (nI o), .int (nI cn), .ref 133] (xm_si h1 132 cn (nI w)) := by
    intro w o hw ho
    have F2 : XF (xm_si h1 132 cn (nI w)) := Fr_XF F1 (Fr_si (Fr_rf (S := [132]) (T := [])) (by simp)) (by decide +kernel)
    refine mf_239 (xl := min 1000 (ty_tl (tr l))) (xr := min 1000 (ty_tl (tr r))) F2 (by omega) hl.2 hr.2 hs ?_ ?_ (Nat.min_le_left ..) (Nat.min_le_left ..) ?_
    · rw [xq_so (by omega), row 134 l (by decide) n1]; exact x10
    · rw [xq_so (by omega), row 134 r (by decide) n2]; exact y10
    · have := fin w o (min 1000 (3 + min 1000 (ty_tl (tr l)) + min 1000 (ty_tl (tr r)))) hw ho (by rcases hk with rfl | rfl <;> (simp only [tsv, ty_tl]; omega))
      rw [xq_so (by omega), e36]
      exact this
  have w1 : h1.1 132 l = nI (min 4096 (ty_w (tr l))) := by rw [row 132 l (by decide) n1]; exact x7
  have w2 : h1.1 132 r = nI (min 4096 (ty_w (tr r))) := by rw [row 132 r (by decide) n2]; exact y7
  have o1 : h1.1 133 l = nI (if ty_w (tr l) ≤ 2048 then ty_word (tr l) else 0) := by rw [row 133 l (by decide) n1]; exact x8
  have b1 : min 4096 (ty_w (tr l)) ≤ 4096 := Nat.min_le_left ..
  have b2 : min 4096 (ty_w (tr r)) ≤ 4096 := Nat.min_le_left ..
  rcases hk with rfl | rfl
  · have hg := tail (min 4096 (1 + max (min 4096 (ty_w (tr l))) (min 4096 (ty_w (tr r))))) (if l = 3200 ∧ r = 3200 then 1 else 0) (by simp only [tsv, ty_w]; omega) ?_
    · have hg2 := mf_156 (w := 1 + max (min 4096 (ty_w (tr l))) (min 4096 (ty_w (tr r)))) F1 hcn (by omega) (mf_180a F1 hcn hl.2 hr.2 hg)
      unfold mfL at hg2
      with_reducible refine xm_go_blk b_X12_typeFor_78 k_X12_typeFor_78 ?_
      refine by_aload_n rfl ?_
      refine by_getf cn_314 fl_12_262 (by first | exact rfl | assumption) (by decide) ?_
      simp (disch := first | exact Nat.ne_of_beq_eq_false rfl | exact rfl | omega) only [nI_add, xa_sub, xa_mul, pk_div, nm_mod, xa_shr, xa_and7, xa_and1, xa_and255, xa_by_and, nI_m1, Nat.add_sub_cancel, Nat.reducePow, Nat.zero_add, Nat.add_zero, Nat.reduceAdd, Nat.reduceMul, Nat.reduceSub, xf_same, xq_ff, xq_fo, xf_1, xf_2, xs_1, xs_2, xs_same, xq_so, xj_1, xj_2, xj_same, xq_jo, xq_sa1, xq_same, xq_other, upd_s, oI_n, oI_s, t1, xf_102_41 hF, xf_102_42 hF, xf_102_43 hF, hgen]
      refine by_istore (by rw [ml_314]; decide) ?_
      refine by_aload_n rfl ?_
      refine by_dup rfl ?_
      refine by_getf cn_314 fl_12_262 (by first | exact rfl | assumption) (by decide) ?_
      refine by_iconst ci_1 ?_
      simp (disch := first | exact Nat.ne_of_beq_eq_false rfl | exact rfl | omega) only [nI_add, xa_sub, xa_mul, pk_div, nm_mod, xa_shr, xa_and7, xa_and1, xa_and255, xa_by_and, nI_m1, Nat.add_sub_cancel, Nat.reducePow, Nat.zero_add, Nat.add_zero, Nat.reduceAdd, Nat.reduceMul, Nat.reduceSub, xf_same, xq_ff, xq_fo, xf_1, xf_2, xs_1, xs_2, xs_same, xq_so, xj_1, xj_2, xj_same, xq_jo, xq_sa1, xq_same, xq_other, upd_s, oI_n, oI_s, t1, xf_102_41 hF, xf_102_42 hF, xf_102_43 hF, hgen]
      refine by_iadd ?_
      refine by_putf cn_314 fl_12_262 (by first | exact rfl | assumption) (by decide) nf_12_40 ft_12_40 (by first | rfl | assumption) (by first | rfl | assumption) ?_
      refine by_aload_n rfl ?_
      refine by_getf cn_314 fl_12_91 (by first | exact rfl | assumption) (by decide) ?_
      refine by_iload rfl ?_
      refine by_iload_n rfl ?_
      simp (disch := first | exact Nat.ne_of_beq_eq_false rfl | exact rfl | omega) only [nI_add, xa_sub, xa_mul, pk_div, nm_mod, xa_shr, xa_and7, xa_and1, xa_and255, xa_by_and, nI_m1, Nat.add_sub_cancel, Nat.reducePow, Nat.zero_add, Nat.add_zero, Nat.reduceAdd, Nat.reduceMul, Nat.reduceSub, xf_same, xq_ff, xq_fo, xf_1, xf_2, xs_1, xs_2, xs_same, xq_so, xj_1, xj_2, xj_same, xq_jo, xq_sa1, xq_same, xq_other, upd_s, oI_n, oI_s, t1, xf_102_41 hF, xf_102_42 hF, xf_102_43 hF, hgen]
      refine by_iast (by first | exact rfl | assumption | exact ps_1 hpp | exact ps_2 hpp | exact ps_3 hpp | exact ps_4 hpp | exact ps_5 hpp | exact ps_6 hpp | exact ps_7 hpp | exact ps_8 hpp | exact ps_9 hpp | exact ps_10 hpp | exact ps_11 hpp | exact ps_15 hpp | exact ps_16 hpp | exact ps_17 hpp | exact ps_18 hpp | exact ps_19 hpp | exact ps_21 hpp | exact ps_22 hpp | exact ps_23 hpp | exact ps_24 hpp) ⟨by omega, by omega⟩ ?_
      refine by_aload_n rfl ?_
      refine by_getf cn_314 fl_12_94 (by first | exact rfl | assumption) (by decide) ?_
      refine by_iload rfl ?_
      refine by_iload_n rfl ?_
      simp (disch := first | exact Nat.ne_of_beq_eq_false rfl | exact rfl | omega) only [nI_add, xa_sub, xa_mul, pk_div, nm_mod, xa_shr, xa_and7, xa_and1, xa_and255, xa_by_and, nI_m1, Nat.add_sub_cancel, Nat.reducePow, Nat.zero_add, Nat.add_zero, Nat.reduceAdd, Nat.reduceMul, Nat.reduceSub, xf_same, xq_ff, xq_fo, xf_1, xf_2, xs_1, xs_2, xs_same, xq_so, xj_1, xj_2, xj_same, xq_jo, xq_sa1, xq_same, xq_other, upd_s, oI_n, oI_s, t1, xf_102_41 hF, xf_102_42 hF, xf_102_43 hF, hgen]
      refine by_iast (by first | exact rfl | assumption | exact ps_1 hpp | exact ps_2 hpp | exact ps_3 hpp | exact ps_4 hpp | exact ps_5 hpp | exact ps_6 hpp | exact ps_7 hpp | exact ps_8 hpp | exact ps_9 hpp | exact ps_10 hpp | exact ps_11 hpp | exact ps_15 hpp | exact ps_16 hpp | exact ps_17 hpp | exact ps_18 hpp | exact ps_19 hpp | exact ps_21 hpp | exact ps_22 hpp | exact ps_23 hpp | exact ps_24 hpp) ⟨by omega, by omega⟩ ?_
      refine by_aload_n rfl ?_
      refine by_getf cn_314 fl_12_97 (by first | exact rfl | assumption) (by decide) ?_
      refine by_iload rfl ?_
      refine by_iload_n rfl ?_
      simp (disch := first | exact Nat.ne_of_beq_eq_false rfl | exact rfl | omega) only [nI_add, xa_sub, xa_mul, pk_div, nm_mod, xa_shr, xa_and7, xa_and1, xa_and255, xa_by_and, nI_m1, Nat.add_sub_cancel, Nat.reducePow, Nat.zero_add, Nat.add_zero, Nat.reduceAdd, Nat.reduceMul, Nat.reduceSub, xf_same, xq_ff, xq_fo, xf_1, xf_2, xs_1, xs_2, xs_same, xq_so, xj_1, xj_2, xj_same, xq_jo, xq_sa1, xq_same, xq_other, upd_s, oI_n, oI_s, t1, xf_102_41 hF, xf_102_42 hF, xf_102_43 hF, hgen]
      refine by_iast (by first | exact rfl | assumption | exact ps_1 hpp | exact ps_2 hpp | exact ps_3 hpp | exact ps_4 hpp | exact ps_5 hpp | exact ps_6 hpp | exact ps_7 hpp | exact ps_8 hpp | exact ps_9 hpp | exact ps_10 hpp | exact ps_11 hpp | exact ps_15 hpp | exact ps_16 hpp | exact ps_17 hpp | exact ps_18 hpp | exact ps_19 hpp | exact ps_21 hpp | exact ps_22 hpp | exact ps_23 hpp | exact ps_24 hpp) ⟨by omega, by omega⟩ ?_
      refine by_iload_n rfl ?_
      refine by_iconst ci_2 ?_
      refine by_ic_ne 143 rfl ?_
      simp (disch := first | exact Nat.ne_of_beq_eq_false rfl | exact rfl | omega) only [nI_add, xa_sub, xa_mul, pk_div, nm_mod, xa_shr, xa_and7, xa_and1, xa_and255, xa_by_and, nI_m1, Nat.add_sub_cancel, Nat.reducePow, Nat.zero_add, Nat.add_zero, Nat.reduceAdd, Nat.reduceMul, Nat.reduceSub, xf_same, xq_ff, xq_fo, xf_1, xf_2, xs_1, xs_2, xs_same, xq_so, xj_1, xj_2, xj_same, xq_jo, xq_sa1, xq_same, xq_other, upd_s, oI_n, oI_s, xv_0, xv_1, xv_2, xv_3, xm_p1, xm_p2, xq_fp, xq_fn, List.filter_nil, Nat.reduceBEq, Bool.not_true, Bool.not_false, Bool.and_true, Bool.and_false, Bool.false_and, Bool.true_and, if_true, if_false, Bool.false_eq_true, reduceIte, xc_i, xc_j, xc_r, xc_n, List.nil_append, List.cons_append, Option.toList_some, Option.toList_none, nI_ltJ, nI_leJ, nI_eqJ, nI_ltz, nI_gez, nI_gtz, nI_lez, nI_eqz, m1_ltz, m1_gez, true_imp_iff, false_imp_iff, true_and, and_true, ne_eq, not_false_eq_true, not_true_eq_false, Nat.reduceEqDiff, Nat.reduceLT, Nat.reduceLeDiff, t1, xf_102_41 hF, xf_102_42 hF, xf_102_43 hF, hgen]
      with_reducible refine xm_go_blk b_X12_typeFor_123 k_X12_typeFor_123 ?_
      refine by_iconst ci_1 ?_
      refine by_aload_n rfl ?_
      refine by_getf cn_314 fl_12_100 (by first | exact rfl | assumption) (by decide) ?_
      refine by_iload_n rfl ?_
      simp (disch := first | exact Nat.ne_of_beq_eq_false rfl | exact rfl | omega) only [nI_add, xa_sub, xa_mul, pk_div, nm_mod, xa_shr, xa_and7, xa_and1, xa_and255, xa_by_and, nI_m1, Nat.add_sub_cancel, Nat.reducePow, Nat.zero_add, Nat.add_zero, Nat.reduceAdd, Nat.reduceMul, Nat.reduceSub, xf_same, xq_ff, xq_fo, xf_1, xf_2, xs_1, xs_2, xs_same, xq_so, xj_1, xj_2, xj_same, xq_jo, xq_sa1, xq_same, xq_other, upd_s, oI_n, oI_s, xf_102_44 F1, w1, w2]
      first | refine by_iald (by first | exact rfl | assumption | exact ps_1 hpp | exact ps_2 hpp | exact ps_3 hpp | exact ps_4 hpp | exact ps_5 hpp | exact ps_6 hpp | exact ps_7 hpp | exact ps_8 hpp | exact ps_9 hpp | exact ps_10 hpp | exact ps_11 hpp | exact ps_15 hpp | exact ps_16 hpp | exact ps_17 hpp | exact ps_18 hpp | exact ps_19 hpp | exact ps_21 hpp | exact ps_22 hpp | exact ps_23 hpp | exact ps_24 hpp) ⟨by omega, by omega⟩ ?_ | refine by_tald rfl rfl ⟨by omega, by omega⟩ ?_
      refine by_aload_n rfl ?_
      refine by_getf cn_314 fl_12_100 (by first | exact rfl | assumption) (by decide) ?_
      refine by_iload_n rfl ?_
      simp (disch := first | exact Nat.ne_of_beq_eq_false rfl | exact rfl | omega) only [nI_add, xa_sub, xa_mul, pk_div, nm_mod, xa_shr, xa_and7, xa_and1, xa_and255, xa_by_and, nI_m1, Nat.add_sub_cancel, Nat.reducePow, Nat.zero_add, Nat.add_zero, Nat.reduceAdd, Nat.reduceMul, Nat.reduceSub, xf_same, xq_ff, xq_fo, xf_1, xf_2, xs_1, xs_2, xs_same, xq_so, xj_1, xj_2, xj_same, xq_jo, xq_sa1, xq_same, xq_other, upd_s, oI_n, oI_s, xf_102_44 F1, w1, w2]
      first | refine by_iald (by first | exact rfl | assumption | exact ps_1 hpp | exact ps_2 hpp | exact ps_3 hpp | exact ps_4 hpp | exact ps_5 hpp | exact ps_6 hpp | exact ps_7 hpp | exact ps_8 hpp | exact ps_9 hpp | exact ps_10 hpp | exact ps_11 hpp | exact ps_15 hpp | exact ps_16 hpp | exact ps_17 hpp | exact ps_18 hpp | exact ps_19 hpp | exact ps_21 hpp | exact ps_22 hpp | exact ps_23 hpp | exact ps_24 hpp) ⟨by omega, by omega⟩ ?_ | refine by_tald rfl rfl ⟨by omega, by omega⟩ ?_
      simp (disch := first | exact Nat.ne_of_beq_eq_false rfl | exact rfl | omega) only [nI_add, xa_sub, xa_mul, pk_div, nm_mod, xa_shr, xa_and7, xa_and1, xa_and255, xa_by_and, nI_m1, Nat.add_sub_cancel, Nat.reducePow, Nat.zero_add, Nat.add_zero, Nat.reduceAdd, Nat.reduceMul, Nat.reduceSub, xf_same, xq_ff, xq_fo, xf_1, xf_2, xs_1, xs_2, xs_same, xq_so, xj_1, xj_2, xj_same, xq_jo, xq_sa1, xq_same, xq_other, upd_s, oI_n, oI_s, xv_0, xv_1, xv_2, xv_3, xm_p1, xm_p2, xq_fp, xq_fn, List.filter_nil, Nat.reduceBEq, Bool.not_true, Bool.not_false, Bool.and_true, Bool.and_false, Bool.false_and, Bool.true_and, if_true, if_false, Bool.false_eq_true, reduceIte, xc_i, xc_j, xc_r, xc_n, List.nil_append, List.cons_append, Option.toList_some, Option.toList_none, xf_102_44 F1, w1, w2]
      refine by_ins2 cn_314 lk_12_265 (by rw [xe_cnt]; decide) is_227 np_227 (Nat.le_of_ble_eq_true rfl) ?_
      refine sp_greater (by omega) (by omega) ?_
      with_reducible refine xm_go_blk b_X12_typeFor_139 k_X12_typeFor_139 ?_
      refine by_iadd ?_
      refine by_goto 156 rfl ?_
      simp (disch := first | exact Nat.ne_of_beq_eq_false rfl | exact rfl | omega) only [nI_add, xa_sub, xa_mul, pk_div, nm_mod, xa_shr, xa_and7, xa_and1, xa_and255, xa_by_and, nI_m1, Nat.add_sub_cancel, Nat.reducePow, Nat.zero_add, Nat.add_zero, Nat.reduceAdd, Nat.reduceMul, Nat.reduceSub, xf_same, xq_ff, xq_fo, xf_1, xf_2, xs_1, xs_2, xs_same, xq_so, xj_1, xj_2, xj_same, xq_jo, xq_sa1, xq_same, xq_other, upd_s, oI_n, oI_s, xv_0, xv_1, xv_2, xv_3, xm_p1, xm_p2, xq_fp, xq_fn, List.filter_nil, Nat.reduceBEq, Bool.not_true, Bool.not_false, Bool.and_true, Bool.and_false, Bool.false_and, Bool.true_and, if_true, if_false, Bool.false_eq_true, reduceIte, xc_i, xc_j, xc_r, xc_n, List.nil_append, List.cons_append, Option.toList_some, Option.toList_none]
      exact xm_go_wk (by simp [Value.category]) hg2
    · simp only [tsv, ty_w, ty_word, ty_is1_K x1.1 x2, ty_is1_K y1.1 y2, Bool.and_eq_true, decide_eq_true_eq]
      by_cases q : l = 3200 ∧ r = 3200
      · have z1 := x1c.mp q.1
        have z2 := y1c.mp q.2
        rw [if_pos q, if_pos (show K l = 0 ∧ K r = 0 from ⟨z1, z2⟩)]
        rw [z1] at x2
        rw [z2] at y2
        rw [x2, y2]
        exact (if_pos (show 1 + max 0 0 ≤ 2048 by decide)).symm
      · rw [if_neg q, if_neg (show ¬ (K l = 0 ∧ K r = 0) from fun z => q ⟨x1c.mpr z.1, y1c.mpr z.2⟩)]
        split <;> rfl
  · have hg := tail (min 4096 (min 4096 (ty_w (tr l)) + min 4096 (ty_w (tr r)))) (if l = r ∧ min 4096 (ty_w (tr l)) + min 4096 (ty_w (tr r)) ≤ 2048 then 2 * (if ty_w (tr l) ≤ 2048 then ty_word (tr l) else 0) else 0) (by simp only [tsv, ty_w]; omega) ?_
    · have hg2 := mf_156 (w := min 4096 (ty_w (tr l)) + min 4096 (ty_w (tr r))) F1 hcn (by omega) (mf_180b F1 hcn hl.2 hr.2 (by omega) o1 hg)
      unfold mfL at hg2
      with_reducible refine xm_go_blk b_X12_typeFor_78 k_X12_typeFor_78 ?_
      refine by_aload_n rfl ?_
      refine by_getf cn_314 fl_12_262 (by first | exact rfl | assumption) (by decide) ?_
      simp (disch := first | exact Nat.ne_of_beq_eq_false rfl | exact rfl | omega) only [nI_add, xa_sub, xa_mul, pk_div, nm_mod, xa_shr, xa_and7, xa_and1, xa_and255, xa_by_and, nI_m1, Nat.add_sub_cancel, Nat.reducePow, Nat.zero_add, Nat.add_zero, Nat.reduceAdd, Nat.reduceMul, Nat.reduceSub, xf_same, xq_ff, xq_fo, xf_1, xf_2, xs_1, xs_2, xs_same, xq_so, xj_1, xj_2, xj_same, xq_jo, xq_sa1, xq_same, xq_other, upd_s, oI_n, oI_s, t1, xf_102_41 hF, xf_102_42 hF, xf_102_43 hF, hgen]
      refine by_istore (by rw [ml_314]; decide) ?_
      refine by_aload_n rfl ?_
      refine by_dup rfl ?_
      refine by_getf cn_314 fl_12_262 (by first | exact rfl | assumption) (by decide) ?_
      refine by_iconst ci_1 ?_
      simp (disch := first | exact Nat.ne_of_beq_eq_false rfl | exact rfl | omega) only [nI_add, xa_sub, xa_mul, pk_div, nm_mod, xa_shr, xa_and7, xa_and1, xa_and255, xa_by_and, nI_m1, Nat.add_sub_cancel, Nat.reducePow, Nat.zero_add, Nat.add_zero, Nat.reduceAdd, Nat.reduceMul, Nat.reduceSub, xf_same, xq_ff, xq_fo, xf_1, xf_2, xs_1, xs_2, xs_same, xq_so, xj_1, xj_2, xj_same, xq_jo, xq_sa1, xq_same, xq_other, upd_s, oI_n, oI_s, t1, xf_102_41 hF, xf_102_42 hF, xf_102_43 hF, hgen]
      refine by_iadd ?_
      refine by_putf cn_314 fl_12_262 (by first | exact rfl | assumption) (by decide) nf_12_40 ft_12_40 (by first | rfl | assumption) (by first | rfl | assumption) ?_
      refine by_aload_n rfl ?_
      refine by_getf cn_314 fl_12_91 (by first | exact rfl | assumption) (by decide) ?_
      refine by_iload rfl ?_
      refine by_iload_n rfl ?_
      simp (disch := first | exact Nat.ne_of_beq_eq_false rfl | exact rfl | omega) only [nI_add, xa_sub, xa_mul, pk_div, nm_mod, xa_shr, xa_and7, xa_and1, xa_and255, xa_by_and, nI_m1, Nat.add_sub_cancel, Nat.reducePow, Nat.zero_add, Nat.add_zero, Nat.reduceAdd, Nat.reduceMul, Nat.reduceSub, xf_same, xq_ff, xq_fo, xf_1, xf_2, xs_1, xs_2, xs_same, xq_so, xj_1, xj_2, xj_same, xq_jo, xq_sa1, xq_same, xq_other, upd_s, oI_n, oI_s, t1, xf_102_41 hF, xf_102_42 hF, xf_102_43 hF, hgen]
      refine by_iast (by first | exact rfl | assumption | exact ps_1 hpp | exact ps_2 hpp | exact ps_3 hpp | exact ps_4 hpp | exact ps_5 hpp | exact ps_6 hpp | exact ps_7 hpp | exact ps_8 hpp | exact ps_9 hpp | exact ps_10 hpp | exact ps_11 hpp | exact ps_15 hpp | exact ps_16 hpp | exact ps_17 hpp | exact ps_18 hpp | exact ps_19 hpp | exact ps_21 hpp | exact ps_22 hpp | exact ps_23 hpp | exact ps_24 hpp) ⟨by omega, by omega⟩ ?_
      refine by_aload_n rfl ?_
      refine by_getf cn_314 fl_12_94 (by first | exact rfl | assumption) (by decide) ?_
      refine by_iload rfl ?_
      refine by_iload_n rfl ?_
      simp (disch := first | exact Nat.ne_of_beq_eq_false rfl | exact rfl | omega) only [nI_add, xa_sub, xa_mul, pk_div, nm_mod, xa_shr, xa_and7, xa_and1, xa_and255, xa_by_and, nI_m1, Nat.add_sub_cancel, Nat.reducePow, Nat.zero_add, Nat.add_zero, Nat.reduceAdd, Nat.reduceMul, Nat.reduceSub, xf_same, xq_ff, xq_fo, xf_1, xf_2, xs_1, xs_2, xs_same, xq_so, xj_1, xj_2, xj_same, xq_jo, xq_sa1, xq_same, xq_other, upd_s, oI_n, oI_s, t1, xf_102_41 hF, xf_102_42 hF, xf_102_43 hF, hgen]
      refine by_iast (by first | exact rfl | assumption | exact ps_1 hpp | exact ps_2 hpp | exact ps_3 hpp | exact ps_4 hpp | exact ps_5 hpp | exact ps_6 hpp | exact ps_7 hpp | exact ps_8 hpp | exact ps_9 hpp | exact ps_10 hpp | exact ps_11 hpp | exact ps_15 hpp | exact ps_16 hpp | exact ps_17 hpp | exact ps_18 hpp | exact ps_19 hpp | exact ps_21 hpp | exact ps_22 hpp | exact ps_23 hpp | exact ps_24 hpp) ⟨by omega, by omega⟩ ?_
      refine by_aload_n rfl ?_
      refine by_getf cn_314 fl_12_97 (by first | exact rfl | assumption) (by decide) ?_
      refine by_iload rfl ?_
      refine by_iload_n rfl ?_
      simp (disch := first | exact Nat.ne_of_beq_eq_false rfl | exact rfl | omega) only [nI_add, xa_sub, xa_mul, pk_div, nm_mod, xa_shr, xa_and7, xa_and1, xa_and255, xa_by_and, nI_m1, Nat.add_sub_cancel, Nat.reducePow, Nat.zero_add, Nat.add_zero, Nat.reduceAdd, Nat.reduceMul, Nat.reduceSub, xf_same, xq_ff, xq_fo, xf_1, xf_2, xs_1, xs_2, xs_same, xq_so, xj_1, xj_2, xj_same, xq_jo, xq_sa1, xq_same, xq_other, upd_s, oI_n, oI_s, t1, xf_102_41 hF, xf_102_42 hF, xf_102_43 hF, hgen]
      refine by_iast (by first | exact rfl | assumption | exact ps_1 hpp | exact ps_2 hpp | exact ps_3 hpp | exact ps_4 hpp | exact ps_5 hpp | exact ps_6 hpp | exact ps_7 hpp | exact ps_8 hpp | exact ps_9 hpp | exact ps_10 hpp | exact ps_11 hpp | exact ps_15 hpp | exact ps_16 hpp | exact ps_17 hpp | exact ps_18 hpp | exact ps_19 hpp | exact ps_21 hpp | exact ps_22 hpp | exact ps_23 hpp | exact ps_24 hpp) ⟨by omega, by omega⟩ ?_
      refine by_iload_n rfl ?_
      refine by_iconst ci_2 ?_
      refine by_ic_ne 143 rfl ?_
      simp (disch := first | exact Nat.ne_of_beq_eq_false rfl | exact rfl | omega) only [nI_add, xa_sub, xa_mul, pk_div, nm_mod, xa_shr, xa_and7, xa_and1, xa_and255, xa_by_and, nI_m1, Nat.add_sub_cancel, Nat.reducePow, Nat.zero_add, Nat.add_zero, Nat.reduceAdd, Nat.reduceMul, Nat.reduceSub, xf_same, xq_ff, xq_fo, xf_1, xf_2, xs_1, xs_2, xs_same, xq_so, xj_1, xj_2, xj_same, xq_jo, xq_sa1, xq_same, xq_other, upd_s, oI_n, oI_s, xv_0, xv_1, xv_2, xv_3, xm_p1, xm_p2, xq_fp, xq_fn, List.filter_nil, Nat.reduceBEq, Bool.not_true, Bool.not_false, Bool.and_true, Bool.and_false, Bool.false_and, Bool.true_and, if_true, if_false, Bool.false_eq_true, reduceIte, xc_i, xc_j, xc_r, xc_n, List.nil_append, List.cons_append, Option.toList_some, Option.toList_none, nI_ltJ, nI_leJ, nI_eqJ, nI_ltz, nI_gez, nI_gtz, nI_lez, nI_eqz, m1_ltz, m1_gez, true_imp_iff, false_imp_iff, true_and, and_true, ne_eq, not_false_eq_true, not_true_eq_false, Nat.reduceEqDiff, Nat.reduceLT, Nat.reduceLeDiff, t1, xf_102_41 hF, xf_102_42 hF, xf_102_43 hF, hgen]
      with_reducible refine xm_go_blk b_X12_typeFor_143 k_X12_typeFor_143 ?_
      refine by_aload_n rfl ?_
      refine by_getf cn_314 fl_12_100 (by first | exact rfl | assumption) (by decide) ?_
      refine by_iload_n rfl ?_
      simp (disch := first | exact Nat.ne_of_beq_eq_false rfl | exact rfl | omega) only [nI_add, xa_sub, xa_mul, pk_div, nm_mod, xa_shr, xa_and7, xa_and1, xa_and255, xa_by_and, nI_m1, Nat.add_sub_cancel, Nat.reducePow, Nat.zero_add, Nat.add_zero, Nat.reduceAdd, Nat.reduceMul, Nat.reduceSub, xf_same, xq_ff, xq_fo, xf_1, xf_2, xs_1, xs_2, xs_same, xq_so, xj_1, xj_2, xj_same, xq_jo, xq_sa1, xq_same, xq_other, upd_s, oI_n, oI_s, xf_102_44 F1, w1, w2]
      first | refine by_iald (by first | exact rfl | assumption | exact ps_1 hpp | exact ps_2 hpp | exact ps_3 hpp | exact ps_4 hpp | exact ps_5 hpp | exact ps_6 hpp | exact ps_7 hpp | exact ps_8 hpp | exact ps_9 hpp | exact ps_10 hpp | exact ps_11 hpp | exact ps_15 hpp | exact ps_16 hpp | exact ps_17 hpp | exact ps_18 hpp | exact ps_19 hpp | exact ps_21 hpp | exact ps_22 hpp | exact ps_23 hpp | exact ps_24 hpp) ⟨by omega, by omega⟩ ?_ | refine by_tald rfl rfl ⟨by omega, by omega⟩ ?_
      refine by_aload_n rfl ?_
      refine by_getf cn_314 fl_12_100 (by first | exact rfl | assumption) (by decide) ?_
      refine by_iload_n rfl ?_
      simp (disch := first | exact Nat.ne_of_beq_eq_false rfl | exact rfl | omega) only [nI_add, xa_sub, xa_mul, pk_div, nm_mod, xa_shr, xa_and7, xa_and1, xa_and255, xa_by_and, nI_m1, Nat.add_sub_cancel, Nat.reducePow, Nat.zero_add, Nat.add_zero, Nat.reduceAdd, Nat.reduceMul, Nat.reduceSub, xf_same, xq_ff, xq_fo, xf_1, xf_2, xs_1, xs_2, xs_same, xq_so, xj_1, xj_2, xj_same, xq_jo, xq_sa1, xq_same, xq_other, upd_s, oI_n, oI_s, xf_102_44 F1, w1, w2]
      first | refine by_iald (by first | exact rfl | assumption | exact ps_1 hpp | exact ps_2 hpp | exact ps_3 hpp | exact ps_4 hpp | exact ps_5 hpp | exact ps_6 hpp | exact ps_7 hpp | exact ps_8 hpp | exact ps_9 hpp | exact ps_10 hpp | exact ps_11 hpp | exact ps_15 hpp | exact ps_16 hpp | exact ps_17 hpp | exact ps_18 hpp | exact ps_19 hpp | exact ps_21 hpp | exact ps_22 hpp | exact ps_23 hpp | exact ps_24 hpp) ⟨by omega, by omega⟩ ?_ | refine by_tald rfl rfl ⟨by omega, by omega⟩ ?_
      refine by_iadd ?_
      refine by_nil ?_
      simp (disch := first | exact Nat.ne_of_beq_eq_false rfl | exact rfl | omega) only [nI_add, xa_sub, xa_mul, pk_div, nm_mod, xa_shr, xa_and7, xa_and1, xa_and255, xa_by_and, nI_m1, Nat.add_sub_cancel, Nat.reducePow, Nat.zero_add, Nat.add_zero, Nat.reduceAdd, Nat.reduceMul, Nat.reduceSub, xf_same, xq_ff, xq_fo, xf_1, xf_2, xs_1, xs_2, xs_same, xq_so, xj_1, xj_2, xj_same, xq_jo, xq_sa1, xq_same, xq_other, upd_s, oI_n, oI_s, xv_0, xv_1, xv_2, xv_3, xm_p1, xm_p2, xq_fp, xq_fn, List.filter_nil, Nat.reduceBEq, Bool.not_true, Bool.not_false, Bool.and_true, Bool.and_false, Bool.false_and, Bool.true_and, if_true, if_false, Bool.false_eq_true, reduceIte, xc_i, xc_j, xc_r, xc_n, List.nil_append, List.cons_append, Option.toList_some, Option.toList_none, xf_102_44 F1, w1, w2]
      exact xm_go_wk (by simp [Value.category]) hg2
    · simp only [tsv, ty_w, ty_word]
      by_cases q : l = r
      · subst q
        rw [if_pos ((ty_eqb_iff x3 x3).mpr rfl)]
        by_cases q2 : ty_w (tr l) + ty_w (tr l) ≤ 2048
        · rw [if_pos ⟨rfl, by omega⟩, if_pos q2, if_pos (by omega)]
        · rw [if_neg (fun z => q2 (by have := z.2; omega)), if_neg q2]
      · rw [if_neg (fun z => q z.1), if_neg (fun z => q (t3 _ _ hl.1 hl.2 hr.1 hr.2 ((ty_eqb_iff x3 y3).mp z)))]
        split <;> rfl
end MF
