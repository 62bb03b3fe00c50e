/-! ===== say: the class's tell behind the definitions ===== -/
abbrev tlR (pp : Nat) : List Nat := [6, 8, 9, 10, 11, 12, 13, 14, 16, 17, 18, 19, 20, 21, pp + 2, pp + 3, pp + 6, pp + 7, pp + 15, pp + 16, pp + 17, pp + 18, pp + 19, pp + 20, pp + 21, pp + 22, pp + 23, pp + 24]
abbrev tlT (pp : Nat) : List (Nat × Nat) := [(5, 1), (5, 2), (5, 3), (7, 2), (7, 9), (15, 6), (15, 7), (pp + 14, 0), (pp + 14, 11)]
section SY
variable {sc : xm_Sc} {d pp cn n W nh p : Nat} {t w L L2 bl : List Nat} {NL : List (List Nat × Nat)} {G : sG} {S T tr : Nat → Ty} {K Lf R : Nat → Nat} {h h' : xm_H} {post : xm_Po}
theorem fxA_fr {S : List Nat} {T : List (Nat × Nat)} (hA : fxA h) (hf : Fr S T h h') (q1 : 16 ∉ S) (q2 : 17 ∉ S) (q3 : 18 ∉ S) : fxA h' := fun x hx => by
  rw [hf.1 _ q1, hf.1 _ q2, hf.1 _ q3]
  exact hA x hx
/-- behind the second walk -/
theorem tl_195 {c1 c2 : Nat → Option Nat} (hpp : pp = 52 ∨ pp = 77) (hX : xW h pp t G L2 T cn tr K Lf R) (hN : xN h pp G c1 c2 L2) (hcn : cn ≤ 14026) (hl1 : 1 ≤ L2.length) (hl2 : L2.length ≤ 2000) (hG : ∀ n ∈ L2, sNo t G n)
    (hp : ∀ h' a bl, SyW t G c1 c2 T L2 a bl → Fr [6, pp + 24] (jwT pp) h h' → (a = 0 → penB h' bl) → post (some (.int (nI a))) h') :
    xm_go (XE sc) (xm_T (XE sc) (d + 6)) 160 post 195 [(0, .ref 46), (3, .ref 5)] [] h := by
  have hX0 := hX
  obtain ⟨F1, y9, y10, y4, y5, y6, y7, y8⟩ := hX
  by_cases e4 : 400 < L2.length
  · with_reducible refine xm_go_blk b_X9_tell_195 k_X9_tell_195 ?_
    refine by_aload_n rfl ?_
    refine by_getf cn_160 fl_9_28 (by first | exact rfl | assumption) (by decide) ?_
    simp (disch := first | exact Nat.ne_of_beq_eq_false rfl | exact rfl | omega) only [nI_add, xa_sub, xa_mul, pk_div, nm_mod, xa_shr, xa_and7, xa_and1, xa_and255, xa_by_and, nI_m1, Nat.add_sub_cancel, Nat.reducePow, Nat.zero_add, Nat.add_zero, Nat.reduceAdd, Nat.reduceMul, Nat.reduceSub, xf_same, xq_ff, xq_fo, xf_1, xf_2, xs_1, xs_2, xs_same, xq_so, xj_1, xj_2, xj_same, xq_jo, xq_sa1, xq_same, xq_other, upd_s, oI_n, oI_s, xf_46_1 F1, y5]
    refine by_getf cn_160 fl_9_79 (by first | exact rfl | assumption) (by decide) ?_
    refine by_sipush cs_400 ?_
    simp (disch := first | exact Nat.ne_of_beq_eq_false rfl | exact rfl | omega) only [nI_add, xa_sub, xa_mul, pk_div, nm_mod, xa_shr, xa_and7, xa_and1, xa_and255, xa_by_and, nI_m1, Nat.add_sub_cancel, Nat.reducePow, Nat.zero_add, Nat.add_zero, Nat.reduceAdd, Nat.reduceMul, Nat.reduceSub, xf_same, xq_ff, xq_fo, xf_1, xf_2, xs_1, xs_2, xs_same, xq_so, xj_1, xj_2, xj_same, xq_jo, xq_sa1, xq_same, xq_other, upd_s, oI_n, oI_s, xf_46_1 F1, y5]
    refine by_ic_le 210 rfl ?_
    simp (disch := first | exact Nat.ne_of_beq_eq_false rfl | exact rfl | omega) only [nI_add, xa_sub, xa_mul, pk_div, nm_mod, xa_shr, xa_and7, xa_and1, xa_and255, xa_by_and, nI_m1, Nat.add_sub_cancel, Nat.reducePow, Nat.zero_add, Nat.add_zero, Nat.reduceAdd, Nat.reduceMul, Nat.reduceSub, xf_same, xq_ff, xq_fo, xf_1, xf_2, xs_1, xs_2, xs_same, xq_so, xj_1, xj_2, xj_same, xq_jo, xq_sa1, xq_same, xq_other, upd_s, oI_n, oI_s, xv_0, xv_1, xv_2, xv_3, xm_p1, xm_p2, xq_fp, xq_fn, List.filter_nil, Nat.reduceBEq, Bool.not_true, Bool.not_false, Bool.and_true, Bool.and_false, Bool.false_and, Bool.true_and, if_true, if_false, Bool.false_eq_true, reduceIte, xc_i, xc_j, xc_r, xc_n, List.nil_append, List.cons_append, Option.toList_some, Option.toList_none, nI_ltJ, nI_leJ, nI_eqJ, nI_ltz, nI_gez, nI_gtz, nI_lez, nI_eqz, m1_ltz, m1_gez, true_imp_iff, false_imp_iff, true_and, and_true, ne_eq, not_false_eq_true, not_true_eq_false, Nat.reduceEqDiff, Nat.reduceLT, Nat.reduceLeDiff, xf_46_1 F1, y5]
    refine ⟨fun c => absurd c (by omega), fun c195 => ?_⟩
    with_reducible refine xm_go_blk b_X9_tell_208 k_X9_tell_208 ?_
    refine by_iconst ci_4 ?_
    refine by_iret ry_160 (by first | rfl | assumption) ?_
    exact hp h 4 [] (Or.inl ⟨e4, rfl⟩) Fr_rf (fun z => by omega)
  · with_reducible refine xm_go_blk b_X9_tell_195 k_X9_tell_195 ?_
    refine by_aload_n rfl ?_
    refine by_getf cn_160 fl_9_28 (by first | exact rfl | assumption) (by decide) ?_
    simp (disch := first | exact Nat.ne_of_beq_eq_false rfl | exact rfl | omega) only [nI_add, xa_sub, xa_mul, pk_div, nm_mod, xa_shr, xa_and7, xa_and1, xa_and255, xa_by_and, nI_m1, Nat.add_sub_cancel, Nat.reducePow, Nat.zero_add, Nat.add_zero, Nat.reduceAdd, Nat.reduceMul, Nat.reduceSub, xf_same, xq_ff, xq_fo, xf_1, xf_2, xs_1, xs_2, xs_same, xq_so, xj_1, xj_2, xj_same, xq_jo, xq_sa1, xq_same, xq_other, upd_s, oI_n, oI_s, xf_46_1 F1, y5]
    refine by_getf cn_160 fl_9_79 (by first | exact rfl | assumption) (by decide) ?_
    refine by_sipush cs_400 ?_
    simp (disch := first | exact Nat.ne_of_beq_eq_false rfl | exact rfl | omega) only [nI_add, xa_sub, xa_mul, pk_div, nm_mod, xa_shr, xa_and7, xa_and1, xa_and255, xa_by_and, nI_m1, Nat.add_sub_cancel, Nat.reducePow, Nat.zero_add, Nat.add_zero, Nat.reduceAdd, Nat.reduceMul, Nat.reduceSub, xf_same, xq_ff, xq_fo, xf_1, xf_2, xs_1, xs_2, xs_same, xq_so, xj_1, xj_2, xj_same, xq_jo, xq_sa1, xq_same, xq_other, upd_s, oI_n, oI_s, xf_46_1 F1, y5]
    refine by_ic_le 210 rfl ?_
    simp (disch := first | exact Nat.ne_of_beq_eq_false rfl | exact rfl | omega) only [nI_add, xa_sub, xa_mul, pk_div, nm_mod, xa_shr, xa_and7, xa_and1, xa_and255, xa_by_and, nI_m1, Nat.add_sub_cancel, Nat.reducePow, Nat.zero_add, Nat.add_zero, Nat.reduceAdd, Nat.reduceMul, Nat.reduceSub, xf_same, xq_ff, xq_fo, xf_1, xf_2, xs_1, xs_2, xs_same, xq_so, xj_1, xj_2, xj_same, xq_jo, xq_sa1, xq_same, xq_other, upd_s, oI_n, oI_s, xv_0, xv_1, xv_2, xv_3, xm_p1, xm_p2, xq_fp, xq_fn, List.filter_nil, Nat.reduceBEq, Bool.not_true, Bool.not_false, Bool.and_true, Bool.and_false, Bool.false_and, Bool.true_and, if_true, if_false, Bool.false_eq_true, reduceIte, xc_i, xc_j, xc_r, xc_n, List.nil_append, List.cons_append, Option.toList_some, Option.toList_none, nI_ltJ, nI_leJ, nI_eqJ, nI_ltz, nI_gez, nI_gtz, nI_lez, nI_eqz, m1_ltz, m1_gez, true_imp_iff, false_imp_iff, true_and, and_true, ne_eq, not_false_eq_true, not_true_eq_false, Nat.reduceEqDiff, Nat.reduceLT, Nat.reduceLeDiff, xf_46_1 F1, y5]
    refine ⟨fun c195 => ?_, fun c => absurd (by omega) c⟩
    with_reducible refine xm_go_blk b_X9_tell_210 k_X9_tell_210 ?_
    refine by_aload_n rfl ?_
    refine by_aload_n rfl ?_
    refine by_inv1 cn_160 lk_9_82 (by rw [xe_cnt]; decide) is_145 np_145 cn_145 (by first | exact rfl | assumption) (Nat.le_of_ble_eq_true rfl) ?_
    refine sp_judgeRows (d := d + 1) hpp hX0 hG hcn (by omega) (fun z => ?_) (fun h2 z1 z2 f2 => ?_) (fun h2 z1 z2 f2 => ?_)
    · with_reducible refine xm_go_blk b_X9_tell_215 k_X9_tell_215 ?_
      refine by_istore (by rw [ml_160]; decide) ?_
      refine by_iload rfl ?_
      refine by_if_eq 225 rfl ?_
      simp (disch := first | exact Nat.ne_of_beq_eq_false rfl | exact rfl | omega) only [nI_add, xa_sub, xa_mul, pk_div, nm_mod, xa_shr, xa_and7, xa_and1, xa_and255, xa_by_and, nI_m1, Nat.add_sub_cancel, Nat.reducePow, Nat.zero_add, Nat.add_zero, Nat.reduceAdd, Nat.reduceMul, Nat.reduceSub, xf_same, xq_ff, xq_fo, xf_1, xf_2, xs_1, xs_2, xs_same, xq_so, xj_1, xj_2, xj_same, xq_jo, xq_sa1, xq_same, xq_other, upd_s, oI_n, oI_s, xv_0, xv_1, xv_2, xv_3, xm_p1, xm_p2, xq_fp, xq_fn, List.filter_nil, Nat.reduceBEq, Bool.not_true, Bool.not_false, Bool.and_true, Bool.and_false, Bool.false_and, Bool.true_and, if_true, if_false, Bool.false_eq_true, reduceIte, xc_i, xc_j, xc_r, xc_n, List.nil_append, List.cons_append, Option.toList_some, Option.toList_none, nI_ltJ, nI_leJ, nI_eqJ, nI_ltz, nI_gez, nI_gtz, nI_lez, nI_eqz, m1_ltz, m1_gez, true_imp_iff, false_imp_iff, true_and, and_true, ne_eq, not_false_eq_true, not_true_eq_false, Nat.reduceEqDiff, Nat.reduceLT, Nat.reduceLeDiff]
      with_reducible refine xm_go_blk b_X9_tell_222 k_X9_tell_222 ?_
      refine by_iload rfl ?_
      refine by_iret ry_160 (by first | rfl | assumption) ?_
      exact hp h 10 [] (Or.inr ⟨by omega, Or.inl ⟨z, rfl⟩⟩) Fr_rf (fun z => by omega)
    · with_reducible refine xm_go_blk b_X9_tell_215 k_X9_tell_215 ?_
      refine by_istore (by rw [ml_160]; decide) ?_
      refine by_iload rfl ?_
      refine by_if_eq 225 rfl ?_
      simp (disch := first | exact Nat.ne_of_beq_eq_false rfl | exact rfl | omega) only [nI_add, xa_sub, xa_mul, pk_div, nm_mod, xa_shr, xa_and7, xa_and1, xa_and255, xa_by_and, nI_m1, Nat.add_sub_cancel, Nat.reducePow, Nat.zero_add, Nat.add_zero, Nat.reduceAdd, Nat.reduceMul, Nat.reduceSub, xf_same, xq_ff, xq_fo, xf_1, xf_2, xs_1, xs_2, xs_same, xq_so, xj_1, xj_2, xj_same, xq_jo, xq_sa1, xq_same, xq_other, upd_s, oI_n, oI_s, xv_0, xv_1, xv_2, xv_3, xm_p1, xm_p2, xq_fp, xq_fn, List.filter_nil, Nat.reduceBEq, Bool.not_true, Bool.not_false, Bool.and_true, Bool.and_false, Bool.false_and, Bool.true_and, if_true, if_false, Bool.false_eq_true, reduceIte, xc_i, xc_j, xc_r, xc_n, List.nil_append, List.cons_append, Option.toList_some, Option.toList_none, nI_ltJ, nI_leJ, nI_eqJ, nI_ltz, nI_gez, nI_gtz, nI_lez, nI_eqz, m1_ltz, m1_gez, true_imp_iff, false_imp_iff, true_and, and_true, ne_eq, not_false_eq_true, not_true_eq_false, Nat.reduceEqDiff, Nat.reduceLT, Nat.reduceLeDiff]
      with_reducible refine xm_go_blk b_X9_tell_222 k_X9_tell_222 ?_
      refine by_iload rfl ?_
      refine by_iret ry_160 (by first | rfl | assumption) ?_
      exact hp h2 11 [] (Or.inr ⟨by omega, Or.inr ⟨z1, Or.inl ⟨z2, rfl⟩⟩⟩) f2 (fun z => by omega)
    · have X2 := xW_fr hpp hX0 f2
      have N2 : xN h2 pp G c1 c2 L2 := by
        have q : pp + 2 ∉ jwR pp ∧ pp + 3 ∉ jwR pp ∧ pp + 4 ∉ jwR pp ∧ pp + 11 ∉ jwR pp ∧ 9 ∉ jwR pp := by rcases hpp with rfl | rfl <;> (repeat' apply And.intro) <;> decide
        intro m hm
        rw [f2.1 _ q.1, f2.1 _ q.2.1, f2.1 _ q.2.2.1, f2.1 _ q.2.2.2.1, f2.1 _ q.2.2.2.2]
        exact hN m hm
      with_reducible refine xm_go_blk b_X9_tell_215 k_X9_tell_215 ?_
      refine by_istore (by rw [ml_160]; decide) ?_
      refine by_iload rfl ?_
      refine by_if_eq 225 rfl ?_
      simp (disch := first | exact Nat.ne_of_beq_eq_false rfl | exact rfl | omega) only [nI_add, xa_sub, xa_mul, pk_div, nm_mod, xa_shr, xa_and7, xa_and1, xa_and255, xa_by_and, nI_m1, Nat.add_sub_cancel, Nat.reducePow, Nat.zero_add, Nat.add_zero, Nat.reduceAdd, Nat.reduceMul, Nat.reduceSub, xf_same, xq_ff, xq_fo, xf_1, xf_2, xs_1, xs_2, xs_same, xq_so, xj_1, xj_2, xj_same, xq_jo, xq_sa1, xq_same, xq_other, upd_s, oI_n, oI_s, xv_0, xv_1, xv_2, xv_3, xm_p1, xm_p2, xq_fp, xq_fn, List.filter_nil, Nat.reduceBEq, Bool.not_true, Bool.not_false, Bool.and_true, Bool.and_false, Bool.false_and, Bool.true_and, if_true, if_false, Bool.false_eq_true, reduceIte, xc_i, xc_j, xc_r, xc_n, List.nil_append, List.cons_append, Option.toList_some, Option.toList_none, nI_ltJ, nI_leJ, nI_eqJ, nI_ltz, nI_gez, nI_gtz, nI_lez, nI_eqz, m1_ltz, m1_gez, true_imp_iff, false_imp_iff, true_and, and_true, ne_eq, not_false_eq_true, not_true_eq_false, Nat.reduceEqDiff, Nat.reduceLT, Nat.reduceLeDiff]
      with_reducible refine xm_go_blk b_X9_tell_225 k_X9_tell_225 ?_
      refine by_aload_n rfl ?_
      refine by_inv0 cn_160 lk_9_86 (by rw [xe_cnt]; decide) is_128 np_128 cn_128 (by first | exact rfl | assumption | exact ps_12 hpp) (Nat.le_of_ble_eq_true rfl) ?_
      refine sp_penclr X2.1 (fun h3 f3 p3 p3' => ?_)
      have f3' : Fr [6] wpT h2 h3 := Fr_mo f3 (by simp) (by simp)
      with_reducible refine xm_go_blk b_X9_tell_229 k_X9_tell_229 ?_
      refine by_aload_n rfl ?_
      refine by_aload_n rfl ?_
      refine by_inv1 cn_160 lk_9_89 (by rw [xe_cnt]; decide) is_162 np_162 cn_162 (by first | exact rfl | assumption) (Nat.le_of_ble_eq_true rfl) ?_
      refine sp_xwriteProgram (d := d) hpp (xW_f6 hpp X2 f3') (xN_fr hpp N2 f3') hl1 (by omega) hG ⟨fun x hx => (nomatch hx), Or.inl (penB_0 (by simpa using p3.1) (by simpa using p3.2.1) p3')⟩ (fun h4 l4 f4 b4 o4 => ?_)
      have ov := penW_ov b4
      have fz : Fr [6, pp + 24] (jwT pp) h h4 := Fr_tr f2 (Fr_mo (Fr_tr f3' f4 (fun _ z => z) (fun _ z => z)) (by simp) (by simp [wpT, jwT])) (fun _ z => z) (fun _ z => z)
      by_cases e : l4.length ≤ 65536
      · rw [if_pos e] at ov
        have el := ovB_le o4 e
        with_reducible refine xm_go_blk b_X9_tell_234 k_X9_tell_234 ?_
        refine by_aload_n rfl ?_
        refine by_getf cn_160 fl_9_93 (by first | exact rfl | assumption | exact ps_12 hpp) (by decide) ?_
        simp (disch := first | exact Nat.ne_of_beq_eq_false rfl | exact rfl | omega) only [nI_add, xa_sub, xa_mul, pk_div, nm_mod, xa_shr, xa_and7, xa_and1, xa_and255, xa_by_and, nI_m1, Nat.add_sub_cancel, Nat.reducePow, Nat.zero_add, Nat.add_zero, Nat.reduceAdd, Nat.reduceMul, Nat.reduceSub, xf_same, xq_ff, xq_fo, xf_1, xf_2, xs_1, xs_2, xs_same, xq_so, xj_1, xj_2, xj_same, xq_jo, xq_sa1, xq_same, xq_other, upd_s, oI_n, oI_s, ov]
        refine by_if_eq 245 rfl ?_
        simp (disch := first | exact Nat.ne_of_beq_eq_false rfl | exact rfl | omega) only [nI_add, xa_sub, xa_mul, pk_div, nm_mod, xa_shr, xa_and7, xa_and1, xa_and255, xa_by_and, nI_m1, Nat.add_sub_cancel, Nat.reducePow, Nat.zero_add, Nat.add_zero, Nat.reduceAdd, Nat.reduceMul, Nat.reduceSub, xf_same, xq_ff, xq_fo, xf_1, xf_2, xs_1, xs_2, xs_same, xq_so, xj_1, xj_2, xj_same, xq_jo, xq_sa1, xq_same, xq_other, upd_s, oI_n, oI_s, xv_0, xv_1, xv_2, xv_3, xm_p1, xm_p2, xq_fp, xq_fn, List.filter_nil, Nat.reduceBEq, Bool.not_true, Bool.not_false, Bool.and_true, Bool.and_false, Bool.false_and, Bool.true_and, if_true, if_false, Bool.false_eq_true, reduceIte, xc_i, xc_j, xc_r, xc_n, List.nil_append, List.cons_append, Option.toList_some, Option.toList_none, nI_ltJ, nI_leJ, nI_eqJ, nI_ltz, nI_gez, nI_gtz, nI_lez, nI_eqz, m1_ltz, m1_gez, true_imp_iff, false_imp_iff, true_and, and_true, ne_eq, not_false_eq_true, not_true_eq_false, Nat.reduceEqDiff, Nat.reduceLT, Nat.reduceLeDiff, ov]
        with_reducible refine xm_go_blk b_X9_tell_245 k_X9_tell_245 ?_
        refine by_iconst ci_0 ?_
        refine by_nil ?_
        with_reducible refine xm_go_blk b_X9_tell_246 k_X9_tell_246 ?_
        refine by_iret ry_160 (by first | rfl | assumption) ?_
        refine hp h4 0 l4 (Or.inr ⟨by omega, Or.inr ⟨z1, Or.inr ⟨z2, Or.inr ⟨by rw [← el]; exact e, rfl, el⟩⟩⟩⟩) fz (fun _ => ?_)
        rcases b4.2 with z | z
        · exact z
        · omega
      · rw [if_neg e] at ov
        with_reducible refine xm_go_blk b_X9_tell_234 k_X9_tell_234 ?_
        refine by_aload_n rfl ?_
        refine by_getf cn_160 fl_9_93 (by first | exact rfl | assumption | exact ps_12 hpp) (by decide) ?_
        simp (disch := first | exact Nat.ne_of_beq_eq_false rfl | exact rfl | omega) only [nI_add, xa_sub, xa_mul, pk_div, nm_mod, xa_shr, xa_and7, xa_and1, xa_and255, xa_by_and, nI_m1, Nat.add_sub_cancel, Nat.reducePow, Nat.zero_add, Nat.add_zero, Nat.reduceAdd, Nat.reduceMul, Nat.reduceSub, xf_same, xq_ff, xq_fo, xf_1, xf_2, xs_1, xs_2, xs_same, xq_so, xj_1, xj_2, xj_same, xq_jo, xq_sa1, xq_same, xq_other, upd_s, oI_n, oI_s, ov]
        refine by_if_eq 245 rfl ?_
        simp (disch := first | exact Nat.ne_of_beq_eq_false rfl | exact rfl | omega) only [nI_add, xa_sub, xa_mul, pk_div, nm_mod, xa_shr, xa_and7, xa_and1, xa_and255, xa_by_and, nI_m1, Nat.add_sub_cancel, Nat.reducePow, Nat.zero_add, Nat.add_zero, Nat.reduceAdd, Nat.reduceMul, Nat.reduceSub, xf_same, xq_ff, xq_fo, xf_1, xf_2, xs_1, xs_2, xs_same, xq_so, xj_1, xj_2, xj_same, xq_jo, xq_sa1, xq_same, xq_other, upd_s, oI_n, oI_s, xv_0, xv_1, xv_2, xv_3, xm_p1, xm_p2, xq_fp, xq_fn, List.filter_nil, Nat.reduceBEq, Bool.not_true, Bool.not_false, Bool.and_true, Bool.and_false, Bool.false_and, Bool.true_and, if_true, if_false, Bool.false_eq_true, reduceIte, xc_i, xc_j, xc_r, xc_n, List.nil_append, List.cons_append, Option.toList_some, Option.toList_none, nI_ltJ, nI_leJ, nI_eqJ, nI_ltz, nI_gez, nI_gtz, nI_lez, nI_eqz, m1_ltz, m1_gez, true_imp_iff, false_imp_iff, true_and, and_true, ne_eq, not_false_eq_true, not_true_eq_false, Nat.reduceEqDiff, Nat.reduceLT, Nat.reduceLeDiff, ov]
        with_reducible refine xm_go_blk b_X9_tell_241 k_X9_tell_241 ?_
        refine by_iconst ci_4 ?_
        refine by_goto 246 rfl ?_
        with_reducible refine xm_go_blk b_X9_tell_246 k_X9_tell_246 ?_
        refine by_iret ry_160 (by first | rfl | assumption) ?_
        exact hp h4 4 [] (Or.inr ⟨by omega, Or.inr ⟨z1, Or.inr ⟨z2, Or.inl ⟨ovB_gt o4 e, rfl⟩⟩⟩⟩) fz (fun z => by omega)
/-- from merging on -/
theorem tl_163 (hpp : pp = 52 ∨ pp = 77) (hF : XF h) (h9 : h.2.2 46 9 = .ref 1) (h10 : h.2.2 46 10 = .ref pp) (hr : rowIs h 1 2 t) (hO : ordI h W) (hW : W < 1000000) (hx : Nat → Nat) (hC : cG0 h pp G hx nh) (hnh : 64 * nh ≤ 8192) (hI : sInv t (NL ++ [(w, n)]) G []) (hT : tyT h pp cn tr K Lf R) (hcn : cn ≤ 14026) (hY : tyN h pp (sCd G) L S T cn tr) (hj : ¬ jdW (sCd G) L S T) (hs : h.2.2 7 2 = .int (nI L.length)) (hl : ∀ i, i < L.length → h.1 8 i = nI (L.getD i 0)) (ho : df_out (sC1 G) (sC2 G) n L)
    (hp : ∀ h' a bl, SyT t G L n S T a bl → Fr (tlR pp) (tlT pp) h h' → ordI h' (W + 1) → fxA h' ∨ ¬ fxA h → (a = 0 → penB h' bl) → post (some (.int (nI a))) h') :
    xm_go (XE sc) (xm_T (XE sc) (d + 6)) 160 post 163 [(5, .int (nI n)), (0, .ref 46), (3, .ref 5)] [] h := by
  obtain ⟨i1, i2, i3, ⟨rk, i4⟩, i5, i6, i7⟩ := sI_all hI
  obtain ⟨lnd, lN, lcl, lm, l1, _⟩ := i7 L ho
  have hK := cG0_K hI hC
  have hD : mgD h pp (sCt G) (sCd G) hx (sC1 G) (sC2 G) := ⟨hK, fun m hm e => by
    obtain ⟨_, _, _, _, _, a6⟩ := hC m hm
    obtain ⟨a61, a62, _⟩ := a6 e
    exact ⟨a61, by omega⟩⟩
  with_reducible refine xm_go_blk b_X9_tell_163 k_X9_tell_163 ?_
  refine by_aload_n rfl ?_
  refine by_getf cn_160 fl_9_28 (by first | exact rfl | assumption) (by decide) ?_
  refine by_aload_n rfl ?_
  refine by_getf cn_160 fl_9_36 (by first | exact rfl | assumption) (by decide) ?_
  simp (disch := first | exact Nat.ne_of_beq_eq_false rfl | exact rfl | omega) only [nI_add, xa_sub, xa_mul, pk_div, nm_mod, xa_shr, xa_and7, xa_and1, xa_and255, xa_by_and, nI_m1, Nat.add_sub_cancel, Nat.reducePow, Nat.zero_add, Nat.add_zero, Nat.reduceAdd, Nat.reduceMul, Nat.reduceSub, xf_same, xq_ff, xq_fo, xf_1, xf_2, xs_1, xs_2, xs_same, xq_so, xj_1, xj_2, xj_same, xq_jo, xq_sa1, xq_same, xq_other, upd_s, oI_n, oI_s, xv_0, xv_1, xv_2, xv_3, xm_p1, xm_p2, xq_fp, xq_fn, List.filter_nil, Nat.reduceBEq, Bool.not_true, Bool.not_false, Bool.and_true, Bool.and_false, Bool.false_and, Bool.true_and, if_true, if_false, Bool.false_eq_true, reduceIte, xc_i, xc_j, xc_r, xc_n, List.nil_append, List.cons_append, Option.toList_some, Option.toList_none, xf_46_1 hF, h10]
  refine by_inv1 cn_160 lk_9_72 (by rw [xe_cnt]; decide) is_93 np_93 cn_93 (by first | exact rfl | assumption) (Nat.le_of_ble_eq_true rfl) ?_
  refine sp_merge (d := d + 3) hF hpp i1 hD hs hl lN lnd lcl (fun h3 tw cnt hJ hc1 hc2 => ?_)
  obtain ⟨j1, j2, j3, j4, j5, j6⟩ := hJ
  have jw := twR_congr (sm' := smG G S T) j5 (fun a b ha hb => mgK_G hI hC hT hcn hY lN ha hb)
  have q : 10 ∉ mgR2 pp ∧ 2 ∉ mgR2 pp ∧ pp + 1 ∉ mgR2 pp ∧ pp + 4 ∉ mgR2 pp ∧ pp + 5 ∉ mgR2 pp ∧ pp + 6 ∉ mgR2 pp ∧ pp + 7 ∉ mgR2 pp ∧ pp + 11 ∉ mgR2 pp ∧ (∀ q, q ∈ taR pp → q ∉ mgR2 pp) := by rcases hpp with rfl | rfl <;> (repeat' apply And.intro) <;> decide
  obtain ⟨q10, q2, qp1, qp4, qp5, qp6, qp7, qp11, qta⟩ := q
  have x10 : h3.2.2 46 10 = .ref pp := by rw [j2.2.2 _ _ (by simp)]; exact h10
  have e12 := (j4 n lm).1
  have tl := lN _ (j4 n lm).2
  have nl := lN n lm
  with_reducible refine xm_go_blk b_X9_tell_174 k_X9_tell_174 ?_
  refine by_pop rfl ?_
  refine by_aload_n rfl ?_
  refine by_getf cn_160 fl_9_28 (by first | exact rfl | assumption) (by decide) ?_
  refine by_aload_n rfl ?_
  refine by_getf cn_160 fl_9_36 (by first | exact rfl | assumption) (by decide) ?_
  refine by_aload_n rfl ?_
  refine by_getf cn_160 fl_9_28 (by first | exact rfl | assumption) (by decide) ?_
  refine by_iload rfl ?_
  simp (disch := first | exact Nat.ne_of_beq_eq_false rfl | exact rfl | omega) only [nI_add, xa_sub, xa_mul, pk_div, nm_mod, xa_shr, xa_and7, xa_and1, xa_and255, xa_by_and, nI_m1, Nat.add_sub_cancel, Nat.reducePow, Nat.zero_add, Nat.add_zero, Nat.reduceAdd, Nat.reduceMul, Nat.reduceSub, xf_same, xq_ff, xq_fo, xf_1, xf_2, xs_1, xs_2, xs_same, xq_so, xj_1, xj_2, xj_same, xq_jo, xq_sa1, xq_same, xq_other, upd_s, oI_n, oI_s, xv_0, xv_1, xv_2, xv_3, xm_p1, xm_p2, xq_fp, xq_fn, List.filter_nil, Nat.reduceBEq, Bool.not_true, Bool.not_false, Bool.and_true, Bool.and_false, Bool.false_and, Bool.true_and, if_true, if_false, Bool.false_eq_true, reduceIte, xc_i, xc_j, xc_r, xc_n, List.nil_append, List.cons_append, Option.toList_some, Option.toList_none, xf_46_1 j1, x10, xf_7_5 j1, e12]
  refine by_inv1 cn_160 lk_9_75 (by rw [xe_cnt]; decide) is_94 np_94 cn_94 (by first | exact rfl | assumption) (Nat.le_of_ble_eq_true rfl) ?_
  refine xq_in rfl ?_
  simp only [xq_a0, xq_aI, xq_aJ, xq_aR, Nat.reduceAdd]
  with_reducible refine xm_go_blk b_X5_mergedInto_0 k_X5_mergedInto_0 ?_
  refine by_aload_n rfl ?_
  refine by_getf cn_94 fl_5_24 (by first | exact rfl | assumption) (by decide) ?_
  refine by_iload_n rfl ?_
  simp (disch := first | exact Nat.ne_of_beq_eq_false rfl | exact rfl | omega) only [nI_add, xa_sub, xa_mul, pk_div, nm_mod, xa_shr, xa_and7, xa_and1, xa_and255, xa_by_and, nI_m1, Nat.add_sub_cancel, Nat.reducePow, Nat.zero_add, Nat.add_zero, Nat.reduceAdd, Nat.reduceMul, Nat.reduceSub, xf_same, xq_ff, xq_fo, xf_1, xf_2, xs_1, xs_2, xs_same, xq_so, xj_1, xj_2, xj_same, xq_jo, xq_sa1, xq_same, xq_other, upd_s, oI_n, oI_s, xf_46_1 j1, x10, xf_7_5 j1, e12]
  first | refine by_iald (by first | exact rfl | assumption | exact ps_1 hpp | exact ps_2 hpp | exact ps_3 hpp | exact ps_4 hpp | exact ps_5 hpp | exact ps_6 hpp | exact ps_7 hpp | exact ps_8 hpp | exact ps_9 hpp | exact ps_10 hpp | exact ps_11 hpp | exact ps_15 hpp | exact ps_16 hpp | exact ps_17 hpp | exact ps_18 hpp | exact ps_19 hpp | exact ps_21 hpp | exact ps_22 hpp | exact ps_23 hpp | exact ps_24 hpp) ⟨by omega, by omega⟩ ?_ | refine by_tald rfl rfl ⟨by omega, by omega⟩ ?_
  simp (disch := first | exact Nat.ne_of_beq_eq_false rfl | exact rfl | omega) only [nI_add, xa_sub, xa_mul, pk_div, nm_mod, xa_shr, xa_and7, xa_and1, xa_and255, xa_by_and, nI_m1, Nat.add_sub_cancel, Nat.reducePow, Nat.zero_add, Nat.add_zero, Nat.reduceAdd, Nat.reduceMul, Nat.reduceSub, xf_same, xq_ff, xq_fo, xf_1, xf_2, xs_1, xs_2, xs_same, xq_so, xj_1, xj_2, xj_same, xq_jo, xq_sa1, xq_same, xq_other, upd_s, oI_n, oI_s, xf_46_1 j1, x10, xf_7_5 j1, e12]
  refine by_iret ry_94 (by first | rfl | assumption) ?_
  with_reducible refine xm_go_blk b_X9_tell_192 k_X9_tell_192 ?_
  refine by_inv2 cn_160 lk_9_62 (by rw [xe_cnt]; decide) is_97 np_97 cn_97 (by first | exact rfl | assumption) (Nat.le_of_ble_eq_true rfl) ?_
  have r2 : ∀ m, m < sCt G → h3.1 (pp + 2) m = oI (mC (sC1 G) L tw m) := fun m hm => by
    by_cases z : m ∈ L
    · rw [mC_i z]; exact ((j3 m hm).1 z).1
    · rw [mC_o z]; exact ((j3 m hm).2 z).1
  have r3 : ∀ m, m < sCt G → h3.1 (pp + 3) m = oI (mC (sC2 G) L tw m) := fun m hm => by
    by_cases z : m ∈ L
    · rw [mC_i z]; exact ((j3 m hm).1 z).2
    · rw [mC_o z]; exact ((j3 m hm).2 z).2
  have cN2 := mC_cN lcl lN i3 jw
  refine sp_walk (d := d + 5) hpp j1 (by rw [j2.2.2 _ _ (by simp)]; exact hO.1) hW (fun x hx => by rw [j2.1 _ q10]; exact hO.2 x hx) i1 tl r2 r3 cN2 (fun h4 L2 ho2 f4 hs4 hl4 hw4 hm4 hrow4 hsp4 => ?_)
  obtain ⟨l2nd, l2N, l2cl⟩ := df_out_cl cN2 (mC_ac lnd lcl i4 jw) tl ho2
  have l2L := mC_sub lcl jw lm ho2
  have l21 : 1 ≤ L2.length := by
    obtain ⟨o, z⟩ := df_last ho2
    rw [z]; simp
  have g : (46, 9) ∉ ([(7, 2), (7, 9)] : List (Nat × Nat)) ∧ (46, 10) ∉ ([(7, 2), (7, 9)] : List (Nat × Nat)) ∧ (1, 0) ∉ ([(7, 2), (7, 9)] : List (Nat × Nat)) ∧ (1, 1) ∉ ([(7, 2), (7, 9)] : List (Nat × Nat)) := by decide
  have k : pp + 1 ∉ [8, 9, 10, 11] ∧ pp + 2 ∉ [8, 9, 10, 11] ∧ pp + 3 ∉ [8, 9, 10, 11] ∧ pp + 4 ∉ [8, 9, 10, 11] ∧ pp + 5 ∉ [8, 9, 10, 11] ∧ pp + 7 ∉ [8, 9, 10, 11] ∧ pp + 11 ∉ [8, 9, 10, 11] ∧ (∀ q, q ∈ taR pp → q ∉ [8, 9, 10, 11]) ∧ (pp + 14, 0) ∉ ([(7, 2), (7, 9)] : List (Nat × Nat)) := by rcases hpp with rfl | rfl <;> (repeat' apply And.intro) <;> decide
  obtain ⟨k1, k2, k3, k4, k5, k7, k11, kta, k14⟩ := k
  have X4 : xW h4 pp t G L2 T cn tr K Lf R := by
    refine ⟨Fr_XF j1 f4 (by decide +kernel), by rw [f4.2.2 _ _ g.1, j2.2.2 _ _ (by simp)]; exact h9, by rw [f4.2.2 _ _ g.2.1]; exact x10, rowIs_fr (rowIs_fr hr j2 q2 (by simp) (by simp)) f4 (by simp) g.2.2.1 g.2.2.2, hs4, hrow4, tyT_fr (tyT_fr hT j2 (by simp) qta) f4 k14 kta, fun m hm => ?_⟩
    have hmL := l2L m hm
    have hmN := lN m hmL
    rw [f4.1 _ k1, f4.1 _ k4, f4.1 _ k5, f4.1 _ k7, j2.1 _ qp1, j2.1 _ qp4, j2.1 _ qp5, j2.1 _ qp7]
    obtain ⟨a1, a2, a3, a5, a4, a6⟩ := hC m hmN
    refine ⟨by omega, a1, a5, a4, fun e => ?_⟩
    obtain ⟨i, j, b1, b2, b3, b4, b5, b6⟩ := hY.1 m hmL (by omega)
    refine ⟨j, b2, b5, b6, Classical.byContradiction fun z => hj ⟨m, hmL, by omega, Or.inr (by omega)⟩⟩
  have N4 : xN h4 pp G (mC (sC1 G) L tw) (mC (sC2 G) L tw) L2 := by
    intro m hm
    have hmN := l2N m hm
    obtain ⟨il, ig⟩ := ixF_lt hm
    refine ⟨by rw [f4.1 _ k2]; exact r2 m hmN, by rw [f4.1 _ k3]; exact r3 m hmN, ?_, fun x hx => ?_, fun e => ?_⟩
    · have := hsp4 _ il
      rw [ig] at this
      exact this
    · obtain ⟨A, B, eL⟩ := List.append_of_mem hm
      have hxA := l2cl A m B eL x hx
      have hxL : x ∈ L2 := by rw [eL]; simp [hxA]
      refine ⟨hxL, ?_⟩
      obtain ⟨i, hi, ei⟩ := List.getElem_of_mem hxA
      have e1 : L2.getD i 0 = x := by
        rw [eL, List.getD_eq_getElem?_getD, List.getElem?_append_left hi, List.getElem?_eq_getElem hi, ei]; rfl
      have e2 : L2.getD A.length 0 = m := by rw [eL]; simp [List.getD]
      have ll : L2.length = A.length + (B.length + 1) := by rw [eL]; simp
      have z1 := ixF_of l2nd (i := i) (by omega)
      have z2 := ixF_of l2nd (i := A.length) (by omega)
      rw [e1] at z1
      rw [e2] at z2
      omega
    · obtain ⟨_, _, _, _, _, a6⟩ := hC m (lN m (l2L m hm))
      obtain ⟨a61, a62, a63⟩ := a6 e
      rw [f4.1 _ k4, f4.1 _ k11, j2.1 _ qp4, j2.1 _ qp11]
      exact ⟨hx m, a61, by omega, a63⟩
  have fx : Fr (tlR pp) (tlT pp) h h4 := Fr_tr (Fr_mo j2 (by simp [mgR2, tlR]) (by simp)) f4 (by simp [tlR]) (by simp [tlT])
  have qO : 10 ∉ jwR pp ∧ (7, 9) ∉ jwT pp ∧ 16 ∉ jwR pp ∧ 17 ∉ jwR pp ∧ 18 ∉ jwR pp ∧ 16 ∉ mgR2 pp ∧ 17 ∉ mgR2 pp ∧ 18 ∉ mgR2 pp := by rcases hpp with rfl | rfl <;> (repeat' apply And.intro) <;> decide
  refine xm_go_wk (by simp [Value.category]) (tl_195 hpp X4 N4 hcn l21 (by omega) (fun m hm => (i6 m (lN m (l2L m hm))).1) (fun h5 a bl hS f5 hb => hp h5 a bl ⟨tw, L2, jw, ho2, hS⟩ (Fr_tr fx f5 (by simp [tlR]) (by simp [jwT, tlT])) ⟨by rw [f5.2.2 _ _ qO.2.1]; exact hw4, fun x hx => by rw [f5.1 _ qO.1]; exact hm4 x hx⟩ ?_ hb))
  by_cases zA : fxA h
  · exact Or.inl (fxA_fr (fxA_fr (fxA_fr zA j2 qO.2.2.2.2.2.1 qO.2.2.2.2.2.2.1 qO.2.2.2.2.2.2.2) f4 (by simp) (by simp) (by simp)) f5 qO.2.2.1 qO.2.2.2.1 qO.2.2.2.2.1)
  · exact Or.inr zA
theorem tl_105 (hpp : pp = 52 ∨ pp = 77) (hE : cEd h pp t (NL ++ [(w, n)]) G p nh W) (hpt : p ≤ t.length) (hI : sInv t (NL ++ [(w, n)]) G []) (hfx : fxA h) (hW : W + 2 < 1000000)
    (hp : ∀ h' a bl W', SyG t G n a bl → Fr (tlR pp) (tlT pp) h h' → fxA h' → ordI h' W' → W' ≤ W + 2 → (a = 0 → penB h' bl) → post (some (.int (nI a))) h') :
    xm_go (XE sc) (xm_T (XE sc) (d + 6)) 160 post 105 [(0, .ref 46), (1, .ref 1), (2, .ref pp), (3, .ref 5)] [] h := by
  obtain ⟨i1, i2, i3, ⟨rk, i4⟩, i5, i6, i7⟩ := sI_all hI
  obtain ⟨F1, h9, h10, hr, hN, hO, ⟨g0, g15, hx, hC⟩, hnh, h13⟩ := hE
  obtain ⟨n1, n2, n3, n4, n5⟩ := hN
  have ht8 : t.length ≤ 8192 := hr.2.2.1
  have eN : (NL ++ [(w, n)]).length = NL.length + 1 := by simp
  have e49 : h.1 49 NL.length = nI n := by
    have := (n3 NL.length (by rw [eN]; omega)).2.1
    rw [this]; simp [List.getD]
  rw [eN] at n1 n2
  have hK := cG0_K hI hC
  with_reducible refine xm_go_blk b_X9_tell_105 k_X9_tell_105 ?_
  refine by_aload_n rfl ?_
  refine by_getf cn_160 fl_9_55 (by first | exact rfl | assumption) (by decide) ?_
  simp (disch := first | exact Nat.ne_of_beq_eq_false rfl | exact rfl | omega) only [nI_add, xa_sub, xa_mul, pk_div, nm_mod, xa_shr, xa_and7, xa_and1, xa_and255, xa_by_and, nI_m1, Nat.add_sub_cancel, Nat.reducePow, Nat.zero_add, Nat.add_zero, Nat.reduceAdd, Nat.reduceMul, Nat.reduceSub, xf_same, xq_ff, xq_fo, xf_1, xf_2, xs_1, xs_2, xs_same, xq_so, xj_1, xj_2, xj_same, xq_jo, xq_sa1, xq_same, xq_other, upd_s, oI_n, oI_s, n1, xf_46_4 F1, e49, xf_46_1 F1, h10]
  refine by_if_le 126 rfl ?_
  simp (disch := first | exact Nat.ne_of_beq_eq_false rfl | exact rfl | omega) only [nI_add, xa_sub, xa_mul, pk_div, nm_mod, xa_shr, xa_and7, xa_and1, xa_and255, xa_by_and, nI_m1, Nat.add_sub_cancel, Nat.reducePow, Nat.zero_add, Nat.add_zero, Nat.reduceAdd, Nat.reduceMul, Nat.reduceSub, xf_same, xq_ff, xq_fo, xf_1, xf_2, xs_1, xs_2, xs_same, xq_so, xj_1, xj_2, xj_same, xq_jo, xq_sa1, xq_same, xq_other, upd_s, oI_n, oI_s, xv_0, xv_1, xv_2, xv_3, xm_p1, xm_p2, xq_fp, xq_fn, List.filter_nil, Nat.reduceBEq, Bool.not_true, Bool.not_false, Bool.and_true, Bool.and_false, Bool.false_and, Bool.true_and, if_true, if_false, Bool.false_eq_true, reduceIte, xc_i, xc_j, xc_r, xc_n, List.nil_append, List.cons_append, Option.toList_some, Option.toList_none, nI_ltJ, nI_leJ, nI_eqJ, nI_ltz, nI_gez, nI_gtz, nI_lez, nI_eqz, m1_ltz, m1_gez, true_imp_iff, false_imp_iff, true_and, and_true, ne_eq, not_false_eq_true, not_true_eq_false, Nat.reduceEqDiff, Nat.reduceLT, Nat.reduceLeDiff, n1, xf_46_4 F1, e49, xf_46_1 F1, h10]
  with_reducible refine xm_go_blk b_X9_tell_112 k_X9_tell_112 ?_
  refine by_aload_n rfl ?_
  refine by_getf cn_160 fl_9_19 (by first | exact rfl | assumption) (by decide) ?_
  refine by_aload_n rfl ?_
  refine by_getf cn_160 fl_9_55 (by first | exact rfl | assumption) (by decide) ?_
  refine by_iconst ci_1 ?_
  simp (disch := first | exact Nat.ne_of_beq_eq_false rfl | exact rfl | omega) only [nI_add, xa_sub, xa_mul, pk_div, nm_mod, xa_shr, xa_and7, xa_and1, xa_and255, xa_by_and, nI_m1, Nat.add_sub_cancel, Nat.reducePow, Nat.zero_add, Nat.add_zero, Nat.reduceAdd, Nat.reduceMul, Nat.reduceSub, xf_same, xq_ff, xq_fo, xf_1, xf_2, xs_1, xs_2, xs_same, xq_so, xj_1, xj_2, xj_same, xq_jo, xq_sa1, xq_same, xq_other, upd_s, oI_n, oI_s, n1, xf_46_4 F1, e49, xf_46_1 F1, h10]
  refine by_isub ?_
  simp (disch := first | exact Nat.ne_of_beq_eq_false rfl | exact rfl | omega) only [nI_add, xa_sub, xa_mul, pk_div, nm_mod, xa_shr, xa_and7, xa_and1, xa_and255, xa_by_and, nI_m1, Nat.add_sub_cancel, Nat.reducePow, Nat.zero_add, Nat.add_zero, Nat.reduceAdd, Nat.reduceMul, Nat.reduceSub, xf_same, xq_ff, xq_fo, xf_1, xf_2, xs_1, xs_2, xs_same, xq_so, xj_1, xj_2, xj_same, xq_jo, xq_sa1, xq_same, xq_other, upd_s, oI_n, oI_s, n1, xf_46_4 F1, e49, xf_46_1 F1, h10]
  first | refine by_iald (by first | exact rfl | assumption | exact ps_1 hpp | exact ps_2 hpp | exact ps_3 hpp | exact ps_4 hpp | exact ps_5 hpp | exact ps_6 hpp | exact ps_7 hpp | exact ps_8 hpp | exact ps_9 hpp | exact ps_10 hpp | exact ps_11 hpp | exact ps_15 hpp | exact ps_16 hpp | exact ps_17 hpp | exact ps_18 hpp | exact ps_19 hpp | exact ps_21 hpp | exact ps_22 hpp | exact ps_23 hpp | exact ps_24 hpp) ⟨by omega, by omega⟩ ?_ | refine by_tald rfl rfl ⟨by omega, by omega⟩ ?_
  refine by_goto 127 rfl ?_
  try simp (disch := first | exact Nat.ne_of_beq_eq_false rfl | exact rfl | omega) only [nI_add, xa_sub, xa_mul, pk_div, nm_mod, xa_shr, xa_and7, xa_and1, xa_and255, xa_by_and, nI_m1, Nat.add_sub_cancel, Nat.reducePow, Nat.zero_add, Nat.add_zero, Nat.reduceAdd, Nat.reduceMul, Nat.reduceSub, xf_same, xq_ff, xq_fo, xf_1, xf_2, xs_1, xs_2, xs_same, xq_so, xj_1, xj_2, xj_same, xq_jo, xq_sa1, xq_same, xq_other, upd_s, oI_n, oI_s, xv_0, xv_1, xv_2, xv_3, xm_p1, xm_p2, xq_fp, xq_fn, List.filter_nil, Nat.reduceBEq, Bool.not_true, Bool.not_false, Bool.and_true, Bool.and_false, Bool.false_and, Bool.true_and, if_true, if_false, Bool.false_eq_true, reduceIte, xc_i, xc_j, xc_r, xc_n, List.nil_append, List.cons_append, Option.toList_some, Option.toList_none, n1, xf_46_4 F1, e49, xf_46_1 F1, h10]
  with_reducible refine xm_go_blk b_X9_tell_127 k_X9_tell_127 ?_
  refine by_istore (by rw [ml_160]; decide) ?_
  refine by_aload_n rfl ?_
  refine by_getf cn_160 fl_9_28 (by first | exact rfl | assumption) (by decide) ?_
  refine by_aload_n rfl ?_
  refine by_getf cn_160 fl_9_36 (by first | exact rfl | assumption) (by decide) ?_
  refine by_iload rfl ?_
  simp (disch := first | exact Nat.ne_of_beq_eq_false rfl | exact rfl | omega) only [nI_add, xa_sub, xa_mul, pk_div, nm_mod, xa_shr, xa_and7, xa_and1, xa_and255, xa_by_and, nI_m1, Nat.add_sub_cancel, Nat.reducePow, Nat.zero_add, Nat.add_zero, Nat.reduceAdd, Nat.reduceMul, Nat.reduceSub, xf_same, xq_ff, xq_fo, xf_1, xf_2, xs_1, xs_2, xs_same, xq_so, xj_1, xj_2, xj_same, xq_jo, xq_sa1, xq_same, xq_other, upd_s, oI_n, oI_s, xv_0, xv_1, xv_2, xv_3, xm_p1, xm_p2, xq_fp, xq_fn, List.filter_nil, Nat.reduceBEq, Bool.not_true, Bool.not_false, Bool.and_true, Bool.and_false, Bool.false_and, Bool.true_and, if_true, if_false, Bool.false_eq_true, reduceIte, xc_i, xc_j, xc_r, xc_n, List.nil_append, List.cons_append, Option.toList_some, Option.toList_none, n1, xf_46_4 F1, e49, xf_46_1 F1, h10]
  refine by_inv2 cn_160 lk_9_62 (by rw [xe_cnt]; decide) is_97 np_97 cn_97 (by first | exact rfl | assumption) (Nat.le_of_ble_eq_true rfl) ?_
  refine sp_walk (d := d + 5) hpp F1 hO.1 (by omega) hO.2 i1 i2 (fun m hm => (hC m hm).2.1) (fun m hm => (hC m hm).2.2.1) i3 (fun h1 L ho f1 hs hln hw1 hm1 hrow hsp => ?_)
  obtain ⟨lnd, lN, lcl, lm, l1, llast⟩ := i7 L ho
  have F2 : XF h1 := Fr_XF F1 f1 (by decide +kernel)
  have k : pp + 1 ∉ [8, 9, 10, 11] ∧ pp + 2 ∉ [8, 9, 10, 11] ∧ pp + 3 ∉ [8, 9, 10, 11] ∧ pp + 4 ∉ [8, 9, 10, 11] ∧ pp + 5 ∉ [8, 9, 10, 11] ∧ pp + 11 ∉ [8, 9, 10, 11] := by rcases hpp with rfl | rfl <;> (repeat' apply And.intro) <;> decide
  obtain ⟨k1, k2, k3, k4, k5, k11⟩ := k
  have C1 := cG0_fr hC f1 k1 k2 k3 k4 k5 k11
  have A1 := fxA_fr hfx f1 (by simp) (by simp) (by simp)
  have x10 : h1.2.2 46 10 = .ref pp := by rw [f1.2.2 _ _ (by simp)]; exact h10
  have x9 : h1.2.2 46 9 = .ref 1 := by rw [f1.2.2 _ _ (by simp)]; exact h9
  have O1 : ordI h1 (W + 1) := ⟨hw1, hm1⟩
  have G1 : Fr (tlR pp) (tlT pp) h h1 := Fr_mo f1 (by simp [tlR]) (by simp [tlT])
  with_reducible refine xm_go_blk b_X9_tell_142 k_X9_tell_142 ?_
  refine by_aload_n rfl ?_
  refine by_getf cn_160 fl_9_28 (by first | exact rfl | assumption) (by decide) ?_
  refine by_aload_n rfl ?_
  refine by_getf cn_160 fl_9_36 (by first | exact rfl | assumption) (by decide) ?_
  simp (disch := first | exact Nat.ne_of_beq_eq_false rfl | exact rfl | omega) only [nI_add, xa_sub, xa_mul, pk_div, nm_mod, xa_shr, xa_and7, xa_and1, xa_and255, xa_by_and, nI_m1, Nat.add_sub_cancel, Nat.reducePow, Nat.zero_add, Nat.add_zero, Nat.reduceAdd, Nat.reduceMul, Nat.reduceSub, xf_same, xq_ff, xq_fo, xf_1, xf_2, xs_1, xs_2, xs_same, xq_so, xj_1, xj_2, xj_same, xq_jo, xq_sa1, xq_same, xq_other, upd_s, oI_n, oI_s, xv_0, xv_1, xv_2, xv_3, xm_p1, xm_p2, xq_fp, xq_fn, List.filter_nil, Nat.reduceBEq, Bool.not_true, Bool.not_false, Bool.and_true, Bool.and_false, Bool.false_and, Bool.true_and, if_true, if_false, Bool.false_eq_true, reduceIte, xc_i, xc_j, xc_r, xc_n, List.nil_append, List.cons_append, Option.toList_some, Option.toList_none, xf_46_1 F2, x10]
  refine by_inv1 cn_160 lk_9_68 (by rw [xe_cnt]; decide) is_92 np_92 cn_92 (by first | exact rfl | assumption) (Nat.le_of_ble_eq_true rfl) ?_
  refine sp_judge (d := d) (nu := sNu G) F2 hpp i1 (cG0_K hI C1) i5 (fun m hm e => ⟨(C1 m hm).2.2.2.2.1 (by omega), (i6 m hm).1.2.1 e⟩) A1 hs hrow lN lnd lcl l1 (fun z => ?_) (fun h2 q1 q2 f2 A2 hno => ?_) (fun h2 S T cn tr K Lf R w2 q1 q2 f2 A2 hlst hT hcn0 hY hw hw' => ?_)
  · rw [llast] at z
    with_reducible refine xm_go_blk b_X9_tell_153 k_X9_tell_153 ?_
    refine by_istore (by rw [ml_160]; decide) ?_
    refine by_iload rfl ?_
    refine by_if_eq 163 rfl ?_
    simp (disch := first | exact Nat.ne_of_beq_eq_false rfl | exact rfl | omega) only [nI_add, xa_sub, xa_mul, pk_div, nm_mod, xa_shr, xa_and7, xa_and1, xa_and255, xa_by_and, nI_m1, Nat.add_sub_cancel, Nat.reducePow, Nat.zero_add, Nat.add_zero, Nat.reduceAdd, Nat.reduceMul, Nat.reduceSub, xf_same, xq_ff, xq_fo, xf_1, xf_2, xs_1, xs_2, xs_same, xq_so, xj_1, xj_2, xj_same, xq_jo, xq_sa1, xq_same, xq_other, upd_s, oI_n, oI_s, xv_0, xv_1, xv_2, xv_3, xm_p1, xm_p2, xq_fp, xq_fn, List.filter_nil, Nat.reduceBEq, Bool.not_true, Bool.not_false, Bool.and_true, Bool.and_false, Bool.false_and, Bool.true_and, if_true, if_false, Bool.false_eq_true, reduceIte, xc_i, xc_j, xc_r, xc_n, List.nil_append, List.cons_append, Option.toList_some, Option.toList_none, nI_ltJ, nI_leJ, nI_eqJ, nI_ltz, nI_gez, nI_gtz, nI_lez, nI_eqz, m1_ltz, m1_gez, true_imp_iff, false_imp_iff, true_and, and_true, ne_eq, not_false_eq_true, not_true_eq_false, Nat.reduceEqDiff, Nat.reduceLT, Nat.reduceLeDiff]
    with_reducible refine xm_go_blk b_X9_tell_160 k_X9_tell_160 ?_
    refine by_iload rfl ?_
    refine by_iret ry_160 (by first | rfl | assumption) ?_
    exact hp h1 7 [] (W + 1) ⟨L, ho, Or.inl ⟨z, rfl⟩⟩ G1 A1 O1 (by omega) (fun z => by omega)
  · rw [llast] at q1
    have nb : ¬ sBad G L n := by
      rintro (z | ⟨m, m1, m2⟩)
      · exact q1 z
      · rw [q2 m m1] at m2; cases m2
    have qs : 10 ∉ slR pp ∧ (7, 9) ∉ slT pp := by rcases hpp with rfl | rfl <;> decide
    have O2 : ordI h2 (W + 1) := ⟨by rw [f2.2.2 _ _ qs.2]; exact O1.1, fun x hx => by rw [f2.1 10 qs.1]; exact O1.2 x hx⟩
    with_reducible refine xm_go_blk b_X9_tell_153 k_X9_tell_153 ?_
    refine by_istore (by rw [ml_160]; decide) ?_
    refine by_iload rfl ?_
    refine by_if_eq 163 rfl ?_
    simp (disch := first | exact Nat.ne_of_beq_eq_false rfl | exact rfl | omega) only [nI_add, xa_sub, xa_mul, pk_div, nm_mod, xa_shr, xa_and7, xa_and1, xa_and255, xa_by_and, nI_m1, Nat.add_sub_cancel, Nat.reducePow, Nat.zero_add, Nat.add_zero, Nat.reduceAdd, Nat.reduceMul, Nat.reduceSub, xf_same, xq_ff, xq_fo, xf_1, xf_2, xs_1, xs_2, xs_same, xq_so, xj_1, xj_2, xj_same, xq_jo, xq_sa1, xq_same, xq_other, upd_s, oI_n, oI_s, xv_0, xv_1, xv_2, xv_3, xm_p1, xm_p2, xq_fp, xq_fn, List.filter_nil, Nat.reduceBEq, Bool.not_true, Bool.not_false, Bool.and_true, Bool.and_false, Bool.false_and, Bool.true_and, if_true, if_false, Bool.false_eq_true, reduceIte, xc_i, xc_j, xc_r, xc_n, List.nil_append, List.cons_append, Option.toList_some, Option.toList_none, nI_ltJ, nI_leJ, nI_eqJ, nI_ltz, nI_gez, nI_gtz, nI_lez, nI_eqz, m1_ltz, m1_gez, true_imp_iff, false_imp_iff, true_and, and_true, ne_eq, not_false_eq_true, not_true_eq_false, Nat.reduceEqDiff, Nat.reduceLT, Nat.reduceLeDiff]
    with_reducible refine xm_go_blk b_X9_tell_160 k_X9_tell_160 ?_
    refine by_iload rfl ?_
    refine by_iret ry_160 (by first | rfl | assumption) ?_
    exact hp h2 8 [] (W + 1) ⟨L, ho, Or.inr ⟨nb, Or.inl ⟨hno, rfl⟩⟩⟩ (Fr_tr G1 f2 (by simp [slR, tlR]) (by simp [slT, tlT])) A2 O2 (by omega) (fun z => by omega)
  · rw [llast] at q1
    have nb : ¬ sBad G L n := by
      rintro (z | ⟨m, m1, m2⟩)
      · exact q1 z
      · rw [q2 m m1] at m2; cases m2
    have qs : 10 ∉ slR pp ∧ (7, 9) ∉ slT pp ∧ (46, 9) ∉ slT pp ∧ (46, 10) ∉ slT pp ∧ (1, 0) ∉ slT pp ∧ (1, 1) ∉ slT pp ∧ (7, 2) ∉ slT pp ∧ 2 ∉ slR pp ∧ 8 ∉ slR pp ∧ pp + 1 ∉ slR pp ∧ pp + 2 ∉ slR pp ∧ pp + 3 ∉ slR pp ∧ pp + 4 ∉ slR pp ∧ pp + 5 ∉ slR pp ∧ pp + 11 ∉ slR pp := by rcases hpp with rfl | rfl <;> (repeat' apply And.intro) <;> decide
    obtain ⟨s10, s79, s469, s4610, s100, s11, s72, s2, s8, sp1, sp2, sp3, sp4, sp5, sp11⟩ := qs
    have O2 : ordI h2 (W + 1) := ⟨by rw [f2.2.2 _ _ s79]; exact O1.1, fun x hx => by rw [f2.1 10 s10]; exact O1.2 x hx⟩
    have G2 : Fr (tlR pp) (tlT pp) h h2 := Fr_tr G1 f2 (by simp [slR, tlR]) (by simp [slT, tlT])
    have F3 : XF h2 := Fr_XF F2 f2 (sl_fin hpp)
    have L2000 := Nat.le_trans (nd_len (sCt G) L lnd lN) i1
    rcases hw with rfl | rfl
    · have nw : ¬ jdW (sCd G) L S T := fun z => absurd (hw'.mpr z) (by decide)
      with_reducible refine xm_go_blk b_X9_tell_153 k_X9_tell_153 ?_
      refine by_istore (by rw [ml_160]; decide) ?_
      refine by_iload rfl ?_
      refine by_if_eq 163 rfl ?_
      simp (disch := first | exact Nat.ne_of_beq_eq_false rfl | exact rfl | omega) only [nI_add, xa_sub, xa_mul, pk_div, nm_mod, xa_shr, xa_and7, xa_and1, xa_and255, xa_by_and, nI_m1, Nat.add_sub_cancel, Nat.reducePow, Nat.zero_add, Nat.add_zero, Nat.reduceAdd, Nat.reduceMul, Nat.reduceSub, xf_same, xq_ff, xq_fo, xf_1, xf_2, xs_1, xs_2, xs_same, xq_so, xj_1, xj_2, xj_same, xq_jo, xq_sa1, xq_same, xq_other, upd_s, oI_n, oI_s, xv_0, xv_1, xv_2, xv_3, xm_p1, xm_p2, xq_fp, xq_fn, List.filter_nil, Nat.reduceBEq, Bool.not_true, Bool.not_false, Bool.and_true, Bool.and_false, Bool.false_and, Bool.true_and, if_true, if_false, Bool.false_eq_true, reduceIte, xc_i, xc_j, xc_r, xc_n, List.nil_append, List.cons_append, Option.toList_some, Option.toList_none, nI_ltJ, nI_leJ, nI_eqJ, nI_ltz, nI_gez, nI_gtz, nI_lez, nI_eqz, m1_ltz, m1_gez, true_imp_iff, false_imp_iff, true_and, and_true, ne_eq, not_false_eq_true, not_true_eq_false, Nat.reduceEqDiff, Nat.reduceLT, Nat.reduceLeDiff]
      refine xm_go_wk (by simp [Value.category]) (tl_163 (nh := nh) hpp F3 (by rw [f2.2.2 _ _ s469]; exact x9) (by rw [f2.2.2 _ _ s4610]; exact x10) (rowIs_fr (rowIs_fr hr f1 (by simp) (by simp) (by simp)) f2 s2 s100 s11) O2 (by omega) hx (cG0_fr C1 f2 sp1 sp2 sp3 sp4 sp5 sp11) (by omega) hI hT (by omega) hY nw (by rw [f2.2.2 _ _ s72]; exact hs) (fun i hi => by rw [f2.1 _ s8]; exact hrow i hi) ho (fun h5 a bl hS f5 O5 A5 hb => ?_))
      refine hp h5 a bl (W + 1 + 1) ⟨L, ho, Or.inr ⟨nb, Or.inr ⟨S, T, hlst, Or.inr ⟨nw, hS⟩⟩⟩⟩ (Fr_tr G2 f5 (fun _ z => z) (fun _ z => z)) ?_ O5 (by omega) hb
      rcases A5 with z | z
      · exact z
      · exact absurd A2 z
    · with_reducible refine xm_go_blk b_X9_tell_153 k_X9_tell_153 ?_
      refine by_istore (by rw [ml_160]; decide) ?_
      refine by_iload rfl ?_
      refine by_if_eq 163 rfl ?_
      simp (disch := first | exact Nat.ne_of_beq_eq_false rfl | exact rfl | omega) only [nI_add, xa_sub, xa_mul, pk_div, nm_mod, xa_shr, xa_and7, xa_and1, xa_and255, xa_by_and, nI_m1, Nat.add_sub_cancel, Nat.reducePow, Nat.zero_add, Nat.add_zero, Nat.reduceAdd, Nat.reduceMul, Nat.reduceSub, xf_same, xq_ff, xq_fo, xf_1, xf_2, xs_1, xs_2, xs_same, xq_so, xj_1, xj_2, xj_same, xq_jo, xq_sa1, xq_same, xq_other, upd_s, oI_n, oI_s, xv_0, xv_1, xv_2, xv_3, xm_p1, xm_p2, xq_fp, xq_fn, List.filter_nil, Nat.reduceBEq, Bool.not_true, Bool.not_false, Bool.and_true, Bool.and_false, Bool.false_and, Bool.true_and, if_true, if_false, Bool.false_eq_true, reduceIte, xc_i, xc_j, xc_r, xc_n, List.nil_append, List.cons_append, Option.toList_some, Option.toList_none, nI_ltJ, nI_leJ, nI_eqJ, nI_ltz, nI_gez, nI_gtz, nI_lez, nI_eqz, m1_ltz, m1_gez, true_imp_iff, false_imp_iff, true_and, and_true, ne_eq, not_false_eq_true, not_true_eq_false, Nat.reduceEqDiff, Nat.reduceLT, Nat.reduceLeDiff]
      with_reducible refine xm_go_blk b_X9_tell_160 k_X9_tell_160 ?_
      refine by_iload rfl ?_
      refine by_iret ry_160 (by first | rfl | assumption) ?_
      exact hp h2 9 [] (W + 1) ⟨L, ho, Or.inr ⟨nb, Or.inr ⟨S, T, hlst, Or.inl ⟨hw'.mp rfl, rfl⟩⟩⟩⟩ G2 A2 O2 (by omega) (fun z => by omega)
end SY
