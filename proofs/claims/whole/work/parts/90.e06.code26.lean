/-! ===== definitions of jets: words that are moved by a byte's bits ===== -/
def brS (lv : Nat) (g : Nat → gFn) (sk : Bool) : Nat → List Bool → List Bool → List Bool
  | 0, _, x => x
  | j + 1, c, x => if j < lv ∨ sk = true then (if c.getD (7 - j) false = false then brS lv g sk j c x else g j (brS lv g sk j c x)) else brS lv g sk j c x
theorem li_bit {b : List Bool} {j : Nat} (hb : b.length = 8) (hj : j < 8) : (b.drop (7 - j)).take 1 = [b.getD (7 - j) false] := by
  obtain ⟨a, c, d, e, f, g, h, i, rfl⟩ := li_8 hb
  rcases (by omega : j = 0 ∨ j = 1 ∨ j = 2 ∨ j = 3 ∨ j = 4 ∨ j = 5 ∨ j = 6 ∨ j = 7) with rfl | rfl | rfl | rfl | rfl | rfl | rfl | rfl <;> rfl
def bg32 (w lv j : Nat) (y : List Bool) : List Bool := if j < lv then ((y ++ List.replicate w false).drop (2 ^ j)).take w else List.replicate w false
def bq32 (lv w : Nat) : Nat → gQ
  | 0 => qL
  | j + 1 => if j < lv then qC (8 + w) (bq32 lv w j) (qP qL (qC (1 + w) (qP (bq j) qL) (qH qL (qC (w + w) (qP qL (qc 13 lv)) (wqL j (lv - j - 1)))))) else qC (8 + w) (bq32 lv w j) (qP qL (qC (1 + w) (qP (bq j) qL) (qH qL (qc 13 lv))))
def bm32 (lv : Nat) : Nat → Nat
  | 0 => 0
  | n + 1 => (if 7 - n < lv then 23 + 9 * (lv - (7 - n) - 1) else 15) + bm32 lv n
section CD
variable {sc : xm_Sc} {d : Nat} {post : xm_Po}
theorem br_32 {lv w : Nat} (h3 : 3 ≤ lv) (hlv : lv < 7) (hw : 2 ^ lv = w) (hP : aOK sc 11) (hD : 44 ≤ d) : ∀ (n j c m p4 p5 p6 : Nat) (f : gFn) (h : xm_H) (G : Nat → gN), j + n = 8 → XF h → cI h G c m [] → m + bm32 lv n + 3 ≤ 8000 → nG G c p4 w w (fun x => x) qL → nG G c p5 w w (fun _ => List.replicate w false) (qc 13 lv) → nG G c p6 (8 + w) (8 + w) f (bq32 lv w j) →
    (∀ b x, b.length = 8 → x.length = w → f (b ++ x) = b ++ brS lv (bg32 w lv) true j b x) → (∀ F, (∀ b x, b.length = 8 → x.length = w → F (b ++ x) = brS lv (bg32 w lv) true 8 b x) → cPo h G c (m + bm32 lv n + 3) [] (8 + w) w F (qC (8 + w) (bq32 lv w 8) qL) post) →
    xm_go (XE sc) (xm_T (XE sc) (d + 6)) 2 post 61 [(7, .int (nI j)), (6, .int (nI p6)), (5, .int (nI p5)), (4, .int (nI p4)), (0, .ref 22), (1, .int (nI 32)), (2, .int (nI lv)), (3, .int (nI w))] [] h := by
  have hw64 := pw_l7 hlv
  rw [hw] at hw64
  have hJ : ∀ j ∈ ([] : List Nat), 11 ≤ pH j := fun j hj => absurd hj (by simp)
  intro n
  induction n with
  | zero =>
    intro j c m p4 p5 p6 f h G hj hF hI hm u4 u5 v hs hp
    have : j = 8 := by omega
    subst this
    have hl := nG_len hI v
    have hm0 : bm32 lv 0 = 0 := rfl
    have E : cE h G c h G c := cE_rf
    with_reducible refine xm_go_blk b_X0_barrel_61 k_X0_barrel_61 ?_
    refine by_iload rfl ?_
    refine by_bipush cb_8 ?_
    refine by_ic_ge 198 rfl ?_
    simp (disch := first | exact Nat.ne_of_beq_eq_false rfl | exact rfl | omega) only [nI_add, xa_sub, xa_mul, pk_div, nm_mod, xa_shr, xa_and7, xa_and1, xa_and255, xa_by_and, nI_m1, Nat.add_sub_cancel, Nat.reducePow, Nat.zero_add, Nat.add_zero, Nat.reduceAdd, Nat.reduceMul, Nat.reduceSub, xf_same, xq_ff, xq_fo, xf_1, xf_2, xs_1, xs_2, xs_same, xq_so, xj_1, xj_2, xj_same, xq_jo, xq_sa1, xq_same, xq_other, upd_s, oI_n, oI_s, xv_0, xv_1, xv_2, xv_3, xm_p1, xm_p2, xq_fp, xq_fn, List.filter_nil, Nat.reduceBEq, Bool.not_true, Bool.not_false, Bool.and_true, Bool.and_false, Bool.false_and, Bool.true_and, if_true, if_false, Bool.false_eq_true, reduceIte, xc_i, xc_j, xc_r, xc_n, List.nil_append, List.cons_append, Option.toList_some, Option.toList_none, nI_ltJ, nI_leJ, nI_eqJ, nI_ltz, nI_gez, nI_gtz, nI_lez, nI_eqz, m1_ltz, m1_gez, true_imp_iff, false_imp_iff, true_and, and_true, ne_eq, not_false_eq_true, not_true_eq_false, Nat.reduceEqDiff, Nat.reduceLT, Nat.reduceLeDiff]
    with_reducible refine xm_go_blk b_X0_barrel_198 k_X0_barrel_198 ?_
    refine by_aload_n rfl ?_
    refine by_iload rfl ?_
    refine by_aload_n rfl ?_
    refine by_bipush cb_8 ?_
    refine by_iload_n rfl ?_
    refine by_inv2 cn_2 lk_0_92 (by rw [xe_cnt]; decide) is_32 np_32 cn_32 (by first | exact rfl | assumption) (Nat.le_of_ble_eq_true rfl) ?_
    refine sp_second hF hI (by omega) (by omega) (fun h1 G1 c1 n1 F1 I1 e1 v1 => ?_)
    replace v := nG_up v e1
    replace E := cE_tr E e1
    with_reducible refine xm_go_blk b_X0_barrel_208 k_X0_barrel_208 ?_
    refine by_inv2 cn_2 lk_0_86 (by rw [xe_cnt]; decide) is_7 np_7 cn_7 (by first | exact rfl | assumption) (Nat.le_of_ble_eq_true rfl) ?_
    refine sp_gcomp F1 I1 (by omega) v v1 (by omega) (fun h2 G2 c2 n2 F2 I2 e2 v2 => ?_)
    replace E := cE_tr E e2
    with_reducible refine xm_go_blk b_X0_barrel_211 k_X0_barrel_211 ?_
    refine by_iret ry_2 (by first | rfl | assumption) ?_
    refine hp _ ?_ _ _ _ _ F2 (cI_mono I2 (by omega) hm) E (nG_cg v2 (by omega) (by omega) (fun x hx => rfl) (qle_rf _))
    intro b x hb hx
    show (f (b ++ x)).drop 8 = _
    rw [hs b x hb hx, li_da hb.symm]
  | succ n ih =>
    intro j c m p4 p5 p6 f h G hj hF hI hm u4 u5 v hs hp
    have hl := nG_len hI v
    have hjn : 7 - n = j := by omega
    have hbm : bm32 lv (n + 1) = (if j < lv then 23 + 9 * (lv - j - 1) else 15) + bm32 lv n := by
      show (if 7 - n < lv then _ else _) + _ = _
      rw [hjn]
    by_cases hjl : j < lv
    · rw [if_pos hjl] at hbm
      have hj64 := pw_l7 (l := j) (by omega)
      have hq : bq32 lv w (j + 1) = qC (8 + w) (bq32 lv w j) (qP qL (qC (1 + w) (qP (bq j) qL) (qH qL (qC (w + w) (qP qL (qc 13 lv)) (wqL j (lv - j - 1)))))) := if_pos hjl
      have E : cE h G c h G c := cE_rf
      with_reducible refine xm_go_blk b_X0_barrel_61 k_X0_barrel_61 ?_
      refine by_iload rfl ?_
      refine by_bipush cb_8 ?_
      refine by_ic_ge 198 rfl ?_
      simp (disch := first | exact Nat.ne_of_beq_eq_false rfl | exact rfl | omega) only [nI_add, xa_sub, xa_mul, pk_div, nm_mod, xa_shr, xa_and7, xa_and1, xa_and255, xa_by_and, nI_m1, Nat.add_sub_cancel, Nat.reducePow, Nat.zero_add, Nat.add_zero, Nat.reduceAdd, Nat.reduceMul, Nat.reduceSub, xf_same, xq_ff, xq_fo, xf_1, xf_2, xs_1, xs_2, xs_same, xq_so, xj_1, xj_2, xj_same, xq_jo, xq_sa1, xq_same, xq_other, upd_s, oI_n, oI_s, xv_0, xv_1, xv_2, xv_3, xm_p1, xm_p2, xq_fp, xq_fn, List.filter_nil, Nat.reduceBEq, Bool.not_true, Bool.not_false, Bool.and_true, Bool.and_false, Bool.false_and, Bool.true_and, if_true, if_false, Bool.false_eq_true, reduceIte, xc_i, xc_j, xc_r, xc_n, List.nil_append, List.cons_append, Option.toList_some, Option.toList_none, nI_ltJ, nI_leJ, nI_eqJ, nI_ltz, nI_gez, nI_gtz, nI_lez, nI_eqz, m1_ltz, m1_gez, true_imp_iff, false_imp_iff, true_and, and_true, ne_eq, not_false_eq_true, not_true_eq_false, Nat.reduceEqDiff, Nat.reduceLT, Nat.reduceLeDiff]
      refine ⟨fun c => absurd c (by omega), fun c61 => ?_⟩
      with_reducible refine xm_go_blk b_X0_barrel_68 k_X0_barrel_68 ?_
      refine by_aload_n rfl ?_
      refine by_iload_n rfl ?_
      refine by_iload_n rfl ?_
      refine by_inv2 cn_2 lk_0_89 (by rw [xe_cnt]; decide) is_38 np_38 cn_38 (by first | exact rfl | assumption) (Nat.le_of_ble_eq_true rfl) ?_
      refine sp_zeros hP (by omega) (by omega) hJ (by omega) hF hI (by omega) (by omega) (fun h1 G1 c1 n1 F1 I1 e1 v1 => ?_)
      replace u4 := nG_up u4 e1
      replace u5 := nG_up u5 e1
      replace v := nG_up v e1
      replace E := cE_tr E e1
      with_reducible refine xm_go_blk b_X0_barrel_74 k_X0_barrel_74 ?_
      refine by_istore (by rw [ml_2]; decide) ?_
      refine by_iload rfl ?_
      refine by_iload_n rfl ?_
      refine by_ic_ge 120 rfl ?_
      simp (disch := first | exact Nat.ne_of_beq_eq_false rfl | exact rfl | omega) only [nI_add, xa_sub, xa_mul, pk_div, nm_mod, xa_shr, xa_and7, xa_and1, xa_and255, xa_by_and, nI_m1, Nat.add_sub_cancel, Nat.reducePow, Nat.zero_add, Nat.add_zero, Nat.reduceAdd, Nat.reduceMul, Nat.reduceSub, xf_same, xq_ff, xq_fo, xf_1, xf_2, xs_1, xs_2, xs_same, xq_so, xj_1, xj_2, xj_same, xq_jo, xq_sa1, xq_same, xq_other, upd_s, oI_n, oI_s, xv_0, xv_1, xv_2, xv_3, xm_p1, xm_p2, xq_fp, xq_fn, List.filter_nil, Nat.reduceBEq, Bool.not_true, Bool.not_false, Bool.and_true, Bool.and_false, Bool.false_and, Bool.true_and, if_true, if_false, Bool.false_eq_true, reduceIte, xc_i, xc_j, xc_r, xc_n, List.nil_append, List.cons_append, Option.toList_some, Option.toList_none, nI_ltJ, nI_leJ, nI_eqJ, nI_ltz, nI_gez, nI_gtz, nI_lez, nI_eqz, m1_ltz, m1_gez, true_imp_iff, false_imp_iff, true_and, and_true, ne_eq, not_false_eq_true, not_true_eq_false, Nat.reduceEqDiff, Nat.reduceLT, Nat.reduceLeDiff]
      refine ⟨fun c => absurd c (by omega), fun c74 => ?_⟩
      with_reducible refine xm_go_blk b_X0_barrel_82 k_X0_barrel_82 ?_
      refine by_aload_n rfl ?_
      refine by_aload_n rfl ?_
      refine by_iload rfl ?_
      refine by_iload rfl ?_
      refine by_inv2 cn_2 lk_0_80 (by rw [xe_cnt]; decide) is_25 np_25 cn_25 (by first | exact rfl | assumption) (Nat.le_of_ble_eq_true rfl) ?_
      refine sp_gpair F1 I1 (by omega) u4 u5 (by omega) (by omega) (fun h2 G2 c2 n2 F2 I2 e2 v2 => ?_)
      replace u4 := nG_up u4 e2
      replace u5 := nG_up u5 e2
      replace v := nG_up v e2
      replace E := cE_tr E e2
      with_reducible refine xm_go_blk b_X0_barrel_91 k_X0_barrel_91 ?_
      refine by_aload_n rfl ?_
      refine by_iload_n rfl ?_
      refine by_iload rfl ?_
      refine by_iload_n rfl ?_
      refine by_bipush cb_33 ?_
      refine by_ic_eq 107 rfl ?_
      simp (disch := first | exact Nat.ne_of_beq_eq_false rfl | exact rfl | omega) only [nI_add, xa_sub, xa_mul, pk_div, nm_mod, xa_shr, xa_and7, xa_and1, xa_and255, xa_by_and, nI_m1, Nat.add_sub_cancel, Nat.reducePow, Nat.zero_add, Nat.add_zero, Nat.reduceAdd, Nat.reduceMul, Nat.reduceSub, xf_same, xq_ff, xq_fo, xf_1, xf_2, xs_1, xs_2, xs_same, xq_so, xj_1, xj_2, xj_same, xq_jo, xq_sa1, xq_same, xq_other, upd_s, oI_n, oI_s, xv_0, xv_1, xv_2, xv_3, xm_p1, xm_p2, xq_fp, xq_fn, List.filter_nil, Nat.reduceBEq, Bool.not_true, Bool.not_false, Bool.and_true, Bool.and_false, Bool.false_and, Bool.true_and, if_true, if_false, Bool.false_eq_true, reduceIte, xc_i, xc_j, xc_r, xc_n, List.nil_append, List.cons_append, Option.toList_some, Option.toList_none, nI_ltJ, nI_leJ, nI_eqJ, nI_ltz, nI_gez, nI_gtz, nI_lez, nI_eqz, m1_ltz, m1_gez, true_imp_iff, false_imp_iff, true_and, and_true, ne_eq, not_false_eq_true, not_true_eq_false, Nat.reduceEqDiff, Nat.reduceLT, Nat.reduceLeDiff]
      with_reducible refine xm_go_blk b_X0_barrel_101 k_X0_barrel_101 ?_
      refine by_iload_n rfl ?_
      refine by_bipush cb_35 ?_
      refine by_ic_ne 111 rfl ?_
      simp (disch := first | exact Nat.ne_of_beq_eq_false rfl | exact rfl | omega) only [nI_add, xa_sub, xa_mul, pk_div, nm_mod, xa_shr, xa_and7, xa_and1, xa_and255, xa_by_and, nI_m1, Nat.add_sub_cancel, Nat.reducePow, Nat.zero_add, Nat.add_zero, Nat.reduceAdd, Nat.reduceMul, Nat.reduceSub, xf_same, xq_ff, xq_fo, xf_1, xf_2, xs_1, xs_2, xs_same, xq_so, xj_1, xj_2, xj_same, xq_jo, xq_sa1, xq_same, xq_other, upd_s, oI_n, oI_s, xv_0, xv_1, xv_2, xv_3, xm_p1, xm_p2, xq_fp, xq_fn, List.filter_nil, Nat.reduceBEq, Bool.not_true, Bool.not_false, Bool.and_true, Bool.and_false, Bool.false_and, Bool.true_and, if_true, if_false, Bool.false_eq_true, reduceIte, xc_i, xc_j, xc_r, xc_n, List.nil_append, List.cons_append, Option.toList_some, Option.toList_none, nI_ltJ, nI_leJ, nI_eqJ, nI_ltz, nI_gez, nI_gtz, nI_lez, nI_eqz, m1_ltz, m1_gez, true_imp_iff, false_imp_iff, true_and, and_true, ne_eq, not_false_eq_true, not_true_eq_false, Nat.reduceEqDiff, Nat.reduceLT, Nat.reduceLeDiff]
      with_reducible refine xm_go_blk b_X0_barrel_111 k_X0_barrel_111 ?_
      refine by_iconst ci_0 ?_
      refine by_nil ?_
      with_reducible refine xm_go_blk b_X0_barrel_112 k_X0_barrel_112 ?_
      refine by_inv3 cn_2 lk_0_159 (by rw [xe_cnt]; decide) is_37 np_37 cn_37 (by first | exact rfl | assumption) (Nat.le_of_ble_eq_true rfl) ?_
      refine sp_windowL (by omega) (by omega) hw F2 I2 (by omega) (fun h3 G3 c3 n3 F3 I3 e3 v3 => ?_)
      replace u4 := nG_up u4 e3
      replace u5 := nG_up u5 e3
      replace v := nG_up v e3
      replace v2 := nG_up v2 e3
      replace E := cE_tr E e3
      with_reducible refine xm_go_blk b_X0_barrel_115 k_X0_barrel_115 ?_
      refine by_inv2 cn_2 lk_0_86 (by rw [xe_cnt]; decide) is_7 np_7 cn_7 (by first | exact rfl | assumption) (Nat.le_of_ble_eq_true rfl) ?_
      refine sp_gcomp F3 I3 (by omega) v2 v3 (by omega) (fun h4 G4 c4 n4 F4 I4 e4 v4 => ?_)
      replace u4 := nG_up u4 e4
      replace u5 := nG_up u5 e4
      replace v := nG_up v e4
      replace E := cE_tr E e4
      with_reducible refine xm_go_blk b_X0_barrel_118 k_X0_barrel_118 ?_
      refine by_istore (by rw [ml_2]; decide) ?_
      refine by_nil ?_
      try simp (disch := first | exact Nat.ne_of_beq_eq_false rfl | exact rfl | omega) only [nI_add, xa_sub, xa_mul, pk_div, nm_mod, xa_shr, xa_and7, xa_and1, xa_and255, xa_by_and, nI_m1, Nat.add_sub_cancel, Nat.reducePow, Nat.zero_add, Nat.add_zero, Nat.reduceAdd, Nat.reduceMul, Nat.reduceSub, xf_same, xq_ff, xq_fo, xf_1, xf_2, xs_1, xs_2, xs_same, xq_so, xj_1, xj_2, xj_same, xq_jo, xq_sa1, xq_same, xq_other, upd_s, oI_n, oI_s, xv_0, xv_1, xv_2, xv_3, xm_p1, xm_p2, xq_fp, xq_fn, List.filter_nil, Nat.reduceBEq, Bool.not_true, Bool.not_false, Bool.and_true, Bool.and_false, Bool.false_and, Bool.true_and, if_true, if_false, Bool.false_eq_true, reduceIte, xc_i, xc_j, xc_r, xc_n, List.nil_append, List.cons_append, Option.toList_some, Option.toList_none]
      with_reducible refine xm_go_blk b_X0_barrel_120 k_X0_barrel_120 ?_
      refine by_iload rfl ?_
      refine by_iload_n rfl ?_
      refine by_ic_lt 132 rfl ?_
      simp (disch := first | exact Nat.ne_of_beq_eq_false rfl | exact rfl | omega) only [nI_add, xa_sub, xa_mul, pk_div, nm_mod, xa_shr, xa_and7, xa_and1, xa_and255, xa_by_and, nI_m1, Nat.add_sub_cancel, Nat.reducePow, Nat.zero_add, Nat.add_zero, Nat.reduceAdd, Nat.reduceMul, Nat.reduceSub, xf_same, xq_ff, xq_fo, xf_1, xf_2, xs_1, xs_2, xs_same, xq_so, xj_1, xj_2, xj_same, xq_jo, xq_sa1, xq_same, xq_other, upd_s, oI_n, oI_s, xv_0, xv_1, xv_2, xv_3, xm_p1, xm_p2, xq_fp, xq_fn, List.filter_nil, Nat.reduceBEq, Bool.not_true, Bool.not_false, Bool.and_true, Bool.and_false, Bool.false_and, Bool.true_and, if_true, if_false, Bool.false_eq_true, reduceIte, xc_i, xc_j, xc_r, xc_n, List.nil_append, List.cons_append, Option.toList_some, Option.toList_none, nI_ltJ, nI_leJ, nI_eqJ, nI_ltz, nI_gez, nI_gtz, nI_lez, nI_eqz, m1_ltz, m1_gez, true_imp_iff, false_imp_iff, true_and, and_true, ne_eq, not_false_eq_true, not_true_eq_false, Nat.reduceEqDiff, Nat.reduceLT, Nat.reduceLeDiff]
      refine ⟨fun c120 => ?_, fun c => absurd (by omega) c⟩
      with_reducible refine xm_go_blk b_X0_barrel_132 k_X0_barrel_132 ?_
      refine by_aload_n rfl ?_
      refine by_aload_n rfl ?_
      refine by_aload_n rfl ?_
      refine by_aload_n rfl ?_
      refine by_iload rfl ?_
      refine by_inv1 cn_2 lk_0_162 (by rw [xe_cnt]; decide) is_4 np_4 cn_4 (by first | exact rfl | assumption) (Nat.le_of_ble_eq_true rfl) ?_
      refine sp_bitOfByte (by omega) F4 I4 (by omega) (fun h5 G5 c5 n5 F5 I5 e5 v5 => ?_)
      replace u4 := nG_up u4 e5
      replace u5 := nG_up u5 e5
      replace v := nG_up v e5
      replace v4 := nG_up v4 e5
      replace E := cE_tr E e5
      with_reducible refine xm_go_blk b_X0_barrel_141 k_X0_barrel_141 ?_
      refine by_iload_n rfl ?_
      refine by_inv2 cn_2 lk_0_101 (by rw [xe_cnt]; decide) is_33 np_33 cn_33 (by first | exact rfl | assumption) (Nat.le_of_ble_eq_true rfl) ?_
      refine sp_gtake F5 I5 (by omega) v5 (by omega) (fun h6 G6 c6 n6 F6 I6 e6 v6 => ?_)
      replace u4 := nG_up u4 e6
      replace u5 := nG_up u5 e6
      replace v := nG_up v e6
      replace v4 := nG_up v4 e6
      replace E := cE_tr E e6
      with_reducible refine xm_go_blk b_X0_barrel_145 k_X0_barrel_145 ?_
      refine by_aload_n rfl ?_
      refine by_bipush cb_8 ?_
      refine by_iload_n rfl ?_
      refine by_inv2 cn_2 lk_0_92 (by rw [xe_cnt]; decide) is_32 np_32 cn_32 (by first | exact rfl | assumption) (Nat.le_of_ble_eq_true rfl) ?_
      refine sp_second F6 I6 (by omega) (by omega) (fun h7 G7 c7 n7 F7 I7 e7 v7 => ?_)
      replace u4 := nG_up u4 e7
      replace u5 := nG_up u5 e7
      replace v := nG_up v e7
      replace v4 := nG_up v4 e7
      replace v6 := nG_up v6 e7
      replace E := cE_tr E e7
      with_reducible refine xm_go_blk b_X0_barrel_152 k_X0_barrel_152 ?_
      refine by_inv2 cn_2 lk_0_80 (by rw [xe_cnt]; decide) is_25 np_25 cn_25 (by first | exact rfl | assumption) (Nat.le_of_ble_eq_true rfl) ?_
      refine sp_gpair F7 I7 (by omega) v6 v7 (by omega) (by omega) (fun h8 G8 c8 n8 F8 I8 e8 v8 => ?_)
      replace u4 := nG_up u4 e8
      replace u5 := nG_up u5 e8
      replace v := nG_up v e8
      replace v4 := nG_up v4 e8
      replace E := cE_tr E e8
      with_reducible refine xm_go_blk b_X0_barrel_155 k_X0_barrel_155 ?_
      refine by_aload_n rfl ?_
      refine by_aload_n rfl ?_
      refine by_iload_n rfl ?_
      refine by_inv1 cn_2 lk_0_76 (by rw [xe_cnt]; decide) is_18 np_18 cn_18 (by first | exact rfl | assumption) (Nat.le_of_ble_eq_true rfl) ?_
      refine sp_iden F8 I8 (by omega) (by omega) (fun h9 G9 c9 n9 F9 I9 e9 v9 => ?_)
      replace u4 := nG_up u4 e9
      replace u5 := nG_up u5 e9
      replace v := nG_up v e9
      replace v4 := nG_up v4 e9
      replace v8 := nG_up v8 e9
      replace E := cE_tr E e9
      with_reducible refine xm_go_blk b_X0_barrel_161 k_X0_barrel_161 ?_
      refine by_iload rfl ?_
      refine by_inv2 cn_2 lk_0_98 (by rw [xe_cnt]; decide) is_6 np_6 cn_6 (by first | exact rfl | assumption) (Nat.le_of_ble_eq_true rfl) ?_
      refine sp_choose F9 I9 (by omega) v9 v4 (by omega) (by omega) (by omega) (fun h10 G10 c10 n10 F10 I10 e10 v10 => ?_)
      replace u4 := nG_up u4 e10
      replace u5 := nG_up u5 e10
      replace v := nG_up v e10
      replace v8 := nG_up v8 e10
      replace E := cE_tr E e10
      with_reducible refine xm_go_blk b_X0_barrel_166 k_X0_barrel_166 ?_
      refine by_inv2 cn_2 lk_0_86 (by rw [xe_cnt]; decide) is_7 np_7 cn_7 (by first | exact rfl | assumption) (Nat.le_of_ble_eq_true rfl) ?_
      refine sp_gcomp F10 I10 (by omega) v8 v10 (by omega) (fun h11 G11 c11 n11 F11 I11 e11 v11 => ?_)
      replace u4 := nG_up u4 e11
      replace u5 := nG_up u5 e11
      replace v := nG_up v e11
      replace E := cE_tr E e11
      with_reducible refine xm_go_blk b_X0_barrel_169 k_X0_barrel_169 ?_
      refine by_istore (by rw [ml_2]; decide) ?_
      refine by_aload_n rfl ?_
      refine by_iload rfl ?_
      refine by_aload_n rfl ?_
      refine by_aload_n rfl ?_
      refine by_bipush cb_8 ?_
      refine by_iload_n rfl ?_
      simp (disch := first | exact Nat.ne_of_beq_eq_false rfl | exact rfl | omega) only [nI_add, xa_sub, xa_mul, pk_div, nm_mod, xa_shr, xa_and7, xa_and1, xa_and255, xa_by_and, nI_m1, Nat.add_sub_cancel, Nat.reducePow, Nat.zero_add, Nat.add_zero, Nat.reduceAdd, Nat.reduceMul, Nat.reduceSub, xf_same, xq_ff, xq_fo, xf_1, xf_2, xs_1, xs_2, xs_same, xq_so, xj_1, xj_2, xj_same, xq_jo, xq_sa1, xq_same, xq_other, upd_s, oI_n, oI_s, xv_0, xv_1, xv_2, xv_3, xm_p1, xm_p2, xq_fp, xq_fn, List.filter_nil, Nat.reduceBEq, Bool.not_true, Bool.not_false, Bool.and_true, Bool.and_false, Bool.false_and, Bool.true_and, if_true, if_false, Bool.false_eq_true, reduceIte, xc_i, xc_j, xc_r, xc_n, List.nil_append, List.cons_append, Option.toList_some, Option.toList_none]
      refine by_inv2 cn_2 lk_0_95 (by rw [xe_cnt]; decide) is_15 np_15 cn_15 (by first | exact rfl | assumption) (Nat.le_of_ble_eq_true rfl) ?_
      refine sp_first F11 I11 (by omega) (by omega) (fun h12 G12 c12 n12 F12 I12 e12 v12 => ?_)
      replace u4 := nG_up u4 e12
      replace u5 := nG_up u5 e12
      replace v := nG_up v e12
      replace v11 := nG_up v11 e12
      replace E := cE_tr E e12
      with_reducible refine xm_go_blk b_X0_barrel_182 k_X0_barrel_182 ?_
      refine by_iload rfl ?_
      refine by_inv2 cn_2 lk_0_80 (by rw [xe_cnt]; decide) is_25 np_25 cn_25 (by first | exact rfl | assumption) (Nat.le_of_ble_eq_true rfl) ?_
      refine sp_gpair F12 I12 (by omega) v12 v11 (by omega) (by omega) (fun h13 G13 c13 n13 F13 I13 e13 v13 => ?_)
      replace u4 := nG_up u4 e13
      replace u5 := nG_up u5 e13
      replace v := nG_up v e13
      replace E := cE_tr E e13
      with_reducible refine xm_go_blk b_X0_barrel_187 k_X0_barrel_187 ?_
      refine by_inv2 cn_2 lk_0_86 (by rw [xe_cnt]; decide) is_7 np_7 cn_7 (by first | exact rfl | assumption) (Nat.le_of_ble_eq_true rfl) ?_
      refine sp_gcomp F13 I13 (by omega) v v13 (by omega) (fun h14 G14 c14 n14 F14 I14 e14 v14 => ?_)
      replace u4 := nG_up u4 e14
      replace u5 := nG_up u5 e14
      replace E := cE_tr E e14
      with_reducible refine xm_go_blk b_X0_barrel_190 k_X0_barrel_190 ?_
      refine by_istore (by rw [ml_2]; decide) ?_
      refine by_nil ?_
      try simp (disch := first | exact Nat.ne_of_beq_eq_false rfl | exact rfl | omega) only [nI_add, xa_sub, xa_mul, pk_div, nm_mod, xa_shr, xa_and7, xa_and1, xa_and255, xa_by_and, nI_m1, Nat.add_sub_cancel, Nat.reducePow, Nat.zero_add, Nat.add_zero, Nat.reduceAdd, Nat.reduceMul, Nat.reduceSub, xf_same, xq_ff, xq_fo, xf_1, xf_2, xs_1, xs_2, xs_same, xq_so, xj_1, xj_2, xj_same, xq_jo, xq_sa1, xq_same, xq_other, upd_s, oI_n, oI_s, xv_0, xv_1, xv_2, xv_3, xm_p1, xm_p2, xq_fp, xq_fn, List.filter_nil, Nat.reduceBEq, Bool.not_true, Bool.not_false, Bool.and_true, Bool.and_false, Bool.false_and, Bool.true_and, if_true, if_false, Bool.false_eq_true, reduceIte, xc_i, xc_j, xc_r, xc_n, List.nil_append, List.cons_append, Option.toList_some, Option.toList_none]
      with_reducible refine xm_go_blk b_X0_barrel_192 k_X0_barrel_192 ?_
      refine by_iinc (by rw [ml_2]; decide) rfl ci_1 ?_
      refine by_goto 61 rfl ?_
      try simp (disch := first | exact Nat.ne_of_beq_eq_false rfl | exact rfl | omega) only [nI_add, xa_sub, xa_mul, pk_div, nm_mod, xa_shr, xa_and7, xa_and1, xa_and255, xa_by_and, nI_m1, Nat.add_sub_cancel, Nat.reducePow, Nat.zero_add, Nat.add_zero, Nat.reduceAdd, Nat.reduceMul, Nat.reduceSub, xf_same, xq_ff, xq_fo, xf_1, xf_2, xs_1, xs_2, xs_same, xq_so, xj_1, xj_2, xj_same, xq_jo, xq_sa1, xq_same, xq_other, upd_s, oI_n, oI_s, xv_0, xv_1, xv_2, xv_3, xm_p1, xm_p2, xq_fp, xq_fn, List.filter_nil, Nat.reduceBEq, Bool.not_true, Bool.not_false, Bool.and_true, Bool.and_false, Bool.false_and, Bool.true_and, if_true, if_false, Bool.false_eq_true, reduceIte, xc_i, xc_j, xc_r, xc_n, List.nil_append, List.cons_append, Option.toList_some, Option.toList_none]
      refine xm_go_wk (by simp [Value.category]) (ih (j + 1) _ (m + (23 + 9 * (lv - j - 1))) _ _ _ _ h14 G14 (by omega) F14 (cI_mono I14 (by omega) (by omega)) (by omega) u4 u5 (nG_cg v14 (by omega) (by omega) (fun _ _ => rfl) (by rw [hq]; exact qle_rf _)) ?_ (fun F hF' h' G' c' n' k1 k2 k3 k4 => hp F hF' h' G' c' n' k1 (cI_mono k2 (by omega) hm) (cE_tr E k3) k4))
      intro b x hb hx
      have e0 := hs b x hb hx
      have hg : ∀ y, bg32 w lv j y = ((y ++ List.replicate w false).drop (2 ^ j)).take w := fun y => if_pos hjl
      have e1 : brS lv (bg32 w lv) true (j + 1) b x = if b.getD (7 - j) false = false then brS lv (bg32 w lv) true j b x else bg32 w lv j (brS lv (bg32 w lv) true j b x) := if_pos (Or.inl hjl)
      rw [e1, hg]
      generalize brS lv (bg32 w lv) true j b x = y at *
      simp only [e0, li_ka hb.symm, li_da hb.symm, li_bit hb (show j < 8 by omega)]
      congr 1
    · rw [if_neg hjl] at hbm
      have hq : bq32 lv w (j + 1) = qC (8 + w) (bq32 lv w j) (qP qL (qC (1 + w) (qP (bq j) qL) (qH qL (qc 13 lv)))) := if_neg hjl
      have E : cE h G c h G c := cE_rf
      with_reducible refine xm_go_blk b_X0_barrel_61 k_X0_barrel_61 ?_
      refine by_iload rfl ?_
      refine by_bipush cb_8 ?_
      refine by_ic_ge 198 rfl ?_
      simp (disch := first | exact Nat.ne_of_beq_eq_false rfl | exact rfl | omega) only [nI_add, xa_sub, xa_mul, pk_div, nm_mod, xa_shr, xa_and7, xa_and1, xa_and255, xa_by_and, nI_m1, Nat.add_sub_cancel, Nat.reducePow, Nat.zero_add, Nat.add_zero, Nat.reduceAdd, Nat.reduceMul, Nat.reduceSub, xf_same, xq_ff, xq_fo, xf_1, xf_2, xs_1, xs_2, xs_same, xq_so, xj_1, xj_2, xj_same, xq_jo, xq_sa1, xq_same, xq_other, upd_s, oI_n, oI_s, xv_0, xv_1, xv_2, xv_3, xm_p1, xm_p2, xq_fp, xq_fn, List.filter_nil, Nat.reduceBEq, Bool.not_true, Bool.not_false, Bool.and_true, Bool.and_false, Bool.false_and, Bool.true_and, if_true, if_false, Bool.false_eq_true, reduceIte, xc_i, xc_j, xc_r, xc_n, List.nil_append, List.cons_append, Option.toList_some, Option.toList_none, nI_ltJ, nI_leJ, nI_eqJ, nI_ltz, nI_gez, nI_gtz, nI_lez, nI_eqz, m1_ltz, m1_gez, true_imp_iff, false_imp_iff, true_and, and_true, ne_eq, not_false_eq_true, not_true_eq_false, Nat.reduceEqDiff, Nat.reduceLT, Nat.reduceLeDiff]
      refine ⟨fun c => absurd c (by omega), fun c61 => ?_⟩
      with_reducible refine xm_go_blk b_X0_barrel_68 k_X0_barrel_68 ?_
      refine by_aload_n rfl ?_
      refine by_iload_n rfl ?_
      refine by_iload_n rfl ?_
      refine by_inv2 cn_2 lk_0_89 (by rw [xe_cnt]; decide) is_38 np_38 cn_38 (by first | exact rfl | assumption) (Nat.le_of_ble_eq_true rfl) ?_
      refine sp_zeros hP (by omega) (by omega) hJ (by omega) hF hI (by omega) (by omega) (fun h1 G1 c1 n1 F1 I1 e1 v1 => ?_)
      replace u4 := nG_up u4 e1
      replace u5 := nG_up u5 e1
      replace v := nG_up v e1
      replace E := cE_tr E e1
      with_reducible refine xm_go_blk b_X0_barrel_74 k_X0_barrel_74 ?_
      refine by_istore (by rw [ml_2]; decide) ?_
      refine by_iload rfl ?_
      refine by_iload_n rfl ?_
      refine by_ic_ge 120 rfl ?_
      simp (disch := first | exact Nat.ne_of_beq_eq_false rfl | exact rfl | omega) only [nI_add, xa_sub, xa_mul, pk_div, nm_mod, xa_shr, xa_and7, xa_and1, xa_and255, xa_by_and, nI_m1, Nat.add_sub_cancel, Nat.reducePow, Nat.zero_add, Nat.add_zero, Nat.reduceAdd, Nat.reduceMul, Nat.reduceSub, xf_same, xq_ff, xq_fo, xf_1, xf_2, xs_1, xs_2, xs_same, xq_so, xj_1, xj_2, xj_same, xq_jo, xq_sa1, xq_same, xq_other, upd_s, oI_n, oI_s, xv_0, xv_1, xv_2, xv_3, xm_p1, xm_p2, xq_fp, xq_fn, List.filter_nil, Nat.reduceBEq, Bool.not_true, Bool.not_false, Bool.and_true, Bool.and_false, Bool.false_and, Bool.true_and, if_true, if_false, Bool.false_eq_true, reduceIte, xc_i, xc_j, xc_r, xc_n, List.nil_append, List.cons_append, Option.toList_some, Option.toList_none, nI_ltJ, nI_leJ, nI_eqJ, nI_ltz, nI_gez, nI_gtz, nI_lez, nI_eqz, m1_ltz, m1_gez, true_imp_iff, false_imp_iff, true_and, and_true, ne_eq, not_false_eq_true, not_true_eq_false, Nat.reduceEqDiff, Nat.reduceLT, Nat.reduceLeDiff]
      refine ⟨fun c74 => ?_, fun c => absurd (by omega) c⟩
      with_reducible refine xm_go_blk b_X0_barrel_120 k_X0_barrel_120 ?_
      refine by_iload rfl ?_
      refine by_iload_n rfl ?_
      refine by_ic_lt 132 rfl ?_
      simp (disch := first | exact Nat.ne_of_beq_eq_false rfl | exact rfl | omega) only [nI_add, xa_sub, xa_mul, pk_div, nm_mod, xa_shr, xa_and7, xa_and1, xa_and255, xa_by_and, nI_m1, Nat.add_sub_cancel, Nat.reducePow, Nat.zero_add, Nat.add_zero, Nat.reduceAdd, Nat.reduceMul, Nat.reduceSub, xf_same, xq_ff, xq_fo, xf_1, xf_2, xs_1, xs_2, xs_same, xq_so, xj_1, xj_2, xj_same, xq_jo, xq_sa1, xq_same, xq_other, upd_s, oI_n, oI_s, xv_0, xv_1, xv_2, xv_3, xm_p1, xm_p2, xq_fp, xq_fn, List.filter_nil, Nat.reduceBEq, Bool.not_true, Bool.not_false, Bool.and_true, Bool.and_false, Bool.false_and, Bool.true_and, if_true, if_false, Bool.false_eq_true, reduceIte, xc_i, xc_j, xc_r, xc_n, List.nil_append, List.cons_append, Option.toList_some, Option.toList_none, nI_ltJ, nI_leJ, nI_eqJ, nI_ltz, nI_gez, nI_gtz, nI_lez, nI_eqz, m1_ltz, m1_gez, true_imp_iff, false_imp_iff, true_and, and_true, ne_eq, not_false_eq_true, not_true_eq_false, Nat.reduceEqDiff, Nat.reduceLT, Nat.reduceLeDiff]
      refine ⟨fun c => absurd c (by omega), fun c120 => ?_⟩
      with_reducible refine xm_go_blk b_X0_barrel_126 k_X0_barrel_126 ?_
      refine by_iload_n rfl ?_
      refine by_bipush cb_34 ?_
      refine by_ic_ge 192 rfl ?_
      simp (disch := first | exact Nat.ne_of_beq_eq_false rfl | exact rfl | omega) only [nI_add, xa_sub, xa_mul, pk_div, nm_mod, xa_shr, xa_and7, xa_and1, xa_and255, xa_by_and, nI_m1, Nat.add_sub_cancel, Nat.reducePow, Nat.zero_add, Nat.add_zero, Nat.reduceAdd, Nat.reduceMul, Nat.reduceSub, xf_same, xq_ff, xq_fo, xf_1, xf_2, xs_1, xs_2, xs_same, xq_so, xj_1, xj_2, xj_same, xq_jo, xq_sa1, xq_same, xq_other, upd_s, oI_n, oI_s, xv_0, xv_1, xv_2, xv_3, xm_p1, xm_p2, xq_fp, xq_fn, List.filter_nil, Nat.reduceBEq, Bool.not_true, Bool.not_false, Bool.and_true, Bool.and_false, Bool.false_and, Bool.true_and, if_true, if_false, Bool.false_eq_true, reduceIte, xc_i, xc_j, xc_r, xc_n, List.nil_append, List.cons_append, Option.toList_some, Option.toList_none, nI_ltJ, nI_leJ, nI_eqJ, nI_ltz, nI_gez, nI_gtz, nI_lez, nI_eqz, m1_ltz, m1_gez, true_imp_iff, false_imp_iff, true_and, and_true, ne_eq, not_false_eq_true, not_true_eq_false, Nat.reduceEqDiff, Nat.reduceLT, Nat.reduceLeDiff]
      with_reducible refine xm_go_blk b_X0_barrel_132 k_X0_barrel_132 ?_
      refine by_aload_n rfl ?_
      refine by_aload_n rfl ?_
      refine by_aload_n rfl ?_
      refine by_aload_n rfl ?_
      refine by_iload rfl ?_
      refine by_inv1 cn_2 lk_0_162 (by rw [xe_cnt]; decide) is_4 np_4 cn_4 (by first | exact rfl | assumption) (Nat.le_of_ble_eq_true rfl) ?_
      refine sp_bitOfByte (by omega) F1 I1 (by omega) (fun h2 G2 c2 n2 F2 I2 e2 v2 => ?_)
      replace u4 := nG_up u4 e2
      replace u5 := nG_up u5 e2
      replace v := nG_up v e2
      replace v1 := nG_up v1 e2
      replace E := cE_tr E e2
      with_reducible refine xm_go_blk b_X0_barrel_141 k_X0_barrel_141 ?_
      refine by_iload_n rfl ?_
      refine by_inv2 cn_2 lk_0_101 (by rw [xe_cnt]; decide) is_33 np_33 cn_33 (by first | exact rfl | assumption) (Nat.le_of_ble_eq_true rfl) ?_
      refine sp_gtake F2 I2 (by omega) v2 (by omega) (fun h3 G3 c3 n3 F3 I3 e3 v3 => ?_)
      replace u4 := nG_up u4 e3
      replace u5 := nG_up u5 e3
      replace v := nG_up v e3
      replace v1 := nG_up v1 e3
      replace E := cE_tr E e3
      with_reducible refine xm_go_blk b_X0_barrel_145 k_X0_barrel_145 ?_
      refine by_aload_n rfl ?_
      refine by_bipush cb_8 ?_
      refine by_iload_n rfl ?_
      refine by_inv2 cn_2 lk_0_92 (by rw [xe_cnt]; decide) is_32 np_32 cn_32 (by first | exact rfl | assumption) (Nat.le_of_ble_eq_true rfl) ?_
      refine sp_second F3 I3 (by omega) (by omega) (fun h4 G4 c4 n4 F4 I4 e4 v4 => ?_)
      replace u4 := nG_up u4 e4
      replace u5 := nG_up u5 e4
      replace v := nG_up v e4
      replace v1 := nG_up v1 e4
      replace v3 := nG_up v3 e4
      replace E := cE_tr E e4
      with_reducible refine xm_go_blk b_X0_barrel_152 k_X0_barrel_152 ?_
      refine by_inv2 cn_2 lk_0_80 (by rw [xe_cnt]; decide) is_25 np_25 cn_25 (by first | exact rfl | assumption) (Nat.le_of_ble_eq_true rfl) ?_
      refine sp_gpair F4 I4 (by omega) v3 v4 (by omega) (by omega) (fun h5 G5 c5 n5 F5 I5 e5 v5 => ?_)
      replace u4 := nG_up u4 e5
      replace u5 := nG_up u5 e5
      replace v := nG_up v e5
      replace v1 := nG_up v1 e5
      replace E := cE_tr E e5
      with_reducible refine xm_go_blk b_X0_barrel_155 k_X0_barrel_155 ?_
      refine by_aload_n rfl ?_
      refine by_aload_n rfl ?_
      refine by_iload_n rfl ?_
      refine by_inv1 cn_2 lk_0_76 (by rw [xe_cnt]; decide) is_18 np_18 cn_18 (by first | exact rfl | assumption) (Nat.le_of_ble_eq_true rfl) ?_
      refine sp_iden F5 I5 (by omega) (by omega) (fun h6 G6 c6 n6 F6 I6 e6 v6 => ?_)
      replace u4 := nG_up u4 e6
      replace u5 := nG_up u5 e6
      replace v := nG_up v e6
      replace v1 := nG_up v1 e6
      replace v5 := nG_up v5 e6
      replace E := cE_tr E e6
      with_reducible refine xm_go_blk b_X0_barrel_161 k_X0_barrel_161 ?_
      refine by_iload rfl ?_
      refine by_inv2 cn_2 lk_0_98 (by rw [xe_cnt]; decide) is_6 np_6 cn_6 (by first | exact rfl | assumption) (Nat.le_of_ble_eq_true rfl) ?_
      refine sp_choose F6 I6 (by omega) v6 v1 (by omega) (by omega) (by omega) (fun h7 G7 c7 n7 F7 I7 e7 v7 => ?_)
      replace u4 := nG_up u4 e7
      replace u5 := nG_up u5 e7
      replace v := nG_up v e7
      replace v5 := nG_up v5 e7
      replace E := cE_tr E e7
      with_reducible refine xm_go_blk b_X0_barrel_166 k_X0_barrel_166 ?_
      refine by_inv2 cn_2 lk_0_86 (by rw [xe_cnt]; decide) is_7 np_7 cn_7 (by first | exact rfl | assumption) (Nat.le_of_ble_eq_true rfl) ?_
      refine sp_gcomp F7 I7 (by omega) v5 v7 (by omega) (fun h8 G8 c8 n8 F8 I8 e8 v8 => ?_)
      replace u4 := nG_up u4 e8
      replace u5 := nG_up u5 e8
      replace v := nG_up v e8
      replace E := cE_tr E e8
      with_reducible refine xm_go_blk b_X0_barrel_169 k_X0_barrel_169 ?_
      refine by_istore (by rw [ml_2]; decide) ?_
      refine by_aload_n rfl ?_
      refine by_iload rfl ?_
      refine by_aload_n rfl ?_
      refine by_aload_n rfl ?_
      refine by_bipush cb_8 ?_
      refine by_iload_n rfl ?_
      simp (disch := first | exact Nat.ne_of_beq_eq_false rfl | exact rfl | omega) only [nI_add, xa_sub, xa_mul, pk_div, nm_mod, xa_shr, xa_and7, xa_and1, xa_and255, xa_by_and, nI_m1, Nat.add_sub_cancel, Nat.reducePow, Nat.zero_add, Nat.add_zero, Nat.reduceAdd, Nat.reduceMul, Nat.reduceSub, xf_same, xq_ff, xq_fo, xf_1, xf_2, xs_1, xs_2, xs_same, xq_so, xj_1, xj_2, xj_same, xq_jo, xq_sa1, xq_same, xq_other, upd_s, oI_n, oI_s, xv_0, xv_1, xv_2, xv_3, xm_p1, xm_p2, xq_fp, xq_fn, List.filter_nil, Nat.reduceBEq, Bool.not_true, Bool.not_false, Bool.and_true, Bool.and_false, Bool.false_and, Bool.true_and, if_true, if_false, Bool.false_eq_true, reduceIte, xc_i, xc_j, xc_r, xc_n, List.nil_append, List.cons_append, Option.toList_some, Option.toList_none]
      refine by_inv2 cn_2 lk_0_95 (by rw [xe_cnt]; decide) is_15 np_15 cn_15 (by first | exact rfl | assumption) (Nat.le_of_ble_eq_true rfl) ?_
      refine sp_first F8 I8 (by omega) (by omega) (fun h9 G9 c9 n9 F9 I9 e9 v9 => ?_)
      replace u4 := nG_up u4 e9
      replace u5 := nG_up u5 e9
      replace v := nG_up v e9
      replace v8 := nG_up v8 e9
      replace E := cE_tr E e9
      with_reducible refine xm_go_blk b_X0_barrel_182 k_X0_barrel_182 ?_
      refine by_iload rfl ?_
      refine by_inv2 cn_2 lk_0_80 (by rw [xe_cnt]; decide) is_25 np_25 cn_25 (by first | exact rfl | assumption) (Nat.le_of_ble_eq_true rfl) ?_
      refine sp_gpair F9 I9 (by omega) v9 v8 (by omega) (by omega) (fun h10 G10 c10 n10 F10 I10 e10 v10 => ?_)
      replace u4 := nG_up u4 e10
      replace u5 := nG_up u5 e10
      replace v := nG_up v e10
      replace E := cE_tr E e10
      with_reducible refine xm_go_blk b_X0_barrel_187 k_X0_barrel_187 ?_
      refine by_inv2 cn_2 lk_0_86 (by rw [xe_cnt]; decide) is_7 np_7 cn_7 (by first | exact rfl | assumption) (Nat.le_of_ble_eq_true rfl) ?_
      refine sp_gcomp F10 I10 (by omega) v v10 (by omega) (fun h11 G11 c11 n11 F11 I11 e11 v11 => ?_)
      replace u4 := nG_up u4 e11
      replace u5 := nG_up u5 e11
      replace E := cE_tr E e11
      with_reducible refine xm_go_blk b_X0_barrel_190 k_X0_barrel_190 ?_
      refine by_istore (by rw [ml_2]; decide) ?_
      refine by_nil ?_
      try simp (disch := first | exact Nat.ne_of_beq_eq_false rfl | exact rfl | omega) only [nI_add, xa_sub, xa_mul, pk_div, nm_mod, xa_shr, xa_and7, xa_and1, xa_and255, xa_by_and, nI_m1, Nat.add_sub_cancel, Nat.reducePow, Nat.zero_add, Nat.add_zero, Nat.reduceAdd, Nat.reduceMul, Nat.reduceSub, xf_same, xq_ff, xq_fo, xf_1, xf_2, xs_1, xs_2, xs_same, xq_so, xj_1, xj_2, xj_same, xq_jo, xq_sa1, xq_same, xq_other, upd_s, oI_n, oI_s, xv_0, xv_1, xv_2, xv_3, xm_p1, xm_p2, xq_fp, xq_fn, List.filter_nil, Nat.reduceBEq, Bool.not_true, Bool.not_false, Bool.and_true, Bool.and_false, Bool.false_and, Bool.true_and, if_true, if_false, Bool.false_eq_true, reduceIte, xc_i, xc_j, xc_r, xc_n, List.nil_append, List.cons_append, Option.toList_some, Option.toList_none]
      with_reducible refine xm_go_blk b_X0_barrel_192 k_X0_barrel_192 ?_
      refine by_iinc (by rw [ml_2]; decide) rfl ci_1 ?_
      refine by_goto 61 rfl ?_
      try simp (disch := first | exact Nat.ne_of_beq_eq_false rfl | exact rfl | omega) only [nI_add, xa_sub, xa_mul, pk_div, nm_mod, xa_shr, xa_and7, xa_and1, xa_and255, xa_by_and, nI_m1, Nat.add_sub_cancel, Nat.reducePow, Nat.zero_add, Nat.add_zero, Nat.reduceAdd, Nat.reduceMul, Nat.reduceSub, xf_same, xq_ff, xq_fo, xf_1, xf_2, xs_1, xs_2, xs_same, xq_so, xj_1, xj_2, xj_same, xq_jo, xq_sa1, xq_same, xq_other, upd_s, oI_n, oI_s, xv_0, xv_1, xv_2, xv_3, xm_p1, xm_p2, xq_fp, xq_fn, List.filter_nil, Nat.reduceBEq, Bool.not_true, Bool.not_false, Bool.and_true, Bool.and_false, Bool.false_and, Bool.true_and, if_true, if_false, Bool.false_eq_true, reduceIte, xc_i, xc_j, xc_r, xc_n, List.nil_append, List.cons_append, Option.toList_some, Option.toList_none]
      refine xm_go_wk (by simp [Value.category]) (ih (j + 1) _ (m + 15) _ _ _ _ h11 G11 (by omega) F11 (cI_mono I11 (by omega) (by omega)) (by omega) u4 u5 (nG_cg v11 (by omega) (by omega) (fun _ _ => rfl) (by rw [hq]; exact qle_rf _)) ?_ (fun F hF' h' G' c' n' k1 k2 k3 k4 => hp F hF' h' G' c' n' k1 (cI_mono k2 (by omega) hm) (cE_tr E k3) k4))
      intro b x hb hx
      have e0 := hs b x hb hx
      have hg : ∀ y, bg32 w lv j y = List.replicate w false := fun y => if_neg hjl
      have e1 : brS lv (bg32 w lv) true (j + 1) b x = if b.getD (7 - j) false = false then brS lv (bg32 w lv) true j b x else bg32 w lv j (brS lv (bg32 w lv) true j b x) := if_pos (Or.inr rfl)
      rw [e1, hg]
      generalize brS lv (bg32 w lv) true j b x = y at *
      simp only [e0, li_ka hb.symm, li_da hb.symm, li_bit hb (show j < 8 by omega), hw]
      congr 1
end CD
def bg33 (w lv j : Nat) (y : List Bool) : List Bool := if j < lv then ((List.replicate w false ++ y).drop (w - 2 ^ j)).take w else List.replicate w false
def bq33 (lv w : Nat) : Nat → gQ
  | 0 => qL
  | j + 1 => if j < lv then qC (8 + w) (bq33 lv w j) (qP qL (qC (1 + w) (qP (bq j) qL) (qH qL (qC (w + w) (qP (qc 13 lv) qL) (wqR j (lv - j - 1)))))) else qC (8 + w) (bq33 lv w j) (qP qL (qC (1 + w) (qP (bq j) qL) (qH qL (qc 13 lv))))
def bm33 (lv : Nat) : Nat → Nat
  | 0 => 0
  | n + 1 => (if 7 - n < lv then 23 + 9 * (lv - (7 - n) - 1) else 15) + bm33 lv n
section CD
variable {sc : xm_Sc} {d : Nat} {post : xm_Po}
theorem br_33 {lv w : Nat} (h3 : 3 ≤ lv) (hlv : lv < 7) (hw : 2 ^ lv = w) (hP : aOK sc 11) (hD : 44 ≤ d) : ∀ (n j c m p4 p5 p6 : Nat) (f : gFn) (h : xm_H) (G : Nat → gN), j + n = 8 → XF h → cI h G c m [] → m + bm33 lv n + 3 ≤ 8000 → nG G c p4 w w (fun _ => List.replicate w false) (qc 13 lv) → nG G c p5 w w (fun x => x) qL → nG G c p6 (8 + w) (8 + w) f (bq33 lv w j) →
    (∀ b x, b.length = 8 → x.length = w → f (b ++ x) = b ++ brS lv (bg33 w lv) true j b x) → (∀ F, (∀ b x, b.length = 8 → x.length = w → F (b ++ x) = brS lv (bg33 w lv) true 8 b x) → cPo h G c (m + bm33 lv n + 3) [] (8 + w) w F (qC (8 + w) (bq33 lv w 8) qL) post) →
    xm_go (XE sc) (xm_T (XE sc) (d + 6)) 2 post 61 [(7, .int (nI j)), (6, .int (nI p6)), (5, .int (nI p5)), (4, .int (nI p4)), (0, .ref 22), (1, .int (nI 33)), (2, .int (nI lv)), (3, .int (nI w))] [] h := by
  have hw64 := pw_l7 hlv
  rw [hw] at hw64
  have hJ : ∀ j ∈ ([] : List Nat), 11 ≤ pH j := fun j hj => absurd hj (by simp)
  intro n
  induction n with
  | zero =>
    intro j c m p4 p5 p6 f h G hj hF hI hm u4 u5 v hs hp
    have : j = 8 := by omega
    subst this
    have hl := nG_len hI v
    have hm0 : bm33 lv 0 = 0 := rfl
    have E : cE h G c h G c := cE_rf
    with_reducible refine xm_go_blk b_X0_barrel_61 k_X0_barrel_61 ?_
    refine by_iload rfl ?_
    refine by_bipush cb_8 ?_
    refine by_ic_ge 198 rfl ?_
    simp (disch := first | exact Nat.ne_of_beq_eq_false rfl | exact rfl | omega) only [nI_add, xa_sub, xa_mul, pk_div, nm_mod, xa_shr, xa_and7, xa_and1, xa_and255, xa_by_and, nI_m1, Nat.add_sub_cancel, Nat.reducePow, Nat.zero_add, Nat.add_zero, Nat.reduceAdd, Nat.reduceMul, Nat.reduceSub, xf_same, xq_ff, xq_fo, xf_1, xf_2, xs_1, xs_2, xs_same, xq_so, xj_1, xj_2, xj_same, xq_jo, xq_sa1, xq_same, xq_other, upd_s, oI_n, oI_s, xv_0, xv_1, xv_2, xv_3, xm_p1, xm_p2, xq_fp, xq_fn, List.filter_nil, Nat.reduceBEq, Bool.not_true, Bool.not_false, Bool.and_true, Bool.and_false, Bool.false_and, Bool.true_and, if_true, if_false, Bool.false_eq_true, reduceIte, xc_i, xc_j, xc_r, xc_n, List.nil_append, List.cons_append, Option.toList_some, Option.toList_none, nI_ltJ, nI_leJ, nI_eqJ, nI_ltz, nI_gez, nI_gtz, nI_lez, nI_eqz, m1_ltz, m1_gez, true_imp_iff, false_imp_iff, true_and, and_true, ne_eq, not_false_eq_true, not_true_eq_false, Nat.reduceEqDiff, Nat.reduceLT, Nat.reduceLeDiff]
    with_reducible refine xm_go_blk b_X0_barrel_198 k_X0_barrel_198 ?_
    refine by_aload_n rfl ?_
    refine by_iload rfl ?_
    refine by_aload_n rfl ?_
    refine by_bipush cb_8 ?_
    refine by_iload_n rfl ?_
    refine by_inv2 cn_2 lk_0_92 (by rw [xe_cnt]; decide) is_32 np_32 cn_32 (by first | exact rfl | assumption) (Nat.le_of_ble_eq_true rfl) ?_
    refine sp_second hF hI (by omega) (by omega) (fun h1 G1 c1 n1 F1 I1 e1 v1 => ?_)
    replace v := nG_up v e1
    replace E := cE_tr E e1
    with_reducible refine xm_go_blk b_X0_barrel_208 k_X0_barrel_208 ?_
    refine by_inv2 cn_2 lk_0_86 (by rw [xe_cnt]; decide) is_7 np_7 cn_7 (by first | exact rfl | assumption) (Nat.le_of_ble_eq_true rfl) ?_
    refine sp_gcomp F1 I1 (by omega) v v1 (by omega) (fun h2 G2 c2 n2 F2 I2 e2 v2 => ?_)
    replace E := cE_tr E e2
    with_reducible refine xm_go_blk b_X0_barrel_211 k_X0_barrel_211 ?_
    refine by_iret ry_2 (by first | rfl | assumption) ?_
    refine hp _ ?_ _ _ _ _ F2 (cI_mono I2 (by omega) hm) E (nG_cg v2 (by omega) (by omega) (fun x hx => rfl) (qle_rf _))
    intro b x hb hx
    show (f (b ++ x)).drop 8 = _
    rw [hs b x hb hx, li_da hb.symm]
  | succ n ih =>
    intro j c m p4 p5 p6 f h G hj hF hI hm u4 u5 v hs hp
    have hl := nG_len hI v
    have hjn : 7 - n = j := by omega
    have hbm : bm33 lv (n + 1) = (if j < lv then 23 + 9 * (lv - j - 1) else 15) + bm33 lv n := by
      show (if 7 - n < lv then _ else _) + _ = _
      rw [hjn]
    by_cases hjl : j < lv
    · rw [if_pos hjl] at hbm
      have hj64 := pw_l7 (l := j) (by omega)
      have hq : bq33 lv w (j + 1) = qC (8 + w) (bq33 lv w j) (qP qL (qC (1 + w) (qP (bq j) qL) (qH qL (qC (w + w) (qP (qc 13 lv) qL) (wqR j (lv - j - 1)))))) := if_pos hjl
      have E : cE h G c h G c := cE_rf
      with_reducible refine xm_go_blk b_X0_barrel_61 k_X0_barrel_61 ?_
      refine by_iload rfl ?_
      refine by_bipush cb_8 ?_
      refine by_ic_ge 198 rfl ?_
      simp (disch := first | exact Nat.ne_of_beq_eq_false rfl | exact rfl | omega) only [nI_add, xa_sub, xa_mul, pk_div, nm_mod, xa_shr, xa_and7, xa_and1, xa_and255, xa_by_and, nI_m1, Nat.add_sub_cancel, Nat.reducePow, Nat.zero_add, Nat.add_zero, Nat.reduceAdd, Nat.reduceMul, Nat.reduceSub, xf_same, xq_ff, xq_fo, xf_1, xf_2, xs_1, xs_2, xs_same, xq_so, xj_1, xj_2, xj_same, xq_jo, xq_sa1, xq_same, xq_other, upd_s, oI_n, oI_s, xv_0, xv_1, xv_2, xv_3, xm_p1, xm_p2, xq_fp, xq_fn, List.filter_nil, Nat.reduceBEq, Bool.not_true, Bool.not_false, Bool.and_true, Bool.and_false, Bool.false_and, Bool.true_and, if_true, if_false, Bool.false_eq_true, reduceIte, xc_i, xc_j, xc_r, xc_n, List.nil_append, List.cons_append, Option.toList_some, Option.toList_none, nI_ltJ, nI_leJ, nI_eqJ, nI_ltz, nI_gez, nI_gtz, nI_lez, nI_eqz, m1_ltz, m1_gez, true_imp_iff, false_imp_iff, true_and, and_true, ne_eq, not_false_eq_true, not_true_eq_false, Nat.reduceEqDiff, Nat.reduceLT, Nat.reduceLeDiff]
      refine ⟨fun c => absurd c (by omega), fun c61 => ?_⟩
      with_reducible refine xm_go_blk b_X0_barrel_68 k_X0_barrel_68 ?_
      refine by_aload_n rfl ?_
      refine by_iload_n rfl ?_
      refine by_iload_n rfl ?_
      refine by_inv2 cn_2 lk_0_89 (by rw [xe_cnt]; decide) is_38 np_38 cn_38 (by first | exact rfl | assumption) (Nat.le_of_ble_eq_true rfl) ?_
      refine sp_zeros hP (by omega) (by omega) hJ (by omega) hF hI (by omega) (by omega) (fun h1 G1 c1 n1 F1 I1 e1 v1 => ?_)
      replace u4 := nG_up u4 e1
      replace u5 := nG_up u5 e1
      replace v := nG_up v e1
      replace E := cE_tr E e1
      with_reducible refine xm_go_blk b_X0_barrel_74 k_X0_barrel_74 ?_
      refine by_istore (by rw [ml_2]; decide) ?_
      refine by_iload rfl ?_
      refine by_iload_n rfl ?_
      refine by_ic_ge 120 rfl ?_
      simp (disch := first | exact Nat.ne_of_beq_eq_false rfl | exact rfl | omega) only [nI_add, xa_sub, xa_mul, pk_div, nm_mod, xa_shr, xa_and7, xa_and1, xa_and255, xa_by_and, nI_m1, Nat.add_sub_cancel, Nat.reducePow, Nat.zero_add, Nat.add_zero, Nat.reduceAdd, Nat.reduceMul, Nat.reduceSub, xf_same, xq_ff, xq_fo, xf_1, xf_2, xs_1, xs_2, xs_same, xq_so, xj_1, xj_2, xj_same, xq_jo, xq_sa1, xq_same, xq_other, upd_s, oI_n, oI_s, xv_0, xv_1, xv_2, xv_3, xm_p1, xm_p2, xq_fp, xq_fn, List.filter_nil, Nat.reduceBEq, Bool.not_true, Bool.not_false, Bool.and_true, Bool.and_false, Bool.false_and, Bool.true_and, if_true, if_false, Bool.false_eq_true, reduceIte, xc_i, xc_j, xc_r, xc_n, List.nil_append, List.cons_append, Option.toList_some, Option.toList_none, nI_ltJ, nI_leJ, nI_eqJ, nI_ltz, nI_gez, nI_gtz, nI_lez, nI_eqz, m1_ltz, m1_gez, true_imp_iff, false_imp_iff, true_and, and_true, ne_eq, not_false_eq_true, not_true_eq_false, Nat.reduceEqDiff, Nat.reduceLT, Nat.reduceLeDiff]
      refine ⟨fun c => absurd c (by omega), fun c74 => ?_⟩
      with_reducible refine xm_go_blk b_X0_barrel_82 k_X0_barrel_82 ?_
      refine by_aload_n rfl ?_
      refine by_aload_n rfl ?_
      refine by_iload rfl ?_
      refine by_iload rfl ?_
      refine by_inv2 cn_2 lk_0_80 (by rw [xe_cnt]; decide) is_25 np_25 cn_25 (by first | exact rfl | assumption) (Nat.le_of_ble_eq_true rfl) ?_
      refine sp_gpair F1 I1 (by omega) u4 u5 (by omega) (by omega) (fun h2 G2 c2 n2 F2 I2 e2 v2 => ?_)
      replace u4 := nG_up u4 e2
      replace u5 := nG_up u5 e2
      replace v := nG_up v e2
      replace E := cE_tr E e2
      with_reducible refine xm_go_blk b_X0_barrel_91 k_X0_barrel_91 ?_
      refine by_aload_n rfl ?_
      refine by_iload_n rfl ?_
      refine by_iload rfl ?_
      refine by_iload_n rfl ?_
      refine by_bipush cb_33 ?_
      refine by_ic_eq 107 rfl ?_
      simp (disch := first | exact Nat.ne_of_beq_eq_false rfl | exact rfl | omega) only [nI_add, xa_sub, xa_mul, pk_div, nm_mod, xa_shr, xa_and7, xa_and1, xa_and255, xa_by_and, nI_m1, Nat.add_sub_cancel, Nat.reducePow, Nat.zero_add, Nat.add_zero, Nat.reduceAdd, Nat.reduceMul, Nat.reduceSub, xf_same, xq_ff, xq_fo, xf_1, xf_2, xs_1, xs_2, xs_same, xq_so, xj_1, xj_2, xj_same, xq_jo, xq_sa1, xq_same, xq_other, upd_s, oI_n, oI_s, xv_0, xv_1, xv_2, xv_3, xm_p1, xm_p2, xq_fp, xq_fn, List.filter_nil, Nat.reduceBEq, Bool.not_true, Bool.not_false, Bool.and_true, Bool.and_false, Bool.false_and, Bool.true_and, if_true, if_false, Bool.false_eq_true, reduceIte, xc_i, xc_j, xc_r, xc_n, List.nil_append, List.cons_append, Option.toList_some, Option.toList_none, nI_ltJ, nI_leJ, nI_eqJ, nI_ltz, nI_gez, nI_gtz, nI_lez, nI_eqz, m1_ltz, m1_gez, true_imp_iff, false_imp_iff, true_and, and_true, ne_eq, not_false_eq_true, not_true_eq_false, Nat.reduceEqDiff, Nat.reduceLT, Nat.reduceLeDiff]
      with_reducible refine xm_go_blk b_X0_barrel_107 k_X0_barrel_107 ?_
      refine by_iconst ci_1 ?_
      refine by_goto 112 rfl ?_
      with_reducible refine xm_go_blk b_X0_barrel_112 k_X0_barrel_112 ?_
      refine by_inv3 cn_2 lk_0_159 (by rw [xe_cnt]; decide) is_37 np_37 cn_37 (by first | exact rfl | assumption) (Nat.le_of_ble_eq_true rfl) ?_
      refine sp_windowR (by omega) (by omega) hw F2 I2 (by omega) (fun h3 G3 c3 n3 F3 I3 e3 v3 => ?_)
      replace u4 := nG_up u4 e3
      replace u5 := nG_up u5 e3
      replace v := nG_up v e3
      replace v2 := nG_up v2 e3
      replace E := cE_tr E e3
      with_reducible refine xm_go_blk b_X0_barrel_115 k_X0_barrel_115 ?_
      refine by_inv2 cn_2 lk_0_86 (by rw [xe_cnt]; decide) is_7 np_7 cn_7 (by first | exact rfl | assumption) (Nat.le_of_ble_eq_true rfl) ?_
      refine sp_gcomp F3 I3 (by omega) v2 v3 (by omega) (fun h4 G4 c4 n4 F4 I4 e4 v4 => ?_)
      replace u4 := nG_up u4 e4
      replace u5 := nG_up u5 e4
      replace v := nG_up v e4
      replace E := cE_tr E e4
      with_reducible refine xm_go_blk b_X0_barrel_118 k_X0_barrel_118 ?_
      refine by_istore (by rw [ml_2]; decide) ?_
      refine by_nil ?_
      try simp (disch := first | exact Nat.ne_of_beq_eq_false rfl | exact rfl | omega) only [nI_add, xa_sub, xa_mul, pk_div, nm_mod, xa_shr, xa_and7, xa_and1, xa_and255, xa_by_and, nI_m1, Nat.add_sub_cancel, Nat.reducePow, Nat.zero_add, Nat.add_zero, Nat.reduceAdd, Nat.reduceMul, Nat.reduceSub, xf_same, xq_ff, xq_fo, xf_1, xf_2, xs_1, xs_2, xs_same, xq_so, xj_1, xj_2, xj_same, xq_jo, xq_sa1, xq_same, xq_other, upd_s, oI_n, oI_s, xv_0, xv_1, xv_2, xv_3, xm_p1, xm_p2, xq_fp, xq_fn, List.filter_nil, Nat.reduceBEq, Bool.not_true, Bool.not_false, Bool.and_true, Bool.and_false, Bool.false_and, Bool.true_and, if_true, if_false, Bool.false_eq_true, reduceIte, xc_i, xc_j, xc_r, xc_n, List.nil_append, List.cons_append, Option.toList_some, Option.toList_none]
      with_reducible refine xm_go_blk b_X0_barrel_120 k_X0_barrel_120 ?_
      refine by_iload rfl ?_
      refine by_iload_n rfl ?_
      refine by_ic_lt 132 rfl ?_
      simp (disch := first | exact Nat.ne_of_beq_eq_false rfl | exact rfl | omega) only [nI_add, xa_sub, xa_mul, pk_div, nm_mod, xa_shr, xa_and7, xa_and1, xa_and255, xa_by_and, nI_m1, Nat.add_sub_cancel, Nat.reducePow, Nat.zero_add, Nat.add_zero, Nat.reduceAdd, Nat.reduceMul, Nat.reduceSub, xf_same, xq_ff, xq_fo, xf_1, xf_2, xs_1, xs_2, xs_same, xq_so, xj_1, xj_2, xj_same, xq_jo, xq_sa1, xq_same, xq_other, upd_s, oI_n, oI_s, xv_0, xv_1, xv_2, xv_3, xm_p1, xm_p2, xq_fp, xq_fn, List.filter_nil, Nat.reduceBEq, Bool.not_true, Bool.not_false, Bool.and_true, Bool.and_false, Bool.false_and, Bool.true_and, if_true, if_false, Bool.false_eq_true, reduceIte, xc_i, xc_j, xc_r, xc_n, List.nil_append, List.cons_append, Option.toList_some, Option.toList_none, nI_ltJ, nI_leJ, nI_eqJ, nI_ltz, nI_gez, nI_gtz, nI_lez, nI_eqz, m1_ltz, m1_gez, true_imp_iff, false_imp_iff, true_and, and_true, ne_eq, not_false_eq_true, not_true_eq_false, Nat.reduceEqDiff, Nat.reduceLT, Nat.reduceLeDiff]
      refine ⟨fun c120 => ?_, fun c => absurd (by omega) c⟩
      with_reducible refine xm_go_blk b_X0_barrel_132 k_X0_barrel_132 ?_
      refine by_aload_n rfl ?_
      refine by_aload_n rfl ?_
      refine by_aload_n rfl ?_
      refine by_aload_n rfl ?_
      refine by_iload rfl ?_
      refine by_inv1 cn_2 lk_0_162 (by rw [xe_cnt]; decide) is_4 np_4 cn_4 (by first | exact rfl | assumption) (Nat.le_of_ble_eq_true rfl) ?_
      refine sp_bitOfByte (by omega) F4 I4 (by omega) (fun h5 G5 c5 n5 F5 I5 e5 v5 => ?_)
      replace u4 := nG_up u4 e5
      replace u5 := nG_up u5 e5
      replace v := nG_up v e5
      replace v4 := nG_up v4 e5
      replace E := cE_tr E e5
      with_reducible refine xm_go_blk b_X0_barrel_141 k_X0_barrel_141 ?_
      refine by_iload_n rfl ?_
      refine by_inv2 cn_2 lk_0_101 (by rw [xe_cnt]; decide) is_33 np_33 cn_33 (by first | exact rfl | assumption) (Nat.le_of_ble_eq_true rfl) ?_
      refine sp_gtake F5 I5 (by omega) v5 (by omega) (fun h6 G6 c6 n6 F6 I6 e6 v6 => ?_)
      replace u4 := nG_up u4 e6
      replace u5 := nG_up u5 e6
      replace v := nG_up v e6
      replace v4 := nG_up v4 e6
      replace E := cE_tr E e6
      with_reducible refine xm_go_blk b_X0_barrel_145 k_X0_barrel_145 ?_
      refine by_aload_n rfl ?_
      refine by_bipush cb_8 ?_
      refine by_iload_n rfl ?_
      refine by_inv2 cn_2 lk_0_92 (by rw [xe_cnt]; decide) is_32 np_32 cn_32 (by first | exact rfl | assumption) (Nat.le_of_ble_eq_true rfl) ?_
      refine sp_second F6 I6 (by omega) (by omega) (fun h7 G7 c7 n7 F7 I7 e7 v7 => ?_)
      replace u4 := nG_up u4 e7
      replace u5 := nG_up u5 e7
      replace v := nG_up v e7
      replace v4 := nG_up v4 e7
      replace v6 := nG_up v6 e7
      replace E := cE_tr E e7
      with_reducible refine xm_go_blk b_X0_barrel_152 k_X0_barrel_152 ?_
      refine by_inv2 cn_2 lk_0_80 (by rw [xe_cnt]; decide) is_25 np_25 cn_25 (by first | exact rfl | assumption) (Nat.le_of_ble_eq_true rfl) ?_
      refine sp_gpair F7 I7 (by omega) v6 v7 (by omega) (by omega) (fun h8 G8 c8 n8 F8 I8 e8 v8 => ?_)
      replace u4 := nG_up u4 e8
      replace u5 := nG_up u5 e8
      replace v := nG_up v e8
      replace v4 := nG_up v4 e8
      replace E := cE_tr E e8
      with_reducible refine xm_go_blk b_X0_barrel_155 k_X0_barrel_155 ?_
      refine by_aload_n rfl ?_
      refine by_aload_n rfl ?_
      refine by_iload_n rfl ?_
      refine by_inv1 cn_2 lk_0_76 (by rw [xe_cnt]; decide) is_18 np_18 cn_18 (by first | exact rfl | assumption) (Nat.le_of_ble_eq_true rfl) ?_
      refine sp_iden F8 I8 (by omega) (by omega) (fun h9 G9 c9 n9 F9 I9 e9 v9 => ?_)
      replace u4 := nG_up u4 e9
      replace u5 := nG_up u5 e9
      replace v := nG_up v e9
      replace v4 := nG_up v4 e9
      replace v8 := nG_up v8 e9
      replace E := cE_tr E e9
      with_reducible refine xm_go_blk b_X0_barrel_161 k_X0_barrel_161 ?_
      refine by_iload rfl ?_
      refine by_inv2 cn_2 lk_0_98 (by rw [xe_cnt]; decide) is_6 np_6 cn_6 (by first | exact rfl | assumption) (Nat.le_of_ble_eq_true rfl) ?_
      refine sp_choose F9 I9 (by omega) v9 v4 (by omega) (by omega) (by omega) (fun h10 G10 c10 n10 F10 I10 e10 v10 => ?_)
      replace u4 := nG_up u4 e10
      replace u5 := nG_up u5 e10
      replace v := nG_up v e10
      replace v8 := nG_up v8 e10
      replace E := cE_tr E e10
      with_reducible refine xm_go_blk b_X0_barrel_166 k_X0_barrel_166 ?_
      refine by_inv2 cn_2 lk_0_86 (by rw [xe_cnt]; decide) is_7 np_7 cn_7 (by first | exact rfl | assumption) (Nat.le_of_ble_eq_true rfl) ?_
      refine sp_gcomp F10 I10 (by omega) v8 v10 (by omega) (fun h11 G11 c11 n11 F11 I11 e11 v11 => ?_)
      replace u4 := nG_up u4 e11
      replace u5 := nG_up u5 e11
      replace v := nG_up v e11
      replace E := cE_tr E e11
      with_reducible refine xm_go_blk b_X0_barrel_169 k_X0_barrel_169 ?_
      refine by_istore (by rw [ml_2]; decide) ?_
      refine by_aload_n rfl ?_
      refine by_iload rfl ?_
      refine by_aload_n rfl ?_
      refine by_aload_n rfl ?_
      refine by_bipush cb_8 ?_
      refine by_iload_n rfl ?_
      simp (disch := first | exact Nat.ne_of_beq_eq_false rfl | exact rfl | omega) only [nI_add, xa_sub, xa_mul, pk_div, nm_mod, xa_shr, xa_and7, xa_and1, xa_and255, xa_by_and, nI_m1, Nat.add_sub_cancel, Nat.reducePow, Nat.zero_add, Nat.add_zero, Nat.reduceAdd, Nat.reduceMul, Nat.reduceSub, xf_same, xq_ff, xq_fo, xf_1, xf_2, xs_1, xs_2, xs_same, xq_so, xj_1, xj_2, xj_same, xq_jo, xq_sa1, xq_same, xq_other, upd_s, oI_n, oI_s, xv_0, xv_1, xv_2, xv_3, xm_p1, xm_p2, xq_fp, xq_fn, List.filter_nil, Nat.reduceBEq, Bool.not_true, Bool.not_false, Bool.and_true, Bool.and_false, Bool.false_and, Bool.true_and, if_true, if_false, Bool.false_eq_true, reduceIte, xc_i, xc_j, xc_r, xc_n, List.nil_append, List.cons_append, Option.toList_some, Option.toList_none]
      refine by_inv2 cn_2 lk_0_95 (by rw [xe_cnt]; decide) is_15 np_15 cn_15 (by first | exact rfl | assumption) (Nat.le_of_ble_eq_true rfl) ?_
      refine sp_first F11 I11 (by omega) (by omega) (fun h12 G12 c12 n12 F12 I12 e12 v12 => ?_)
      replace u4 := nG_up u4 e12
      replace u5 := nG_up u5 e12
      replace v := nG_up v e12
      replace v11 := nG_up v11 e12
      replace E := cE_tr E e12
      with_reducible refine xm_go_blk b_X0_barrel_182 k_X0_barrel_182 ?_
      refine by_iload rfl ?_
      refine by_inv2 cn_2 lk_0_80 (by rw [xe_cnt]; decide) is_25 np_25 cn_25 (by first | exact rfl | assumption) (Nat.le_of_ble_eq_true rfl) ?_
      refine sp_gpair F12 I12 (by omega) v12 v11 (by omega) (by omega) (fun h13 G13 c13 n13 F13 I13 e13 v13 => ?_)
      replace u4 := nG_up u4 e13
      replace u5 := nG_up u5 e13
      replace v := nG_up v e13
      replace E := cE_tr E e13
      with_reducible refine xm_go_blk b_X0_barrel_187 k_X0_barrel_187 ?_
      refine by_inv2 cn_2 lk_0_86 (by rw [xe_cnt]; decide) is_7 np_7 cn_7 (by first | exact rfl | assumption) (Nat.le_of_ble_eq_true rfl) ?_
      refine sp_gcomp F13 I13 (by omega) v v13 (by omega) (fun h14 G14 c14 n14 F14 I14 e14 v14 => ?_)
      replace u4 := nG_up u4 e14
      replace u5 := nG_up u5 e14
      replace E := cE_tr E e14
      with_reducible refine xm_go_blk b_X0_barrel_190 k_X0_barrel_190 ?_
      refine by_istore (by rw [ml_2]; decide) ?_
      refine by_nil ?_
      try simp (disch := first | exact Nat.ne_of_beq_eq_false rfl | exact rfl | omega) only [nI_add, xa_sub, xa_mul, pk_div, nm_mod, xa_shr, xa_and7, xa_and1, xa_and255, xa_by_and, nI_m1, Nat.add_sub_cancel, Nat.reducePow, Nat.zero_add, Nat.add_zero, Nat.reduceAdd, Nat.reduceMul, Nat.reduceSub, xf_same, xq_ff, xq_fo, xf_1, xf_2, xs_1, xs_2, xs_same, xq_so, xj_1, xj_2, xj_same, xq_jo, xq_sa1, xq_same, xq_other, upd_s, oI_n, oI_s, xv_0, xv_1, xv_2, xv_3, xm_p1, xm_p2, xq_fp, xq_fn, List.filter_nil, Nat.reduceBEq, Bool.not_true, Bool.not_false, Bool.and_true, Bool.and_false, Bool.false_and, Bool.true_and, if_true, if_false, Bool.false_eq_true, reduceIte, xc_i, xc_j, xc_r, xc_n, List.nil_append, List.cons_append, Option.toList_some, Option.toList_none]
      with_reducible refine xm_go_blk b_X0_barrel_192 k_X0_barrel_192 ?_
      refine by_iinc (by rw [ml_2]; decide) rfl ci_1 ?_
      refine by_goto 61 rfl ?_
      try simp (disch := first | exact Nat.ne_of_beq_eq_false rfl | exact rfl | omega) only [nI_add, xa_sub, xa_mul, pk_div, nm_mod, xa_shr, xa_and7, xa_and1, xa_and255, xa_by_and, nI_m1, Nat.add_sub_cancel, Nat.reducePow, Nat.zero_add, Nat.add_zero, Nat.reduceAdd, Nat.reduceMul, Nat.reduceSub, xf_same, xq_ff, xq_fo, xf_1, xf_2, xs_1, xs_2, xs_same, xq_so, xj_1, xj_2, xj_same, xq_jo, xq_sa1, xq_same, xq_other, upd_s, oI_n, oI_s, xv_0, xv_1, xv_2, xv_3, xm_p1, xm_p2, xq_fp, xq_fn, List.filter_nil, Nat.reduceBEq, Bool.not_true, Bool.not_false, Bool.and_true, Bool.and_false, Bool.false_and, Bool.true_and, if_true, if_false, Bool.false_eq_true, reduceIte, xc_i, xc_j, xc_r, xc_n, List.nil_append, List.cons_append, Option.toList_some, Option.toList_none]
      refine xm_go_wk (by simp [Value.category]) (ih (j + 1) _ (m + (23 + 9 * (lv - j - 1))) _ _ _ _ h14 G14 (by omega) F14 (cI_mono I14 (by omega) (by omega)) (by omega) u4 u5 (nG_cg v14 (by omega) (by omega) (fun _ _ => rfl) (by rw [hq]; exact qle_rf _)) ?_ (fun F hF' h' G' c' n' k1 k2 k3 k4 => hp F hF' h' G' c' n' k1 (cI_mono k2 (by omega) hm) (cE_tr E k3) k4))
      intro b x hb hx
      have e0 := hs b x hb hx
      have hg : ∀ y, bg33 w lv j y = ((List.replicate w false ++ y).drop (w - 2 ^ j)).take w := fun y => if_pos hjl
      have e1 : brS lv (bg33 w lv) true (j + 1) b x = if b.getD (7 - j) false = false then brS lv (bg33 w lv) true j b x else bg33 w lv j (brS lv (bg33 w lv) true j b x) := if_pos (Or.inl hjl)
      rw [e1, hg]
      generalize brS lv (bg33 w lv) true j b x = y at *
      simp only [e0, li_ka hb.symm, li_da hb.symm, li_bit hb (show j < 8 by omega)]
      congr 1
    · rw [if_neg hjl] at hbm
      have hq : bq33 lv w (j + 1) = qC (8 + w) (bq33 lv w j) (qP qL (qC (1 + w) (qP (bq j) qL) (qH qL (qc 13 lv)))) := if_neg hjl
      have E : cE h G c h G c := cE_rf
      with_reducible refine xm_go_blk b_X0_barrel_61 k_X0_barrel_61 ?_
      refine by_iload rfl ?_
      refine by_bipush cb_8 ?_
      refine by_ic_ge 198 rfl ?_
      simp (disch := first | exact Nat.ne_of_beq_eq_false rfl | exact rfl | omega) only [nI_add, xa_sub, xa_mul, pk_div, nm_mod, xa_shr, xa_and7, xa_and1, xa_and255, xa_by_and, nI_m1, Nat.add_sub_cancel, Nat.reducePow, Nat.zero_add, Nat.add_zero, Nat.reduceAdd, Nat.reduceMul, Nat.reduceSub, xf_same, xq_ff, xq_fo, xf_1, xf_2, xs_1, xs_2, xs_same, xq_so, xj_1, xj_2, xj_same, xq_jo, xq_sa1, xq_same, xq_other, upd_s, oI_n, oI_s, xv_0, xv_1, xv_2, xv_3, xm_p1, xm_p2, xq_fp, xq_fn, List.filter_nil, Nat.reduceBEq, Bool.not_true, Bool.not_false, Bool.and_true, Bool.and_false, Bool.false_and, Bool.true_and, if_true, if_false, Bool.false_eq_true, reduceIte, xc_i, xc_j, xc_r, xc_n, List.nil_append, List.cons_append, Option.toList_some, Option.toList_none, nI_ltJ, nI_leJ, nI_eqJ, nI_ltz, nI_gez, nI_gtz, nI_lez, nI_eqz, m1_ltz, m1_gez, true_imp_iff, false_imp_iff, true_and, and_true, ne_eq, not_false_eq_true, not_true_eq_false, Nat.reduceEqDiff, Nat.reduceLT, Nat.reduceLeDiff]
      refine ⟨fun c => absurd c (by omega), fun c61 => ?_⟩
      with_reducible refine xm_go_blk b_X0_barrel_68 k_X0_barrel_68 ?_
      refine by_aload_n rfl ?_
      refine by_iload_n rfl ?_
      refine by_iload_n rfl ?_
      refine by_inv2 cn_2 lk_0_89 (by rw [xe_cnt]; decide) is_38 np_38 cn_38 (by first | exact rfl | assumption) (Nat.le_of_ble_eq_true rfl) ?_
      refine sp_zeros hP (by omega) (by omega) hJ (by omega) hF hI (by omega) (by omega) (fun h1 G1 c1 n1 F1 I1 e1 v1 => ?_)
      replace u4 := nG_up u4 e1
      replace u5 := nG_up u5 e1
      replace v := nG_up v e1
      replace E := cE_tr E e1
      with_reducible refine xm_go_blk b_X0_barrel_74 k_X0_barrel_74 ?_
      refine by_istore (by rw [ml_2]; decide) ?_
      refine by_iload rfl ?_
      refine by_iload_n rfl ?_
      refine by_ic_ge 120 rfl ?_
      simp (disch := first | exact Nat.ne_of_beq_eq_false rfl | exact rfl | omega) only [nI_add, xa_sub, xa_mul, pk_div, nm_mod, xa_shr, xa_and7, xa_and1, xa_and255, xa_by_and, nI_m1, Nat.add_sub_cancel, Nat.reducePow, Nat.zero_add, Nat.add_zero, Nat.reduceAdd, Nat.reduceMul, Nat.reduceSub, xf_same, xq_ff, xq_fo, xf_1, xf_2, xs_1, xs_2, xs_same, xq_so, xj_1, xj_2, xj_same, xq_jo, xq_sa1, xq_same, xq_other, upd_s, oI_n, oI_s, xv_0, xv_1, xv_2, xv_3, xm_p1, xm_p2, xq_fp, xq_fn, List.filter_nil, Nat.reduceBEq, Bool.not_true, Bool.not_false, Bool.and_true, Bool.and_false, Bool.false_and, Bool.true_and, if_true, if_false, Bool.false_eq_true, reduceIte, xc_i, xc_j, xc_r, xc_n, List.nil_append, List.cons_append, Option.toList_some, Option.toList_none, nI_ltJ, nI_leJ, nI_eqJ, nI_ltz, nI_gez, nI_gtz, nI_lez, nI_eqz, m1_ltz, m1_gez, true_imp_iff, false_imp_iff, true_and, and_true, ne_eq, not_false_eq_true, not_true_eq_false, Nat.reduceEqDiff, Nat.reduceLT, Nat.reduceLeDiff]
      refine ⟨fun c74 => ?_, fun c => absurd (by omega) c⟩
      with_reducible refine xm_go_blk b_X0_barrel_120 k_X0_barrel_120 ?_
      refine by_iload rfl ?_
      refine by_iload_n rfl ?_
      refine by_ic_lt 132 rfl ?_
      simp (disch := first | exact Nat.ne_of_beq_eq_false rfl | exact rfl | omega) only [nI_add, xa_sub, xa_mul, pk_div, nm_mod, xa_shr, xa_and7, xa_and1, xa_and255, xa_by_and, nI_m1, Nat.add_sub_cancel, Nat.reducePow, Nat.zero_add, Nat.add_zero, Nat.reduceAdd, Nat.reduceMul, Nat.reduceSub, xf_same, xq_ff, xq_fo, xf_1, xf_2, xs_1, xs_2, xs_same, xq_so, xj_1, xj_2, xj_same, xq_jo, xq_sa1, xq_same, xq_other, upd_s, oI_n, oI_s, xv_0, xv_1, xv_2, xv_3, xm_p1, xm_p2, xq_fp, xq_fn, List.filter_nil, Nat.reduceBEq, Bool.not_true, Bool.not_false, Bool.and_true, Bool.and_false, Bool.false_and, Bool.true_and, if_true, if_false, Bool.false_eq_true, reduceIte, xc_i, xc_j, xc_r, xc_n, List.nil_append, List.cons_append, Option.toList_some, Option.toList_none, nI_ltJ, nI_leJ, nI_eqJ, nI_ltz, nI_gez, nI_gtz, nI_lez, nI_eqz, m1_ltz, m1_gez, true_imp_iff, false_imp_iff, true_and, and_true, ne_eq, not_false_eq_true, not_true_eq_false, Nat.reduceEqDiff, Nat.reduceLT, Nat.reduceLeDiff]
      refine ⟨fun c => absurd c (by omega), fun c120 => ?_⟩
      with_reducible refine xm_go_blk b_X0_barrel_126 k_X0_barrel_126 ?_
      refine by_iload_n rfl ?_
      refine by_bipush cb_34 ?_
      refine by_ic_ge 192 rfl ?_
      simp (disch := first | exact Nat.ne_of_beq_eq_false rfl | exact rfl | omega) only [nI_add, xa_sub, xa_mul, pk_div, nm_mod, xa_shr, xa_and7, xa_and1, xa_and255, xa_by_and, nI_m1, Nat.add_sub_cancel, Nat.reducePow, Nat.zero_add, Nat.add_zero, Nat.reduceAdd, Nat.reduceMul, Nat.reduceSub, xf_same, xq_ff, xq_fo, xf_1, xf_2, xs_1, xs_2, xs_same, xq_so, xj_1, xj_2, xj_same, xq_jo, xq_sa1, xq_same, xq_other, upd_s, oI_n, oI_s, xv_0, xv_1, xv_2, xv_3, xm_p1, xm_p2, xq_fp, xq_fn, List.filter_nil, Nat.reduceBEq, Bool.not_true, Bool.not_false, Bool.and_true, Bool.and_false, Bool.false_and, Bool.true_and, if_true, if_false, Bool.false_eq_true, reduceIte, xc_i, xc_j, xc_r, xc_n, List.nil_append, List.cons_append, Option.toList_some, Option.toList_none, nI_ltJ, nI_leJ, nI_eqJ, nI_ltz, nI_gez, nI_gtz, nI_lez, nI_eqz, m1_ltz, m1_gez, true_imp_iff, false_imp_iff, true_and, and_true, ne_eq, not_false_eq_true, not_true_eq_false, Nat.reduceEqDiff, Nat.reduceLT, Nat.reduceLeDiff]
      with_reducible refine xm_go_blk b_X0_barrel_132 k_X0_barrel_132 ?_
      refine by_aload_n rfl ?_
      refine by_aload_n rfl ?_
      refine by_aload_n rfl ?_
      refine by_aload_n rfl ?_
      refine by_iload rfl ?_
      refine by_inv1 cn_2 lk_0_162 (by rw [xe_cnt]; decide) is_4 np_4 cn_4 (by first | exact rfl | assumption) (Nat.le_of_ble_eq_true rfl) ?_
      refine sp_bitOfByte (by omega) F1 I1 (by omega) (fun h2 G2 c2 n2 F2 I2 e2 v2 => ?_)
      replace u4 := nG_up u4 e2
      replace u5 := nG_up u5 e2
      replace v := nG_up v e2
      replace v1 := nG_up v1 e2
      replace E := cE_tr E e2
      with_reducible refine xm_go_blk b_X0_barrel_141 k_X0_barrel_141 ?_
      refine by_iload_n rfl ?_
      refine by_inv2 cn_2 lk_0_101 (by rw [xe_cnt]; decide) is_33 np_33 cn_33 (by first | exact rfl | assumption) (Nat.le_of_ble_eq_true rfl) ?_
      refine sp_gtake F2 I2 (by omega) v2 (by omega) (fun h3 G3 c3 n3 F3 I3 e3 v3 => ?_)
      replace u4 := nG_up u4 e3
      replace u5 := nG_up u5 e3
      replace v := nG_up v e3
      replace v1 := nG_up v1 e3
      replace E := cE_tr E e3
      with_reducible refine xm_go_blk b_X0_barrel_145 k_X0_barrel_145 ?_
      refine by_aload_n rfl ?_
      refine by_bipush cb_8 ?_
      refine by_iload_n rfl ?_
      refine by_inv2 cn_2 lk_0_92 (by rw [xe_cnt]; decide) is_32 np_32 cn_32 (by first | exact rfl | assumption) (Nat.le_of_ble_eq_true rfl) ?_
      refine sp_second F3 I3 (by omega) (by omega) (fun h4 G4 c4 n4 F4 I4 e4 v4 => ?_)
      replace u4 := nG_up u4 e4
      replace u5 := nG_up u5 e4
      replace v := nG_up v e4
      replace v1 := nG_up v1 e4
      replace v3 := nG_up v3 e4
      replace E := cE_tr E e4
      with_reducible refine xm_go_blk b_X0_barrel_152 k_X0_barrel_152 ?_
      refine by_inv2 cn_2 lk_0_80 (by rw [xe_cnt]; decide) is_25 np_25 cn_25 (by first | exact rfl | assumption) (Nat.le_of_ble_eq_true rfl) ?_
      refine sp_gpair F4 I4 (by omega) v3 v4 (by omega) (by omega) (fun h5 G5 c5 n5 F5 I5 e5 v5 => ?_)
      replace u4 := nG_up u4 e5
      replace u5 := nG_up u5 e5
      replace v := nG_up v e5
      replace v1 := nG_up v1 e5
      replace E := cE_tr E e5
      with_reducible refine xm_go_blk b_X0_barrel_155 k_X0_barrel_155 ?_
      refine by_aload_n rfl ?_
      refine by_aload_n rfl ?_
      refine by_iload_n rfl ?_
      refine by_inv1 cn_2 lk_0_76 (by rw [xe_cnt]; decide) is_18 np_18 cn_18 (by first | exact rfl | assumption) (Nat.le_of_ble_eq_true rfl) ?_
      refine sp_iden F5 I5 (by omega) (by omega) (fun h6 G6 c6 n6 F6 I6 e6 v6 => ?_)
      replace u4 := nG_up u4 e6
      replace u5 := nG_up u5 e6
      replace v := nG_up v e6
      replace v1 := nG_up v1 e6
      replace v5 := nG_up v5 e6
      replace E := cE_tr E e6
      with_reducible refine xm_go_blk b_X0_barrel_161 k_X0_barrel_161 ?_
      refine by_iload rfl ?_
      refine by_inv2 cn_2 lk_0_98 (by rw [xe_cnt]; decide) is_6 np_6 cn_6 (by first | exact rfl | assumption) (Nat.le_of_ble_eq_true rfl) ?_
      refine sp_choose F6 I6 (by omega) v6 v1 (by omega) (by omega) (by omega) (fun h7 G7 c7 n7 F7 I7 e7 v7 => ?_)
      replace u4 := nG_up u4 e7
      replace u5 := nG_up u5 e7
      replace v := nG_up v e7
      replace v5 := nG_up v5 e7
      replace E := cE_tr E e7
      with_reducible refine xm_go_blk b_X0_barrel_166 k_X0_barrel_166 ?_
      refine by_inv2 cn_2 lk_0_86 (by rw [xe_cnt]; decide) is_7 np_7 cn_7 (by first | exact rfl | assumption) (Nat.le_of_ble_eq_true rfl) ?_
      refine sp_gcomp F7 I7 (by omega) v5 v7 (by omega) (fun h8 G8 c8 n8 F8 I8 e8 v8 => ?_)
      replace u4 := nG_up u4 e8
      replace u5 := nG_up u5 e8
      replace v := nG_up v e8
      replace E := cE_tr E e8
      with_reducible refine xm_go_blk b_X0_barrel_169 k_X0_barrel_169 ?_
      refine by_istore (by rw [ml_2]; decide) ?_
      refine by_aload_n rfl ?_
      refine by_iload rfl ?_
      refine by_aload_n rfl ?_
      refine by_aload_n rfl ?_
      refine by_bipush cb_8 ?_
      refine by_iload_n rfl ?_
      simp (disch := first | exact Nat.ne_of_beq_eq_false rfl | exact rfl | omega) only [nI_add, xa_sub, xa_mul, pk_div, nm_mod, xa_shr, xa_and7, xa_and1, xa_and255, xa_by_and, nI_m1, Nat.add_sub_cancel, Nat.reducePow, Nat.zero_add, Nat.add_zero, Nat.reduceAdd, Nat.reduceMul, Nat.reduceSub, xf_same, xq_ff, xq_fo, xf_1, xf_2, xs_1, xs_2, xs_same, xq_so, xj_1, xj_2, xj_same, xq_jo, xq_sa1, xq_same, xq_other, upd_s, oI_n, oI_s, xv_0, xv_1, xv_2, xv_3, xm_p1, xm_p2, xq_fp, xq_fn, List.filter_nil, Nat.reduceBEq, Bool.not_true, Bool.not_false, Bool.and_true, Bool.and_false, Bool.false_and, Bool.true_and, if_true, if_false, Bool.false_eq_true, reduceIte, xc_i, xc_j, xc_r, xc_n, List.nil_append, List.cons_append, Option.toList_some, Option.toList_none]
      refine by_inv2 cn_2 lk_0_95 (by rw [xe_cnt]; decide) is_15 np_15 cn_15 (by first | exact rfl | assumption) (Nat.le_of_ble_eq_true rfl) ?_
      refine sp_first F8 I8 (by omega) (by omega) (fun h9 G9 c9 n9 F9 I9 e9 v9 => ?_)
      replace u4 := nG_up u4 e9
      replace u5 := nG_up u5 e9
      replace v := nG_up v e9
      replace v8 := nG_up v8 e9
      replace E := cE_tr E e9
      with_reducible refine xm_go_blk b_X0_barrel_182 k_X0_barrel_182 ?_
      refine by_iload rfl ?_
      refine by_inv2 cn_2 lk_0_80 (by rw [xe_cnt]; decide) is_25 np_25 cn_25 (by first | exact rfl | assumption) (Nat.le_of_ble_eq_true rfl) ?_
      refine sp_gpair F9 I9 (by omega) v9 v8 (by omega) (by omega) (fun h10 G10 c10 n10 F10 I10 e10 v10 => ?_)
      replace u4 := nG_up u4 e10
      replace u5 := nG_up u5 e10
      replace v := nG_up v e10
      replace E := cE_tr E e10
      with_reducible refine xm_go_blk b_X0_barrel_187 k_X0_barrel_187 ?_
      refine by_inv2 cn_2 lk_0_86 (by rw [xe_cnt]; decide) is_7 np_7 cn_7 (by first | exact rfl | assumption) (Nat.le_of_ble_eq_true rfl) ?_
      refine sp_gcomp F10 I10 (by omega) v v10 (by omega) (fun h11 G11 c11 n11 F11 I11 e11 v11 => ?_)
      replace u4 := nG_up u4 e11
      replace u5 := nG_up u5 e11
      replace E := cE_tr E e11
      with_reducible refine xm_go_blk b_X0_barrel_190 k_X0_barrel_190 ?_
      refine by_istore (by rw [ml_2]; decide) ?_
      refine by_nil ?_
      try simp (disch := first | exact Nat.ne_of_beq_eq_false rfl | exact rfl | omega) only [nI_add, xa_sub, xa_mul, pk_div, nm_mod, xa_shr, xa_and7, xa_and1, xa_and255, xa_by_and, nI_m1, Nat.add_sub_cancel, Nat.reducePow, Nat.zero_add, Nat.add_zero, Nat.reduceAdd, Nat.reduceMul, Nat.reduceSub, xf_same, xq_ff, xq_fo, xf_1, xf_2, xs_1, xs_2, xs_same, xq_so, xj_1, xj_2, xj_same, xq_jo, xq_sa1, xq_same, xq_other, upd_s, oI_n, oI_s, xv_0, xv_1, xv_2, xv_3, xm_p1, xm_p2, xq_fp, xq_fn, List.filter_nil, Nat.reduceBEq, Bool.not_true, Bool.not_false, Bool.and_true, Bool.and_false, Bool.false_and, Bool.true_and, if_true, if_false, Bool.false_eq_true, reduceIte, xc_i, xc_j, xc_r, xc_n, List.nil_append, List.cons_append, Option.toList_some, Option.toList_none]
      with_reducible refine xm_go_blk b_X0_barrel_192 k_X0_barrel_192 ?_
      refine by_iinc (by rw [ml_2]; decide) rfl ci_1 ?_
      refine by_goto 61 rfl ?_
      try simp (disch := first | exact Nat.ne_of_beq_eq_false rfl | exact rfl | omega) only [nI_add, xa_sub, xa_mul, pk_div, nm_mod, xa_shr, xa_and7, xa_and1, xa_and255, xa_by_and, nI_m1, Nat.add_sub_cancel, Nat.reducePow, Nat.zero_add, Nat.add_zero, Nat.reduceAdd, Nat.reduceMul, Nat.reduceSub, xf_same, xq_ff, xq_fo, xf_1, xf_2, xs_1, xs_2, xs_same, xq_so, xj_1, xj_2, xj_same, xq_jo, xq_sa1, xq_same, xq_other, upd_s, oI_n, oI_s, xv_0, xv_1, xv_2, xv_3, xm_p1, xm_p2, xq_fp, xq_fn, List.filter_nil, Nat.reduceBEq, Bool.not_true, Bool.not_false, Bool.and_true, Bool.and_false, Bool.false_and, Bool.true_and, if_true, if_false, Bool.false_eq_true, reduceIte, xc_i, xc_j, xc_r, xc_n, List.nil_append, List.cons_append, Option.toList_some, Option.toList_none]
      refine xm_go_wk (by simp [Value.category]) (ih (j + 1) _ (m + 15) _ _ _ _ h11 G11 (by omega) F11 (cI_mono I11 (by omega) (by omega)) (by omega) u4 u5 (nG_cg v11 (by omega) (by omega) (fun _ _ => rfl) (by rw [hq]; exact qle_rf _)) ?_ (fun F hF' h' G' c' n' k1 k2 k3 k4 => hp F hF' h' G' c' n' k1 (cI_mono k2 (by omega) hm) (cE_tr E k3) k4))
      intro b x hb hx
      have e0 := hs b x hb hx
      have hg : ∀ y, bg33 w lv j y = List.replicate w false := fun y => if_neg hjl
      have e1 : brS lv (bg33 w lv) true (j + 1) b x = if b.getD (7 - j) false = false then brS lv (bg33 w lv) true j b x else bg33 w lv j (brS lv (bg33 w lv) true j b x) := if_pos (Or.inr rfl)
      rw [e1, hg]
      generalize brS lv (bg33 w lv) true j b x = y at *
      simp only [e0, li_ka hb.symm, li_da hb.symm, li_bit hb (show j < 8 by omega), hw]
      congr 1
end CD
def bg34 (w lv j : Nat) (y : List Bool) : List Bool := if j < lv then ((y ++ y).drop (2 ^ j)).take w else List.replicate w false
def bq34 (lv w : Nat) : Nat → gQ
  | 0 => qL
  | j + 1 => if j < lv then qC (8 + w) (bq34 lv w j) (qP qL (qC (1 + w) (qP (bq j) qL) (qH qL (qC (w + w) (qP qL qL) (wqL j (lv - j - 1)))))) else bq34 lv w j
def bm34 (lv : Nat) : Nat → Nat
  | 0 => 0
  | n + 1 => (if 7 - n < lv then 23 + 9 * (lv - (7 - n) - 1) else 1) + bm34 lv n
section CD
variable {sc : xm_Sc} {d : Nat} {post : xm_Po}
theorem br_34 {lv w : Nat} (h3 : 3 ≤ lv) (hlv : lv < 7) (hw : 2 ^ lv = w) (hP : aOK sc 11) (hD : 44 ≤ d) : ∀ (n j c m p4 p5 p6 : Nat) (f : gFn) (h : xm_H) (G : Nat → gN), j + n = 8 → XF h → cI h G c m [] → m + bm34 lv n + 3 ≤ 8000 → nG G c p4 w w (fun x => x) qL → nG G c p5 w w (fun x => x) qL → nG G c p6 (8 + w) (8 + w) f (bq34 lv w j) →
    (∀ b x, b.length = 8 → x.length = w → f (b ++ x) = b ++ brS lv (bg34 w lv) false j b x) → (∀ F, (∀ b x, b.length = 8 → x.length = w → F (b ++ x) = brS lv (bg34 w lv) false 8 b x) → cPo h G c (m + bm34 lv n + 3) [] (8 + w) w F (qC (8 + w) (bq34 lv w 8) qL) post) →
    xm_go (XE sc) (xm_T (XE sc) (d + 6)) 2 post 61 [(7, .int (nI j)), (6, .int (nI p6)), (5, .int (nI p5)), (4, .int (nI p4)), (0, .ref 22), (1, .int (nI 34)), (2, .int (nI lv)), (3, .int (nI w))] [] h := by
  have hw64 := pw_l7 hlv
  rw [hw] at hw64
  have hJ : ∀ j ∈ ([] : List Nat), 11 ≤ pH j := fun j hj => absurd hj (by simp)
  intro n
  induction n with
  | zero =>
    intro j c m p4 p5 p6 f h G hj hF hI hm u4 u5 v hs hp
    have : j = 8 := by omega
    subst this
    have hl := nG_len hI v
    have hm0 : bm34 lv 0 = 0 := rfl
    have E : cE h G c h G c := cE_rf
    with_reducible refine xm_go_blk b_X0_barrel_61 k_X0_barrel_61 ?_
    refine by_iload rfl ?_
    refine by_bipush cb_8 ?_
    refine by_ic_ge 198 rfl ?_
    simp (disch := first | exact Nat.ne_of_beq_eq_false rfl | exact rfl | omega) only [nI_add, xa_sub, xa_mul, pk_div, nm_mod, xa_shr, xa_and7, xa_and1, xa_and255, xa_by_and, nI_m1, Nat.add_sub_cancel, Nat.reducePow, Nat.zero_add, Nat.add_zero, Nat.reduceAdd, Nat.reduceMul, Nat.reduceSub, xf_same, xq_ff, xq_fo, xf_1, xf_2, xs_1, xs_2, xs_same, xq_so, xj_1, xj_2, xj_same, xq_jo, xq_sa1, xq_same, xq_other, upd_s, oI_n, oI_s, xv_0, xv_1, xv_2, xv_3, xm_p1, xm_p2, xq_fp, xq_fn, List.filter_nil, Nat.reduceBEq, Bool.not_true, Bool.not_false, Bool.and_true, Bool.and_false, Bool.false_and, Bool.true_and, if_true, if_false, Bool.false_eq_true, reduceIte, xc_i, xc_j, xc_r, xc_n, List.nil_append, List.cons_append, Option.toList_some, Option.toList_none, nI_ltJ, nI_leJ, nI_eqJ, nI_ltz, nI_gez, nI_gtz, nI_lez, nI_eqz, m1_ltz, m1_gez, true_imp_iff, false_imp_iff, true_and, and_true, ne_eq, not_false_eq_true, not_true_eq_false, Nat.reduceEqDiff, Nat.reduceLT, Nat.reduceLeDiff]
    with_reducible refine xm_go_blk b_X0_barrel_198 k_X0_barrel_198 ?_
    refine by_aload_n rfl ?_
    refine by_iload rfl ?_
    refine by_aload_n rfl ?_
    refine by_bipush cb_8 ?_
    refine by_iload_n rfl ?_
    refine by_inv2 cn_2 lk_0_92 (by rw [xe_cnt]; decide) is_32 np_32 cn_32 (by first | exact rfl | assumption) (Nat.le_of_ble_eq_true rfl) ?_
    refine sp_second hF hI (by omega) (by omega) (fun h1 G1 c1 n1 F1 I1 e1 v1 => ?_)
    replace v := nG_up v e1
    replace E := cE_tr E e1
    with_reducible refine xm_go_blk b_X0_barrel_208 k_X0_barrel_208 ?_
    refine by_inv2 cn_2 lk_0_86 (by rw [xe_cnt]; decide) is_7 np_7 cn_7 (by first | exact rfl | assumption) (Nat.le_of_ble_eq_true rfl) ?_
    refine sp_gcomp F1 I1 (by omega) v v1 (by omega) (fun h2 G2 c2 n2 F2 I2 e2 v2 => ?_)
    replace E := cE_tr E e2
    with_reducible refine xm_go_blk b_X0_barrel_211 k_X0_barrel_211 ?_
    refine by_iret ry_2 (by first | rfl | assumption) ?_
    refine hp _ ?_ _ _ _ _ F2 (cI_mono I2 (by omega) hm) E (nG_cg v2 (by omega) (by omega) (fun x hx => rfl) (qle_rf _))
    intro b x hb hx
    show (f (b ++ x)).drop 8 = _
    rw [hs b x hb hx, li_da hb.symm]
  | succ n ih =>
    intro j c m p4 p5 p6 f h G hj hF hI hm u4 u5 v hs hp
    have hl := nG_len hI v
    have hjn : 7 - n = j := by omega
    have hbm : bm34 lv (n + 1) = (if j < lv then 23 + 9 * (lv - j - 1) else 1) + bm34 lv n := by
      show (if 7 - n < lv then _ else _) + _ = _
      rw [hjn]
    by_cases hjl : j < lv
    · rw [if_pos hjl] at hbm
      have hj64 := pw_l7 (l := j) (by omega)
      have hq : bq34 lv w (j + 1) = qC (8 + w) (bq34 lv w j) (qP qL (qC (1 + w) (qP (bq j) qL) (qH qL (qC (w + w) (qP qL qL) (wqL j (lv - j - 1)))))) := if_pos hjl
      have E : cE h G c h G c := cE_rf
      with_reducible refine xm_go_blk b_X0_barrel_61 k_X0_barrel_61 ?_
      refine by_iload rfl ?_
      refine by_bipush cb_8 ?_
      refine by_ic_ge 198 rfl ?_
      simp (disch := first | exact Nat.ne_of_beq_eq_false rfl | exact rfl | omega) only [nI_add, xa_sub, xa_mul, pk_div, nm_mod, xa_shr, xa_and7, xa_and1, xa_and255, xa_by_and, nI_m1, Nat.add_sub_cancel, Nat.reducePow, Nat.zero_add, Nat.add_zero, Nat.reduceAdd, Nat.reduceMul, Nat.reduceSub, xf_same, xq_ff, xq_fo, xf_1, xf_2, xs_1, xs_2, xs_same, xq_so, xj_1, xj_2, xj_same, xq_jo, xq_sa1, xq_same, xq_other, upd_s, oI_n, oI_s, xv_0, xv_1, xv_2, xv_3, xm_p1, xm_p2, xq_fp, xq_fn, List.filter_nil, Nat.reduceBEq, Bool.not_true, Bool.not_false, Bool.and_true, Bool.and_false, Bool.false_and, Bool.true_and, if_true, if_false, Bool.false_eq_true, reduceIte, xc_i, xc_j, xc_r, xc_n, List.nil_append, List.cons_append, Option.toList_some, Option.toList_none, nI_ltJ, nI_leJ, nI_eqJ, nI_ltz, nI_gez, nI_gtz, nI_lez, nI_eqz, m1_ltz, m1_gez, true_imp_iff, false_imp_iff, true_and, and_true, ne_eq, not_false_eq_true, not_true_eq_false, Nat.reduceEqDiff, Nat.reduceLT, Nat.reduceLeDiff]
      refine ⟨fun c => absurd c (by omega), fun c61 => ?_⟩
      with_reducible refine xm_go_blk b_X0_barrel_68 k_X0_barrel_68 ?_
      refine by_aload_n rfl ?_
      refine by_iload_n rfl ?_
      refine by_iload_n rfl ?_
      refine by_inv2 cn_2 lk_0_89 (by rw [xe_cnt]; decide) is_38 np_38 cn_38 (by first | exact rfl | assumption) (Nat.le_of_ble_eq_true rfl) ?_
      refine sp_zeros hP (by omega) (by omega) hJ (by omega) hF hI (by omega) (by omega) (fun h1 G1 c1 n1 F1 I1 e1 v1 => ?_)
      replace u4 := nG_up u4 e1
      replace u5 := nG_up u5 e1
      replace v := nG_up v e1
      replace E := cE_tr E e1
      with_reducible refine xm_go_blk b_X0_barrel_74 k_X0_barrel_74 ?_
      refine by_istore (by rw [ml_2]; decide) ?_
      refine by_iload rfl ?_
      refine by_iload_n rfl ?_
      refine by_ic_ge 120 rfl ?_
      simp (disch := first | exact Nat.ne_of_beq_eq_false rfl | exact rfl | omega) only [nI_add, xa_sub, xa_mul, pk_div, nm_mod, xa_shr, xa_and7, xa_and1, xa_and255, xa_by_and, nI_m1, Nat.add_sub_cancel, Nat.reducePow, Nat.zero_add, Nat.add_zero, Nat.reduceAdd, Nat.reduceMul, Nat.reduceSub, xf_same, xq_ff, xq_fo, xf_1, xf_2, xs_1, xs_2, xs_same, xq_so, xj_1, xj_2, xj_same, xq_jo, xq_sa1, xq_same, xq_other, upd_s, oI_n, oI_s, xv_0, xv_1, xv_2, xv_3, xm_p1, xm_p2, xq_fp, xq_fn, List.filter_nil, Nat.reduceBEq, Bool.not_true, Bool.not_false, Bool.and_true, Bool.and_false, Bool.false_and, Bool.true_and, if_true, if_false, Bool.false_eq_true, reduceIte, xc_i, xc_j, xc_r, xc_n, List.nil_append, List.cons_append, Option.toList_some, Option.toList_none, nI_ltJ, nI_leJ, nI_eqJ, nI_ltz, nI_gez, nI_gtz, nI_lez, nI_eqz, m1_ltz, m1_gez, true_imp_iff, false_imp_iff, true_and, and_true, ne_eq, not_false_eq_true, not_true_eq_false, Nat.reduceEqDiff, Nat.reduceLT, Nat.reduceLeDiff]
      refine ⟨fun c => absurd c (by omega), fun c74 => ?_⟩
      with_reducible refine xm_go_blk b_X0_barrel_82 k_X0_barrel_82 ?_
      refine by_aload_n rfl ?_
      refine by_aload_n rfl ?_
      refine by_iload rfl ?_
      refine by_iload rfl ?_
      refine by_inv2 cn_2 lk_0_80 (by rw [xe_cnt]; decide) is_25 np_25 cn_25 (by first | exact rfl | assumption) (Nat.le_of_ble_eq_true rfl) ?_
      refine sp_gpair F1 I1 (by omega) u4 u5 (by omega) (by omega) (fun h2 G2 c2 n2 F2 I2 e2 v2 => ?_)
      replace u4 := nG_up u4 e2
      replace u5 := nG_up u5 e2
      replace v := nG_up v e2
      replace E := cE_tr E e2
      with_reducible refine xm_go_blk b_X0_barrel_91 k_X0_barrel_91 ?_
      refine by_aload_n rfl ?_
      refine by_iload_n rfl ?_
      refine by_iload rfl ?_
      refine by_iload_n rfl ?_
      refine by_bipush cb_33 ?_
      refine by_ic_eq 107 rfl ?_
      simp (disch := first | exact Nat.ne_of_beq_eq_false rfl | exact rfl | omega) only [nI_add, xa_sub, xa_mul, pk_div, nm_mod, xa_shr, xa_and7, xa_and1, xa_and255, xa_by_and, nI_m1, Nat.add_sub_cancel, Nat.reducePow, Nat.zero_add, Nat.add_zero, Nat.reduceAdd, Nat.reduceMul, Nat.reduceSub, xf_same, xq_ff, xq_fo, xf_1, xf_2, xs_1, xs_2, xs_same, xq_so, xj_1, xj_2, xj_same, xq_jo, xq_sa1, xq_same, xq_other, upd_s, oI_n, oI_s, xv_0, xv_1, xv_2, xv_3, xm_p1, xm_p2, xq_fp, xq_fn, List.filter_nil, Nat.reduceBEq, Bool.not_true, Bool.not_false, Bool.and_true, Bool.and_false, Bool.false_and, Bool.true_and, if_true, if_false, Bool.false_eq_true, reduceIte, xc_i, xc_j, xc_r, xc_n, List.nil_append, List.cons_append, Option.toList_some, Option.toList_none, nI_ltJ, nI_leJ, nI_eqJ, nI_ltz, nI_gez, nI_gtz, nI_lez, nI_eqz, m1_ltz, m1_gez, true_imp_iff, false_imp_iff, true_and, and_true, ne_eq, not_false_eq_true, not_true_eq_false, Nat.reduceEqDiff, Nat.reduceLT, Nat.reduceLeDiff]
      with_reducible refine xm_go_blk b_X0_barrel_101 k_X0_barrel_101 ?_
      refine by_iload_n rfl ?_
      refine by_bipush cb_35 ?_
      refine by_ic_ne 111 rfl ?_
      simp (disch := first | exact Nat.ne_of_beq_eq_false rfl | exact rfl | omega) only [nI_add, xa_sub, xa_mul, pk_div, nm_mod, xa_shr, xa_and7, xa_and1, xa_and255, xa_by_and, nI_m1, Nat.add_sub_cancel, Nat.reducePow, Nat.zero_add, Nat.add_zero, Nat.reduceAdd, Nat.reduceMul, Nat.reduceSub, xf_same, xq_ff, xq_fo, xf_1, xf_2, xs_1, xs_2, xs_same, xq_so, xj_1, xj_2, xj_same, xq_jo, xq_sa1, xq_same, xq_other, upd_s, oI_n, oI_s, xv_0, xv_1, xv_2, xv_3, xm_p1, xm_p2, xq_fp, xq_fn, List.filter_nil, Nat.reduceBEq, Bool.not_true, Bool.not_false, Bool.and_true, Bool.and_false, Bool.false_and, Bool.true_and, if_true, if_false, Bool.false_eq_true, reduceIte, xc_i, xc_j, xc_r, xc_n, List.nil_append, List.cons_append, Option.toList_some, Option.toList_none, nI_ltJ, nI_leJ, nI_eqJ, nI_ltz, nI_gez, nI_gtz, nI_lez, nI_eqz, m1_ltz, m1_gez, true_imp_iff, false_imp_iff, true_and, and_true, ne_eq, not_false_eq_true, not_true_eq_false, Nat.reduceEqDiff, Nat.reduceLT, Nat.reduceLeDiff]
      with_reducible refine xm_go_blk b_X0_barrel_111 k_X0_barrel_111 ?_
      refine by_iconst ci_0 ?_
      refine by_nil ?_
      with_reducible refine xm_go_blk b_X0_barrel_112 k_X0_barrel_112 ?_
      refine by_inv3 cn_2 lk_0_159 (by rw [xe_cnt]; decide) is_37 np_37 cn_37 (by first | exact rfl | assumption) (Nat.le_of_ble_eq_true rfl) ?_
      refine sp_windowL (by omega) (by omega) hw F2 I2 (by omega) (fun h3 G3 c3 n3 F3 I3 e3 v3 => ?_)
      replace u4 := nG_up u4 e3
      replace u5 := nG_up u5 e3
      replace v := nG_up v e3
      replace v2 := nG_up v2 e3
      replace E := cE_tr E e3
      with_reducible refine xm_go_blk b_X0_barrel_115 k_X0_barrel_115 ?_
      refine by_inv2 cn_2 lk_0_86 (by rw [xe_cnt]; decide) is_7 np_7 cn_7 (by first | exact rfl | assumption) (Nat.le_of_ble_eq_true rfl) ?_
      refine sp_gcomp F3 I3 (by omega) v2 v3 (by omega) (fun h4 G4 c4 n4 F4 I4 e4 v4 => ?_)
      replace u4 := nG_up u4 e4
      replace u5 := nG_up u5 e4
      replace v := nG_up v e4
      replace E := cE_tr E e4
      with_reducible refine xm_go_blk b_X0_barrel_118 k_X0_barrel_118 ?_
      refine by_istore (by rw [ml_2]; decide) ?_
      refine by_nil ?_
      try simp (disch := first | exact Nat.ne_of_beq_eq_false rfl | exact rfl | omega) only [nI_add, xa_sub, xa_mul, pk_div, nm_mod, xa_shr, xa_and7, xa_and1, xa_and255, xa_by_and, nI_m1, Nat.add_sub_cancel, Nat.reducePow, Nat.zero_add, Nat.add_zero, Nat.reduceAdd, Nat.reduceMul, Nat.reduceSub, xf_same, xq_ff, xq_fo, xf_1, xf_2, xs_1, xs_2, xs_same, xq_so, xj_1, xj_2, xj_same, xq_jo, xq_sa1, xq_same, xq_other, upd_s, oI_n, oI_s, xv_0, xv_1, xv_2, xv_3, xm_p1, xm_p2, xq_fp, xq_fn, List.filter_nil, Nat.reduceBEq, Bool.not_true, Bool.not_false, Bool.and_true, Bool.and_false, Bool.false_and, Bool.true_and, if_true, if_false, Bool.false_eq_true, reduceIte, xc_i, xc_j, xc_r, xc_n, List.nil_append, List.cons_append, Option.toList_some, Option.toList_none]
      with_reducible refine xm_go_blk b_X0_barrel_120 k_X0_barrel_120 ?_
      refine by_iload rfl ?_
      refine by_iload_n rfl ?_
      refine by_ic_lt 132 rfl ?_
      simp (disch := first | exact Nat.ne_of_beq_eq_false rfl | exact rfl | omega) only [nI_add, xa_sub, xa_mul, pk_div, nm_mod, xa_shr, xa_and7, xa_and1, xa_and255, xa_by_and, nI_m1, Nat.add_sub_cancel, Nat.reducePow, Nat.zero_add, Nat.add_zero, Nat.reduceAdd, Nat.reduceMul, Nat.reduceSub, xf_same, xq_ff, xq_fo, xf_1, xf_2, xs_1, xs_2, xs_same, xq_so, xj_1, xj_2, xj_same, xq_jo, xq_sa1, xq_same, xq_other, upd_s, oI_n, oI_s, xv_0, xv_1, xv_2, xv_3, xm_p1, xm_p2, xq_fp, xq_fn, List.filter_nil, Nat.reduceBEq, Bool.not_true, Bool.not_false, Bool.and_true, Bool.and_false, Bool.false_and, Bool.true_and, if_true, if_false, Bool.false_eq_true, reduceIte, xc_i, xc_j, xc_r, xc_n, List.nil_append, List.cons_append, Option.toList_some, Option.toList_none, nI_ltJ, nI_leJ, nI_eqJ, nI_ltz, nI_gez, nI_gtz, nI_lez, nI_eqz, m1_ltz, m1_gez, true_imp_iff, false_imp_iff, true_and, and_true, ne_eq, not_false_eq_true, not_true_eq_false, Nat.reduceEqDiff, Nat.reduceLT, Nat.reduceLeDiff]
      refine ⟨fun c120 => ?_, fun c => absurd (by omega) c⟩
      with_reducible refine xm_go_blk b_X0_barrel_132 k_X0_barrel_132 ?_
      refine by_aload_n rfl ?_
      refine by_aload_n rfl ?_
      refine by_aload_n rfl ?_
      refine by_aload_n rfl ?_
      refine by_iload rfl ?_
      refine by_inv1 cn_2 lk_0_162 (by rw [xe_cnt]; decide) is_4 np_4 cn_4 (by first | exact rfl | assumption) (Nat.le_of_ble_eq_true rfl) ?_
      refine sp_bitOfByte (by omega) F4 I4 (by omega) (fun h5 G5 c5 n5 F5 I5 e5 v5 => ?_)
      replace u4 := nG_up u4 e5
      replace u5 := nG_up u5 e5
      replace v := nG_up v e5
      replace v4 := nG_up v4 e5
      replace E := cE_tr E e5
      with_reducible refine xm_go_blk b_X0_barrel_141 k_X0_barrel_141 ?_
      refine by_iload_n rfl ?_
      refine by_inv2 cn_2 lk_0_101 (by rw [xe_cnt]; decide) is_33 np_33 cn_33 (by first | exact rfl | assumption) (Nat.le_of_ble_eq_true rfl) ?_
      refine sp_gtake F5 I5 (by omega) v5 (by omega) (fun h6 G6 c6 n6 F6 I6 e6 v6 => ?_)
      replace u4 := nG_up u4 e6
      replace u5 := nG_up u5 e6
      replace v := nG_up v e6
      replace v4 := nG_up v4 e6
      replace E := cE_tr E e6
      with_reducible refine xm_go_blk b_X0_barrel_145 k_X0_barrel_145 ?_
      refine by_aload_n rfl ?_
      refine by_bipush cb_8 ?_
      refine by_iload_n rfl ?_
      refine by_inv2 cn_2 lk_0_92 (by rw [xe_cnt]; decide) is_32 np_32 cn_32 (by first | exact rfl | assumption) (Nat.le_of_ble_eq_true rfl) ?_
      refine sp_second F6 I6 (by omega) (by omega) (fun h7 G7 c7 n7 F7 I7 e7 v7 => ?_)
      replace u4 := nG_up u4 e7
      replace u5 := nG_up u5 e7
      replace v := nG_up v e7
      replace v4 := nG_up v4 e7
      replace v6 := nG_up v6 e7
      replace E := cE_tr E e7
      with_reducible refine xm_go_blk b_X0_barrel_152 k_X0_barrel_152 ?_
      refine by_inv2 cn_2 lk_0_80 (by rw [xe_cnt]; decide) is_25 np_25 cn_25 (by first | exact rfl | assumption) (Nat.le_of_ble_eq_true rfl) ?_
      refine sp_gpair F7 I7 (by omega) v6 v7 (by omega) (by omega) (fun h8 G8 c8 n8 F8 I8 e8 v8 => ?_)
      replace u4 := nG_up u4 e8
      replace u5 := nG_up u5 e8
      replace v := nG_up v e8
      replace v4 := nG_up v4 e8
      replace E := cE_tr E e8
      with_reducible refine xm_go_blk b_X0_barrel_155 k_X0_barrel_155 ?_
      refine by_aload_n rfl ?_
      refine by_aload_n rfl ?_
      refine by_iload_n rfl ?_
      refine by_inv1 cn_2 lk_0_76 (by rw [xe_cnt]; decide) is_18 np_18 cn_18 (by first | exact rfl | assumption) (Nat.le_of_ble_eq_true rfl) ?_
      refine sp_iden F8 I8 (by omega) (by omega) (fun h9 G9 c9 n9 F9 I9 e9 v9 => ?_)
      replace u4 := nG_up u4 e9
      replace u5 := nG_up u5 e9
      replace v := nG_up v e9
      replace v4 := nG_up v4 e9
      replace v8 := nG_up v8 e9
      replace E := cE_tr E e9
      with_reducible refine xm_go_blk b_X0_barrel_161 k_X0_barrel_161 ?_
      refine by_iload rfl ?_
      refine by_inv2 cn_2 lk_0_98 (by rw [xe_cnt]; decide) is_6 np_6 cn_6 (by first | exact rfl | assumption) (Nat.le_of_ble_eq_true rfl) ?_
      refine sp_choose F9 I9 (by omega) v9 v4 (by omega) (by omega) (by omega) (fun h10 G10 c10 n10 F10 I10 e10 v10 => ?_)
      replace u4 := nG_up u4 e10
      replace u5 := nG_up u5 e10
      replace v := nG_up v e10
      replace v8 := nG_up v8 e10
      replace E := cE_tr E e10
      with_reducible refine xm_go_blk b_X0_barrel_166 k_X0_barrel_166 ?_
      refine by_inv2 cn_2 lk_0_86 (by rw [xe_cnt]; decide) is_7 np_7 cn_7 (by first | exact rfl | assumption) (Nat.le_of_ble_eq_true rfl) ?_
      refine sp_gcomp F10 I10 (by omega) v8 v10 (by omega) (fun h11 G11 c11 n11 F11 I11 e11 v11 => ?_)
      replace u4 := nG_up u4 e11
      replace u5 := nG_up u5 e11
      replace v := nG_up v e11
      replace E := cE_tr E e11
      with_reducible refine xm_go_blk b_X0_barrel_169 k_X0_barrel_169 ?_
      refine by_istore (by rw [ml_2]; decide) ?_
      refine by_aload_n rfl ?_
      refine by_iload rfl ?_
      refine by_aload_n rfl ?_
      refine by_aload_n rfl ?_
      refine by_bipush cb_8 ?_
      refine by_iload_n rfl ?_
      simp (disch := first | exact Nat.ne_of_beq_eq_false rfl | exact rfl | omega) only [nI_add, xa_sub, xa_mul, pk_div, nm_mod, xa_shr, xa_and7, xa_and1, xa_and255, xa_by_and, nI_m1, Nat.add_sub_cancel, Nat.reducePow, Nat.zero_add, Nat.add_zero, Nat.reduceAdd, Nat.reduceMul, Nat.reduceSub, xf_same, xq_ff, xq_fo, xf_1, xf_2, xs_1, xs_2, xs_same, xq_so, xj_1, xj_2, xj_same, xq_jo, xq_sa1, xq_same, xq_other, upd_s, oI_n, oI_s, xv_0, xv_1, xv_2, xv_3, xm_p1, xm_p2, xq_fp, xq_fn, List.filter_nil, Nat.reduceBEq, Bool.not_true, Bool.not_false, Bool.and_true, Bool.and_false, Bool.false_and, Bool.true_and, if_true, if_false, Bool.false_eq_true, reduceIte, xc_i, xc_j, xc_r, xc_n, List.nil_append, List.cons_append, Option.toList_some, Option.toList_none]
      refine by_inv2 cn_2 lk_0_95 (by rw [xe_cnt]; decide) is_15 np_15 cn_15 (by first | exact rfl | assumption) (Nat.le_of_ble_eq_true rfl) ?_
      refine sp_first F11 I11 (by omega) (by omega) (fun h12 G12 c12 n12 F12 I12 e12 v12 => ?_)
      replace u4 := nG_up u4 e12
      replace u5 := nG_up u5 e12
      replace v := nG_up v e12
      replace v11 := nG_up v11 e12
      replace E := cE_tr E e12
      with_reducible refine xm_go_blk b_X0_barrel_182 k_X0_barrel_182 ?_
      refine by_iload rfl ?_
      refine by_inv2 cn_2 lk_0_80 (by rw [xe_cnt]; decide) is_25 np_25 cn_25 (by first | exact rfl | assumption) (Nat.le_of_ble_eq_true rfl) ?_
      refine sp_gpair F12 I12 (by omega) v12 v11 (by omega) (by omega) (fun h13 G13 c13 n13 F13 I13 e13 v13 => ?_)
      replace u4 := nG_up u4 e13
      replace u5 := nG_up u5 e13
      replace v := nG_up v e13
      replace E := cE_tr E e13
      with_reducible refine xm_go_blk b_X0_barrel_187 k_X0_barrel_187 ?_
      refine by_inv2 cn_2 lk_0_86 (by rw [xe_cnt]; decide) is_7 np_7 cn_7 (by first | exact rfl | assumption) (Nat.le_of_ble_eq_true rfl) ?_
      refine sp_gcomp F13 I13 (by omega) v v13 (by omega) (fun h14 G14 c14 n14 F14 I14 e14 v14 => ?_)
      replace u4 := nG_up u4 e14
      replace u5 := nG_up u5 e14
      replace E := cE_tr E e14
      with_reducible refine xm_go_blk b_X0_barrel_190 k_X0_barrel_190 ?_
      refine by_istore (by rw [ml_2]; decide) ?_
      refine by_nil ?_
      try simp (disch := first | exact Nat.ne_of_beq_eq_false rfl | exact rfl | omega) only [nI_add, xa_sub, xa_mul, pk_div, nm_mod, xa_shr, xa_and7, xa_and1, xa_and255, xa_by_and, nI_m1, Nat.add_sub_cancel, Nat.reducePow, Nat.zero_add, Nat.add_zero, Nat.reduceAdd, Nat.reduceMul, Nat.reduceSub, xf_same, xq_ff, xq_fo, xf_1, xf_2, xs_1, xs_2, xs_same, xq_so, xj_1, xj_2, xj_same, xq_jo, xq_sa1, xq_same, xq_other, upd_s, oI_n, oI_s, xv_0, xv_1, xv_2, xv_3, xm_p1, xm_p2, xq_fp, xq_fn, List.filter_nil, Nat.reduceBEq, Bool.not_true, Bool.not_false, Bool.and_true, Bool.and_false, Bool.false_and, Bool.true_and, if_true, if_false, Bool.false_eq_true, reduceIte, xc_i, xc_j, xc_r, xc_n, List.nil_append, List.cons_append, Option.toList_some, Option.toList_none]
      with_reducible refine xm_go_blk b_X0_barrel_192 k_X0_barrel_192 ?_
      refine by_iinc (by rw [ml_2]; decide) rfl ci_1 ?_
      refine by_goto 61 rfl ?_
      try simp (disch := first | exact Nat.ne_of_beq_eq_false rfl | exact rfl | omega) only [nI_add, xa_sub, xa_mul, pk_div, nm_mod, xa_shr, xa_and7, xa_and1, xa_and255, xa_by_and, nI_m1, Nat.add_sub_cancel, Nat.reducePow, Nat.zero_add, Nat.add_zero, Nat.reduceAdd, Nat.reduceMul, Nat.reduceSub, xf_same, xq_ff, xq_fo, xf_1, xf_2, xs_1, xs_2, xs_same, xq_so, xj_1, xj_2, xj_same, xq_jo, xq_sa1, xq_same, xq_other, upd_s, oI_n, oI_s, xv_0, xv_1, xv_2, xv_3, xm_p1, xm_p2, xq_fp, xq_fn, List.filter_nil, Nat.reduceBEq, Bool.not_true, Bool.not_false, Bool.and_true, Bool.and_false, Bool.false_and, Bool.true_and, if_true, if_false, Bool.false_eq_true, reduceIte, xc_i, xc_j, xc_r, xc_n, List.nil_append, List.cons_append, Option.toList_some, Option.toList_none]
      refine xm_go_wk (by simp [Value.category]) (ih (j + 1) _ (m + (23 + 9 * (lv - j - 1))) _ _ _ _ h14 G14 (by omega) F14 (cI_mono I14 (by omega) (by omega)) (by omega) u4 u5 (nG_cg v14 (by omega) (by omega) (fun _ _ => rfl) (by rw [hq]; exact qle_rf _)) ?_ (fun F hF' h' G' c' n' k1 k2 k3 k4 => hp F hF' h' G' c' n' k1 (cI_mono k2 (by omega) hm) (cE_tr E k3) k4))
      intro b x hb hx
      have e0 := hs b x hb hx
      have hg : ∀ y, bg34 w lv j y = ((y ++ y).drop (2 ^ j)).take w := fun y => if_pos hjl
      have e1 : brS lv (bg34 w lv) false (j + 1) b x = if b.getD (7 - j) false = false then brS lv (bg34 w lv) false j b x else bg34 w lv j (brS lv (bg34 w lv) false j b x) := if_pos (Or.inl hjl)
      rw [e1, hg]
      generalize brS lv (bg34 w lv) false j b x = y at *
      simp only [e0, li_ka hb.symm, li_da hb.symm, li_bit hb (show j < 8 by omega)]
      congr 1
    · rw [if_neg hjl] at hbm
      have hq : bq34 lv w (j + 1) = bq34 lv w j := if_neg hjl
      have E : cE h G c h G c := cE_rf
      with_reducible refine xm_go_blk b_X0_barrel_61 k_X0_barrel_61 ?_
      refine by_iload rfl ?_
      refine by_bipush cb_8 ?_
      refine by_ic_ge 198 rfl ?_
      simp (disch := first | exact Nat.ne_of_beq_eq_false rfl | exact rfl | omega) only [nI_add, xa_sub, xa_mul, pk_div, nm_mod, xa_shr, xa_and7, xa_and1, xa_and255, xa_by_and, nI_m1, Nat.add_sub_cancel, Nat.reducePow, Nat.zero_add, Nat.add_zero, Nat.reduceAdd, Nat.reduceMul, Nat.reduceSub, xf_same, xq_ff, xq_fo, xf_1, xf_2, xs_1, xs_2, xs_same, xq_so, xj_1, xj_2, xj_same, xq_jo, xq_sa1, xq_same, xq_other, upd_s, oI_n, oI_s, xv_0, xv_1, xv_2, xv_3, xm_p1, xm_p2, xq_fp, xq_fn, List.filter_nil, Nat.reduceBEq, Bool.not_true, Bool.not_false, Bool.and_true, Bool.and_false, Bool.false_and, Bool.true_and, if_true, if_false, Bool.false_eq_true, reduceIte, xc_i, xc_j, xc_r, xc_n, List.nil_append, List.cons_append, Option.toList_some, Option.toList_none, nI_ltJ, nI_leJ, nI_eqJ, nI_ltz, nI_gez, nI_gtz, nI_lez, nI_eqz, m1_ltz, m1_gez, true_imp_iff, false_imp_iff, true_and, and_true, ne_eq, not_false_eq_true, not_true_eq_false, Nat.reduceEqDiff, Nat.reduceLT, Nat.reduceLeDiff]
      refine ⟨fun c => absurd c (by omega), fun c61 => ?_⟩
      with_reducible refine xm_go_blk b_X0_barrel_68 k_X0_barrel_68 ?_
      refine by_aload_n rfl ?_
      refine by_iload_n rfl ?_
      refine by_iload_n rfl ?_
      refine by_inv2 cn_2 lk_0_89 (by rw [xe_cnt]; decide) is_38 np_38 cn_38 (by first | exact rfl | assumption) (Nat.le_of_ble_eq_true rfl) ?_
      refine sp_zeros hP (by omega) (by omega) hJ (by omega) hF hI (by omega) (by omega) (fun h1 G1 c1 n1 F1 I1 e1 v1 => ?_)
      replace u4 := nG_up u4 e1
      replace u5 := nG_up u5 e1
      replace v := nG_up v e1
      replace E := cE_tr E e1
      with_reducible refine xm_go_blk b_X0_barrel_74 k_X0_barrel_74 ?_
      refine by_istore (by rw [ml_2]; decide) ?_
      refine by_iload rfl ?_
      refine by_iload_n rfl ?_
      refine by_ic_ge 120 rfl ?_
      simp (disch := first | exact Nat.ne_of_beq_eq_false rfl | exact rfl | omega) only [nI_add, xa_sub, xa_mul, pk_div, nm_mod, xa_shr, xa_and7, xa_and1, xa_and255, xa_by_and, nI_m1, Nat.add_sub_cancel, Nat.reducePow, Nat.zero_add, Nat.add_zero, Nat.reduceAdd, Nat.reduceMul, Nat.reduceSub, xf_same, xq_ff, xq_fo, xf_1, xf_2, xs_1, xs_2, xs_same, xq_so, xj_1, xj_2, xj_same, xq_jo, xq_sa1, xq_same, xq_other, upd_s, oI_n, oI_s, xv_0, xv_1, xv_2, xv_3, xm_p1, xm_p2, xq_fp, xq_fn, List.filter_nil, Nat.reduceBEq, Bool.not_true, Bool.not_false, Bool.and_true, Bool.and_false, Bool.false_and, Bool.true_and, if_true, if_false, Bool.false_eq_true, reduceIte, xc_i, xc_j, xc_r, xc_n, List.nil_append, List.cons_append, Option.toList_some, Option.toList_none, nI_ltJ, nI_leJ, nI_eqJ, nI_ltz, nI_gez, nI_gtz, nI_lez, nI_eqz, m1_ltz, m1_gez, true_imp_iff, false_imp_iff, true_and, and_true, ne_eq, not_false_eq_true, not_true_eq_false, Nat.reduceEqDiff, Nat.reduceLT, Nat.reduceLeDiff]
      refine ⟨fun c74 => ?_, fun c => absurd (by omega) c⟩
      with_reducible refine xm_go_blk b_X0_barrel_120 k_X0_barrel_120 ?_
      refine by_iload rfl ?_
      refine by_iload_n rfl ?_
      refine by_ic_lt 132 rfl ?_
      simp (disch := first | exact Nat.ne_of_beq_eq_false rfl | exact rfl | omega) only [nI_add, xa_sub, xa_mul, pk_div, nm_mod, xa_shr, xa_and7, xa_and1, xa_and255, xa_by_and, nI_m1, Nat.add_sub_cancel, Nat.reducePow, Nat.zero_add, Nat.add_zero, Nat.reduceAdd, Nat.reduceMul, Nat.reduceSub, xf_same, xq_ff, xq_fo, xf_1, xf_2, xs_1, xs_2, xs_same, xq_so, xj_1, xj_2, xj_same, xq_jo, xq_sa1, xq_same, xq_other, upd_s, oI_n, oI_s, xv_0, xv_1, xv_2, xv_3, xm_p1, xm_p2, xq_fp, xq_fn, List.filter_nil, Nat.reduceBEq, Bool.not_true, Bool.not_false, Bool.and_true, Bool.and_false, Bool.false_and, Bool.true_and, if_true, if_false, Bool.false_eq_true, reduceIte, xc_i, xc_j, xc_r, xc_n, List.nil_append, List.cons_append, Option.toList_some, Option.toList_none, nI_ltJ, nI_leJ, nI_eqJ, nI_ltz, nI_gez, nI_gtz, nI_lez, nI_eqz, m1_ltz, m1_gez, true_imp_iff, false_imp_iff, true_and, and_true, ne_eq, not_false_eq_true, not_true_eq_false, Nat.reduceEqDiff, Nat.reduceLT, Nat.reduceLeDiff]
      refine ⟨fun c => absurd c (by omega), fun c120 => ?_⟩
      with_reducible refine xm_go_blk b_X0_barrel_126 k_X0_barrel_126 ?_
      refine by_iload_n rfl ?_
      refine by_bipush cb_34 ?_
      refine by_ic_ge 192 rfl ?_
      simp (disch := first | exact Nat.ne_of_beq_eq_false rfl | exact rfl | omega) only [nI_add, xa_sub, xa_mul, pk_div, nm_mod, xa_shr, xa_and7, xa_and1, xa_and255, xa_by_and, nI_m1, Nat.add_sub_cancel, Nat.reducePow, Nat.zero_add, Nat.add_zero, Nat.reduceAdd, Nat.reduceMul, Nat.reduceSub, xf_same, xq_ff, xq_fo, xf_1, xf_2, xs_1, xs_2, xs_same, xq_so, xj_1, xj_2, xj_same, xq_jo, xq_sa1, xq_same, xq_other, upd_s, oI_n, oI_s, xv_0, xv_1, xv_2, xv_3, xm_p1, xm_p2, xq_fp, xq_fn, List.filter_nil, Nat.reduceBEq, Bool.not_true, Bool.not_false, Bool.and_true, Bool.and_false, Bool.false_and, Bool.true_and, if_true, if_false, Bool.false_eq_true, reduceIte, xc_i, xc_j, xc_r, xc_n, List.nil_append, List.cons_append, Option.toList_some, Option.toList_none, nI_ltJ, nI_leJ, nI_eqJ, nI_ltz, nI_gez, nI_gtz, nI_lez, nI_eqz, m1_ltz, m1_gez, true_imp_iff, false_imp_iff, true_and, and_true, ne_eq, not_false_eq_true, not_true_eq_false, Nat.reduceEqDiff, Nat.reduceLT, Nat.reduceLeDiff]
      with_reducible refine xm_go_blk b_X0_barrel_192 k_X0_barrel_192 ?_
      refine by_iinc (by rw [ml_2]; decide) rfl ci_1 ?_
      refine by_goto 61 rfl ?_
      try simp (disch := first | exact Nat.ne_of_beq_eq_false rfl | exact rfl | omega) only [nI_add, xa_sub, xa_mul, pk_div, nm_mod, xa_shr, xa_and7, xa_and1, xa_and255, xa_by_and, nI_m1, Nat.add_sub_cancel, Nat.reducePow, Nat.zero_add, Nat.add_zero, Nat.reduceAdd, Nat.reduceMul, Nat.reduceSub, xf_same, xq_ff, xq_fo, xf_1, xf_2, xs_1, xs_2, xs_same, xq_so, xj_1, xj_2, xj_same, xq_jo, xq_sa1, xq_same, xq_other, upd_s, oI_n, oI_s, xv_0, xv_1, xv_2, xv_3, xm_p1, xm_p2, xq_fp, xq_fn, List.filter_nil, Nat.reduceBEq, Bool.not_true, Bool.not_false, Bool.and_true, Bool.and_false, Bool.false_and, Bool.true_and, if_true, if_false, Bool.false_eq_true, reduceIte, xc_i, xc_j, xc_r, xc_n, List.nil_append, List.cons_append, Option.toList_some, Option.toList_none]
      refine xm_go_wk (by simp [Value.category]) (ih (j + 1) _ (m + 1) _ _ _ _ h1 G1 (by omega) F1 (cI_mono I1 (by omega) (by omega)) (by omega) u4 u5 (nG_cg v rfl rfl (fun _ _ => rfl) (by rw [hq]; exact qle_rf _)) ?_ (fun F hF' h' G' c' n' k1 k2 k3 k4 => hp F hF' h' G' c' n' k1 (cI_mono k2 (by omega) hm) (cE_tr E k3) k4))
      intro b x hb hx
      rw [hs b x hb hx]
      congr 1
      exact (if_neg (by simp; omega)).symm
end CD
def bg35 (w lv j : Nat) (y : List Bool) : List Bool := if j < lv then ((y ++ y).drop (w - 2 ^ j)).take w else List.replicate w false
def bq35 (lv w : Nat) : Nat → gQ
  | 0 => qL
  | j + 1 => if j < lv then qC (8 + w) (bq35 lv w j) (qP qL (qC (1 + w) (qP (bq j) qL) (qH qL (qC (w + w) (qP qL qL) (wqR j (lv - j - 1)))))) else bq35 lv w j
def bm35 (lv : Nat) : Nat → Nat
  | 0 => 0
  | n + 1 => (if 7 - n < lv then 23 + 9 * (lv - (7 - n) - 1) else 1) + bm35 lv n
section CD
variable {sc : xm_Sc} {d : Nat} {post : xm_Po}
theorem br_35 {lv w : Nat} (h3 : 3 ≤ lv) (hlv : lv < 7) (hw : 2 ^ lv = w) (hP : aOK sc 11) (hD : 44 ≤ d) : ∀ (n j c m p4 p5 p6 : Nat) (f : gFn) (h : xm_H) (G : Nat → gN), j + n = 8 → XF h → cI h G c m [] → m + bm35 lv n + 3 ≤ 8000 → nG G c p4 w w (fun x => x) qL → nG G c p5 w w (fun x => x) qL → nG G c p6 (8 + w) (8 + w) f (bq35 lv w j) →
    (∀ b x, b.length = 8 → x.length = w → f (b ++ x) = b ++ brS lv (bg35 w lv) false j b x) → (∀ F, (∀ b x, b.length = 8 → x.length = w → F (b ++ x) = brS lv (bg35 w lv) false 8 b x) → cPo h G c (m + bm35 lv n + 3) [] (8 + w) w F (qC (8 + w) (bq35 lv w 8) qL) post) →
    xm_go (XE sc) (xm_T (XE sc) (d + 6)) 2 post 61 [(7, .int (nI j)), (6, .int (nI p6)), (5, .int (nI p5)), (4, .int (nI p4)), (0, .ref 22), (1, .int (nI 35)), (2, .int (nI lv)), (3, .int (nI w))] [] h := by
  have hw64 := pw_l7 hlv
  rw [hw] at hw64
  have hJ : ∀ j ∈ ([] : List Nat), 11 ≤ pH j := fun j hj => absurd hj (by simp)
  intro n
  induction n with
  | zero =>
    intro j c m p4 p5 p6 f h G hj hF hI hm u4 u5 v hs hp
    have : j = 8 := by omega
    subst this
    have hl := nG_len hI v
    have hm0 : bm35 lv 0 = 0 := rfl
    have E : cE h G c h G c := cE_rf
    with_reducible refine xm_go_blk b_X0_barrel_61 k_X0_barrel_61 ?_
    refine by_iload rfl ?_
    refine by_bipush cb_8 ?_
    refine by_ic_ge 198 rfl ?_
    simp (disch := first | exact Nat.ne_of_beq_eq_false rfl | exact rfl | omega) only [nI_add, xa_sub, xa_mul, pk_div, nm_mod, xa_shr, xa_and7, xa_and1, xa_and255, xa_by_and, nI_m1, Nat.add_sub_cancel, Nat.reducePow, Nat.zero_add, Nat.add_zero, Nat.reduceAdd, Nat.reduceMul, Nat.reduceSub, xf_same, xq_ff, xq_fo, xf_1, xf_2, xs_1, xs_2, xs_same, xq_so, xj_1, xj_2, xj_same, xq_jo, xq_sa1, xq_same, xq_other, upd_s, oI_n, oI_s, xv_0, xv_1, xv_2, xv_3, xm_p1, xm_p2, xq_fp, xq_fn, List.filter_nil, Nat.reduceBEq, Bool.not_true, Bool.not_false, Bool.and_true, Bool.and_false, Bool.false_and, Bool.true_and, if_true, if_false, Bool.false_eq_true, reduceIte, xc_i, xc_j, xc_r, xc_n, List.nil_append, List.cons_append, Option.toList_some, Option.toList_none, nI_ltJ, nI_leJ, nI_eqJ, nI_ltz, nI_gez, nI_gtz, nI_lez, nI_eqz, m1_ltz, m1_gez, true_imp_iff, false_imp_iff, true_and, and_true, ne_eq, not_false_eq_true, not_true_eq_false, Nat.reduceEqDiff, Nat.reduceLT, Nat.reduceLeDiff]
    with_reducible refine xm_go_blk b_X0_barrel_198 k_X0_barrel_198 ?_
    refine by_aload_n rfl ?_
    refine by_iload rfl ?_
    refine by_aload_n rfl ?_
    refine by_bipush cb_8 ?_
    refine by_iload_n rfl ?_
    refine by_inv2 cn_2 lk_0_92 (by rw [xe_cnt]; decide) is_32 np_32 cn_32 (by first | exact rfl | assumption) (Nat.le_of_ble_eq_true rfl) ?_
    refine sp_second hF hI (by omega) (by omega) (fun h1 G1 c1 n1 F1 I1 e1 v1 => ?_)
    replace v := nG_up v e1
    replace E := cE_tr E e1
    with_reducible refine xm_go_blk b_X0_barrel_208 k_X0_barrel_208 ?_
    refine by_inv2 cn_2 lk_0_86 (by rw [xe_cnt]; decide) is_7 np_7 cn_7 (by first | exact rfl | assumption) (Nat.le_of_ble_eq_true rfl) ?_
    refine sp_gcomp F1 I1 (by omega) v v1 (by omega) (fun h2 G2 c2 n2 F2 I2 e2 v2 => ?_)
    replace E := cE_tr E e2
    with_reducible refine xm_go_blk b_X0_barrel_211 k_X0_barrel_211 ?_
    refine by_iret ry_2 (by first | rfl | assumption) ?_
    refine hp _ ?_ _ _ _ _ F2 (cI_mono I2 (by omega) hm) E (nG_cg v2 (by omega) (by omega) (fun x hx => rfl) (qle_rf _))
    intro b x hb hx
    show (f (b ++ x)).drop 8 = _
    rw [hs b x hb hx, li_da hb.symm]
  | succ n ih =>
    intro j c m p4 p5 p6 f h G hj hF hI hm u4 u5 v hs hp
    have hl := nG_len hI v
    have hjn : 7 - n = j := by omega
    have hbm : bm35 lv (n + 1) = (if j < lv then 23 + 9 * (lv - j - 1) else 1) + bm35 lv n := by
      show (if 7 - n < lv then _ else _) + _ = _
      rw [hjn]
    by_cases hjl : j < lv
    · rw [if_pos hjl] at hbm
      have hj64 := pw_l7 (l := j) (by omega)
      have hq : bq35 lv w (j + 1) = qC (8 + w) (bq35 lv w j) (qP qL (qC (1 + w) (qP (bq j) qL) (qH qL (qC (w + w) (qP qL qL) (wqR j (lv - j - 1)))))) := if_pos hjl
      have E : cE h G c h G c := cE_rf
      with_reducible refine xm_go_blk b_X0_barrel_61 k_X0_barrel_61 ?_
      refine by_iload rfl ?_
      refine by_bipush cb_8 ?_
      refine by_ic_ge 198 rfl ?_
      simp (disch := first | exact Nat.ne_of_beq_eq_false rfl | exact rfl | omega) only [nI_add, xa_sub, xa_mul, pk_div, nm_mod, xa_shr, xa_and7, xa_and1, xa_and255, xa_by_and, nI_m1, Nat.add_sub_cancel, Nat.reducePow, Nat.zero_add, Nat.add_zero, Nat.reduceAdd, Nat.reduceMul, Nat.reduceSub, xf_same, xq_ff, xq_fo, xf_1, xf_2, xs_1, xs_2, xs_same, xq_so, xj_1, xj_2, xj_same, xq_jo, xq_sa1, xq_same, xq_other, upd_s, oI_n, oI_s, xv_0, xv_1, xv_2, xv_3, xm_p1, xm_p2, xq_fp, xq_fn, List.filter_nil, Nat.reduceBEq, Bool.not_true, Bool.not_false, Bool.and_true, Bool.and_false, Bool.false_and, Bool.true_and, if_true, if_false, Bool.false_eq_true, reduceIte, xc_i, xc_j, xc_r, xc_n, List.nil_append, List.cons_append, Option.toList_some, Option.toList_none, nI_ltJ, nI_leJ, nI_eqJ, nI_ltz, nI_gez, nI_gtz, nI_lez, nI_eqz, m1_ltz, m1_gez, true_imp_iff, false_imp_iff, true_and, and_true, ne_eq, not_false_eq_true, not_true_eq_false, Nat.reduceEqDiff, Nat.reduceLT, Nat.reduceLeDiff]
      refine ⟨fun c => absurd c (by omega), fun c61 => ?_⟩
      with_reducible refine xm_go_blk b_X0_barrel_68 k_X0_barrel_68 ?_
      refine by_aload_n rfl ?_
      refine by_iload_n rfl ?_
      refine by_iload_n rfl ?_
      refine by_inv2 cn_2 lk_0_89 (by rw [xe_cnt]; decide) is_38 np_38 cn_38 (by first | exact rfl | assumption) (Nat.le_of_ble_eq_true rfl) ?_
      refine sp_zeros hP (by omega) (by omega) hJ (by omega) hF hI (by omega) (by omega) (fun h1 G1 c1 n1 F1 I1 e1 v1 => ?_)
      replace u4 := nG_up u4 e1
      replace u5 := nG_up u5 e1
      replace v := nG_up v e1
      replace E := cE_tr E e1
      with_reducible refine xm_go_blk b_X0_barrel_74 k_X0_barrel_74 ?_
      refine by_istore (by rw [ml_2]; decide) ?_
      refine by_iload rfl ?_
      refine by_iload_n rfl ?_
      refine by_ic_ge 120 rfl ?_
      simp (disch := first | exact Nat.ne_of_beq_eq_false rfl | exact rfl | omega) only [nI_add, xa_sub, xa_mul, pk_div, nm_mod, xa_shr, xa_and7, xa_and1, xa_and255, xa_by_and, nI_m1, Nat.add_sub_cancel, Nat.reducePow, Nat.zero_add, Nat.add_zero, Nat.reduceAdd, Nat.reduceMul, Nat.reduceSub, xf_same, xq_ff, xq_fo, xf_1, xf_2, xs_1, xs_2, xs_same, xq_so, xj_1, xj_2, xj_same, xq_jo, xq_sa1, xq_same, xq_other, upd_s, oI_n, oI_s, xv_0, xv_1, xv_2, xv_3, xm_p1, xm_p2, xq_fp, xq_fn, List.filter_nil, Nat.reduceBEq, Bool.not_true, Bool.not_false, Bool.and_true, Bool.and_false, Bool.false_and, Bool.true_and, if_true, if_false, Bool.false_eq_true, reduceIte, xc_i, xc_j, xc_r, xc_n, List.nil_append, List.cons_append, Option.toList_some, Option.toList_none, nI_ltJ, nI_leJ, nI_eqJ, nI_ltz, nI_gez, nI_gtz, nI_lez, nI_eqz, m1_ltz, m1_gez, true_imp_iff, false_imp_iff, true_and, and_true, ne_eq, not_false_eq_true, not_true_eq_false, Nat.reduceEqDiff, Nat.reduceLT, Nat.reduceLeDiff]
      refine ⟨fun c => absurd c (by omega), fun c74 => ?_⟩
      with_reducible refine xm_go_blk b_X0_barrel_82 k_X0_barrel_82 ?_
      refine by_aload_n rfl ?_
      refine by_aload_n rfl ?_
      refine by_iload rfl ?_
      refine by_iload rfl ?_
      refine by_inv2 cn_2 lk_0_80 (by rw [xe_cnt]; decide) is_25 np_25 cn_25 (by first | exact rfl | assumption) (Nat.le_of_ble_eq_true rfl) ?_
      refine sp_gpair F1 I1 (by omega) u4 u5 (by omega) (by omega) (fun h2 G2 c2 n2 F2 I2 e2 v2 => ?_)
      replace u4 := nG_up u4 e2
      replace u5 := nG_up u5 e2
      replace v := nG_up v e2
      replace E := cE_tr E e2
      with_reducible refine xm_go_blk b_X0_barrel_91 k_X0_barrel_91 ?_
      refine by_aload_n rfl ?_
      refine by_iload_n rfl ?_
      refine by_iload rfl ?_
      refine by_iload_n rfl ?_
      refine by_bipush cb_33 ?_
      refine by_ic_eq 107 rfl ?_
      simp (disch := first | exact Nat.ne_of_beq_eq_false rfl | exact rfl | omega) only [nI_add, xa_sub, xa_mul, pk_div, nm_mod, xa_shr, xa_and7, xa_and1, xa_and255, xa_by_and, nI_m1, Nat.add_sub_cancel, Nat.reducePow, Nat.zero_add, Nat.add_zero, Nat.reduceAdd, Nat.reduceMul, Nat.reduceSub, xf_same, xq_ff, xq_fo, xf_1, xf_2, xs_1, xs_2, xs_same, xq_so, xj_1, xj_2, xj_same, xq_jo, xq_sa1, xq_same, xq_other, upd_s, oI_n, oI_s, xv_0, xv_1, xv_2, xv_3, xm_p1, xm_p2, xq_fp, xq_fn, List.filter_nil, Nat.reduceBEq, Bool.not_true, Bool.not_false, Bool.and_true, Bool.and_false, Bool.false_and, Bool.true_and, if_true, if_false, Bool.false_eq_true, reduceIte, xc_i, xc_j, xc_r, xc_n, List.nil_append, List.cons_append, Option.toList_some, Option.toList_none, nI_ltJ, nI_leJ, nI_eqJ, nI_ltz, nI_gez, nI_gtz, nI_lez, nI_eqz, m1_ltz, m1_gez, true_imp_iff, false_imp_iff, true_and, and_true, ne_eq, not_false_eq_true, not_true_eq_false, Nat.reduceEqDiff, Nat.reduceLT, Nat.reduceLeDiff]
      with_reducible refine xm_go_blk b_X0_barrel_101 k_X0_barrel_101 ?_
      refine by_iload_n rfl ?_
      refine by_bipush cb_35 ?_
      refine by_ic_ne 111 rfl ?_
      simp (disch := first | exact Nat.ne_of_beq_eq_false rfl | exact rfl | omega) only [nI_add, xa_sub, xa_mul, pk_div, nm_mod, xa_shr, xa_and7, xa_and1, xa_and255, xa_by_and, nI_m1, Nat.add_sub_cancel, Nat.reducePow, Nat.zero_add, Nat.add_zero, Nat.reduceAdd, Nat.reduceMul, Nat.reduceSub, xf_same, xq_ff, xq_fo, xf_1, xf_2, xs_1, xs_2, xs_same, xq_so, xj_1, xj_2, xj_same, xq_jo, xq_sa1, xq_same, xq_other, upd_s, oI_n, oI_s, xv_0, xv_1, xv_2, xv_3, xm_p1, xm_p2, xq_fp, xq_fn, List.filter_nil, Nat.reduceBEq, Bool.not_true, Bool.not_false, Bool.and_true, Bool.and_false, Bool.false_and, Bool.true_and, if_true, if_false, Bool.false_eq_true, reduceIte, xc_i, xc_j, xc_r, xc_n, List.nil_append, List.cons_append, Option.toList_some, Option.toList_none, nI_ltJ, nI_leJ, nI_eqJ, nI_ltz, nI_gez, nI_gtz, nI_lez, nI_eqz, m1_ltz, m1_gez, true_imp_iff, false_imp_iff, true_and, and_true, ne_eq, not_false_eq_true, not_true_eq_false, Nat.reduceEqDiff, Nat.reduceLT, Nat.reduceLeDiff]
      with_reducible refine xm_go_blk b_X0_barrel_107 k_X0_barrel_107 ?_
      refine by_iconst ci_1 ?_
      refine by_goto 112 rfl ?_
      with_reducible refine xm_go_blk b_X0_barrel_112 k_X0_barrel_112 ?_
      refine by_inv3 cn_2 lk_0_159 (by rw [xe_cnt]; decide) is_37 np_37 cn_37 (by first | exact rfl | assumption) (Nat.le_of_ble_eq_true rfl) ?_
      refine sp_windowR (by omega) (by omega) hw F2 I2 (by omega) (fun h3 G3 c3 n3 F3 I3 e3 v3 => ?_)
      replace u4 := nG_up u4 e3
      replace u5 := nG_up u5 e3
      replace v := nG_up v e3
      replace v2 := nG_up v2 e3
      replace E := cE_tr E e3
      with_reducible refine xm_go_blk b_X0_barrel_115 k_X0_barrel_115 ?_
      refine by_inv2 cn_2 lk_0_86 (by rw [xe_cnt]; decide) is_7 np_7 cn_7 (by first | exact rfl | assumption) (Nat.le_of_ble_eq_true rfl) ?_
      refine sp_gcomp F3 I3 (by omega) v2 v3 (by omega) (fun h4 G4 c4 n4 F4 I4 e4 v4 => ?_)
      replace u4 := nG_up u4 e4
      replace u5 := nG_up u5 e4
      replace v := nG_up v e4
      replace E := cE_tr E e4
      with_reducible refine xm_go_blk b_X0_barrel_118 k_X0_barrel_118 ?_
      refine by_istore (by rw [ml_2]; decide) ?_
      refine by_nil ?_
      try simp (disch := first | exact Nat.ne_of_beq_eq_false rfl | exact rfl | omega) only [nI_add, xa_sub, xa_mul, pk_div, nm_mod, xa_shr, xa_and7, xa_and1, xa_and255, xa_by_and, nI_m1, Nat.add_sub_cancel, Nat.reducePow, Nat.zero_add, Nat.add_zero, Nat.reduceAdd, Nat.reduceMul, Nat.reduceSub, xf_same, xq_ff, xq_fo, xf_1, xf_2, xs_1, xs_2, xs_same, xq_so, xj_1, xj_2, xj_same, xq_jo, xq_sa1, xq_same, xq_other, upd_s, oI_n, oI_s, xv_0, xv_1, xv_2, xv_3, xm_p1, xm_p2, xq_fp, xq_fn, List.filter_nil, Nat.reduceBEq, Bool.not_true, Bool.not_false, Bool.and_true, Bool.and_false, Bool.false_and, Bool.true_and, if_true, if_false, Bool.false_eq_true, reduceIte, xc_i, xc_j, xc_r, xc_n, List.nil_append, List.cons_append, Option.toList_some, Option.toList_none]
      with_reducible refine xm_go_blk b_X0_barrel_120 k_X0_barrel_120 ?_
      refine by_iload rfl ?_
      refine by_iload_n rfl ?_
      refine by_ic_lt 132 rfl ?_
      simp (disch := first | exact Nat.ne_of_beq_eq_false rfl | exact rfl | omega) only [nI_add, xa_sub, xa_mul, pk_div, nm_mod, xa_shr, xa_and7, xa_and1, xa_and255, xa_by_and, nI_m1, Nat.add_sub_cancel, Nat.reducePow, Nat.zero_add, Nat.add_zero, Nat.reduceAdd, Nat.reduceMul, Nat.reduceSub, xf_same, xq_ff, xq_fo, xf_1, xf_2, xs_1, xs_2, xs_same, xq_so, xj_1, xj_2, xj_same, xq_jo, xq_sa1, xq_same, xq_other, upd_s, oI_n, oI_s, xv_0, xv_1, xv_2, xv_3, xm_p1, xm_p2, xq_fp, xq_fn, List.filter_nil, Nat.reduceBEq, Bool.not_true, Bool.not_false, Bool.and_true, Bool.and_false, Bool.false_and, Bool.true_and, if_true, if_false, Bool.false_eq_true, reduceIte, xc_i, xc_j, xc_r, xc_n, List.nil_append, List.cons_append, Option.toList_some, Option.toList_none, nI_ltJ, nI_leJ, nI_eqJ, nI_ltz, nI_gez, nI_gtz, nI_lez, nI_eqz, m1_ltz, m1_gez, true_imp_iff, false_imp_iff, true_and, and_true, ne_eq, not_false_eq_true, not_true_eq_false, Nat.reduceEqDiff, Nat.reduceLT, Nat.reduceLeDiff]
      refine ⟨fun c120 => ?_, fun c => absurd (by omega) c⟩
      with_reducible refine xm_go_blk b_X0_barrel_132 k_X0_barrel_132 ?_
      refine by_aload_n rfl ?_
      refine by_aload_n rfl ?_
      refine by_aload_n rfl ?_
      refine by_aload_n rfl ?_
      refine by_iload rfl ?_
      refine by_inv1 cn_2 lk_0_162 (by rw [xe_cnt]; decide) is_4 np_4 cn_4 (by first | exact rfl | assumption) (Nat.le_of_ble_eq_true rfl) ?_
      refine sp_bitOfByte (by omega) F4 I4 (by omega) (fun h5 G5 c5 n5 F5 I5 e5 v5 => ?_)
      replace u4 := nG_up u4 e5
      replace u5 := nG_up u5 e5
      replace v := nG_up v e5
      replace v4 := nG_up v4 e5
      replace E := cE_tr E e5
      with_reducible refine xm_go_blk b_X0_barrel_141 k_X0_barrel_141 ?_
      refine by_iload_n rfl ?_
      refine by_inv2 cn_2 lk_0_101 (by rw [xe_cnt]; decide) is_33 np_33 cn_33 (by first | exact rfl | assumption) (Nat.le_of_ble_eq_true rfl) ?_
      refine sp_gtake F5 I5 (by omega) v5 (by omega) (fun h6 G6 c6 n6 F6 I6 e6 v6 => ?_)
      replace u4 := nG_up u4 e6
      replace u5 := nG_up u5 e6
      replace v := nG_up v e6
      replace v4 := nG_up v4 e6
      replace E := cE_tr E e6
      with_reducible refine xm_go_blk b_X0_barrel_145 k_X0_barrel_145 ?_
      refine by_aload_n rfl ?_
      refine by_bipush cb_8 ?_
      refine by_iload_n rfl ?_
      refine by_inv2 cn_2 lk_0_92 (by rw [xe_cnt]; decide) is_32 np_32 cn_32 (by first | exact rfl | assumption) (Nat.le_of_ble_eq_true rfl) ?_
      refine sp_second F6 I6 (by omega) (by omega) (fun h7 G7 c7 n7 F7 I7 e7 v7 => ?_)
      replace u4 := nG_up u4 e7
      replace u5 := nG_up u5 e7
      replace v := nG_up v e7
      replace v4 := nG_up v4 e7
      replace v6 := nG_up v6 e7
      replace E := cE_tr E e7
      with_reducible refine xm_go_blk b_X0_barrel_152 k_X0_barrel_152 ?_
      refine by_inv2 cn_2 lk_0_80 (by rw [xe_cnt]; decide) is_25 np_25 cn_25 (by first | exact rfl | assumption) (Nat.le_of_ble_eq_true rfl) ?_
      refine sp_gpair F7 I7 (by omega) v6 v7 (by omega) (by omega) (fun h8 G8 c8 n8 F8 I8 e8 v8 => ?_)
      replace u4 := nG_up u4 e8
      replace u5 := nG_up u5 e8
      replace v := nG_up v e8
      replace v4 := nG_up v4 e8
      replace E := cE_tr E e8
      with_reducible refine xm_go_blk b_X0_barrel_155 k_X0_barrel_155 ?_
      refine by_aload_n rfl ?_
      refine by_aload_n rfl ?_
      refine by_iload_n rfl ?_
      refine by_inv1 cn_2 lk_0_76 (by rw [xe_cnt]; decide) is_18 np_18 cn_18 (by first | exact rfl | assumption) (Nat.le_of_ble_eq_true rfl) ?_
      refine sp_iden F8 I8 (by omega) (by omega) (fun h9 G9 c9 n9 F9 I9 e9 v9 => ?_)
      replace u4 := nG_up u4 e9
      replace u5 := nG_up u5 e9
      replace v := nG_up v e9
      replace v4 := nG_up v4 e9
      replace v8 := nG_up v8 e9
      replace E := cE_tr E e9
      with_reducible refine xm_go_blk b_X0_barrel_161 k_X0_barrel_161 ?_
      refine by_iload rfl ?_
      refine by_inv2 cn_2 lk_0_98 (by rw [xe_cnt]; decide) is_6 np_6 cn_6 (by first | exact rfl | assumption) (Nat.le_of_ble_eq_true rfl) ?_
      refine sp_choose F9 I9 (by omega) v9 v4 (by omega) (by omega) (by omega) (fun h10 G10 c10 n10 F10 I10 e10 v10 => ?_)
      replace u4 := nG_up u4 e10
      replace u5 := nG_up u5 e10
      replace v := nG_up v e10
      replace v8 := nG_up v8 e10
      replace E := cE_tr E e10
      with_reducible refine xm_go_blk b_X0_barrel_166 k_X0_barrel_166 ?_
      refine by_inv2 cn_2 lk_0_86 (by rw [xe_cnt]; decide) is_7 np_7 cn_7 (by first | exact rfl | assumption) (Nat.le_of_ble_eq_true rfl) ?_
      refine sp_gcomp F10 I10 (by omega) v8 v10 (by omega) (fun h11 G11 c11 n11 F11 I11 e11 v11 => ?_)
      replace u4 := nG_up u4 e11
      replace u5 := nG_up u5 e11
      replace v := nG_up v e11
      replace E := cE_tr E e11
      with_reducible refine xm_go_blk b_X0_barrel_169 k_X0_barrel_169 ?_
      refine by_istore (by rw [ml_2]; decide) ?_
      refine by_aload_n rfl ?_
      refine by_iload rfl ?_
      refine by_aload_n rfl ?_
      refine by_aload_n rfl ?_
      refine by_bipush cb_8 ?_
      refine by_iload_n rfl ?_
      simp (disch := first | exact Nat.ne_of_beq_eq_false rfl | exact rfl | omega) only [nI_add, xa_sub, xa_mul, pk_div, nm_mod, xa_shr, xa_and7, xa_and1, xa_and255, xa_by_and, nI_m1, Nat.add_sub_cancel, Nat.reducePow, Nat.zero_add, Nat.add_zero, Nat.reduceAdd, Nat.reduceMul, Nat.reduceSub, xf_same, xq_ff, xq_fo, xf_1, xf_2, xs_1, xs_2, xs_same, xq_so, xj_1, xj_2, xj_same, xq_jo, xq_sa1, xq_same, xq_other, upd_s, oI_n, oI_s, xv_0, xv_1, xv_2, xv_3, xm_p1, xm_p2, xq_fp, xq_fn, List.filter_nil, Nat.reduceBEq, Bool.not_true, Bool.not_false, Bool.and_true, Bool.and_false, Bool.false_and, Bool.true_and, if_true, if_false, Bool.false_eq_true, reduceIte, xc_i, xc_j, xc_r, xc_n, List.nil_append, List.cons_append, Option.toList_some, Option.toList_none]
      refine by_inv2 cn_2 lk_0_95 (by rw [xe_cnt]; decide) is_15 np_15 cn_15 (by first | exact rfl | assumption) (Nat.le_of_ble_eq_true rfl) ?_
      refine sp_first F11 I11 (by omega) (by omega) (fun h12 G12 c12 n12 F12 I12 e12 v12 => ?_)
      replace u4 := nG_up u4 e12
      replace u5 := nG_up u5 e12
      replace v := nG_up v e12
      replace v11 := nG_up v11 e12
      replace E := cE_tr E e12
      with_reducible refine xm_go_blk b_X0_barrel_182 k_X0_barrel_182 ?_
      refine by_iload rfl ?_
      refine by_inv2 cn_2 lk_0_80 (by rw [xe_cnt]; decide) is_25 np_25 cn_25 (by first | exact rfl | assumption) (Nat.le_of_ble_eq_true rfl) ?_
      refine sp_gpair F12 I12 (by omega) v12 v11 (by omega) (by omega) (fun h13 G13 c13 n13 F13 I13 e13 v13 => ?_)
      replace u4 := nG_up u4 e13
      replace u5 := nG_up u5 e13
      replace v := nG_up v e13
      replace E := cE_tr E e13
      with_reducible refine xm_go_blk b_X0_barrel_187 k_X0_barrel_187 ?_
      refine by_inv2 cn_2 lk_0_86 (by rw [xe_cnt]; decide) is_7 np_7 cn_7 (by first | exact rfl | assumption) (Nat.le_of_ble_eq_true rfl) ?_
      refine sp_gcomp F13 I13 (by omega) v v13 (by omega) (fun h14 G14 c14 n14 F14 I14 e14 v14 => ?_)
      replace u4 := nG_up u4 e14
      replace u5 := nG_up u5 e14
      replace E := cE_tr E e14
      with_reducible refine xm_go_blk b_X0_barrel_190 k_X0_barrel_190 ?_
      refine by_istore (by rw [ml_2]; decide) ?_
      refine by_nil ?_
      try simp (disch := first | exact Nat.ne_of_beq_eq_false rfl | exact rfl | omega) only [nI_add, xa_sub, xa_mul, pk_div, nm_mod, xa_shr, xa_and7, xa_and1, xa_and255, xa_by_and, nI_m1, Nat.add_sub_cancel, Nat.reducePow, Nat.zero_add, Nat.add_zero, Nat.reduceAdd, Nat.reduceMul, Nat.reduceSub, xf_same, xq_ff, xq_fo, xf_1, xf_2, xs_1, xs_2, xs_same, xq_so, xj_1, xj_2, xj_same, xq_jo, xq_sa1, xq_same, xq_other, upd_s, oI_n, oI_s, xv_0, xv_1, xv_2, xv_3, xm_p1, xm_p2, xq_fp, xq_fn, List.filter_nil, Nat.reduceBEq, Bool.not_true, Bool.not_false, Bool.and_true, Bool.and_false, Bool.false_and, Bool.true_and, if_true, if_false, Bool.false_eq_true, reduceIte, xc_i, xc_j, xc_r, xc_n, List.nil_append, List.cons_append, Option.toList_some, Option.toList_none]
      with_reducible refine xm_go_blk b_X0_barrel_192 k_X0_barrel_192 ?_
      refine by_iinc (by rw [ml_2]; decide) rfl ci_1 ?_
      refine by_goto 61 rfl ?_
      try simp (disch := first | exact Nat.ne_of_beq_eq_false rfl | exact rfl | omega) only [nI_add, xa_sub, xa_mul, pk_div, nm_mod, xa_shr, xa_and7, xa_and1, xa_and255, xa_by_and, nI_m1, Nat.add_sub_cancel, Nat.reducePow, Nat.zero_add, Nat.add_zero, Nat.reduceAdd, Nat.reduceMul, Nat.reduceSub, xf_same, xq_ff, xq_fo, xf_1, xf_2, xs_1, xs_2, xs_same, xq_so, xj_1, xj_2, xj_same, xq_jo, xq_sa1, xq_same, xq_other, upd_s, oI_n, oI_s, xv_0, xv_1, xv_2, xv_3, xm_p1, xm_p2, xq_fp, xq_fn, List.filter_nil, Nat.reduceBEq, Bool.not_true, Bool.not_false, Bool.and_true, Bool.and_false, Bool.false_and, Bool.true_and, if_true, if_false, Bool.false_eq_true, reduceIte, xc_i, xc_j, xc_r, xc_n, List.nil_append, List.cons_append, Option.toList_some, Option.toList_none]
      refine xm_go_wk (by simp [Value.category]) (ih (j + 1) _ (m + (23 + 9 * (lv - j - 1))) _ _ _ _ h14 G14 (by omega) F14 (cI_mono I14 (by omega) (by omega)) (by omega) u4 u5 (nG_cg v14 (by omega) (by omega) (fun _ _ => rfl) (by rw [hq]; exact qle_rf _)) ?_ (fun F hF' h' G' c' n' k1 k2 k3 k4 => hp F hF' h' G' c' n' k1 (cI_mono k2 (by omega) hm) (cE_tr E k3) k4))
      intro b x hb hx
      have e0 := hs b x hb hx
      have hg : ∀ y, bg35 w lv j y = ((y ++ y).drop (w - 2 ^ j)).take w := fun y => if_pos hjl
      have e1 : brS lv (bg35 w lv) false (j + 1) b x = if b.getD (7 - j) false = false then brS lv (bg35 w lv) false j b x else bg35 w lv j (brS lv (bg35 w lv) false j b x) := if_pos (Or.inl hjl)
      rw [e1, hg]
      generalize brS lv (bg35 w lv) false j b x = y at *
      simp only [e0, li_ka hb.symm, li_da hb.symm, li_bit hb (show j < 8 by omega)]
      congr 1
    · rw [if_neg hjl] at hbm
      have hq : bq35 lv w (j + 1) = bq35 lv w j := if_neg hjl
      have E : cE h G c h G c := cE_rf
      with_reducible refine xm_go_blk b_X0_barrel_61 k_X0_barrel_61 ?_
      refine by_iload rfl ?_
      refine by_bipush cb_8 ?_
      refine by_ic_ge 198 rfl ?_
      simp (disch := first | exact Nat.ne_of_beq_eq_false rfl | exact rfl | omega) only [nI_add, xa_sub, xa_mul, pk_div, nm_mod, xa_shr, xa_and7, xa_and1, xa_and255, xa_by_and, nI_m1, Nat.add_sub_cancel, Nat.reducePow, Nat.zero_add, Nat.add_zero, Nat.reduceAdd, Nat.reduceMul, Nat.reduceSub, xf_same, xq_ff, xq_fo, xf_1, xf_2, xs_1, xs_2, xs_same, xq_so, xj_1, xj_2, xj_same, xq_jo, xq_sa1, xq_same, xq_other, upd_s, oI_n, oI_s, xv_0, xv_1, xv_2, xv_3, xm_p1, xm_p2, xq_fp, xq_fn, List.filter_nil, Nat.reduceBEq, Bool.not_true, Bool.not_false, Bool.and_true, Bool.and_false, Bool.false_and, Bool.true_and, if_true, if_false, Bool.false_eq_true, reduceIte, xc_i, xc_j, xc_r, xc_n, List.nil_append, List.cons_append, Option.toList_some, Option.toList_none, nI_ltJ, nI_leJ, nI_eqJ, nI_ltz, nI_gez, nI_gtz, nI_lez, nI_eqz, m1_ltz, m1_gez, true_imp_iff, false_imp_iff, true_and, and_true, ne_eq, not_false_eq_true, not_true_eq_false, Nat.reduceEqDiff, Nat.reduceLT, Nat.reduceLeDiff]
      refine ⟨fun c => absurd c (by omega), fun c61 => ?_⟩
      with_reducible refine xm_go_blk b_X0_barrel_68 k_X0_barrel_68 ?_
      refine by_aload_n rfl ?_
      refine by_iload_n rfl ?_
      refine by_iload_n rfl ?_
      refine by_inv2 cn_2 lk_0_89 (by rw [xe_cnt]; decide) is_38 np_38 cn_38 (by first | exact rfl | assumption) (Nat.le_of_ble_eq_true rfl) ?_
      refine sp_zeros hP (by omega) (by omega) hJ (by omega) hF hI (by omega) (by omega) (fun h1 G1 c1 n1 F1 I1 e1 v1 => ?_)
      replace u4 := nG_up u4 e1
      replace u5 := nG_up u5 e1
      replace v := nG_up v e1
      replace E := cE_tr E e1
      with_reducible refine xm_go_blk b_X0_barrel_74 k_X0_barrel_74 ?_
      refine by_istore (by rw [ml_2]; decide) ?_
      refine by_iload rfl ?_
      refine by_iload_n rfl ?_
      refine by_ic_ge 120 rfl ?_
      simp (disch := first | exact Nat.ne_of_beq_eq_false rfl | exact rfl | omega) only [nI_add, xa_sub, xa_mul, pk_div, nm_mod, xa_shr, xa_and7, xa_and1, xa_and255, xa_by_and, nI_m1, Nat.add_sub_cancel, Nat.reducePow, Nat.zero_add, Nat.add_zero, Nat.reduceAdd, Nat.reduceMul, Nat.reduceSub, xf_same, xq_ff, xq_fo, xf_1, xf_2, xs_1, xs_2, xs_same, xq_so, xj_1, xj_2, xj_same, xq_jo, xq_sa1, xq_same, xq_other, upd_s, oI_n, oI_s, xv_0, xv_1, xv_2, xv_3, xm_p1, xm_p2, xq_fp, xq_fn, List.filter_nil, Nat.reduceBEq, Bool.not_true, Bool.not_false, Bool.and_true, Bool.and_false, Bool.false_and, Bool.true_and, if_true, if_false, Bool.false_eq_true, reduceIte, xc_i, xc_j, xc_r, xc_n, List.nil_append, List.cons_append, Option.toList_some, Option.toList_none, nI_ltJ, nI_leJ, nI_eqJ, nI_ltz, nI_gez, nI_gtz, nI_lez, nI_eqz, m1_ltz, m1_gez, true_imp_iff, false_imp_iff, true_and, and_true, ne_eq, not_false_eq_true, not_true_eq_false, Nat.reduceEqDiff, Nat.reduceLT, Nat.reduceLeDiff]
      refine ⟨fun c74 => ?_, fun c => absurd (by omega) c⟩
      with_reducible refine xm_go_blk b_X0_barrel_120 k_X0_barrel_120 ?_
      refine by_iload rfl ?_
      refine by_iload_n rfl ?_
      refine by_ic_lt 132 rfl ?_
      simp (disch := first | exact Nat.ne_of_beq_eq_false rfl | exact rfl | omega) only [nI_add, xa_sub, xa_mul, pk_div, nm_mod, xa_shr, xa_and7, xa_and1, xa_and255, xa_by_and, nI_m1, Nat.add_sub_cancel, Nat.reducePow, Nat.zero_add, Nat.add_zero, Nat.reduceAdd, Nat.reduceMul, Nat.reduceSub, xf_same, xq_ff, xq_fo, xf_1, xf_2, xs_1, xs_2, xs_same, xq_so, xj_1, xj_2, xj_same, xq_jo, xq_sa1, xq_same, xq_other, upd_s, oI_n, oI_s, xv_0, xv_1, xv_2, xv_3, xm_p1, xm_p2, xq_fp, xq_fn, List.filter_nil, Nat.reduceBEq, Bool.not_true, Bool.not_false, Bool.and_true, Bool.and_false, Bool.false_and, Bool.true_and, if_true, if_false, Bool.false_eq_true, reduceIte, xc_i, xc_j, xc_r, xc_n, List.nil_append, List.cons_append, Option.toList_some, Option.toList_none, nI_ltJ, nI_leJ, nI_eqJ, nI_ltz, nI_gez, nI_gtz, nI_lez, nI_eqz, m1_ltz, m1_gez, true_imp_iff, false_imp_iff, true_and, and_true, ne_eq, not_false_eq_true, not_true_eq_false, Nat.reduceEqDiff, Nat.reduceLT, Nat.reduceLeDiff]
      refine ⟨fun c => absurd c (by omega), fun c120 => ?_⟩
      with_reducible refine xm_go_blk b_X0_barrel_126 k_X0_barrel_126 ?_
      refine by_iload_n rfl ?_
      refine by_bipush cb_34 ?_
      refine by_ic_ge 192 rfl ?_
      simp (disch := first | exact Nat.ne_of_beq_eq_false rfl | exact rfl | omega) only [nI_add, xa_sub, xa_mul, pk_div, nm_mod, xa_shr, xa_and7, xa_and1, xa_and255, xa_by_and, nI_m1, Nat.add_sub_cancel, Nat.reducePow, Nat.zero_add, Nat.add_zero, Nat.reduceAdd, Nat.reduceMul, Nat.reduceSub, xf_same, xq_ff, xq_fo, xf_1, xf_2, xs_1, xs_2, xs_same, xq_so, xj_1, xj_2, xj_same, xq_jo, xq_sa1, xq_same, xq_other, upd_s, oI_n, oI_s, xv_0, xv_1, xv_2, xv_3, xm_p1, xm_p2, xq_fp, xq_fn, List.filter_nil, Nat.reduceBEq, Bool.not_true, Bool.not_false, Bool.and_true, Bool.and_false, Bool.false_and, Bool.true_and, if_true, if_false, Bool.false_eq_true, reduceIte, xc_i, xc_j, xc_r, xc_n, List.nil_append, List.cons_append, Option.toList_some, Option.toList_none, nI_ltJ, nI_leJ, nI_eqJ, nI_ltz, nI_gez, nI_gtz, nI_lez, nI_eqz, m1_ltz, m1_gez, true_imp_iff, false_imp_iff, true_and, and_true, ne_eq, not_false_eq_true, not_true_eq_false, Nat.reduceEqDiff, Nat.reduceLT, Nat.reduceLeDiff]
      with_reducible refine xm_go_blk b_X0_barrel_192 k_X0_barrel_192 ?_
      refine by_iinc (by rw [ml_2]; decide) rfl ci_1 ?_
      refine by_goto 61 rfl ?_
      try simp (disch := first | exact Nat.ne_of_beq_eq_false rfl | exact rfl | omega) only [nI_add, xa_sub, xa_mul, pk_div, nm_mod, xa_shr, xa_and7, xa_and1, xa_and255, xa_by_and, nI_m1, Nat.add_sub_cancel, Nat.reducePow, Nat.zero_add, Nat.add_zero, Nat.reduceAdd, Nat.reduceMul, Nat.reduceSub, xf_same, xq_ff, xq_fo, xf_1, xf_2, xs_1, xs_2, xs_same, xq_so, xj_1, xj_2, xj_same, xq_jo, xq_sa1, xq_same, xq_other, upd_s, oI_n, oI_s, xv_0, xv_1, xv_2, xv_3, xm_p1, xm_p2, xq_fp, xq_fn, List.filter_nil, Nat.reduceBEq, Bool.not_true, Bool.not_false, Bool.and_true, Bool.and_false, Bool.false_and, Bool.true_and, if_true, if_false, Bool.false_eq_true, reduceIte, xc_i, xc_j, xc_r, xc_n, List.nil_append, List.cons_append, Option.toList_some, Option.toList_none]
      refine xm_go_wk (by simp [Value.category]) (ih (j + 1) _ (m + 1) _ _ _ _ h1 G1 (by omega) F1 (cI_mono I1 (by omega) (by omega)) (by omega) u4 u5 (nG_cg v rfl rfl (fun _ _ => rfl) (by rw [hq]; exact qle_rf _)) ?_ (fun F hF' h' G' c' n' k1 k2 k3 k4 => hp F hF' h' G' c' n' k1 (cI_mono k2 (by omega) hm) (cE_tr E k3) k4))
      intro b x hb hx
      rw [hs b x hb hx]
      congr 1
      exact (if_neg (by simp; omega)).symm
end CD
